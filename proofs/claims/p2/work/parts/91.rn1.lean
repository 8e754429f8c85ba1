set_option maxHeartbeats 4000000 in
set_option maxRecDepth 100000 in
theorem r_pattern {ws0 : List Cond} {tb : String → gz_T} (hws : ∀ w ∈ gr_ws, w ∈ ws0) (htb : tb RX13 = gr_T) (ext : gz_Sh) (I : gr_I) (J : gr_J) (hI : gr_Inv I)   (x0 : I 0 71 = 5 ∨ I 0 73 ≤ I 0 69) (x1 : I 0 72 ≤ I 0 69) (x2 : I 0 71 = 0 ∨ (I 0 72 < I 0 73 ∧ I 0 72 < I 0 69)) (x3 : I 0 71 = 3 → 2 ≤ I 0 73 - I 0 72 ∧ I 0 73 - I 0 72 ≤ 14) (x4 : I 0 72 ≤ I 0 73) (x5 : 0 ≤ I 0 6) (x6 : I 0 59 + I 0 69 - I 0 72 ≤ 1900) (x7 : I 0 42 + I 0 69 - I 0 72 ≤ 1900) : ∃ r h', gz_Ev ws0 tb 12 (yX13_pattern, cX13_pattern, 8, (some .boolean)) [.inr (.inr (some 0))] (gr_sh ++ ext) (gr_h I J) r (gr_sh ++ ext) h' 0 0 ∧ (∃ (I' : gr_I) (J' : gr_J), h' = gr_h I' J' ∧ gr_Inv I' ∧ gr_fr [42, 59, 71, 72, 73, 74, 75, 76, 77, 106] [17, 23, 31, 32, 33, 34, 35, 51, 57, 64, 65, 66] I I' ∧ gr_fj [42, 59, 71, 72, 73, 74, 75, 76, 77, 106] [17, 23, 31, 32, 33, 34, 35, 51, 57, 64, 65, 66] J J' ∧ (∃ z : Int, r = some (.inl z) ∧ 0 ≤ z ∧ z ≤ 1 ∧ (I' 0 71 = 5 ∨ I' 0 73 ≤ I' 0 69) ∧ (I' 0 72 ≤ I' 0 69) ∧ (I' 0 71 = 0 ∨ (I' 0 72 < I' 0 73 ∧ I' 0 72 < I' 0 69)) ∧ (I' 0 71 = 3 → 2 ≤ I' 0 73 - I' 0 72 ∧ I' 0 73 - I' 0 72 ≤ 14) ∧ (I' 0 72 ≤ I' 0 73) ∧ (I' 0 69 = I 0 69) ∧ (I 0 73 ≤ I' 0 73) ∧ (I 0 72 ≤ I' 0 72) ∧ (I' 0 59 - I' 0 72 ≤ I 0 59 - I 0 72) ∧ (I' 0 42 - I' 0 72 ≤ I 0 42 - I 0 72))) := by
  have FI : gr_fr [42, 59, 71, 72, 73, 74, 75, 76, 77, 106] [17, 23, 31, 32, 33, 34, 35, 51, 57, 64, 65, 66] I I := fun _ _ _ => rfl
  have FJ : gr_fj [42, 59, 71, 72, 73, 74, 75, 76, 77, 106] [17, 23, 31, 32, 33, 34, 35, 51, 57, 64, 65, 66] J J := fun _ _ _ => rfl
  have hD : gv_D (gr_E ws0 tb 11 (yX13_pattern, cX13_pattern, 8, (some .boolean)) kX13_pattern) := gq_ok oX13_pattern
  refine gr_ev (d := 11) (l := kX13_pattern) (Po := fun r h' => (∃ (I' : gr_I) (J' : gr_J), h' = gr_h I' J' ∧ gr_Inv I' ∧ gr_fr [42, 59, 71, 72, 73, 74, 75, 76, 77, 106] [17, 23, 31, 32, 33, 34, 35, 51, 57, 64, 65, 66] I I' ∧ gr_fj [42, 59, 71, 72, 73, 74, 75, 76, 77, 106] [17, 23, 31, 32, 33, 34, 35, 51, 57, 64, 65, 66] J J' ∧ (∃ z : Int, r = some (.inl z) ∧ 0 ≤ z ∧ z ≤ 1 ∧ (I' 0 71 = 5 ∨ I' 0 73 ≤ I' 0 69) ∧ (I' 0 72 ≤ I' 0 69) ∧ (I' 0 71 = 0 ∨ (I' 0 72 < I' 0 73 ∧ I' 0 72 < I' 0 69)) ∧ (I' 0 71 = 3 → 2 ≤ I' 0 73 - I' 0 72 ∧ I' 0 73 - I' 0 72 ≤ 14) ∧ (I' 0 72 ≤ I' 0 73) ∧ (I' 0 69 = I 0 69) ∧ (I 0 73 ≤ I' 0 73) ∧ (I 0 72 ≤ I' 0 72) ∧ (I' 0 59 - I' 0 72 ≤ I 0 59 - I 0 72) ∧ (I' 0 42 - I' 0 72 ≤ I 0 42 - I 0 72)))) htb rfl (Nat.le_of_ble_eq_true rfl) ?_
  have f1 := (show 0 ≤ I 0 71 ∧ I 0 71 ≤ 5 from (hI 0 71).1)
  have f2 := (show 0 ≤ I 0 72 ∧ I 0 72 ≤ 1000 from (hI 0 72).1)
  have f3 := (show 0 ≤ I 0 73 ∧ I 0 73 ≤ 1001 from (hI 0 73).1)
  have f4 := (show 0 ≤ I 0 69 ∧ I 0 69 ≤ 1000 from (hI 0 69).1)
  have f5 := (show (-1) ≤ I 0 6 ∧ I 0 6 ≤ 7 from (hI 0 6).1)
  have f6 := (show 0 ≤ I 0 59 ∧ I 0 59 ≤ 2000 from (hI 0 59).1)
  have f7 := (show 0 ≤ I 0 42 ∧ I 0 42 ≤ 2000 from (hI 0 42).1)
  have L14 : ∀ (I8 : gr_I) (J9 : gr_J) (v1_10 : Int), gr_Inv I8 → gr_fr [42, 59, 71, 72, 73, 74, 75, 76, 77, 106] [17, 23, 31, 32, 33, 34, 35, 51, 57, 64, 65, 66] I I8 → gr_fj [42, 59, 71, 72, 73, 74, 75, 76, 77, 106] [17, 23, 31, 32, 33, 34, 35, 51, 57, 64, 65, 66] J J9 → ((0 ≤ v1_10 ∧ v1_10 ≤ 7) ∧ (I8 0 71 = 1) ∧ (I8 0 71 = 5 ∨ I8 0 73 ≤ I8 0 69) ∧ (I8 0 72 ≤ I8 0 69) ∧ (I8 0 71 = 0 ∨ (I8 0 72 < I8 0 73 ∧ I8 0 72 < I8 0 69)) ∧ (I8 0 71 = 3 → 2 ≤ I8 0 73 - I8 0 72 ∧ I8 0 73 - I8 0 72 ≤ 14) ∧ (I8 0 72 ≤ I8 0 73) ∧ (I8 0 69 = I 0 69) ∧ (I 0 73 ≤ I8 0 73) ∧ (I 0 72 ≤ I8 0 72) ∧ (I8 0 6 = I 0 6) ∧ (I8 0 59 - I8 0 72 ≤ I 0 59 - I 0 72) ∧ (I8 0 42 - I8 0 72 ≤ I 0 42 - I 0 72)) → gv_X (gr_E ws0 tb 11 (yX13_pattern, cX13_pattern, 8, (some .boolean)) kX13_pattern) (gv_Q cX13_pattern (some .boolean) (gr_sh ++ ext) (fun r h' => (∃ (I' : gr_I) (J' : gr_J), h' = gr_h I' J' ∧ gr_Inv I' ∧ gr_fr [42, 59, 71, 72, 73, 74, 75, 76, 77, 106] [17, 23, 31, 32, 33, 34, 35, 51, 57, 64, 65, 66] I I' ∧ gr_fj [42, 59, 71, 72, 73, 74, 75, 76, 77, 106] [17, 23, 31, 32, 33, 34, 35, 51, 57, 64, 65, 66] J J' ∧ (∃ z : Int, r = some (.inl z) ∧ 0 ≤ z ∧ z ≤ 1 ∧ (I' 0 71 = 5 ∨ I' 0 73 ≤ I' 0 69) ∧ (I' 0 72 ≤ I' 0 69) ∧ (I' 0 71 = 0 ∨ (I' 0 72 < I' 0 73 ∧ I' 0 72 < I' 0 69)) ∧ (I' 0 71 = 3 → 2 ≤ I' 0 73 - I' 0 72 ∧ I' 0 73 - I' 0 72 ≤ 14) ∧ (I' 0 72 ≤ I' 0 73) ∧ (I' 0 69 = I 0 69) ∧ (I 0 73 ≤ I' 0 73) ∧ (I 0 72 ≤ I' 0 72) ∧ (I' 0 59 - I' 0 72 ≤ I 0 59 - I 0 72) ∧ (I' 0 42 - I' 0 72 ≤ I 0 42 - I 0 72))))) (14, [(0, .inr (.inr (some 0))), (1, .inl v1_10)], [], gr_sh ++ ext, gr_h I8 J9) := by
    intro I8 J9 v1_10 hI8 FI8 FJ9 m_10
    obtain ⟨hv1_10, e0_10, e1_10, e2_10, e3_10, e4_10, e5_10, e6_10, e7_10, e8_10, e9_10, e10_10, e11_10⟩ := m_10
    have f11 := (show 0 ≤ I8 0 71 ∧ I8 0 71 ≤ 5 from (hI8 0 71).1)
    have f12 := (show 0 ≤ I8 0 72 ∧ I8 0 72 ≤ 1000 from (hI8 0 72).1)
    have f13 := (show 0 ≤ I8 0 73 ∧ I8 0 73 ≤ 1001 from (hI8 0 73).1)
    have f14 := (show 0 ≤ I8 0 69 ∧ I8 0 69 ≤ 1000 from (hI8 0 69).1)
    have f15 := (show (-1) ≤ I8 0 6 ∧ I8 0 6 ≤ 7 from (hI8 0 6).1)
    have f16 := (show 0 ≤ I8 0 59 ∧ I8 0 59 ≤ 2000 from (hI8 0 59).1)
    have f17 := (show 0 ≤ I8 0 42 ∧ I8 0 42 ≤ 2000 from (hI8 0 42).1)
    have L207 : ∀ (I18 : gr_I) (J19 : gr_J) (v2_20 : Int64) (v4_20 : Int), gr_Inv I18 → gr_fr [42, 59, 71, 72, 73, 74, 75, 76, 77, 106] [17, 23, 31, 32, 33, 34, 35, 51, 57, 64, 65, 66] I I18 → gr_fj [42, 59, 71, 72, 73, 74, 75, 76, 77, 106] [17, 23, 31, 32, 33, 34, 35, 51, 57, 64, 65, 66] J J19 → ((0 ≤ v1_10 ∧ v1_10 ≤ 7) ∧ (0 ≤ v4_20 ∧ v4_20 ≤ 24) ∧ (v4_20 ≤ 24) ∧ (I18 0 71 = 5 ∨ I18 0 73 ≤ I18 0 69) ∧ (I18 0 72 ≤ I18 0 69) ∧ (I18 0 71 = 0 ∨ (I18 0 72 < I18 0 73 ∧ I18 0 72 < I18 0 69)) ∧ (I18 0 71 = 3 → 2 ≤ I18 0 73 - I18 0 72 ∧ I18 0 73 - I18 0 72 ≤ 14) ∧ (I18 0 72 ≤ I18 0 73) ∧ (I18 0 69 = I 0 69) ∧ (I 0 73 ≤ I18 0 73) ∧ (I 0 72 ≤ I18 0 72) ∧ (I18 0 6 = I 0 6) ∧ (I18 0 59 - I18 0 72 ≤ I 0 59 - I 0 72) ∧ (I18 0 42 - I18 0 72 ≤ I 0 42 - I 0 72)) → gv_X (gr_E ws0 tb 11 (yX13_pattern, cX13_pattern, 8, (some .boolean)) kX13_pattern) (gv_Q cX13_pattern (some .boolean) (gr_sh ++ ext) (fun r h' => (∃ (I' : gr_I) (J' : gr_J), h' = gr_h I' J' ∧ gr_Inv I' ∧ gr_fr [42, 59, 71, 72, 73, 74, 75, 76, 77, 106] [17, 23, 31, 32, 33, 34, 35, 51, 57, 64, 65, 66] I I' ∧ gr_fj [42, 59, 71, 72, 73, 74, 75, 76, 77, 106] [17, 23, 31, 32, 33, 34, 35, 51, 57, 64, 65, 66] J J' ∧ (∃ z : Int, r = some (.inl z) ∧ 0 ≤ z ∧ z ≤ 1 ∧ (I' 0 71 = 5 ∨ I' 0 73 ≤ I' 0 69) ∧ (I' 0 72 ≤ I' 0 69) ∧ (I' 0 71 = 0 ∨ (I' 0 72 < I' 0 73 ∧ I' 0 72 < I' 0 69)) ∧ (I' 0 71 = 3 → 2 ≤ I' 0 73 - I' 0 72 ∧ I' 0 73 - I' 0 72 ≤ 14) ∧ (I' 0 72 ≤ I' 0 73) ∧ (I' 0 69 = I 0 69) ∧ (I 0 73 ≤ I' 0 73) ∧ (I 0 72 ≤ I' 0 72) ∧ (I' 0 59 - I' 0 72 ≤ I 0 59 - I 0 72) ∧ (I' 0 42 - I' 0 72 ≤ I 0 42 - I 0 72))))) (207, [(0, .inr (.inr (some 0))), (1, .inl v1_10), (2, .inr (.inl v2_20)), (4, .inl v4_20)], [], gr_sh ++ ext, gr_h I18 J19) := by
      intro I18 J19 v2_20 v4_20 hI18 FI18 FJ19 m_20
      clear hv1_10 e0_10 e1_10 e2_10 e3_10 e4_10 e5_10 e6_10 e7_10 e8_10 e9_10 e10_10 e11_10 f11 f12 f13 f14 f15 f16 f17
      obtain ⟨hv1_10_20, hv4_20, e0_20, e1_20, e2_20, e3_20, e4_20, e5_20, e6_20, e7_20, e8_20, e9_20, e10_20, e11_20⟩ := m_20
      have f21 := (show 0 ≤ I18 0 71 ∧ I18 0 71 ≤ 5 from (hI18 0 71).1)
      have f22 := (show 0 ≤ I18 0 72 ∧ I18 0 72 ≤ 1000 from (hI18 0 72).1)
      have f23 := (show 0 ≤ I18 0 73 ∧ I18 0 73 ≤ 1001 from (hI18 0 73).1)
      have f24 := (show 0 ≤ I18 0 69 ∧ I18 0 69 ≤ 1000 from (hI18 0 69).1)
      have f25 := (show (-1) ≤ I18 0 6 ∧ I18 0 6 ≤ 7 from (hI18 0 6).1)
      have f26 := (show 0 ≤ I18 0 59 ∧ I18 0 59 ≤ 2000 from (hI18 0 59).1)
      have f27 := (show 0 ≤ I18 0 42 ∧ I18 0 42 ≤ 2000 from (hI18 0 42).1)
      have L218 : ∀ (n : Nat) (I28 : gr_I) (J29 : gr_J) (v4_30 : Int), (1001 - I28 0 72).toNat < n → gr_Inv I28 → gr_fr [42, 59, 71, 72, 73, 74, 75, 76, 77, 106] [17, 23, 31, 32, 33, 34, 35, 51, 57, 64, 65, 66] I I28 → gr_fj [42, 59, 71, 72, 73, 74, 75, 76, 77, 106] [17, 23, 31, 32, 33, 34, 35, 51, 57, 64, 65, 66] J J29 → ((0 ≤ v1_10 ∧ v1_10 ≤ 7) ∧ (0 ≤ v4_30 ∧ v4_30 ≤ 358) ∧ (3 * v4_30 ≤ 72 + I28 0 72) ∧ (I28 0 71 = 5 ∨ I28 0 73 ≤ I28 0 69) ∧ (I28 0 72 ≤ I28 0 69) ∧ (I28 0 71 = 0 ∨ (I28 0 72 < I28 0 73 ∧ I28 0 72 < I28 0 69)) ∧ (I28 0 71 = 3 → 2 ≤ I28 0 73 - I28 0 72 ∧ I28 0 73 - I28 0 72 ≤ 14) ∧ (I28 0 72 ≤ I28 0 73) ∧ (I28 0 69 = I 0 69) ∧ (I 0 73 ≤ I28 0 73) ∧ (I 0 72 ≤ I28 0 72) ∧ (I28 0 6 = I 0 6) ∧ (I28 0 59 - I28 0 72 ≤ I 0 59 - I 0 72) ∧ (I28 0 42 - I28 0 72 ≤ I 0 42 - I 0 72)) → gv_X (gr_E ws0 tb 11 (yX13_pattern, cX13_pattern, 8, (some .boolean)) kX13_pattern) (gv_Q cX13_pattern (some .boolean) (gr_sh ++ ext) (fun r h' => (∃ (I' : gr_I) (J' : gr_J), h' = gr_h I' J' ∧ gr_Inv I' ∧ gr_fr [42, 59, 71, 72, 73, 74, 75, 76, 77, 106] [17, 23, 31, 32, 33, 34, 35, 51, 57, 64, 65, 66] I I' ∧ gr_fj [42, 59, 71, 72, 73, 74, 75, 76, 77, 106] [17, 23, 31, 32, 33, 34, 35, 51, 57, 64, 65, 66] J J' ∧ (∃ z : Int, r = some (.inl z) ∧ 0 ≤ z ∧ z ≤ 1 ∧ (I' 0 71 = 5 ∨ I' 0 73 ≤ I' 0 69) ∧ (I' 0 72 ≤ I' 0 69) ∧ (I' 0 71 = 0 ∨ (I' 0 72 < I' 0 73 ∧ I' 0 72 < I' 0 69)) ∧ (I' 0 71 = 3 → 2 ≤ I' 0 73 - I' 0 72 ∧ I' 0 73 - I' 0 72 ≤ 14) ∧ (I' 0 72 ≤ I' 0 73) ∧ (I' 0 69 = I 0 69) ∧ (I 0 73 ≤ I' 0 73) ∧ (I 0 72 ≤ I' 0 72) ∧ (I' 0 59 - I' 0 72 ≤ I 0 59 - I 0 72) ∧ (I' 0 42 - I' 0 72 ≤ I 0 42 - I 0 72))))) (218, [(0, .inr (.inr (some 0))), (1, .inl v1_10), (2, .inr (.inl v2_20)), (4, .inl v4_30)], [], gr_sh ++ ext, gr_h I28 J29) := by
        intro n
        induction n with
        | zero => intro I28 J29 v4_30 hn; omega
        | succ n ih218 =>
          intro I28 J29 v4_30 hn hI28 FI28 FJ29 m_30
          clear hv1_10_20 hv4_20 e0_20 e1_20 e2_20 e3_20 e4_20 e5_20 e6_20 e7_20 e8_20 e9_20 e10_20 e11_20 f21 f22 f23 f24 f25 f26 f27
          obtain ⟨hv1_10_30, hv4_30, e0_30, e1_30, e2_30, e3_30, e4_30, e5_30, e6_30, e7_30, e8_30, e9_30, e10_30, e11_30⟩ := m_30
          have f31 := (show 0 ≤ I28 0 71 ∧ I28 0 71 ≤ 5 from (hI28 0 71).1)
          have f32 := (show 0 ≤ I28 0 72 ∧ I28 0 72 ≤ 1000 from (hI28 0 72).1)
          have f33 := (show 0 ≤ I28 0 73 ∧ I28 0 73 ≤ 1001 from (hI28 0 73).1)
          have f34 := (show 0 ≤ I28 0 69 ∧ I28 0 69 ≤ 1000 from (hI28 0 69).1)
          have f35 := (show (-1) ≤ I28 0 6 ∧ I28 0 6 ≤ 7 from (hI28 0 6).1)
          have f36 := (show 0 ≤ I28 0 59 ∧ I28 0 59 ≤ 2000 from (hI28 0 59).1)
          have f37 := (show 0 ≤ I28 0 42 ∧ I28 0 42 ≤ 2000 from (hI28 0 42).1)
          have L223 : ∀ (n : Nat) (I38 : gr_I) (J39 : gr_J) , (1001 - I38 0 72).toNat < n → gr_Inv I38 → gr_fr [42, 59, 71, 72, 73, 74, 75, 76, 77, 106] [17, 23, 31, 32, 33, 34, 35, 51, 57, 64, 65, 66] I I38 → gr_fj [42, 59, 71, 72, 73, 74, 75, 76, 77, 106] [17, 23, 31, 32, 33, 34, 35, 51, 57, 64, 65, 66] J J39 → ((0 ≤ v1_10 ∧ v1_10 ≤ 7) ∧ (0 ≤ v4_30 ∧ v4_30 ≤ 358) ∧ (3 * v4_30 ≤ 72 + I38 0 72) ∧ (I28 0 72 ≤ I38 0 72) ∧ (I38 0 71 = 5 ∨ I38 0 73 ≤ I38 0 69) ∧ (I38 0 72 ≤ I38 0 69) ∧ (I38 0 71 = 0 ∨ (I38 0 72 < I38 0 73 ∧ I38 0 72 < I38 0 69)) ∧ (I38 0 71 = 3 → 2 ≤ I38 0 73 - I38 0 72 ∧ I38 0 73 - I38 0 72 ≤ 14) ∧ (I38 0 72 ≤ I38 0 73) ∧ (I38 0 69 = I 0 69) ∧ (I 0 73 ≤ I38 0 73) ∧ (I 0 72 ≤ I38 0 72) ∧ (I38 0 6 = I 0 6) ∧ (I38 0 59 - I38 0 72 ≤ I 0 59 - I 0 72) ∧ (I38 0 42 - I38 0 72 ≤ I 0 42 - I 0 72)) → gv_X (gr_E ws0 tb 11 (yX13_pattern, cX13_pattern, 8, (some .boolean)) kX13_pattern) (gv_Q cX13_pattern (some .boolean) (gr_sh ++ ext) (fun r h' => (∃ (I' : gr_I) (J' : gr_J), h' = gr_h I' J' ∧ gr_Inv I' ∧ gr_fr [42, 59, 71, 72, 73, 74, 75, 76, 77, 106] [17, 23, 31, 32, 33, 34, 35, 51, 57, 64, 65, 66] I I' ∧ gr_fj [42, 59, 71, 72, 73, 74, 75, 76, 77, 106] [17, 23, 31, 32, 33, 34, 35, 51, 57, 64, 65, 66] J J' ∧ (∃ z : Int, r = some (.inl z) ∧ 0 ≤ z ∧ z ≤ 1 ∧ (I' 0 71 = 5 ∨ I' 0 73 ≤ I' 0 69) ∧ (I' 0 72 ≤ I' 0 69) ∧ (I' 0 71 = 0 ∨ (I' 0 72 < I' 0 73 ∧ I' 0 72 < I' 0 69)) ∧ (I' 0 71 = 3 → 2 ≤ I' 0 73 - I' 0 72 ∧ I' 0 73 - I' 0 72 ≤ 14) ∧ (I' 0 72 ≤ I' 0 73) ∧ (I' 0 69 = I 0 69) ∧ (I 0 73 ≤ I' 0 73) ∧ (I 0 72 ≤ I' 0 72) ∧ (I' 0 59 - I' 0 72 ≤ I 0 59 - I 0 72) ∧ (I' 0 42 - I' 0 72 ≤ I 0 42 - I 0 72))))) (223, [(0, .inr (.inr (some 0))), (1, .inl v1_10), (2, .inr (.inl v2_20)), (4, .inl v4_30)], [], gr_sh ++ ext, gr_h I38 J39) := by
            intro n
            induction n with
            | zero => intro I38 J39 hn; omega
            | succ n ih223 =>
              intro I38 J39 hn hI38 FI38 FJ39 m_40
              clear hv1_10_30 hv4_30 e0_30 e1_30 e2_30 e3_30 e4_30 e5_30 e6_30 e7_30 e8_30 e9_30 e10_30 e11_30 f31 f32 f33 f34 f35 f36 f37
              obtain ⟨hv1_10_40, hv4_30_40, e0_40, e1_40, e2_40, e3_40, e4_40, e5_40, e6_40, e7_40, e8_40, e9_40, e10_40, e11_40, e12_40⟩ := m_40
              have f41 := (show 0 ≤ I38 0 71 ∧ I38 0 71 ≤ 5 from (hI38 0 71).1)
              have f42 := (show 0 ≤ I38 0 72 ∧ I38 0 72 ≤ 1000 from (hI38 0 72).1)
              have f43 := (show 0 ≤ I38 0 73 ∧ I38 0 73 ≤ 1001 from (hI38 0 73).1)
              have f44 := (show 0 ≤ I38 0 69 ∧ I38 0 69 ≤ 1000 from (hI38 0 69).1)
              have f45 := (show (-1) ≤ I38 0 6 ∧ I38 0 6 ≤ 7 from (hI38 0 6).1)
              have f46 := (show 0 ≤ I38 0 59 ∧ I38 0 59 ≤ 2000 from (hI38 0 59).1)
              have f47 := (show 0 ≤ I38 0 42 ∧ I38 0 42 ≤ 2000 from (hI38 0 42).1)
              have L254 : ∀ (n : Nat) (I48 : gr_I) (J49 : gr_J) (v5_50 : Int), (358 - v5_50).toNat < n → gr_Inv I48 → gr_fr [42, 59, 71, 72, 73, 74, 75, 76, 77, 106] [17, 23, 31, 32, 33, 34, 35, 51, 57, 64, 65, 66] I I48 → gr_fj [42, 59, 71, 72, 73, 74, 75, 76, 77, 106] [17, 23, 31, 32, 33, 34, 35, 51, 57, 64, 65, 66] J J49 → ((0 ≤ v1_10 ∧ v1_10 ≤ 7) ∧ (0 ≤ v4_30 ∧ v4_30 ≤ 357) ∧ (0 ≤ v5_50 ∧ v5_50 ≤ 357) ∧ (3 * v4_30 ≤ 71 + I48 0 72) ∧ (v5_50 ≤ v4_30) ∧ (I28 0 72 ≤ I48 0 72) ∧ (I48 0 71 = 5 ∨ I48 0 73 ≤ I48 0 69) ∧ (I48 0 72 ≤ I48 0 69) ∧ (I48 0 71 = 0 ∨ (I48 0 72 < I48 0 73 ∧ I48 0 72 < I48 0 69)) ∧ (I48 0 71 = 3 → 2 ≤ I48 0 73 - I48 0 72 ∧ I48 0 73 - I48 0 72 ≤ 14) ∧ (I48 0 72 ≤ I48 0 73) ∧ (I48 0 69 = I 0 69) ∧ (I 0 73 ≤ I48 0 73) ∧ (I 0 72 ≤ I48 0 72) ∧ (I48 0 6 = I 0 6) ∧ (I48 0 59 - I48 0 72 ≤ I 0 59 - I 0 72) ∧ (I48 0 42 - I48 0 72 ≤ I 0 42 - I 0 72)) → gv_X (gr_E ws0 tb 11 (yX13_pattern, cX13_pattern, 8, (some .boolean)) kX13_pattern) (gv_Q cX13_pattern (some .boolean) (gr_sh ++ ext) (fun r h' => (∃ (I' : gr_I) (J' : gr_J), h' = gr_h I' J' ∧ gr_Inv I' ∧ gr_fr [42, 59, 71, 72, 73, 74, 75, 76, 77, 106] [17, 23, 31, 32, 33, 34, 35, 51, 57, 64, 65, 66] I I' ∧ gr_fj [42, 59, 71, 72, 73, 74, 75, 76, 77, 106] [17, 23, 31, 32, 33, 34, 35, 51, 57, 64, 65, 66] J J' ∧ (∃ z : Int, r = some (.inl z) ∧ 0 ≤ z ∧ z ≤ 1 ∧ (I' 0 71 = 5 ∨ I' 0 73 ≤ I' 0 69) ∧ (I' 0 72 ≤ I' 0 69) ∧ (I' 0 71 = 0 ∨ (I' 0 72 < I' 0 73 ∧ I' 0 72 < I' 0 69)) ∧ (I' 0 71 = 3 → 2 ≤ I' 0 73 - I' 0 72 ∧ I' 0 73 - I' 0 72 ≤ 14) ∧ (I' 0 72 ≤ I' 0 73) ∧ (I' 0 69 = I 0 69) ∧ (I 0 73 ≤ I' 0 73) ∧ (I 0 72 ≤ I' 0 72) ∧ (I' 0 59 - I' 0 72 ≤ I 0 59 - I 0 72) ∧ (I' 0 42 - I' 0 72 ≤ I 0 42 - I 0 72))))) (254, [(0, .inr (.inr (some 0))), (1, .inl v1_10), (2, .inr (.inl v2_20)), (4, .inl v4_30), (5, .inl v5_50)], [], gr_sh ++ ext, gr_h I48 J49) := by
                intro n
                induction n with
                | zero => intro I48 J49 v5_50 hn; omega
                | succ n ih254 =>
                  intro I48 J49 v5_50 hn hI48 FI48 FJ49 m_50
                  clear hv1_10_40 hv4_30_40 e0_40 e1_40 e2_40 e3_40 e4_40 e5_40 e6_40 e7_40 e8_40 e9_40 e10_40 e11_40 e12_40 f41 f42 f43 f44 f45 f46 f47
                  obtain ⟨hv1_10_50, hv4_30_50, hv5_50, e0_50, e1_50, e2_50, e3_50, e4_50, e5_50, e6_50, e7_50, e8_50, e9_50, e10_50, e11_50, e12_50, e13_50⟩ := m_50
                  have f51 := (show 0 ≤ I48 0 71 ∧ I48 0 71 ≤ 5 from (hI48 0 71).1)
                  have f52 := (show 0 ≤ I48 0 72 ∧ I48 0 72 ≤ 1000 from (hI48 0 72).1)
                  have f53 := (show 0 ≤ I48 0 73 ∧ I48 0 73 ≤ 1001 from (hI48 0 73).1)
                  have f54 := (show 0 ≤ I48 0 69 ∧ I48 0 69 ≤ 1000 from (hI48 0 69).1)
                  have f55 := (show (-1) ≤ I48 0 6 ∧ I48 0 6 ≤ 7 from (hI48 0 6).1)
                  have f56 := (show 0 ≤ I48 0 59 ∧ I48 0 59 ≤ 2000 from (hI48 0 59).1)
                  have f57 := (show 0 ≤ I48 0 42 ∧ I48 0 42 ≤ 2000 from (hI48 0 42).1)
                  have L281 : ((0 ≤ v1_10 ∧ v1_10 ≤ 7) ∧ (0 ≤ v4_30 ∧ v4_30 ≤ 357) ∧ (0 ≤ v5_50 ∧ v5_50 ≤ 357) ∧ (3 * v4_30 ≤ 71 + I48 0 72) ∧ (v5_50 ≤ v4_30) ∧ (I28 0 72 ≤ I48 0 72) ∧ (I48 0 71 = 5 ∨ I48 0 73 ≤ I48 0 69) ∧ (I48 0 72 ≤ I48 0 69) ∧ (I48 0 71 = 0 ∨ (I48 0 72 < I48 0 73 ∧ I48 0 72 < I48 0 69)) ∧ (I48 0 71 = 3 → 2 ≤ I48 0 73 - I48 0 72 ∧ I48 0 73 - I48 0 72 ≤ 14) ∧ (I48 0 72 ≤ I48 0 73) ∧ (I48 0 69 = I 0 69) ∧ (I 0 73 ≤ I48 0 73) ∧ (I 0 72 ≤ I48 0 72) ∧ (I48 0 6 = I 0 6) ∧ (I48 0 59 - I48 0 72 ≤ I 0 59 - I 0 72) ∧ (I48 0 42 - I48 0 72 ≤ I 0 42 - I 0 72)) → gv_X (gr_E ws0 tb 11 (yX13_pattern, cX13_pattern, 8, (some .boolean)) kX13_pattern) (gv_Q cX13_pattern (some .boolean) (gr_sh ++ ext) (fun r h' => (∃ (I' : gr_I) (J' : gr_J), h' = gr_h I' J' ∧ gr_Inv I' ∧ gr_fr [42, 59, 71, 72, 73, 74, 75, 76, 77, 106] [17, 23, 31, 32, 33, 34, 35, 51, 57, 64, 65, 66] I I' ∧ gr_fj [42, 59, 71, 72, 73, 74, 75, 76, 77, 106] [17, 23, 31, 32, 33, 34, 35, 51, 57, 64, 65, 66] J J' ∧ (∃ z : Int, r = some (.inl z) ∧ 0 ≤ z ∧ z ≤ 1 ∧ (I' 0 71 = 5 ∨ I' 0 73 ≤ I' 0 69) ∧ (I' 0 72 ≤ I' 0 69) ∧ (I' 0 71 = 0 ∨ (I' 0 72 < I' 0 73 ∧ I' 0 72 < I' 0 69)) ∧ (I' 0 71 = 3 → 2 ≤ I' 0 73 - I' 0 72 ∧ I' 0 73 - I' 0 72 ≤ 14) ∧ (I' 0 72 ≤ I' 0 73) ∧ (I' 0 69 = I 0 69) ∧ (I 0 73 ≤ I' 0 73) ∧ (I 0 72 ≤ I' 0 72) ∧ (I' 0 59 - I' 0 72 ≤ I 0 59 - I 0 72) ∧ (I' 0 42 - I' 0 72 ≤ I 0 42 - I 0 72))))) (281, [(0, .inr (.inr (some 0))), (1, .inl v1_10), (2, .inr (.inl v2_20)), (4, .inl v4_30), (5, .inl v5_50)], [], gr_sh ++ ext, gr_h I48 J49) := by
                    intro m_58
                    clear hv1_10_50 hv4_30_50 hv5_50 e0_50 e1_50 e2_50 e3_50 e4_50 e5_50 e6_50 e7_50 e8_50 e9_50 e10_50 e11_50 e12_50 e13_50 f51 f52 f53 f54 f55 f56 f57
                    obtain ⟨hv1_10_58, hv4_30_58, hv5_50_58, e0_58, e1_58, e2_58, e3_58, e4_58, e5_58, e6_58, e7_58, e8_58, e9_58, e10_58, e11_58, e12_58, e13_58⟩ := m_58
                    have f59 := (show 0 ≤ I48 0 71 ∧ I48 0 71 ≤ 5 from (hI48 0 71).1)
                    have f60 := (show 0 ≤ I48 0 72 ∧ I48 0 72 ≤ 1000 from (hI48 0 72).1)
                    have f61 := (show 0 ≤ I48 0 73 ∧ I48 0 73 ≤ 1001 from (hI48 0 73).1)
                    have f62 := (show 0 ≤ I48 0 69 ∧ I48 0 69 ≤ 1000 from (hI48 0 69).1)
                    have f63 := (show (-1) ≤ I48 0 6 ∧ I48 0 6 ≤ 7 from (hI48 0 6).1)
                    have f64 := (show 0 ≤ I48 0 59 ∧ I48 0 59 ≤ 2000 from (hI48 0 59).1)
                    have f65 := (show 0 ≤ I48 0 42 ∧ I48 0 42 ≤ 2000 from (hI48 0 42).1)
                    have L291 : ∀ (v4_66 : Int), ((0 ≤ v1_10 ∧ v1_10 ≤ 7) ∧ (0 ≤ v4_66 ∧ v4_66 ≤ 358) ∧ (0 ≤ v5_50 ∧ v5_50 ≤ 357) ∧ (3 * v4_66 ≤ 74 + I48 0 72) ∧ (v5_50 < v4_66) ∧ (I28 0 72 ≤ I48 0 72) ∧ (I48 0 71 = 5 ∨ I48 0 73 ≤ I48 0 69) ∧ (I48 0 72 ≤ I48 0 69) ∧ (I48 0 71 = 0 ∨ (I48 0 72 < I48 0 73 ∧ I48 0 72 < I48 0 69)) ∧ (I48 0 71 = 3 → 2 ≤ I48 0 73 - I48 0 72 ∧ I48 0 73 - I48 0 72 ≤ 14) ∧ (I48 0 72 ≤ I48 0 73) ∧ (I48 0 69 = I 0 69) ∧ (I 0 73 ≤ I48 0 73) ∧ (I 0 72 ≤ I48 0 72) ∧ (I48 0 6 = I 0 6) ∧ (I48 0 59 - I48 0 72 ≤ I 0 59 - I 0 72) ∧ (I48 0 42 - I48 0 72 ≤ I 0 42 - I 0 72)) → gv_X (gr_E ws0 tb 11 (yX13_pattern, cX13_pattern, 8, (some .boolean)) kX13_pattern) (gv_Q cX13_pattern (some .boolean) (gr_sh ++ ext) (fun r h' => (∃ (I' : gr_I) (J' : gr_J), h' = gr_h I' J' ∧ gr_Inv I' ∧ gr_fr [42, 59, 71, 72, 73, 74, 75, 76, 77, 106] [17, 23, 31, 32, 33, 34, 35, 51, 57, 64, 65, 66] I I' ∧ gr_fj [42, 59, 71, 72, 73, 74, 75, 76, 77, 106] [17, 23, 31, 32, 33, 34, 35, 51, 57, 64, 65, 66] J J' ∧ (∃ z : Int, r = some (.inl z) ∧ 0 ≤ z ∧ z ≤ 1 ∧ (I' 0 71 = 5 ∨ I' 0 73 ≤ I' 0 69) ∧ (I' 0 72 ≤ I' 0 69) ∧ (I' 0 71 = 0 ∨ (I' 0 72 < I' 0 73 ∧ I' 0 72 < I' 0 69)) ∧ (I' 0 71 = 3 → 2 ≤ I' 0 73 - I' 0 72 ∧ I' 0 73 - I' 0 72 ≤ 14) ∧ (I' 0 72 ≤ I' 0 73) ∧ (I' 0 69 = I 0 69) ∧ (I 0 73 ≤ I' 0 73) ∧ (I 0 72 ≤ I' 0 72) ∧ (I' 0 59 - I' 0 72 ≤ I 0 59 - I 0 72) ∧ (I' 0 42 - I' 0 72 ≤ I 0 42 - I 0 72))))) (291, [(0, .inr (.inr (some 0))), (1, .inl v1_10), (2, .inr (.inl v2_20)), (4, .inl v4_66), (5, .inl v5_50)], [], gr_sh ++ ext, gr_h I48 J49) := by
                      intro v4_66 m_66
                      clear hv1_10_58 hv4_30_58 hv5_50_58 e0_58 e1_58 e2_58 e3_58 e4_58 e5_58 e6_58 e7_58 e8_58 e9_58 e10_58 e11_58 e12_58 e13_58 f59 f60 f61 f62 f63 f64 f65
                      obtain ⟨hv1_10_66, hv4_66, hv5_50_66, e0_66, e1_66, e2_66, e3_66, e4_66, e5_66, e6_66, e7_66, e8_66, e9_66, e10_66, e11_66, e12_66, e13_66⟩ := m_66
                      have f67 := (show 0 ≤ I48 0 71 ∧ I48 0 71 ≤ 5 from (hI48 0 71).1)
                      have f68 := (show 0 ≤ I48 0 72 ∧ I48 0 72 ≤ 1000 from (hI48 0 72).1)
                      have f69 := (show 0 ≤ I48 0 73 ∧ I48 0 73 ≤ 1001 from (hI48 0 73).1)
                      have f70 := (show 0 ≤ I48 0 69 ∧ I48 0 69 ≤ 1000 from (hI48 0 69).1)
                      have f71 := (show (-1) ≤ I48 0 6 ∧ I48 0 6 ≤ 7 from (hI48 0 6).1)
                      have f72 := (show 0 ≤ I48 0 59 ∧ I48 0 59 ≤ 2000 from (hI48 0 59).1)
                      have f73 := (show 0 ≤ I48 0 42 ∧ I48 0 42 ≤ 2000 from (hI48 0 42).1)
                      have L365 : ∀ (I74 : gr_I) (J75 : gr_J) , gr_Inv I74 → gr_fr [42, 59, 71, 72, 73, 74, 75, 76, 77, 106] [17, 23, 31, 32, 33, 34, 35, 51, 57, 64, 65, 66] I I74 → gr_fj [42, 59, 71, 72, 73, 74, 75, 76, 77, 106] [17, 23, 31, 32, 33, 34, 35, 51, 57, 64, 65, 66] J J75 → ((0 ≤ v1_10 ∧ v1_10 ≤ 7) ∧ (0 ≤ v4_66 ∧ v4_66 ≤ 358) ∧ (3 * v4_66 ≤ 73 + I74 0 72) ∧ (I28 0 72 ≤ I74 0 72) ∧ (I74 0 71 = 5 ∨ I74 0 73 ≤ I74 0 69) ∧ (I74 0 72 ≤ I74 0 69) ∧ (I74 0 71 = 0 ∨ (I74 0 72 < I74 0 73 ∧ I74 0 72 < I74 0 69)) ∧ (I74 0 71 = 3 → 2 ≤ I74 0 73 - I74 0 72 ∧ I74 0 73 - I74 0 72 ≤ 14) ∧ (I74 0 72 ≤ I74 0 73) ∧ (I74 0 69 = I 0 69) ∧ (I 0 73 ≤ I74 0 73) ∧ (I 0 72 ≤ I74 0 72) ∧ (I74 0 6 = I 0 6) ∧ (I74 0 59 - I74 0 72 ≤ I 0 59 - I 0 72) ∧ (I74 0 42 - I74 0 72 ≤ I 0 42 - I 0 72)) → gv_X (gr_E ws0 tb 11 (yX13_pattern, cX13_pattern, 8, (some .boolean)) kX13_pattern) (gv_Q cX13_pattern (some .boolean) (gr_sh ++ ext) (fun r h' => (∃ (I' : gr_I) (J' : gr_J), h' = gr_h I' J' ∧ gr_Inv I' ∧ gr_fr [42, 59, 71, 72, 73, 74, 75, 76, 77, 106] [17, 23, 31, 32, 33, 34, 35, 51, 57, 64, 65, 66] I I' ∧ gr_fj [42, 59, 71, 72, 73, 74, 75, 76, 77, 106] [17, 23, 31, 32, 33, 34, 35, 51, 57, 64, 65, 66] J J' ∧ (∃ z : Int, r = some (.inl z) ∧ 0 ≤ z ∧ z ≤ 1 ∧ (I' 0 71 = 5 ∨ I' 0 73 ≤ I' 0 69) ∧ (I' 0 72 ≤ I' 0 69) ∧ (I' 0 71 = 0 ∨ (I' 0 72 < I' 0 73 ∧ I' 0 72 < I' 0 69)) ∧ (I' 0 71 = 3 → 2 ≤ I' 0 73 - I' 0 72 ∧ I' 0 73 - I' 0 72 ≤ 14) ∧ (I' 0 72 ≤ I' 0 73) ∧ (I' 0 69 = I 0 69) ∧ (I 0 73 ≤ I' 0 73) ∧ (I 0 72 ≤ I' 0 72) ∧ (I' 0 59 - I' 0 72 ≤ I 0 59 - I 0 72) ∧ (I' 0 42 - I' 0 72 ≤ I 0 42 - I 0 72))))) (365, [(0, .inr (.inr (some 0))), (1, .inl v1_10), (2, .inr (.inl v2_20)), (4, .inl v4_66)], [], gr_sh ++ ext, gr_h I74 J75) := by
                        intro I74 J75 hI74 FI74 FJ75 m_76
                        clear hv1_10_66 hv4_66 hv5_50_66 e0_66 e1_66 e2_66 e3_66 e4_66 e5_66 e6_66 e7_66 e8_66 e9_66 e10_66 e11_66 e12_66 e13_66 f67 f68 f69 f70 f71 f72 f73
                        obtain ⟨hv1_10_76, hv4_66_76, e0_76, e1_76, e2_76, e3_76, e4_76, e5_76, e6_76, e7_76, e8_76, e9_76, e10_76, e11_76, e12_76⟩ := m_76
                        have f77 := (show 0 ≤ I74 0 71 ∧ I74 0 71 ≤ 5 from (hI74 0 71).1)
                        have f78 := (show 0 ≤ I74 0 72 ∧ I74 0 72 ≤ 1000 from (hI74 0 72).1)
                        have f79 := (show 0 ≤ I74 0 73 ∧ I74 0 73 ≤ 1001 from (hI74 0 73).1)
                        have f80 := (show 0 ≤ I74 0 69 ∧ I74 0 69 ≤ 1000 from (hI74 0 69).1)
                        have f81 := (show (-1) ≤ I74 0 6 ∧ I74 0 6 ≤ 7 from (hI74 0 6).1)
                        have f82 := (show 0 ≤ I74 0 59 ∧ I74 0 59 ≤ 2000 from (hI74 0 59).1)
                        have f83 := (show 0 ≤ I74 0 42 ∧ I74 0 42 ≤ 2000 from (hI74 0 42).1)
                        have L423 : ∀ (I84 : gr_I) (J85 : gr_J) , gr_Inv I84 → gr_fr [42, 59, 71, 72, 73, 74, 75, 76, 77, 106] [17, 23, 31, 32, 33, 34, 35, 51, 57, 64, 65, 66] I I84 → gr_fj [42, 59, 71, 72, 73, 74, 75, 76, 77, 106] [17, 23, 31, 32, 33, 34, 35, 51, 57, 64, 65, 66] J J85 → ((I84 0 71 = 5 ∨ I84 0 73 ≤ I84 0 69) ∧ (I84 0 72 ≤ I84 0 69) ∧ (I84 0 71 = 0 ∨ (I84 0 72 < I84 0 73 ∧ I84 0 72 < I84 0 69)) ∧ (I84 0 71 = 3 → 2 ≤ I84 0 73 - I84 0 72 ∧ I84 0 73 - I84 0 72 ≤ 14) ∧ (I84 0 72 ≤ I84 0 73) ∧ (I84 0 69 = I 0 69) ∧ (I 0 73 ≤ I84 0 73) ∧ (I 0 72 ≤ I84 0 72) ∧ (I84 0 6 = I 0 6) ∧ (I84 0 59 - I84 0 72 ≤ I 0 59 - I 0 72) ∧ (I84 0 42 - I84 0 72 ≤ I 0 42 - I 0 72)) → gv_X (gr_E ws0 tb 11 (yX13_pattern, cX13_pattern, 8, (some .boolean)) kX13_pattern) (gv_Q cX13_pattern (some .boolean) (gr_sh ++ ext) (fun r h' => (∃ (I' : gr_I) (J' : gr_J), h' = gr_h I' J' ∧ gr_Inv I' ∧ gr_fr [42, 59, 71, 72, 73, 74, 75, 76, 77, 106] [17, 23, 31, 32, 33, 34, 35, 51, 57, 64, 65, 66] I I' ∧ gr_fj [42, 59, 71, 72, 73, 74, 75, 76, 77, 106] [17, 23, 31, 32, 33, 34, 35, 51, 57, 64, 65, 66] J J' ∧ (∃ z : Int, r = some (.inl z) ∧ 0 ≤ z ∧ z ≤ 1 ∧ (I' 0 71 = 5 ∨ I' 0 73 ≤ I' 0 69) ∧ (I' 0 72 ≤ I' 0 69) ∧ (I' 0 71 = 0 ∨ (I' 0 72 < I' 0 73 ∧ I' 0 72 < I' 0 69)) ∧ (I' 0 71 = 3 → 2 ≤ I' 0 73 - I' 0 72 ∧ I' 0 73 - I' 0 72 ≤ 14) ∧ (I' 0 72 ≤ I' 0 73) ∧ (I' 0 69 = I 0 69) ∧ (I 0 73 ≤ I' 0 73) ∧ (I 0 72 ≤ I' 0 72) ∧ (I' 0 59 - I' 0 72 ≤ I 0 59 - I 0 72) ∧ (I' 0 42 - I' 0 72 ≤ I 0 42 - I 0 72))))) (423, [], [], gr_sh ++ ext, gr_h I84 J85) := by
                          intro I84 J85 hI84 FI84 FJ85 m_86
                          clear hv1_10_76 hv4_66_76 e0_76 e1_76 e2_76 e3_76 e4_76 e5_76 e6_76 e7_76 e8_76 e9_76 e10_76 e11_76 e12_76 f77 f78 f79 f80 f81 f82 f83
                          obtain ⟨e0_86, e1_86, e2_86, e3_86, e4_86, e5_86, e6_86, e7_86, e8_86, e9_86, e10_86⟩ := m_86
                          have f87 := (show 0 ≤ I84 0 71 ∧ I84 0 71 ≤ 5 from (hI84 0 71).1)
                          have f88 := (show 0 ≤ I84 0 72 ∧ I84 0 72 ≤ 1000 from (hI84 0 72).1)
                          have f89 := (show 0 ≤ I84 0 73 ∧ I84 0 73 ≤ 1001 from (hI84 0 73).1)
                          have f90 := (show 0 ≤ I84 0 69 ∧ I84 0 69 ≤ 1000 from (hI84 0 69).1)
                          have f91 := (show (-1) ≤ I84 0 6 ∧ I84 0 6 ≤ 7 from (hI84 0 6).1)
                          have f92 := (show 0 ≤ I84 0 59 ∧ I84 0 59 ≤ 2000 from (hI84 0 59).1)
                          have f93 := (show 0 ≤ I84 0 42 ∧ I84 0 42 ≤ 2000 from (hI84 0 42).1)
                          refine gv_run 1 true hD (pc' := 424) (lv' := []) (st' := [.inl 0]) (h' := gr_h I84 J85) (C := (True ∧ True)) rfl ⟨trivial, trivial⟩ ?_
                          exact gv_zret hD rfl (by omega) ⟨I84, J85, rfl, hI84, FI84, FJ85, ⟨_, rfl, by omega⟩⟩
                        have L417 : ∀ (I94 : gr_I) (J95 : gr_J) (s1_96 : Int), gr_Inv I94 → gr_fr [42, 59, 71, 72, 73, 74, 75, 76, 77, 106] [17, 23, 31, 32, 33, 34, 35, 51, 57, 64, 65, 66] I I94 → gr_fj [42, 59, 71, 72, 73, 74, 75, 76, 77, 106] [17, 23, 31, 32, 33, 34, 35, 51, 57, 64, 65, 66] J J95 → ((0 ≤ v1_10 ∧ v1_10 ≤ 7) ∧ (0 ≤ v4_66 ∧ v4_66 ≤ 358) ∧ (0 ≤ s1_96 ∧ s1_96 ≤ 1) ∧ (s1_96 = 0 ∨ (v4_66 ≤ 24 ∧ I94 17 (Int.toNat v1_10) ≤ 23)) ∧ (I94 0 71 = 5 ∨ I94 0 73 ≤ I94 0 69) ∧ (I94 0 72 ≤ I94 0 69) ∧ (I94 0 71 = 0 ∨ (I94 0 72 < I94 0 73 ∧ I94 0 72 < I94 0 69)) ∧ (I94 0 71 = 3 → 2 ≤ I94 0 73 - I94 0 72 ∧ I94 0 73 - I94 0 72 ≤ 14) ∧ (I94 0 72 ≤ I94 0 73) ∧ (I94 0 69 = I 0 69) ∧ (I 0 73 ≤ I94 0 73) ∧ (I 0 72 ≤ I94 0 72) ∧ (I94 0 6 = I 0 6) ∧ (I94 0 59 - I94 0 72 ≤ I 0 59 - I 0 72) ∧ (I94 0 42 - I94 0 72 ≤ I 0 42 - I 0 72)) → gv_X (gr_E ws0 tb 11 (yX13_pattern, cX13_pattern, 8, (some .boolean)) kX13_pattern) (gv_Q cX13_pattern (some .boolean) (gr_sh ++ ext) (fun r h' => (∃ (I' : gr_I) (J' : gr_J), h' = gr_h I' J' ∧ gr_Inv I' ∧ gr_fr [42, 59, 71, 72, 73, 74, 75, 76, 77, 106] [17, 23, 31, 32, 33, 34, 35, 51, 57, 64, 65, 66] I I' ∧ gr_fj [42, 59, 71, 72, 73, 74, 75, 76, 77, 106] [17, 23, 31, 32, 33, 34, 35, 51, 57, 64, 65, 66] J J' ∧ (∃ z : Int, r = some (.inl z) ∧ 0 ≤ z ∧ z ≤ 1 ∧ (I' 0 71 = 5 ∨ I' 0 73 ≤ I' 0 69) ∧ (I' 0 72 ≤ I' 0 69) ∧ (I' 0 71 = 0 ∨ (I' 0 72 < I' 0 73 ∧ I' 0 72 < I' 0 69)) ∧ (I' 0 71 = 3 → 2 ≤ I' 0 73 - I' 0 72 ∧ I' 0 73 - I' 0 72 ≤ 14) ∧ (I' 0 72 ≤ I' 0 73) ∧ (I' 0 69 = I 0 69) ∧ (I 0 73 ≤ I' 0 73) ∧ (I 0 72 ≤ I' 0 72) ∧ (I' 0 59 - I' 0 72 ≤ I 0 59 - I 0 72) ∧ (I' 0 42 - I' 0 72 ≤ I 0 42 - I 0 72))))) (417, [(0, .inr (.inr (some 0))), (1, .inl v1_10), (2, .inr (.inl v2_20)), (4, .inl v4_66)], [.inl s1_96, .inr (.inr (some 0))], gr_sh ++ ext, gr_h I94 J95) := by
                          intro I94 J95 s1_96 hI94 FI94 FJ95 m_96
                          clear hv1_10_76 hv4_66_76 e0_76 e1_76 e2_76 e3_76 e4_76 e5_76 e6_76 e7_76 e8_76 e9_76 e10_76 e11_76 e12_76 f77 f78 f79 f80 f81 f82 f83
                          obtain ⟨hv1_10_96, hv4_66_96, hs1_96, e0_96, e1_96, e2_96, e3_96, e4_96, e5_96, e6_96, e7_96, e8_96, e9_96, e10_96, e11_96⟩ := m_96
                          have f97 := (show 0 ≤ I94 0 71 ∧ I94 0 71 ≤ 5 from (hI94 0 71).1)
                          have f98 := (show 0 ≤ I94 0 72 ∧ I94 0 72 ≤ 1000 from (hI94 0 72).1)
                          have f99 := (show 0 ≤ I94 0 73 ∧ I94 0 73 ≤ 1001 from (hI94 0 73).1)
                          have f100 := (show 0 ≤ I94 0 69 ∧ I94 0 69 ≤ 1000 from (hI94 0 69).1)
                          have f101 := (show (-1) ≤ I94 0 6 ∧ I94 0 6 ≤ 7 from (hI94 0 6).1)
                          have f102 := (show 0 ≤ I94 0 59 ∧ I94 0 59 ≤ 2000 from (hI94 0 59).1)
                          have f103 := (show 0 ≤ I94 0 42 ∧ I94 0 42 ≤ 2000 from (hI94 0 42).1)
                          have L463 : ∀ (n : Nat) (I104 : gr_I) (J105 : gr_J) (v5_106 : Int) (v6_106 : Int), (25 - v6_106).toNat < n → gr_Inv I104 → gr_fr [42, 59, 71, 72, 73, 74, 75, 76, 77, 106] [17, 23, 31, 32, 33, 34, 35, 51, 57, 64, 65, 66] I I104 → gr_fj [42, 59, 71, 72, 73, 74, 75, 76, 77, 106] [17, 23, 31, 32, 33, 34, 35, 51, 57, 64, 65, 66] J J105 → ((0 ≤ v4_66 ∧ v4_66 ≤ 24) ∧ (0 ≤ v5_106 ∧ v5_106 ≤ 191) ∧ (0 ≤ v6_106 ∧ v6_106 ≤ 24) ∧ (I104 0 71 = 5 ∨ I104 0 73 ≤ I104 0 69) ∧ (I104 0 72 ≤ I104 0 69) ∧ (I104 0 71 = 0 ∨ (I104 0 72 < I104 0 73 ∧ I104 0 72 < I104 0 69)) ∧ (I104 0 71 = 3 → 2 ≤ I104 0 73 - I104 0 72 ∧ I104 0 73 - I104 0 72 ≤ 14) ∧ (I104 0 72 ≤ I104 0 73) ∧ (I104 0 69 = I 0 69) ∧ (I 0 73 ≤ I104 0 73) ∧ (I 0 72 ≤ I104 0 72) ∧ (I104 0 6 = I 0 6) ∧ (I104 0 59 - I104 0 72 ≤ I 0 59 - I 0 72) ∧ (I104 0 42 - I104 0 72 ≤ I 0 42 - I 0 72)) → gv_X (gr_E ws0 tb 11 (yX13_pattern, cX13_pattern, 8, (some .boolean)) kX13_pattern) (gv_Q cX13_pattern (some .boolean) (gr_sh ++ ext) (fun r h' => (∃ (I' : gr_I) (J' : gr_J), h' = gr_h I' J' ∧ gr_Inv I' ∧ gr_fr [42, 59, 71, 72, 73, 74, 75, 76, 77, 106] [17, 23, 31, 32, 33, 34, 35, 51, 57, 64, 65, 66] I I' ∧ gr_fj [42, 59, 71, 72, 73, 74, 75, 76, 77, 106] [17, 23, 31, 32, 33, 34, 35, 51, 57, 64, 65, 66] J J' ∧ (∃ z : Int, r = some (.inl z) ∧ 0 ≤ z ∧ z ≤ 1 ∧ (I' 0 71 = 5 ∨ I' 0 73 ≤ I' 0 69) ∧ (I' 0 72 ≤ I' 0 69) ∧ (I' 0 71 = 0 ∨ (I' 0 72 < I' 0 73 ∧ I' 0 72 < I' 0 69)) ∧ (I' 0 71 = 3 → 2 ≤ I' 0 73 - I' 0 72 ∧ I' 0 73 - I' 0 72 ≤ 14) ∧ (I' 0 72 ≤ I' 0 73) ∧ (I' 0 69 = I 0 69) ∧ (I 0 73 ≤ I' 0 73) ∧ (I 0 72 ≤ I' 0 72) ∧ (I' 0 59 - I' 0 72 ≤ I 0 59 - I 0 72) ∧ (I' 0 42 - I' 0 72 ≤ I 0 42 - I 0 72))))) (463, [(0, .inr (.inr (some 0))), (4, .inl v4_66), (5, .inl v5_106), (6, .inl v6_106)], [], gr_sh ++ ext, gr_h I104 J105) := by
                            intro n
                            induction n with
                            | zero => intro I104 J105 v5_106 v6_106 hn; omega
                            | succ n ih463 =>
                              intro I104 J105 v5_106 v6_106 hn hI104 FI104 FJ105 m_106
                              clear hv1_10_96 hv4_66_96 hs1_96 e0_96 e1_96 e2_96 e3_96 e4_96 e5_96 e6_96 e7_96 e8_96 e9_96 e10_96 e11_96 f97 f98 f99 f100 f101 f102 f103
                              obtain ⟨hv4_66_106, hv5_106, hv6_106, e0_106, e1_106, e2_106, e3_106, e4_106, e5_106, e6_106, e7_106, e8_106, e9_106, e10_106⟩ := m_106
                              have f107 := (show 0 ≤ I104 0 71 ∧ I104 0 71 ≤ 5 from (hI104 0 71).1)
                              have f108 := (show 0 ≤ I104 0 72 ∧ I104 0 72 ≤ 1000 from (hI104 0 72).1)
                              have f109 := (show 0 ≤ I104 0 73 ∧ I104 0 73 ≤ 1001 from (hI104 0 73).1)
                              have f110 := (show 0 ≤ I104 0 69 ∧ I104 0 69 ≤ 1000 from (hI104 0 69).1)
                              have f111 := (show (-1) ≤ I104 0 6 ∧ I104 0 6 ≤ 7 from (hI104 0 6).1)
                              have f112 := (show 0 ≤ I104 0 59 ∧ I104 0 59 ≤ 2000 from (hI104 0 59).1)
                              have f113 := (show 0 ≤ I104 0 42 ∧ I104 0 42 ≤ 2000 from (hI104 0 42).1)
                              refine gv_run 2 true hD (pc' := 467) (lv' := [(0, .inr (.inr (some 0))), (4, .inl v4_66), (5, .inl v5_106), (6, .inl v6_106)]) (st' := [.inl v4_66, .inl v6_106]) (h' := gr_h I104 J105) (C := ((True ∧ True) ∧ True)) rfl ⟨⟨trivial, trivial⟩, trivial⟩ ?_
                              refine gv_icmp_ge (t := 536) hD rfl rfl ⟨⟨by omega, by omega⟩, ⟨by omega, by omega⟩⟩ (fun c114 => ?_) (fun c114 => ?_)
                              · refine gv_run 1 true hD (pc' := 537) (lv' := [(0, .inr (.inr (some 0))), (4, .inl v4_66), (5, .inl v5_106), (6, .inl v6_106)]) (st' := [.inl 1]) (h' := gr_h I104 J105) (C := (True ∧ True)) rfl ⟨trivial, trivial⟩ ?_
                                exact gv_zret hD rfl (by omega) ⟨I104, J105, rfl, hI104, FI104, FJ105, ⟨_, rfl, by omega⟩⟩
                              · refine gv_run 7 true hD (pc' := 482) (lv' := [(0, .inr (.inr (some 0))), (4, .inl v4_66), (5, .inl v5_106), (6, .inl v6_106)]) (st' := [.inl ((24 * v5_106) + v6_106), .inr (.inr (some 32))]) (h' := gr_h I104 J105) (C := (((((((True ∧ True) ∧ True) ∧ True) ∧ True) ∧ True) ∧ True) ∧ True)) rfl ⟨⟨⟨⟨⟨⟨⟨trivial, trivial⟩, trivial⟩, trivial⟩, trivial⟩, trivial⟩, trivial⟩, trivial⟩ ?_
                                have f115 := (show 0 ≤ I104 64 (Int.toNat v6_106) ∧ I104 64 (Int.toNat v6_106) ≤ 16777215 from (hI104 64 (Int.toNat v6_106)).1)
                                refine gv_run 4 true hD (pc' := 489) (lv' := [(0, .inr (.inr (some 0))), (4, .inl v4_66), (5, .inl v5_106), (6, .inl v6_106)]) (st' := [.inl (I104 64 (Int.toNat v6_106)), .inl ((24 * v5_106) + v6_106), .inr (.inr (some 32))]) (h' := gr_h I104 J105) (C := ((((True ∧ True) ∧ True) ∧ True) ∧ (0 ≤ v6_106 ∧ v6_106 < ((420 : Nat) : Int)))) rfl ⟨⟨⟨⟨trivial, trivial⟩, trivial⟩, trivial⟩, ⟨by omega, by omega⟩⟩ ?_
                                refine gv_run 1 true hD (pc' := 490) (lv' := [(0, .inr (.inr (some 0))), (4, .inl v4_66), (5, .inl v5_106), (6, .inl v6_106)]) (st' := []) (h' := gz_up (gr_h I104 J105) 32 (Int.toNat (((24 * v5_106) + v6_106))) (.inl ((I104 64 (Int.toNat v6_106))))) (C := (True ∧ (0 ≤ (((24 * v5_106) + v6_106)) ∧ (((24 * v5_106) + v6_106)) < ((4608 : Nat) : Int)))) rfl ⟨trivial, ⟨by omega, by omega⟩⟩ ?_
                                refine gr_st hI104 FI104 rfl rfl ⟨⟨by show 0 ≤ _; omega, by show _ ≤ 16777215; omega⟩, trivial⟩ (fun I116 hI116 FI116 q117 p117 => ?_)
                                have t118 := p117 0 71 (fun q => absurd q.1 (by decide))
                                have t119 := p117 0 72 (fun q => absurd q.1 (by decide))
                                have t120 := p117 0 73 (fun q => absurd q.1 (by decide))
                                have t121 := p117 0 69 (fun q => absurd q.1 (by decide))
                                have t122 := p117 0 6 (fun q => absurd q.1 (by decide))
                                have t123 := p117 0 59 (fun q => absurd q.1 (by decide))
                                have t124 := p117 0 42 (fun q => absurd q.1 (by decide))
                                have t125 := p117 65 (Int.toNat v5_106) (fun q => absurd q.1 (by decide))
                                have f126 := (show 0 ≤ I116 0 71 ∧ I116 0 71 ≤ 5 from (hI116 0 71).1)
                                have f127 := (show 0 ≤ I116 0 72 ∧ I116 0 72 ≤ 1000 from (hI116 0 72).1)
                                have f128 := (show 0 ≤ I116 0 73 ∧ I116 0 73 ≤ 1001 from (hI116 0 73).1)
                                have f129 := (show 0 ≤ I116 0 69 ∧ I116 0 69 ≤ 1000 from (hI116 0 69).1)
                                have f130 := (show (-1) ≤ I116 0 6 ∧ I116 0 6 ≤ 7 from (hI116 0 6).1)
                                have f131 := (show 0 ≤ I116 0 59 ∧ I116 0 59 ≤ 2000 from (hI116 0 59).1)
                                have f132 := (show 0 ≤ I116 0 42 ∧ I116 0 42 ≤ 2000 from (hI116 0 42).1)
                                refine gv_run 7 true hD (pc' := 502) (lv' := [(0, .inr (.inr (some 0))), (4, .inl v4_66), (5, .inl v5_106), (6, .inl v6_106)]) (st' := [.inl ((24 * v5_106) + v6_106), .inr (.inr (some 33))]) (h' := gr_h I116 J105) (C := (((((((True ∧ True) ∧ True) ∧ True) ∧ True) ∧ True) ∧ True) ∧ True)) rfl ⟨⟨⟨⟨⟨⟨⟨trivial, trivial⟩, trivial⟩, trivial⟩, trivial⟩, trivial⟩, trivial⟩, trivial⟩ ?_
                                have f133 := (show 0 ≤ I116 65 (Int.toNat v6_106) ∧ I116 65 (Int.toNat v6_106) ≤ 2000 from (hI116 65 (Int.toNat v6_106)).1)
                                refine gv_run 4 true hD (pc' := 509) (lv' := [(0, .inr (.inr (some 0))), (4, .inl v4_66), (5, .inl v5_106), (6, .inl v6_106)]) (st' := [.inl (I116 65 (Int.toNat v6_106)), .inl ((24 * v5_106) + v6_106), .inr (.inr (some 33))]) (h' := gr_h I116 J105) (C := ((((True ∧ True) ∧ True) ∧ True) ∧ (0 ≤ v6_106 ∧ v6_106 < ((420 : Nat) : Int)))) rfl ⟨⟨⟨⟨trivial, trivial⟩, trivial⟩, trivial⟩, ⟨by omega, by omega⟩⟩ ?_
                                refine gv_run 1 true hD (pc' := 510) (lv' := [(0, .inr (.inr (some 0))), (4, .inl v4_66), (5, .inl v5_106), (6, .inl v6_106)]) (st' := []) (h' := gz_up (gr_h I116 J105) 33 (Int.toNat (((24 * v5_106) + v6_106))) (.inl ((I116 65 (Int.toNat v6_106))))) (C := (True ∧ (0 ≤ (((24 * v5_106) + v6_106)) ∧ (((24 * v5_106) + v6_106)) < ((4608 : Nat) : Int)))) rfl ⟨trivial, ⟨by omega, by omega⟩⟩ ?_
                                refine gr_st hI116 FI116 rfl rfl ⟨⟨by show 0 ≤ _; omega, by show _ ≤ 2000; omega⟩, trivial⟩ (fun I134 hI134 FI134 q135 p135 => ?_)
                                have t136 := p135 0 71 (fun q => absurd q.1 (by decide))
                                have t137 := p135 0 72 (fun q => absurd q.1 (by decide))
                                have t138 := p135 0 73 (fun q => absurd q.1 (by decide))
                                have t139 := p135 0 69 (fun q => absurd q.1 (by decide))
                                have t140 := p135 0 6 (fun q => absurd q.1 (by decide))
                                have t141 := p135 0 59 (fun q => absurd q.1 (by decide))
                                have t142 := p135 0 42 (fun q => absurd q.1 (by decide))
                                have t143 := p135 65 (Int.toNat v5_106) (fun q => absurd q.1 (by decide))
                                have f144 := (show 0 ≤ I134 0 71 ∧ I134 0 71 ≤ 5 from (hI134 0 71).1)
                                have f145 := (show 0 ≤ I134 0 72 ∧ I134 0 72 ≤ 1000 from (hI134 0 72).1)
                                have f146 := (show 0 ≤ I134 0 73 ∧ I134 0 73 ≤ 1001 from (hI134 0 73).1)
                                have f147 := (show 0 ≤ I134 0 69 ∧ I134 0 69 ≤ 1000 from (hI134 0 69).1)
                                have f148 := (show (-1) ≤ I134 0 6 ∧ I134 0 6 ≤ 7 from (hI134 0 6).1)
                                have f149 := (show 0 ≤ I134 0 59 ∧ I134 0 59 ≤ 2000 from (hI134 0 59).1)
                                have f150 := (show 0 ≤ I134 0 42 ∧ I134 0 42 ≤ 2000 from (hI134 0 42).1)
                                refine gv_run 7 true hD (pc' := 522) (lv' := [(0, .inr (.inr (some 0))), (4, .inl v4_66), (5, .inl v5_106), (6, .inl v6_106)]) (st' := [.inl ((24 * v5_106) + v6_106), .inr (.inr (some 34))]) (h' := gr_h I134 J105) (C := (((((((True ∧ True) ∧ True) ∧ True) ∧ True) ∧ True) ∧ True) ∧ True)) rfl ⟨⟨⟨⟨⟨⟨⟨trivial, trivial⟩, trivial⟩, trivial⟩, trivial⟩, trivial⟩, trivial⟩, trivial⟩ ?_
                                have f151 := (show (-1) ≤ I134 66 (Int.toNat v6_106) ∧ I134 66 (Int.toNat v6_106) ≤ 2000 from (hI134 66 (Int.toNat v6_106)).1)
                                refine gv_run 4 true hD (pc' := 529) (lv' := [(0, .inr (.inr (some 0))), (4, .inl v4_66), (5, .inl v5_106), (6, .inl v6_106)]) (st' := [.inl (I134 66 (Int.toNat v6_106)), .inl ((24 * v5_106) + v6_106), .inr (.inr (some 34))]) (h' := gr_h I134 J105) (C := ((((True ∧ True) ∧ True) ∧ True) ∧ (0 ≤ v6_106 ∧ v6_106 < ((420 : Nat) : Int)))) rfl ⟨⟨⟨⟨trivial, trivial⟩, trivial⟩, trivial⟩, ⟨by omega, by omega⟩⟩ ?_
                                refine gv_run 1 true hD (pc' := 530) (lv' := [(0, .inr (.inr (some 0))), (4, .inl v4_66), (5, .inl v5_106), (6, .inl v6_106)]) (st' := []) (h' := gz_up (gr_h I134 J105) 34 (Int.toNat (((24 * v5_106) + v6_106))) (.inl ((I134 66 (Int.toNat v6_106))))) (C := (True ∧ (0 ≤ (((24 * v5_106) + v6_106)) ∧ (((24 * v5_106) + v6_106)) < ((4608 : Nat) : Int)))) rfl ⟨trivial, ⟨by omega, by omega⟩⟩ ?_
                                refine gr_st hI134 FI134 rfl rfl ⟨⟨by show (-1) ≤ _; omega, by show _ ≤ 2000; omega⟩, trivial⟩ (fun I152 hI152 FI152 q153 p153 => ?_)
                                have t154 := p153 0 71 (fun q => absurd q.1 (by decide))
                                have t155 := p153 0 72 (fun q => absurd q.1 (by decide))
                                have t156 := p153 0 73 (fun q => absurd q.1 (by decide))
                                have t157 := p153 0 69 (fun q => absurd q.1 (by decide))
                                have t158 := p153 0 6 (fun q => absurd q.1 (by decide))
                                have t159 := p153 0 59 (fun q => absurd q.1 (by decide))
                                have t160 := p153 0 42 (fun q => absurd q.1 (by decide))
                                have t161 := p153 65 (Int.toNat v5_106) (fun q => absurd q.1 (by decide))
                                have f162 := (show 0 ≤ I152 0 71 ∧ I152 0 71 ≤ 5 from (hI152 0 71).1)
                                have f163 := (show 0 ≤ I152 0 72 ∧ I152 0 72 ≤ 1000 from (hI152 0 72).1)
                                have f164 := (show 0 ≤ I152 0 73 ∧ I152 0 73 ≤ 1001 from (hI152 0 73).1)
                                have f165 := (show 0 ≤ I152 0 69 ∧ I152 0 69 ≤ 1000 from (hI152 0 69).1)
                                have f166 := (show (-1) ≤ I152 0 6 ∧ I152 0 6 ≤ 7 from (hI152 0 6).1)
                                have f167 := (show 0 ≤ I152 0 59 ∧ I152 0 59 ≤ 2000 from (hI152 0 59).1)
                                have f168 := (show 0 ≤ I152 0 42 ∧ I152 0 42 ≤ 2000 from (hI152 0 42).1)
                                refine gv_run 2 true hD (pc' := 463) (lv' := [(6, .inl (v6_106 + 1)), (0, .inr (.inr (some 0))), (4, .inl v4_66), (5, .inl v5_106)]) (st' := []) (h' := gr_h I152 J105) (C := ((True ∧ True) ∧ True)) rfl ⟨⟨trivial, trivial⟩, trivial⟩ ?_
                                refine gv_pick [1, 2, 3, 0] rfl ?_
                                exact ih463 I152 J105 v5_106 (v6_106 + 1) (by omega) hI152 FI152 FJ105 (by omega)
                          obtain ⟨r169, h169, E169, P169⟩ := r_done (ws0 := ws0) (tb := tb) hws htb ext I94 J95 hI94 s1_96 ⟨by omega, by omega⟩ (by omega) (by omega) (by omega) (by omega) (by omega)
                          obtain ⟨I170, J171, rfl, hI170, g169, k169, ⟨z169, rfl, q169⟩⟩ := P169
                          have FI170 := gr_frt FI94 g169 rfl rfl
                          have FJ171 := gr_fjt FJ95 k169 rfl rfl
                          have t172 := g169 0 69 rfl
                          have t173 := g169 0 6 rfl
                          have t174 := g169 0 59 rfl
                          have t175 := g169 0 42 rfl
                          have t176 := g169 17 (Int.toNat v1_10) rfl
                          have f177 := (show 0 ≤ I170 0 71 ∧ I170 0 71 ≤ 5 from (hI170 0 71).1)
                          have f178 := (show 0 ≤ I170 0 72 ∧ I170 0 72 ≤ 1000 from (hI170 0 72).1)
                          have f179 := (show 0 ≤ I170 0 73 ∧ I170 0 73 ≤ 1001 from (hI170 0 73).1)
                          have f180 := (show 0 ≤ I170 0 69 ∧ I170 0 69 ≤ 1000 from (hI170 0 69).1)
                          have f181 := (show (-1) ≤ I170 0 6 ∧ I170 0 6 ≤ 7 from (hI170 0 6).1)
                          have f182 := (show 0 ≤ I170 0 59 ∧ I170 0 59 ≤ 2000 from (hI170 0 59).1)
                          have f183 := (show 0 ≤ I170 0 42 ∧ I170 0 42 ≤ 2000 from (hI170 0 42).1)
                          refine gv_callV hD rfl (As := [.inl s1_96]) (st := []) rfl (by decide) rfl rfl (gr_lV hws rfl) (Nat.le_of_ble_eq_true rfl) (gz_Ev_mono (d := 11) (by decide) E169) ?_
                          show gv_X _ _ (420, [(0, .inr (.inr (some 0))), (1, .inl v1_10), (2, .inr (.inl v2_20)), (4, .inl v4_66)], [.inl z169], gr_sh ++ ext, gr_h I170 J171)
                          refine gv_if_ne (t := 425) hD rfl rfl ⟨by omega, by omega⟩ (fun c184 => ?_) (fun c184 => ?_)
                          · refine gv_run 7 true hD (pc' := 435) (lv' := [(0, .inr (.inr (some 0))), (1, .inl v1_10), (2, .inr (.inl v2_20)), (4, .inl v4_66)]) (st' := [.inl v1_10, .inr (.inr (some 17)), .inl v1_10, .inr (.inr (some 17)), .inl (24 * v1_10)]) (h' := gr_h I170 J171) (C := (((((((True ∧ True) ∧ True) ∧ True) ∧ True) ∧ True) ∧ True) ∧ True)) rfl ⟨⟨⟨⟨⟨⟨⟨trivial, trivial⟩, trivial⟩, trivial⟩, trivial⟩, trivial⟩, trivial⟩, trivial⟩ ?_
                            have f185 := (show 0 ≤ I170 17 (Int.toNat v1_10) ∧ I170 17 (Int.toNat v1_10) ≤ 24 from (hI170 17 (Int.toNat v1_10)).1)
                            refine gv_run 1 true hD (pc' := 436) (lv' := [(0, .inr (.inr (some 0))), (1, .inl v1_10), (2, .inr (.inl v2_20)), (4, .inl v4_66)]) (st' := [.inl (I170 17 (Int.toNat v1_10)), .inl v1_10, .inr (.inr (some 17)), .inl (24 * v1_10)]) (h' := gr_h I170 J171) (C := (True ∧ (0 ≤ v1_10 ∧ v1_10 < ((8 : Nat) : Int)))) rfl ⟨trivial, ⟨by omega, by omega⟩⟩ ?_
                            refine gv_run 3 true hD (pc' := 439) (lv' := [(0, .inr (.inr (some 0))), (1, .inl v1_10), (2, .inr (.inl v2_20)), (4, .inl v4_66)]) (st' := [.inl ((I170 17 (Int.toNat v1_10)) + 1), .inl v1_10, .inr (.inr (some 17)), .inl (I170 17 (Int.toNat v1_10)), .inl (24 * v1_10)]) (h' := gr_h I170 J171) (C := (((True ∧ True) ∧ True) ∧ True)) rfl ⟨⟨⟨trivial, trivial⟩, trivial⟩, trivial⟩ ?_
                            refine gv_run 1 true hD (pc' := 440) (lv' := [(0, .inr (.inr (some 0))), (1, .inl v1_10), (2, .inr (.inl v2_20)), (4, .inl v4_66)]) (st' := [.inl (I170 17 (Int.toNat v1_10)), .inl (24 * v1_10)]) (h' := gz_up (gr_h I170 J171) 17 (Int.toNat v1_10) (.inl (((I170 17 (Int.toNat v1_10)) + 1)))) (C := (True ∧ (0 ≤ v1_10 ∧ v1_10 < ((8 : Nat) : Int)))) rfl ⟨trivial, ⟨by omega, by omega⟩⟩ ?_
                            refine gr_st hI170 FI170 rfl rfl ⟨⟨by show 0 ≤ _; omega, by show _ ≤ 24; omega⟩, trivial⟩ (fun I186 hI186 FI186 q187 p187 => ?_)
                            have t188 := p187 0 71 (fun q => absurd q.1 (by decide))
                            have t189 := p187 0 72 (fun q => absurd q.1 (by decide))
                            have t190 := p187 0 73 (fun q => absurd q.1 (by decide))
                            have t191 := p187 0 69 (fun q => absurd q.1 (by decide))
                            have t192 := p187 0 6 (fun q => absurd q.1 (by decide))
                            have t193 := p187 0 59 (fun q => absurd q.1 (by decide))
                            have t194 := p187 0 42 (fun q => absurd q.1 (by decide))
                            have f195 := (show 0 ≤ I186 0 71 ∧ I186 0 71 ≤ 5 from (hI186 0 71).1)
                            have f196 := (show 0 ≤ I186 0 72 ∧ I186 0 72 ≤ 1000 from (hI186 0 72).1)
                            have f197 := (show 0 ≤ I186 0 73 ∧ I186 0 73 ≤ 1001 from (hI186 0 73).1)
                            have f198 := (show 0 ≤ I186 0 69 ∧ I186 0 69 ≤ 1000 from (hI186 0 69).1)
                            have f199 := (show (-1) ≤ I186 0 6 ∧ I186 0 6 ≤ 7 from (hI186 0 6).1)
                            have f200 := (show 0 ≤ I186 0 59 ∧ I186 0 59 ≤ 2000 from (hI186 0 59).1)
                            have f201 := (show 0 ≤ I186 0 42 ∧ I186 0 42 ≤ 2000 from (hI186 0 42).1)
                            refine gv_run 6 true hD (pc' := 450) (lv' := [(5, .inl ((24 * v1_10) + (I170 17 (Int.toNat v1_10)))), (0, .inr (.inr (some 0))), (1, .inl v1_10), (2, .inr (.inl v2_20)), (4, .inl v4_66)]) (st' := [.inr (.inl v2_20), .inl ((24 * v1_10) + (I170 17 (Int.toNat v1_10))), .inr (.inr (some 23))]) (h' := gr_h I186 J171) (C := ((((((True ∧ True) ∧ True) ∧ True) ∧ True) ∧ True) ∧ True)) rfl ⟨⟨⟨⟨⟨⟨trivial, trivial⟩, trivial⟩, trivial⟩, trivial⟩, trivial⟩, trivial⟩ ?_
                            refine gv_run 1 true hD (pc' := 451) (lv' := [(5, .inl ((24 * v1_10) + (I170 17 (Int.toNat v1_10)))), (0, .inr (.inr (some 0))), (1, .inl v1_10), (2, .inr (.inl v2_20)), (4, .inl v4_66)]) (st' := []) (h' := gz_up (gr_h I186 J171) 23 (Int.toNat (((24 * v1_10) + (I170 17 (Int.toNat v1_10))))) (.inr (.inl v2_20))) (C := (True ∧ (0 ≤ (((24 * v1_10) + (I170 17 (Int.toNat v1_10)))) ∧ (((24 * v1_10) + (I170 17 (Int.toNat v1_10)))) < ((192 : Nat) : Int)))) rfl ⟨trivial, ⟨by omega, by omega⟩⟩ ?_
                            refine gr_stJ FJ171 rfl rfl (fun J202 FJ202 => ?_)
                            refine gv_run 4 true hD (pc' := 459) (lv' := [(5, .inl ((24 * v1_10) + (I170 17 (Int.toNat v1_10)))), (0, .inr (.inr (some 0))), (1, .inl v1_10), (2, .inr (.inl v2_20)), (4, .inl v4_66)]) (st' := [.inl v4_66, .inl ((24 * v1_10) + (I170 17 (Int.toNat v1_10))), .inr (.inr (some 31))]) (h' := gr_h I186 J202) (C := ((((True ∧ True) ∧ True) ∧ True) ∧ True)) rfl ⟨⟨⟨⟨trivial, trivial⟩, trivial⟩, trivial⟩, trivial⟩ ?_
                            refine gv_run 1 true hD (pc' := 460) (lv' := [(5, .inl ((24 * v1_10) + (I170 17 (Int.toNat v1_10)))), (0, .inr (.inr (some 0))), (1, .inl v1_10), (2, .inr (.inl v2_20)), (4, .inl v4_66)]) (st' := []) (h' := gz_up (gr_h I186 J202) 31 (Int.toNat (((24 * v1_10) + (I170 17 (Int.toNat v1_10))))) (.inl v4_66)) (C := (True ∧ (0 ≤ (((24 * v1_10) + (I170 17 (Int.toNat v1_10)))) ∧ (((24 * v1_10) + (I170 17 (Int.toNat v1_10)))) < ((192 : Nat) : Int)))) rfl ⟨trivial, ⟨by omega, by omega⟩⟩ ?_
                            refine gr_st hI186 FI186 rfl rfl ⟨⟨by show 0 ≤ _; omega, by show _ ≤ 24; omega⟩, trivial⟩ (fun I203 hI203 FI203 q204 p204 => ?_)
                            have t205 := p204 0 71 (fun q => absurd q.1 (by decide))
                            have t206 := p204 0 72 (fun q => absurd q.1 (by decide))
                            have t207 := p204 0 73 (fun q => absurd q.1 (by decide))
                            have t208 := p204 0 69 (fun q => absurd q.1 (by decide))
                            have t209 := p204 0 6 (fun q => absurd q.1 (by decide))
                            have t210 := p204 0 59 (fun q => absurd q.1 (by decide))
                            have t211 := p204 0 42 (fun q => absurd q.1 (by decide))
                            have t212 := p204 17 (Int.toNat v1_10) (fun q => absurd q.1 (by decide))
                            have t213 := p204 65 (Int.toNat (((24 * v1_10) + (I170 17 (Int.toNat v1_10))))) (fun q => absurd q.1 (by decide))
                            have f214 := (show 0 ≤ I203 0 71 ∧ I203 0 71 ≤ 5 from (hI203 0 71).1)
                            have f215 := (show 0 ≤ I203 0 72 ∧ I203 0 72 ≤ 1000 from (hI203 0 72).1)
                            have f216 := (show 0 ≤ I203 0 73 ∧ I203 0 73 ≤ 1001 from (hI203 0 73).1)
                            have f217 := (show 0 ≤ I203 0 69 ∧ I203 0 69 ≤ 1000 from (hI203 0 69).1)
                            have f218 := (show (-1) ≤ I203 0 6 ∧ I203 0 6 ≤ 7 from (hI203 0 6).1)
                            have f219 := (show 0 ≤ I203 0 59 ∧ I203 0 59 ≤ 2000 from (hI203 0 59).1)
                            have f220 := (show 0 ≤ I203 0 42 ∧ I203 0 42 ≤ 2000 from (hI203 0 42).1)
                            refine gv_run 2 true hD (pc' := 463) (lv' := [(6, .inl 0), (5, .inl ((24 * v1_10) + (I170 17 (Int.toNat v1_10)))), (0, .inr (.inr (some 0))), (1, .inl v1_10), (2, .inr (.inl v2_20)), (4, .inl v4_66)]) (st' := []) (h' := gr_h I203 J202) (C := ((True ∧ True) ∧ True)) rfl ⟨⟨trivial, trivial⟩, trivial⟩ ?_
                            refine gv_pick [2, 5, 1, 0] rfl ?_
                            exact L463 _ I203 J202 (((24 * v1_10) + (I170 17 (Int.toNat v1_10)))) 0 (Nat.lt_succ_self _) hI203 FI203 FJ202 (by omega)
                          · refine gv_pick [] rfl ?_
                            exact L423 I170 J171 hI170 FI170 FJ171 (by omega)
                        have L416 : ∀ (I221 : gr_I) (J222 : gr_J) , gr_Inv I221 → gr_fr [42, 59, 71, 72, 73, 74, 75, 76, 77, 106] [17, 23, 31, 32, 33, 34, 35, 51, 57, 64, 65, 66] I I221 → gr_fj [42, 59, 71, 72, 73, 74, 75, 76, 77, 106] [17, 23, 31, 32, 33, 34, 35, 51, 57, 64, 65, 66] J J222 → ((0 ≤ v1_10 ∧ v1_10 ≤ 7) ∧ (0 ≤ v4_66 ∧ v4_66 ≤ 358) ∧ (I221 0 71 = 5 ∨ I221 0 73 ≤ I221 0 69) ∧ (I221 0 72 ≤ I221 0 69) ∧ (I221 0 71 = 0 ∨ (I221 0 72 < I221 0 73 ∧ I221 0 72 < I221 0 69)) ∧ (I221 0 71 = 3 → 2 ≤ I221 0 73 - I221 0 72 ∧ I221 0 73 - I221 0 72 ≤ 14) ∧ (I221 0 72 ≤ I221 0 73) ∧ (I221 0 69 = I 0 69) ∧ (I 0 73 ≤ I221 0 73) ∧ (I 0 72 ≤ I221 0 72) ∧ (I221 0 6 = I 0 6) ∧ (I221 0 59 - I221 0 72 ≤ I 0 59 - I 0 72) ∧ (I221 0 42 - I221 0 72 ≤ I 0 42 - I 0 72)) → gv_X (gr_E ws0 tb 11 (yX13_pattern, cX13_pattern, 8, (some .boolean)) kX13_pattern) (gv_Q cX13_pattern (some .boolean) (gr_sh ++ ext) (fun r h' => (∃ (I' : gr_I) (J' : gr_J), h' = gr_h I' J' ∧ gr_Inv I' ∧ gr_fr [42, 59, 71, 72, 73, 74, 75, 76, 77, 106] [17, 23, 31, 32, 33, 34, 35, 51, 57, 64, 65, 66] I I' ∧ gr_fj [42, 59, 71, 72, 73, 74, 75, 76, 77, 106] [17, 23, 31, 32, 33, 34, 35, 51, 57, 64, 65, 66] J J' ∧ (∃ z : Int, r = some (.inl z) ∧ 0 ≤ z ∧ z ≤ 1 ∧ (I' 0 71 = 5 ∨ I' 0 73 ≤ I' 0 69) ∧ (I' 0 72 ≤ I' 0 69) ∧ (I' 0 71 = 0 ∨ (I' 0 72 < I' 0 73 ∧ I' 0 72 < I' 0 69)) ∧ (I' 0 71 = 3 → 2 ≤ I' 0 73 - I' 0 72 ∧ I' 0 73 - I' 0 72 ≤ 14) ∧ (I' 0 72 ≤ I' 0 73) ∧ (I' 0 69 = I 0 69) ∧ (I 0 73 ≤ I' 0 73) ∧ (I 0 72 ≤ I' 0 72) ∧ (I' 0 59 - I' 0 72 ≤ I 0 59 - I 0 72) ∧ (I' 0 42 - I' 0 72 ≤ I 0 42 - I 0 72))))) (416, [(0, .inr (.inr (some 0))), (1, .inl v1_10), (2, .inr (.inl v2_20)), (4, .inl v4_66)], [.inr (.inr (some 0))], gr_sh ++ ext, gr_h I221 J222) := by
                          intro I221 J222 hI221 FI221 FJ222 m_223
                          clear hv1_10_76 hv4_66_76 e0_76 e1_76 e2_76 e3_76 e4_76 e5_76 e6_76 e7_76 e8_76 e9_76 e10_76 e11_76 e12_76 f77 f78 f79 f80 f81 f82 f83
                          obtain ⟨hv1_10_223, hv4_66_223, e0_223, e1_223, e2_223, e3_223, e4_223, e5_223, e6_223, e7_223, e8_223, e9_223, e10_223⟩ := m_223
                          have f224 := (show 0 ≤ I221 0 71 ∧ I221 0 71 ≤ 5 from (hI221 0 71).1)
                          have f225 := (show 0 ≤ I221 0 72 ∧ I221 0 72 ≤ 1000 from (hI221 0 72).1)
                          have f226 := (show 0 ≤ I221 0 73 ∧ I221 0 73 ≤ 1001 from (hI221 0 73).1)
                          have f227 := (show 0 ≤ I221 0 69 ∧ I221 0 69 ≤ 1000 from (hI221 0 69).1)
                          have f228 := (show (-1) ≤ I221 0 6 ∧ I221 0 6 ≤ 7 from (hI221 0 6).1)
                          have f229 := (show 0 ≤ I221 0 59 ∧ I221 0 59 ≤ 2000 from (hI221 0 59).1)
                          have f230 := (show 0 ≤ I221 0 42 ∧ I221 0 42 ≤ 2000 from (hI221 0 42).1)
                          refine gv_run 1 true hD (pc' := 417) (lv' := [(0, .inr (.inr (some 0))), (1, .inl v1_10), (2, .inr (.inl v2_20)), (4, .inl v4_66)]) (st' := [.inl 0, .inr (.inr (some 0))]) (h' := gr_h I221 J222) (C := (True ∧ True)) rfl ⟨trivial, trivial⟩ ?_
                          exact L417 I221 J222 0 hI221 FI221 FJ222 (by omega)
                        refine gv_run 2 true hD (pc' := 368) (lv' := [(0, .inr (.inr (some 0))), (1, .inl v1_10), (2, .inr (.inl v2_20)), (4, .inl v4_66)]) (st' := [.inl 44, .inr (.inr (some 0))]) (h' := gr_h I74 J75) (C := ((True ∧ True) ∧ True)) rfl ⟨⟨trivial, trivial⟩, trivial⟩ ?_
                        obtain ⟨r231, h231, E231, P231⟩ := r_sign (ws0 := ws0) (tb := tb) hws htb ext I74 J75 hI74 44 ⟨by omega, by omega⟩ (by omega)
                        obtain ⟨rfl, ⟨z231, rfl, q231⟩⟩ := P231
                        refine gv_callV hD rfl (As := [.inl 44]) (st := []) rfl (by decide) rfl rfl (gr_lV hws rfl) (Nat.le_of_ble_eq_true rfl) (gz_Ev_mono (d := 1) (by decide) E231) ?_
                        show gv_X _ _ (371, [(0, .inr (.inr (some 0))), (1, .inl v1_10), (2, .inr (.inl v2_20)), (4, .inl v4_66)], [.inl z231], gr_sh ++ ext, gr_h I74 J75)
                        refine gv_if_ne (t := 377) hD rfl rfl ⟨by omega, by omega⟩ (fun c232 => ?_) (fun c232 => ?_)
                        · refine gv_run 1 true hD (pc' := 378) (lv' := [(0, .inr (.inr (some 0))), (1, .inl v1_10), (2, .inr (.inl v2_20)), (4, .inl v4_66)]) (st' := [.inr (.inr (some 0))]) (h' := gr_h I74 J75) (C := (True ∧ True)) rfl ⟨trivial, trivial⟩ ?_
                          obtain ⟨r233, h233, E233, P233⟩ := r_next (ws0 := ws0) (tb := tb) hws htb ext I74 J75 hI74   (by omega)
                          obtain ⟨I234, J235, rfl, hI234, g233, k233, ⟨rfl, q233⟩⟩ := P233
                          have FI234 := gr_frt FI74 g233 rfl rfl
                          have FJ235 := gr_fjt FJ75 k233 rfl rfl
                          have t236 := g233 0 69 rfl
                          have t237 := g233 0 6 rfl
                          have t238 := g233 0 59 rfl
                          have t239 := g233 0 42 rfl
                          have t240 := g233 17 (Int.toNat v1_10) rfl
                          have f241 := (show 0 ≤ I234 0 71 ∧ I234 0 71 ≤ 5 from (hI234 0 71).1)
                          have f242 := (show 0 ≤ I234 0 72 ∧ I234 0 72 ≤ 1000 from (hI234 0 72).1)
                          have f243 := (show 0 ≤ I234 0 73 ∧ I234 0 73 ≤ 1001 from (hI234 0 73).1)
                          have f244 := (show 0 ≤ I234 0 69 ∧ I234 0 69 ≤ 1000 from (hI234 0 69).1)
                          have f245 := (show (-1) ≤ I234 0 6 ∧ I234 0 6 ≤ 7 from (hI234 0 6).1)
                          have f246 := (show 0 ≤ I234 0 59 ∧ I234 0 59 ≤ 2000 from (hI234 0 59).1)
                          have f247 := (show 0 ≤ I234 0 42 ∧ I234 0 42 ≤ 2000 from (hI234 0 42).1)
                          refine gv_callV hD rfl (As := []) (st := []) rfl (by decide) rfl rfl (gr_lV hws rfl) (Nat.le_of_ble_eq_true rfl) (gz_Ev_mono (d := 10) (by decide) E233) ?_
                          show gv_X _ _ (381, [(0, .inr (.inr (some 0))), (1, .inl v1_10), (2, .inr (.inl v2_20)), (4, .inl v4_66)], [], gr_sh ++ ext, gr_h I234 J235)
                          refine gv_run 1 true hD (pc' := 218) (lv' := [(0, .inr (.inr (some 0))), (1, .inl v1_10), (2, .inr (.inl v2_20)), (4, .inl v4_66)]) (st' := []) (h' := gr_h I234 J235) (C := (True ∧ True)) rfl ⟨trivial, trivial⟩ ?_
                          exact ih218 I234 J235 v4_66 (by omega) hI234 FI234 FJ235 (by omega)
                        · refine gv_run 3 true hD (pc' := 387) (lv' := [(0, .inr (.inr (some 0))), (1, .inl v1_10), (2, .inr (.inl v2_20)), (4, .inl v4_66)]) (st' := [.inl 125, .inr (.inr (some 0))]) (h' := gr_h I74 J75) (C := (((True ∧ True) ∧ True) ∧ True)) rfl ⟨⟨⟨trivial, trivial⟩, trivial⟩, trivial⟩ ?_
                          obtain ⟨r248, h248, E248, P248⟩ := r_need (ws0 := ws0) (tb := tb) hws htb ext I74 J75 hI74 125 ⟨by omega, by omega⟩ (by omega) (by omega) (by omega) (by omega) (by omega)
                          obtain ⟨I249, J250, rfl, hI249, g248, k248, ⟨z248, rfl, q248⟩⟩ := P248
                          have FI249 := gr_frt FI74 g248 rfl rfl
                          have FJ250 := gr_fjt FJ75 k248 rfl rfl
                          have t251 := g248 0 69 rfl
                          have t252 := g248 0 6 rfl
                          have t253 := g248 0 59 rfl
                          have t254 := g248 0 42 rfl
                          have t255 := g248 17 (Int.toNat v1_10) rfl
                          have f256 := (show 0 ≤ I249 0 71 ∧ I249 0 71 ≤ 5 from (hI249 0 71).1)
                          have f257 := (show 0 ≤ I249 0 72 ∧ I249 0 72 ≤ 1000 from (hI249 0 72).1)
                          have f258 := (show 0 ≤ I249 0 73 ∧ I249 0 73 ≤ 1001 from (hI249 0 73).1)
                          have f259 := (show 0 ≤ I249 0 69 ∧ I249 0 69 ≤ 1000 from (hI249 0 69).1)
                          have f260 := (show (-1) ≤ I249 0 6 ∧ I249 0 6 ≤ 7 from (hI249 0 6).1)
                          have f261 := (show 0 ≤ I249 0 59 ∧ I249 0 59 ≤ 2000 from (hI249 0 59).1)
                          have f262 := (show 0 ≤ I249 0 42 ∧ I249 0 42 ≤ 2000 from (hI249 0 42).1)
                          refine gv_callV hD rfl (As := [.inl 125]) (st := []) rfl (by decide) rfl rfl (gr_lV hws rfl) (Nat.le_of_ble_eq_true rfl) (gz_Ev_mono (d := 11) (by decide) E248) ?_
                          show gv_X _ _ (390, [(0, .inr (.inr (some 0))), (1, .inl v1_10), (2, .inr (.inl v2_20)), (4, .inl v4_66)], [.inl z248], gr_sh ++ ext, gr_h I249 J250)
                          refine gv_if_eq (t := 423) hD rfl rfl ⟨by omega, by omega⟩ (fun c263 => ?_) (fun c263 => ?_)
                          · refine gv_pick [] rfl ?_
                            exact L423 I249 J250 hI249 FI249 FJ250 (by omega)
                          · refine gv_run 3 true hD (pc' := 398) (lv' := [(0, .inr (.inr (some 0))), (1, .inl v1_10), (2, .inr (.inl v2_20)), (4, .inl v4_66)]) (st' := [.inl 24, .inl v4_66, .inr (.inr (some 0))]) (h' := gr_h I249 J250) (C := (((True ∧ True) ∧ True) ∧ True)) rfl ⟨⟨⟨trivial, trivial⟩, trivial⟩, trivial⟩ ?_
                            refine gv_icmp_gt (t := 416) hD rfl rfl ⟨⟨by omega, by omega⟩, ⟨by omega, by omega⟩⟩ (fun c264 => ?_) (fun c264 => ?_)
                            · exact L416 I249 J250 hI249 FI249 FJ250 (by omega)
                            · have f265 := (show 0 ≤ I249 17 (Int.toNat v1_10) ∧ I249 17 (Int.toNat v1_10) ≤ 24 from (hI249 17 (Int.toNat v1_10)).1)
                              refine gv_run 4 true hD (pc' := 407) (lv' := [(0, .inr (.inr (some 0))), (1, .inl v1_10), (2, .inr (.inl v2_20)), (4, .inl v4_66)]) (st' := [.inl (I249 17 (Int.toNat v1_10)), .inr (.inr (some 0))]) (h' := gr_h I249 J250) (C := ((((True ∧ True) ∧ True) ∧ True) ∧ (0 ≤ v1_10 ∧ v1_10 < ((8 : Nat) : Int)))) rfl ⟨⟨⟨⟨trivial, trivial⟩, trivial⟩, trivial⟩, ⟨by omega, by omega⟩⟩ ?_
                              refine gv_run 1 true hD (pc' := 409) (lv' := [(0, .inr (.inr (some 0))), (1, .inl v1_10), (2, .inr (.inl v2_20)), (4, .inl v4_66)]) (st' := [.inl 24, .inl (I249 17 (Int.toNat v1_10)), .inr (.inr (some 0))]) (h' := gr_h I249 J250) (C := (True ∧ True)) rfl ⟨trivial, trivial⟩ ?_
                              refine gv_icmp_ge (t := 416) hD rfl rfl ⟨⟨by omega, by omega⟩, ⟨by omega, by omega⟩⟩ (fun c266 => ?_) (fun c266 => ?_)
                              · exact L416 I249 J250 hI249 FI249 FJ250 (by omega)
                              · refine gv_run 2 true hD (pc' := 417) (lv' := [(0, .inr (.inr (some 0))), (1, .inl v1_10), (2, .inr (.inl v2_20)), (4, .inl v4_66)]) (st' := [.inl 1, .inr (.inr (some 0))]) (h' := gr_h I249 J250) (C := ((True ∧ True) ∧ True)) rfl ⟨⟨trivial, trivial⟩, trivial⟩ ?_
                                exact L417 I249 J250 1 hI249 FI249 FJ250 (by omega)
                      have f267 := (show 0 ≤ I48 0 106 ∧ I48 0 106 ≤ 16777215 from (hI48 0 106).1)
                      refine gv_run 5 true hD (pc' := 301) (lv' := [(0, .inr (.inr (some 0))), (1, .inl v1_10), (2, .inr (.inl v2_20)), (4, .inl v4_66), (5, .inl v5_50)]) (st' := [.inl (I48 0 106), .inl v5_50, .inr (.inr (some 64))]) (h' := gr_h I48 J49) (C := (((((True ∧ True) ∧ True) ∧ True) ∧ True) ∧ True)) rfl ⟨⟨⟨⟨⟨trivial, trivial⟩, trivial⟩, trivial⟩, trivial⟩, trivial⟩ ?_
                      refine gv_run 1 true hD (pc' := 302) (lv' := [(0, .inr (.inr (some 0))), (1, .inl v1_10), (2, .inr (.inl v2_20)), (4, .inl v4_66), (5, .inl v5_50)]) (st' := []) (h' := gz_up (gr_h I48 J49) 64 (Int.toNat v5_50) (.inl (I48 0 106))) (C := (True ∧ (0 ≤ v5_50 ∧ v5_50 < ((420 : Nat) : Int)))) rfl ⟨trivial, ⟨by omega, by omega⟩⟩ ?_
                      refine gr_st hI48 FI48 rfl rfl ⟨⟨by show 0 ≤ _; omega, by show _ ≤ 16777215; omega⟩, trivial⟩ (fun I268 hI268 FI268 q269 p269 => ?_)
                      have t270 := p269 0 71 (fun q => absurd q.1 (by decide))
                      have t271 := p269 0 72 (fun q => absurd q.1 (by decide))
                      have t272 := p269 0 73 (fun q => absurd q.1 (by decide))
                      have t273 := p269 0 69 (fun q => absurd q.1 (by decide))
                      have t274 := p269 0 6 (fun q => absurd q.1 (by decide))
                      have t275 := p269 0 59 (fun q => absurd q.1 (by decide))
                      have t276 := p269 0 42 (fun q => absurd q.1 (by decide))
                      have t277 := p269 17 (Int.toNat v1_10) (fun q => absurd q.1 (by decide))
                      have t278 := p269 65 (Int.toNat v5_50) (fun q => absurd q.1 (by decide))
                      have f279 := (show 0 ≤ I268 0 71 ∧ I268 0 71 ≤ 5 from (hI268 0 71).1)
                      have f280 := (show 0 ≤ I268 0 72 ∧ I268 0 72 ≤ 1000 from (hI268 0 72).1)
                      have f281 := (show 0 ≤ I268 0 73 ∧ I268 0 73 ≤ 1001 from (hI268 0 73).1)
                      have f282 := (show 0 ≤ I268 0 69 ∧ I268 0 69 ≤ 1000 from (hI268 0 69).1)
                      have f283 := (show (-1) ≤ I268 0 6 ∧ I268 0 6 ≤ 7 from (hI268 0 6).1)
                      have f284 := (show 0 ≤ I268 0 59 ∧ I268 0 59 ≤ 2000 from (hI268 0 59).1)
                      have f285 := (show 0 ≤ I268 0 42 ∧ I268 0 42 ≤ 2000 from (hI268 0 42).1)
                      have f286 := (show 0 ≤ I268 0 42 ∧ I268 0 42 ≤ 2000 from (hI268 0 42).1)
                      refine gv_run 5 true hD (pc' := 312) (lv' := [(0, .inr (.inr (some 0))), (1, .inl v1_10), (2, .inr (.inl v2_20)), (4, .inl v4_66), (5, .inl v5_50)]) (st' := [.inl (I268 0 42), .inl v5_50, .inr (.inr (some 65))]) (h' := gr_h I268 J49) (C := (((((True ∧ True) ∧ True) ∧ True) ∧ True) ∧ True)) rfl ⟨⟨⟨⟨⟨trivial, trivial⟩, trivial⟩, trivial⟩, trivial⟩, trivial⟩ ?_
                      refine gv_run 1 true hD (pc' := 313) (lv' := [(0, .inr (.inr (some 0))), (1, .inl v1_10), (2, .inr (.inl v2_20)), (4, .inl v4_66), (5, .inl v5_50)]) (st' := []) (h' := gz_up (gr_h I268 J49) 65 (Int.toNat v5_50) (.inl (I268 0 42))) (C := (True ∧ (0 ≤ v5_50 ∧ v5_50 < ((420 : Nat) : Int)))) rfl ⟨trivial, ⟨by omega, by omega⟩⟩ ?_
                      refine gr_st hI268 FI268 rfl rfl ⟨⟨by show 0 ≤ _; omega, by show _ ≤ 2000; omega⟩, trivial⟩ (fun I287 hI287 FI287 q288 p288 => ?_)
                      have t289 := p288 0 71 (fun q => absurd q.1 (by decide))
                      have t290 := p288 0 72 (fun q => absurd q.1 (by decide))
                      have t291 := p288 0 73 (fun q => absurd q.1 (by decide))
                      have t292 := p288 0 69 (fun q => absurd q.1 (by decide))
                      have t293 := p288 0 6 (fun q => absurd q.1 (by decide))
                      have t294 := p288 0 59 (fun q => absurd q.1 (by decide))
                      have t295 := p288 0 42 (fun q => absurd q.1 (by decide))
                      have t296 := p288 17 (Int.toNat v1_10) (fun q => absurd q.1 (by decide))
                      have f297 := (show 0 ≤ I287 0 71 ∧ I287 0 71 ≤ 5 from (hI287 0 71).1)
                      have f298 := (show 0 ≤ I287 0 72 ∧ I287 0 72 ≤ 1000 from (hI287 0 72).1)
                      have f299 := (show 0 ≤ I287 0 73 ∧ I287 0 73 ≤ 1001 from (hI287 0 73).1)
                      have f300 := (show 0 ≤ I287 0 69 ∧ I287 0 69 ≤ 1000 from (hI287 0 69).1)
                      have f301 := (show (-1) ≤ I287 0 6 ∧ I287 0 6 ≤ 7 from (hI287 0 6).1)
                      have f302 := (show 0 ≤ I287 0 59 ∧ I287 0 59 ≤ 2000 from (hI287 0 59).1)
                      have f303 := (show 0 ≤ I287 0 42 ∧ I287 0 42 ≤ 2000 from (hI287 0 42).1)
                      refine gv_run 2 true hD (pc' := 316) (lv' := [(0, .inr (.inr (some 0))), (1, .inl v1_10), (2, .inr (.inl v2_20)), (4, .inl v4_66), (5, .inl v5_50)]) (st' := [.inl 45, .inr (.inr (some 0))]) (h' := gr_h I287 J49) (C := ((True ∧ True) ∧ True)) rfl ⟨⟨trivial, trivial⟩, trivial⟩ ?_
                      obtain ⟨r304, h304, E304, P304⟩ := r_sign (ws0 := ws0) (tb := tb) hws htb ext I287 J49 hI287 45 ⟨by omega, by omega⟩ (by omega)
                      obtain ⟨rfl, ⟨z304, rfl, q304⟩⟩ := P304
                      refine gv_callV hD rfl (As := [.inl 45]) (st := []) rfl (by decide) rfl rfl (gr_lV hws rfl) (Nat.le_of_ble_eq_true rfl) (gz_Ev_mono (d := 1) (by decide) E304) ?_
                      show gv_X _ _ (319, [(0, .inr (.inr (some 0))), (1, .inl v1_10), (2, .inr (.inl v2_20)), (4, .inl v4_66), (5, .inl v5_50)], [.inl z304], gr_sh ++ ext, gr_h I287 J49)
                      refine gv_if_eq (t := 337) hD rfl rfl ⟨by omega, by omega⟩ (fun c305 => ?_) (fun c305 => ?_)
                      · refine gv_run 1 true hD (pc' := 338) (lv' := [(0, .inr (.inr (some 0))), (1, .inl v1_10), (2, .inr (.inl v2_20)), (4, .inl v4_66), (5, .inl v5_50)]) (st' := [.inr (.inr (some 0))]) (h' := gr_h I287 J49) (C := (True ∧ True)) rfl ⟨trivial, trivial⟩ ?_
                        obtain ⟨r306, h306, E306, P306⟩ := r_form (ws0 := ws0) (tb := tb) hws htb ext I287 J49 hI287   (by omega) (by omega) (by omega) (by omega) (by omega) (by omega) (by omega)
                        obtain ⟨I307, J308, rfl, hI307, g306, k306, ⟨z306, rfl, q306⟩⟩ := P306
                        have FI307 := gr_frt FI287 g306 rfl rfl
                        have FJ308 := gr_fjt FJ49 k306 rfl rfl
                        have t309 := g306 0 69 rfl
                        have t310 := g306 0 6 rfl
                        have t311 := g306 17 (Int.toNat v1_10) rfl
                        have t312 := g306 65 (Int.toNat v5_50) rfl
                        have f313 := (show 0 ≤ I307 0 71 ∧ I307 0 71 ≤ 5 from (hI307 0 71).1)
                        have f314 := (show 0 ≤ I307 0 72 ∧ I307 0 72 ≤ 1000 from (hI307 0 72).1)
                        have f315 := (show 0 ≤ I307 0 73 ∧ I307 0 73 ≤ 1001 from (hI307 0 73).1)
                        have f316 := (show 0 ≤ I307 0 69 ∧ I307 0 69 ≤ 1000 from (hI307 0 69).1)
                        have f317 := (show (-1) ≤ I307 0 6 ∧ I307 0 6 ≤ 7 from (hI307 0 6).1)
                        have f318 := (show 0 ≤ I307 0 59 ∧ I307 0 59 ≤ 2000 from (hI307 0 59).1)
                        have f319 := (show 0 ≤ I307 0 42 ∧ I307 0 42 ≤ 2000 from (hI307 0 42).1)
                        refine gv_callV hD rfl (As := []) (st := []) rfl (by decide) rfl rfl (gr_lV hws rfl) (Nat.le_of_ble_eq_true rfl) (gz_Ev_mono (d := 11) (by decide) E306) ?_
                        show gv_X _ _ (341, [(0, .inr (.inr (some 0))), (1, .inl v1_10), (2, .inr (.inl v2_20)), (4, .inl v4_66), (5, .inl v5_50)], [.inl z306], gr_sh ++ ext, gr_h I307 J308)
                        refine gv_if_ne (t := 346) hD rfl rfl ⟨by omega, by omega⟩ (fun c320 => ?_) (fun c320 => ?_)
                        · have f321 := (show 0 ≤ I307 0 42 ∧ I307 0 42 ≤ 2000 from (hI307 0 42).1)
                          refine gv_run 7 true hD (pc' := 360) (lv' := [(0, .inr (.inr (some 0))), (1, .inl v1_10), (2, .inr (.inl v2_20)), (4, .inl v4_66), (5, .inl v5_50)]) (st' := [.inr (.inr (some 65)), .inl (I307 0 42), .inl v5_50, .inr (.inr (some 66))]) (h' := gr_h I307 J308) (C := (((((((True ∧ True) ∧ True) ∧ True) ∧ True) ∧ True) ∧ True) ∧ True)) rfl ⟨⟨⟨⟨⟨⟨⟨trivial, trivial⟩, trivial⟩, trivial⟩, trivial⟩, trivial⟩, trivial⟩, trivial⟩ ?_
                          have f322 := (show 0 ≤ I307 65 (Int.toNat v5_50) ∧ I307 65 (Int.toNat v5_50) ≤ 2000 from (hI307 65 (Int.toNat v5_50)).1)
                          refine gv_run 2 true hD (pc' := 363) (lv' := [(0, .inr (.inr (some 0))), (1, .inl v1_10), (2, .inr (.inl v2_20)), (4, .inl v4_66), (5, .inl v5_50)]) (st' := [.inl (I307 65 (Int.toNat v5_50)), .inl (I307 0 42), .inl v5_50, .inr (.inr (some 66))]) (h' := gr_h I307 J308) (C := ((True ∧ True) ∧ (0 ≤ v5_50 ∧ v5_50 < ((420 : Nat) : Int)))) rfl ⟨⟨trivial, trivial⟩, ⟨by omega, by omega⟩⟩ ?_
                          refine gv_run 2 true hD (pc' := 365) (lv' := [(0, .inr (.inr (some 0))), (1, .inl v1_10), (2, .inr (.inl v2_20)), (4, .inl v4_66), (5, .inl v5_50)]) (st' := []) (h' := gz_up (gr_h I307 J308) 66 (Int.toNat v5_50) (.inl (((I307 0 42) - (I307 65 (Int.toNat v5_50)))))) (C := ((True ∧ True) ∧ (0 ≤ v5_50 ∧ v5_50 < ((420 : Nat) : Int)))) rfl ⟨⟨trivial, trivial⟩, ⟨by omega, by omega⟩⟩ ?_
                          refine gr_st hI307 FI307 rfl rfl ⟨⟨by show (-1) ≤ _; omega, by show _ ≤ 2000; omega⟩, trivial⟩ (fun I323 hI323 FI323 q324 p324 => ?_)
                          have t325 := p324 0 71 (fun q => absurd q.1 (by decide))
                          have t326 := p324 0 72 (fun q => absurd q.1 (by decide))
                          have t327 := p324 0 73 (fun q => absurd q.1 (by decide))
                          have t328 := p324 0 69 (fun q => absurd q.1 (by decide))
                          have t329 := p324 0 6 (fun q => absurd q.1 (by decide))
                          have t330 := p324 0 59 (fun q => absurd q.1 (by decide))
                          have t331 := p324 0 42 (fun q => absurd q.1 (by decide))
                          have t332 := p324 17 (Int.toNat v1_10) (fun q => absurd q.1 (by decide))
                          have t333 := p324 65 (Int.toNat v5_50) (fun q => absurd q.1 (by decide))
                          have f334 := (show 0 ≤ I323 0 71 ∧ I323 0 71 ≤ 5 from (hI323 0 71).1)
                          have f335 := (show 0 ≤ I323 0 72 ∧ I323 0 72 ≤ 1000 from (hI323 0 72).1)
                          have f336 := (show 0 ≤ I323 0 73 ∧ I323 0 73 ≤ 1001 from (hI323 0 73).1)
                          have f337 := (show 0 ≤ I323 0 69 ∧ I323 0 69 ≤ 1000 from (hI323 0 69).1)
                          have f338 := (show (-1) ≤ I323 0 6 ∧ I323 0 6 ≤ 7 from (hI323 0 6).1)
                          have f339 := (show 0 ≤ I323 0 59 ∧ I323 0 59 ≤ 2000 from (hI323 0 59).1)
                          have f340 := (show 0 ≤ I323 0 42 ∧ I323 0 42 ≤ 2000 from (hI323 0 42).1)
                          refine gv_pick [0, 1, 2, 3] rfl ?_
                          exact L365 I323 J308 hI323 FI323 FJ308 (by omega)
                        · refine gv_run 1 true hD (pc' := 345) (lv' := [(0, .inr (.inr (some 0))), (1, .inl v1_10), (2, .inr (.inl v2_20)), (4, .inl v4_66), (5, .inl v5_50)]) (st' := [.inl 0]) (h' := gr_h I307 J308) (C := (True ∧ True)) rfl ⟨trivial, trivial⟩ ?_
                          exact gv_zret hD rfl (by omega) ⟨I307, J308, rfl, hI307, FI307, FJ308, ⟨_, rfl, by omega⟩⟩
                      · refine gv_run 4 true hD (pc' := 329) (lv' := [(0, .inr (.inr (some 0))), (1, .inl v1_10), (2, .inr (.inl v2_20)), (4, .inl v4_66), (5, .inl v5_50)]) (st' := [.inl (-1), .inl v5_50, .inr (.inr (some 66))]) (h' := gr_h I287 J49) (C := ((((True ∧ True) ∧ True) ∧ True) ∧ True)) rfl ⟨⟨⟨⟨trivial, trivial⟩, trivial⟩, trivial⟩, trivial⟩ ?_
                        refine gv_run 1 true hD (pc' := 330) (lv' := [(0, .inr (.inr (some 0))), (1, .inl v1_10), (2, .inr (.inl v2_20)), (4, .inl v4_66), (5, .inl v5_50)]) (st' := []) (h' := gz_up (gr_h I287 J49) 66 (Int.toNat v5_50) (.inl (-1))) (C := (True ∧ (0 ≤ v5_50 ∧ v5_50 < ((420 : Nat) : Int)))) rfl ⟨trivial, ⟨by omega, by omega⟩⟩ ?_
                        refine gr_st hI287 FI287 rfl rfl ⟨⟨by show (-1) ≤ _; omega, by show _ ≤ 2000; omega⟩, trivial⟩ (fun I341 hI341 FI341 q342 p342 => ?_)
                        have t343 := p342 0 71 (fun q => absurd q.1 (by decide))
                        have t344 := p342 0 72 (fun q => absurd q.1 (by decide))
                        have t345 := p342 0 73 (fun q => absurd q.1 (by decide))
                        have t346 := p342 0 69 (fun q => absurd q.1 (by decide))
                        have t347 := p342 0 6 (fun q => absurd q.1 (by decide))
                        have t348 := p342 0 59 (fun q => absurd q.1 (by decide))
                        have t349 := p342 0 42 (fun q => absurd q.1 (by decide))
                        have t350 := p342 17 (Int.toNat v1_10) (fun q => absurd q.1 (by decide))
                        have t351 := p342 65 (Int.toNat v5_50) (fun q => absurd q.1 (by decide))
                        have f352 := (show 0 ≤ I341 0 71 ∧ I341 0 71 ≤ 5 from (hI341 0 71).1)
                        have f353 := (show 0 ≤ I341 0 72 ∧ I341 0 72 ≤ 1000 from (hI341 0 72).1)
                        have f354 := (show 0 ≤ I341 0 73 ∧ I341 0 73 ≤ 1001 from (hI341 0 73).1)
                        have f355 := (show 0 ≤ I341 0 69 ∧ I341 0 69 ≤ 1000 from (hI341 0 69).1)
                        have f356 := (show (-1) ≤ I341 0 6 ∧ I341 0 6 ≤ 7 from (hI341 0 6).1)
                        have f357 := (show 0 ≤ I341 0 59 ∧ I341 0 59 ≤ 2000 from (hI341 0 59).1)
                        have f358 := (show 0 ≤ I341 0 42 ∧ I341 0 42 ≤ 2000 from (hI341 0 42).1)
                        refine gv_run 1 true hD (pc' := 331) (lv' := [(0, .inr (.inr (some 0))), (1, .inl v1_10), (2, .inr (.inl v2_20)), (4, .inl v4_66), (5, .inl v5_50)]) (st' := [.inr (.inr (some 0))]) (h' := gr_h I341 J49) (C := (True ∧ True)) rfl ⟨trivial, trivial⟩ ?_
                        obtain ⟨r359, h359, E359, P359⟩ := r_next (ws0 := ws0) (tb := tb) hws htb ext I341 J49 hI341   (by omega)
                        obtain ⟨I360, J361, rfl, hI360, g359, k359, ⟨rfl, q359⟩⟩ := P359
                        have FI360 := gr_frt FI341 g359 rfl rfl
                        have FJ361 := gr_fjt FJ49 k359 rfl rfl
                        have t362 := g359 0 69 rfl
                        have t363 := g359 0 6 rfl
                        have t364 := g359 0 59 rfl
                        have t365 := g359 0 42 rfl
                        have t366 := g359 17 (Int.toNat v1_10) rfl
                        have t367 := g359 65 (Int.toNat v5_50) rfl
                        have f368 := (show 0 ≤ I360 0 71 ∧ I360 0 71 ≤ 5 from (hI360 0 71).1)
                        have f369 := (show 0 ≤ I360 0 72 ∧ I360 0 72 ≤ 1000 from (hI360 0 72).1)
                        have f370 := (show 0 ≤ I360 0 73 ∧ I360 0 73 ≤ 1001 from (hI360 0 73).1)
                        have f371 := (show 0 ≤ I360 0 69 ∧ I360 0 69 ≤ 1000 from (hI360 0 69).1)
                        have f372 := (show (-1) ≤ I360 0 6 ∧ I360 0 6 ≤ 7 from (hI360 0 6).1)
                        have f373 := (show 0 ≤ I360 0 59 ∧ I360 0 59 ≤ 2000 from (hI360 0 59).1)
                        have f374 := (show 0 ≤ I360 0 42 ∧ I360 0 42 ≤ 2000 from (hI360 0 42).1)
                        refine gv_callV hD rfl (As := []) (st := []) rfl (by decide) rfl rfl (gr_lV hws rfl) (Nat.le_of_ble_eq_true rfl) (gz_Ev_mono (d := 10) (by decide) E359) ?_
                        show gv_X _ _ (334, [(0, .inr (.inr (some 0))), (1, .inl v1_10), (2, .inr (.inl v2_20)), (4, .inl v4_66), (5, .inl v5_50)], [], gr_sh ++ ext, gr_h I360 J361)
                        refine gv_run 1 true hD (pc' := 365) (lv' := [(0, .inr (.inr (some 0))), (1, .inl v1_10), (2, .inr (.inl v2_20)), (4, .inl v4_66), (5, .inl v5_50)]) (st' := []) (h' := gr_h I360 J361) (C := (True ∧ True)) rfl ⟨trivial, trivial⟩ ?_
                        refine gv_pick [0, 1, 2, 3] rfl ?_
                        exact L365 I360 J361 hI360 FI360 FJ361 (by omega)
                    refine gv_run 2 true hD (pc' := 285) (lv' := [(0, .inr (.inr (some 0))), (1, .inl v1_10), (2, .inr (.inl v2_20)), (4, .inl v4_30), (5, .inl v5_50)]) (st' := [.inl v4_30, .inl v5_50]) (h' := gr_h I48 J49) (C := ((True ∧ True) ∧ True)) rfl ⟨⟨trivial, trivial⟩, trivial⟩ ?_
                    refine gv_icmp_ne (t := 291) hD rfl rfl ⟨⟨by omega, by omega⟩, ⟨by omega, by omega⟩⟩ (fun c375 => ?_) (fun c375 => ?_)
                    · exact L291 v4_30 (by omega)
                    · refine gv_run 1 true hD (pc' := 291) (lv' := [(4, .inl (v4_30 + 1)), (0, .inr (.inr (some 0))), (1, .inl v1_10), (2, .inr (.inl v2_20)), (5, .inl v5_50)]) (st' := []) (h' := gr_h I48 J49) (C := (True ∧ True)) rfl ⟨trivial, trivial⟩ ?_
                      refine gv_pick [1, 2, 3, 0, 4] rfl ?_
                      exact L291 (v4_30 + 1) (by omega)
                  refine gv_run 2 true hD (pc' := 258) (lv' := [(0, .inr (.inr (some 0))), (1, .inl v1_10), (2, .inr (.inl v2_20)), (4, .inl v4_30), (5, .inl v5_50)]) (st' := [.inl v4_30, .inl v5_50]) (h' := gr_h I48 J49) (C := ((True ∧ True) ∧ True)) rfl ⟨⟨trivial, trivial⟩, trivial⟩ ?_
                  refine gv_icmp_ge (t := 281) hD rfl rfl ⟨⟨by omega, by omega⟩, ⟨by omega, by omega⟩⟩ (fun c376 => ?_) (fun c376 => ?_)
                  · exact L281 (by omega)
                  · have f377 := (show 0 ≤ I48 64 (Int.toNat v5_50) ∧ I48 64 (Int.toNat v5_50) ≤ 16777215 from (hI48 64 (Int.toNat v5_50)).1)
                    refine gv_run 4 true hD (pc' := 268) (lv' := [(0, .inr (.inr (some 0))), (1, .inl v1_10), (2, .inr (.inl v2_20)), (4, .inl v4_30), (5, .inl v5_50)]) (st' := [.inl (I48 64 (Int.toNat v5_50))]) (h' := gr_h I48 J49) (C := ((((True ∧ True) ∧ True) ∧ True) ∧ (0 ≤ v5_50 ∧ v5_50 < ((420 : Nat) : Int)))) rfl ⟨⟨⟨⟨trivial, trivial⟩, trivial⟩, trivial⟩, ⟨by omega, by omega⟩⟩ ?_
                    have f378 := (show 0 ≤ I48 0 106 ∧ I48 0 106 ≤ 16777215 from (hI48 0 106).1)
                    refine gv_run 2 true hD (pc' := 272) (lv' := [(0, .inr (.inr (some 0))), (1, .inl v1_10), (2, .inr (.inl v2_20)), (4, .inl v4_30), (5, .inl v5_50)]) (st' := [.inl (I48 0 106), .inl (I48 64 (Int.toNat v5_50))]) (h' := gr_h I48 J49) (C := ((True ∧ True) ∧ True)) rfl ⟨⟨trivial, trivial⟩, trivial⟩ ?_
                    refine gv_icmp_eq (t := 281) hD rfl rfl ⟨⟨by omega, by omega⟩, ⟨by omega, by omega⟩⟩ (fun c379 => ?_) (fun c379 => ?_)
                    · exact L281 (by omega)
                    · refine gv_run 2 true hD (pc' := 254) (lv' := [(5, .inl (v5_50 + 1)), (0, .inr (.inr (some 0))), (1, .inl v1_10), (2, .inr (.inl v2_20)), (4, .inl v4_30)]) (st' := []) (h' := gr_h I48 J49) (C := ((True ∧ True) ∧ True)) rfl ⟨⟨trivial, trivial⟩, trivial⟩ ?_
                      refine gv_pick [1, 2, 3, 4, 0] rfl ?_
                      exact ih254 I48 J49 (v5_50 + 1) (by omega) hI48 FI48 FJ49 (by omega)
              have f380 := (show 0 ≤ I38 0 71 ∧ I38 0 71 ≤ 5 from (hI38 0 71).1)
              refine gv_run 3 true hD (pc' := 228) (lv' := [(0, .inr (.inr (some 0))), (1, .inl v1_10), (2, .inr (.inl v2_20)), (4, .inl v4_30)]) (st' := [.inl 1, .inl (I38 0 71)]) (h' := gr_h I38 J39) (C := (((True ∧ True) ∧ True) ∧ True)) rfl ⟨⟨⟨trivial, trivial⟩, trivial⟩, trivial⟩ ?_
              refine gv_icmp_ne (t := 240) hD rfl rfl ⟨⟨by omega, by omega⟩, ⟨by omega, by omega⟩⟩ (fun c381 => ?_) (fun c381 => ?_)
              · refine gv_run 2 true hD (pc' := 243) (lv' := [(0, .inr (.inr (some 0))), (1, .inl v1_10), (2, .inr (.inl v2_20)), (4, .inl v4_30)]) (st' := [.inl 61, .inr (.inr (some 0))]) (h' := gr_h I38 J39) (C := ((True ∧ True) ∧ True)) rfl ⟨⟨trivial, trivial⟩, trivial⟩ ?_
                obtain ⟨r382, h382, E382, P382⟩ := r_need (ws0 := ws0) (tb := tb) hws htb ext I38 J39 hI38 61 ⟨by omega, by omega⟩ (by omega) (by omega) (by omega) (by omega) (by omega)
                obtain ⟨I383, J384, rfl, hI383, g382, k382, ⟨z382, rfl, q382⟩⟩ := P382
                have FI383 := gr_frt FI38 g382 rfl rfl
                have FJ384 := gr_fjt FJ39 k382 rfl rfl
                have t385 := g382 0 69 rfl
                have t386 := g382 0 6 rfl
                have t387 := g382 0 59 rfl
                have t388 := g382 0 42 rfl
                have t389 := g382 17 (Int.toNat v1_10) rfl
                have f390 := (show 0 ≤ I383 0 71 ∧ I383 0 71 ≤ 5 from (hI383 0 71).1)
                have f391 := (show 0 ≤ I383 0 72 ∧ I383 0 72 ≤ 1000 from (hI383 0 72).1)
                have f392 := (show 0 ≤ I383 0 73 ∧ I383 0 73 ≤ 1001 from (hI383 0 73).1)
                have f393 := (show 0 ≤ I383 0 69 ∧ I383 0 69 ≤ 1000 from (hI383 0 69).1)
                have f394 := (show (-1) ≤ I383 0 6 ∧ I383 0 6 ≤ 7 from (hI383 0 6).1)
                have f395 := (show 0 ≤ I383 0 59 ∧ I383 0 59 ≤ 2000 from (hI383 0 59).1)
                have f396 := (show 0 ≤ I383 0 42 ∧ I383 0 42 ≤ 2000 from (hI383 0 42).1)
                refine gv_callV hD rfl (As := [.inl 61]) (st := []) rfl (by decide) rfl rfl (gr_lV hws rfl) (Nat.le_of_ble_eq_true rfl) (gz_Ev_mono (d := 11) (by decide) E382) ?_
                show gv_X _ _ (246, [(0, .inr (.inr (some 0))), (1, .inl v1_10), (2, .inr (.inl v2_20)), (4, .inl v4_30)], [.inl z382], gr_sh ++ ext, gr_h I383 J384)
                refine gv_if_ne (t := 251) hD rfl rfl ⟨by omega, by omega⟩ (fun c397 => ?_) (fun c397 => ?_)
                · refine gv_run 2 true hD (pc' := 254) (lv' := [(5, .inl 0), (0, .inr (.inr (some 0))), (1, .inl v1_10), (2, .inr (.inl v2_20)), (4, .inl v4_30)]) (st' := []) (h' := gr_h I383 J384) (C := ((True ∧ True) ∧ True)) rfl ⟨⟨trivial, trivial⟩, trivial⟩ ?_
                  refine gv_pick [1, 2, 3, 4, 0] rfl ?_
                  exact L254 _ I383 J384 0 (Nat.lt_succ_self _) hI383 FI383 FJ384 (by omega)
                · refine gv_run 1 true hD (pc' := 250) (lv' := [(0, .inr (.inr (some 0))), (1, .inl v1_10), (2, .inr (.inl v2_20)), (4, .inl v4_30)]) (st' := [.inl 0]) (h' := gr_h I383 J384) (C := (True ∧ True)) rfl ⟨trivial, trivial⟩ ?_
                  exact gv_zret hD rfl (by omega) ⟨I383, J384, rfl, hI383, FI383, FJ384, ⟨_, rfl, by omega⟩⟩
              · refine gv_run 1 true hD (pc' := 232) (lv' := [(0, .inr (.inr (some 0))), (1, .inl v1_10), (2, .inr (.inl v2_20)), (4, .inl v4_30)]) (st' := [.inr (.inr (some 0))]) (h' := gr_h I38 J39) (C := (True ∧ True)) rfl ⟨trivial, trivial⟩ ?_
                obtain ⟨r398, h398, E398, P398⟩ := r_oneValue (ws0 := ws0) (tb := tb) hws htb ext I38 J39 hI38   (by omega) (by omega) (by omega) (by omega) (by omega) (by omega) (by omega)
                obtain ⟨I399, J400, rfl, hI399, g398, k398, ⟨z398, rfl, q398⟩⟩ := P398
                have FI399 := gr_frt FI38 g398 rfl rfl
                have FJ400 := gr_fjt FJ39 k398 rfl rfl
                have t401 := g398 0 69 rfl
                have t402 := g398 0 6 rfl
                have t403 := g398 0 59 rfl
                have t404 := g398 0 42 rfl
                have t405 := g398 17 (Int.toNat v1_10) rfl
                have f406 := (show 0 ≤ I399 0 71 ∧ I399 0 71 ≤ 5 from (hI399 0 71).1)
                have f407 := (show 0 ≤ I399 0 72 ∧ I399 0 72 ≤ 1000 from (hI399 0 72).1)
                have f408 := (show 0 ≤ I399 0 73 ∧ I399 0 73 ≤ 1001 from (hI399 0 73).1)
                have f409 := (show 0 ≤ I399 0 69 ∧ I399 0 69 ≤ 1000 from (hI399 0 69).1)
                have f410 := (show (-1) ≤ I399 0 6 ∧ I399 0 6 ≤ 7 from (hI399 0 6).1)
                have f411 := (show 0 ≤ I399 0 59 ∧ I399 0 59 ≤ 2000 from (hI399 0 59).1)
                have f412 := (show 0 ≤ I399 0 42 ∧ I399 0 42 ≤ 2000 from (hI399 0 42).1)
                refine gv_callV hD rfl (As := []) (st := []) rfl (by decide) rfl rfl (gr_lV hws rfl) (Nat.le_of_ble_eq_true rfl) (gz_Ev_mono (d := 11) (by decide) E398) ?_
                show gv_X _ _ (235, [(0, .inr (.inr (some 0))), (1, .inl v1_10), (2, .inr (.inl v2_20)), (4, .inl v4_30)], [.inl z398], gr_sh ++ ext, gr_h I399 J400)
                refine gv_if_ne (t := 223) hD rfl rfl ⟨by omega, by omega⟩ (fun c413 => ?_) (fun c413 => ?_)
                · exact ih223 I399 J400 (by omega) hI399 FI399 FJ400 (by omega)
                · refine gv_run 1 true hD (pc' := 239) (lv' := [(0, .inr (.inr (some 0))), (1, .inl v1_10), (2, .inr (.inl v2_20)), (4, .inl v4_30)]) (st' := [.inl 0]) (h' := gr_h I399 J400) (C := (True ∧ True)) rfl ⟨trivial, trivial⟩ ?_
                  exact gv_zret hD rfl (by omega) ⟨I399, J400, rfl, hI399, FI399, FJ400, ⟨_, rfl, by omega⟩⟩
          refine gv_run 3 true hD (pc' := 223) (lv' := [(0, .inr (.inr (some 0))), (1, .inl v1_10), (2, .inr (.inl v2_20)), (4, .inl v4_30)]) (st' := []) (h' := gz_up (gr_h I28 J29) 0 106 (.inl 0)) (C := (((True ∧ True) ∧ True) ∧ True)) rfl ⟨⟨⟨trivial, trivial⟩, trivial⟩, trivial⟩ ?_
          refine gr_st hI28 FI28 rfl rfl ⟨⟨by show 0 ≤ _; omega, by show _ ≤ 16777215; omega⟩, trivial⟩ (fun I414 hI414 FI414 q415 p415 => ?_)
          have t416 := p415 0 71 (by decide)
          have t417 := p415 0 72 (by decide)
          have t418 := p415 0 73 (by decide)
          have t419 := p415 0 69 (by decide)
          have t420 := p415 0 6 (by decide)
          have t421 := p415 0 59 (by decide)
          have t422 := p415 0 42 (by decide)
          have t423 := p415 17 (Int.toNat v1_10) (fun q => absurd q.1 (by decide))
          have f424 := (show 0 ≤ I414 0 71 ∧ I414 0 71 ≤ 5 from (hI414 0 71).1)
          have f425 := (show 0 ≤ I414 0 72 ∧ I414 0 72 ≤ 1000 from (hI414 0 72).1)
          have f426 := (show 0 ≤ I414 0 73 ∧ I414 0 73 ≤ 1001 from (hI414 0 73).1)
          have f427 := (show 0 ≤ I414 0 69 ∧ I414 0 69 ≤ 1000 from (hI414 0 69).1)
          have f428 := (show (-1) ≤ I414 0 6 ∧ I414 0 6 ≤ 7 from (hI414 0 6).1)
          have f429 := (show 0 ≤ I414 0 59 ∧ I414 0 59 ≤ 2000 from (hI414 0 59).1)
          have f430 := (show 0 ≤ I414 0 42 ∧ I414 0 42 ≤ 2000 from (hI414 0 42).1)
          exact L223 _ I414 J29 (Nat.lt_succ_self _) hI414 FI414 FJ29 (by omega)
      refine gv_run 2 true hD (pc' := 210) (lv' := [(0, .inr (.inr (some 0))), (1, .inl v1_10), (2, .inr (.inl v2_20)), (4, .inl v4_20)]) (st' := [.inl 123, .inr (.inr (some 0))]) (h' := gr_h I18 J19) (C := ((True ∧ True) ∧ True)) rfl ⟨⟨trivial, trivial⟩, trivial⟩ ?_
      obtain ⟨r431, h431, E431, P431⟩ := r_need (ws0 := ws0) (tb := tb) hws htb ext I18 J19 hI18 123 ⟨by omega, by omega⟩ (by omega) (by omega) (by omega) (by omega) (by omega)
      obtain ⟨I432, J433, rfl, hI432, g431, k431, ⟨z431, rfl, q431⟩⟩ := P431
      have FI432 := gr_frt FI18 g431 rfl rfl
      have FJ433 := gr_fjt FJ19 k431 rfl rfl
      have t434 := g431 0 69 rfl
      have t435 := g431 0 6 rfl
      have t436 := g431 0 59 rfl
      have t437 := g431 0 42 rfl
      have t438 := g431 17 (Int.toNat v1_10) rfl
      have f439 := (show 0 ≤ I432 0 71 ∧ I432 0 71 ≤ 5 from (hI432 0 71).1)
      have f440 := (show 0 ≤ I432 0 72 ∧ I432 0 72 ≤ 1000 from (hI432 0 72).1)
      have f441 := (show 0 ≤ I432 0 73 ∧ I432 0 73 ≤ 1001 from (hI432 0 73).1)
      have f442 := (show 0 ≤ I432 0 69 ∧ I432 0 69 ≤ 1000 from (hI432 0 69).1)
      have f443 := (show (-1) ≤ I432 0 6 ∧ I432 0 6 ≤ 7 from (hI432 0 6).1)
      have f444 := (show 0 ≤ I432 0 59 ∧ I432 0 59 ≤ 2000 from (hI432 0 59).1)
      have f445 := (show 0 ≤ I432 0 42 ∧ I432 0 42 ≤ 2000 from (hI432 0 42).1)
      refine gv_callV hD rfl (As := [.inl 123]) (st := []) rfl (by decide) rfl rfl (gr_lV hws rfl) (Nat.le_of_ble_eq_true rfl) (gz_Ev_mono (d := 11) (by decide) E431) ?_
      show gv_X _ _ (213, [(0, .inr (.inr (some 0))), (1, .inl v1_10), (2, .inr (.inl v2_20)), (4, .inl v4_20)], [.inl z431], gr_sh ++ ext, gr_h I432 J433)
      refine gv_if_ne (t := 218) hD rfl rfl ⟨by omega, by omega⟩ (fun c446 => ?_) (fun c446 => ?_)
      · exact L218 _ I432 J433 v4_20 (Nat.lt_succ_self _) hI432 FI432 FJ433 (by omega)
      · refine gv_run 1 true hD (pc' := 217) (lv' := [(0, .inr (.inr (some 0))), (1, .inl v1_10), (2, .inr (.inl v2_20)), (4, .inl v4_20)]) (st' := [.inl 0]) (h' := gr_h I432 J433) (C := (True ∧ True)) rfl ⟨trivial, trivial⟩ ?_
        exact gv_zret hD rfl (by omega) ⟨I432, J433, rfl, hI432, FI432, FJ433, ⟨_, rfl, by omega⟩⟩
    have L77 : ∀ (I447 : gr_I) (J448 : gr_J) (v2_449 : Int64) (v4_449 : Int), gr_Inv I447 → gr_fr [42, 59, 71, 72, 73, 74, 75, 76, 77, 106] [17, 23, 31, 32, 33, 34, 35, 51, 57, 64, 65, 66] I I447 → gr_fj [42, 59, 71, 72, 73, 74, 75, 76, 77, 106] [17, 23, 31, 32, 33, 34, 35, 51, 57, 64, 65, 66] J J448 → ((0 ≤ v1_10 ∧ v1_10 ≤ 7) ∧ (0 ≤ v4_449 ∧ v4_449 ≤ 0) ∧ (I447 0 71 = 1) ∧ (I447 0 71 = 5 ∨ I447 0 73 ≤ I447 0 69) ∧ (I447 0 72 ≤ I447 0 69) ∧ (I447 0 71 = 0 ∨ (I447 0 72 < I447 0 73 ∧ I447 0 72 < I447 0 69)) ∧ (I447 0 71 = 3 → 2 ≤ I447 0 73 - I447 0 72 ∧ I447 0 73 - I447 0 72 ≤ 14) ∧ (I447 0 72 ≤ I447 0 73) ∧ (I447 0 69 = I 0 69) ∧ (I 0 73 ≤ I447 0 73) ∧ (I 0 72 ≤ I447 0 72) ∧ (I447 0 6 = I 0 6) ∧ (I447 0 59 - I447 0 72 ≤ I 0 59 - I 0 72) ∧ (I447 0 42 - I447 0 72 ≤ I 0 42 - I 0 72)) → gv_X (gr_E ws0 tb 11 (yX13_pattern, cX13_pattern, 8, (some .boolean)) kX13_pattern) (gv_Q cX13_pattern (some .boolean) (gr_sh ++ ext) (fun r h' => (∃ (I' : gr_I) (J' : gr_J), h' = gr_h I' J' ∧ gr_Inv I' ∧ gr_fr [42, 59, 71, 72, 73, 74, 75, 76, 77, 106] [17, 23, 31, 32, 33, 34, 35, 51, 57, 64, 65, 66] I I' ∧ gr_fj [42, 59, 71, 72, 73, 74, 75, 76, 77, 106] [17, 23, 31, 32, 33, 34, 35, 51, 57, 64, 65, 66] J J' ∧ (∃ z : Int, r = some (.inl z) ∧ 0 ≤ z ∧ z ≤ 1 ∧ (I' 0 71 = 5 ∨ I' 0 73 ≤ I' 0 69) ∧ (I' 0 72 ≤ I' 0 69) ∧ (I' 0 71 = 0 ∨ (I' 0 72 < I' 0 73 ∧ I' 0 72 < I' 0 69)) ∧ (I' 0 71 = 3 → 2 ≤ I' 0 73 - I' 0 72 ∧ I' 0 73 - I' 0 72 ≤ 14) ∧ (I' 0 72 ≤ I' 0 73) ∧ (I' 0 69 = I 0 69) ∧ (I 0 73 ≤ I' 0 73) ∧ (I 0 72 ≤ I' 0 72) ∧ (I' 0 59 - I' 0 72 ≤ I 0 59 - I 0 72) ∧ (I' 0 42 - I' 0 72 ≤ I 0 42 - I 0 72))))) (77, [(0, .inr (.inr (some 0))), (1, .inl v1_10), (2, .inr (.inl v2_449)), (4, .inl v4_449)], [], gr_sh ++ ext, gr_h I447 J448) := by
      intro I447 J448 v2_449 v4_449 hI447 FI447 FJ448 m_449
      clear hv1_10 e0_10 e1_10 e2_10 e3_10 e4_10 e5_10 e6_10 e7_10 e8_10 e9_10 e10_10 e11_10 f11 f12 f13 f14 f15 f16 f17
      obtain ⟨hv1_10_449, hv4_449, e0_449, e1_449, e2_449, e3_449, e4_449, e5_449, e6_449, e7_449, e8_449, e9_449, e10_449, e11_449⟩ := m_449
      have f450 := (show 0 ≤ I447 0 71 ∧ I447 0 71 ≤ 5 from (hI447 0 71).1)
      have f451 := (show 0 ≤ I447 0 72 ∧ I447 0 72 ≤ 1000 from (hI447 0 72).1)
      have f452 := (show 0 ≤ I447 0 73 ∧ I447 0 73 ≤ 1001 from (hI447 0 73).1)
      have f453 := (show 0 ≤ I447 0 69 ∧ I447 0 69 ≤ 1000 from (hI447 0 69).1)
      have f454 := (show (-1) ≤ I447 0 6 ∧ I447 0 6 ≤ 7 from (hI447 0 6).1)
      have f455 := (show 0 ≤ I447 0 59 ∧ I447 0 59 ≤ 2000 from (hI447 0 59).1)
      have f456 := (show 0 ≤ I447 0 42 ∧ I447 0 42 ≤ 2000 from (hI447 0 42).1)
      have L130 : ∀ (n : Nat) (I457 : gr_I) (J458 : gr_J) (v4_459 : Int) (v5_459 : Int) (v6_459 : Int) (v7_459 : Int), (25 - v4_459).toNat < n → gr_Inv I457 → gr_fr [42, 59, 71, 72, 73, 74, 75, 76, 77, 106] [17, 23, 31, 32, 33, 34, 35, 51, 57, 64, 65, 66] I I457 → gr_fj [42, 59, 71, 72, 73, 74, 75, 76, 77, 106] [17, 23, 31, 32, 33, 34, 35, 51, 57, 64, 65, 66] J J458 → ((0 ≤ v1_10 ∧ v1_10 ≤ 7) ∧ (0 ≤ v4_459 ∧ v4_459 ≤ 24) ∧ (0 ≤ v5_459 ∧ v5_459 ≤ 23) ∧ (0 ≤ v6_459 ∧ v6_459 ≤ 4584) ∧ (0 ≤ v7_459 ∧ v7_459 ≤ 24) ∧ (v4_459 = v7_459) ∧ (I457 0 71 = 5 ∨ I457 0 73 ≤ I457 0 69) ∧ (I457 0 72 ≤ I457 0 69) ∧ (I457 0 71 = 0 ∨ (I457 0 72 < I457 0 73 ∧ I457 0 72 < I457 0 69)) ∧ (I457 0 71 = 3 → 2 ≤ I457 0 73 - I457 0 72 ∧ I457 0 73 - I457 0 72 ≤ 14) ∧ (I457 0 72 ≤ I457 0 73) ∧ (I457 0 69 = I 0 69) ∧ (I 0 73 ≤ I457 0 73) ∧ (I 0 72 ≤ I457 0 72) ∧ (I457 0 6 = I 0 6) ∧ (I457 0 59 - I457 0 72 ≤ I 0 59 - I 0 72) ∧ (I457 0 42 - I457 0 72 ≤ I 0 42 - I 0 72)) → gv_X (gr_E ws0 tb 11 (yX13_pattern, cX13_pattern, 8, (some .boolean)) kX13_pattern) (gv_Q cX13_pattern (some .boolean) (gr_sh ++ ext) (fun r h' => (∃ (I' : gr_I) (J' : gr_J), h' = gr_h I' J' ∧ gr_Inv I' ∧ gr_fr [42, 59, 71, 72, 73, 74, 75, 76, 77, 106] [17, 23, 31, 32, 33, 34, 35, 51, 57, 64, 65, 66] I I' ∧ gr_fj [42, 59, 71, 72, 73, 74, 75, 76, 77, 106] [17, 23, 31, 32, 33, 34, 35, 51, 57, 64, 65, 66] J J' ∧ (∃ z : Int, r = some (.inl z) ∧ 0 ≤ z ∧ z ≤ 1 ∧ (I' 0 71 = 5 ∨ I' 0 73 ≤ I' 0 69) ∧ (I' 0 72 ≤ I' 0 69) ∧ (I' 0 71 = 0 ∨ (I' 0 72 < I' 0 73 ∧ I' 0 72 < I' 0 69)) ∧ (I' 0 71 = 3 → 2 ≤ I' 0 73 - I' 0 72 ∧ I' 0 73 - I' 0 72 ≤ 14) ∧ (I' 0 72 ≤ I' 0 73) ∧ (I' 0 69 = I 0 69) ∧ (I 0 73 ≤ I' 0 73) ∧ (I 0 72 ≤ I' 0 72) ∧ (I' 0 59 - I' 0 72 ≤ I 0 59 - I 0 72) ∧ (I' 0 42 - I' 0 72 ≤ I 0 42 - I 0 72))))) (130, [(0, .inr (.inr (some 0))), (1, .inl v1_10), (2, .inr (.inl v2_449)), (4, .inl v4_459), (5, .inl v5_459), (6, .inl v6_459), (7, .inl v7_459)], [], gr_sh ++ ext, gr_h I457 J458) := by
        intro n
        induction n with
        | zero => intro I457 J458 v4_459 v5_459 v6_459 v7_459 hn; omega
        | succ n ih130 =>
          intro I457 J458 v4_459 v5_459 v6_459 v7_459 hn hI457 FI457 FJ458 m_459
          clear hv1_10_449 hv4_449 e0_449 e1_449 e2_449 e3_449 e4_449 e5_449 e6_449 e7_449 e8_449 e9_449 e10_449 e11_449 f450 f451 f452 f453 f454 f455 f456
          obtain ⟨hv1_10_459, hv4_459, hv5_459, hv6_459, hv7_459, e0_459, e1_459, e2_459, e3_459, e4_459, e5_459, e6_459, e7_459, e8_459, e9_459, e10_459, e11_459⟩ := m_459
          have f460 := (show 0 ≤ I457 0 71 ∧ I457 0 71 ≤ 5 from (hI457 0 71).1)
          have f461 := (show 0 ≤ I457 0 72 ∧ I457 0 72 ≤ 1000 from (hI457 0 72).1)
          have f462 := (show 0 ≤ I457 0 73 ∧ I457 0 73 ≤ 1001 from (hI457 0 73).1)
          have f463 := (show 0 ≤ I457 0 69 ∧ I457 0 69 ≤ 1000 from (hI457 0 69).1)
          have f464 := (show (-1) ≤ I457 0 6 ∧ I457 0 6 ≤ 7 from (hI457 0 6).1)
          have f465 := (show 0 ≤ I457 0 59 ∧ I457 0 59 ≤ 2000 from (hI457 0 59).1)
          have f466 := (show 0 ≤ I457 0 42 ∧ I457 0 42 ≤ 2000 from (hI457 0 42).1)
          refine gv_run 7 true hD (pc' := 142) (lv' := [(0, .inr (.inr (some 0))), (1, .inl v1_10), (2, .inr (.inl v2_449)), (4, .inl v4_459), (5, .inl v5_459), (6, .inl v6_459), (7, .inl v7_459)]) (st' := [.inl v5_459, .inl (24 * v1_10), .inr (.inr (some 31)), .inl v7_459]) (h' := gr_h I457 J458) (C := (((((((True ∧ True) ∧ True) ∧ True) ∧ True) ∧ True) ∧ True) ∧ True)) rfl ⟨⟨⟨⟨⟨⟨⟨trivial, trivial⟩, trivial⟩, trivial⟩, trivial⟩, trivial⟩, trivial⟩, trivial⟩ ?_
          have f467 := (show 0 ≤ I457 31 (Int.toNat (((24 * v1_10) + v5_459))) ∧ I457 31 (Int.toNat (((24 * v1_10) + v5_459))) ≤ 24 from (hI457 31 (Int.toNat (((24 * v1_10) + v5_459)))).1)
          refine gv_run 2 true hD (pc' := 144) (lv' := [(0, .inr (.inr (some 0))), (1, .inl v1_10), (2, .inr (.inl v2_449)), (4, .inl v4_459), (5, .inl v5_459), (6, .inl v6_459), (7, .inl v7_459)]) (st' := [.inl (I457 31 (Int.toNat (((24 * v1_10) + v5_459)))), .inl v7_459]) (h' := gr_h I457 J458) (C := ((True ∧ True) ∧ (0 ≤ (((24 * v1_10) + v5_459)) ∧ (((24 * v1_10) + v5_459)) < ((192 : Nat) : Int)))) rfl ⟨⟨trivial, trivial⟩, ⟨by omega, by omega⟩⟩ ?_
          refine gv_icmp_ge (t := 207) hD rfl rfl ⟨⟨by omega, by omega⟩, ⟨by omega, by omega⟩⟩ (fun c468 => ?_) (fun c468 => ?_)
          · refine gv_pick [0, 1, 2, 3] rfl ?_
            exact L207 I457 J458 v2_449 v4_459 hI457 FI457 FJ458 (by omega)
          · refine gv_run 7 true hD (pc' := 161) (lv' := [(0, .inr (.inr (some 0))), (1, .inl v1_10), (2, .inr (.inl v2_449)), (4, .inl v4_459), (5, .inl v5_459), (6, .inl v6_459), (7, .inl v7_459)]) (st' := [.inl v7_459, .inl v6_459, .inr (.inr (some 32)), .inl v4_459, .inr (.inr (some 64))]) (h' := gr_h I457 J458) (C := (((((((True ∧ True) ∧ True) ∧ True) ∧ True) ∧ True) ∧ True) ∧ True)) rfl ⟨⟨⟨⟨⟨⟨⟨trivial, trivial⟩, trivial⟩, trivial⟩, trivial⟩, trivial⟩, trivial⟩, trivial⟩ ?_
            have f469 := (show 0 ≤ I457 32 (Int.toNat ((v6_459 + v7_459))) ∧ I457 32 (Int.toNat ((v6_459 + v7_459))) ≤ 16777215 from (hI457 32 (Int.toNat ((v6_459 + v7_459)))).1)
            refine gv_run 2 true hD (pc' := 163) (lv' := [(0, .inr (.inr (some 0))), (1, .inl v1_10), (2, .inr (.inl v2_449)), (4, .inl v4_459), (5, .inl v5_459), (6, .inl v6_459), (7, .inl v7_459)]) (st' := [.inl (I457 32 (Int.toNat ((v6_459 + v7_459)))), .inl v4_459, .inr (.inr (some 64))]) (h' := gr_h I457 J458) (C := ((True ∧ True) ∧ (0 ≤ (v6_459 + v7_459) ∧ (v6_459 + v7_459) < ((4608 : Nat) : Int)))) rfl ⟨⟨trivial, trivial⟩, ⟨by omega, by omega⟩⟩ ?_
            refine gv_run 1 true hD (pc' := 164) (lv' := [(0, .inr (.inr (some 0))), (1, .inl v1_10), (2, .inr (.inl v2_449)), (4, .inl v4_459), (5, .inl v5_459), (6, .inl v6_459), (7, .inl v7_459)]) (st' := []) (h' := gz_up (gr_h I457 J458) 64 (Int.toNat v4_459) (.inl ((I457 32 (Int.toNat ((v6_459 + v7_459))))))) (C := (True ∧ (0 ≤ v4_459 ∧ v4_459 < ((420 : Nat) : Int)))) rfl ⟨trivial, ⟨by omega, by omega⟩⟩ ?_
            refine gr_st hI457 FI457 rfl rfl ⟨⟨by show 0 ≤ _; omega, by show _ ≤ 16777215; omega⟩, trivial⟩ (fun I470 hI470 FI470 q471 p471 => ?_)
            have t472 := p471 0 71 (fun q => absurd q.1 (by decide))
            have t473 := p471 0 72 (fun q => absurd q.1 (by decide))
            have t474 := p471 0 73 (fun q => absurd q.1 (by decide))
            have t475 := p471 0 69 (fun q => absurd q.1 (by decide))
            have t476 := p471 0 6 (fun q => absurd q.1 (by decide))
            have t477 := p471 0 59 (fun q => absurd q.1 (by decide))
            have t478 := p471 0 42 (fun q => absurd q.1 (by decide))
            have t479 := p471 17 (Int.toNat v1_10) (fun q => absurd q.1 (by decide))
            have t480 := p471 65 (Int.toNat v5_459) (fun q => absurd q.1 (by decide))
            have f481 := (show 0 ≤ I470 0 71 ∧ I470 0 71 ≤ 5 from (hI470 0 71).1)
            have f482 := (show 0 ≤ I470 0 72 ∧ I470 0 72 ≤ 1000 from (hI470 0 72).1)
            have f483 := (show 0 ≤ I470 0 73 ∧ I470 0 73 ≤ 1001 from (hI470 0 73).1)
            have f484 := (show 0 ≤ I470 0 69 ∧ I470 0 69 ≤ 1000 from (hI470 0 69).1)
            have f485 := (show (-1) ≤ I470 0 6 ∧ I470 0 6 ≤ 7 from (hI470 0 6).1)
            have f486 := (show 0 ≤ I470 0 59 ∧ I470 0 59 ≤ 2000 from (hI470 0 59).1)
            have f487 := (show 0 ≤ I470 0 42 ∧ I470 0 42 ≤ 2000 from (hI470 0 42).1)
            refine gv_run 7 true hD (pc' := 178) (lv' := [(0, .inr (.inr (some 0))), (1, .inl v1_10), (2, .inr (.inl v2_449)), (4, .inl v4_459), (5, .inl v5_459), (6, .inl v6_459), (7, .inl v7_459)]) (st' := [.inl v7_459, .inl v6_459, .inr (.inr (some 33)), .inl v4_459, .inr (.inr (some 65))]) (h' := gr_h I470 J458) (C := (((((((True ∧ True) ∧ True) ∧ True) ∧ True) ∧ True) ∧ True) ∧ True)) rfl ⟨⟨⟨⟨⟨⟨⟨trivial, trivial⟩, trivial⟩, trivial⟩, trivial⟩, trivial⟩, trivial⟩, trivial⟩ ?_
            have f488 := (show 0 ≤ I470 33 (Int.toNat ((v6_459 + v7_459))) ∧ I470 33 (Int.toNat ((v6_459 + v7_459))) ≤ 2000 from (hI470 33 (Int.toNat ((v6_459 + v7_459)))).1)
            refine gv_run 2 true hD (pc' := 180) (lv' := [(0, .inr (.inr (some 0))), (1, .inl v1_10), (2, .inr (.inl v2_449)), (4, .inl v4_459), (5, .inl v5_459), (6, .inl v6_459), (7, .inl v7_459)]) (st' := [.inl (I470 33 (Int.toNat ((v6_459 + v7_459)))), .inl v4_459, .inr (.inr (some 65))]) (h' := gr_h I470 J458) (C := ((True ∧ True) ∧ (0 ≤ (v6_459 + v7_459) ∧ (v6_459 + v7_459) < ((4608 : Nat) : Int)))) rfl ⟨⟨trivial, trivial⟩, ⟨by omega, by omega⟩⟩ ?_
            refine gv_run 1 true hD (pc' := 181) (lv' := [(0, .inr (.inr (some 0))), (1, .inl v1_10), (2, .inr (.inl v2_449)), (4, .inl v4_459), (5, .inl v5_459), (6, .inl v6_459), (7, .inl v7_459)]) (st' := []) (h' := gz_up (gr_h I470 J458) 65 (Int.toNat v4_459) (.inl ((I470 33 (Int.toNat ((v6_459 + v7_459))))))) (C := (True ∧ (0 ≤ v4_459 ∧ v4_459 < ((420 : Nat) : Int)))) rfl ⟨trivial, ⟨by omega, by omega⟩⟩ ?_
            refine gr_st hI470 FI470 rfl rfl ⟨⟨by show 0 ≤ _; omega, by show _ ≤ 2000; omega⟩, trivial⟩ (fun I489 hI489 FI489 q490 p490 => ?_)
            have t491 := p490 0 71 (fun q => absurd q.1 (by decide))
            have t492 := p490 0 72 (fun q => absurd q.1 (by decide))
            have t493 := p490 0 73 (fun q => absurd q.1 (by decide))
            have t494 := p490 0 69 (fun q => absurd q.1 (by decide))
            have t495 := p490 0 6 (fun q => absurd q.1 (by decide))
            have t496 := p490 0 59 (fun q => absurd q.1 (by decide))
            have t497 := p490 0 42 (fun q => absurd q.1 (by decide))
            have t498 := p490 17 (Int.toNat v1_10) (fun q => absurd q.1 (by decide))
            have f499 := (show 0 ≤ I489 0 71 ∧ I489 0 71 ≤ 5 from (hI489 0 71).1)
            have f500 := (show 0 ≤ I489 0 72 ∧ I489 0 72 ≤ 1000 from (hI489 0 72).1)
            have f501 := (show 0 ≤ I489 0 73 ∧ I489 0 73 ≤ 1001 from (hI489 0 73).1)
            have f502 := (show 0 ≤ I489 0 69 ∧ I489 0 69 ≤ 1000 from (hI489 0 69).1)
            have f503 := (show (-1) ≤ I489 0 6 ∧ I489 0 6 ≤ 7 from (hI489 0 6).1)
            have f504 := (show 0 ≤ I489 0 59 ∧ I489 0 59 ≤ 2000 from (hI489 0 59).1)
            have f505 := (show 0 ≤ I489 0 42 ∧ I489 0 42 ≤ 2000 from (hI489 0 42).1)
            refine gv_run 7 true hD (pc' := 196) (lv' := [(4, .inl (v4_459 + 1)), (0, .inr (.inr (some 0))), (1, .inl v1_10), (2, .inr (.inl v2_449)), (5, .inl v5_459), (6, .inl v6_459), (7, .inl v7_459)]) (st' := [.inl v6_459, .inr (.inr (some 34)), .inl v4_459, .inr (.inr (some 66))]) (h' := gr_h I489 J458) (C := (((((((True ∧ True) ∧ True) ∧ True) ∧ True) ∧ True) ∧ True) ∧ True)) rfl ⟨⟨⟨⟨⟨⟨⟨trivial, trivial⟩, trivial⟩, trivial⟩, trivial⟩, trivial⟩, trivial⟩, trivial⟩ ?_
            have f506 := (show (-1) ≤ I489 34 (Int.toNat ((v6_459 + v7_459))) ∧ I489 34 (Int.toNat ((v6_459 + v7_459))) ≤ 2000 from (hI489 34 (Int.toNat ((v6_459 + v7_459)))).1)
            refine gv_run 3 true hD (pc' := 200) (lv' := [(4, .inl (v4_459 + 1)), (0, .inr (.inr (some 0))), (1, .inl v1_10), (2, .inr (.inl v2_449)), (5, .inl v5_459), (6, .inl v6_459), (7, .inl v7_459)]) (st' := [.inl (I489 34 (Int.toNat ((v6_459 + v7_459)))), .inl v4_459, .inr (.inr (some 66))]) (h' := gr_h I489 J458) (C := (((True ∧ True) ∧ True) ∧ (0 ≤ (v6_459 + v7_459) ∧ (v6_459 + v7_459) < ((4608 : Nat) : Int)))) rfl ⟨⟨⟨trivial, trivial⟩, trivial⟩, ⟨by omega, by omega⟩⟩ ?_
            refine gv_run 1 true hD (pc' := 201) (lv' := [(4, .inl (v4_459 + 1)), (0, .inr (.inr (some 0))), (1, .inl v1_10), (2, .inr (.inl v2_449)), (5, .inl v5_459), (6, .inl v6_459), (7, .inl v7_459)]) (st' := []) (h' := gz_up (gr_h I489 J458) 66 (Int.toNat v4_459) (.inl ((I489 34 (Int.toNat ((v6_459 + v7_459))))))) (C := (True ∧ (0 ≤ v4_459 ∧ v4_459 < ((420 : Nat) : Int)))) rfl ⟨trivial, ⟨by omega, by omega⟩⟩ ?_
            refine gr_st hI489 FI489 rfl rfl ⟨⟨by show (-1) ≤ _; omega, by show _ ≤ 2000; omega⟩, trivial⟩ (fun I507 hI507 FI507 q508 p508 => ?_)
            have t509 := p508 0 71 (fun q => absurd q.1 (by decide))
            have t510 := p508 0 72 (fun q => absurd q.1 (by decide))
            have t511 := p508 0 73 (fun q => absurd q.1 (by decide))
            have t512 := p508 0 69 (fun q => absurd q.1 (by decide))
            have t513 := p508 0 6 (fun q => absurd q.1 (by decide))
            have t514 := p508 0 59 (fun q => absurd q.1 (by decide))
            have t515 := p508 0 42 (fun q => absurd q.1 (by decide))
            have t516 := p508 17 (Int.toNat v1_10) (fun q => absurd q.1 (by decide))
            have t517 := p508 65 (Int.toNat v5_459) (fun q => absurd q.1 (by decide))
            have f518 := (show 0 ≤ I507 0 71 ∧ I507 0 71 ≤ 5 from (hI507 0 71).1)
            have f519 := (show 0 ≤ I507 0 72 ∧ I507 0 72 ≤ 1000 from (hI507 0 72).1)
            have f520 := (show 0 ≤ I507 0 73 ∧ I507 0 73 ≤ 1001 from (hI507 0 73).1)
            have f521 := (show 0 ≤ I507 0 69 ∧ I507 0 69 ≤ 1000 from (hI507 0 69).1)
            have f522 := (show (-1) ≤ I507 0 6 ∧ I507 0 6 ≤ 7 from (hI507 0 6).1)
            have f523 := (show 0 ≤ I507 0 59 ∧ I507 0 59 ≤ 2000 from (hI507 0 59).1)
            have f524 := (show 0 ≤ I507 0 42 ∧ I507 0 42 ≤ 2000 from (hI507 0 42).1)
            refine gv_run 2 true hD (pc' := 130) (lv' := [(7, .inl (v7_459 + 1)), (4, .inl (v4_459 + 1)), (0, .inr (.inr (some 0))), (1, .inl v1_10), (2, .inr (.inl v2_449)), (5, .inl v5_459), (6, .inl v6_459)]) (st' := []) (h' := gr_h I507 J458) (C := ((True ∧ True) ∧ True)) rfl ⟨⟨trivial, trivial⟩, trivial⟩ ?_
            refine gv_pick [2, 3, 4, 1, 5, 6, 0] rfl ?_
            exact ih130 I507 J458 (v4_459 + 1) v5_459 v6_459 (v7_459 + 1) (by omega) hI507 FI507 FJ458 (by omega)
      refine gv_run 7 true hD (pc' := 89) (lv' := [(0, .inr (.inr (some 0))), (1, .inl v1_10), (2, .inr (.inl v2_449)), (4, .inl v4_449)]) (st' := [.inr (.inr (some 17)), .inl (24 * v1_10), .inr (.inr (some 23))]) (h' := gr_h I447 J448) (C := (((((((True ∧ True) ∧ True) ∧ True) ∧ True) ∧ True) ∧ True) ∧ True)) rfl ⟨⟨⟨⟨⟨⟨⟨trivial, trivial⟩, trivial⟩, trivial⟩, trivial⟩, trivial⟩, trivial⟩, trivial⟩ ?_
      have f525 := (show 0 ≤ I447 17 (Int.toNat v1_10) ∧ I447 17 (Int.toNat v1_10) ≤ 24 from (hI447 17 (Int.toNat v1_10)).1)
      refine gv_run 2 true hD (pc' := 91) (lv' := [(0, .inr (.inr (some 0))), (1, .inl v1_10), (2, .inr (.inl v2_449)), (4, .inl v4_449)]) (st' := [.inl (I447 17 (Int.toNat v1_10)), .inl (24 * v1_10), .inr (.inr (some 23))]) (h' := gr_h I447 J448) (C := ((True ∧ True) ∧ (0 ≤ v1_10 ∧ v1_10 < ((8 : Nat) : Int)))) rfl ⟨⟨trivial, trivial⟩, ⟨by omega, by omega⟩⟩ ?_
      refine gv_run 2 true hD (pc' := 95) (lv' := [(0, .inr (.inr (some 0))), (1, .inl v1_10), (2, .inr (.inl v2_449)), (4, .inl v4_449)]) (st' := [.inr (.inl (J448 0 75)), .inl (I447 17 (Int.toNat v1_10)), .inl (24 * v1_10), .inr (.inr (some 23))]) (h' := gr_h I447 J448) (C := ((True ∧ True) ∧ True)) rfl ⟨⟨trivial, trivial⟩, trivial⟩ ?_
      obtain ⟨r526, h526, E526, P526⟩ := r_find_23 (ws0 := ws0) (tb := tb) hws htb ext I447 J448 hI447 (24 * v1_10) ((I447 17 (Int.toNat v1_10))) (J448 0 75) ⟨by omega, by omega⟩ ⟨by omega, by omega⟩ (by omega)
      obtain ⟨rfl, ⟨z526, rfl, q526⟩⟩ := P526
      refine gv_callS hD rfl (As := [.inr (.inr (some 23)), .inl (24 * v1_10), .inl (I447 17 (Int.toNat v1_10)), .inr (.inl (J448 0 75))]) (st := []) rfl (gr_lS hws rfl) (Nat.le_of_ble_eq_true rfl) (gz_Ev_mono (d := 1) (by decide) E526) ?_
      show gv_X _ _ (98, [(0, .inr (.inr (some 0))), (1, .inl v1_10), (2, .inr (.inl v2_449)), (4, .inl v4_449)], [.inl z526], gr_sh ++ ext, gr_h I447 J448)
      refine gv_run 2 true hD (pc' := 102) (lv' := [(5, .inl z526), (0, .inr (.inr (some 0))), (1, .inl v1_10), (2, .inr (.inl v2_449)), (4, .inl v4_449)]) (st' := [.inl z526]) (h' := gr_h I447 J448) (C := ((True ∧ True) ∧ True)) rfl ⟨⟨trivial, trivial⟩, trivial⟩ ?_
      refine gv_if_ge (t := 111) hD rfl rfl ⟨by omega, by omega⟩ (fun c527 => ?_) (fun c527 => ?_)
      · refine gv_run 1 true hD (pc' := 112) (lv' := [(5, .inl z526), (0, .inr (.inr (some 0))), (1, .inl v1_10), (2, .inr (.inl v2_449)), (4, .inl v4_449)]) (st' := [.inr (.inr (some 0))]) (h' := gr_h I447 J448) (C := (True ∧ True)) rfl ⟨trivial, trivial⟩ ?_
        obtain ⟨r528, h528, E528, P528⟩ := r_next (ws0 := ws0) (tb := tb) hws htb ext I447 J448 hI447   (by omega)
        obtain ⟨I529, J530, rfl, hI529, g528, k528, ⟨rfl, q528⟩⟩ := P528
        have FI529 := gr_frt FI447 g528 rfl rfl
        have FJ530 := gr_fjt FJ448 k528 rfl rfl
        have t531 := g528 0 69 rfl
        have t532 := g528 0 6 rfl
        have t533 := g528 0 59 rfl
        have t534 := g528 0 42 rfl
        have t535 := g528 17 (Int.toNat v1_10) rfl
        have t536 := g528 65 (Int.toNat z526) rfl
        have f537 := (show 0 ≤ I529 0 71 ∧ I529 0 71 ≤ 5 from (hI529 0 71).1)
        have f538 := (show 0 ≤ I529 0 72 ∧ I529 0 72 ≤ 1000 from (hI529 0 72).1)
        have f539 := (show 0 ≤ I529 0 73 ∧ I529 0 73 ≤ 1001 from (hI529 0 73).1)
        have f540 := (show 0 ≤ I529 0 69 ∧ I529 0 69 ≤ 1000 from (hI529 0 69).1)
        have f541 := (show (-1) ≤ I529 0 6 ∧ I529 0 6 ≤ 7 from (hI529 0 6).1)
        have f542 := (show 0 ≤ I529 0 59 ∧ I529 0 59 ≤ 2000 from (hI529 0 59).1)
        have f543 := (show 0 ≤ I529 0 42 ∧ I529 0 42 ≤ 2000 from (hI529 0 42).1)
        refine gv_callV hD rfl (As := []) (st := []) rfl (by decide) rfl rfl (gr_lV hws rfl) (Nat.le_of_ble_eq_true rfl) (gz_Ev_mono (d := 10) (by decide) E528) ?_
        show gv_X _ _ (115, [(5, .inl z526), (0, .inr (.inr (some 0))), (1, .inl v1_10), (2, .inr (.inl v2_449)), (4, .inl v4_449)], [], gr_sh ++ ext, gr_h I529 J530)
        refine gv_run 7 true hD (pc' := 125) (lv' := [(5, .inl z526), (0, .inr (.inr (some 0))), (1, .inl v1_10), (2, .inr (.inl v2_449)), (4, .inl v4_449)]) (st' := [.inl (24 * ((24 * v1_10) + z526))]) (h' := gr_h I529 J530) (C := (((((((True ∧ True) ∧ True) ∧ True) ∧ True) ∧ True) ∧ True) ∧ True)) rfl ⟨⟨⟨⟨⟨⟨⟨trivial, trivial⟩, trivial⟩, trivial⟩, trivial⟩, trivial⟩, trivial⟩, trivial⟩ ?_
        refine gv_run 3 true hD (pc' := 130) (lv' := [(7, .inl 0), (6, .inl (24 * ((24 * v1_10) + z526))), (5, .inl z526), (0, .inr (.inr (some 0))), (1, .inl v1_10), (2, .inr (.inl v2_449)), (4, .inl v4_449)]) (st' := []) (h' := gr_h I529 J530) (C := (((True ∧ True) ∧ True) ∧ True)) rfl ⟨⟨⟨trivial, trivial⟩, trivial⟩, trivial⟩ ?_
        refine gv_pick [3, 4, 5, 6, 2, 1, 0] rfl ?_
        exact L130 _ I529 J530 v4_449 z526 ((24 * ((24 * v1_10) + z526))) 0 (Nat.lt_succ_self _) hI529 FI529 FJ530 (by omega)
      · refine gv_run 2 true hD (pc' := 107) (lv' := [(5, .inl z526), (0, .inr (.inr (some 0))), (1, .inl v1_10), (2, .inr (.inl v2_449)), (4, .inl v4_449)]) (st' := [.inl 5, .inr (.inr (some 0))]) (h' := gr_h I447 J448) (C := ((True ∧ True) ∧ True)) rfl ⟨⟨trivial, trivial⟩, trivial⟩ ?_
        obtain ⟨r544, h544, E544, P544⟩ := r_no_ (ws0 := ws0) (tb := tb) hws htb ext I447 J448 hI447 5 ⟨by omega, by omega⟩ 
        obtain ⟨I545, J546, rfl, hI545, g544, k544, ⟨z544, rfl, q544⟩⟩ := P544
        have FI545 := gr_frt FI447 g544 rfl rfl
        have FJ546 := gr_fjt FJ448 k544 rfl rfl
        have t547 := g544 0 71 rfl
        have t548 := g544 0 72 rfl
        have t549 := g544 0 73 rfl
        have t550 := g544 0 69 rfl
        have t551 := g544 0 6 rfl
        have t552 := g544 0 59 rfl
        have t553 := g544 0 42 rfl
        have t554 := g544 17 (Int.toNat v1_10) rfl
        have t555 := g544 65 (Int.toNat z526) rfl
        have f556 := (show 0 ≤ I545 0 71 ∧ I545 0 71 ≤ 5 from (hI545 0 71).1)
        have f557 := (show 0 ≤ I545 0 72 ∧ I545 0 72 ≤ 1000 from (hI545 0 72).1)
        have f558 := (show 0 ≤ I545 0 73 ∧ I545 0 73 ≤ 1001 from (hI545 0 73).1)
        have f559 := (show 0 ≤ I545 0 69 ∧ I545 0 69 ≤ 1000 from (hI545 0 69).1)
        have f560 := (show (-1) ≤ I545 0 6 ∧ I545 0 6 ≤ 7 from (hI545 0 6).1)
        have f561 := (show 0 ≤ I545 0 59 ∧ I545 0 59 ≤ 2000 from (hI545 0 59).1)
        have f562 := (show 0 ≤ I545 0 42 ∧ I545 0 42 ≤ 2000 from (hI545 0 42).1)
        refine gv_callV hD rfl (As := [.inl 5]) (st := []) rfl (by decide) rfl rfl (gr_lV hws rfl) (Nat.le_of_ble_eq_true rfl) (gz_Ev_mono (d := 2) (by decide) E544) ?_
        show gv_X _ _ (110, [(5, .inl z526), (0, .inr (.inr (some 0))), (1, .inl v1_10), (2, .inr (.inl v2_449)), (4, .inl v4_449)], [.inl z544], gr_sh ++ ext, gr_h I545 J546)
        exact gv_zret hD rfl (by omega) ⟨I545, J546, rfl, hI545, FI545, FJ546, ⟨_, rfl, by omega⟩⟩
    refine gv_run 7 true hD (pc' := 26) (lv' := [(2, .inr (.inl (J9 0 75))), (0, .inr (.inr (some 0))), (1, .inl v1_10)]) (st' := [.inl v1_10, .inl 24, .inr (.inr (some 23))]) (h' := gr_h I8 J9) (C := (((((((True ∧ True) ∧ True) ∧ True) ∧ True) ∧ True) ∧ True) ∧ True)) rfl ⟨⟨⟨⟨⟨⟨⟨trivial, trivial⟩, trivial⟩, trivial⟩, trivial⟩, trivial⟩, trivial⟩, trivial⟩ ?_
    have f563 := (show 0 ≤ I8 17 (Int.toNat v1_10) ∧ I8 17 (Int.toNat v1_10) ≤ 24 from (hI8 17 (Int.toNat v1_10)).1)
    refine gv_run 5 true hD (pc' := 33) (lv' := [(2, .inr (.inl (J9 0 75))), (0, .inr (.inr (some 0))), (1, .inl v1_10)]) (st' := [.inl (I8 17 (Int.toNat v1_10)), .inl (24 * v1_10), .inr (.inr (some 23))]) (h' := gr_h I8 J9) (C := (((((True ∧ True) ∧ True) ∧ True) ∧ True) ∧ (0 ≤ v1_10 ∧ v1_10 < ((8 : Nat) : Int)))) rfl ⟨⟨⟨⟨⟨trivial, trivial⟩, trivial⟩, trivial⟩, trivial⟩, ⟨by omega, by omega⟩⟩ ?_
    refine gv_run 1 true hD (pc' := 34) (lv' := [(2, .inr (.inl (J9 0 75))), (0, .inr (.inr (some 0))), (1, .inl v1_10)]) (st' := [.inr (.inl (J9 0 75)), .inl (I8 17 (Int.toNat v1_10)), .inl (24 * v1_10), .inr (.inr (some 23))]) (h' := gr_h I8 J9) (C := (True ∧ True)) rfl ⟨trivial, trivial⟩ ?_
    obtain ⟨r564, h564, E564, P564⟩ := r_find_23 (ws0 := ws0) (tb := tb) hws htb ext I8 J9 hI8 (24 * v1_10) ((I8 17 (Int.toNat v1_10))) (J9 0 75) ⟨by omega, by omega⟩ ⟨by omega, by omega⟩ (by omega)
    obtain ⟨rfl, ⟨z564, rfl, q564⟩⟩ := P564
    refine gv_callS hD rfl (As := [.inr (.inr (some 23)), .inl (24 * v1_10), .inl (I8 17 (Int.toNat v1_10)), .inr (.inl (J9 0 75))]) (st := []) rfl (gr_lS hws rfl) (Nat.le_of_ble_eq_true rfl) (gz_Ev_mono (d := 1) (by decide) E564) ?_
    show gv_X _ _ (37, [(2, .inr (.inl (J9 0 75))), (0, .inr (.inr (some 0))), (1, .inl v1_10)], [.inl z564], gr_sh ++ ext, gr_h I8 J9)
    refine gv_if_lt (t := 46) hD rfl rfl ⟨by omega, by omega⟩ (fun c565 => ?_) (fun c565 => ?_)
    · refine gv_run 1 true hD (pc' := 47) (lv' := [(2, .inr (.inl (J9 0 75))), (0, .inr (.inr (some 0))), (1, .inl v1_10)]) (st' := [.inr (.inr (some 0))]) (h' := gr_h I8 J9) (C := (True ∧ True)) rfl ⟨trivial, trivial⟩ ?_
      obtain ⟨r566, h566, E566, P566⟩ := r_next (ws0 := ws0) (tb := tb) hws htb ext I8 J9 hI8   (by omega)
      obtain ⟨I567, J568, rfl, hI567, g566, k566, ⟨rfl, q566⟩⟩ := P566
      have FI567 := gr_frt FI8 g566 rfl rfl
      have FJ568 := gr_fjt FJ9 k566 rfl rfl
      have t569 := g566 0 69 rfl
      have t570 := g566 0 6 rfl
      have t571 := g566 0 59 rfl
      have t572 := g566 0 42 rfl
      have t573 := g566 17 (Int.toNat v1_10) rfl
      have f574 := (show 0 ≤ I567 0 71 ∧ I567 0 71 ≤ 5 from (hI567 0 71).1)
      have f575 := (show 0 ≤ I567 0 72 ∧ I567 0 72 ≤ 1000 from (hI567 0 72).1)
      have f576 := (show 0 ≤ I567 0 73 ∧ I567 0 73 ≤ 1001 from (hI567 0 73).1)
      have f577 := (show 0 ≤ I567 0 69 ∧ I567 0 69 ≤ 1000 from (hI567 0 69).1)
      have f578 := (show (-1) ≤ I567 0 6 ∧ I567 0 6 ≤ 7 from (hI567 0 6).1)
      have f579 := (show 0 ≤ I567 0 59 ∧ I567 0 59 ≤ 2000 from (hI567 0 59).1)
      have f580 := (show 0 ≤ I567 0 42 ∧ I567 0 42 ≤ 2000 from (hI567 0 42).1)
      refine gv_callV hD rfl (As := []) (st := []) rfl (by decide) rfl rfl (gr_lV hws rfl) (Nat.le_of_ble_eq_true rfl) (gz_Ev_mono (d := 10) (by decide) E566) ?_
      show gv_X _ _ (50, [(2, .inr (.inl (J9 0 75))), (0, .inr (.inr (some 0))), (1, .inl v1_10)], [], gr_sh ++ ext, gr_h I567 J568)
      refine gv_run 5 true hD (pc' := 58) (lv' := [(4, .inl 0), (2, .inr (.inl (J9 0 75))), (0, .inr (.inr (some 0))), (1, .inl v1_10)]) (st' := [.inr (.inl (J568 0 94)), .inr (.inr (some 0))]) (h' := gr_h I567 J568) (C := (((((True ∧ True) ∧ True) ∧ True) ∧ True) ∧ True)) rfl ⟨⟨⟨⟨⟨trivial, trivial⟩, trivial⟩, trivial⟩, trivial⟩, trivial⟩ ?_
      obtain ⟨r581, h581, E581, P581⟩ := r_is (ws0 := ws0) (tb := tb) hws htb ext I567 J568 hI567 (J568 0 94)  
      obtain ⟨rfl, ⟨z581, rfl, q581⟩⟩ := P581
      refine gv_callV hD rfl (As := [.inr (.inl (J568 0 94))]) (st := []) rfl (by decide) rfl rfl (gr_lV hws rfl) (Nat.le_of_ble_eq_true rfl) (gz_Ev_mono (d := 1) (by decide) E581) ?_
      show gv_X _ _ (61, [(4, .inl 0), (2, .inr (.inl (J9 0 75))), (0, .inr (.inr (some 0))), (1, .inl v1_10)], [.inl z581], gr_sh ++ ext, gr_h I567 J568)
      refine gv_if_eq (t := 207) hD rfl rfl ⟨by omega, by omega⟩ (fun c582 => ?_) (fun c582 => ?_)
      · refine gv_pick [2, 3, 1, 0] rfl ?_
        exact L207 I567 J568 (J9 0 75) 0 hI567 FI567 FJ568 (by omega)
      · refine gv_run 1 true hD (pc' := 65) (lv' := [(4, .inl 0), (2, .inr (.inl (J9 0 75))), (0, .inr (.inr (some 0))), (1, .inl v1_10)]) (st' := [.inr (.inr (some 0))]) (h' := gr_h I567 J568) (C := (True ∧ True)) rfl ⟨trivial, trivial⟩ ?_
        obtain ⟨r583, h583, E583, P583⟩ := r_next (ws0 := ws0) (tb := tb) hws htb ext I567 J568 hI567   (by omega)
        obtain ⟨I584, J585, rfl, hI584, g583, k583, ⟨rfl, q583⟩⟩ := P583
        have FI584 := gr_frt FI567 g583 rfl rfl
        have FJ585 := gr_fjt FJ568 k583 rfl rfl
        have t586 := g583 0 69 rfl
        have t587 := g583 0 6 rfl
        have t588 := g583 0 59 rfl
        have t589 := g583 0 42 rfl
        have t590 := g583 17 (Int.toNat v1_10) rfl
        have f591 := (show 0 ≤ I584 0 71 ∧ I584 0 71 ≤ 5 from (hI584 0 71).1)
        have f592 := (show 0 ≤ I584 0 72 ∧ I584 0 72 ≤ 1000 from (hI584 0 72).1)
        have f593 := (show 0 ≤ I584 0 73 ∧ I584 0 73 ≤ 1001 from (hI584 0 73).1)
        have f594 := (show 0 ≤ I584 0 69 ∧ I584 0 69 ≤ 1000 from (hI584 0 69).1)
        have f595 := (show (-1) ≤ I584 0 6 ∧ I584 0 6 ≤ 7 from (hI584 0 6).1)
        have f596 := (show 0 ≤ I584 0 59 ∧ I584 0 59 ≤ 2000 from (hI584 0 59).1)
        have f597 := (show 0 ≤ I584 0 42 ∧ I584 0 42 ≤ 2000 from (hI584 0 42).1)
        refine gv_callV hD rfl (As := []) (st := []) rfl (by decide) rfl rfl (gr_lV hws rfl) (Nat.le_of_ble_eq_true rfl) (gz_Ev_mono (d := 10) (by decide) E583) ?_
        show gv_X _ _ (68, [(4, .inl 0), (2, .inr (.inl (J9 0 75))), (0, .inr (.inr (some 0))), (1, .inl v1_10)], [], gr_sh ++ ext, gr_h I584 J585)
        refine gv_run 1 true hD (pc' := 69) (lv' := [(4, .inl 0), (2, .inr (.inl (J9 0 75))), (0, .inr (.inr (some 0))), (1, .inl v1_10)]) (st' := [.inr (.inr (some 0))]) (h' := gr_h I584 J585) (C := (True ∧ True)) rfl ⟨trivial, trivial⟩ ?_
        obtain ⟨r598, h598, E598, P598⟩ := r_name (ws0 := ws0) (tb := tb) hws htb ext I584 J585 hI584   
        obtain ⟨I599, J600, rfl, hI599, g598, k598, ⟨z598, rfl, q598⟩⟩ := P598
        have FI599 := gr_frt FI584 g598 rfl rfl
        have FJ600 := gr_fjt FJ585 k598 rfl rfl
        have t601 := g598 0 71 rfl
        have t602 := g598 0 72 rfl
        have t603 := g598 0 73 rfl
        have t604 := g598 0 69 rfl
        have t605 := g598 0 6 rfl
        have t606 := g598 0 59 rfl
        have t607 := g598 0 42 rfl
        have t608 := g598 17 (Int.toNat v1_10) rfl
        have f609 := (show 0 ≤ I599 0 71 ∧ I599 0 71 ≤ 5 from (hI599 0 71).1)
        have f610 := (show 0 ≤ I599 0 72 ∧ I599 0 72 ≤ 1000 from (hI599 0 72).1)
        have f611 := (show 0 ≤ I599 0 73 ∧ I599 0 73 ≤ 1001 from (hI599 0 73).1)
        have f612 := (show 0 ≤ I599 0 69 ∧ I599 0 69 ≤ 1000 from (hI599 0 69).1)
        have f613 := (show (-1) ≤ I599 0 6 ∧ I599 0 6 ≤ 7 from (hI599 0 6).1)
        have f614 := (show 0 ≤ I599 0 59 ∧ I599 0 59 ≤ 2000 from (hI599 0 59).1)
        have f615 := (show 0 ≤ I599 0 42 ∧ I599 0 42 ≤ 2000 from (hI599 0 42).1)
        refine gv_callV hD rfl (As := []) (st := []) rfl (by decide) rfl rfl (gr_lV hws rfl) (Nat.le_of_ble_eq_true rfl) (gz_Ev_mono (d := 3) (by decide) E598) ?_
        show gv_X _ _ (72, [(4, .inl 0), (2, .inr (.inl (J9 0 75))), (0, .inr (.inr (some 0))), (1, .inl v1_10)], [.inl z598], gr_sh ++ ext, gr_h I599 J600)
        refine gv_if_ne (t := 77) hD rfl rfl ⟨by omega, by omega⟩ (fun c616 => ?_) (fun c616 => ?_)
        · refine gv_pick [2, 3, 1, 0] rfl ?_
          exact L77 I599 J600 (J9 0 75) 0 hI599 FI599 FJ600 (by omega)
        · refine gv_run 1 true hD (pc' := 76) (lv' := [(4, .inl 0), (2, .inr (.inl (J9 0 75))), (0, .inr (.inr (some 0))), (1, .inl v1_10)]) (st' := [.inl 0]) (h' := gr_h I599 J600) (C := (True ∧ True)) rfl ⟨trivial, trivial⟩ ?_
          exact gv_zret hD rfl (by omega) ⟨I599, J600, rfl, hI599, FI599, FJ600, ⟨_, rfl, by omega⟩⟩
    · refine gv_run 2 true hD (pc' := 42) (lv' := [(2, .inr (.inl (J9 0 75))), (0, .inr (.inr (some 0))), (1, .inl v1_10)]) (st' := [.inl 4, .inr (.inr (some 0))]) (h' := gr_h I8 J9) (C := ((True ∧ True) ∧ True)) rfl ⟨⟨trivial, trivial⟩, trivial⟩ ?_
      obtain ⟨r617, h617, E617, P617⟩ := r_no_ (ws0 := ws0) (tb := tb) hws htb ext I8 J9 hI8 4 ⟨by omega, by omega⟩ 
      obtain ⟨I618, J619, rfl, hI618, g617, k617, ⟨z617, rfl, q617⟩⟩ := P617
      have FI618 := gr_frt FI8 g617 rfl rfl
      have FJ619 := gr_fjt FJ9 k617 rfl rfl
      have t620 := g617 0 71 rfl
      have t621 := g617 0 72 rfl
      have t622 := g617 0 73 rfl
      have t623 := g617 0 69 rfl
      have t624 := g617 0 6 rfl
      have t625 := g617 0 59 rfl
      have t626 := g617 0 42 rfl
      have t627 := g617 17 (Int.toNat v1_10) rfl
      have f628 := (show 0 ≤ I618 0 71 ∧ I618 0 71 ≤ 5 from (hI618 0 71).1)
      have f629 := (show 0 ≤ I618 0 72 ∧ I618 0 72 ≤ 1000 from (hI618 0 72).1)
      have f630 := (show 0 ≤ I618 0 73 ∧ I618 0 73 ≤ 1001 from (hI618 0 73).1)
      have f631 := (show 0 ≤ I618 0 69 ∧ I618 0 69 ≤ 1000 from (hI618 0 69).1)
      have f632 := (show (-1) ≤ I618 0 6 ∧ I618 0 6 ≤ 7 from (hI618 0 6).1)
      have f633 := (show 0 ≤ I618 0 59 ∧ I618 0 59 ≤ 2000 from (hI618 0 59).1)
      have f634 := (show 0 ≤ I618 0 42 ∧ I618 0 42 ≤ 2000 from (hI618 0 42).1)
      refine gv_callV hD rfl (As := [.inl 4]) (st := []) rfl (by decide) rfl rfl (gr_lV hws rfl) (Nat.le_of_ble_eq_true rfl) (gz_Ev_mono (d := 2) (by decide) E617) ?_
      show gv_X _ _ (45, [(2, .inr (.inl (J9 0 75))), (0, .inr (.inr (some 0))), (1, .inl v1_10)], [.inl z617], gr_sh ++ ext, gr_h I618 J619)
      exact gv_zret hD rfl (by omega) ⟨I618, J619, rfl, hI618, FI618, FJ619, ⟨_, rfl, by omega⟩⟩
  have f635 := (show (-1) ≤ I 0 6 ∧ I 0 6 ≤ 7 from (hI 0 6).1)
  refine gv_run 4 true hD (pc' := 6) (lv' := [(1, .inl (I 0 6)), (0, .inr (.inr (some 0)))]) (st' := [.inr (.inr (some 0))]) (h' := gr_h I J) (C := ((((True ∧ True) ∧ True) ∧ True) ∧ True)) rfl ⟨⟨⟨⟨trivial, trivial⟩, trivial⟩, trivial⟩, trivial⟩ ?_
  obtain ⟨r636, h636, E636, P636⟩ := r_name (ws0 := ws0) (tb := tb) hws htb ext I J hI   
  obtain ⟨I637, J638, rfl, hI637, g636, k636, ⟨z636, rfl, q636⟩⟩ := P636
  have FI637 := gr_frt FI g636 rfl rfl
  have FJ638 := gr_fjt FJ k636 rfl rfl
  have t639 := g636 0 71 rfl
  have t640 := g636 0 72 rfl
  have t641 := g636 0 73 rfl
  have t642 := g636 0 69 rfl
  have t643 := g636 0 6 rfl
  have t644 := g636 0 59 rfl
  have t645 := g636 0 42 rfl
  have t646 := g636 17 (Int.toNat ((I 0 6))) rfl
  have f647 := (show 0 ≤ I637 0 71 ∧ I637 0 71 ≤ 5 from (hI637 0 71).1)
  have f648 := (show 0 ≤ I637 0 72 ∧ I637 0 72 ≤ 1000 from (hI637 0 72).1)
  have f649 := (show 0 ≤ I637 0 73 ∧ I637 0 73 ≤ 1001 from (hI637 0 73).1)
  have f650 := (show 0 ≤ I637 0 69 ∧ I637 0 69 ≤ 1000 from (hI637 0 69).1)
  have f651 := (show (-1) ≤ I637 0 6 ∧ I637 0 6 ≤ 7 from (hI637 0 6).1)
  have f652 := (show 0 ≤ I637 0 59 ∧ I637 0 59 ≤ 2000 from (hI637 0 59).1)
  have f653 := (show 0 ≤ I637 0 42 ∧ I637 0 42 ≤ 2000 from (hI637 0 42).1)
  refine gv_callV hD rfl (As := []) (st := []) rfl (by decide) rfl rfl (gr_lV hws rfl) (Nat.le_of_ble_eq_true rfl) (gz_Ev_mono (d := 3) (by decide) E636) ?_
  show gv_X _ _ (9, [(1, .inl (I 0 6)), (0, .inr (.inr (some 0)))], [.inl z636], gr_sh ++ ext, gr_h I637 J638)
  refine gv_if_ne (t := 14) hD rfl rfl ⟨by omega, by omega⟩ (fun c654 => ?_) (fun c654 => ?_)
  · refine gv_pick [1, 0] rfl ?_
    exact L14 I637 J638 (I 0 6) hI637 FI637 FJ638 (by omega)
  · refine gv_run 1 true hD (pc' := 13) (lv' := [(1, .inl (I 0 6)), (0, .inr (.inr (some 0)))]) (st' := [.inl 0]) (h' := gr_h I637 J638) (C := (True ∧ True)) rfl ⟨trivial, trivial⟩ ?_
    exact gv_zret hD rfl (by omega) ⟨I637, J638, rfl, hI637, FI637, FJ638, ⟨_, rfl, by omega⟩⟩
