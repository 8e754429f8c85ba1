set_option maxHeartbeats 4000000 in
set_option maxRecDepth 100000 in
theorem r_term_w {ws0 : List Cond} {tb : String → gz_T} (hws : ∀ w ∈ gr_ws, w ∈ ws0) (htb : tb RX13 = gr_T) (ext : gz_Sh) : ∀ (nr : Nat), ∀ (I : gr_I) (J : gr_J) (hI : gr_Inv I) (a1 : Int) (ha1 : 1 ≤ a1 ∧ a1 ≤ 41) (x0 : I 0 71 = 5 ∨ I 0 73 ≤ I 0 69) (x1 : I 0 72 ≤ I 0 69) (x2 : I 0 71 = 0 ∨ (I 0 72 < I 0 73 ∧ I 0 72 < I 0 69)) (x3 : I 0 71 = 3 → 2 ≤ I 0 73 - I 0 72 ∧ I 0 73 - I 0 72 ≤ 14) (x4 : I 0 72 ≤ I 0 73) (x5 : I 0 64 + I 0 69 - I 0 72 ≤ 1900) (x6 : I 0 122 ≤ a1) (x7 : I 0 123 < I 0 3) (KTM_I : gr_TM I) (KTO_I : gr_TO I) (_ : (42 - a1).toNat < nr), ∃ r h', gz_Ev ws0 tb (14 + 2 * nr) (yX13_term, cX13_term, 4, (some .int)) [.inr (.inr (some 0)), .inl a1] (gr_sh ++ ext) (gr_h I J) r (gr_sh ++ ext) h' 0 0 ∧ (∃ (I' : gr_I) (J' : gr_J), h' = gr_h I' J' ∧ gr_Inv I' ∧ gr_fr [64, 71, 72, 73, 74, 75, 76, 77, 122] [52, 53, 54, 55, 75] I I' ∧ gr_fj [64, 71, 72, 73, 74, 75, 76, 77, 122] [52, 53, 54, 55, 75] J J' ∧ gr_TM I' ∧ gr_TO I' ∧ (∃ z : Int, r = some (.inl z) ∧ (-1) ≤ z ∧ z ≤ 1999 ∧ (I' 0 71 = 5 ∨ I' 0 73 ≤ I' 0 69) ∧ (I' 0 72 ≤ I' 0 69) ∧ (I' 0 71 = 0 ∨ (I' 0 72 < I' 0 73 ∧ I' 0 72 < I' 0 69)) ∧ (I' 0 71 = 3 → 2 ≤ I' 0 73 - I' 0 72 ∧ I' 0 73 - I' 0 72 ≤ 14) ∧ (I' 0 72 ≤ I' 0 73) ∧ (I' 0 69 = I 0 69) ∧ (I 0 73 ≤ I' 0 73) ∧ (I 0 72 ≤ I' 0 72) ∧ (I 0 64 ≤ I' 0 64) ∧ (I' 0 64 - I' 0 72 ≤ I 0 64 - I 0 72) ∧ (I 0 122 ≤ I' 0 122) ∧ (z < 0 ∨ I' 0 122 = I 0 122) ∧ (z < I' 0 64) ∧ (z < 0 ∨ I 0 72 < I' 0 72) ∧ (gr_OWN z (I 0 123) (I 0 122) I') ∧ (gr_TS9 I I'))) := by
  intro nr
  induction nr with
  | zero => intro I J hI a1 ha1 x0 x1 x2 x3 x4 x5 x6 x7 KTM_I KTO_I hnr; omega
  | succ nr ihR =>
  intro I J hI a1 ha1 x0 x1 x2 x3 x4 x5 x6 x7 KTM_I KTO_I hnr
  show ∃ r h', gz_Ev ws0 tb (14 + 2 * nr + 1 + 1) (yX13_term, cX13_term, 4, (some .int)) [.inr (.inr (some 0)), .inl a1] (gr_sh ++ ext) (gr_h I J) r (gr_sh ++ ext) h' 0 0 ∧ (∃ (I' : gr_I) (J' : gr_J), h' = gr_h I' J' ∧ gr_Inv I' ∧ gr_fr [64, 71, 72, 73, 74, 75, 76, 77, 122] [52, 53, 54, 55, 75] I I' ∧ gr_fj [64, 71, 72, 73, 74, 75, 76, 77, 122] [52, 53, 54, 55, 75] J J' ∧ gr_TM I' ∧ gr_TO I' ∧ (∃ z : Int, r = some (.inl z) ∧ (-1) ≤ z ∧ z ≤ 1999 ∧ (I' 0 71 = 5 ∨ I' 0 73 ≤ I' 0 69) ∧ (I' 0 72 ≤ I' 0 69) ∧ (I' 0 71 = 0 ∨ (I' 0 72 < I' 0 73 ∧ I' 0 72 < I' 0 69)) ∧ (I' 0 71 = 3 → 2 ≤ I' 0 73 - I' 0 72 ∧ I' 0 73 - I' 0 72 ≤ 14) ∧ (I' 0 72 ≤ I' 0 73) ∧ (I' 0 69 = I 0 69) ∧ (I 0 73 ≤ I' 0 73) ∧ (I 0 72 ≤ I' 0 72) ∧ (I 0 64 ≤ I' 0 64) ∧ (I' 0 64 - I' 0 72 ≤ I 0 64 - I 0 72) ∧ (I 0 122 ≤ I' 0 122) ∧ (z < 0 ∨ I' 0 122 = I 0 122) ∧ (z < I' 0 64) ∧ (z < 0 ∨ I 0 72 < I' 0 72) ∧ (gr_OWN z (I 0 123) (I 0 122) I') ∧ (gr_TS9 I I')))
  have FI : gr_fr [64, 71, 72, 73, 74, 75, 76, 77, 122] [52, 53, 54, 55, 75] I I := fun _ _ _ => rfl
  have FJ : gr_fj [64, 71, 72, 73, 74, 75, 76, 77, 122] [52, 53, 54, 55, 75] J J := fun _ _ _ => rfl
  have hD : gv_D (gr_E ws0 tb (14 + 2 * nr + 1) (yX13_term, cX13_term, 4, (some .int)) kX13_term) := gq_ok oX13_term
  refine gr_ev (d := (14 + 2 * nr + 1)) (l := kX13_term) (Po := fun r h' => (∃ (I' : gr_I) (J' : gr_J), h' = gr_h I' J' ∧ gr_Inv I' ∧ gr_fr [64, 71, 72, 73, 74, 75, 76, 77, 122] [52, 53, 54, 55, 75] I I' ∧ gr_fj [64, 71, 72, 73, 74, 75, 76, 77, 122] [52, 53, 54, 55, 75] J J' ∧ gr_TM I' ∧ gr_TO I' ∧ (∃ z : Int, r = some (.inl z) ∧ (-1) ≤ z ∧ z ≤ 1999 ∧ (I' 0 71 = 5 ∨ I' 0 73 ≤ I' 0 69) ∧ (I' 0 72 ≤ I' 0 69) ∧ (I' 0 71 = 0 ∨ (I' 0 72 < I' 0 73 ∧ I' 0 72 < I' 0 69)) ∧ (I' 0 71 = 3 → 2 ≤ I' 0 73 - I' 0 72 ∧ I' 0 73 - I' 0 72 ≤ 14) ∧ (I' 0 72 ≤ I' 0 73) ∧ (I' 0 69 = I 0 69) ∧ (I 0 73 ≤ I' 0 73) ∧ (I 0 72 ≤ I' 0 72) ∧ (I 0 64 ≤ I' 0 64) ∧ (I' 0 64 - I' 0 72 ≤ I 0 64 - I 0 72) ∧ (I 0 122 ≤ I' 0 122) ∧ (z < 0 ∨ I' 0 122 = I 0 122) ∧ (z < I' 0 64) ∧ (z < 0 ∨ I 0 72 < I' 0 72) ∧ (gr_OWN z (I 0 123) (I 0 122) I') ∧ (gr_TS9 I I')))) htb rfl (Nat.le_of_ble_eq_true rfl) ?_
  have f1 := (show 0 ≤ I 0 71 ∧ I 0 71 ≤ 5 from (hI 0 71).1)
  have f2 := (show 0 ≤ I 0 72 ∧ I 0 72 ≤ 1000 from (hI 0 72).1)
  have f3 := (show 0 ≤ I 0 73 ∧ I 0 73 ≤ 1001 from (hI 0 73).1)
  have f4 := (show 0 ≤ I 0 69 ∧ I 0 69 ≤ 1000 from (hI 0 69).1)
  have f5 := (show 0 ≤ I 0 64 ∧ I 0 64 ≤ 2000 from (hI 0 64).1)
  have f6 := (show 0 ≤ I 0 122 ∧ I 0 122 ≤ 47 from (hI 0 122).1)
  have f7 := (show 0 ≤ I 0 123 ∧ I 0 123 ≤ 95 from (hI 0 123).1)
  have f8 := (show 0 ≤ I 0 3 ∧ I 0 3 ≤ 96 from (hI 0 3).1)
  have L12 : ((1 ≤ a1 ∧ a1 ≤ 40) ∧ (a1 ≤ 40) ∧ (I 0 71 = 5 ∨ I 0 73 ≤ I 0 69) ∧ (I 0 72 ≤ I 0 69) ∧ (I 0 71 = 0 ∨ (I 0 72 < I 0 73 ∧ I 0 72 < I 0 69)) ∧ (I 0 71 = 3 → 2 ≤ I 0 73 - I 0 72 ∧ I 0 73 - I 0 72 ≤ 14) ∧ (I 0 72 ≤ I 0 73) ∧ (I 0 69 = I 0 69) ∧ (I 0 73 ≤ I 0 73) ∧ (I 0 72 ≤ I 0 72)) → gv_X (gr_E ws0 tb (14 + 2 * nr + 1) (yX13_term, cX13_term, 4, (some .int)) kX13_term) (gv_Q cX13_term (some .int) (gr_sh ++ ext) (fun r h' => (∃ (I' : gr_I) (J' : gr_J), h' = gr_h I' J' ∧ gr_Inv I' ∧ gr_fr [64, 71, 72, 73, 74, 75, 76, 77, 122] [52, 53, 54, 55, 75] I I' ∧ gr_fj [64, 71, 72, 73, 74, 75, 76, 77, 122] [52, 53, 54, 55, 75] J J' ∧ gr_TM I' ∧ gr_TO I' ∧ (∃ z : Int, r = some (.inl z) ∧ (-1) ≤ z ∧ z ≤ 1999 ∧ (I' 0 71 = 5 ∨ I' 0 73 ≤ I' 0 69) ∧ (I' 0 72 ≤ I' 0 69) ∧ (I' 0 71 = 0 ∨ (I' 0 72 < I' 0 73 ∧ I' 0 72 < I' 0 69)) ∧ (I' 0 71 = 3 → 2 ≤ I' 0 73 - I' 0 72 ∧ I' 0 73 - I' 0 72 ≤ 14) ∧ (I' 0 72 ≤ I' 0 73) ∧ (I' 0 69 = I 0 69) ∧ (I 0 73 ≤ I' 0 73) ∧ (I 0 72 ≤ I' 0 72) ∧ (I 0 64 ≤ I' 0 64) ∧ (I' 0 64 - I' 0 72 ≤ I 0 64 - I 0 72) ∧ (I 0 122 ≤ I' 0 122) ∧ (z < 0 ∨ I' 0 122 = I 0 122) ∧ (z < I' 0 64) ∧ (z < 0 ∨ I 0 72 < I' 0 72) ∧ (gr_OWN z (I 0 123) (I 0 122) I') ∧ (gr_TS9 I I'))))) (12, [(0, .inr (.inr (some 0))), (1, .inl a1)], [], gr_sh ++ ext, gr_h I J) := by
    intro m_9
    obtain ⟨ha1_9, e0_9, e1_9, e2_9, e3_9, e4_9, e5_9, e6_9, e7_9, e8_9⟩ := m_9
    have f10 := (show 0 ≤ I 0 71 ∧ I 0 71 ≤ 5 from (hI 0 71).1)
    have f11 := (show 0 ≤ I 0 72 ∧ I 0 72 ≤ 1000 from (hI 0 72).1)
    have f12 := (show 0 ≤ I 0 73 ∧ I 0 73 ≤ 1001 from (hI 0 73).1)
    have f13 := (show 0 ≤ I 0 69 ∧ I 0 69 ≤ 1000 from (hI 0 69).1)
    have f14 := (show 0 ≤ I 0 64 ∧ I 0 64 ≤ 2000 from (hI 0 64).1)
    have f15 := (show 0 ≤ I 0 122 ∧ I 0 122 ≤ 47 from (hI 0 122).1)
    have f16 := (show 0 ≤ I 0 123 ∧ I 0 123 ≤ 95 from (hI 0 123).1)
    have f17 := (show 0 ≤ I 0 3 ∧ I 0 3 ≤ 96 from (hI 0 3).1)
    have L39 : ∀ (I18 : gr_I) (J19 : gr_J) , gr_Inv I18 → gr_fr [64, 71, 72, 73, 74, 75, 76, 77, 122] [52, 53, 54, 55, 75] I I18 → gr_fj [64, 71, 72, 73, 74, 75, 76, 77, 122] [52, 53, 54, 55, 75] J J19 → gr_TM I18 → gr_TO I18 → ((1 ≤ a1 ∧ a1 ≤ 40) ∧ (a1 ≤ 40) ∧ (I18 0 71 = 1) ∧ (I 0 72 < I18 0 72) ∧ (I18 0 64 = I 0 64) ∧ (I18 0 122 = I 0 122) ∧ (I18 0 71 = 5 ∨ I18 0 73 ≤ I18 0 69) ∧ (I18 0 72 ≤ I18 0 69) ∧ (I18 0 71 = 0 ∨ (I18 0 72 < I18 0 73 ∧ I18 0 72 < I18 0 69)) ∧ (I18 0 71 = 3 → 2 ≤ I18 0 73 - I18 0 72 ∧ I18 0 73 - I18 0 72 ≤ 14) ∧ (I18 0 72 ≤ I18 0 73) ∧ (I18 0 69 = I 0 69) ∧ (I 0 73 ≤ I18 0 73) ∧ (I 0 72 ≤ I18 0 72)) → (gr_TS9 I I18) → gv_X (gr_E ws0 tb (14 + 2 * nr + 1) (yX13_term, cX13_term, 4, (some .int)) kX13_term) (gv_Q cX13_term (some .int) (gr_sh ++ ext) (fun r h' => (∃ (I' : gr_I) (J' : gr_J), h' = gr_h I' J' ∧ gr_Inv I' ∧ gr_fr [64, 71, 72, 73, 74, 75, 76, 77, 122] [52, 53, 54, 55, 75] I I' ∧ gr_fj [64, 71, 72, 73, 74, 75, 76, 77, 122] [52, 53, 54, 55, 75] J J' ∧ gr_TM I' ∧ gr_TO I' ∧ (∃ z : Int, r = some (.inl z) ∧ (-1) ≤ z ∧ z ≤ 1999 ∧ (I' 0 71 = 5 ∨ I' 0 73 ≤ I' 0 69) ∧ (I' 0 72 ≤ I' 0 69) ∧ (I' 0 71 = 0 ∨ (I' 0 72 < I' 0 73 ∧ I' 0 72 < I' 0 69)) ∧ (I' 0 71 = 3 → 2 ≤ I' 0 73 - I' 0 72 ∧ I' 0 73 - I' 0 72 ≤ 14) ∧ (I' 0 72 ≤ I' 0 73) ∧ (I' 0 69 = I 0 69) ∧ (I 0 73 ≤ I' 0 73) ∧ (I 0 72 ≤ I' 0 72) ∧ (I 0 64 ≤ I' 0 64) ∧ (I' 0 64 - I' 0 72 ≤ I 0 64 - I 0 72) ∧ (I 0 122 ≤ I' 0 122) ∧ (z < 0 ∨ I' 0 122 = I 0 122) ∧ (z < I' 0 64) ∧ (z < 0 ∨ I 0 72 < I' 0 72) ∧ (gr_OWN z (I 0 123) (I 0 122) I') ∧ (gr_TS9 I I'))))) (39, [(0, .inr (.inr (some 0))), (1, .inl a1)], [], gr_sh ++ ext, gr_h I18 J19) := by
      intro I18 J19 hI18 FI18 FJ19 KTM_I18 KTO_I18 m_20 e5_20
      clear ha1_9 e0_9 e1_9 e2_9 e3_9 e4_9 e5_9 e6_9 e7_9 e8_9 f10 f11 f12 f13 f14 f15 f16 f17
      obtain ⟨ha1_20, e0_20, e1_20, e2_20, e3_20, e4_20, e6_20, e7_20, e8_20, e9_20, e10_20, e11_20, e12_20, e13_20⟩ := m_20
      have f21 := (show 0 ≤ I18 0 71 ∧ I18 0 71 ≤ 5 from (hI18 0 71).1)
      have f22 := (show 0 ≤ I18 0 72 ∧ I18 0 72 ≤ 1000 from (hI18 0 72).1)
      have f23 := (show 0 ≤ I18 0 73 ∧ I18 0 73 ≤ 1001 from (hI18 0 73).1)
      have f24 := (show 0 ≤ I18 0 69 ∧ I18 0 69 ≤ 1000 from (hI18 0 69).1)
      have f25 := (show 0 ≤ I18 0 64 ∧ I18 0 64 ≤ 2000 from (hI18 0 64).1)
      have f26 := (show 0 ≤ I18 0 122 ∧ I18 0 122 ≤ 47 from (hI18 0 122).1)
      have f27 := (show 0 ≤ I18 0 123 ∧ I18 0 123 ≤ 95 from (hI18 0 123).1)
      have f28 := (show 0 ≤ I18 0 3 ∧ I18 0 3 ≤ 96 from (hI18 0 3).1)
      have t29 := FI18 0 123 rfl
      have t30 := FI18 0 3 rfl
      have L74 : ∀ (I31 : gr_I) (J32 : gr_J) , gr_Inv I31 → gr_fr [64, 71, 72, 73, 74, 75, 76, 77, 122] [52, 53, 54, 55, 75] I I31 → gr_fj [64, 71, 72, 73, 74, 75, 76, 77, 122] [52, 53, 54, 55, 75] J J32 → gr_TM I31 → gr_TO I31 → ((1 ≤ a1 ∧ a1 ≤ 40) ∧ (a1 ≤ 40) ∧ (I 0 72 < I31 0 72) ∧ (I31 0 64 = I 0 64) ∧ (I31 0 122 = I 0 122 + 1) ∧ (I31 0 71 = 5 ∨ I31 0 73 ≤ I31 0 69) ∧ (I31 0 72 ≤ I31 0 69) ∧ (I31 0 71 = 0 ∨ (I31 0 72 < I31 0 73 ∧ I31 0 72 < I31 0 69)) ∧ (I31 0 71 = 3 → 2 ≤ I31 0 73 - I31 0 72 ∧ I31 0 73 - I31 0 72 ≤ 14) ∧ (I31 0 72 ≤ I31 0 73) ∧ (I31 0 69 = I 0 69) ∧ (I 0 73 ≤ I31 0 73) ∧ (I 0 72 ≤ I31 0 72)) → (gr_TS9 I I31) → gv_X (gr_E ws0 tb (14 + 2 * nr + 1) (yX13_term, cX13_term, 4, (some .int)) kX13_term) (gv_Q cX13_term (some .int) (gr_sh ++ ext) (fun r h' => (∃ (I' : gr_I) (J' : gr_J), h' = gr_h I' J' ∧ gr_Inv I' ∧ gr_fr [64, 71, 72, 73, 74, 75, 76, 77, 122] [52, 53, 54, 55, 75] I I' ∧ gr_fj [64, 71, 72, 73, 74, 75, 76, 77, 122] [52, 53, 54, 55, 75] J J' ∧ gr_TM I' ∧ gr_TO I' ∧ (∃ z : Int, r = some (.inl z) ∧ (-1) ≤ z ∧ z ≤ 1999 ∧ (I' 0 71 = 5 ∨ I' 0 73 ≤ I' 0 69) ∧ (I' 0 72 ≤ I' 0 69) ∧ (I' 0 71 = 0 ∨ (I' 0 72 < I' 0 73 ∧ I' 0 72 < I' 0 69)) ∧ (I' 0 71 = 3 → 2 ≤ I' 0 73 - I' 0 72 ∧ I' 0 73 - I' 0 72 ≤ 14) ∧ (I' 0 72 ≤ I' 0 73) ∧ (I' 0 69 = I 0 69) ∧ (I 0 73 ≤ I' 0 73) ∧ (I 0 72 ≤ I' 0 72) ∧ (I 0 64 ≤ I' 0 64) ∧ (I' 0 64 - I' 0 72 ≤ I 0 64 - I 0 72) ∧ (I 0 122 ≤ I' 0 122) ∧ (z < 0 ∨ I' 0 122 = I 0 122) ∧ (z < I' 0 64) ∧ (z < 0 ∨ I 0 72 < I' 0 72) ∧ (gr_OWN z (I 0 123) (I 0 122) I') ∧ (gr_TS9 I I'))))) (74, [(0, .inr (.inr (some 0))), (1, .inl a1)], [], gr_sh ++ ext, gr_h I31 J32) := by
        intro I31 J32 hI31 FI31 FJ32 KTM_I31 KTO_I31 m_33 e4_33
        clear ha1_20 e0_20 e1_20 e2_20 e3_20 e4_20 e6_20 e7_20 e8_20 e9_20 e10_20 e11_20 e12_20 e13_20 f21 f22 f23 f24 f25 f26 f27 f28 t29 t30
        obtain ⟨ha1_33, e0_33, e1_33, e2_33, e3_33, e5_33, e6_33, e7_33, e8_33, e9_33, e10_33, e11_33, e12_33⟩ := m_33
        have f34 := (show 0 ≤ I31 0 71 ∧ I31 0 71 ≤ 5 from (hI31 0 71).1)
        have f35 := (show 0 ≤ I31 0 72 ∧ I31 0 72 ≤ 1000 from (hI31 0 72).1)
        have f36 := (show 0 ≤ I31 0 73 ∧ I31 0 73 ≤ 1001 from (hI31 0 73).1)
        have f37 := (show 0 ≤ I31 0 69 ∧ I31 0 69 ≤ 1000 from (hI31 0 69).1)
        have f38 := (show 0 ≤ I31 0 64 ∧ I31 0 64 ≤ 2000 from (hI31 0 64).1)
        have f39 := (show 0 ≤ I31 0 122 ∧ I31 0 122 ≤ 47 from (hI31 0 122).1)
        have f40 := (show 0 ≤ I31 0 123 ∧ I31 0 123 ≤ 95 from (hI31 0 123).1)
        have f41 := (show 0 ≤ I31 0 3 ∧ I31 0 3 ≤ 96 from (hI31 0 3).1)
        have t42 := FI31 0 123 rfl
        have t43 := FI31 0 3 rfl
        have L108 : ∀ (I44 : gr_I) (J45 : gr_J) (s0_46 : Int), gr_Inv I44 → gr_fr [64, 71, 72, 73, 74, 75, 76, 77, 122] [52, 53, 54, 55, 75] I I44 → gr_fj [64, 71, 72, 73, 74, 75, 76, 77, 122] [52, 53, 54, 55, 75] J J45 → gr_TM I44 → gr_TO I44 → (((-1) ≤ s0_46 ∧ s0_46 ≤ 1999) ∧ (I 0 72 < I44 0 72) ∧ (I 0 64 ≤ I44 0 64) ∧ (I44 0 64 - I44 0 72 ≤ I 0 64 - I 0 72) ∧ (I 0 122 ≤ I44 0 122) ∧ (s0_46 < 0 ∨ I44 0 122 = I 0 122) ∧ (s0_46 < I44 0 64) ∧ (I44 0 71 = 5 ∨ I44 0 73 ≤ I44 0 69) ∧ (I44 0 72 ≤ I44 0 69) ∧ (I44 0 71 = 0 ∨ (I44 0 72 < I44 0 73 ∧ I44 0 72 < I44 0 69)) ∧ (I44 0 71 = 3 → 2 ≤ I44 0 73 - I44 0 72 ∧ I44 0 73 - I44 0 72 ≤ 14) ∧ (I44 0 72 ≤ I44 0 73) ∧ (I44 0 69 = I 0 69) ∧ (I 0 73 ≤ I44 0 73) ∧ (I 0 72 ≤ I44 0 72)) → (gr_TS9 I I44) → (gr_OWN s0_46 (I 0 123) (I 0 122) I44) → gv_X (gr_E ws0 tb (14 + 2 * nr + 1) (yX13_term, cX13_term, 4, (some .int)) kX13_term) (gv_Q cX13_term (some .int) (gr_sh ++ ext) (fun r h' => (∃ (I' : gr_I) (J' : gr_J), h' = gr_h I' J' ∧ gr_Inv I' ∧ gr_fr [64, 71, 72, 73, 74, 75, 76, 77, 122] [52, 53, 54, 55, 75] I I' ∧ gr_fj [64, 71, 72, 73, 74, 75, 76, 77, 122] [52, 53, 54, 55, 75] J J' ∧ gr_TM I' ∧ gr_TO I' ∧ (∃ z : Int, r = some (.inl z) ∧ (-1) ≤ z ∧ z ≤ 1999 ∧ (I' 0 71 = 5 ∨ I' 0 73 ≤ I' 0 69) ∧ (I' 0 72 ≤ I' 0 69) ∧ (I' 0 71 = 0 ∨ (I' 0 72 < I' 0 73 ∧ I' 0 72 < I' 0 69)) ∧ (I' 0 71 = 3 → 2 ≤ I' 0 73 - I' 0 72 ∧ I' 0 73 - I' 0 72 ≤ 14) ∧ (I' 0 72 ≤ I' 0 73) ∧ (I' 0 69 = I 0 69) ∧ (I 0 73 ≤ I' 0 73) ∧ (I 0 72 ≤ I' 0 72) ∧ (I 0 64 ≤ I' 0 64) ∧ (I' 0 64 - I' 0 72 ≤ I 0 64 - I 0 72) ∧ (I 0 122 ≤ I' 0 122) ∧ (z < 0 ∨ I' 0 122 = I 0 122) ∧ (z < I' 0 64) ∧ (z < 0 ∨ I 0 72 < I' 0 72) ∧ (gr_OWN z (I 0 123) (I 0 122) I') ∧ (gr_TS9 I I'))))) (108, [], [.inl s0_46], gr_sh ++ ext, gr_h I44 J45) := by
          intro I44 J45 s0_46 hI44 FI44 FJ45 KTM_I44 KTO_I44 m_46 e6_46 e7_46
          clear ha1_33 e0_33 e1_33 e2_33 e3_33 e5_33 e6_33 e7_33 e8_33 e9_33 e10_33 e11_33 e12_33 f34 f35 f36 f37 f38 f39 f40 f41 t42 t43
          obtain ⟨hs0_46, e0_46, e1_46, e2_46, e3_46, e4_46, e5_46, e8_46, e9_46, e10_46, e11_46, e12_46, e13_46, e14_46, e15_46⟩ := m_46
          have f47 := (show 0 ≤ I44 0 71 ∧ I44 0 71 ≤ 5 from (hI44 0 71).1)
          have f48 := (show 0 ≤ I44 0 72 ∧ I44 0 72 ≤ 1000 from (hI44 0 72).1)
          have f49 := (show 0 ≤ I44 0 73 ∧ I44 0 73 ≤ 1001 from (hI44 0 73).1)
          have f50 := (show 0 ≤ I44 0 69 ∧ I44 0 69 ≤ 1000 from (hI44 0 69).1)
          have f51 := (show 0 ≤ I44 0 64 ∧ I44 0 64 ≤ 2000 from (hI44 0 64).1)
          have f52 := (show 0 ≤ I44 0 122 ∧ I44 0 122 ≤ 47 from (hI44 0 122).1)
          have f53 := (show 0 ≤ I44 0 123 ∧ I44 0 123 ≤ 95 from (hI44 0 123).1)
          have f54 := (show 0 ≤ I44 0 3 ∧ I44 0 3 ≤ 96 from (hI44 0 3).1)
          have t55 := FI44 0 123 rfl
          have t56 := FI44 0 3 rfl
          exact gv_iret hD rfl ⟨I44, J45, rfl, hI44, FI44, FJ45, KTM_I44, KTO_I44, ⟨_, rfl, by omega, by omega, by omega, by omega, by omega, by omega, by omega, by omega, by omega, by omega, by omega, by omega, by omega, by omega, by omega, by omega, (gr_OWN_x e7_46 (gr_TS9_rf _) (by omega) (by omega) (by omega)), e6_46⟩⟩
        refine gv_run 4 true hD (pc' := 78) (lv' := [(0, .inr (.inr (some 0))), (1, .inl a1)]) (st' := [.inl (a1 + 1), .inr (.inr (some 0))]) (h' := gr_h I31 J32) (C := ((((True ∧ True) ∧ True) ∧ True) ∧ True)) rfl ⟨⟨⟨⟨trivial, trivial⟩, trivial⟩, trivial⟩, trivial⟩ ?_
        obtain ⟨r57, h57, E57, P57⟩ := ihR I31 J32 hI31 (a1 + 1) ⟨by omega, by omega⟩ (by omega) (by omega) (by omega) (by omega) (by omega) (by omega) (by omega) (by omega) KTM_I31 KTO_I31 (by omega)
        obtain ⟨I58, J59, rfl, hI58, g57, k57, KTM_I58, KTO_I58, ⟨z57, rfl, q57⟩⟩ := P57
        have FI58 := gr_frt FI31 g57 rfl rfl
        have FJ59 := gr_fjt FJ32 k57 rfl rfl
        have t60 := g57 0 69 rfl
        have t61 := g57 0 123 rfl
        have t62 := g57 0 3 rfl
        have f63 := (show 0 ≤ I58 0 71 ∧ I58 0 71 ≤ 5 from (hI58 0 71).1)
        have f64 := (show 0 ≤ I58 0 72 ∧ I58 0 72 ≤ 1000 from (hI58 0 72).1)
        have f65 := (show 0 ≤ I58 0 73 ∧ I58 0 73 ≤ 1001 from (hI58 0 73).1)
        have f66 := (show 0 ≤ I58 0 69 ∧ I58 0 69 ≤ 1000 from (hI58 0 69).1)
        have f67 := (show 0 ≤ I58 0 64 ∧ I58 0 64 ≤ 2000 from (hI58 0 64).1)
        have f68 := (show 0 ≤ I58 0 122 ∧ I58 0 122 ≤ 47 from (hI58 0 122).1)
        have f69 := (show 0 ≤ I58 0 123 ∧ I58 0 123 ≤ 95 from (hI58 0 123).1)
        have f70 := (show 0 ≤ I58 0 3 ∧ I58 0 3 ≤ 96 from (hI58 0 3).1)
        refine gv_callV hD rfl (As := [.inl (a1 + 1)]) (st := []) rfl (by decide) rfl rfl (gr_lV hws rfl) (Nat.le_of_ble_eq_true rfl) (gz_Ev_mono (d := (14 + 2 * nr)) (by omega) E57) ?_
        show gv_X _ _ (81, [(0, .inr (.inr (some 0))), (1, .inl a1)], [.inl z57], gr_sh ++ ext, gr_h I58 J59)
        have f71 := (show 0 ≤ I58 0 122 ∧ I58 0 122 ≤ 47 from (hI58 0 122).1)
        refine gv_run 6 true hD (pc' := 89) (lv' := [(2, .inl z57), (0, .inr (.inr (some 0))), (1, .inl a1)]) (st' := [.inl ((I58 0 122) - 1), .inr (.inr (some 0))]) (h' := gr_h I58 J59) (C := ((((((True ∧ True) ∧ True) ∧ True) ∧ True) ∧ True) ∧ True)) rfl ⟨⟨⟨⟨⟨⟨trivial, trivial⟩, trivial⟩, trivial⟩, trivial⟩, trivial⟩, trivial⟩ ?_
        refine gv_run 1 true hD (pc' := 92) (lv' := [(2, .inl z57), (0, .inr (.inr (some 0))), (1, .inl a1)]) (st' := []) (h' := gz_up (gr_h I58 J59) 0 122 (.inl (((I58 0 122) - 1)))) (C := (True ∧ True)) rfl ⟨trivial, trivial⟩ ?_
        refine gr_st hI58 FI58 rfl rfl ⟨⟨by show 0 ≤ _; omega, by show _ ≤ 47; omega⟩, trivial⟩ (fun I72 hI72 FI72 q73 p73 => ?_)
        have t74 := p73 0 71 (by decide)
        have t75 := p73 0 72 (by decide)
        have t76 := p73 0 73 (by decide)
        have t77 := p73 0 69 (by decide)
        have t78 := p73 0 64 (by decide)
        have t79 := p73 0 123 (by decide)
        have t80 := p73 0 3 (by decide)
        have f81 := (show 0 ≤ I72 0 71 ∧ I72 0 71 ≤ 5 from (hI72 0 71).1)
        have f82 := (show 0 ≤ I72 0 72 ∧ I72 0 72 ≤ 1000 from (hI72 0 72).1)
        have f83 := (show 0 ≤ I72 0 73 ∧ I72 0 73 ≤ 1001 from (hI72 0 73).1)
        have f84 := (show 0 ≤ I72 0 69 ∧ I72 0 69 ≤ 1000 from (hI72 0 69).1)
        have f85 := (show 0 ≤ I72 0 64 ∧ I72 0 64 ≤ 2000 from (hI72 0 64).1)
        have f86 := (show 0 ≤ I72 0 122 ∧ I72 0 122 ≤ 47 from (hI72 0 122).1)
        have f87 := (show 0 ≤ I72 0 123 ∧ I72 0 123 ≤ 95 from (hI72 0 123).1)
        have f88 := (show 0 ≤ I72 0 3 ∧ I72 0 3 ≤ 96 from (hI72 0 3).1)
        have KTM_I72 := gr_TM_fr KTM_I58 (fun k => p73 52 k (fun q => absurd q.1 (by decide))) (fun k => p73 53 k (fun q => absurd q.1 (by decide))) (fun k => p73 54 k (fun q => absurd q.1 (by decide))) (p73 0 64 (by decide))
        have KTO_I72 := gr_TO_fr KTO_I58 (fun k => p73 52 k (fun q => absurd q.1 (by decide))) (fun k => p73 53 k (fun q => absurd q.1 (by decide))) (fun k => p73 54 k (fun q => absurd q.1 (by decide))) (fun k => p73 55 k (fun q => absurd q.1 (by decide))) (fun k => p73 6 k (fun q => absurd q.1 (by decide))) (p73 0 64 (by decide)) (p73 0 3 (by decide))
        have t89 := FI72 0 123 rfl
        have t90 := FI72 0 3 rfl
        refine gv_run 1 true hD (pc' := 93) (lv' := [(2, .inl z57), (0, .inr (.inr (some 0))), (1, .inl a1)]) (st' := [.inl z57]) (h' := gr_h I72 J59) (C := (True ∧ True)) rfl ⟨trivial, trivial⟩ ?_
        refine gv_if_ge (t := 100) hD rfl rfl ⟨by omega, by omega⟩ (fun c91 => ?_) (fun c91 => ?_)
        · refine gv_run 5 true hD (pc' := 105) (lv' := [(2, .inl z57), (0, .inr (.inr (some 0))), (1, .inl a1)]) (st' := [.inr (.inl (Int64.ofNat 0)), .inl 0, .inl z57, .inl 0, .inr (.inr (some 0))]) (h' := gr_h I72 J59) (C := (((((True ∧ True) ∧ True) ∧ True) ∧ True) ∧ True)) rfl ⟨⟨⟨⟨⟨trivial, trivial⟩, trivial⟩, trivial⟩, trivial⟩, trivial⟩ ?_
          obtain ⟨r92, h92, E92, P92⟩ := r_node_w (ws0 := ws0) (tb := tb) hws htb ext I72 J59 hI72 0 z57 0 (Int64.ofNat 0) ⟨by omega, by omega⟩ ⟨by omega, by omega⟩ ⟨by omega, by omega⟩ (by omega) (by omega) (by omega) KTO_I72 (gr_NDp_0 (gr_OWN_x (f' := (I31 0 123)) (b' := (I31 0 122)) q57.2.2.2.2.2.2.2.2.2.2.2.2.2.2.2.2.1 (gr_TS9_fr (fun k => p73 55 k (fun q => absurd q.1 (by decide))) (fun k => p73 52 k (fun q => absurd q.1 (by decide))) (fun k => p73 53 k (fun q => absurd q.1 (by decide))) (fun k => p73 54 k (fun q => absurd q.1 (by decide)))) (by omega) rfl (Int.le_refl _)) (by omega) (by omega) (by omega)) (by omega) KTM_I72
          obtain ⟨I93, J94, rfl, hI93, g92, k92, KTM_I93, ⟨z92, rfl, q92⟩⟩ := P92
          have FI93 := gr_frt FI72 g92 rfl rfl
          have FJ94 := gr_fjt FJ59 k92 rfl rfl
          have t95 := g92 0 71 rfl
          have t96 := g92 0 72 rfl
          have t97 := g92 0 73 rfl
          have t98 := g92 0 69 rfl
          have t99 := g92 0 122 rfl
          have t100 := g92 0 123 rfl
          have t101 := g92 0 3 rfl
          have f102 := (show 0 ≤ I93 0 71 ∧ I93 0 71 ≤ 5 from (hI93 0 71).1)
          have f103 := (show 0 ≤ I93 0 72 ∧ I93 0 72 ≤ 1000 from (hI93 0 72).1)
          have f104 := (show 0 ≤ I93 0 73 ∧ I93 0 73 ≤ 1001 from (hI93 0 73).1)
          have f105 := (show 0 ≤ I93 0 69 ∧ I93 0 69 ≤ 1000 from (hI93 0 69).1)
          have f106 := (show 0 ≤ I93 0 64 ∧ I93 0 64 ≤ 2000 from (hI93 0 64).1)
          have f107 := (show 0 ≤ I93 0 122 ∧ I93 0 122 ≤ 47 from (hI93 0 122).1)
          have f108 := (show 0 ≤ I93 0 123 ∧ I93 0 123 ≤ 95 from (hI93 0 123).1)
          have f109 := (show 0 ≤ I93 0 3 ∧ I93 0 3 ≤ 96 from (hI93 0 3).1)
          have KTO_I93 : gr_TO I93 := q92.2.2.2.2.1
          refine gv_callV hD rfl (As := [.inl 0, .inl z57, .inl 0, .inr (.inl (Int64.ofNat 0))]) (st := []) rfl (by decide) rfl rfl (gr_lV hws rfl) (Nat.le_of_ble_eq_true rfl) (gz_Ev_mono (d := 1) (by omega) E92) ?_
          show gv_X _ _ (108, [(2, .inl z57), (0, .inr (.inr (some 0))), (1, .inl a1)], [.inl z92], gr_sh ++ ext, gr_h I93 J94)
          refine gv_pick [] rfl ?_
          exact L108 I93 J94 z92 hI93 FI93 FJ94 KTM_I93 KTO_I93 (by omega) (gr_TS9_tr (gr_TS9_tr (gr_TS9_tr e4_33 q57.2.2.2.2.2.2.2.2.2.2.2.2.2.2.2.2.2 (by omega)) (gr_TS9_fr (fun k => p73 55 k (fun q => absurd q.1 (by decide))) (fun k => p73 52 k (fun q => absurd q.1 (by decide))) (fun k => p73 53 k (fun q => absurd q.1 (by decide))) (fun k => p73 54 k (fun q => absurd q.1 (by decide)))) (by omega)) q92.2.2.2.2.2.1 (by omega)) (gr_OWN_x (show gr_OWN z92 (I 0 123) (I 0 122) I93 from Or.inr ⟨by omega, by omega⟩) (gr_TS9_rf _) (by omega) (by omega) (by omega))
        · refine gv_run 2 true hD (pc' := 108) (lv' := [(2, .inl z57), (0, .inr (.inr (some 0))), (1, .inl a1)]) (st' := [.inl (-1)]) (h' := gr_h I72 J59) (C := ((True ∧ True) ∧ True)) rfl ⟨⟨trivial, trivial⟩, trivial⟩ ?_
          refine gv_pick [] rfl ?_
          exact L108 I72 J59 (-1) hI72 FI72 FJ59 KTM_I72 KTO_I72 (by omega) (gr_TS9_tr (gr_TS9_tr e4_33 q57.2.2.2.2.2.2.2.2.2.2.2.2.2.2.2.2.2 (by omega)) (gr_TS9_fr (fun k => p73 55 k (fun q => absurd q.1 (by decide))) (fun k => p73 52 k (fun q => absurd q.1 (by decide))) (fun k => p73 53 k (fun q => absurd q.1 (by decide))) (fun k => p73 54 k (fun q => absurd q.1 (by decide)))) (by omega)) (Or.inl (by omega))
      have f110 := (show 0 ≤ I18 0 122 ∧ I18 0 122 ≤ 47 from (hI18 0 122).1)
      refine gv_run 7 true hD (pc' := 50) (lv' := [(0, .inr (.inr (some 0))), (1, .inl a1)]) (st' := [.inl 1, .inl (I18 0 122), .inr (.inr (some 0)), .inl (I18 0 122), .inr (.inr (some 75))]) (h' := gr_h I18 J19) (C := (((((((True ∧ True) ∧ True) ∧ True) ∧ True) ∧ True) ∧ True) ∧ True)) rfl ⟨⟨⟨⟨⟨⟨⟨trivial, trivial⟩, trivial⟩, trivial⟩, trivial⟩, trivial⟩, trivial⟩, trivial⟩ ?_
      refine gv_run 2 true hD (pc' := 54) (lv' := [(0, .inr (.inr (some 0))), (1, .inl a1)]) (st' := [.inl (I18 0 122), .inr (.inr (some 75))]) (h' := gz_up (gr_h I18 J19) 0 122 (.inl (((I18 0 122) + 1)))) (C := ((True ∧ True) ∧ True)) rfl ⟨⟨trivial, trivial⟩, trivial⟩ ?_
      refine gr_st hI18 FI18 rfl rfl ⟨⟨by show 0 ≤ _; omega, by show _ ≤ 47; omega⟩, trivial⟩ (fun I111 hI111 FI111 q112 p112 => ?_)
      have t113 := p112 0 71 (by decide)
      have t114 := p112 0 72 (by decide)
      have t115 := p112 0 73 (by decide)
      have t116 := p112 0 69 (by decide)
      have t117 := p112 0 64 (by decide)
      have t118 := p112 0 123 (by decide)
      have t119 := p112 0 3 (by decide)
      have f120 := (show 0 ≤ I111 0 71 ∧ I111 0 71 ≤ 5 from (hI111 0 71).1)
      have f121 := (show 0 ≤ I111 0 72 ∧ I111 0 72 ≤ 1000 from (hI111 0 72).1)
      have f122 := (show 0 ≤ I111 0 73 ∧ I111 0 73 ≤ 1001 from (hI111 0 73).1)
      have f123 := (show 0 ≤ I111 0 69 ∧ I111 0 69 ≤ 1000 from (hI111 0 69).1)
      have f124 := (show 0 ≤ I111 0 64 ∧ I111 0 64 ≤ 2000 from (hI111 0 64).1)
      have f125 := (show 0 ≤ I111 0 122 ∧ I111 0 122 ≤ 47 from (hI111 0 122).1)
      have f126 := (show 0 ≤ I111 0 123 ∧ I111 0 123 ≤ 95 from (hI111 0 123).1)
      have f127 := (show 0 ≤ I111 0 3 ∧ I111 0 3 ≤ 96 from (hI111 0 3).1)
      have KTM_I111 := gr_TM_fr KTM_I18 (fun k => p112 52 k (fun q => absurd q.1 (by decide))) (fun k => p112 53 k (fun q => absurd q.1 (by decide))) (fun k => p112 54 k (fun q => absurd q.1 (by decide))) (p112 0 64 (by decide))
      have KTO_I111 := gr_TO_fr KTO_I18 (fun k => p112 52 k (fun q => absurd q.1 (by decide))) (fun k => p112 53 k (fun q => absurd q.1 (by decide))) (fun k => p112 54 k (fun q => absurd q.1 (by decide))) (fun k => p112 55 k (fun q => absurd q.1 (by decide))) (fun k => p112 6 k (fun q => absurd q.1 (by decide))) (p112 0 64 (by decide)) (p112 0 3 (by decide))
      have t128 := FI111 0 123 rfl
      have t129 := FI111 0 3 rfl
      refine gv_run 3 true hD (pc' := 59) (lv' := [(0, .inr (.inr (some 0))), (1, .inl a1)]) (st' := []) (h' := gz_up (gr_h I111 J19) 75 (Int.toNat ((I18 0 122))) (.inr (.inl (J19 0 75)))) (C := (((True ∧ True) ∧ True) ∧ (0 ≤ (I18 0 122) ∧ (I18 0 122) < ((48 : Nat) : Int)))) rfl ⟨⟨⟨trivial, trivial⟩, trivial⟩, ⟨by omega, by omega⟩⟩ ?_
      refine gr_stJ FJ19 rfl rfl (fun J130 FJ130 => ?_)
      refine gv_run 1 true hD (pc' := 60) (lv' := [(0, .inr (.inr (some 0))), (1, .inl a1)]) (st' := [.inr (.inr (some 0))]) (h' := gr_h I111 J130) (C := (True ∧ True)) rfl ⟨trivial, trivial⟩ ?_
      obtain ⟨r131, h131, E131, P131⟩ := r_next (ws0 := ws0) (tb := tb) hws htb ext I111 J130 hI111   (by omega)
      obtain ⟨I132, J133, rfl, hI132, g131, k131, ⟨rfl, q131⟩⟩ := P131
      have FI132 := gr_frt FI111 g131 rfl rfl
      have FJ133 := gr_fjt FJ130 k131 rfl rfl
      have t134 := g131 0 69 rfl
      have t135 := g131 0 64 rfl
      have t136 := g131 0 122 rfl
      have t137 := g131 0 123 rfl
      have t138 := g131 0 3 rfl
      have f139 := (show 0 ≤ I132 0 71 ∧ I132 0 71 ≤ 5 from (hI132 0 71).1)
      have f140 := (show 0 ≤ I132 0 72 ∧ I132 0 72 ≤ 1000 from (hI132 0 72).1)
      have f141 := (show 0 ≤ I132 0 73 ∧ I132 0 73 ≤ 1001 from (hI132 0 73).1)
      have f142 := (show 0 ≤ I132 0 69 ∧ I132 0 69 ≤ 1000 from (hI132 0 69).1)
      have f143 := (show 0 ≤ I132 0 64 ∧ I132 0 64 ≤ 2000 from (hI132 0 64).1)
      have f144 := (show 0 ≤ I132 0 122 ∧ I132 0 122 ≤ 47 from (hI132 0 122).1)
      have f145 := (show 0 ≤ I132 0 123 ∧ I132 0 123 ≤ 95 from (hI132 0 123).1)
      have f146 := (show 0 ≤ I132 0 3 ∧ I132 0 3 ≤ 96 from (hI132 0 3).1)
      have KTM_I132 := gr_TM_fr KTM_I111 (fun k => g131 52 k rfl) (fun k => g131 53 k rfl) (fun k => g131 54 k rfl) (g131 0 64 rfl)
      have KTO_I132 := gr_TO_fr KTO_I111 (fun k => g131 52 k rfl) (fun k => g131 53 k rfl) (fun k => g131 54 k rfl) (fun k => g131 55 k rfl) (fun k => g131 6 k rfl) (g131 0 64 rfl) (g131 0 3 rfl)
      refine gv_callV hD rfl (As := []) (st := []) rfl (by decide) rfl rfl (gr_lV hws rfl) (Nat.le_of_ble_eq_true rfl) (gz_Ev_mono (d := 10) (by omega) E131) ?_
      show gv_X _ _ (63, [(0, .inr (.inr (some 0))), (1, .inl a1)], [], gr_sh ++ ext, gr_h I132 J133)
      refine gv_run 2 true hD (pc' := 66) (lv' := [(0, .inr (.inr (some 0))), (1, .inl a1)]) (st' := [.inl 46, .inr (.inr (some 0))]) (h' := gr_h I132 J133) (C := ((True ∧ True) ∧ True)) rfl ⟨⟨trivial, trivial⟩, trivial⟩ ?_
      obtain ⟨r147, h147, E147, P147⟩ := r_need (ws0 := ws0) (tb := tb) hws htb ext I132 J133 hI132 46 ⟨by omega, by omega⟩ (by omega) (by omega) (by omega) (by omega) (by omega)
      obtain ⟨I148, J149, rfl, hI148, g147, k147, ⟨z147, rfl, q147⟩⟩ := P147
      have FI148 := gr_frt FI132 g147 rfl rfl
      have FJ149 := gr_fjt FJ133 k147 rfl rfl
      have t150 := g147 0 69 rfl
      have t151 := g147 0 64 rfl
      have t152 := g147 0 122 rfl
      have t153 := g147 0 123 rfl
      have t154 := g147 0 3 rfl
      have f155 := (show 0 ≤ I148 0 71 ∧ I148 0 71 ≤ 5 from (hI148 0 71).1)
      have f156 := (show 0 ≤ I148 0 72 ∧ I148 0 72 ≤ 1000 from (hI148 0 72).1)
      have f157 := (show 0 ≤ I148 0 73 ∧ I148 0 73 ≤ 1001 from (hI148 0 73).1)
      have f158 := (show 0 ≤ I148 0 69 ∧ I148 0 69 ≤ 1000 from (hI148 0 69).1)
      have f159 := (show 0 ≤ I148 0 64 ∧ I148 0 64 ≤ 2000 from (hI148 0 64).1)
      have f160 := (show 0 ≤ I148 0 122 ∧ I148 0 122 ≤ 47 from (hI148 0 122).1)
      have f161 := (show 0 ≤ I148 0 123 ∧ I148 0 123 ≤ 95 from (hI148 0 123).1)
      have f162 := (show 0 ≤ I148 0 3 ∧ I148 0 3 ≤ 96 from (hI148 0 3).1)
      have KTM_I148 := gr_TM_fr KTM_I132 (fun k => g147 52 k rfl) (fun k => g147 53 k rfl) (fun k => g147 54 k rfl) (g147 0 64 rfl)
      have KTO_I148 := gr_TO_fr KTO_I132 (fun k => g147 52 k rfl) (fun k => g147 53 k rfl) (fun k => g147 54 k rfl) (fun k => g147 55 k rfl) (fun k => g147 6 k rfl) (g147 0 64 rfl) (g147 0 3 rfl)
      refine gv_callV hD rfl (As := [.inl 46]) (st := []) rfl (by decide) rfl rfl (gr_lV hws rfl) (Nat.le_of_ble_eq_true rfl) (gz_Ev_mono (d := 11) (by omega) E147) ?_
      show gv_X _ _ (69, [(0, .inr (.inr (some 0))), (1, .inl a1)], [.inl z147], gr_sh ++ ext, gr_h I148 J149)
      refine gv_if_ne (t := 74) hD rfl rfl ⟨by omega, by omega⟩ (fun c163 => ?_) (fun c163 => ?_)
      · exact L74 I148 J149 hI148 FI148 FJ149 KTM_I148 KTO_I148 (by omega) (gr_TS9_tr (gr_TS9_tr (gr_TS9_tr e5_20 (gr_TS9_fr (fun k => p112 55 k (fun q => absurd q.1 (by decide))) (fun k => p112 52 k (fun q => absurd q.1 (by decide))) (fun k => p112 53 k (fun q => absurd q.1 (by decide))) (fun k => p112 54 k (fun q => absurd q.1 (by decide)))) (by omega)) (gr_TS9_fr (fun k => g131 55 k rfl) (fun k => g131 52 k rfl) (fun k => g131 53 k rfl) (fun k => g131 54 k rfl)) (by omega)) (gr_TS9_fr (fun k => g147 55 k rfl) (fun k => g147 52 k rfl) (fun k => g147 53 k rfl) (fun k => g147 54 k rfl)) (by omega))
      · refine gv_run 1 true hD (pc' := 73) (lv' := [(0, .inr (.inr (some 0))), (1, .inl a1)]) (st' := [.inl (-1)]) (h' := gr_h I148 J149) (C := (True ∧ True)) rfl ⟨trivial, trivial⟩ ?_
        exact gv_iret hD rfl ⟨I148, J149, rfl, hI148, FI148, FJ149, KTM_I148, KTO_I148, ⟨_, rfl, by omega, by omega, by omega, by omega, by omega, by omega, by omega, by omega, by omega, by omega, by omega, by omega, by omega, by omega, by omega, by omega, (Or.inl (by omega)), (gr_TS9_tr (gr_TS9_tr (gr_TS9_tr e5_20 (gr_TS9_fr (fun k => p112 55 k (fun q => absurd q.1 (by decide))) (fun k => p112 52 k (fun q => absurd q.1 (by decide))) (fun k => p112 53 k (fun q => absurd q.1 (by decide))) (fun k => p112 54 k (fun q => absurd q.1 (by decide)))) (by omega)) (gr_TS9_fr (fun k => g131 55 k rfl) (fun k => g131 52 k rfl) (fun k => g131 53 k rfl) (fun k => g131 54 k rfl)) (by omega)) (gr_TS9_fr (fun k => g147 55 k rfl) (fun k => g147 52 k rfl) (fun k => g147 53 k rfl) (fun k => g147 54 k rfl)) (by omega))⟩⟩
    have L109 : ((1 ≤ a1 ∧ a1 ≤ 40) ∧ (a1 ≤ 40) ∧ (I 0 71 = 5 ∨ I 0 73 ≤ I 0 69) ∧ (I 0 72 ≤ I 0 69) ∧ (I 0 71 = 0 ∨ (I 0 72 < I 0 73 ∧ I 0 72 < I 0 69)) ∧ (I 0 71 = 3 → 2 ≤ I 0 73 - I 0 72 ∧ I 0 73 - I 0 72 ≤ 14) ∧ (I 0 72 ≤ I 0 73) ∧ (I 0 69 = I 0 69) ∧ (I 0 73 ≤ I 0 73) ∧ (I 0 72 ≤ I 0 72)) → gv_X (gr_E ws0 tb (14 + 2 * nr + 1) (yX13_term, cX13_term, 4, (some .int)) kX13_term) (gv_Q cX13_term (some .int) (gr_sh ++ ext) (fun r h' => (∃ (I' : gr_I) (J' : gr_J), h' = gr_h I' J' ∧ gr_Inv I' ∧ gr_fr [64, 71, 72, 73, 74, 75, 76, 77, 122] [52, 53, 54, 55, 75] I I' ∧ gr_fj [64, 71, 72, 73, 74, 75, 76, 77, 122] [52, 53, 54, 55, 75] J J' ∧ gr_TM I' ∧ gr_TO I' ∧ (∃ z : Int, r = some (.inl z) ∧ (-1) ≤ z ∧ z ≤ 1999 ∧ (I' 0 71 = 5 ∨ I' 0 73 ≤ I' 0 69) ∧ (I' 0 72 ≤ I' 0 69) ∧ (I' 0 71 = 0 ∨ (I' 0 72 < I' 0 73 ∧ I' 0 72 < I' 0 69)) ∧ (I' 0 71 = 3 → 2 ≤ I' 0 73 - I' 0 72 ∧ I' 0 73 - I' 0 72 ≤ 14) ∧ (I' 0 72 ≤ I' 0 73) ∧ (I' 0 69 = I 0 69) ∧ (I 0 73 ≤ I' 0 73) ∧ (I 0 72 ≤ I' 0 72) ∧ (I 0 64 ≤ I' 0 64) ∧ (I' 0 64 - I' 0 72 ≤ I 0 64 - I 0 72) ∧ (I 0 122 ≤ I' 0 122) ∧ (z < 0 ∨ I' 0 122 = I 0 122) ∧ (z < I' 0 64) ∧ (z < 0 ∨ I 0 72 < I' 0 72) ∧ (gr_OWN z (I 0 123) (I 0 122) I') ∧ (gr_TS9 I I'))))) (109, [(0, .inr (.inr (some 0))), (1, .inl a1)], [], gr_sh ++ ext, gr_h I J) := by
      intro m_164
      obtain ⟨ha1_164, e0_164, e1_164, e2_164, e3_164, e4_164, e5_164, e6_164, e7_164, e8_164⟩ := m_164
      have f165 := (show 0 ≤ I 0 71 ∧ I 0 71 ≤ 5 from (hI 0 71).1)
      have f166 := (show 0 ≤ I 0 72 ∧ I 0 72 ≤ 1000 from (hI 0 72).1)
      have f167 := (show 0 ≤ I 0 73 ∧ I 0 73 ≤ 1001 from (hI 0 73).1)
      have f168 := (show 0 ≤ I 0 69 ∧ I 0 69 ≤ 1000 from (hI 0 69).1)
      have f169 := (show 0 ≤ I 0 64 ∧ I 0 64 ≤ 2000 from (hI 0 64).1)
      have f170 := (show 0 ≤ I 0 122 ∧ I 0 122 ≤ 47 from (hI 0 122).1)
      have f171 := (show 0 ≤ I 0 123 ∧ I 0 123 ≤ 95 from (hI 0 123).1)
      have f172 := (show 0 ≤ I 0 3 ∧ I 0 3 ≤ 96 from (hI 0 3).1)
      have L115 : ∀ (n : Nat) (I173 : gr_I) (J174 : gr_J) (v2_175 : Int), (1001 - I173 0 72).toNat < n → gr_Inv I173 → gr_fr [64, 71, 72, 73, 74, 75, 76, 77, 122] [52, 53, 54, 55, 75] I I173 → gr_fj [64, 71, 72, 73, 74, 75, 76, 77, 122] [52, 53, 54, 55, 75] J J174 → gr_TM I173 → gr_TO I173 → ((1 ≤ a1 ∧ a1 ≤ 40) ∧ ((-1) ≤ v2_175 ∧ v2_175 ≤ 1999) ∧ (I173 0 64 - I173 0 72 ≤ I 0 64 - I 0 72) ∧ (I 0 64 ≤ I173 0 64) ∧ (I 0 122 ≤ I173 0 122) ∧ (v2_175 < 0 ∨ I173 0 122 = I 0 122) ∧ (v2_175 < I173 0 64) ∧ (a1 ≤ 40) ∧ (v2_175 < 0 ∨ I 0 72 < I173 0 72) ∧ (I173 0 71 = 5 ∨ I173 0 73 ≤ I173 0 69) ∧ (I173 0 72 ≤ I173 0 69) ∧ (I173 0 71 = 0 ∨ (I173 0 72 < I173 0 73 ∧ I173 0 72 < I173 0 69)) ∧ (I173 0 71 = 3 → 2 ≤ I173 0 73 - I173 0 72 ∧ I173 0 73 - I173 0 72 ≤ 14) ∧ (I173 0 72 ≤ I173 0 73) ∧ (I173 0 69 = I 0 69) ∧ (I 0 73 ≤ I173 0 73) ∧ (I 0 72 ≤ I173 0 72)) → (gr_TS9 I I173) → (gr_OWN v2_175 (I 0 123) (I 0 122) I173) → gv_X (gr_E ws0 tb (14 + 2 * nr + 1) (yX13_term, cX13_term, 4, (some .int)) kX13_term) (gv_Q cX13_term (some .int) (gr_sh ++ ext) (fun r h' => (∃ (I' : gr_I) (J' : gr_J), h' = gr_h I' J' ∧ gr_Inv I' ∧ gr_fr [64, 71, 72, 73, 74, 75, 76, 77, 122] [52, 53, 54, 55, 75] I I' ∧ gr_fj [64, 71, 72, 73, 74, 75, 76, 77, 122] [52, 53, 54, 55, 75] J J' ∧ gr_TM I' ∧ gr_TO I' ∧ (∃ z : Int, r = some (.inl z) ∧ (-1) ≤ z ∧ z ≤ 1999 ∧ (I' 0 71 = 5 ∨ I' 0 73 ≤ I' 0 69) ∧ (I' 0 72 ≤ I' 0 69) ∧ (I' 0 71 = 0 ∨ (I' 0 72 < I' 0 73 ∧ I' 0 72 < I' 0 69)) ∧ (I' 0 71 = 3 → 2 ≤ I' 0 73 - I' 0 72 ∧ I' 0 73 - I' 0 72 ≤ 14) ∧ (I' 0 72 ≤ I' 0 73) ∧ (I' 0 69 = I 0 69) ∧ (I 0 73 ≤ I' 0 73) ∧ (I 0 72 ≤ I' 0 72) ∧ (I 0 64 ≤ I' 0 64) ∧ (I' 0 64 - I' 0 72 ≤ I 0 64 - I 0 72) ∧ (I 0 122 ≤ I' 0 122) ∧ (z < 0 ∨ I' 0 122 = I 0 122) ∧ (z < I' 0 64) ∧ (z < 0 ∨ I 0 72 < I' 0 72) ∧ (gr_OWN z (I 0 123) (I 0 122) I') ∧ (gr_TS9 I I'))))) (115, [(0, .inr (.inr (some 0))), (1, .inl a1), (2, .inl v2_175)], [], gr_sh ++ ext, gr_h I173 J174) := by
        intro n
        induction n with
        | zero => intro I173 J174 v2_175 hn; omega
        | succ n ih115 =>
          intro I173 J174 v2_175 hn hI173 FI173 FJ174 KTM_I173 KTO_I173 m_175 e7_175 e8_175
          clear ha1_164 e0_164 e1_164 e2_164 e3_164 e4_164 e5_164 e6_164 e7_164 e8_164 f165 f166 f167 f168 f169 f170 f171 f172 ha1_9 e0_9 e1_9 e2_9 e3_9 e4_9 e5_9 e6_9 e7_9 e8_9 f10 f11 f12 f13 f14 f15 f16 f17
          obtain ⟨ha1_175, hv2_175, e0_175, e1_175, e2_175, e3_175, e4_175, e5_175, e6_175, e9_175, e10_175, e11_175, e12_175, e13_175, e14_175, e15_175, e16_175⟩ := m_175
          have f176 := (show 0 ≤ I173 0 71 ∧ I173 0 71 ≤ 5 from (hI173 0 71).1)
          have f177 := (show 0 ≤ I173 0 72 ∧ I173 0 72 ≤ 1000 from (hI173 0 72).1)
          have f178 := (show 0 ≤ I173 0 73 ∧ I173 0 73 ≤ 1001 from (hI173 0 73).1)
          have f179 := (show 0 ≤ I173 0 69 ∧ I173 0 69 ≤ 1000 from (hI173 0 69).1)
          have f180 := (show 0 ≤ I173 0 64 ∧ I173 0 64 ≤ 2000 from (hI173 0 64).1)
          have f181 := (show 0 ≤ I173 0 122 ∧ I173 0 122 ≤ 47 from (hI173 0 122).1)
          have f182 := (show 0 ≤ I173 0 123 ∧ I173 0 123 ≤ 95 from (hI173 0 123).1)
          have f183 := (show 0 ≤ I173 0 3 ∧ I173 0 3 ≤ 96 from (hI173 0 3).1)
          have t184 := FI173 0 123 rfl
          have t185 := FI173 0 3 rfl
          have L128 : ∀ (n : Nat) (I186 : gr_I) (J187 : gr_J) (v2_188 : Int), (1001 - I186 0 72).toNat < n → gr_Inv I186 → gr_fr [64, 71, 72, 73, 74, 75, 76, 77, 122] [52, 53, 54, 55, 75] I I186 → gr_fj [64, 71, 72, 73, 74, 75, 76, 77, 122] [52, 53, 54, 55, 75] J J187 → gr_TM I186 → gr_TO I186 → ((1 ≤ a1 ∧ a1 ≤ 40) ∧ (0 ≤ v2_188 ∧ v2_188 ≤ 1999) ∧ (I 0 72 < I186 0 72) ∧ (I 0 64 ≤ I186 0 64) ∧ (I186 0 64 - I186 0 72 ≤ I 0 64 - I 0 72) ∧ (I186 0 122 = I 0 122) ∧ (0 ≤ v2_188 ∧ v2_188 < I186 0 64) ∧ (a1 ≤ 40) ∧ (I186 0 71 = 4) ∧ (I173 0 72 ≤ I186 0 72) ∧ (I186 0 71 = 5 ∨ I186 0 73 ≤ I186 0 69) ∧ (I186 0 72 ≤ I186 0 69) ∧ (I186 0 71 = 0 ∨ (I186 0 72 < I186 0 73 ∧ I186 0 72 < I186 0 69)) ∧ (I186 0 71 = 3 → 2 ≤ I186 0 73 - I186 0 72 ∧ I186 0 73 - I186 0 72 ≤ 14) ∧ (I186 0 72 ≤ I186 0 73) ∧ (I186 0 69 = I 0 69) ∧ (I 0 73 ≤ I186 0 73) ∧ (I 0 72 ≤ I186 0 72)) → (gr_TS9 I I186) → (gr_OWN v2_188 (I 0 123) (I 0 122) I186) → gv_X (gr_E ws0 tb (14 + 2 * nr + 1) (yX13_term, cX13_term, 4, (some .int)) kX13_term) (gv_Q cX13_term (some .int) (gr_sh ++ ext) (fun r h' => (∃ (I' : gr_I) (J' : gr_J), h' = gr_h I' J' ∧ gr_Inv I' ∧ gr_fr [64, 71, 72, 73, 74, 75, 76, 77, 122] [52, 53, 54, 55, 75] I I' ∧ gr_fj [64, 71, 72, 73, 74, 75, 76, 77, 122] [52, 53, 54, 55, 75] J J' ∧ gr_TM I' ∧ gr_TO I' ∧ (∃ z : Int, r = some (.inl z) ∧ (-1) ≤ z ∧ z ≤ 1999 ∧ (I' 0 71 = 5 ∨ I' 0 73 ≤ I' 0 69) ∧ (I' 0 72 ≤ I' 0 69) ∧ (I' 0 71 = 0 ∨ (I' 0 72 < I' 0 73 ∧ I' 0 72 < I' 0 69)) ∧ (I' 0 71 = 3 → 2 ≤ I' 0 73 - I' 0 72 ∧ I' 0 73 - I' 0 72 ≤ 14) ∧ (I' 0 72 ≤ I' 0 73) ∧ (I' 0 69 = I 0 69) ∧ (I 0 73 ≤ I' 0 73) ∧ (I 0 72 ≤ I' 0 72) ∧ (I 0 64 ≤ I' 0 64) ∧ (I' 0 64 - I' 0 72 ≤ I 0 64 - I 0 72) ∧ (I 0 122 ≤ I' 0 122) ∧ (z < 0 ∨ I' 0 122 = I 0 122) ∧ (z < I' 0 64) ∧ (z < 0 ∨ I 0 72 < I' 0 72) ∧ (gr_OWN z (I 0 123) (I 0 122) I') ∧ (gr_TS9 I I'))))) (128, [(0, .inr (.inr (some 0))), (1, .inl a1), (2, .inl v2_188)], [], gr_sh ++ ext, gr_h I186 J187) := by
            intro n
            induction n with
            | zero => intro I186 J187 v2_188 hn; omega
            | succ n ih128 =>
              intro I186 J187 v2_188 hn hI186 FI186 FJ187 KTM_I186 KTO_I186 m_188 e8_188 e9_188
              clear ha1_175 hv2_175 e0_175 e1_175 e2_175 e3_175 e4_175 e5_175 e6_175 e9_175 e10_175 e11_175 e12_175 e13_175 e14_175 e15_175 e16_175 f176 f177 f178 f179 f180 f181 f182 f183 t184 t185
              obtain ⟨ha1_188, hv2_188, e0_188, e1_188, e2_188, e3_188, e4_188, e5_188, e6_188, e7_188, e10_188, e11_188, e12_188, e13_188, e14_188, e15_188, e16_188, e17_188⟩ := m_188
              have f189 := (show 0 ≤ I186 0 71 ∧ I186 0 71 ≤ 5 from (hI186 0 71).1)
              have f190 := (show 0 ≤ I186 0 72 ∧ I186 0 72 ≤ 1000 from (hI186 0 72).1)
              have f191 := (show 0 ≤ I186 0 73 ∧ I186 0 73 ≤ 1001 from (hI186 0 73).1)
              have f192 := (show 0 ≤ I186 0 69 ∧ I186 0 69 ≤ 1000 from (hI186 0 69).1)
              have f193 := (show 0 ≤ I186 0 64 ∧ I186 0 64 ≤ 2000 from (hI186 0 64).1)
              have f194 := (show 0 ≤ I186 0 122 ∧ I186 0 122 ≤ 47 from (hI186 0 122).1)
              have f195 := (show 0 ≤ I186 0 123 ∧ I186 0 123 ≤ 95 from (hI186 0 123).1)
              have f196 := (show 0 ≤ I186 0 3 ∧ I186 0 3 ≤ 96 from (hI186 0 3).1)
              have t197 := FI186 0 123 rfl
              have t198 := FI186 0 3 rfl
              refine gv_run 1 true hD (pc' := 129) (lv' := [(0, .inr (.inr (some 0))), (1, .inl a1), (2, .inl v2_188)]) (st' := [.inr (.inr (some 0))]) (h' := gr_h I186 J187) (C := (True ∧ True)) rfl ⟨trivial, trivial⟩ ?_
              obtain ⟨r199, h199, E199, P199⟩ := r_next (ws0 := ws0) (tb := tb) hws htb ext I186 J187 hI186   (by omega)
              obtain ⟨I200, J201, rfl, hI200, g199, k199, ⟨rfl, q199⟩⟩ := P199
              have FI200 := gr_frt FI186 g199 rfl rfl
              have FJ201 := gr_fjt FJ187 k199 rfl rfl
              have t202 := g199 0 69 rfl
              have t203 := g199 0 64 rfl
              have t204 := g199 0 122 rfl
              have t205 := g199 0 123 rfl
              have t206 := g199 0 3 rfl
              have f207 := (show 0 ≤ I200 0 71 ∧ I200 0 71 ≤ 5 from (hI200 0 71).1)
              have f208 := (show 0 ≤ I200 0 72 ∧ I200 0 72 ≤ 1000 from (hI200 0 72).1)
              have f209 := (show 0 ≤ I200 0 73 ∧ I200 0 73 ≤ 1001 from (hI200 0 73).1)
              have f210 := (show 0 ≤ I200 0 69 ∧ I200 0 69 ≤ 1000 from (hI200 0 69).1)
              have f211 := (show 0 ≤ I200 0 64 ∧ I200 0 64 ≤ 2000 from (hI200 0 64).1)
              have f212 := (show 0 ≤ I200 0 122 ∧ I200 0 122 ≤ 47 from (hI200 0 122).1)
              have f213 := (show 0 ≤ I200 0 123 ∧ I200 0 123 ≤ 95 from (hI200 0 123).1)
              have f214 := (show 0 ≤ I200 0 3 ∧ I200 0 3 ≤ 96 from (hI200 0 3).1)
              have KTM_I200 := gr_TM_fr KTM_I186 (fun k => g199 52 k rfl) (fun k => g199 53 k rfl) (fun k => g199 54 k rfl) (g199 0 64 rfl)
              have KTO_I200 := gr_TO_fr KTO_I186 (fun k => g199 52 k rfl) (fun k => g199 53 k rfl) (fun k => g199 54 k rfl) (fun k => g199 55 k rfl) (fun k => g199 6 k rfl) (g199 0 64 rfl) (g199 0 3 rfl)
              refine gv_callV hD rfl (As := []) (st := []) rfl (by decide) rfl rfl (gr_lV hws rfl) (Nat.le_of_ble_eq_true rfl) (gz_Ev_mono (d := 10) (by omega) E199) ?_
              show gv_X _ _ (132, [(0, .inr (.inr (some 0))), (1, .inl a1), (2, .inl v2_188)], [], gr_sh ++ ext, gr_h I200 J201)
              refine gv_run 4 true hD (pc' := 136) (lv' := [(0, .inr (.inr (some 0))), (1, .inl a1), (2, .inl v2_188)]) (st' := [.inl (a1 + 1), .inr (.inr (some 0))]) (h' := gr_h I200 J201) (C := ((((True ∧ True) ∧ True) ∧ True) ∧ True)) rfl ⟨⟨⟨⟨trivial, trivial⟩, trivial⟩, trivial⟩, trivial⟩ ?_
              obtain ⟨r215, h215, E215, P215⟩ := ihR I200 J201 hI200 (a1 + 1) ⟨by omega, by omega⟩ (by omega) (by omega) (by omega) (by omega) (by omega) (by omega) (by omega) (by omega) KTM_I200 KTO_I200 (by omega)
              obtain ⟨I216, J217, rfl, hI216, g215, k215, KTM_I216, KTO_I216, ⟨z215, rfl, q215⟩⟩ := P215
              have FI216 := gr_frt FI200 g215 rfl rfl
              have FJ217 := gr_fjt FJ201 k215 rfl rfl
              have t218 := g215 0 69 rfl
              have t219 := g215 0 123 rfl
              have t220 := g215 0 3 rfl
              have f221 := (show 0 ≤ I216 0 71 ∧ I216 0 71 ≤ 5 from (hI216 0 71).1)
              have f222 := (show 0 ≤ I216 0 72 ∧ I216 0 72 ≤ 1000 from (hI216 0 72).1)
              have f223 := (show 0 ≤ I216 0 73 ∧ I216 0 73 ≤ 1001 from (hI216 0 73).1)
              have f224 := (show 0 ≤ I216 0 69 ∧ I216 0 69 ≤ 1000 from (hI216 0 69).1)
              have f225 := (show 0 ≤ I216 0 64 ∧ I216 0 64 ≤ 2000 from (hI216 0 64).1)
              have f226 := (show 0 ≤ I216 0 122 ∧ I216 0 122 ≤ 47 from (hI216 0 122).1)
              have f227 := (show 0 ≤ I216 0 123 ∧ I216 0 123 ≤ 95 from (hI216 0 123).1)
              have f228 := (show 0 ≤ I216 0 3 ∧ I216 0 3 ≤ 96 from (hI216 0 3).1)
              refine gv_callV hD rfl (As := [.inl (a1 + 1)]) (st := []) rfl (by decide) rfl rfl (gr_lV hws rfl) (Nat.le_of_ble_eq_true rfl) (gz_Ev_mono (d := (14 + 2 * nr)) (by omega) E215) ?_
              show gv_X _ _ (139, [(0, .inr (.inr (some 0))), (1, .inl a1), (2, .inl v2_188)], [.inl z215], gr_sh ++ ext, gr_h I216 J217)
              refine gv_run 2 true hD (pc' := 141) (lv' := [(3, .inl z215), (0, .inr (.inr (some 0))), (1, .inl a1), (2, .inl v2_188)]) (st' := [.inl z215]) (h' := gr_h I216 J217) (C := ((True ∧ True) ∧ True)) rfl ⟨⟨trivial, trivial⟩, trivial⟩ ?_
              refine gv_if_ge (t := 146) hD rfl rfl ⟨by omega, by omega⟩ (fun c229 => ?_) (fun c229 => ?_)
              · refine gv_run 5 true hD (pc' := 151) (lv' := [(3, .inl z215), (0, .inr (.inr (some 0))), (1, .inl a1), (2, .inl v2_188)]) (st' := [.inr (.inl (Int64.ofNat 0)), .inl z215, .inl v2_188, .inl 4, .inr (.inr (some 0))]) (h' := gr_h I216 J217) (C := (((((True ∧ True) ∧ True) ∧ True) ∧ True) ∧ True)) rfl ⟨⟨⟨⟨⟨trivial, trivial⟩, trivial⟩, trivial⟩, trivial⟩, trivial⟩ ?_
                obtain ⟨r230, h230, E230, P230⟩ := r_node_w (ws0 := ws0) (tb := tb) hws htb ext I216 J217 hI216 4 v2_188 z215 (Int64.ofNat 0) ⟨by omega, by omega⟩ ⟨by omega, by omega⟩ ⟨by omega, by omega⟩ (by omega) (by omega) (by omega) KTO_I216 (gr_NDp_4 (gr_OWN_x (f' := (I 0 123)) (b' := (I 0 122)) e9_188 (gr_TS9_tr (gr_TS9_fr (fun k => g199 55 k rfl) (fun k => g199 52 k rfl) (fun k => g199 53 k rfl) (fun k => g199 54 k rfl)) q215.2.2.2.2.2.2.2.2.2.2.2.2.2.2.2.2.2 (by omega)) (by omega) rfl (Int.le_refl _)) (gr_OWN_x (f' := (I200 0 123)) (b' := (I200 0 122)) q215.2.2.2.2.2.2.2.2.2.2.2.2.2.2.2.2.1 (gr_TS9_rf _) (by omega) rfl (Int.le_refl _)) (by omega) (by omega) (by omega) (by omega) (by omega) (by omega)) (by omega) KTM_I216
                obtain ⟨I231, J232, rfl, hI231, g230, k230, KTM_I231, ⟨z230, rfl, q230⟩⟩ := P230
                have FI231 := gr_frt FI216 g230 rfl rfl
                have FJ232 := gr_fjt FJ217 k230 rfl rfl
                have t233 := g230 0 71 rfl
                have t234 := g230 0 72 rfl
                have t235 := g230 0 73 rfl
                have t236 := g230 0 69 rfl
                have t237 := g230 0 122 rfl
                have t238 := g230 0 123 rfl
                have t239 := g230 0 3 rfl
                have f240 := (show 0 ≤ I231 0 71 ∧ I231 0 71 ≤ 5 from (hI231 0 71).1)
                have f241 := (show 0 ≤ I231 0 72 ∧ I231 0 72 ≤ 1000 from (hI231 0 72).1)
                have f242 := (show 0 ≤ I231 0 73 ∧ I231 0 73 ≤ 1001 from (hI231 0 73).1)
                have f243 := (show 0 ≤ I231 0 69 ∧ I231 0 69 ≤ 1000 from (hI231 0 69).1)
                have f244 := (show 0 ≤ I231 0 64 ∧ I231 0 64 ≤ 2000 from (hI231 0 64).1)
                have f245 := (show 0 ≤ I231 0 122 ∧ I231 0 122 ≤ 47 from (hI231 0 122).1)
                have f246 := (show 0 ≤ I231 0 123 ∧ I231 0 123 ≤ 95 from (hI231 0 123).1)
                have f247 := (show 0 ≤ I231 0 3 ∧ I231 0 3 ≤ 96 from (hI231 0 3).1)
                have KTO_I231 : gr_TO I231 := q230.2.2.2.2.1
                refine gv_callV hD rfl (As := [.inl 4, .inl v2_188, .inl z215, .inr (.inl (Int64.ofNat 0))]) (st := []) rfl (by decide) rfl rfl (gr_lV hws rfl) (Nat.le_of_ble_eq_true rfl) (gz_Ev_mono (d := 1) (by omega) E230) ?_
                show gv_X _ _ (154, [(3, .inl z215), (0, .inr (.inr (some 0))), (1, .inl a1), (2, .inl v2_188)], [.inl z230], gr_sh ++ ext, gr_h I231 J232)
                refine gv_run 3 true hD (pc' := 158) (lv' := [(2, .inl z230), (3, .inl z215), (0, .inr (.inr (some 0))), (1, .inl a1)]) (st' := [.inl 44, .inr (.inr (some 0))]) (h' := gr_h I231 J232) (C := (((True ∧ True) ∧ True) ∧ True)) rfl ⟨⟨⟨trivial, trivial⟩, trivial⟩, trivial⟩ ?_
                obtain ⟨r248, h248, E248, P248⟩ := r_sign (ws0 := ws0) (tb := tb) hws htb ext I231 J232 hI231 44 ⟨by omega, by omega⟩ (by omega)
                obtain ⟨rfl, ⟨z248, rfl, q248⟩⟩ := P248
                refine gv_callV hD rfl (As := [.inl 44]) (st := []) rfl (by decide) rfl rfl (gr_lV hws rfl) (Nat.le_of_ble_eq_true rfl) (gz_Ev_mono (d := 1) (by omega) E248) ?_
                show gv_X _ _ (161, [(2, .inl z230), (3, .inl z215), (0, .inr (.inr (some 0))), (1, .inl a1)], [.inl z248], gr_sh ++ ext, gr_h I231 J232)
                refine gv_if_ne (t := 128) hD rfl rfl ⟨by omega, by omega⟩ (fun c249 => ?_) (fun c249 => ?_)
                · refine gv_pick [2, 3, 0] rfl ?_
                  exact ih128 I231 J232 z230 (by omega) hI231 FI231 FJ232 KTM_I231 KTO_I231 (by omega) (gr_TS9_tr (gr_TS9_tr (gr_TS9_tr e8_188 (gr_TS9_fr (fun k => g199 55 k rfl) (fun k => g199 52 k rfl) (fun k => g199 53 k rfl) (fun k => g199 54 k rfl)) (by omega)) q215.2.2.2.2.2.2.2.2.2.2.2.2.2.2.2.2.2 (by omega)) q230.2.2.2.2.2.1 (by omega)) (gr_OWN_x (show gr_OWN z230 (I 0 123) (I 0 122) I231 from Or.inr ⟨by omega, by omega⟩) (gr_TS9_rf _) (by omega) (by omega) (by omega))
                · refine gv_run 2 true hD (pc' := 167) (lv' := [(2, .inl z230), (3, .inl z215), (0, .inr (.inr (some 0))), (1, .inl a1)]) (st' := [.inl 41, .inr (.inr (some 0))]) (h' := gr_h I231 J232) (C := ((True ∧ True) ∧ True)) rfl ⟨⟨trivial, trivial⟩, trivial⟩ ?_
                  obtain ⟨r250, h250, E250, P250⟩ := r_need (ws0 := ws0) (tb := tb) hws htb ext I231 J232 hI231 41 ⟨by omega, by omega⟩ (by omega) (by omega) (by omega) (by omega) (by omega)
                  obtain ⟨I251, J252, rfl, hI251, g250, k250, ⟨z250, rfl, q250⟩⟩ := P250
                  have FI251 := gr_frt FI231 g250 rfl rfl
                  have FJ252 := gr_fjt FJ232 k250 rfl rfl
                  have t253 := g250 0 69 rfl
                  have t254 := g250 0 64 rfl
                  have t255 := g250 0 122 rfl
                  have t256 := g250 0 123 rfl
                  have t257 := g250 0 3 rfl
                  have f258 := (show 0 ≤ I251 0 71 ∧ I251 0 71 ≤ 5 from (hI251 0 71).1)
                  have f259 := (show 0 ≤ I251 0 72 ∧ I251 0 72 ≤ 1000 from (hI251 0 72).1)
                  have f260 := (show 0 ≤ I251 0 73 ∧ I251 0 73 ≤ 1001 from (hI251 0 73).1)
                  have f261 := (show 0 ≤ I251 0 69 ∧ I251 0 69 ≤ 1000 from (hI251 0 69).1)
                  have f262 := (show 0 ≤ I251 0 64 ∧ I251 0 64 ≤ 2000 from (hI251 0 64).1)
                  have f263 := (show 0 ≤ I251 0 122 ∧ I251 0 122 ≤ 47 from (hI251 0 122).1)
                  have f264 := (show 0 ≤ I251 0 123 ∧ I251 0 123 ≤ 95 from (hI251 0 123).1)
                  have f265 := (show 0 ≤ I251 0 3 ∧ I251 0 3 ≤ 96 from (hI251 0 3).1)
                  have KTM_I251 := gr_TM_fr KTM_I231 (fun k => g250 52 k rfl) (fun k => g250 53 k rfl) (fun k => g250 54 k rfl) (g250 0 64 rfl)
                  have KTO_I251 := gr_TO_fr KTO_I231 (fun k => g250 52 k rfl) (fun k => g250 53 k rfl) (fun k => g250 54 k rfl) (fun k => g250 55 k rfl) (fun k => g250 6 k rfl) (g250 0 64 rfl) (g250 0 3 rfl)
                  refine gv_callV hD rfl (As := [.inl 41]) (st := []) rfl (by decide) rfl rfl (gr_lV hws rfl) (Nat.le_of_ble_eq_true rfl) (gz_Ev_mono (d := 11) (by omega) E250) ?_
                  show gv_X _ _ (170, [(2, .inl z230), (3, .inl z215), (0, .inr (.inr (some 0))), (1, .inl a1)], [.inl z250], gr_sh ++ ext, gr_h I251 J252)
                  refine gv_if_ne (t := 115) hD rfl rfl ⟨by omega, by omega⟩ (fun c266 => ?_) (fun c266 => ?_)
                  · refine gv_pick [2, 3, 0] rfl ?_
                    exact ih115 I251 J252 z230 (by omega) hI251 FI251 FJ252 KTM_I251 KTO_I251 (by omega) (gr_TS9_tr (gr_TS9_tr (gr_TS9_tr (gr_TS9_tr e8_188 (gr_TS9_fr (fun k => g199 55 k rfl) (fun k => g199 52 k rfl) (fun k => g199 53 k rfl) (fun k => g199 54 k rfl)) (by omega)) q215.2.2.2.2.2.2.2.2.2.2.2.2.2.2.2.2.2 (by omega)) q230.2.2.2.2.2.1 (by omega)) (gr_TS9_fr (fun k => g250 55 k rfl) (fun k => g250 52 k rfl) (fun k => g250 53 k rfl) (fun k => g250 54 k rfl)) (by omega)) (gr_OWN_x (show gr_OWN z230 (I 0 123) (I 0 122) I231 from Or.inr ⟨by omega, by omega⟩) (gr_TS9_fr (fun k => g250 55 k rfl) (fun k => g250 52 k rfl) (fun k => g250 53 k rfl) (fun k => g250 54 k rfl)) (by omega) (by omega) (by omega))
                  · refine gv_run 1 true hD (pc' := 174) (lv' := [(2, .inl z230), (3, .inl z215), (0, .inr (.inr (some 0))), (1, .inl a1)]) (st' := [.inl (-1)]) (h' := gr_h I251 J252) (C := (True ∧ True)) rfl ⟨trivial, trivial⟩ ?_
                    exact gv_iret hD rfl ⟨I251, J252, rfl, hI251, FI251, FJ252, KTM_I251, KTO_I251, ⟨_, rfl, by omega, by omega, by omega, by omega, by omega, by omega, by omega, by omega, by omega, by omega, by omega, by omega, by omega, by omega, by omega, by omega, (Or.inl (by omega)), (gr_TS9_tr (gr_TS9_tr (gr_TS9_tr (gr_TS9_tr e8_188 (gr_TS9_fr (fun k => g199 55 k rfl) (fun k => g199 52 k rfl) (fun k => g199 53 k rfl) (fun k => g199 54 k rfl)) (by omega)) q215.2.2.2.2.2.2.2.2.2.2.2.2.2.2.2.2.2 (by omega)) q230.2.2.2.2.2.1 (by omega)) (gr_TS9_fr (fun k => g250 55 k rfl) (fun k => g250 52 k rfl) (fun k => g250 53 k rfl) (fun k => g250 54 k rfl)) (by omega))⟩⟩
              · refine gv_run 1 true hD (pc' := 145) (lv' := [(3, .inl z215), (0, .inr (.inr (some 0))), (1, .inl a1), (2, .inl v2_188)]) (st' := [.inl (-1)]) (h' := gr_h I216 J217) (C := (True ∧ True)) rfl ⟨trivial, trivial⟩ ?_
                exact gv_iret hD rfl ⟨I216, J217, rfl, hI216, FI216, FJ217, KTM_I216, KTO_I216, ⟨_, rfl, by omega, by omega, by omega, by omega, by omega, by omega, by omega, by omega, by omega, by omega, by omega, by omega, by omega, by omega, by omega, by omega, (Or.inl (by omega)), (gr_TS9_tr (gr_TS9_tr e8_188 (gr_TS9_fr (fun k => g199 55 k rfl) (fun k => g199 52 k rfl) (fun k => g199 53 k rfl) (fun k => g199 54 k rfl)) (by omega)) q215.2.2.2.2.2.2.2.2.2.2.2.2.2.2.2.2.2 (by omega))⟩⟩
          have L175 : (((-1) ≤ v2_175 ∧ v2_175 ≤ 1999) ∧ (I 0 64 ≤ I173 0 64) ∧ (I173 0 64 - I173 0 72 ≤ I 0 64 - I 0 72) ∧ (I 0 122 ≤ I173 0 122) ∧ (v2_175 < 0 ∨ I173 0 122 = I 0 122) ∧ (v2_175 < I173 0 64) ∧ (v2_175 < 0 ∨ I 0 72 < I173 0 72) ∧ (I173 0 71 = 5 ∨ I173 0 73 ≤ I173 0 69) ∧ (I173 0 72 ≤ I173 0 69) ∧ (I173 0 71 = 0 ∨ (I173 0 72 < I173 0 73 ∧ I173 0 72 < I173 0 69)) ∧ (I173 0 71 = 3 → 2 ≤ I173 0 73 - I173 0 72 ∧ I173 0 73 - I173 0 72 ≤ 14) ∧ (I173 0 72 ≤ I173 0 73) ∧ (I173 0 69 = I 0 69) ∧ (I 0 73 ≤ I173 0 73) ∧ (I 0 72 ≤ I173 0 72)) → (gr_TS9 I I173) → (gr_OWN v2_175 (I 0 123) (I 0 122) I173) → gv_X (gr_E ws0 tb (14 + 2 * nr + 1) (yX13_term, cX13_term, 4, (some .int)) kX13_term) (gv_Q cX13_term (some .int) (gr_sh ++ ext) (fun r h' => (∃ (I' : gr_I) (J' : gr_J), h' = gr_h I' J' ∧ gr_Inv I' ∧ gr_fr [64, 71, 72, 73, 74, 75, 76, 77, 122] [52, 53, 54, 55, 75] I I' ∧ gr_fj [64, 71, 72, 73, 74, 75, 76, 77, 122] [52, 53, 54, 55, 75] J J' ∧ gr_TM I' ∧ gr_TO I' ∧ (∃ z : Int, r = some (.inl z) ∧ (-1) ≤ z ∧ z ≤ 1999 ∧ (I' 0 71 = 5 ∨ I' 0 73 ≤ I' 0 69) ∧ (I' 0 72 ≤ I' 0 69) ∧ (I' 0 71 = 0 ∨ (I' 0 72 < I' 0 73 ∧ I' 0 72 < I' 0 69)) ∧ (I' 0 71 = 3 → 2 ≤ I' 0 73 - I' 0 72 ∧ I' 0 73 - I' 0 72 ≤ 14) ∧ (I' 0 72 ≤ I' 0 73) ∧ (I' 0 69 = I 0 69) ∧ (I 0 73 ≤ I' 0 73) ∧ (I 0 72 ≤ I' 0 72) ∧ (I 0 64 ≤ I' 0 64) ∧ (I' 0 64 - I' 0 72 ≤ I 0 64 - I 0 72) ∧ (I 0 122 ≤ I' 0 122) ∧ (z < 0 ∨ I' 0 122 = I 0 122) ∧ (z < I' 0 64) ∧ (z < 0 ∨ I 0 72 < I' 0 72) ∧ (gr_OWN z (I 0 123) (I 0 122) I') ∧ (gr_TS9 I I'))))) (175, [(2, .inl v2_175)], [], gr_sh ++ ext, gr_h I173 J174) := by
            intro m_267 e6_267 e7_267
            obtain ⟨hv2_175_267, e0_267, e1_267, e2_267, e3_267, e4_267, e5_267, e8_267, e9_267, e10_267, e11_267, e12_267, e13_267, e14_267, e15_267⟩ := m_267
            have f268 := (show 0 ≤ I173 0 71 ∧ I173 0 71 ≤ 5 from (hI173 0 71).1)
            have f269 := (show 0 ≤ I173 0 72 ∧ I173 0 72 ≤ 1000 from (hI173 0 72).1)
            have f270 := (show 0 ≤ I173 0 73 ∧ I173 0 73 ≤ 1001 from (hI173 0 73).1)
            have f271 := (show 0 ≤ I173 0 69 ∧ I173 0 69 ≤ 1000 from (hI173 0 69).1)
            have f272 := (show 0 ≤ I173 0 64 ∧ I173 0 64 ≤ 2000 from (hI173 0 64).1)
            have f273 := (show 0 ≤ I173 0 122 ∧ I173 0 122 ≤ 47 from (hI173 0 122).1)
            have f274 := (show 0 ≤ I173 0 123 ∧ I173 0 123 ≤ 95 from (hI173 0 123).1)
            have f275 := (show 0 ≤ I173 0 3 ∧ I173 0 3 ≤ 96 from (hI173 0 3).1)
            have t276 := FI173 0 123 rfl
            have t277 := FI173 0 3 rfl
            refine gv_run 1 true hD (pc' := 176) (lv' := [(2, .inl v2_175)]) (st' := [.inl v2_175]) (h' := gr_h I173 J174) (C := (True ∧ True)) rfl ⟨trivial, trivial⟩ ?_
            exact gv_iret hD rfl ⟨I173, J174, rfl, hI173, FI173, FJ174, KTM_I173, KTO_I173, ⟨_, rfl, by omega, by omega, by omega, by omega, by omega, by omega, by omega, by omega, by omega, by omega, by omega, by omega, by omega, by omega, by omega, by omega, (gr_OWN_x e8_175 (gr_TS9_rf _) (by omega) (by omega) (by omega)), e6_267⟩⟩
          refine gv_run 1 true hD (pc' := 116) (lv' := [(0, .inr (.inr (some 0))), (1, .inl a1), (2, .inl v2_175)]) (st' := [.inl v2_175]) (h' := gr_h I173 J174) (C := (True ∧ True)) rfl ⟨trivial, trivial⟩ ?_
          refine gv_if_lt (t := 175) hD rfl rfl ⟨by omega, by omega⟩ (fun c278 => ?_) (fun c278 => ?_)
          · refine gv_pick [2] rfl ?_
            exact L175 (by omega) e7_175 (Or.inl (by omega))
          · refine gv_run 2 true hD (pc' := 122) (lv' := [(0, .inr (.inr (some 0))), (1, .inl a1), (2, .inl v2_175)]) (st' := [.inl 40, .inr (.inr (some 0))]) (h' := gr_h I173 J174) (C := ((True ∧ True) ∧ True)) rfl ⟨⟨trivial, trivial⟩, trivial⟩ ?_
            obtain ⟨r279, h279, E279, P279⟩ := r_sign (ws0 := ws0) (tb := tb) hws htb ext I173 J174 hI173 40 ⟨by omega, by omega⟩ (by omega)
            obtain ⟨rfl, ⟨z279, rfl, q279⟩⟩ := P279
            refine gv_callV hD rfl (As := [.inl 40]) (st := []) rfl (by decide) rfl rfl (gr_lV hws rfl) (Nat.le_of_ble_eq_true rfl) (gz_Ev_mono (d := 1) (by omega) E279) ?_
            show gv_X _ _ (125, [(0, .inr (.inr (some 0))), (1, .inl a1), (2, .inl v2_175)], [.inl z279], gr_sh ++ ext, gr_h I173 J174)
            refine gv_if_eq (t := 175) hD rfl rfl ⟨by omega, by omega⟩ (fun c280 => ?_) (fun c280 => ?_)
            · refine gv_pick [2] rfl ?_
              exact L175 (by omega) e7_175 (gr_OWN_x e8_175 (gr_TS9_rf _) (by omega) (by omega) (by omega))
            · exact L128 _ I173 J174 v2_175 (Nat.lt_succ_self _) hI173 FI173 FJ174 KTM_I173 KTO_I173 (by omega) e7_175 (gr_OWN_x e8_175 (gr_TS9_rf _) (by omega) (by omega) (by omega))
      refine gv_run 2 true hD (pc' := 111) (lv' := [(0, .inr (.inr (some 0))), (1, .inl a1)]) (st' := [.inl a1, .inr (.inr (some 0))]) (h' := gr_h I J) (C := ((True ∧ True) ∧ True)) rfl ⟨⟨trivial, trivial⟩, trivial⟩ ?_
      obtain ⟨r281, h281, E281, P281⟩ := r_atom_w (ws0 := ws0) (tb := tb) hws htb ext nr ihR I J hI a1 ⟨by omega, by omega⟩ (by omega) (by omega) (by omega) (by omega) (by omega) (by omega) (by omega) (by omega) KTM_I KTO_I (by omega)
      obtain ⟨I282, J283, rfl, hI282, g281, k281, KTM_I282, KTO_I282, ⟨z281, rfl, q281⟩⟩ := P281
      have FI282 := gr_frt FI g281 rfl rfl
      have FJ283 := gr_fjt FJ k281 rfl rfl
      have t284 := g281 0 69 rfl
      have t285 := g281 0 123 rfl
      have t286 := g281 0 3 rfl
      have f287 := (show 0 ≤ I282 0 71 ∧ I282 0 71 ≤ 5 from (hI282 0 71).1)
      have f288 := (show 0 ≤ I282 0 72 ∧ I282 0 72 ≤ 1000 from (hI282 0 72).1)
      have f289 := (show 0 ≤ I282 0 73 ∧ I282 0 73 ≤ 1001 from (hI282 0 73).1)
      have f290 := (show 0 ≤ I282 0 69 ∧ I282 0 69 ≤ 1000 from (hI282 0 69).1)
      have f291 := (show 0 ≤ I282 0 64 ∧ I282 0 64 ≤ 2000 from (hI282 0 64).1)
      have f292 := (show 0 ≤ I282 0 122 ∧ I282 0 122 ≤ 47 from (hI282 0 122).1)
      have f293 := (show 0 ≤ I282 0 123 ∧ I282 0 123 ≤ 95 from (hI282 0 123).1)
      have f294 := (show 0 ≤ I282 0 3 ∧ I282 0 3 ≤ 96 from (hI282 0 3).1)
      refine gv_callV hD rfl (As := [.inl a1]) (st := []) rfl (by decide) rfl rfl (gr_lV hws rfl) (Nat.le_of_ble_eq_true rfl) (gz_Ev_mono (d := (14 + 2 * nr + 1)) (Nat.le_refl _) E281) ?_
      show gv_X _ _ (114, [(0, .inr (.inr (some 0))), (1, .inl a1)], [.inl z281], gr_sh ++ ext, gr_h I282 J283)
      refine gv_run 1 true hD (pc' := 115) (lv' := [(2, .inl z281), (0, .inr (.inr (some 0))), (1, .inl a1)]) (st' := []) (h' := gr_h I282 J283) (C := (True ∧ True)) rfl ⟨trivial, trivial⟩ ?_
      refine gv_pick [1, 2, 0] rfl ?_
      exact L115 _ I282 J283 z281 (Nat.lt_succ_self _) hI282 FI282 FJ283 KTM_I282 KTO_I282 (by omega) (gr_TS9_tr (gr_TS9_rf I) q281.2.2.2.2.2.2.2.2.2.2.2.2.2.2.2.2.2 (by omega)) (gr_OWN_x q281.2.2.2.2.2.2.2.2.2.2.2.2.2.2.2.2.1 (gr_TS9_rf _) (by omega) (by omega) (by omega))
    refine gv_run 2 true hD (pc' := 15) (lv' := [(0, .inr (.inr (some 0))), (1, .inl a1)]) (st' := [.inl 92, .inr (.inr (some 0))]) (h' := gr_h I J) (C := ((True ∧ True) ∧ True)) rfl ⟨⟨trivial, trivial⟩, trivial⟩ ?_
    obtain ⟨r295, h295, E295, P295⟩ := r_sign (ws0 := ws0) (tb := tb) hws htb ext I J hI 92 ⟨by omega, by omega⟩ (by omega)
    obtain ⟨rfl, ⟨z295, rfl, q295⟩⟩ := P295
    refine gv_callV hD rfl (As := [.inl 92]) (st := []) rfl (by decide) rfl rfl (gr_lV hws rfl) (Nat.le_of_ble_eq_true rfl) (gz_Ev_mono (d := 1) (by omega) E295) ?_
    show gv_X _ _ (18, [(0, .inr (.inr (some 0))), (1, .inl a1)], [.inl z295], gr_sh ++ ext, gr_h I J)
    refine gv_if_eq (t := 109) hD rfl rfl ⟨by omega, by omega⟩ (fun c296 => ?_) (fun c296 => ?_)
    · exact L109 (by omega)
    · refine gv_run 1 true hD (pc' := 22) (lv' := [(0, .inr (.inr (some 0))), (1, .inl a1)]) (st' := [.inr (.inr (some 0))]) (h' := gr_h I J) (C := (True ∧ True)) rfl ⟨trivial, trivial⟩ ?_
      obtain ⟨r297, h297, E297, P297⟩ := r_next (ws0 := ws0) (tb := tb) hws htb ext I J hI   (by omega)
      obtain ⟨I298, J299, rfl, hI298, g297, k297, ⟨rfl, q297⟩⟩ := P297
      have FI298 := gr_frt FI g297 rfl rfl
      have FJ299 := gr_fjt FJ k297 rfl rfl
      have t300 := g297 0 69 rfl
      have t301 := g297 0 64 rfl
      have t302 := g297 0 122 rfl
      have t303 := g297 0 123 rfl
      have t304 := g297 0 3 rfl
      have f305 := (show 0 ≤ I298 0 71 ∧ I298 0 71 ≤ 5 from (hI298 0 71).1)
      have f306 := (show 0 ≤ I298 0 72 ∧ I298 0 72 ≤ 1000 from (hI298 0 72).1)
      have f307 := (show 0 ≤ I298 0 73 ∧ I298 0 73 ≤ 1001 from (hI298 0 73).1)
      have f308 := (show 0 ≤ I298 0 69 ∧ I298 0 69 ≤ 1000 from (hI298 0 69).1)
      have f309 := (show 0 ≤ I298 0 64 ∧ I298 0 64 ≤ 2000 from (hI298 0 64).1)
      have f310 := (show 0 ≤ I298 0 122 ∧ I298 0 122 ≤ 47 from (hI298 0 122).1)
      have f311 := (show 0 ≤ I298 0 123 ∧ I298 0 123 ≤ 95 from (hI298 0 123).1)
      have f312 := (show 0 ≤ I298 0 3 ∧ I298 0 3 ≤ 96 from (hI298 0 3).1)
      have KTM_I298 := gr_TM_fr KTM_I (fun k => g297 52 k rfl) (fun k => g297 53 k rfl) (fun k => g297 54 k rfl) (g297 0 64 rfl)
      have KTO_I298 := gr_TO_fr KTO_I (fun k => g297 52 k rfl) (fun k => g297 53 k rfl) (fun k => g297 54 k rfl) (fun k => g297 55 k rfl) (fun k => g297 6 k rfl) (g297 0 64 rfl) (g297 0 3 rfl)
      refine gv_callV hD rfl (As := []) (st := []) rfl (by decide) rfl rfl (gr_lV hws rfl) (Nat.le_of_ble_eq_true rfl) (gz_Ev_mono (d := 10) (by omega) E297) ?_
      show gv_X _ _ (25, [(0, .inr (.inr (some 0))), (1, .inl a1)], [], gr_sh ++ ext, gr_h I298 J299)
      have f313 := (show 0 ≤ I298 0 71 ∧ I298 0 71 ≤ 5 from (hI298 0 71).1)
      refine gv_run 3 true hD (pc' := 30) (lv' := [(0, .inr (.inr (some 0))), (1, .inl a1)]) (st' := [.inl 1, .inl (I298 0 71)]) (h' := gr_h I298 J299) (C := (((True ∧ True) ∧ True) ∧ True)) rfl ⟨⟨⟨trivial, trivial⟩, trivial⟩, trivial⟩ ?_
      refine gv_icmp_eq (t := 39) hD rfl rfl ⟨⟨by omega, by omega⟩, ⟨by omega, by omega⟩⟩ (fun c314 => ?_) (fun c314 => ?_)
      · exact L39 I298 J299 hI298 FI298 FJ299 KTM_I298 KTO_I298 (by omega) (gr_TS9_tr (gr_TS9_rf I) (gr_TS9_fr (fun k => g297 55 k rfl) (fun k => g297 52 k rfl) (fun k => g297 53 k rfl) (fun k => g297 54 k rfl)) (by omega))
      · refine gv_run 2 true hD (pc' := 35) (lv' := [(0, .inr (.inr (some 0))), (1, .inl a1)]) (st' := [.inl 1, .inr (.inr (some 0))]) (h' := gr_h I298 J299) (C := ((True ∧ True) ∧ True)) rfl ⟨⟨trivial, trivial⟩, trivial⟩ ?_
        obtain ⟨r315, h315, E315, P315⟩ := r_none (ws0 := ws0) (tb := tb) hws htb ext I298 J299 hI298 1 ⟨by omega, by omega⟩ 
        obtain ⟨I316, J317, rfl, hI316, g315, k315, ⟨z315, rfl, q315⟩⟩ := P315
        have FI316 := gr_frt FI298 g315 rfl rfl
        have FJ317 := gr_fjt FJ299 k315 rfl rfl
        have t318 := g315 0 71 rfl
        have t319 := g315 0 72 rfl
        have t320 := g315 0 73 rfl
        have t321 := g315 0 69 rfl
        have t322 := g315 0 64 rfl
        have t323 := g315 0 122 rfl
        have t324 := g315 0 123 rfl
        have t325 := g315 0 3 rfl
        have f326 := (show 0 ≤ I316 0 71 ∧ I316 0 71 ≤ 5 from (hI316 0 71).1)
        have f327 := (show 0 ≤ I316 0 72 ∧ I316 0 72 ≤ 1000 from (hI316 0 72).1)
        have f328 := (show 0 ≤ I316 0 73 ∧ I316 0 73 ≤ 1001 from (hI316 0 73).1)
        have f329 := (show 0 ≤ I316 0 69 ∧ I316 0 69 ≤ 1000 from (hI316 0 69).1)
        have f330 := (show 0 ≤ I316 0 64 ∧ I316 0 64 ≤ 2000 from (hI316 0 64).1)
        have f331 := (show 0 ≤ I316 0 122 ∧ I316 0 122 ≤ 47 from (hI316 0 122).1)
        have f332 := (show 0 ≤ I316 0 123 ∧ I316 0 123 ≤ 95 from (hI316 0 123).1)
        have f333 := (show 0 ≤ I316 0 3 ∧ I316 0 3 ≤ 96 from (hI316 0 3).1)
        have KTM_I316 := gr_TM_fr KTM_I298 (fun k => g315 52 k rfl) (fun k => g315 53 k rfl) (fun k => g315 54 k rfl) (g315 0 64 rfl)
        have KTO_I316 := gr_TO_fr KTO_I298 (fun k => g315 52 k rfl) (fun k => g315 53 k rfl) (fun k => g315 54 k rfl) (fun k => g315 55 k rfl) (fun k => g315 6 k rfl) (g315 0 64 rfl) (g315 0 3 rfl)
        refine gv_callV hD rfl (As := [.inl 1]) (st := []) rfl (by decide) rfl rfl (gr_lV hws rfl) (Nat.le_of_ble_eq_true rfl) (gz_Ev_mono (d := 3) (by omega) E315) ?_
        show gv_X _ _ (38, [(0, .inr (.inr (some 0))), (1, .inl a1)], [.inl z315], gr_sh ++ ext, gr_h I316 J317)
        exact gv_iret hD rfl ⟨I316, J317, rfl, hI316, FI316, FJ317, KTM_I316, KTO_I316, ⟨_, rfl, by omega, by omega, by omega, by omega, by omega, by omega, by omega, by omega, by omega, by omega, by omega, by omega, by omega, by omega, by omega, by omega, (Or.inl (by omega)), (gr_TS9_tr (gr_TS9_tr (gr_TS9_rf I) (gr_TS9_fr (fun k => g297 55 k rfl) (fun k => g297 52 k rfl) (fun k => g297 53 k rfl) (fun k => g297 54 k rfl)) (by omega)) (gr_TS9_fr (fun k => g315 55 k rfl) (fun k => g315 52 k rfl) (fun k => g315 53 k rfl) (fun k => g315 54 k rfl)) (by omega))⟩⟩
  refine gv_run 2 true hD (pc' := 3) (lv' := [(0, .inr (.inr (some 0))), (1, .inl a1)]) (st' := [.inl 40, .inl a1]) (h' := gr_h I J) (C := ((True ∧ True) ∧ True)) rfl ⟨⟨trivial, trivial⟩, trivial⟩ ?_
  refine gv_icmp_le (t := 12) hD rfl rfl ⟨⟨by omega, by omega⟩, ⟨by omega, by omega⟩⟩ (fun c334 => ?_) (fun c334 => ?_)
  · exact L12 (by omega)
  · refine gv_run 2 true hD (pc' := 8) (lv' := [(0, .inr (.inr (some 0))), (1, .inl a1)]) (st' := [.inl 5, .inr (.inr (some 0))]) (h' := gr_h I J) (C := ((True ∧ True) ∧ True)) rfl ⟨⟨trivial, trivial⟩, trivial⟩ ?_
    obtain ⟨r335, h335, E335, P335⟩ := r_none (ws0 := ws0) (tb := tb) hws htb ext I J hI 5 ⟨by omega, by omega⟩ 
    obtain ⟨I336, J337, rfl, hI336, g335, k335, ⟨z335, rfl, q335⟩⟩ := P335
    have FI336 := gr_frt FI g335 rfl rfl
    have FJ337 := gr_fjt FJ k335 rfl rfl
    have t338 := g335 0 71 rfl
    have t339 := g335 0 72 rfl
    have t340 := g335 0 73 rfl
    have t341 := g335 0 69 rfl
    have t342 := g335 0 64 rfl
    have t343 := g335 0 122 rfl
    have t344 := g335 0 123 rfl
    have t345 := g335 0 3 rfl
    have f346 := (show 0 ≤ I336 0 71 ∧ I336 0 71 ≤ 5 from (hI336 0 71).1)
    have f347 := (show 0 ≤ I336 0 72 ∧ I336 0 72 ≤ 1000 from (hI336 0 72).1)
    have f348 := (show 0 ≤ I336 0 73 ∧ I336 0 73 ≤ 1001 from (hI336 0 73).1)
    have f349 := (show 0 ≤ I336 0 69 ∧ I336 0 69 ≤ 1000 from (hI336 0 69).1)
    have f350 := (show 0 ≤ I336 0 64 ∧ I336 0 64 ≤ 2000 from (hI336 0 64).1)
    have f351 := (show 0 ≤ I336 0 122 ∧ I336 0 122 ≤ 47 from (hI336 0 122).1)
    have f352 := (show 0 ≤ I336 0 123 ∧ I336 0 123 ≤ 95 from (hI336 0 123).1)
    have f353 := (show 0 ≤ I336 0 3 ∧ I336 0 3 ≤ 96 from (hI336 0 3).1)
    have KTM_I336 := gr_TM_fr KTM_I (fun k => g335 52 k rfl) (fun k => g335 53 k rfl) (fun k => g335 54 k rfl) (g335 0 64 rfl)
    have KTO_I336 := gr_TO_fr KTO_I (fun k => g335 52 k rfl) (fun k => g335 53 k rfl) (fun k => g335 54 k rfl) (fun k => g335 55 k rfl) (fun k => g335 6 k rfl) (g335 0 64 rfl) (g335 0 3 rfl)
    refine gv_callV hD rfl (As := [.inl 5]) (st := []) rfl (by decide) rfl rfl (gr_lV hws rfl) (Nat.le_of_ble_eq_true rfl) (gz_Ev_mono (d := 3) (by omega) E335) ?_
    show gv_X _ _ (11, [(0, .inr (.inr (some 0))), (1, .inl a1)], [.inl z335], gr_sh ++ ext, gr_h I336 J337)
    exact gv_iret hD rfl ⟨I336, J337, rfl, hI336, FI336, FJ337, KTM_I336, KTO_I336, ⟨_, rfl, by omega, by omega, by omega, by omega, by omega, by omega, by omega, by omega, by omega, by omega, by omega, by omega, by omega, by omega, by omega, by omega, (Or.inl (by omega)), (gr_TS9_tr (gr_TS9_rf I) (gr_TS9_fr (fun k => g335 55 k rfl) (fun k => g335 52 k rfl) (fun k => g335 53 k rfl) (fun k => g335 54 k rfl)) (by omega))⟩⟩
