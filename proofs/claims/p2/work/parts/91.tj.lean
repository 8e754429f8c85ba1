set_option maxHeartbeats 4000000 in
set_option maxRecDepth 100000 in
theorem r_atom_w {ws0 : List Cond} {tb : String → gz_T} (hws : ∀ w ∈ gr_ws, w ∈ ws0) (htb : tb RX13 = gr_T) (ext : gz_Sh) (nr : Nat) (ihR : ∀ (I : gr_I) (J : gr_J) (hI : gr_Inv I) (a1 : Int) (ha1 : 1 ≤ a1 ∧ a1 ≤ 41) (x0 : I 0 71 = 5 ∨ I 0 73 ≤ I 0 69) (x1 : I 0 72 ≤ I 0 69) (x2 : I 0 71 = 0 ∨ (I 0 72 < I 0 73 ∧ I 0 72 < I 0 69)) (x3 : I 0 71 = 3 → 2 ≤ I 0 73 - I 0 72 ∧ I 0 73 - I 0 72 ≤ 14) (x4 : I 0 72 ≤ I 0 73) (x5 : I 0 64 + I 0 69 - I 0 72 ≤ 1900) (x6 : I 0 122 ≤ a1) (x7 : I 0 123 < I 0 3) (KTM_I : gr_TM I) (KTO_I : gr_TO I) (_ : (42 - a1).toNat < nr), ∃ r h', gz_Ev ws0 tb (14 + 2 * nr) (yX13_term, cX13_term, 4, (some .int)) [.inr (.inr (some 0)), .inl a1] (gr_sh ++ ext) (gr_h I J) r (gr_sh ++ ext) h' 0 0 ∧ (∃ (I' : gr_I) (J' : gr_J), h' = gr_h I' J' ∧ gr_Inv I' ∧ gr_fr [64, 71, 72, 73, 74, 75, 76, 77, 122] [52, 53, 54, 55, 75] I I' ∧ gr_fj [64, 71, 72, 73, 74, 75, 76, 77, 122] [52, 53, 54, 55, 75] J J' ∧ gr_TM I' ∧ gr_TO I' ∧ (∃ z : Int, r = some (.inl z) ∧ (-1) ≤ z ∧ z ≤ 1999 ∧ (I' 0 71 = 5 ∨ I' 0 73 ≤ I' 0 69) ∧ (I' 0 72 ≤ I' 0 69) ∧ (I' 0 71 = 0 ∨ (I' 0 72 < I' 0 73 ∧ I' 0 72 < I' 0 69)) ∧ (I' 0 71 = 3 → 2 ≤ I' 0 73 - I' 0 72 ∧ I' 0 73 - I' 0 72 ≤ 14) ∧ (I' 0 72 ≤ I' 0 73) ∧ (I' 0 69 = I 0 69) ∧ (I 0 73 ≤ I' 0 73) ∧ (I 0 72 ≤ I' 0 72) ∧ (I 0 64 ≤ I' 0 64) ∧ (I' 0 64 - I' 0 72 ≤ I 0 64 - I 0 72) ∧ (I 0 122 ≤ I' 0 122) ∧ (z < 0 ∨ I' 0 122 = I 0 122) ∧ (z < I' 0 64) ∧ (z < 0 ∨ I 0 72 < I' 0 72) ∧ (gr_OWN z (I 0 123) (I 0 122) I') ∧ (gr_TS9 I I')))) (I : gr_I) (J : gr_J) (hI : gr_Inv I) (a1 : Int) (ha1 : 1 ≤ a1 ∧ a1 ≤ 40) (x0 : I 0 71 = 5 ∨ I 0 73 ≤ I 0 69) (x1 : I 0 72 ≤ I 0 69) (x2 : I 0 71 = 0 ∨ (I 0 72 < I 0 73 ∧ I 0 72 < I 0 69)) (x3 : I 0 71 = 3 → 2 ≤ I 0 73 - I 0 72 ∧ I 0 73 - I 0 72 ≤ 14) (x4 : I 0 72 ≤ I 0 73) (x5 : I 0 64 + I 0 69 - I 0 72 ≤ 1900) (x6 : I 0 122 ≤ a1) (x7 : I 0 123 < I 0 3) (KTM_I : gr_TM I) (KTO_I : gr_TO I) (hnr : (41 - a1).toNat < nr) : ∃ r h', gz_Ev ws0 tb (14 + 2 * nr + 1) (yX13_atom, cX13_atom, 4, (some .int)) [.inr (.inr (some 0)), .inl a1] (gr_sh ++ ext) (gr_h I J) r (gr_sh ++ ext) h' 0 0 ∧ (∃ (I' : gr_I) (J' : gr_J), h' = gr_h I' J' ∧ gr_Inv I' ∧ gr_fr [64, 71, 72, 73, 74, 75, 76, 77, 122] [52, 53, 54, 55, 75] I I' ∧ gr_fj [64, 71, 72, 73, 74, 75, 76, 77, 122] [52, 53, 54, 55, 75] J J' ∧ gr_TM I' ∧ gr_TO I' ∧ (∃ z : Int, r = some (.inl z) ∧ (-1) ≤ z ∧ z ≤ 1999 ∧ (I' 0 71 = 5 ∨ I' 0 73 ≤ I' 0 69) ∧ (I' 0 72 ≤ I' 0 69) ∧ (I' 0 71 = 0 ∨ (I' 0 72 < I' 0 73 ∧ I' 0 72 < I' 0 69)) ∧ (I' 0 71 = 3 → 2 ≤ I' 0 73 - I' 0 72 ∧ I' 0 73 - I' 0 72 ≤ 14) ∧ (I' 0 72 ≤ I' 0 73) ∧ (I' 0 69 = I 0 69) ∧ (I 0 73 ≤ I' 0 73) ∧ (I 0 72 ≤ I' 0 72) ∧ (I 0 64 ≤ I' 0 64) ∧ (I' 0 64 - I' 0 72 ≤ I 0 64 - I 0 72) ∧ (I 0 122 ≤ I' 0 122) ∧ (z < 0 ∨ I' 0 122 = I 0 122) ∧ (z < I' 0 64) ∧ (z < 0 ∨ I 0 72 < I' 0 72) ∧ (gr_OWN z (I 0 123) (I 0 122) I') ∧ (gr_TS9 I I'))) := by
  have FI : gr_fr [64, 71, 72, 73, 74, 75, 76, 77, 122] [52, 53, 54, 55, 75] I I := fun _ _ _ => rfl
  have FJ : gr_fj [64, 71, 72, 73, 74, 75, 76, 77, 122] [52, 53, 54, 55, 75] J J := fun _ _ _ => rfl
  have hD : gv_D (gr_E ws0 tb (14 + 2 * nr) (yX13_atom, cX13_atom, 4, (some .int)) kX13_atom) := gq_ok oX13_atom
  refine gr_ev (d := (14 + 2 * nr)) (l := kX13_atom) (Po := fun r h' => (∃ (I' : gr_I) (J' : gr_J), h' = gr_h I' J' ∧ gr_Inv I' ∧ gr_fr [64, 71, 72, 73, 74, 75, 76, 77, 122] [52, 53, 54, 55, 75] I I' ∧ gr_fj [64, 71, 72, 73, 74, 75, 76, 77, 122] [52, 53, 54, 55, 75] J J' ∧ gr_TM I' ∧ gr_TO I' ∧ (∃ z : Int, r = some (.inl z) ∧ (-1) ≤ z ∧ z ≤ 1999 ∧ (I' 0 71 = 5 ∨ I' 0 73 ≤ I' 0 69) ∧ (I' 0 72 ≤ I' 0 69) ∧ (I' 0 71 = 0 ∨ (I' 0 72 < I' 0 73 ∧ I' 0 72 < I' 0 69)) ∧ (I' 0 71 = 3 → 2 ≤ I' 0 73 - I' 0 72 ∧ I' 0 73 - I' 0 72 ≤ 14) ∧ (I' 0 72 ≤ I' 0 73) ∧ (I' 0 69 = I 0 69) ∧ (I 0 73 ≤ I' 0 73) ∧ (I 0 72 ≤ I' 0 72) ∧ (I 0 64 ≤ I' 0 64) ∧ (I' 0 64 - I' 0 72 ≤ I 0 64 - I 0 72) ∧ (I 0 122 ≤ I' 0 122) ∧ (z < 0 ∨ I' 0 122 = I 0 122) ∧ (z < I' 0 64) ∧ (z < 0 ∨ I 0 72 < I' 0 72) ∧ (gr_OWN z (I 0 123) (I 0 122) I') ∧ (gr_TS9 I I')))) htb rfl (Nat.le_of_ble_eq_true rfl) ?_
  have f1 := (show 0 ≤ I 0 71 ∧ I 0 71 ≤ 5 from (hI 0 71).1)
  have f2 := (show 0 ≤ I 0 72 ∧ I 0 72 ≤ 1000 from (hI 0 72).1)
  have f3 := (show 0 ≤ I 0 73 ∧ I 0 73 ≤ 1001 from (hI 0 73).1)
  have f4 := (show 0 ≤ I 0 69 ∧ I 0 69 ≤ 1000 from (hI 0 69).1)
  have f5 := (show 0 ≤ I 0 64 ∧ I 0 64 ≤ 2000 from (hI 0 64).1)
  have f6 := (show 0 ≤ I 0 122 ∧ I 0 122 ≤ 47 from (hI 0 122).1)
  have f7 := (show 0 ≤ I 0 123 ∧ I 0 123 ≤ 95 from (hI 0 123).1)
  have f8 := (show 0 ≤ I 0 3 ∧ I 0 3 ≤ 96 from (hI 0 3).1)
  have f9 := (show 0 ≤ I 0 74 ∧ I 0 74 ≤ 999999 from (hI 0 74).1)
  have L15 : ∀ (n : Nat) (v2_10 : Int), (v2_10 - (-2)).toNat < n → (((-1) ≤ v2_10 ∧ v2_10 ≤ 46) ∧ (v2_10 < I 0 122) ∧ (I 0 71 = 1) ∧ (I 0 71 = 5 ∨ I 0 73 ≤ I 0 69) ∧ (I 0 72 ≤ I 0 69) ∧ (I 0 71 = 0 ∨ (I 0 72 < I 0 73 ∧ I 0 72 < I 0 69)) ∧ (I 0 71 = 3 → 2 ≤ I 0 73 - I 0 72 ∧ I 0 73 - I 0 72 ≤ 14) ∧ (I 0 72 ≤ I 0 73) ∧ (I 0 69 = I 0 69) ∧ (I 0 73 ≤ I 0 73) ∧ (I 0 72 ≤ I 0 72)) → gv_X (gr_E ws0 tb (14 + 2 * nr) (yX13_atom, cX13_atom, 4, (some .int)) kX13_atom) (gv_Q cX13_atom (some .int) (gr_sh ++ ext) (fun r h' => (∃ (I' : gr_I) (J' : gr_J), h' = gr_h I' J' ∧ gr_Inv I' ∧ gr_fr [64, 71, 72, 73, 74, 75, 76, 77, 122] [52, 53, 54, 55, 75] I I' ∧ gr_fj [64, 71, 72, 73, 74, 75, 76, 77, 122] [52, 53, 54, 55, 75] J J' ∧ gr_TM I' ∧ gr_TO I' ∧ (∃ z : Int, r = some (.inl z) ∧ (-1) ≤ z ∧ z ≤ 1999 ∧ (I' 0 71 = 5 ∨ I' 0 73 ≤ I' 0 69) ∧ (I' 0 72 ≤ I' 0 69) ∧ (I' 0 71 = 0 ∨ (I' 0 72 < I' 0 73 ∧ I' 0 72 < I' 0 69)) ∧ (I' 0 71 = 3 → 2 ≤ I' 0 73 - I' 0 72 ∧ I' 0 73 - I' 0 72 ≤ 14) ∧ (I' 0 72 ≤ I' 0 73) ∧ (I' 0 69 = I 0 69) ∧ (I 0 73 ≤ I' 0 73) ∧ (I 0 72 ≤ I' 0 72) ∧ (I 0 64 ≤ I' 0 64) ∧ (I' 0 64 - I' 0 72 ≤ I 0 64 - I 0 72) ∧ (I 0 122 ≤ I' 0 122) ∧ (z < 0 ∨ I' 0 122 = I 0 122) ∧ (z < I' 0 64) ∧ (z < 0 ∨ I 0 72 < I' 0 72) ∧ (gr_OWN z (I 0 123) (I 0 122) I') ∧ (gr_TS9 I I'))))) (15, [(0, .inr (.inr (some 0))), (2, .inl v2_10)], [], gr_sh ++ ext, gr_h I J) := by
    intro n
    induction n with
    | zero => intro v2_10 hn; omega
    | succ n ih15 =>
      intro v2_10 hn m_10
      obtain ⟨hv2_10, e0_10, e1_10, e2_10, e3_10, e4_10, e5_10, e6_10, e7_10, e8_10, e9_10⟩ := m_10
      have f11 := (show 0 ≤ I 0 71 ∧ I 0 71 ≤ 5 from (hI 0 71).1)
      have f12 := (show 0 ≤ I 0 72 ∧ I 0 72 ≤ 1000 from (hI 0 72).1)
      have f13 := (show 0 ≤ I 0 73 ∧ I 0 73 ≤ 1001 from (hI 0 73).1)
      have f14 := (show 0 ≤ I 0 69 ∧ I 0 69 ≤ 1000 from (hI 0 69).1)
      have f15 := (show 0 ≤ I 0 64 ∧ I 0 64 ≤ 2000 from (hI 0 64).1)
      have f16 := (show 0 ≤ I 0 122 ∧ I 0 122 ≤ 47 from (hI 0 122).1)
      have f17 := (show 0 ≤ I 0 123 ∧ I 0 123 ≤ 95 from (hI 0 123).1)
      have f18 := (show 0 ≤ I 0 3 ∧ I 0 3 ≤ 96 from (hI 0 3).1)
      have f19 := (show 0 ≤ I 0 74 ∧ I 0 74 ≤ 999999 from (hI 0 74).1)
      have L39 : (((-1) ≤ v2_10 ∧ v2_10 ≤ 46) ∧ (v2_10 < I 0 122) ∧ (I 0 71 = 1) ∧ (I 0 71 = 5 ∨ I 0 73 ≤ I 0 69) ∧ (I 0 72 ≤ I 0 69) ∧ (I 0 71 = 0 ∨ (I 0 72 < I 0 73 ∧ I 0 72 < I 0 69)) ∧ (I 0 71 = 3 → 2 ≤ I 0 73 - I 0 72 ∧ I 0 73 - I 0 72 ≤ 14) ∧ (I 0 72 ≤ I 0 73) ∧ (I 0 69 = I 0 69) ∧ (I 0 73 ≤ I 0 73) ∧ (I 0 72 ≤ I 0 72)) → gv_X (gr_E ws0 tb (14 + 2 * nr) (yX13_atom, cX13_atom, 4, (some .int)) kX13_atom) (gv_Q cX13_atom (some .int) (gr_sh ++ ext) (fun r h' => (∃ (I' : gr_I) (J' : gr_J), h' = gr_h I' J' ∧ gr_Inv I' ∧ gr_fr [64, 71, 72, 73, 74, 75, 76, 77, 122] [52, 53, 54, 55, 75] I I' ∧ gr_fj [64, 71, 72, 73, 74, 75, 76, 77, 122] [52, 53, 54, 55, 75] J J' ∧ gr_TM I' ∧ gr_TO I' ∧ (∃ z : Int, r = some (.inl z) ∧ (-1) ≤ z ∧ z ≤ 1999 ∧ (I' 0 71 = 5 ∨ I' 0 73 ≤ I' 0 69) ∧ (I' 0 72 ≤ I' 0 69) ∧ (I' 0 71 = 0 ∨ (I' 0 72 < I' 0 73 ∧ I' 0 72 < I' 0 69)) ∧ (I' 0 71 = 3 → 2 ≤ I' 0 73 - I' 0 72 ∧ I' 0 73 - I' 0 72 ≤ 14) ∧ (I' 0 72 ≤ I' 0 73) ∧ (I' 0 69 = I 0 69) ∧ (I 0 73 ≤ I' 0 73) ∧ (I 0 72 ≤ I' 0 72) ∧ (I 0 64 ≤ I' 0 64) ∧ (I' 0 64 - I' 0 72 ≤ I 0 64 - I 0 72) ∧ (I 0 122 ≤ I' 0 122) ∧ (z < 0 ∨ I' 0 122 = I 0 122) ∧ (z < I' 0 64) ∧ (z < 0 ∨ I 0 72 < I' 0 72) ∧ (gr_OWN z (I 0 123) (I 0 122) I') ∧ (gr_TS9 I I'))))) (39, [(0, .inr (.inr (some 0))), (2, .inl v2_10)], [], gr_sh ++ ext, gr_h I J) := by
        intro m_20
        obtain ⟨hv2_10_20, e0_20, e1_20, e2_20, e3_20, e4_20, e5_20, e6_20, e7_20, e8_20, e9_20⟩ := m_20
        have f21 := (show 0 ≤ I 0 71 ∧ I 0 71 ≤ 5 from (hI 0 71).1)
        have f22 := (show 0 ≤ I 0 72 ∧ I 0 72 ≤ 1000 from (hI 0 72).1)
        have f23 := (show 0 ≤ I 0 73 ∧ I 0 73 ≤ 1001 from (hI 0 73).1)
        have f24 := (show 0 ≤ I 0 69 ∧ I 0 69 ≤ 1000 from (hI 0 69).1)
        have f25 := (show 0 ≤ I 0 64 ∧ I 0 64 ≤ 2000 from (hI 0 64).1)
        have f26 := (show 0 ≤ I 0 122 ∧ I 0 122 ≤ 47 from (hI 0 122).1)
        have f27 := (show 0 ≤ I 0 123 ∧ I 0 123 ≤ 95 from (hI 0 123).1)
        have f28 := (show 0 ≤ I 0 3 ∧ I 0 3 ≤ 96 from (hI 0 3).1)
        have f29 := (show 0 ≤ I 0 74 ∧ I 0 74 ≤ 999999 from (hI 0 74).1)
        have L72 : ∀ (I30 : gr_I) (J31 : gr_J) (s0_32 : Int), gr_Inv I30 → gr_fr [64, 71, 72, 73, 74, 75, 76, 77, 122] [52, 53, 54, 55, 75] I I30 → gr_fj [64, 71, 72, 73, 74, 75, 76, 77, 122] [52, 53, 54, 55, 75] J J31 → gr_TM I30 → gr_TO I30 → ((0 ≤ s0_32 ∧ s0_32 ≤ 1999) ∧ (I30 0 64 = I 0 64 + 1) ∧ (I30 0 72 = I 0 72) ∧ (I30 0 73 = I 0 73) ∧ (s0_32 = I 0 64) ∧ (I30 0 71 = 1) ∧ (I30 0 122 = I 0 122) ∧ (I30 0 71 = 5 ∨ I30 0 73 ≤ I30 0 69) ∧ (I30 0 72 ≤ I30 0 69) ∧ (I30 0 71 = 0 ∨ (I30 0 72 < I30 0 73 ∧ I30 0 72 < I30 0 69)) ∧ (I30 0 71 = 3 → 2 ≤ I30 0 73 - I30 0 72 ∧ I30 0 73 - I30 0 72 ≤ 14) ∧ (I30 0 72 ≤ I30 0 73) ∧ (I30 0 69 = I 0 69) ∧ (I 0 73 ≤ I30 0 73) ∧ (I 0 72 ≤ I30 0 72)) → (gr_TS9 I I30) → (gr_OWN s0_32 (I 0 123) (I 0 122) I30) → gv_X (gr_E ws0 tb (14 + 2 * nr) (yX13_atom, cX13_atom, 4, (some .int)) kX13_atom) (gv_Q cX13_atom (some .int) (gr_sh ++ ext) (fun r h' => (∃ (I' : gr_I) (J' : gr_J), h' = gr_h I' J' ∧ gr_Inv I' ∧ gr_fr [64, 71, 72, 73, 74, 75, 76, 77, 122] [52, 53, 54, 55, 75] I I' ∧ gr_fj [64, 71, 72, 73, 74, 75, 76, 77, 122] [52, 53, 54, 55, 75] J J' ∧ gr_TM I' ∧ gr_TO I' ∧ (∃ z : Int, r = some (.inl z) ∧ (-1) ≤ z ∧ z ≤ 1999 ∧ (I' 0 71 = 5 ∨ I' 0 73 ≤ I' 0 69) ∧ (I' 0 72 ≤ I' 0 69) ∧ (I' 0 71 = 0 ∨ (I' 0 72 < I' 0 73 ∧ I' 0 72 < I' 0 69)) ∧ (I' 0 71 = 3 → 2 ≤ I' 0 73 - I' 0 72 ∧ I' 0 73 - I' 0 72 ≤ 14) ∧ (I' 0 72 ≤ I' 0 73) ∧ (I' 0 69 = I 0 69) ∧ (I 0 73 ≤ I' 0 73) ∧ (I 0 72 ≤ I' 0 72) ∧ (I 0 64 ≤ I' 0 64) ∧ (I' 0 64 - I' 0 72 ≤ I 0 64 - I 0 72) ∧ (I 0 122 ≤ I' 0 122) ∧ (z < 0 ∨ I' 0 122 = I 0 122) ∧ (z < I' 0 64) ∧ (z < 0 ∨ I 0 72 < I' 0 72) ∧ (gr_OWN z (I 0 123) (I 0 122) I') ∧ (gr_TS9 I I'))))) (72, [(0, .inr (.inr (some 0)))], [.inl s0_32], gr_sh ++ ext, gr_h I30 J31) := by
          intro I30 J31 s0_32 hI30 FI30 FJ31 KTM_I30 KTO_I30 m_32 e6_32 e7_32
          clear hv2_10_20 e0_20 e1_20 e2_20 e3_20 e4_20 e5_20 e6_20 e7_20 e8_20 e9_20 f21 f22 f23 f24 f25 f26 f27 f28 f29 hv2_10 e0_10 e1_10 e2_10 e3_10 e4_10 e5_10 e6_10 e7_10 e8_10 e9_10 f11 f12 f13 f14 f15 f16 f17 f18 f19
          obtain ⟨hs0_32, e0_32, e1_32, e2_32, e3_32, e4_32, e5_32, e8_32, e9_32, e10_32, e11_32, e12_32, e13_32, e14_32, e15_32⟩ := m_32
          have f33 := (show 0 ≤ I30 0 71 ∧ I30 0 71 ≤ 5 from (hI30 0 71).1)
          have f34 := (show 0 ≤ I30 0 72 ∧ I30 0 72 ≤ 1000 from (hI30 0 72).1)
          have f35 := (show 0 ≤ I30 0 73 ∧ I30 0 73 ≤ 1001 from (hI30 0 73).1)
          have f36 := (show 0 ≤ I30 0 69 ∧ I30 0 69 ≤ 1000 from (hI30 0 69).1)
          have f37 := (show 0 ≤ I30 0 64 ∧ I30 0 64 ≤ 2000 from (hI30 0 64).1)
          have f38 := (show 0 ≤ I30 0 122 ∧ I30 0 122 ≤ 47 from (hI30 0 122).1)
          have f39 := (show 0 ≤ I30 0 123 ∧ I30 0 123 ≤ 95 from (hI30 0 123).1)
          have f40 := (show 0 ≤ I30 0 3 ∧ I30 0 3 ≤ 96 from (hI30 0 3).1)
          have f41 := (show 0 ≤ I30 0 74 ∧ I30 0 74 ≤ 999999 from (hI30 0 74).1)
          refine gv_run 2 true hD (pc' := 74) (lv' := [(3, .inl s0_32), (0, .inr (.inr (some 0)))]) (st' := [.inr (.inr (some 0))]) (h' := gr_h I30 J31) (C := ((True ∧ True) ∧ True)) rfl ⟨⟨trivial, trivial⟩, trivial⟩ ?_
          obtain ⟨r42, h42, E42, P42⟩ := r_next (ws0 := ws0) (tb := tb) hws htb ext I30 J31 hI30   (by omega)
          obtain ⟨I43, J44, rfl, hI43, g42, k42, ⟨rfl, q42⟩⟩ := P42
          have FI43 := gr_frt FI30 g42 rfl rfl
          have FJ44 := gr_fjt FJ31 k42 rfl rfl
          have t45 := g42 0 69 rfl
          have t46 := g42 0 64 rfl
          have t47 := g42 0 122 rfl
          have t48 := g42 0 123 rfl
          have t49 := g42 0 3 rfl
          have f50 := (show 0 ≤ I43 0 71 ∧ I43 0 71 ≤ 5 from (hI43 0 71).1)
          have f51 := (show 0 ≤ I43 0 72 ∧ I43 0 72 ≤ 1000 from (hI43 0 72).1)
          have f52 := (show 0 ≤ I43 0 73 ∧ I43 0 73 ≤ 1001 from (hI43 0 73).1)
          have f53 := (show 0 ≤ I43 0 69 ∧ I43 0 69 ≤ 1000 from (hI43 0 69).1)
          have f54 := (show 0 ≤ I43 0 64 ∧ I43 0 64 ≤ 2000 from (hI43 0 64).1)
          have f55 := (show 0 ≤ I43 0 122 ∧ I43 0 122 ≤ 47 from (hI43 0 122).1)
          have f56 := (show 0 ≤ I43 0 123 ∧ I43 0 123 ≤ 95 from (hI43 0 123).1)
          have f57 := (show 0 ≤ I43 0 3 ∧ I43 0 3 ≤ 96 from (hI43 0 3).1)
          have f58 := (show 0 ≤ I43 0 74 ∧ I43 0 74 ≤ 999999 from (hI43 0 74).1)
          have KTM_I43 := gr_TM_fr KTM_I30 (fun k => g42 52 k rfl) (fun k => g42 53 k rfl) (fun k => g42 54 k rfl) (g42 0 64 rfl)
          have KTO_I43 := gr_TO_fr KTO_I30 (fun k => g42 52 k rfl) (fun k => g42 53 k rfl) (fun k => g42 54 k rfl) (fun k => g42 55 k rfl) (fun k => g42 6 k rfl) (g42 0 64 rfl) (g42 0 3 rfl)
          refine gv_callV hD rfl (As := []) (st := []) rfl (by decide) rfl rfl (gr_lV hws rfl) (Nat.le_of_ble_eq_true rfl) (gz_Ev_mono (d := 10) (by omega) E42) ?_
          show gv_X _ _ (77, [(3, .inl s0_32), (0, .inr (.inr (some 0)))], [], gr_sh ++ ext, gr_h I43 J44)
          refine gv_run 1 true hD (pc' := 78) (lv' := [(3, .inl s0_32), (0, .inr (.inr (some 0)))]) (st' := [.inl s0_32]) (h' := gr_h I43 J44) (C := (True ∧ True)) rfl ⟨trivial, trivial⟩ ?_
          exact gv_iret hD rfl ⟨I43, J44, rfl, hI43, FI43, FJ44, KTM_I43, KTO_I43, ⟨_, rfl, by omega, by omega, by omega, by omega, by omega, by omega, by omega, by omega, by omega, by omega, by omega, by omega, by omega, by omega, by omega, by omega, (gr_OWN_x e7_32 (gr_TS9_fr (fun k => g42 55 k rfl) (fun k => g42 52 k rfl) (fun k => g42 53 k rfl) (fun k => g42 54 k rfl)) (by omega) (by omega) (by omega)), (gr_TS9_tr e6_32 (gr_TS9_fr (fun k => g42 55 k rfl) (fun k => g42 52 k rfl) (fun k => g42 53 k rfl) (fun k => g42 54 k rfl)) (by omega))⟩⟩
        refine gv_run 1 true hD (pc' := 40) (lv' := [(0, .inr (.inr (some 0))), (2, .inl v2_10)]) (st' := [.inl v2_10]) (h' := gr_h I J) (C := (True ∧ True)) rfl ⟨trivial, trivial⟩ ?_
        refine gv_if_ge (t := 57) hD rfl rfl ⟨by omega, by omega⟩ (fun c59 => ?_) (fun c59 => ?_)
        · have f60 := (show 0 ≤ I 0 122 ∧ I 0 122 ≤ 47 from (hI 0 122).1)
          refine gv_run 7 true hD (pc' := 66) (lv' := [(0, .inr (.inr (some 0))), (2, .inl v2_10)]) (st' := [.inl v2_10, .inl ((I 0 122) - 1), .inl 1, .inr (.inr (some 0))]) (h' := gr_h I J) (C := (((((((True ∧ True) ∧ True) ∧ True) ∧ True) ∧ True) ∧ True) ∧ True)) rfl ⟨⟨⟨⟨⟨⟨⟨trivial, trivial⟩, trivial⟩, trivial⟩, trivial⟩, trivial⟩, trivial⟩, trivial⟩ ?_
          refine gv_run 3 true hD (pc' := 69) (lv' := [(0, .inr (.inr (some 0))), (2, .inl v2_10)]) (st' := [.inr (.inl (Int64.ofNat 0)), .inl 0, .inl (((I 0 122) - 1) - v2_10), .inl 1, .inr (.inr (some 0))]) (h' := gr_h I J) (C := (((True ∧ True) ∧ True) ∧ True)) rfl ⟨⟨⟨trivial, trivial⟩, trivial⟩, trivial⟩ ?_
          obtain ⟨r61, h61, E61, P61⟩ := r_node_w (ws0 := ws0) (tb := tb) hws htb ext I J hI 1 ((((I 0 122) - 1) - v2_10)) 0 (Int64.ofNat 0) ⟨by omega, by omega⟩ ⟨by omega, by omega⟩ ⟨by omega, by omega⟩ (by omega) (by omega) (by omega) KTO_I (gr_NDp_1 (by omega)) (by omega) KTM_I
          obtain ⟨I62, J63, rfl, hI62, g61, k61, KTM_I62, ⟨z61, rfl, q61⟩⟩ := P61
          have FI62 := gr_frt FI g61 rfl rfl
          have FJ63 := gr_fjt FJ k61 rfl rfl
          have t64 := g61 0 71 rfl
          have t65 := g61 0 72 rfl
          have t66 := g61 0 73 rfl
          have t67 := g61 0 69 rfl
          have t68 := g61 0 122 rfl
          have t69 := g61 0 123 rfl
          have t70 := g61 0 3 rfl
          have t71 := g61 0 74 rfl
          have f72 := (show 0 ≤ I62 0 71 ∧ I62 0 71 ≤ 5 from (hI62 0 71).1)
          have f73 := (show 0 ≤ I62 0 72 ∧ I62 0 72 ≤ 1000 from (hI62 0 72).1)
          have f74 := (show 0 ≤ I62 0 73 ∧ I62 0 73 ≤ 1001 from (hI62 0 73).1)
          have f75 := (show 0 ≤ I62 0 69 ∧ I62 0 69 ≤ 1000 from (hI62 0 69).1)
          have f76 := (show 0 ≤ I62 0 64 ∧ I62 0 64 ≤ 2000 from (hI62 0 64).1)
          have f77 := (show 0 ≤ I62 0 122 ∧ I62 0 122 ≤ 47 from (hI62 0 122).1)
          have f78 := (show 0 ≤ I62 0 123 ∧ I62 0 123 ≤ 95 from (hI62 0 123).1)
          have f79 := (show 0 ≤ I62 0 3 ∧ I62 0 3 ≤ 96 from (hI62 0 3).1)
          have f80 := (show 0 ≤ I62 0 74 ∧ I62 0 74 ≤ 999999 from (hI62 0 74).1)
          have KTO_I62 : gr_TO I62 := q61.2.2.2.2.1
          refine gv_callV hD rfl (As := [.inl 1, .inl (((I 0 122) - 1) - v2_10), .inl 0, .inr (.inl (Int64.ofNat 0))]) (st := []) rfl (by decide) rfl rfl (gr_lV hws rfl) (Nat.le_of_ble_eq_true rfl) (gz_Ev_mono (d := 1) (by omega) E61) ?_
          show gv_X _ _ (72, [(0, .inr (.inr (some 0))), (2, .inl v2_10)], [.inl z61], gr_sh ++ ext, gr_h I62 J63)
          refine gv_pick [0] rfl ?_
          exact L72 I62 J63 z61 hI62 FI62 FJ63 KTM_I62 KTO_I62 (by omega) (gr_TS9_tr (gr_TS9_rf I) q61.2.2.2.2.2.1 (by omega)) (gr_OWN_x (show gr_OWN z61 (I 0 123) (I 0 122) I62 from Or.inr ⟨by omega, by omega⟩) (gr_TS9_rf _) (by omega) (by omega) (by omega))
        · refine gv_run 6 true hD (pc' := 51) (lv' := [(0, .inr (.inr (some 0))), (2, .inl v2_10)]) (st' := [.inr (.inl (J 0 75)), .inl 0, .inl 0, .inl 2, .inr (.inr (some 0))]) (h' := gr_h I J) (C := ((((((True ∧ True) ∧ True) ∧ True) ∧ True) ∧ True) ∧ True)) rfl ⟨⟨⟨⟨⟨⟨trivial, trivial⟩, trivial⟩, trivial⟩, trivial⟩, trivial⟩, trivial⟩ ?_
          obtain ⟨r81, h81, E81, P81⟩ := r_node_w (ws0 := ws0) (tb := tb) hws htb ext I J hI 2 0 0 (J 0 75) ⟨by omega, by omega⟩ ⟨by omega, by omega⟩ ⟨by omega, by omega⟩ (by omega) (by omega) (by omega) KTO_I gr_NDp_2 (by omega) KTM_I
          obtain ⟨I82, J83, rfl, hI82, g81, k81, KTM_I82, ⟨z81, rfl, q81⟩⟩ := P81
          have FI82 := gr_frt FI g81 rfl rfl
          have FJ83 := gr_fjt FJ k81 rfl rfl
          have t84 := g81 0 71 rfl
          have t85 := g81 0 72 rfl
          have t86 := g81 0 73 rfl
          have t87 := g81 0 69 rfl
          have t88 := g81 0 122 rfl
          have t89 := g81 0 123 rfl
          have t90 := g81 0 3 rfl
          have t91 := g81 0 74 rfl
          have f92 := (show 0 ≤ I82 0 71 ∧ I82 0 71 ≤ 5 from (hI82 0 71).1)
          have f93 := (show 0 ≤ I82 0 72 ∧ I82 0 72 ≤ 1000 from (hI82 0 72).1)
          have f94 := (show 0 ≤ I82 0 73 ∧ I82 0 73 ≤ 1001 from (hI82 0 73).1)
          have f95 := (show 0 ≤ I82 0 69 ∧ I82 0 69 ≤ 1000 from (hI82 0 69).1)
          have f96 := (show 0 ≤ I82 0 64 ∧ I82 0 64 ≤ 2000 from (hI82 0 64).1)
          have f97 := (show 0 ≤ I82 0 122 ∧ I82 0 122 ≤ 47 from (hI82 0 122).1)
          have f98 := (show 0 ≤ I82 0 123 ∧ I82 0 123 ≤ 95 from (hI82 0 123).1)
          have f99 := (show 0 ≤ I82 0 3 ∧ I82 0 3 ≤ 96 from (hI82 0 3).1)
          have f100 := (show 0 ≤ I82 0 74 ∧ I82 0 74 ≤ 999999 from (hI82 0 74).1)
          have KTO_I82 : gr_TO I82 := q81.2.2.2.2.1
          refine gv_callV hD rfl (As := [.inl 2, .inl 0, .inl 0, .inr (.inl (J 0 75))]) (st := []) rfl (by decide) rfl rfl (gr_lV hws rfl) (Nat.le_of_ble_eq_true rfl) (gz_Ev_mono (d := 1) (by omega) E81) ?_
          show gv_X _ _ (54, [(0, .inr (.inr (some 0))), (2, .inl v2_10)], [.inl z81], gr_sh ++ ext, gr_h I82 J83)
          refine gv_run 1 true hD (pc' := 72) (lv' := [(0, .inr (.inr (some 0))), (2, .inl v2_10)]) (st' := [.inl z81]) (h' := gr_h I82 J83) (C := (True ∧ True)) rfl ⟨trivial, trivial⟩ ?_
          refine gv_pick [0] rfl ?_
          exact L72 I82 J83 z81 hI82 FI82 FJ83 KTM_I82 KTO_I82 (by omega) (gr_TS9_tr (gr_TS9_rf I) q81.2.2.2.2.2.1 (by omega)) (gr_OWN_x (show gr_OWN z81 (I 0 123) (I 0 122) I82 from Or.inr ⟨by omega, by omega⟩) (gr_TS9_rf _) (by omega) (by omega) (by omega))
      refine gv_run 1 true hD (pc' := 16) (lv' := [(0, .inr (.inr (some 0))), (2, .inl v2_10)]) (st' := [.inl v2_10]) (h' := gr_h I J) (C := (True ∧ True)) rfl ⟨trivial, trivial⟩ ?_
      refine gv_if_lt (t := 39) hD rfl rfl ⟨by omega, by omega⟩ (fun c101 => ?_) (fun c101 => ?_)
      · exact L39 (by omega)
      · refine gv_run 4 true hD (pc' := 25) (lv' := [(0, .inr (.inr (some 0))), (2, .inl v2_10)]) (st' := [.inr (.inl (J 75 (Int.toNat v2_10)))]) (h' := gr_h I J) (C := ((((True ∧ True) ∧ True) ∧ True) ∧ (0 ≤ v2_10 ∧ v2_10 < ((48 : Nat) : Int)))) rfl ⟨⟨⟨⟨trivial, trivial⟩, trivial⟩, trivial⟩, ⟨by omega, by omega⟩⟩ ?_
        have f102 := gw_cmp ((J 75 (Int.toNat v2_10))) ((J 0 75))
        refine gv_run 3 true hD (pc' := 30) (lv' := [(0, .inr (.inr (some 0))), (2, .inl v2_10)]) (st' := [.inl ((lg_cmp ((J 75 (Int.toNat v2_10))) ((J 0 75))).toInt)]) (h' := gr_h I J) (C := (((True ∧ True) ∧ True) ∧ True)) rfl ⟨⟨⟨trivial, trivial⟩, trivial⟩, trivial⟩ ?_
        refine gv_if_eq (t := 39) hD rfl rfl ⟨by omega, by omega⟩ (fun c103 => ?_) (fun c103 => ?_)
        · exact L39 (by omega)
        · refine gv_run 2 true hD (pc' := 15) (lv' := [(2, .inl (v2_10 + (-1))), (0, .inr (.inr (some 0)))]) (st' := []) (h' := gr_h I J) (C := ((True ∧ True) ∧ True)) rfl ⟨⟨trivial, trivial⟩, trivial⟩ ?_
          refine gv_pick [1, 0] rfl ?_
          exact ih15 ((v2_10 + (-1))) (by omega) (by omega)
  have L79 : ((1 ≤ a1 ∧ a1 ≤ 40) ∧ (I 0 71 = 5 ∨ I 0 73 ≤ I 0 69) ∧ (I 0 72 ≤ I 0 69) ∧ (I 0 71 = 0 ∨ (I 0 72 < I 0 73 ∧ I 0 72 < I 0 69)) ∧ (I 0 71 = 3 → 2 ≤ I 0 73 - I 0 72 ∧ I 0 73 - I 0 72 ≤ 14) ∧ (I 0 72 ≤ I 0 73) ∧ (I 0 69 = I 0 69) ∧ (I 0 73 ≤ I 0 73) ∧ (I 0 72 ≤ I 0 72)) → gv_X (gr_E ws0 tb (14 + 2 * nr) (yX13_atom, cX13_atom, 4, (some .int)) kX13_atom) (gv_Q cX13_atom (some .int) (gr_sh ++ ext) (fun r h' => (∃ (I' : gr_I) (J' : gr_J), h' = gr_h I' J' ∧ gr_Inv I' ∧ gr_fr [64, 71, 72, 73, 74, 75, 76, 77, 122] [52, 53, 54, 55, 75] I I' ∧ gr_fj [64, 71, 72, 73, 74, 75, 76, 77, 122] [52, 53, 54, 55, 75] J J' ∧ gr_TM I' ∧ gr_TO I' ∧ (∃ z : Int, r = some (.inl z) ∧ (-1) ≤ z ∧ z ≤ 1999 ∧ (I' 0 71 = 5 ∨ I' 0 73 ≤ I' 0 69) ∧ (I' 0 72 ≤ I' 0 69) ∧ (I' 0 71 = 0 ∨ (I' 0 72 < I' 0 73 ∧ I' 0 72 < I' 0 69)) ∧ (I' 0 71 = 3 → 2 ≤ I' 0 73 - I' 0 72 ∧ I' 0 73 - I' 0 72 ≤ 14) ∧ (I' 0 72 ≤ I' 0 73) ∧ (I' 0 69 = I 0 69) ∧ (I 0 73 ≤ I' 0 73) ∧ (I 0 72 ≤ I' 0 72) ∧ (I 0 64 ≤ I' 0 64) ∧ (I' 0 64 - I' 0 72 ≤ I 0 64 - I 0 72) ∧ (I 0 122 ≤ I' 0 122) ∧ (z < 0 ∨ I' 0 122 = I 0 122) ∧ (z < I' 0 64) ∧ (z < 0 ∨ I 0 72 < I' 0 72) ∧ (gr_OWN z (I 0 123) (I 0 122) I') ∧ (gr_TS9 I I'))))) (79, [(0, .inr (.inr (some 0))), (1, .inl a1)], [], gr_sh ++ ext, gr_h I J) := by
    intro m_104
    obtain ⟨ha1_104, e0_104, e1_104, e2_104, e3_104, e4_104, e5_104, e6_104, e7_104⟩ := m_104
    have f105 := (show 0 ≤ I 0 71 ∧ I 0 71 ≤ 5 from (hI 0 71).1)
    have f106 := (show 0 ≤ I 0 72 ∧ I 0 72 ≤ 1000 from (hI 0 72).1)
    have f107 := (show 0 ≤ I 0 73 ∧ I 0 73 ≤ 1001 from (hI 0 73).1)
    have f108 := (show 0 ≤ I 0 69 ∧ I 0 69 ≤ 1000 from (hI 0 69).1)
    have f109 := (show 0 ≤ I 0 64 ∧ I 0 64 ≤ 2000 from (hI 0 64).1)
    have f110 := (show 0 ≤ I 0 122 ∧ I 0 122 ≤ 47 from (hI 0 122).1)
    have f111 := (show 0 ≤ I 0 123 ∧ I 0 123 ≤ 95 from (hI 0 123).1)
    have f112 := (show 0 ≤ I 0 3 ∧ I 0 3 ≤ 96 from (hI 0 3).1)
    have f113 := (show 0 ≤ I 0 74 ∧ I 0 74 ≤ 999999 from (hI 0 74).1)
    have L111 : ((I 0 71 = 5 ∨ I 0 73 ≤ I 0 69) ∧ (I 0 72 ≤ I 0 69) ∧ (I 0 71 = 0 ∨ (I 0 72 < I 0 73 ∧ I 0 72 < I 0 69)) ∧ (I 0 71 = 3 → 2 ≤ I 0 73 - I 0 72 ∧ I 0 73 - I 0 72 ≤ 14) ∧ (I 0 72 ≤ I 0 73) ∧ (I 0 69 = I 0 69) ∧ (I 0 73 ≤ I 0 73) ∧ (I 0 72 ≤ I 0 72)) → gv_X (gr_E ws0 tb (14 + 2 * nr) (yX13_atom, cX13_atom, 4, (some .int)) kX13_atom) (gv_Q cX13_atom (some .int) (gr_sh ++ ext) (fun r h' => (∃ (I' : gr_I) (J' : gr_J), h' = gr_h I' J' ∧ gr_Inv I' ∧ gr_fr [64, 71, 72, 73, 74, 75, 76, 77, 122] [52, 53, 54, 55, 75] I I' ∧ gr_fj [64, 71, 72, 73, 74, 75, 76, 77, 122] [52, 53, 54, 55, 75] J J' ∧ gr_TM I' ∧ gr_TO I' ∧ (∃ z : Int, r = some (.inl z) ∧ (-1) ≤ z ∧ z ≤ 1999 ∧ (I' 0 71 = 5 ∨ I' 0 73 ≤ I' 0 69) ∧ (I' 0 72 ≤ I' 0 69) ∧ (I' 0 71 = 0 ∨ (I' 0 72 < I' 0 73 ∧ I' 0 72 < I' 0 69)) ∧ (I' 0 71 = 3 → 2 ≤ I' 0 73 - I' 0 72 ∧ I' 0 73 - I' 0 72 ≤ 14) ∧ (I' 0 72 ≤ I' 0 73) ∧ (I' 0 69 = I 0 69) ∧ (I 0 73 ≤ I' 0 73) ∧ (I 0 72 ≤ I' 0 72) ∧ (I 0 64 ≤ I' 0 64) ∧ (I' 0 64 - I' 0 72 ≤ I 0 64 - I 0 72) ∧ (I 0 122 ≤ I' 0 122) ∧ (z < 0 ∨ I' 0 122 = I 0 122) ∧ (z < I' 0 64) ∧ (z < 0 ∨ I 0 72 < I' 0 72) ∧ (gr_OWN z (I 0 123) (I 0 122) I') ∧ (gr_TS9 I I'))))) (111, [(0, .inr (.inr (some 0)))], [], gr_sh ++ ext, gr_h I J) := by
      intro m_114
      obtain ⟨e0_114, e1_114, e2_114, e3_114, e4_114, e5_114, e6_114, e7_114⟩ := m_114
      have f115 := (show 0 ≤ I 0 71 ∧ I 0 71 ≤ 5 from (hI 0 71).1)
      have f116 := (show 0 ≤ I 0 72 ∧ I 0 72 ≤ 1000 from (hI 0 72).1)
      have f117 := (show 0 ≤ I 0 73 ∧ I 0 73 ≤ 1001 from (hI 0 73).1)
      have f118 := (show 0 ≤ I 0 69 ∧ I 0 69 ≤ 1000 from (hI 0 69).1)
      have f119 := (show 0 ≤ I 0 64 ∧ I 0 64 ≤ 2000 from (hI 0 64).1)
      have f120 := (show 0 ≤ I 0 122 ∧ I 0 122 ≤ 47 from (hI 0 122).1)
      have f121 := (show 0 ≤ I 0 123 ∧ I 0 123 ≤ 95 from (hI 0 123).1)
      have f122 := (show 0 ≤ I 0 3 ∧ I 0 3 ≤ 96 from (hI 0 3).1)
      have f123 := (show 0 ≤ I 0 74 ∧ I 0 74 ≤ 999999 from (hI 0 74).1)
      refine gv_run 2 true hD (pc' := 113) (lv' := [(0, .inr (.inr (some 0)))]) (st' := [.inl 5, .inr (.inr (some 0))]) (h' := gr_h I J) (C := ((True ∧ True) ∧ True)) rfl ⟨⟨trivial, trivial⟩, trivial⟩ ?_
      obtain ⟨r124, h124, E124, P124⟩ := r_none (ws0 := ws0) (tb := tb) hws htb ext I J hI 5 ⟨by omega, by omega⟩ 
      obtain ⟨I125, J126, rfl, hI125, g124, k124, ⟨z124, rfl, q124⟩⟩ := P124
      have FI125 := gr_frt FI g124 rfl rfl
      have FJ126 := gr_fjt FJ k124 rfl rfl
      have t127 := g124 0 71 rfl
      have t128 := g124 0 72 rfl
      have t129 := g124 0 73 rfl
      have t130 := g124 0 69 rfl
      have t131 := g124 0 64 rfl
      have t132 := g124 0 122 rfl
      have t133 := g124 0 123 rfl
      have t134 := g124 0 3 rfl
      have t135 := g124 0 74 rfl
      have f136 := (show 0 ≤ I125 0 71 ∧ I125 0 71 ≤ 5 from (hI125 0 71).1)
      have f137 := (show 0 ≤ I125 0 72 ∧ I125 0 72 ≤ 1000 from (hI125 0 72).1)
      have f138 := (show 0 ≤ I125 0 73 ∧ I125 0 73 ≤ 1001 from (hI125 0 73).1)
      have f139 := (show 0 ≤ I125 0 69 ∧ I125 0 69 ≤ 1000 from (hI125 0 69).1)
      have f140 := (show 0 ≤ I125 0 64 ∧ I125 0 64 ≤ 2000 from (hI125 0 64).1)
      have f141 := (show 0 ≤ I125 0 122 ∧ I125 0 122 ≤ 47 from (hI125 0 122).1)
      have f142 := (show 0 ≤ I125 0 123 ∧ I125 0 123 ≤ 95 from (hI125 0 123).1)
      have f143 := (show 0 ≤ I125 0 3 ∧ I125 0 3 ≤ 96 from (hI125 0 3).1)
      have f144 := (show 0 ≤ I125 0 74 ∧ I125 0 74 ≤ 999999 from (hI125 0 74).1)
      have KTM_I125 := gr_TM_fr KTM_I (fun k => g124 52 k rfl) (fun k => g124 53 k rfl) (fun k => g124 54 k rfl) (g124 0 64 rfl)
      have KTO_I125 := gr_TO_fr KTO_I (fun k => g124 52 k rfl) (fun k => g124 53 k rfl) (fun k => g124 54 k rfl) (fun k => g124 55 k rfl) (fun k => g124 6 k rfl) (g124 0 64 rfl) (g124 0 3 rfl)
      refine gv_callV hD rfl (As := [.inl 5]) (st := []) rfl (by decide) rfl rfl (gr_lV hws rfl) (Nat.le_of_ble_eq_true rfl) (gz_Ev_mono (d := 3) (by omega) E124) ?_
      show gv_X _ _ (116, [(0, .inr (.inr (some 0)))], [.inl z124], gr_sh ++ ext, gr_h I125 J126)
      exact gv_iret hD rfl ⟨I125, J126, rfl, hI125, FI125, FJ126, KTM_I125, KTO_I125, ⟨_, rfl, by omega, by omega, by omega, by omega, by omega, by omega, by omega, by omega, by omega, by omega, by omega, by omega, by omega, by omega, by omega, by omega, (Or.inl (by omega)), (gr_TS9_tr (gr_TS9_rf I) (gr_TS9_fr (fun k => g124 55 k rfl) (fun k => g124 52 k rfl) (fun k => g124 53 k rfl) (fun k => g124 54 k rfl)) (by omega))⟩⟩
    have L117 : ((I 0 71 = 2) ∧ (1 ≤ I 0 74 ∧ I 0 74 ≤ 4) ∧ (I 0 74 ≤ I 6 (Int.toNat (I 0 123))) ∧ (I 0 71 = 5 ∨ I 0 73 ≤ I 0 69) ∧ (I 0 72 ≤ I 0 69) ∧ (I 0 71 = 0 ∨ (I 0 72 < I 0 73 ∧ I 0 72 < I 0 69)) ∧ (I 0 71 = 3 → 2 ≤ I 0 73 - I 0 72 ∧ I 0 73 - I 0 72 ≤ 14) ∧ (I 0 72 ≤ I 0 73) ∧ (I 0 69 = I 0 69) ∧ (I 0 73 ≤ I 0 73) ∧ (I 0 72 ≤ I 0 72)) → gv_X (gr_E ws0 tb (14 + 2 * nr) (yX13_atom, cX13_atom, 4, (some .int)) kX13_atom) (gv_Q cX13_atom (some .int) (gr_sh ++ ext) (fun r h' => (∃ (I' : gr_I) (J' : gr_J), h' = gr_h I' J' ∧ gr_Inv I' ∧ gr_fr [64, 71, 72, 73, 74, 75, 76, 77, 122] [52, 53, 54, 55, 75] I I' ∧ gr_fj [64, 71, 72, 73, 74, 75, 76, 77, 122] [52, 53, 54, 55, 75] J J' ∧ gr_TM I' ∧ gr_TO I' ∧ (∃ z : Int, r = some (.inl z) ∧ (-1) ≤ z ∧ z ≤ 1999 ∧ (I' 0 71 = 5 ∨ I' 0 73 ≤ I' 0 69) ∧ (I' 0 72 ≤ I' 0 69) ∧ (I' 0 71 = 0 ∨ (I' 0 72 < I' 0 73 ∧ I' 0 72 < I' 0 69)) ∧ (I' 0 71 = 3 → 2 ≤ I' 0 73 - I' 0 72 ∧ I' 0 73 - I' 0 72 ≤ 14) ∧ (I' 0 72 ≤ I' 0 73) ∧ (I' 0 69 = I 0 69) ∧ (I 0 73 ≤ I' 0 73) ∧ (I 0 72 ≤ I' 0 72) ∧ (I 0 64 ≤ I' 0 64) ∧ (I' 0 64 - I' 0 72 ≤ I 0 64 - I 0 72) ∧ (I 0 122 ≤ I' 0 122) ∧ (z < 0 ∨ I' 0 122 = I 0 122) ∧ (z < I' 0 64) ∧ (z < 0 ∨ I 0 72 < I' 0 72) ∧ (gr_OWN z (I 0 123) (I 0 122) I') ∧ (gr_TS9 I I'))))) (117, [(0, .inr (.inr (some 0)))], [], gr_sh ++ ext, gr_h I J) := by
      intro m_145
      obtain ⟨e0_145, e1_145, e2_145, e3_145, e4_145, e5_145, e6_145, e7_145, e8_145, e9_145, e10_145⟩ := m_145
      have f146 := (show 0 ≤ I 0 71 ∧ I 0 71 ≤ 5 from (hI 0 71).1)
      have f147 := (show 0 ≤ I 0 72 ∧ I 0 72 ≤ 1000 from (hI 0 72).1)
      have f148 := (show 0 ≤ I 0 73 ∧ I 0 73 ≤ 1001 from (hI 0 73).1)
      have f149 := (show 0 ≤ I 0 69 ∧ I 0 69 ≤ 1000 from (hI 0 69).1)
      have f150 := (show 0 ≤ I 0 64 ∧ I 0 64 ≤ 2000 from (hI 0 64).1)
      have f151 := (show 0 ≤ I 0 122 ∧ I 0 122 ≤ 47 from (hI 0 122).1)
      have f152 := (show 0 ≤ I 0 123 ∧ I 0 123 ≤ 95 from (hI 0 123).1)
      have f153 := (show 0 ≤ I 0 3 ∧ I 0 3 ≤ 96 from (hI 0 3).1)
      have f154 := (show 0 ≤ I 0 74 ∧ I 0 74 ≤ 999999 from (hI 0 74).1)
      have f155 := (show 0 ≤ I 0 74 ∧ I 0 74 ≤ 999999 from (hI 0 74).1)
      refine gv_run 7 true hD (pc' := 126) (lv' := [(0, .inr (.inr (some 0)))]) (st' := [.inl 0, .inl ((I 0 74) - 1), .inl 3, .inr (.inr (some 0))]) (h' := gr_h I J) (C := (((((((True ∧ True) ∧ True) ∧ True) ∧ True) ∧ True) ∧ True) ∧ True)) rfl ⟨⟨⟨⟨⟨⟨⟨trivial, trivial⟩, trivial⟩, trivial⟩, trivial⟩, trivial⟩, trivial⟩, trivial⟩ ?_
      refine gv_run 1 true hD (pc' := 127) (lv' := [(0, .inr (.inr (some 0)))]) (st' := [.inr (.inl (Int64.ofNat 0)), .inl 0, .inl ((I 0 74) - 1), .inl 3, .inr (.inr (some 0))]) (h' := gr_h I J) (C := (True ∧ True)) rfl ⟨trivial, trivial⟩ ?_
      obtain ⟨r156, h156, E156, P156⟩ := r_node_w (ws0 := ws0) (tb := tb) hws htb ext I J hI 3 (((I 0 74) - 1)) 0 (Int64.ofNat 0) ⟨by omega, by omega⟩ ⟨by omega, by omega⟩ ⟨by omega, by omega⟩ (by omega) (by omega) (by omega) KTO_I (gr_NDp_3 (by omega)) (by omega) KTM_I
      obtain ⟨I157, J158, rfl, hI157, g156, k156, KTM_I157, ⟨z156, rfl, q156⟩⟩ := P156
      have FI157 := gr_frt FI g156 rfl rfl
      have FJ158 := gr_fjt FJ k156 rfl rfl
      have t159 := g156 0 71 rfl
      have t160 := g156 0 72 rfl
      have t161 := g156 0 73 rfl
      have t162 := g156 0 69 rfl
      have t163 := g156 0 122 rfl
      have t164 := g156 0 123 rfl
      have t165 := g156 0 3 rfl
      have t166 := g156 0 74 rfl
      have f167 := (show 0 ≤ I157 0 71 ∧ I157 0 71 ≤ 5 from (hI157 0 71).1)
      have f168 := (show 0 ≤ I157 0 72 ∧ I157 0 72 ≤ 1000 from (hI157 0 72).1)
      have f169 := (show 0 ≤ I157 0 73 ∧ I157 0 73 ≤ 1001 from (hI157 0 73).1)
      have f170 := (show 0 ≤ I157 0 69 ∧ I157 0 69 ≤ 1000 from (hI157 0 69).1)
      have f171 := (show 0 ≤ I157 0 64 ∧ I157 0 64 ≤ 2000 from (hI157 0 64).1)
      have f172 := (show 0 ≤ I157 0 122 ∧ I157 0 122 ≤ 47 from (hI157 0 122).1)
      have f173 := (show 0 ≤ I157 0 123 ∧ I157 0 123 ≤ 95 from (hI157 0 123).1)
      have f174 := (show 0 ≤ I157 0 3 ∧ I157 0 3 ≤ 96 from (hI157 0 3).1)
      have f175 := (show 0 ≤ I157 0 74 ∧ I157 0 74 ≤ 999999 from (hI157 0 74).1)
      have KTO_I157 : gr_TO I157 := q156.2.2.2.2.1
      refine gv_callV hD rfl (As := [.inl 3, .inl ((I 0 74) - 1), .inl 0, .inr (.inl (Int64.ofNat 0))]) (st := []) rfl (by decide) rfl rfl (gr_lV hws rfl) (Nat.le_of_ble_eq_true rfl) (gz_Ev_mono (d := 1) (by omega) E156) ?_
      show gv_X _ _ (130, [(0, .inr (.inr (some 0)))], [.inl z156], gr_sh ++ ext, gr_h I157 J158)
      refine gv_run 2 true hD (pc' := 132) (lv' := [(2, .inl z156), (0, .inr (.inr (some 0)))]) (st' := [.inr (.inr (some 0))]) (h' := gr_h I157 J158) (C := ((True ∧ True) ∧ True)) rfl ⟨⟨trivial, trivial⟩, trivial⟩ ?_
      obtain ⟨r176, h176, E176, P176⟩ := r_next (ws0 := ws0) (tb := tb) hws htb ext I157 J158 hI157   (by omega)
      obtain ⟨I177, J178, rfl, hI177, g176, k176, ⟨rfl, q176⟩⟩ := P176
      have FI177 := gr_frt FI157 g176 rfl rfl
      have FJ178 := gr_fjt FJ158 k176 rfl rfl
      have t179 := g176 0 69 rfl
      have t180 := g176 0 64 rfl
      have t181 := g176 0 122 rfl
      have t182 := g176 0 123 rfl
      have t183 := g176 0 3 rfl
      have f184 := (show 0 ≤ I177 0 71 ∧ I177 0 71 ≤ 5 from (hI177 0 71).1)
      have f185 := (show 0 ≤ I177 0 72 ∧ I177 0 72 ≤ 1000 from (hI177 0 72).1)
      have f186 := (show 0 ≤ I177 0 73 ∧ I177 0 73 ≤ 1001 from (hI177 0 73).1)
      have f187 := (show 0 ≤ I177 0 69 ∧ I177 0 69 ≤ 1000 from (hI177 0 69).1)
      have f188 := (show 0 ≤ I177 0 64 ∧ I177 0 64 ≤ 2000 from (hI177 0 64).1)
      have f189 := (show 0 ≤ I177 0 122 ∧ I177 0 122 ≤ 47 from (hI177 0 122).1)
      have f190 := (show 0 ≤ I177 0 123 ∧ I177 0 123 ≤ 95 from (hI177 0 123).1)
      have f191 := (show 0 ≤ I177 0 3 ∧ I177 0 3 ≤ 96 from (hI177 0 3).1)
      have f192 := (show 0 ≤ I177 0 74 ∧ I177 0 74 ≤ 999999 from (hI177 0 74).1)
      have KTM_I177 := gr_TM_fr KTM_I157 (fun k => g176 52 k rfl) (fun k => g176 53 k rfl) (fun k => g176 54 k rfl) (g176 0 64 rfl)
      have KTO_I177 := gr_TO_fr KTO_I157 (fun k => g176 52 k rfl) (fun k => g176 53 k rfl) (fun k => g176 54 k rfl) (fun k => g176 55 k rfl) (fun k => g176 6 k rfl) (g176 0 64 rfl) (g176 0 3 rfl)
      refine gv_callV hD rfl (As := []) (st := []) rfl (by decide) rfl rfl (gr_lV hws rfl) (Nat.le_of_ble_eq_true rfl) (gz_Ev_mono (d := 10) (by omega) E176) ?_
      show gv_X _ _ (135, [(2, .inl z156), (0, .inr (.inr (some 0)))], [], gr_sh ++ ext, gr_h I177 J178)
      refine gv_run 1 true hD (pc' := 136) (lv' := [(2, .inl z156), (0, .inr (.inr (some 0)))]) (st' := [.inl z156]) (h' := gr_h I177 J178) (C := (True ∧ True)) rfl ⟨trivial, trivial⟩ ?_
      exact gv_iret hD rfl ⟨I177, J178, rfl, hI177, FI177, FJ178, KTM_I177, KTO_I177, ⟨_, rfl, by omega, by omega, by omega, by omega, by omega, by omega, by omega, by omega, by omega, by omega, by omega, by omega, by omega, by omega, by omega, by omega, (gr_OWN_x (show gr_OWN z156 (I 0 123) (I 0 122) I157 from Or.inr ⟨by omega, by omega⟩) (gr_TS9_fr (fun k => g176 55 k rfl) (fun k => g176 52 k rfl) (fun k => g176 53 k rfl) (fun k => g176 54 k rfl)) (by omega) (by omega) (by omega)), (gr_TS9_tr (gr_TS9_tr (gr_TS9_rf I) q156.2.2.2.2.2.1 (by omega)) (gr_TS9_fr (fun k => g176 55 k rfl) (fun k => g176 52 k rfl) (fun k => g176 53 k rfl) (fun k => g176 54 k rfl)) (by omega))⟩⟩
    have L137 : ((1 ≤ a1 ∧ a1 ≤ 40) ∧ (I 0 71 = 5 ∨ I 0 73 ≤ I 0 69) ∧ (I 0 72 ≤ I 0 69) ∧ (I 0 71 = 0 ∨ (I 0 72 < I 0 73 ∧ I 0 72 < I 0 69)) ∧ (I 0 71 = 3 → 2 ≤ I 0 73 - I 0 72 ∧ I 0 73 - I 0 72 ≤ 14) ∧ (I 0 72 ≤ I 0 73) ∧ (I 0 69 = I 0 69) ∧ (I 0 73 ≤ I 0 73) ∧ (I 0 72 ≤ I 0 72)) → gv_X (gr_E ws0 tb (14 + 2 * nr) (yX13_atom, cX13_atom, 4, (some .int)) kX13_atom) (gv_Q cX13_atom (some .int) (gr_sh ++ ext) (fun r h' => (∃ (I' : gr_I) (J' : gr_J), h' = gr_h I' J' ∧ gr_Inv I' ∧ gr_fr [64, 71, 72, 73, 74, 75, 76, 77, 122] [52, 53, 54, 55, 75] I I' ∧ gr_fj [64, 71, 72, 73, 74, 75, 76, 77, 122] [52, 53, 54, 55, 75] J J' ∧ gr_TM I' ∧ gr_TO I' ∧ (∃ z : Int, r = some (.inl z) ∧ (-1) ≤ z ∧ z ≤ 1999 ∧ (I' 0 71 = 5 ∨ I' 0 73 ≤ I' 0 69) ∧ (I' 0 72 ≤ I' 0 69) ∧ (I' 0 71 = 0 ∨ (I' 0 72 < I' 0 73 ∧ I' 0 72 < I' 0 69)) ∧ (I' 0 71 = 3 → 2 ≤ I' 0 73 - I' 0 72 ∧ I' 0 73 - I' 0 72 ≤ 14) ∧ (I' 0 72 ≤ I' 0 73) ∧ (I' 0 69 = I 0 69) ∧ (I 0 73 ≤ I' 0 73) ∧ (I 0 72 ≤ I' 0 72) ∧ (I 0 64 ≤ I' 0 64) ∧ (I' 0 64 - I' 0 72 ≤ I 0 64 - I 0 72) ∧ (I 0 122 ≤ I' 0 122) ∧ (z < 0 ∨ I' 0 122 = I 0 122) ∧ (z < I' 0 64) ∧ (z < 0 ∨ I 0 72 < I' 0 72) ∧ (gr_OWN z (I 0 123) (I 0 122) I') ∧ (gr_TS9 I I'))))) (137, [(0, .inr (.inr (some 0))), (1, .inl a1)], [], gr_sh ++ ext, gr_h I J) := by
      intro m_193
      obtain ⟨ha1_193, e0_193, e1_193, e2_193, e3_193, e4_193, e5_193, e6_193, e7_193⟩ := m_193
      have f194 := (show 0 ≤ I 0 71 ∧ I 0 71 ≤ 5 from (hI 0 71).1)
      have f195 := (show 0 ≤ I 0 72 ∧ I 0 72 ≤ 1000 from (hI 0 72).1)
      have f196 := (show 0 ≤ I 0 73 ∧ I 0 73 ≤ 1001 from (hI 0 73).1)
      have f197 := (show 0 ≤ I 0 69 ∧ I 0 69 ≤ 1000 from (hI 0 69).1)
      have f198 := (show 0 ≤ I 0 64 ∧ I 0 64 ≤ 2000 from (hI 0 64).1)
      have f199 := (show 0 ≤ I 0 122 ∧ I 0 122 ≤ 47 from (hI 0 122).1)
      have f200 := (show 0 ≤ I 0 123 ∧ I 0 123 ≤ 95 from (hI 0 123).1)
      have f201 := (show 0 ≤ I 0 3 ∧ I 0 3 ≤ 96 from (hI 0 3).1)
      have f202 := (show 0 ≤ I 0 74 ∧ I 0 74 ≤ 999999 from (hI 0 74).1)
      have L152 : ((1 ≤ a1 ∧ a1 ≤ 40) ∧ (I 0 71 = 4) ∧ (I 0 71 = 5 ∨ I 0 73 ≤ I 0 69) ∧ (I 0 72 ≤ I 0 69) ∧ (I 0 71 = 0 ∨ (I 0 72 < I 0 73 ∧ I 0 72 < I 0 69)) ∧ (I 0 71 = 3 → 2 ≤ I 0 73 - I 0 72 ∧ I 0 73 - I 0 72 ≤ 14) ∧ (I 0 72 ≤ I 0 73) ∧ (I 0 69 = I 0 69) ∧ (I 0 73 ≤ I 0 73) ∧ (I 0 72 ≤ I 0 72)) → gv_X (gr_E ws0 tb (14 + 2 * nr) (yX13_atom, cX13_atom, 4, (some .int)) kX13_atom) (gv_Q cX13_atom (some .int) (gr_sh ++ ext) (fun r h' => (∃ (I' : gr_I) (J' : gr_J), h' = gr_h I' J' ∧ gr_Inv I' ∧ gr_fr [64, 71, 72, 73, 74, 75, 76, 77, 122] [52, 53, 54, 55, 75] I I' ∧ gr_fj [64, 71, 72, 73, 74, 75, 76, 77, 122] [52, 53, 54, 55, 75] J J' ∧ gr_TM I' ∧ gr_TO I' ∧ (∃ z : Int, r = some (.inl z) ∧ (-1) ≤ z ∧ z ≤ 1999 ∧ (I' 0 71 = 5 ∨ I' 0 73 ≤ I' 0 69) ∧ (I' 0 72 ≤ I' 0 69) ∧ (I' 0 71 = 0 ∨ (I' 0 72 < I' 0 73 ∧ I' 0 72 < I' 0 69)) ∧ (I' 0 71 = 3 → 2 ≤ I' 0 73 - I' 0 72 ∧ I' 0 73 - I' 0 72 ≤ 14) ∧ (I' 0 72 ≤ I' 0 73) ∧ (I' 0 69 = I 0 69) ∧ (I 0 73 ≤ I' 0 73) ∧ (I 0 72 ≤ I' 0 72) ∧ (I 0 64 ≤ I' 0 64) ∧ (I' 0 64 - I' 0 72 ≤ I 0 64 - I 0 72) ∧ (I 0 122 ≤ I' 0 122) ∧ (z < 0 ∨ I' 0 122 = I 0 122) ∧ (z < I' 0 64) ∧ (z < 0 ∨ I 0 72 < I' 0 72) ∧ (gr_OWN z (I 0 123) (I 0 122) I') ∧ (gr_TS9 I I'))))) (152, [(0, .inr (.inr (some 0))), (1, .inl a1)], [], gr_sh ++ ext, gr_h I J) := by
        intro m_203
        obtain ⟨ha1_203, e0_203, e1_203, e2_203, e3_203, e4_203, e5_203, e6_203, e7_203, e8_203⟩ := m_203
        have f204 := (show 0 ≤ I 0 71 ∧ I 0 71 ≤ 5 from (hI 0 71).1)
        have f205 := (show 0 ≤ I 0 72 ∧ I 0 72 ≤ 1000 from (hI 0 72).1)
        have f206 := (show 0 ≤ I 0 73 ∧ I 0 73 ≤ 1001 from (hI 0 73).1)
        have f207 := (show 0 ≤ I 0 69 ∧ I 0 69 ≤ 1000 from (hI 0 69).1)
        have f208 := (show 0 ≤ I 0 64 ∧ I 0 64 ≤ 2000 from (hI 0 64).1)
        have f209 := (show 0 ≤ I 0 122 ∧ I 0 122 ≤ 47 from (hI 0 122).1)
        have f210 := (show 0 ≤ I 0 123 ∧ I 0 123 ≤ 95 from (hI 0 123).1)
        have f211 := (show 0 ≤ I 0 3 ∧ I 0 3 ≤ 96 from (hI 0 3).1)
        have f212 := (show 0 ≤ I 0 74 ∧ I 0 74 ≤ 999999 from (hI 0 74).1)
        have L182 : ∀ (I213 : gr_I) (J214 : gr_J) (s0_215 : Int), gr_Inv I213 → gr_fr [64, 71, 72, 73, 74, 75, 76, 77, 122] [52, 53, 54, 55, 75] I I213 → gr_fj [64, 71, 72, 73, 74, 75, 76, 77, 122] [52, 53, 54, 55, 75] J J214 → gr_TM I213 → gr_TO I213 → (((-1) ≤ s0_215 ∧ s0_215 ≤ 1999) ∧ (I 0 64 ≤ I213 0 64) ∧ (s0_215 < I213 0 64) ∧ (I213 0 64 - I213 0 72 ≤ I 0 64 - I 0 72) ∧ (I 0 122 ≤ I213 0 122) ∧ (s0_215 < 0 ∨ I213 0 122 = I 0 122) ∧ (s0_215 < 0 ∨ I 0 72 < I213 0 72) ∧ (I213 0 71 = 5 ∨ I213 0 73 ≤ I213 0 69) ∧ (I213 0 72 ≤ I213 0 69) ∧ (I213 0 71 = 0 ∨ (I213 0 72 < I213 0 73 ∧ I213 0 72 < I213 0 69)) ∧ (I213 0 71 = 3 → 2 ≤ I213 0 73 - I213 0 72 ∧ I213 0 73 - I213 0 72 ≤ 14) ∧ (I213 0 72 ≤ I213 0 73) ∧ (I213 0 69 = I 0 69) ∧ (I 0 73 ≤ I213 0 73) ∧ (I 0 72 ≤ I213 0 72)) → (gr_TS9 I I213) → (gr_OWN s0_215 (I 0 123) (I 0 122) I213) → gv_X (gr_E ws0 tb (14 + 2 * nr) (yX13_atom, cX13_atom, 4, (some .int)) kX13_atom) (gv_Q cX13_atom (some .int) (gr_sh ++ ext) (fun r h' => (∃ (I' : gr_I) (J' : gr_J), h' = gr_h I' J' ∧ gr_Inv I' ∧ gr_fr [64, 71, 72, 73, 74, 75, 76, 77, 122] [52, 53, 54, 55, 75] I I' ∧ gr_fj [64, 71, 72, 73, 74, 75, 76, 77, 122] [52, 53, 54, 55, 75] J J' ∧ gr_TM I' ∧ gr_TO I' ∧ (∃ z : Int, r = some (.inl z) ∧ (-1) ≤ z ∧ z ≤ 1999 ∧ (I' 0 71 = 5 ∨ I' 0 73 ≤ I' 0 69) ∧ (I' 0 72 ≤ I' 0 69) ∧ (I' 0 71 = 0 ∨ (I' 0 72 < I' 0 73 ∧ I' 0 72 < I' 0 69)) ∧ (I' 0 71 = 3 → 2 ≤ I' 0 73 - I' 0 72 ∧ I' 0 73 - I' 0 72 ≤ 14) ∧ (I' 0 72 ≤ I' 0 73) ∧ (I' 0 69 = I 0 69) ∧ (I 0 73 ≤ I' 0 73) ∧ (I 0 72 ≤ I' 0 72) ∧ (I 0 64 ≤ I' 0 64) ∧ (I' 0 64 - I' 0 72 ≤ I 0 64 - I 0 72) ∧ (I 0 122 ≤ I' 0 122) ∧ (z < 0 ∨ I' 0 122 = I 0 122) ∧ (z < I' 0 64) ∧ (z < 0 ∨ I 0 72 < I' 0 72) ∧ (gr_OWN z (I 0 123) (I 0 122) I') ∧ (gr_TS9 I I'))))) (182, [], [.inl s0_215], gr_sh ++ ext, gr_h I213 J214) := by
          intro I213 J214 s0_215 hI213 FI213 FJ214 KTM_I213 KTO_I213 m_215 e6_215 e7_215
          clear ha1_203 e0_203 e1_203 e2_203 e3_203 e4_203 e5_203 e6_203 e7_203 e8_203 f204 f205 f206 f207 f208 f209 f210 f211 f212 ha1_193 e0_193 e1_193 e2_193 e3_193 e4_193 e5_193 e6_193 e7_193 f194 f195 f196 f197 f198 f199 f200 f201 f202 ha1_104 e0_104 e1_104 e2_104 e3_104 e4_104 e5_104 e6_104 e7_104 f105 f106 f107 f108 f109 f110 f111 f112 f113
          obtain ⟨hs0_215, e0_215, e1_215, e2_215, e3_215, e4_215, e5_215, e8_215, e9_215, e10_215, e11_215, e12_215, e13_215, e14_215, e15_215⟩ := m_215
          have f216 := (show 0 ≤ I213 0 71 ∧ I213 0 71 ≤ 5 from (hI213 0 71).1)
          have f217 := (show 0 ≤ I213 0 72 ∧ I213 0 72 ≤ 1000 from (hI213 0 72).1)
          have f218 := (show 0 ≤ I213 0 73 ∧ I213 0 73 ≤ 1001 from (hI213 0 73).1)
          have f219 := (show 0 ≤ I213 0 69 ∧ I213 0 69 ≤ 1000 from (hI213 0 69).1)
          have f220 := (show 0 ≤ I213 0 64 ∧ I213 0 64 ≤ 2000 from (hI213 0 64).1)
          have f221 := (show 0 ≤ I213 0 122 ∧ I213 0 122 ≤ 47 from (hI213 0 122).1)
          have f222 := (show 0 ≤ I213 0 123 ∧ I213 0 123 ≤ 95 from (hI213 0 123).1)
          have f223 := (show 0 ≤ I213 0 3 ∧ I213 0 3 ≤ 96 from (hI213 0 3).1)
          have f224 := (show 0 ≤ I213 0 74 ∧ I213 0 74 ≤ 999999 from (hI213 0 74).1)
          exact gv_iret hD rfl ⟨I213, J214, rfl, hI213, FI213, FJ214, KTM_I213, KTO_I213, ⟨_, rfl, by omega, by omega, by omega, by omega, by omega, by omega, by omega, by omega, by omega, by omega, by omega, by omega, by omega, by omega, by omega, by omega, (gr_OWN_x e7_215 (gr_TS9_rf _) (by omega) (by omega) (by omega)), e6_215⟩⟩
        have L177 : ∀ (I225 : gr_I) (J226 : gr_J) , gr_Inv I225 → gr_fr [64, 71, 72, 73, 74, 75, 76, 77, 122] [52, 53, 54, 55, 75] I I225 → gr_fj [64, 71, 72, 73, 74, 75, 76, 77, 122] [52, 53, 54, 55, 75] J J226 → gr_TM I225 → gr_TO I225 → ((I 0 64 ≤ I225 0 64) ∧ (I225 0 64 - I225 0 72 ≤ I 0 64 - I 0 72) ∧ (I 0 122 ≤ I225 0 122) ∧ (I225 0 71 = 5 ∨ I225 0 73 ≤ I225 0 69) ∧ (I225 0 72 ≤ I225 0 69) ∧ (I225 0 71 = 0 ∨ (I225 0 72 < I225 0 73 ∧ I225 0 72 < I225 0 69)) ∧ (I225 0 71 = 3 → 2 ≤ I225 0 73 - I225 0 72 ∧ I225 0 73 - I225 0 72 ≤ 14) ∧ (I225 0 72 ≤ I225 0 73) ∧ (I225 0 69 = I 0 69) ∧ (I 0 73 ≤ I225 0 73) ∧ (I 0 72 ≤ I225 0 72)) → (gr_TS9 I I225) → gv_X (gr_E ws0 tb (14 + 2 * nr) (yX13_atom, cX13_atom, 4, (some .int)) kX13_atom) (gv_Q cX13_atom (some .int) (gr_sh ++ ext) (fun r h' => (∃ (I' : gr_I) (J' : gr_J), h' = gr_h I' J' ∧ gr_Inv I' ∧ gr_fr [64, 71, 72, 73, 74, 75, 76, 77, 122] [52, 53, 54, 55, 75] I I' ∧ gr_fj [64, 71, 72, 73, 74, 75, 76, 77, 122] [52, 53, 54, 55, 75] J J' ∧ gr_TM I' ∧ gr_TO I' ∧ (∃ z : Int, r = some (.inl z) ∧ (-1) ≤ z ∧ z ≤ 1999 ∧ (I' 0 71 = 5 ∨ I' 0 73 ≤ I' 0 69) ∧ (I' 0 72 ≤ I' 0 69) ∧ (I' 0 71 = 0 ∨ (I' 0 72 < I' 0 73 ∧ I' 0 72 < I' 0 69)) ∧ (I' 0 71 = 3 → 2 ≤ I' 0 73 - I' 0 72 ∧ I' 0 73 - I' 0 72 ≤ 14) ∧ (I' 0 72 ≤ I' 0 73) ∧ (I' 0 69 = I 0 69) ∧ (I 0 73 ≤ I' 0 73) ∧ (I 0 72 ≤ I' 0 72) ∧ (I 0 64 ≤ I' 0 64) ∧ (I' 0 64 - I' 0 72 ≤ I 0 64 - I 0 72) ∧ (I 0 122 ≤ I' 0 122) ∧ (z < 0 ∨ I' 0 122 = I 0 122) ∧ (z < I' 0 64) ∧ (z < 0 ∨ I 0 72 < I' 0 72) ∧ (gr_OWN z (I 0 123) (I 0 122) I') ∧ (gr_TS9 I I'))))) (177, [], [], gr_sh ++ ext, gr_h I225 J226) := by
          intro I225 J226 hI225 FI225 FJ226 KTM_I225 KTO_I225 m_227 e3_227
          clear ha1_203 e0_203 e1_203 e2_203 e3_203 e4_203 e5_203 e6_203 e7_203 e8_203 f204 f205 f206 f207 f208 f209 f210 f211 f212 ha1_193 e0_193 e1_193 e2_193 e3_193 e4_193 e5_193 e6_193 e7_193 f194 f195 f196 f197 f198 f199 f200 f201 f202 ha1_104 e0_104 e1_104 e2_104 e3_104 e4_104 e5_104 e6_104 e7_104 f105 f106 f107 f108 f109 f110 f111 f112 f113
          obtain ⟨e0_227, e1_227, e2_227, e4_227, e5_227, e6_227, e7_227, e8_227, e9_227, e10_227, e11_227⟩ := m_227
          have f228 := (show 0 ≤ I225 0 71 ∧ I225 0 71 ≤ 5 from (hI225 0 71).1)
          have f229 := (show 0 ≤ I225 0 72 ∧ I225 0 72 ≤ 1000 from (hI225 0 72).1)
          have f230 := (show 0 ≤ I225 0 73 ∧ I225 0 73 ≤ 1001 from (hI225 0 73).1)
          have f231 := (show 0 ≤ I225 0 69 ∧ I225 0 69 ≤ 1000 from (hI225 0 69).1)
          have f232 := (show 0 ≤ I225 0 64 ∧ I225 0 64 ≤ 2000 from (hI225 0 64).1)
          have f233 := (show 0 ≤ I225 0 122 ∧ I225 0 122 ≤ 47 from (hI225 0 122).1)
          have f234 := (show 0 ≤ I225 0 123 ∧ I225 0 123 ≤ 95 from (hI225 0 123).1)
          have f235 := (show 0 ≤ I225 0 3 ∧ I225 0 3 ≤ 96 from (hI225 0 3).1)
          have f236 := (show 0 ≤ I225 0 74 ∧ I225 0 74 ≤ 999999 from (hI225 0 74).1)
          refine gv_run 2 true hD (pc' := 182) (lv' := []) (st' := [.inl (-1)]) (h' := gr_h I225 J226) (C := ((True ∧ True) ∧ True)) rfl ⟨⟨trivial, trivial⟩, trivial⟩ ?_
          exact L182 I225 J226 (-1) hI225 FI225 FJ226 KTM_I225 KTO_I225 (by omega) e3_227 (Or.inl (by omega))
        refine gv_run 1 true hD (pc' := 153) (lv' := [(0, .inr (.inr (some 0))), (1, .inl a1)]) (st' := [.inr (.inr (some 0))]) (h' := gr_h I J) (C := (True ∧ True)) rfl ⟨trivial, trivial⟩ ?_
        obtain ⟨r237, h237, E237, P237⟩ := r_next (ws0 := ws0) (tb := tb) hws htb ext I J hI   (by omega)
        obtain ⟨I238, J239, rfl, hI238, g237, k237, ⟨rfl, q237⟩⟩ := P237
        have FI238 := gr_frt FI g237 rfl rfl
        have FJ239 := gr_fjt FJ k237 rfl rfl
        have t240 := g237 0 69 rfl
        have t241 := g237 0 64 rfl
        have t242 := g237 0 122 rfl
        have t243 := g237 0 123 rfl
        have t244 := g237 0 3 rfl
        have f245 := (show 0 ≤ I238 0 71 ∧ I238 0 71 ≤ 5 from (hI238 0 71).1)
        have f246 := (show 0 ≤ I238 0 72 ∧ I238 0 72 ≤ 1000 from (hI238 0 72).1)
        have f247 := (show 0 ≤ I238 0 73 ∧ I238 0 73 ≤ 1001 from (hI238 0 73).1)
        have f248 := (show 0 ≤ I238 0 69 ∧ I238 0 69 ≤ 1000 from (hI238 0 69).1)
        have f249 := (show 0 ≤ I238 0 64 ∧ I238 0 64 ≤ 2000 from (hI238 0 64).1)
        have f250 := (show 0 ≤ I238 0 122 ∧ I238 0 122 ≤ 47 from (hI238 0 122).1)
        have f251 := (show 0 ≤ I238 0 123 ∧ I238 0 123 ≤ 95 from (hI238 0 123).1)
        have f252 := (show 0 ≤ I238 0 3 ∧ I238 0 3 ≤ 96 from (hI238 0 3).1)
        have f253 := (show 0 ≤ I238 0 74 ∧ I238 0 74 ≤ 999999 from (hI238 0 74).1)
        have KTM_I238 := gr_TM_fr KTM_I (fun k => g237 52 k rfl) (fun k => g237 53 k rfl) (fun k => g237 54 k rfl) (g237 0 64 rfl)
        have KTO_I238 := gr_TO_fr KTO_I (fun k => g237 52 k rfl) (fun k => g237 53 k rfl) (fun k => g237 54 k rfl) (fun k => g237 55 k rfl) (fun k => g237 6 k rfl) (g237 0 64 rfl) (g237 0 3 rfl)
        refine gv_callV hD rfl (As := []) (st := []) rfl (by decide) rfl rfl (gr_lV hws rfl) (Nat.le_of_ble_eq_true rfl) (gz_Ev_mono (d := 10) (by omega) E237) ?_
        show gv_X _ _ (156, [(0, .inr (.inr (some 0))), (1, .inl a1)], [], gr_sh ++ ext, gr_h I238 J239)
        refine gv_run 4 true hD (pc' := 160) (lv' := [(0, .inr (.inr (some 0))), (1, .inl a1)]) (st' := [.inl (a1 + 1), .inr (.inr (some 0))]) (h' := gr_h I238 J239) (C := ((((True ∧ True) ∧ True) ∧ True) ∧ True)) rfl ⟨⟨⟨⟨trivial, trivial⟩, trivial⟩, trivial⟩, trivial⟩ ?_
        obtain ⟨r254, h254, E254, P254⟩ := ihR I238 J239 hI238 (a1 + 1) ⟨by omega, by omega⟩ (by omega) (by omega) (by omega) (by omega) (by omega) (by omega) (by omega) (by omega) KTM_I238 KTO_I238 (by omega)
        obtain ⟨I255, J256, rfl, hI255, g254, k254, KTM_I255, KTO_I255, ⟨z254, rfl, q254⟩⟩ := P254
        have FI255 := gr_frt FI238 g254 rfl rfl
        have FJ256 := gr_fjt FJ239 k254 rfl rfl
        have t257 := g254 0 69 rfl
        have t258 := g254 0 123 rfl
        have t259 := g254 0 3 rfl
        have f260 := (show 0 ≤ I255 0 71 ∧ I255 0 71 ≤ 5 from (hI255 0 71).1)
        have f261 := (show 0 ≤ I255 0 72 ∧ I255 0 72 ≤ 1000 from (hI255 0 72).1)
        have f262 := (show 0 ≤ I255 0 73 ∧ I255 0 73 ≤ 1001 from (hI255 0 73).1)
        have f263 := (show 0 ≤ I255 0 69 ∧ I255 0 69 ≤ 1000 from (hI255 0 69).1)
        have f264 := (show 0 ≤ I255 0 64 ∧ I255 0 64 ≤ 2000 from (hI255 0 64).1)
        have f265 := (show 0 ≤ I255 0 122 ∧ I255 0 122 ≤ 47 from (hI255 0 122).1)
        have f266 := (show 0 ≤ I255 0 123 ∧ I255 0 123 ≤ 95 from (hI255 0 123).1)
        have f267 := (show 0 ≤ I255 0 3 ∧ I255 0 3 ≤ 96 from (hI255 0 3).1)
        have f268 := (show 0 ≤ I255 0 74 ∧ I255 0 74 ≤ 999999 from (hI255 0 74).1)
        refine gv_callV hD rfl (As := [.inl (a1 + 1)]) (st := []) rfl (by decide) rfl rfl (gr_lV hws rfl) (Nat.le_of_ble_eq_true rfl) (gz_Ev_mono (d := (14 + 2 * nr)) (Nat.le_refl _) E254) ?_
        show gv_X _ _ (163, [(0, .inr (.inr (some 0))), (1, .inl a1)], [.inl z254], gr_sh ++ ext, gr_h I255 J256)
        refine gv_run 2 true hD (pc' := 165) (lv' := [(2, .inl z254), (0, .inr (.inr (some 0))), (1, .inl a1)]) (st' := [.inl z254]) (h' := gr_h I255 J256) (C := ((True ∧ True) ∧ True)) rfl ⟨⟨trivial, trivial⟩, trivial⟩ ?_
        refine gv_if_lt (t := 177) hD rfl rfl ⟨by omega, by omega⟩ (fun c269 => ?_) (fun c269 => ?_)
        · refine gv_pick [] rfl ?_
          exact L177 I255 J256 hI255 FI255 FJ256 KTM_I255 KTO_I255 (by omega) (gr_TS9_tr (gr_TS9_tr (gr_TS9_rf I) (gr_TS9_fr (fun k => g237 55 k rfl) (fun k => g237 52 k rfl) (fun k => g237 53 k rfl) (fun k => g237 54 k rfl)) (by omega)) q254.2.2.2.2.2.2.2.2.2.2.2.2.2.2.2.2.2 (by omega))
        · refine gv_run 2 true hD (pc' := 171) (lv' := [(2, .inl z254), (0, .inr (.inr (some 0))), (1, .inl a1)]) (st' := [.inl 41, .inr (.inr (some 0))]) (h' := gr_h I255 J256) (C := ((True ∧ True) ∧ True)) rfl ⟨⟨trivial, trivial⟩, trivial⟩ ?_
          obtain ⟨r270, h270, E270, P270⟩ := r_need (ws0 := ws0) (tb := tb) hws htb ext I255 J256 hI255 41 ⟨by omega, by omega⟩ (by omega) (by omega) (by omega) (by omega) (by omega)
          obtain ⟨I271, J272, rfl, hI271, g270, k270, ⟨z270, rfl, q270⟩⟩ := P270
          have FI271 := gr_frt FI255 g270 rfl rfl
          have FJ272 := gr_fjt FJ256 k270 rfl rfl
          have t273 := g270 0 69 rfl
          have t274 := g270 0 64 rfl
          have t275 := g270 0 122 rfl
          have t276 := g270 0 123 rfl
          have t277 := g270 0 3 rfl
          have f278 := (show 0 ≤ I271 0 71 ∧ I271 0 71 ≤ 5 from (hI271 0 71).1)
          have f279 := (show 0 ≤ I271 0 72 ∧ I271 0 72 ≤ 1000 from (hI271 0 72).1)
          have f280 := (show 0 ≤ I271 0 73 ∧ I271 0 73 ≤ 1001 from (hI271 0 73).1)
          have f281 := (show 0 ≤ I271 0 69 ∧ I271 0 69 ≤ 1000 from (hI271 0 69).1)
          have f282 := (show 0 ≤ I271 0 64 ∧ I271 0 64 ≤ 2000 from (hI271 0 64).1)
          have f283 := (show 0 ≤ I271 0 122 ∧ I271 0 122 ≤ 47 from (hI271 0 122).1)
          have f284 := (show 0 ≤ I271 0 123 ∧ I271 0 123 ≤ 95 from (hI271 0 123).1)
          have f285 := (show 0 ≤ I271 0 3 ∧ I271 0 3 ≤ 96 from (hI271 0 3).1)
          have f286 := (show 0 ≤ I271 0 74 ∧ I271 0 74 ≤ 999999 from (hI271 0 74).1)
          have KTM_I271 := gr_TM_fr KTM_I255 (fun k => g270 52 k rfl) (fun k => g270 53 k rfl) (fun k => g270 54 k rfl) (g270 0 64 rfl)
          have KTO_I271 := gr_TO_fr KTO_I255 (fun k => g270 52 k rfl) (fun k => g270 53 k rfl) (fun k => g270 54 k rfl) (fun k => g270 55 k rfl) (fun k => g270 6 k rfl) (g270 0 64 rfl) (g270 0 3 rfl)
          refine gv_callV hD rfl (As := [.inl 41]) (st := []) rfl (by decide) rfl rfl (gr_lV hws rfl) (Nat.le_of_ble_eq_true rfl) (gz_Ev_mono (d := 11) (by omega) E270) ?_
          show gv_X _ _ (174, [(2, .inl z254), (0, .inr (.inr (some 0))), (1, .inl a1)], [.inl z270], gr_sh ++ ext, gr_h I271 J272)
          refine gv_if_ne (t := 181) hD rfl rfl ⟨by omega, by omega⟩ (fun c287 => ?_) (fun c287 => ?_)
          · refine gv_run 1 true hD (pc' := 182) (lv' := [(2, .inl z254), (0, .inr (.inr (some 0))), (1, .inl a1)]) (st' := [.inl z254]) (h' := gr_h I271 J272) (C := (True ∧ True)) rfl ⟨trivial, trivial⟩ ?_
            refine gv_pick [] rfl ?_
            exact L182 I271 J272 z254 hI271 FI271 FJ272 KTM_I271 KTO_I271 (by omega) (gr_TS9_tr (gr_TS9_tr (gr_TS9_tr (gr_TS9_rf I) (gr_TS9_fr (fun k => g237 55 k rfl) (fun k => g237 52 k rfl) (fun k => g237 53 k rfl) (fun k => g237 54 k rfl)) (by omega)) q254.2.2.2.2.2.2.2.2.2.2.2.2.2.2.2.2.2 (by omega)) (gr_TS9_fr (fun k => g270 55 k rfl) (fun k => g270 52 k rfl) (fun k => g270 53 k rfl) (fun k => g270 54 k rfl)) (by omega)) (gr_OWN_x q254.2.2.2.2.2.2.2.2.2.2.2.2.2.2.2.2.1 (gr_TS9_fr (fun k => g270 55 k rfl) (fun k => g270 52 k rfl) (fun k => g270 53 k rfl) (fun k => g270 54 k rfl)) (by omega) (by omega) (by omega))
          · refine gv_pick [] rfl ?_
            exact L177 I271 J272 hI271 FI271 FJ272 KTM_I271 KTO_I271 (by omega) (gr_TS9_tr (gr_TS9_tr (gr_TS9_tr (gr_TS9_rf I) (gr_TS9_fr (fun k => g237 55 k rfl) (fun k => g237 52 k rfl) (fun k => g237 53 k rfl) (fun k => g237 54 k rfl)) (by omega)) q254.2.2.2.2.2.2.2.2.2.2.2.2.2.2.2.2.2 (by omega)) (gr_TS9_fr (fun k => g270 55 k rfl) (fun k => g270 52 k rfl) (fun k => g270 53 k rfl) (fun k => g270 54 k rfl)) (by omega))
      refine gv_run 2 true hD (pc' := 140) (lv' := [(0, .inr (.inr (some 0))), (1, .inl a1)]) (st' := [.inl 40, .inr (.inr (some 0))]) (h' := gr_h I J) (C := ((True ∧ True) ∧ True)) rfl ⟨⟨trivial, trivial⟩, trivial⟩ ?_
      obtain ⟨r288, h288, E288, P288⟩ := r_sign (ws0 := ws0) (tb := tb) hws htb ext I J hI 40 ⟨by omega, by omega⟩ (by omega)
      obtain ⟨rfl, ⟨z288, rfl, q288⟩⟩ := P288
      refine gv_callV hD rfl (As := [.inl 40]) (st := []) rfl (by decide) rfl rfl (gr_lV hws rfl) (Nat.le_of_ble_eq_true rfl) (gz_Ev_mono (d := 1) (by omega) E288) ?_
      show gv_X _ _ (143, [(0, .inr (.inr (some 0))), (1, .inl a1)], [.inl z288], gr_sh ++ ext, gr_h I J)
      refine gv_if_ne (t := 152) hD rfl rfl ⟨by omega, by omega⟩ (fun c289 => ?_) (fun c289 => ?_)
      · exact L152 (by omega)
      · refine gv_run 2 true hD (pc' := 148) (lv' := [(0, .inr (.inr (some 0))), (1, .inl a1)]) (st' := [.inl 1, .inr (.inr (some 0))]) (h' := gr_h I J) (C := ((True ∧ True) ∧ True)) rfl ⟨⟨trivial, trivial⟩, trivial⟩ ?_
        obtain ⟨r290, h290, E290, P290⟩ := r_none (ws0 := ws0) (tb := tb) hws htb ext I J hI 1 ⟨by omega, by omega⟩ 
        obtain ⟨I291, J292, rfl, hI291, g290, k290, ⟨z290, rfl, q290⟩⟩ := P290
        have FI291 := gr_frt FI g290 rfl rfl
        have FJ292 := gr_fjt FJ k290 rfl rfl
        have t293 := g290 0 71 rfl
        have t294 := g290 0 72 rfl
        have t295 := g290 0 73 rfl
        have t296 := g290 0 69 rfl
        have t297 := g290 0 64 rfl
        have t298 := g290 0 122 rfl
        have t299 := g290 0 123 rfl
        have t300 := g290 0 3 rfl
        have t301 := g290 0 74 rfl
        have f302 := (show 0 ≤ I291 0 71 ∧ I291 0 71 ≤ 5 from (hI291 0 71).1)
        have f303 := (show 0 ≤ I291 0 72 ∧ I291 0 72 ≤ 1000 from (hI291 0 72).1)
        have f304 := (show 0 ≤ I291 0 73 ∧ I291 0 73 ≤ 1001 from (hI291 0 73).1)
        have f305 := (show 0 ≤ I291 0 69 ∧ I291 0 69 ≤ 1000 from (hI291 0 69).1)
        have f306 := (show 0 ≤ I291 0 64 ∧ I291 0 64 ≤ 2000 from (hI291 0 64).1)
        have f307 := (show 0 ≤ I291 0 122 ∧ I291 0 122 ≤ 47 from (hI291 0 122).1)
        have f308 := (show 0 ≤ I291 0 123 ∧ I291 0 123 ≤ 95 from (hI291 0 123).1)
        have f309 := (show 0 ≤ I291 0 3 ∧ I291 0 3 ≤ 96 from (hI291 0 3).1)
        have f310 := (show 0 ≤ I291 0 74 ∧ I291 0 74 ≤ 999999 from (hI291 0 74).1)
        have KTM_I291 := gr_TM_fr KTM_I (fun k => g290 52 k rfl) (fun k => g290 53 k rfl) (fun k => g290 54 k rfl) (g290 0 64 rfl)
        have KTO_I291 := gr_TO_fr KTO_I (fun k => g290 52 k rfl) (fun k => g290 53 k rfl) (fun k => g290 54 k rfl) (fun k => g290 55 k rfl) (fun k => g290 6 k rfl) (g290 0 64 rfl) (g290 0 3 rfl)
        refine gv_callV hD rfl (As := [.inl 1]) (st := []) rfl (by decide) rfl rfl (gr_lV hws rfl) (Nat.le_of_ble_eq_true rfl) (gz_Ev_mono (d := 3) (by omega) E290) ?_
        show gv_X _ _ (151, [(0, .inr (.inr (some 0))), (1, .inl a1)], [.inl z290], gr_sh ++ ext, gr_h I291 J292)
        exact gv_iret hD rfl ⟨I291, J292, rfl, hI291, FI291, FJ292, KTM_I291, KTO_I291, ⟨_, rfl, by omega, by omega, by omega, by omega, by omega, by omega, by omega, by omega, by omega, by omega, by omega, by omega, by omega, by omega, by omega, by omega, (Or.inl (by omega)), (gr_TS9_tr (gr_TS9_rf I) (gr_TS9_fr (fun k => g290 55 k rfl) (fun k => g290 52 k rfl) (fun k => g290 53 k rfl) (fun k => g290 54 k rfl)) (by omega))⟩⟩
    have f311 := (show 0 ≤ I 0 71 ∧ I 0 71 ≤ 5 from (hI 0 71).1)
    refine gv_run 3 true hD (pc' := 84) (lv' := [(0, .inr (.inr (some 0))), (1, .inl a1)]) (st' := [.inl 2, .inl (I 0 71)]) (h' := gr_h I J) (C := (((True ∧ True) ∧ True) ∧ True)) rfl ⟨⟨⟨trivial, trivial⟩, trivial⟩, trivial⟩ ?_
    refine gv_icmp_ne (t := 137) hD rfl rfl ⟨⟨by omega, by omega⟩, ⟨by omega, by omega⟩⟩ (fun c312 => ?_) (fun c312 => ?_)
    · exact L137 (by omega)
    · have f313 := (show 0 ≤ I 0 74 ∧ I 0 74 ≤ 999999 from (hI 0 74).1)
      refine gv_run 3 true hD (pc' := 92) (lv' := [(0, .inr (.inr (some 0))), (1, .inl a1)]) (st' := [.inl 1, .inl (I 0 74)]) (h' := gr_h I J) (C := (((True ∧ True) ∧ True) ∧ True)) rfl ⟨⟨⟨trivial, trivial⟩, trivial⟩, trivial⟩ ?_
      refine gv_icmp_lt (t := 111) hD rfl rfl ⟨⟨by omega, by omega⟩, ⟨by omega, by omega⟩⟩ (fun c314 => ?_) (fun c314 => ?_)
      · refine gv_pick [0] rfl ?_
        exact L111 (by omega)
      · have f315 := (show 0 ≤ I 0 74 ∧ I 0 74 ≤ 999999 from (hI 0 74).1)
        have f316 := (show 0 ≤ I 0 123 ∧ I 0 123 ≤ 95 from (hI 0 123).1)
        have f317 := (show 0 ≤ I 6 (Int.toNat ((I 0 123))) ∧ I 6 (Int.toNat ((I 0 123))) ≤ 4 from (hI 6 (Int.toNat ((I 0 123)))).1)
        refine gv_run 7 true hD (pc' := 108) (lv' := [(0, .inr (.inr (some 0))), (1, .inl a1)]) (st' := [.inl (I 6 (Int.toNat ((I 0 123)))), .inl (I 0 74)]) (h' := gr_h I J) (C := (((((((True ∧ True) ∧ True) ∧ True) ∧ True) ∧ True) ∧ True) ∧ (0 ≤ (I 0 123) ∧ (I 0 123) < ((96 : Nat) : Int)))) rfl ⟨⟨⟨⟨⟨⟨⟨trivial, trivial⟩, trivial⟩, trivial⟩, trivial⟩, trivial⟩, trivial⟩, ⟨by omega, by omega⟩⟩ ?_
        refine gv_icmp_le (t := 117) hD rfl rfl ⟨⟨by omega, by omega⟩, ⟨by omega, by omega⟩⟩ (fun c318 => ?_) (fun c318 => ?_)
        · refine gv_pick [0] rfl ?_
          exact L117 (by omega)
        · refine gv_pick [0] rfl ?_
          exact L111 (by omega)
  have f319 := (show 0 ≤ I 0 71 ∧ I 0 71 ≤ 5 from (hI 0 71).1)
  refine gv_run 3 true hD (pc' := 5) (lv' := [(0, .inr (.inr (some 0))), (1, .inl a1)]) (st' := [.inl 1, .inl (I 0 71)]) (h' := gr_h I J) (C := (((True ∧ True) ∧ True) ∧ True)) rfl ⟨⟨⟨trivial, trivial⟩, trivial⟩, trivial⟩ ?_
  refine gv_icmp_ne (t := 79) hD rfl rfl ⟨⟨by omega, by omega⟩, ⟨by omega, by omega⟩⟩ (fun c320 => ?_) (fun c320 => ?_)
  · exact L79 (by omega)
  · have f321 := (show 0 ≤ I 0 122 ∧ I 0 122 ≤ 47 from (hI 0 122).1)
    refine gv_run 5 true hD (pc' := 15) (lv' := [(2, .inl ((I 0 122) - 1)), (0, .inr (.inr (some 0))), (1, .inl a1)]) (st' := []) (h' := gr_h I J) (C := (((((True ∧ True) ∧ True) ∧ True) ∧ True) ∧ True)) rfl ⟨⟨⟨⟨⟨trivial, trivial⟩, trivial⟩, trivial⟩, trivial⟩, trivial⟩ ?_
    refine gv_pick [1, 0] rfl ?_
    exact L15 _ (((I 0 122) - 1)) (Nat.lt_succ_self _) (by omega)
