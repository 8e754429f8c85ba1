set_option maxHeartbeats 4000000 in
set_option maxRecDepth 100000 in
theorem r_atom {ws0 : List Cond} {tb : String → gz_T} (hws : ∀ w ∈ gr_ws, w ∈ ws0) (htb : tb RX13 = gr_T) (ext : gz_Sh) (nr : Nat) (ihR : ∀ (I : gr_I) (J : gr_J) (hI : gr_Inv I) (a1 : Int) (ha1 : 1 ≤ a1 ∧ a1 ≤ 41) (x0 : I 0 71 = 5 ∨ I 0 73 ≤ I 0 69) (x1 : I 0 72 ≤ I 0 69) (x2 : I 0 71 = 0 ∨ (I 0 72 < I 0 73 ∧ I 0 72 < I 0 69)) (x3 : I 0 71 = 3 → 2 ≤ I 0 73 - I 0 72 ∧ I 0 73 - I 0 72 ≤ 14) (x4 : I 0 72 ≤ I 0 73) (x5 : I 0 64 + I 0 69 - I 0 72 ≤ 1900) (x6 : I 0 122 ≤ a1) (KTM_I : gr_TM I) (_ : (42 - a1).toNat < nr), ∃ r h', gz_Ev ws0 tb (14 + 2 * nr) (yX13_term, cX13_term, 4, (some .int)) [.inr (.inr (some 0)), .inl a1] (gr_sh ++ ext) (gr_h I J) r (gr_sh ++ ext) h' 0 0 ∧ (∃ (I' : gr_I) (J' : gr_J), h' = gr_h I' J' ∧ gr_Inv I' ∧ gr_fr [64, 71, 72, 73, 74, 75, 76, 77, 122] [52, 53, 54, 55, 75] I I' ∧ gr_fj [64, 71, 72, 73, 74, 75, 76, 77, 122] [52, 53, 54, 55, 75] J J' ∧ gr_TM I' ∧ (∃ z : Int, r = some (.inl z) ∧ (-1) ≤ z ∧ z ≤ 1999 ∧ (I' 0 71 = 5 ∨ I' 0 73 ≤ I' 0 69) ∧ (I' 0 72 ≤ I' 0 69) ∧ (I' 0 71 = 0 ∨ (I' 0 72 < I' 0 73 ∧ I' 0 72 < I' 0 69)) ∧ (I' 0 71 = 3 → 2 ≤ I' 0 73 - I' 0 72 ∧ I' 0 73 - I' 0 72 ≤ 14) ∧ (I' 0 72 ≤ I' 0 73) ∧ (I' 0 69 = I 0 69) ∧ (I 0 73 ≤ I' 0 73) ∧ (I 0 72 ≤ I' 0 72) ∧ (I 0 64 ≤ I' 0 64) ∧ (I' 0 64 - I' 0 72 ≤ I 0 64 - I 0 72) ∧ (I' 0 122 = I 0 122) ∧ (z < I' 0 64) ∧ (z < 0 ∨ I 0 72 < I' 0 72)))) (I : gr_I) (J : gr_J) (hI : gr_Inv I) (a1 : Int) (ha1 : 1 ≤ a1 ∧ a1 ≤ 40) (x0 : I 0 71 = 5 ∨ I 0 73 ≤ I 0 69) (x1 : I 0 72 ≤ I 0 69) (x2 : I 0 71 = 0 ∨ (I 0 72 < I 0 73 ∧ I 0 72 < I 0 69)) (x3 : I 0 71 = 3 → 2 ≤ I 0 73 - I 0 72 ∧ I 0 73 - I 0 72 ≤ 14) (x4 : I 0 72 ≤ I 0 73) (x5 : I 0 64 + I 0 69 - I 0 72 ≤ 1900) (x6 : I 0 122 ≤ a1) (KTM_I : gr_TM I) (hnr : (41 - a1).toNat < nr) : ∃ r h', gz_Ev ws0 tb (14 + 2 * nr + 1) (yX13_atom, cX13_atom, 4, (some .int)) [.inr (.inr (some 0)), .inl a1] (gr_sh ++ ext) (gr_h I J) r (gr_sh ++ ext) h' 0 0 ∧ (∃ (I' : gr_I) (J' : gr_J), h' = gr_h I' J' ∧ gr_Inv I' ∧ gr_fr [64, 71, 72, 73, 74, 75, 76, 77, 122] [52, 53, 54, 55, 75] I I' ∧ gr_fj [64, 71, 72, 73, 74, 75, 76, 77, 122] [52, 53, 54, 55, 75] J J' ∧ gr_TM I' ∧ (∃ z : Int, r = some (.inl z) ∧ (-1) ≤ z ∧ z ≤ 1999 ∧ (I' 0 71 = 5 ∨ I' 0 73 ≤ I' 0 69) ∧ (I' 0 72 ≤ I' 0 69) ∧ (I' 0 71 = 0 ∨ (I' 0 72 < I' 0 73 ∧ I' 0 72 < I' 0 69)) ∧ (I' 0 71 = 3 → 2 ≤ I' 0 73 - I' 0 72 ∧ I' 0 73 - I' 0 72 ≤ 14) ∧ (I' 0 72 ≤ I' 0 73) ∧ (I' 0 69 = I 0 69) ∧ (I 0 73 ≤ I' 0 73) ∧ (I 0 72 ≤ I' 0 72) ∧ (I 0 64 ≤ I' 0 64) ∧ (I' 0 64 - I' 0 72 ≤ I 0 64 - I 0 72) ∧ (I' 0 122 = I 0 122) ∧ (z < I' 0 64) ∧ (z < 0 ∨ I 0 72 < I' 0 72))) := by
  have FI : gr_fr [64, 71, 72, 73, 74, 75, 76, 77, 122] [52, 53, 54, 55, 75] I I := fun _ _ _ => rfl
  have FJ : gr_fj [64, 71, 72, 73, 74, 75, 76, 77, 122] [52, 53, 54, 55, 75] J J := fun _ _ _ => rfl
  have hD : gv_D (gr_E ws0 tb (14 + 2 * nr) (yX13_atom, cX13_atom, 4, (some .int)) kX13_atom) := gq_ok oX13_atom
  refine gr_ev (d := (14 + 2 * nr)) (l := kX13_atom) (Po := fun r h' => (∃ (I' : gr_I) (J' : gr_J), h' = gr_h I' J' ∧ gr_Inv I' ∧ gr_fr [64, 71, 72, 73, 74, 75, 76, 77, 122] [52, 53, 54, 55, 75] I I' ∧ gr_fj [64, 71, 72, 73, 74, 75, 76, 77, 122] [52, 53, 54, 55, 75] J J' ∧ gr_TM I' ∧ (∃ z : Int, r = some (.inl z) ∧ (-1) ≤ z ∧ z ≤ 1999 ∧ (I' 0 71 = 5 ∨ I' 0 73 ≤ I' 0 69) ∧ (I' 0 72 ≤ I' 0 69) ∧ (I' 0 71 = 0 ∨ (I' 0 72 < I' 0 73 ∧ I' 0 72 < I' 0 69)) ∧ (I' 0 71 = 3 → 2 ≤ I' 0 73 - I' 0 72 ∧ I' 0 73 - I' 0 72 ≤ 14) ∧ (I' 0 72 ≤ I' 0 73) ∧ (I' 0 69 = I 0 69) ∧ (I 0 73 ≤ I' 0 73) ∧ (I 0 72 ≤ I' 0 72) ∧ (I 0 64 ≤ I' 0 64) ∧ (I' 0 64 - I' 0 72 ≤ I 0 64 - I 0 72) ∧ (I' 0 122 = I 0 122) ∧ (z < I' 0 64) ∧ (z < 0 ∨ I 0 72 < I' 0 72)))) htb rfl (Nat.le_of_ble_eq_true rfl) ?_
  have f1 := (show 0 ≤ I 0 71 ∧ I 0 71 ≤ 5 from (hI 0 71).1)
  have f2 := (show 0 ≤ I 0 72 ∧ I 0 72 ≤ 1000 from (hI 0 72).1)
  have f3 := (show 0 ≤ I 0 73 ∧ I 0 73 ≤ 1001 from (hI 0 73).1)
  have f4 := (show 0 ≤ I 0 69 ∧ I 0 69 ≤ 1000 from (hI 0 69).1)
  have f5 := (show 0 ≤ I 0 64 ∧ I 0 64 ≤ 2000 from (hI 0 64).1)
  have f6 := (show 0 ≤ I 0 122 ∧ I 0 122 ≤ 47 from (hI 0 122).1)
  have f7 := (show 0 ≤ I 0 123 ∧ I 0 123 ≤ 95 from (hI 0 123).1)
  have L15 : ∀ (n : Nat) (v2_8 : Int), (v2_8 - (-2)).toNat < n → (((-1) ≤ v2_8 ∧ v2_8 ≤ 46) ∧ (v2_8 < I 0 122) ∧ (I 0 71 = 5 ∨ I 0 73 ≤ I 0 69) ∧ (I 0 72 ≤ I 0 69) ∧ (I 0 71 = 0 ∨ (I 0 72 < I 0 73 ∧ I 0 72 < I 0 69)) ∧ (I 0 71 = 3 → 2 ≤ I 0 73 - I 0 72 ∧ I 0 73 - I 0 72 ≤ 14) ∧ (I 0 72 ≤ I 0 73) ∧ (I 0 69 = I 0 69) ∧ (I 0 73 ≤ I 0 73) ∧ (I 0 72 ≤ I 0 72)) → gv_X (gr_E ws0 tb (14 + 2 * nr) (yX13_atom, cX13_atom, 4, (some .int)) kX13_atom) (gv_Q cX13_atom (some .int) (gr_sh ++ ext) (fun r h' => (∃ (I' : gr_I) (J' : gr_J), h' = gr_h I' J' ∧ gr_Inv I' ∧ gr_fr [64, 71, 72, 73, 74, 75, 76, 77, 122] [52, 53, 54, 55, 75] I I' ∧ gr_fj [64, 71, 72, 73, 74, 75, 76, 77, 122] [52, 53, 54, 55, 75] J J' ∧ gr_TM I' ∧ (∃ z : Int, r = some (.inl z) ∧ (-1) ≤ z ∧ z ≤ 1999 ∧ (I' 0 71 = 5 ∨ I' 0 73 ≤ I' 0 69) ∧ (I' 0 72 ≤ I' 0 69) ∧ (I' 0 71 = 0 ∨ (I' 0 72 < I' 0 73 ∧ I' 0 72 < I' 0 69)) ∧ (I' 0 71 = 3 → 2 ≤ I' 0 73 - I' 0 72 ∧ I' 0 73 - I' 0 72 ≤ 14) ∧ (I' 0 72 ≤ I' 0 73) ∧ (I' 0 69 = I 0 69) ∧ (I 0 73 ≤ I' 0 73) ∧ (I 0 72 ≤ I' 0 72) ∧ (I 0 64 ≤ I' 0 64) ∧ (I' 0 64 - I' 0 72 ≤ I 0 64 - I 0 72) ∧ (I' 0 122 = I 0 122) ∧ (z < I' 0 64) ∧ (z < 0 ∨ I 0 72 < I' 0 72))))) (15, [(0, .inr (.inr (some 0))), (2, .inl v2_8)], [], gr_sh ++ ext, gr_h I J) := by
    intro n
    induction n with
    | zero => intro v2_8 hn; omega
    | succ n ih15 =>
      intro v2_8 hn m_8
      obtain ⟨hv2_8, e0_8, e1_8, e2_8, e3_8, e4_8, e5_8, e6_8, e7_8, e8_8⟩ := m_8
      have f9 := (show 0 ≤ I 0 71 ∧ I 0 71 ≤ 5 from (hI 0 71).1)
      have f10 := (show 0 ≤ I 0 72 ∧ I 0 72 ≤ 1000 from (hI 0 72).1)
      have f11 := (show 0 ≤ I 0 73 ∧ I 0 73 ≤ 1001 from (hI 0 73).1)
      have f12 := (show 0 ≤ I 0 69 ∧ I 0 69 ≤ 1000 from (hI 0 69).1)
      have f13 := (show 0 ≤ I 0 64 ∧ I 0 64 ≤ 2000 from (hI 0 64).1)
      have f14 := (show 0 ≤ I 0 122 ∧ I 0 122 ≤ 47 from (hI 0 122).1)
      have f15 := (show 0 ≤ I 0 123 ∧ I 0 123 ≤ 95 from (hI 0 123).1)
      have L39 : (((-1) ≤ v2_8 ∧ v2_8 ≤ 46) ∧ (v2_8 < I 0 122) ∧ (I 0 71 = 5 ∨ I 0 73 ≤ I 0 69) ∧ (I 0 72 ≤ I 0 69) ∧ (I 0 71 = 0 ∨ (I 0 72 < I 0 73 ∧ I 0 72 < I 0 69)) ∧ (I 0 71 = 3 → 2 ≤ I 0 73 - I 0 72 ∧ I 0 73 - I 0 72 ≤ 14) ∧ (I 0 72 ≤ I 0 73) ∧ (I 0 69 = I 0 69) ∧ (I 0 73 ≤ I 0 73) ∧ (I 0 72 ≤ I 0 72)) → gv_X (gr_E ws0 tb (14 + 2 * nr) (yX13_atom, cX13_atom, 4, (some .int)) kX13_atom) (gv_Q cX13_atom (some .int) (gr_sh ++ ext) (fun r h' => (∃ (I' : gr_I) (J' : gr_J), h' = gr_h I' J' ∧ gr_Inv I' ∧ gr_fr [64, 71, 72, 73, 74, 75, 76, 77, 122] [52, 53, 54, 55, 75] I I' ∧ gr_fj [64, 71, 72, 73, 74, 75, 76, 77, 122] [52, 53, 54, 55, 75] J J' ∧ gr_TM I' ∧ (∃ z : Int, r = some (.inl z) ∧ (-1) ≤ z ∧ z ≤ 1999 ∧ (I' 0 71 = 5 ∨ I' 0 73 ≤ I' 0 69) ∧ (I' 0 72 ≤ I' 0 69) ∧ (I' 0 71 = 0 ∨ (I' 0 72 < I' 0 73 ∧ I' 0 72 < I' 0 69)) ∧ (I' 0 71 = 3 → 2 ≤ I' 0 73 - I' 0 72 ∧ I' 0 73 - I' 0 72 ≤ 14) ∧ (I' 0 72 ≤ I' 0 73) ∧ (I' 0 69 = I 0 69) ∧ (I 0 73 ≤ I' 0 73) ∧ (I 0 72 ≤ I' 0 72) ∧ (I 0 64 ≤ I' 0 64) ∧ (I' 0 64 - I' 0 72 ≤ I 0 64 - I 0 72) ∧ (I' 0 122 = I 0 122) ∧ (z < I' 0 64) ∧ (z < 0 ∨ I 0 72 < I' 0 72))))) (39, [(0, .inr (.inr (some 0))), (2, .inl v2_8)], [], gr_sh ++ ext, gr_h I J) := by
        intro m_16
        obtain ⟨hv2_8_16, e0_16, e1_16, e2_16, e3_16, e4_16, e5_16, e6_16, e7_16, e8_16⟩ := m_16
        have f17 := (show 0 ≤ I 0 71 ∧ I 0 71 ≤ 5 from (hI 0 71).1)
        have f18 := (show 0 ≤ I 0 72 ∧ I 0 72 ≤ 1000 from (hI 0 72).1)
        have f19 := (show 0 ≤ I 0 73 ∧ I 0 73 ≤ 1001 from (hI 0 73).1)
        have f20 := (show 0 ≤ I 0 69 ∧ I 0 69 ≤ 1000 from (hI 0 69).1)
        have f21 := (show 0 ≤ I 0 64 ∧ I 0 64 ≤ 2000 from (hI 0 64).1)
        have f22 := (show 0 ≤ I 0 122 ∧ I 0 122 ≤ 47 from (hI 0 122).1)
        have f23 := (show 0 ≤ I 0 123 ∧ I 0 123 ≤ 95 from (hI 0 123).1)
        have L72 : ∀ (I24 : gr_I) (J25 : gr_J) (s0_26 : Int), gr_Inv I24 → gr_fr [64, 71, 72, 73, 74, 75, 76, 77, 122] [52, 53, 54, 55, 75] I I24 → gr_fj [64, 71, 72, 73, 74, 75, 76, 77, 122] [52, 53, 54, 55, 75] J J25 → gr_TM I24 → ((0 ≤ s0_26 ∧ s0_26 ≤ 1999) ∧ (I24 0 64 = I 0 64 + 1) ∧ (I24 0 72 = I 0 72) ∧ (I24 0 73 = I 0 73) ∧ (s0_26 = I 0 64) ∧ (I24 0 71 = 1) ∧ (I24 0 122 = I 0 122) ∧ (I24 0 71 = 5 ∨ I24 0 73 ≤ I24 0 69) ∧ (I24 0 72 ≤ I24 0 69) ∧ (I24 0 71 = 0 ∨ (I24 0 72 < I24 0 73 ∧ I24 0 72 < I24 0 69)) ∧ (I24 0 71 = 3 → 2 ≤ I24 0 73 - I24 0 72 ∧ I24 0 73 - I24 0 72 ≤ 14) ∧ (I24 0 72 ≤ I24 0 73) ∧ (I24 0 69 = I 0 69) ∧ (I 0 73 ≤ I24 0 73) ∧ (I 0 72 ≤ I24 0 72)) → gv_X (gr_E ws0 tb (14 + 2 * nr) (yX13_atom, cX13_atom, 4, (some .int)) kX13_atom) (gv_Q cX13_atom (some .int) (gr_sh ++ ext) (fun r h' => (∃ (I' : gr_I) (J' : gr_J), h' = gr_h I' J' ∧ gr_Inv I' ∧ gr_fr [64, 71, 72, 73, 74, 75, 76, 77, 122] [52, 53, 54, 55, 75] I I' ∧ gr_fj [64, 71, 72, 73, 74, 75, 76, 77, 122] [52, 53, 54, 55, 75] J J' ∧ gr_TM I' ∧ (∃ z : Int, r = some (.inl z) ∧ (-1) ≤ z ∧ z ≤ 1999 ∧ (I' 0 71 = 5 ∨ I' 0 73 ≤ I' 0 69) ∧ (I' 0 72 ≤ I' 0 69) ∧ (I' 0 71 = 0 ∨ (I' 0 72 < I' 0 73 ∧ I' 0 72 < I' 0 69)) ∧ (I' 0 71 = 3 → 2 ≤ I' 0 73 - I' 0 72 ∧ I' 0 73 - I' 0 72 ≤ 14) ∧ (I' 0 72 ≤ I' 0 73) ∧ (I' 0 69 = I 0 69) ∧ (I 0 73 ≤ I' 0 73) ∧ (I 0 72 ≤ I' 0 72) ∧ (I 0 64 ≤ I' 0 64) ∧ (I' 0 64 - I' 0 72 ≤ I 0 64 - I 0 72) ∧ (I' 0 122 = I 0 122) ∧ (z < I' 0 64) ∧ (z < 0 ∨ I 0 72 < I' 0 72))))) (72, [(0, .inr (.inr (some 0)))], [.inl s0_26], gr_sh ++ ext, gr_h I24 J25) := by
          intro I24 J25 s0_26 hI24 FI24 FJ25 KTM_I24 m_26
          clear hv2_8_16 e0_16 e1_16 e2_16 e3_16 e4_16 e5_16 e6_16 e7_16 e8_16 f17 f18 f19 f20 f21 f22 f23 hv2_8 e0_8 e1_8 e2_8 e3_8 e4_8 e5_8 e6_8 e7_8 e8_8 f9 f10 f11 f12 f13 f14 f15
          obtain ⟨hs0_26, e0_26, e1_26, e2_26, e3_26, e4_26, e5_26, e6_26, e7_26, e8_26, e9_26, e10_26, e11_26, e12_26, e13_26⟩ := m_26
          have f27 := (show 0 ≤ I24 0 71 ∧ I24 0 71 ≤ 5 from (hI24 0 71).1)
          have f28 := (show 0 ≤ I24 0 72 ∧ I24 0 72 ≤ 1000 from (hI24 0 72).1)
          have f29 := (show 0 ≤ I24 0 73 ∧ I24 0 73 ≤ 1001 from (hI24 0 73).1)
          have f30 := (show 0 ≤ I24 0 69 ∧ I24 0 69 ≤ 1000 from (hI24 0 69).1)
          have f31 := (show 0 ≤ I24 0 64 ∧ I24 0 64 ≤ 2000 from (hI24 0 64).1)
          have f32 := (show 0 ≤ I24 0 122 ∧ I24 0 122 ≤ 47 from (hI24 0 122).1)
          have f33 := (show 0 ≤ I24 0 123 ∧ I24 0 123 ≤ 95 from (hI24 0 123).1)
          refine gv_run 2 true hD (pc' := 74) (lv' := [(3, .inl s0_26), (0, .inr (.inr (some 0)))]) (st' := [.inr (.inr (some 0))]) (h' := gr_h I24 J25) (C := ((True ∧ True) ∧ True)) rfl ⟨⟨trivial, trivial⟩, trivial⟩ ?_
          obtain ⟨r34, h34, E34, P34⟩ := r_next (ws0 := ws0) (tb := tb) hws htb ext I24 J25 hI24   (by omega)
          obtain ⟨I35, J36, rfl, hI35, g34, k34, ⟨rfl, q34⟩⟩ := P34
          have FI35 := gr_frt FI24 g34 rfl rfl
          have FJ36 := gr_fjt FJ25 k34 rfl rfl
          have t37 := g34 0 69 rfl
          have t38 := g34 0 64 rfl
          have t39 := g34 0 122 rfl
          have t40 := g34 0 123 rfl
          have f41 := (show 0 ≤ I35 0 71 ∧ I35 0 71 ≤ 5 from (hI35 0 71).1)
          have f42 := (show 0 ≤ I35 0 72 ∧ I35 0 72 ≤ 1000 from (hI35 0 72).1)
          have f43 := (show 0 ≤ I35 0 73 ∧ I35 0 73 ≤ 1001 from (hI35 0 73).1)
          have f44 := (show 0 ≤ I35 0 69 ∧ I35 0 69 ≤ 1000 from (hI35 0 69).1)
          have f45 := (show 0 ≤ I35 0 64 ∧ I35 0 64 ≤ 2000 from (hI35 0 64).1)
          have f46 := (show 0 ≤ I35 0 122 ∧ I35 0 122 ≤ 47 from (hI35 0 122).1)
          have f47 := (show 0 ≤ I35 0 123 ∧ I35 0 123 ≤ 95 from (hI35 0 123).1)
          have KTM_I35 := gr_TM_fr KTM_I24 (fun k => g34 52 k rfl) (fun k => g34 53 k rfl) (fun k => g34 54 k rfl) (g34 0 64 rfl)
          refine gv_callV hD rfl (As := []) (st := []) rfl (by decide) rfl rfl (gr_lV hws rfl) (Nat.le_of_ble_eq_true rfl) (gz_Ev_mono (d := 10) (by omega) E34) ?_
          show gv_X _ _ (77, [(3, .inl s0_26), (0, .inr (.inr (some 0)))], [], gr_sh ++ ext, gr_h I35 J36)
          refine gv_run 1 true hD (pc' := 78) (lv' := [(3, .inl s0_26), (0, .inr (.inr (some 0)))]) (st' := [.inl s0_26]) (h' := gr_h I35 J36) (C := (True ∧ True)) rfl ⟨trivial, trivial⟩ ?_
          exact gv_iret hD rfl ⟨I35, J36, rfl, hI35, FI35, FJ36, KTM_I35, ⟨_, rfl, by omega⟩⟩
        refine gv_run 1 true hD (pc' := 40) (lv' := [(0, .inr (.inr (some 0))), (2, .inl v2_8)]) (st' := [.inl v2_8]) (h' := gr_h I J) (C := (True ∧ True)) rfl ⟨trivial, trivial⟩ ?_
        refine gv_if_ge (t := 57) hD rfl rfl ⟨by omega, by omega⟩ (fun c48 => ?_) (fun c48 => ?_)
        · have f49 := (show 0 ≤ I 0 122 ∧ I 0 122 ≤ 47 from (hI 0 122).1)
          refine gv_run 7 true hD (pc' := 66) (lv' := [(0, .inr (.inr (some 0))), (2, .inl v2_8)]) (st' := [.inl v2_8, .inl ((I 0 122) - 1), .inl 1, .inr (.inr (some 0))]) (h' := gr_h I J) (C := (((((((True ∧ True) ∧ True) ∧ True) ∧ True) ∧ True) ∧ True) ∧ True)) rfl ⟨⟨⟨⟨⟨⟨⟨trivial, trivial⟩, trivial⟩, trivial⟩, trivial⟩, trivial⟩, trivial⟩, trivial⟩ ?_
          refine gv_run 3 true hD (pc' := 69) (lv' := [(0, .inr (.inr (some 0))), (2, .inl v2_8)]) (st' := [.inr (.inl (Int64.ofNat 0)), .inl 0, .inl (((I 0 122) - 1) - v2_8), .inl 1, .inr (.inr (some 0))]) (h' := gr_h I J) (C := (((True ∧ True) ∧ True) ∧ True)) rfl ⟨⟨⟨trivial, trivial⟩, trivial⟩, trivial⟩ ?_
          obtain ⟨r50, h50, E50, P50⟩ := r_node (ws0 := ws0) (tb := tb) hws htb ext I J hI 1 ((((I 0 122) - 1) - v2_8)) 0 (Int64.ofNat 0) ⟨by omega, by omega⟩ ⟨by omega, by omega⟩ ⟨by omega, by omega⟩ (by omega) (by omega) (by omega) KTM_I
          obtain ⟨I51, J52, rfl, hI51, g50, k50, KTM_I51, ⟨z50, rfl, q50⟩⟩ := P50
          have FI51 := gr_frt FI g50 rfl rfl
          have FJ52 := gr_fjt FJ k50 rfl rfl
          have t53 := g50 0 71 rfl
          have t54 := g50 0 72 rfl
          have t55 := g50 0 73 rfl
          have t56 := g50 0 69 rfl
          have t57 := g50 0 122 rfl
          have t58 := g50 0 123 rfl
          have f59 := (show 0 ≤ I51 0 71 ∧ I51 0 71 ≤ 5 from (hI51 0 71).1)
          have f60 := (show 0 ≤ I51 0 72 ∧ I51 0 72 ≤ 1000 from (hI51 0 72).1)
          have f61 := (show 0 ≤ I51 0 73 ∧ I51 0 73 ≤ 1001 from (hI51 0 73).1)
          have f62 := (show 0 ≤ I51 0 69 ∧ I51 0 69 ≤ 1000 from (hI51 0 69).1)
          have f63 := (show 0 ≤ I51 0 64 ∧ I51 0 64 ≤ 2000 from (hI51 0 64).1)
          have f64 := (show 0 ≤ I51 0 122 ∧ I51 0 122 ≤ 47 from (hI51 0 122).1)
          have f65 := (show 0 ≤ I51 0 123 ∧ I51 0 123 ≤ 95 from (hI51 0 123).1)
          refine gv_callV hD rfl (As := [.inl 1, .inl (((I 0 122) - 1) - v2_8), .inl 0, .inr (.inl (Int64.ofNat 0))]) (st := []) rfl (by decide) rfl rfl (gr_lV hws rfl) (Nat.le_of_ble_eq_true rfl) (gz_Ev_mono (d := 1) (by omega) E50) ?_
          show gv_X _ _ (72, [(0, .inr (.inr (some 0))), (2, .inl v2_8)], [.inl z50], gr_sh ++ ext, gr_h I51 J52)
          refine gv_pick [0] rfl ?_
          exact L72 I51 J52 z50 hI51 FI51 FJ52 KTM_I51 (by omega)
        · refine gv_run 6 true hD (pc' := 51) (lv' := [(0, .inr (.inr (some 0))), (2, .inl v2_8)]) (st' := [.inr (.inl (J 0 75)), .inl 0, .inl 0, .inl 2, .inr (.inr (some 0))]) (h' := gr_h I J) (C := ((((((True ∧ True) ∧ True) ∧ True) ∧ True) ∧ True) ∧ True)) rfl ⟨⟨⟨⟨⟨⟨trivial, trivial⟩, trivial⟩, trivial⟩, trivial⟩, trivial⟩, trivial⟩ ?_
          obtain ⟨r66, h66, E66, P66⟩ := r_node (ws0 := ws0) (tb := tb) hws htb ext I J hI 2 0 0 (J 0 75) ⟨by omega, by omega⟩ ⟨by omega, by omega⟩ ⟨by omega, by omega⟩ (by omega) (by omega) (by omega) KTM_I
          obtain ⟨I67, J68, rfl, hI67, g66, k66, KTM_I67, ⟨z66, rfl, q66⟩⟩ := P66
          have FI67 := gr_frt FI g66 rfl rfl
          have FJ68 := gr_fjt FJ k66 rfl rfl
          have t69 := g66 0 71 rfl
          have t70 := g66 0 72 rfl
          have t71 := g66 0 73 rfl
          have t72 := g66 0 69 rfl
          have t73 := g66 0 122 rfl
          have t74 := g66 0 123 rfl
          have f75 := (show 0 ≤ I67 0 71 ∧ I67 0 71 ≤ 5 from (hI67 0 71).1)
          have f76 := (show 0 ≤ I67 0 72 ∧ I67 0 72 ≤ 1000 from (hI67 0 72).1)
          have f77 := (show 0 ≤ I67 0 73 ∧ I67 0 73 ≤ 1001 from (hI67 0 73).1)
          have f78 := (show 0 ≤ I67 0 69 ∧ I67 0 69 ≤ 1000 from (hI67 0 69).1)
          have f79 := (show 0 ≤ I67 0 64 ∧ I67 0 64 ≤ 2000 from (hI67 0 64).1)
          have f80 := (show 0 ≤ I67 0 122 ∧ I67 0 122 ≤ 47 from (hI67 0 122).1)
          have f81 := (show 0 ≤ I67 0 123 ∧ I67 0 123 ≤ 95 from (hI67 0 123).1)
          refine gv_callV hD rfl (As := [.inl 2, .inl 0, .inl 0, .inr (.inl (J 0 75))]) (st := []) rfl (by decide) rfl rfl (gr_lV hws rfl) (Nat.le_of_ble_eq_true rfl) (gz_Ev_mono (d := 1) (by omega) E66) ?_
          show gv_X _ _ (54, [(0, .inr (.inr (some 0))), (2, .inl v2_8)], [.inl z66], gr_sh ++ ext, gr_h I67 J68)
          refine gv_run 1 true hD (pc' := 72) (lv' := [(0, .inr (.inr (some 0))), (2, .inl v2_8)]) (st' := [.inl z66]) (h' := gr_h I67 J68) (C := (True ∧ True)) rfl ⟨trivial, trivial⟩ ?_
          refine gv_pick [0] rfl ?_
          exact L72 I67 J68 z66 hI67 FI67 FJ68 KTM_I67 (by omega)
      refine gv_run 1 true hD (pc' := 16) (lv' := [(0, .inr (.inr (some 0))), (2, .inl v2_8)]) (st' := [.inl v2_8]) (h' := gr_h I J) (C := (True ∧ True)) rfl ⟨trivial, trivial⟩ ?_
      refine gv_if_lt (t := 39) hD rfl rfl ⟨by omega, by omega⟩ (fun c82 => ?_) (fun c82 => ?_)
      · exact L39 (by omega)
      · refine gv_run 4 true hD (pc' := 25) (lv' := [(0, .inr (.inr (some 0))), (2, .inl v2_8)]) (st' := [.inr (.inl (J 75 (Int.toNat v2_8)))]) (h' := gr_h I J) (C := ((((True ∧ True) ∧ True) ∧ True) ∧ (0 ≤ v2_8 ∧ v2_8 < ((48 : Nat) : Int)))) rfl ⟨⟨⟨⟨trivial, trivial⟩, trivial⟩, trivial⟩, ⟨by omega, by omega⟩⟩ ?_
        have f83 := gw_cmp ((J 75 (Int.toNat v2_8))) ((J 0 75))
        refine gv_run 3 true hD (pc' := 30) (lv' := [(0, .inr (.inr (some 0))), (2, .inl v2_8)]) (st' := [.inl ((lg_cmp ((J 75 (Int.toNat v2_8))) ((J 0 75))).toInt)]) (h' := gr_h I J) (C := (((True ∧ True) ∧ True) ∧ True)) rfl ⟨⟨⟨trivial, trivial⟩, trivial⟩, trivial⟩ ?_
        refine gv_if_eq (t := 39) hD rfl rfl ⟨by omega, by omega⟩ (fun c84 => ?_) (fun c84 => ?_)
        · exact L39 (by omega)
        · refine gv_run 2 true hD (pc' := 15) (lv' := [(2, .inl (v2_8 + (-1))), (0, .inr (.inr (some 0)))]) (st' := []) (h' := gr_h I J) (C := ((True ∧ True) ∧ True)) rfl ⟨⟨trivial, trivial⟩, trivial⟩ ?_
          refine gv_pick [1, 0] rfl ?_
          exact ih15 ((v2_8 + (-1))) (by omega) (by omega)
  have L111 : ((I 0 71 = 5 ∨ I 0 73 ≤ I 0 69) ∧ (I 0 72 ≤ I 0 69) ∧ (I 0 71 = 0 ∨ (I 0 72 < I 0 73 ∧ I 0 72 < I 0 69)) ∧ (I 0 71 = 3 → 2 ≤ I 0 73 - I 0 72 ∧ I 0 73 - I 0 72 ≤ 14) ∧ (I 0 72 ≤ I 0 73) ∧ (I 0 69 = I 0 69) ∧ (I 0 73 ≤ I 0 73) ∧ (I 0 72 ≤ I 0 72)) → gv_X (gr_E ws0 tb (14 + 2 * nr) (yX13_atom, cX13_atom, 4, (some .int)) kX13_atom) (gv_Q cX13_atom (some .int) (gr_sh ++ ext) (fun r h' => (∃ (I' : gr_I) (J' : gr_J), h' = gr_h I' J' ∧ gr_Inv I' ∧ gr_fr [64, 71, 72, 73, 74, 75, 76, 77, 122] [52, 53, 54, 55, 75] I I' ∧ gr_fj [64, 71, 72, 73, 74, 75, 76, 77, 122] [52, 53, 54, 55, 75] J J' ∧ gr_TM I' ∧ (∃ z : Int, r = some (.inl z) ∧ (-1) ≤ z ∧ z ≤ 1999 ∧ (I' 0 71 = 5 ∨ I' 0 73 ≤ I' 0 69) ∧ (I' 0 72 ≤ I' 0 69) ∧ (I' 0 71 = 0 ∨ (I' 0 72 < I' 0 73 ∧ I' 0 72 < I' 0 69)) ∧ (I' 0 71 = 3 → 2 ≤ I' 0 73 - I' 0 72 ∧ I' 0 73 - I' 0 72 ≤ 14) ∧ (I' 0 72 ≤ I' 0 73) ∧ (I' 0 69 = I 0 69) ∧ (I 0 73 ≤ I' 0 73) ∧ (I 0 72 ≤ I' 0 72) ∧ (I 0 64 ≤ I' 0 64) ∧ (I' 0 64 - I' 0 72 ≤ I 0 64 - I 0 72) ∧ (I' 0 122 = I 0 122) ∧ (z < I' 0 64) ∧ (z < 0 ∨ I 0 72 < I' 0 72))))) (111, [(0, .inr (.inr (some 0)))], [], gr_sh ++ ext, gr_h I J) := by
    intro m_85
    obtain ⟨e0_85, e1_85, e2_85, e3_85, e4_85, e5_85, e6_85, e7_85⟩ := m_85
    have f86 := (show 0 ≤ I 0 71 ∧ I 0 71 ≤ 5 from (hI 0 71).1)
    have f87 := (show 0 ≤ I 0 72 ∧ I 0 72 ≤ 1000 from (hI 0 72).1)
    have f88 := (show 0 ≤ I 0 73 ∧ I 0 73 ≤ 1001 from (hI 0 73).1)
    have f89 := (show 0 ≤ I 0 69 ∧ I 0 69 ≤ 1000 from (hI 0 69).1)
    have f90 := (show 0 ≤ I 0 64 ∧ I 0 64 ≤ 2000 from (hI 0 64).1)
    have f91 := (show 0 ≤ I 0 122 ∧ I 0 122 ≤ 47 from (hI 0 122).1)
    have f92 := (show 0 ≤ I 0 123 ∧ I 0 123 ≤ 95 from (hI 0 123).1)
    refine gv_run 2 true hD (pc' := 113) (lv' := [(0, .inr (.inr (some 0)))]) (st' := [.inl 5, .inr (.inr (some 0))]) (h' := gr_h I J) (C := ((True ∧ True) ∧ True)) rfl ⟨⟨trivial, trivial⟩, trivial⟩ ?_
    obtain ⟨r93, h93, E93, P93⟩ := r_none (ws0 := ws0) (tb := tb) hws htb ext I J hI 5 ⟨by omega, by omega⟩ 
    obtain ⟨I94, J95, rfl, hI94, g93, k93, ⟨z93, rfl, q93⟩⟩ := P93
    have FI94 := gr_frt FI g93 rfl rfl
    have FJ95 := gr_fjt FJ k93 rfl rfl
    have t96 := g93 0 71 rfl
    have t97 := g93 0 72 rfl
    have t98 := g93 0 73 rfl
    have t99 := g93 0 69 rfl
    have t100 := g93 0 64 rfl
    have t101 := g93 0 122 rfl
    have t102 := g93 0 123 rfl
    have f103 := (show 0 ≤ I94 0 71 ∧ I94 0 71 ≤ 5 from (hI94 0 71).1)
    have f104 := (show 0 ≤ I94 0 72 ∧ I94 0 72 ≤ 1000 from (hI94 0 72).1)
    have f105 := (show 0 ≤ I94 0 73 ∧ I94 0 73 ≤ 1001 from (hI94 0 73).1)
    have f106 := (show 0 ≤ I94 0 69 ∧ I94 0 69 ≤ 1000 from (hI94 0 69).1)
    have f107 := (show 0 ≤ I94 0 64 ∧ I94 0 64 ≤ 2000 from (hI94 0 64).1)
    have f108 := (show 0 ≤ I94 0 122 ∧ I94 0 122 ≤ 47 from (hI94 0 122).1)
    have f109 := (show 0 ≤ I94 0 123 ∧ I94 0 123 ≤ 95 from (hI94 0 123).1)
    have KTM_I94 := gr_TM_fr KTM_I (fun k => g93 52 k rfl) (fun k => g93 53 k rfl) (fun k => g93 54 k rfl) (g93 0 64 rfl)
    refine gv_callV hD rfl (As := [.inl 5]) (st := []) rfl (by decide) rfl rfl (gr_lV hws rfl) (Nat.le_of_ble_eq_true rfl) (gz_Ev_mono (d := 3) (by omega) E93) ?_
    show gv_X _ _ (116, [(0, .inr (.inr (some 0)))], [.inl z93], gr_sh ++ ext, gr_h I94 J95)
    exact gv_iret hD rfl ⟨I94, J95, rfl, hI94, FI94, FJ95, KTM_I94, ⟨_, rfl, by omega⟩⟩
  have L182 : ∀ (I110 : gr_I) (J111 : gr_J) (s0_112 : Int), gr_Inv I110 → gr_fr [64, 71, 72, 73, 74, 75, 76, 77, 122] [52, 53, 54, 55, 75] I I110 → gr_fj [64, 71, 72, 73, 74, 75, 76, 77, 122] [52, 53, 54, 55, 75] J J111 → gr_TM I110 → (((-1) ≤ s0_112 ∧ s0_112 ≤ 1999) ∧ (I 0 64 ≤ I110 0 64) ∧ (s0_112 < I110 0 64) ∧ (I110 0 64 - I110 0 72 ≤ I 0 64 - I 0 72) ∧ (I110 0 122 = I 0 122) ∧ (s0_112 < 0 ∨ I 0 72 < I110 0 72) ∧ (I110 0 71 = 5 ∨ I110 0 73 ≤ I110 0 69) ∧ (I110 0 72 ≤ I110 0 69) ∧ (I110 0 71 = 0 ∨ (I110 0 72 < I110 0 73 ∧ I110 0 72 < I110 0 69)) ∧ (I110 0 71 = 3 → 2 ≤ I110 0 73 - I110 0 72 ∧ I110 0 73 - I110 0 72 ≤ 14) ∧ (I110 0 72 ≤ I110 0 73) ∧ (I110 0 69 = I 0 69) ∧ (I 0 73 ≤ I110 0 73) ∧ (I 0 72 ≤ I110 0 72)) → gv_X (gr_E ws0 tb (14 + 2 * nr) (yX13_atom, cX13_atom, 4, (some .int)) kX13_atom) (gv_Q cX13_atom (some .int) (gr_sh ++ ext) (fun r h' => (∃ (I' : gr_I) (J' : gr_J), h' = gr_h I' J' ∧ gr_Inv I' ∧ gr_fr [64, 71, 72, 73, 74, 75, 76, 77, 122] [52, 53, 54, 55, 75] I I' ∧ gr_fj [64, 71, 72, 73, 74, 75, 76, 77, 122] [52, 53, 54, 55, 75] J J' ∧ gr_TM I' ∧ (∃ z : Int, r = some (.inl z) ∧ (-1) ≤ z ∧ z ≤ 1999 ∧ (I' 0 71 = 5 ∨ I' 0 73 ≤ I' 0 69) ∧ (I' 0 72 ≤ I' 0 69) ∧ (I' 0 71 = 0 ∨ (I' 0 72 < I' 0 73 ∧ I' 0 72 < I' 0 69)) ∧ (I' 0 71 = 3 → 2 ≤ I' 0 73 - I' 0 72 ∧ I' 0 73 - I' 0 72 ≤ 14) ∧ (I' 0 72 ≤ I' 0 73) ∧ (I' 0 69 = I 0 69) ∧ (I 0 73 ≤ I' 0 73) ∧ (I 0 72 ≤ I' 0 72) ∧ (I 0 64 ≤ I' 0 64) ∧ (I' 0 64 - I' 0 72 ≤ I 0 64 - I 0 72) ∧ (I' 0 122 = I 0 122) ∧ (z < I' 0 64) ∧ (z < 0 ∨ I 0 72 < I' 0 72))))) (182, [], [.inl s0_112], gr_sh ++ ext, gr_h I110 J111) := by
    intro I110 J111 s0_112 hI110 FI110 FJ111 KTM_I110 m_112
    obtain ⟨hs0_112, e0_112, e1_112, e2_112, e3_112, e4_112, e5_112, e6_112, e7_112, e8_112, e9_112, e10_112, e11_112, e12_112⟩ := m_112
    have f113 := (show 0 ≤ I110 0 71 ∧ I110 0 71 ≤ 5 from (hI110 0 71).1)
    have f114 := (show 0 ≤ I110 0 72 ∧ I110 0 72 ≤ 1000 from (hI110 0 72).1)
    have f115 := (show 0 ≤ I110 0 73 ∧ I110 0 73 ≤ 1001 from (hI110 0 73).1)
    have f116 := (show 0 ≤ I110 0 69 ∧ I110 0 69 ≤ 1000 from (hI110 0 69).1)
    have f117 := (show 0 ≤ I110 0 64 ∧ I110 0 64 ≤ 2000 from (hI110 0 64).1)
    have f118 := (show 0 ≤ I110 0 122 ∧ I110 0 122 ≤ 47 from (hI110 0 122).1)
    have f119 := (show 0 ≤ I110 0 123 ∧ I110 0 123 ≤ 95 from (hI110 0 123).1)
    exact gv_iret hD rfl ⟨I110, J111, rfl, hI110, FI110, FJ111, KTM_I110, ⟨_, rfl, by omega⟩⟩
  have L177 : ∀ (I120 : gr_I) (J121 : gr_J) , gr_Inv I120 → gr_fr [64, 71, 72, 73, 74, 75, 76, 77, 122] [52, 53, 54, 55, 75] I I120 → gr_fj [64, 71, 72, 73, 74, 75, 76, 77, 122] [52, 53, 54, 55, 75] J J121 → gr_TM I120 → ((I 0 64 ≤ I120 0 64) ∧ (I120 0 64 - I120 0 72 ≤ I 0 64 - I 0 72) ∧ (I120 0 122 = I 0 122) ∧ (I120 0 71 = 5 ∨ I120 0 73 ≤ I120 0 69) ∧ (I120 0 72 ≤ I120 0 69) ∧ (I120 0 71 = 0 ∨ (I120 0 72 < I120 0 73 ∧ I120 0 72 < I120 0 69)) ∧ (I120 0 71 = 3 → 2 ≤ I120 0 73 - I120 0 72 ∧ I120 0 73 - I120 0 72 ≤ 14) ∧ (I120 0 72 ≤ I120 0 73) ∧ (I120 0 69 = I 0 69) ∧ (I 0 73 ≤ I120 0 73) ∧ (I 0 72 ≤ I120 0 72)) → gv_X (gr_E ws0 tb (14 + 2 * nr) (yX13_atom, cX13_atom, 4, (some .int)) kX13_atom) (gv_Q cX13_atom (some .int) (gr_sh ++ ext) (fun r h' => (∃ (I' : gr_I) (J' : gr_J), h' = gr_h I' J' ∧ gr_Inv I' ∧ gr_fr [64, 71, 72, 73, 74, 75, 76, 77, 122] [52, 53, 54, 55, 75] I I' ∧ gr_fj [64, 71, 72, 73, 74, 75, 76, 77, 122] [52, 53, 54, 55, 75] J J' ∧ gr_TM I' ∧ (∃ z : Int, r = some (.inl z) ∧ (-1) ≤ z ∧ z ≤ 1999 ∧ (I' 0 71 = 5 ∨ I' 0 73 ≤ I' 0 69) ∧ (I' 0 72 ≤ I' 0 69) ∧ (I' 0 71 = 0 ∨ (I' 0 72 < I' 0 73 ∧ I' 0 72 < I' 0 69)) ∧ (I' 0 71 = 3 → 2 ≤ I' 0 73 - I' 0 72 ∧ I' 0 73 - I' 0 72 ≤ 14) ∧ (I' 0 72 ≤ I' 0 73) ∧ (I' 0 69 = I 0 69) ∧ (I 0 73 ≤ I' 0 73) ∧ (I 0 72 ≤ I' 0 72) ∧ (I 0 64 ≤ I' 0 64) ∧ (I' 0 64 - I' 0 72 ≤ I 0 64 - I 0 72) ∧ (I' 0 122 = I 0 122) ∧ (z < I' 0 64) ∧ (z < 0 ∨ I 0 72 < I' 0 72))))) (177, [], [], gr_sh ++ ext, gr_h I120 J121) := by
    intro I120 J121 hI120 FI120 FJ121 KTM_I120 m_122
    obtain ⟨e0_122, e1_122, e2_122, e3_122, e4_122, e5_122, e6_122, e7_122, e8_122, e9_122, e10_122⟩ := m_122
    have f123 := (show 0 ≤ I120 0 71 ∧ I120 0 71 ≤ 5 from (hI120 0 71).1)
    have f124 := (show 0 ≤ I120 0 72 ∧ I120 0 72 ≤ 1000 from (hI120 0 72).1)
    have f125 := (show 0 ≤ I120 0 73 ∧ I120 0 73 ≤ 1001 from (hI120 0 73).1)
    have f126 := (show 0 ≤ I120 0 69 ∧ I120 0 69 ≤ 1000 from (hI120 0 69).1)
    have f127 := (show 0 ≤ I120 0 64 ∧ I120 0 64 ≤ 2000 from (hI120 0 64).1)
    have f128 := (show 0 ≤ I120 0 122 ∧ I120 0 122 ≤ 47 from (hI120 0 122).1)
    have f129 := (show 0 ≤ I120 0 123 ∧ I120 0 123 ≤ 95 from (hI120 0 123).1)
    refine gv_run 2 true hD (pc' := 182) (lv' := []) (st' := [.inl (-1)]) (h' := gr_h I120 J121) (C := ((True ∧ True) ∧ True)) rfl ⟨⟨trivial, trivial⟩, trivial⟩ ?_
    exact L182 I120 J121 (-1) hI120 FI120 FJ121 KTM_I120 (by omega)
  have f130 := (show 0 ≤ I 0 71 ∧ I 0 71 ≤ 5 from (hI 0 71).1)
  refine gv_run 3 true hD (pc' := 5) (lv' := [(0, .inr (.inr (some 0))), (1, .inl a1)]) (st' := [.inl 1, .inl (I 0 71)]) (h' := gr_h I J) (C := (((True ∧ True) ∧ True) ∧ True)) rfl ⟨⟨⟨trivial, trivial⟩, trivial⟩, trivial⟩ ?_
  refine gv_icmp_ne (t := 79) hD rfl rfl ⟨⟨by omega, by omega⟩, ⟨by omega, by omega⟩⟩ (fun c131 => ?_) (fun c131 => ?_)
  · have f132 := (show 0 ≤ I 0 71 ∧ I 0 71 ≤ 5 from (hI 0 71).1)
    refine gv_run 3 true hD (pc' := 84) (lv' := [(0, .inr (.inr (some 0))), (1, .inl a1)]) (st' := [.inl 2, .inl (I 0 71)]) (h' := gr_h I J) (C := (((True ∧ True) ∧ True) ∧ True)) rfl ⟨⟨⟨trivial, trivial⟩, trivial⟩, trivial⟩ ?_
    refine gv_icmp_ne (t := 137) hD rfl rfl ⟨⟨by omega, by omega⟩, ⟨by omega, by omega⟩⟩ (fun c133 => ?_) (fun c133 => ?_)
    · refine gv_run 2 true hD (pc' := 140) (lv' := [(0, .inr (.inr (some 0))), (1, .inl a1)]) (st' := [.inl 40, .inr (.inr (some 0))]) (h' := gr_h I J) (C := ((True ∧ True) ∧ True)) rfl ⟨⟨trivial, trivial⟩, trivial⟩ ?_
      obtain ⟨r134, h134, E134, P134⟩ := r_sign (ws0 := ws0) (tb := tb) hws htb ext I J hI 40 ⟨by omega, by omega⟩ (by omega)
      obtain ⟨rfl, ⟨z134, rfl, q134⟩⟩ := P134
      refine gv_callV hD rfl (As := [.inl 40]) (st := []) rfl (by decide) rfl rfl (gr_lV hws rfl) (Nat.le_of_ble_eq_true rfl) (gz_Ev_mono (d := 1) (by omega) E134) ?_
      show gv_X _ _ (143, [(0, .inr (.inr (some 0))), (1, .inl a1)], [.inl z134], gr_sh ++ ext, gr_h I J)
      refine gv_if_ne (t := 152) hD rfl rfl ⟨by omega, by omega⟩ (fun c135 => ?_) (fun c135 => ?_)
      · refine gv_run 1 true hD (pc' := 153) (lv' := [(0, .inr (.inr (some 0))), (1, .inl a1)]) (st' := [.inr (.inr (some 0))]) (h' := gr_h I J) (C := (True ∧ True)) rfl ⟨trivial, trivial⟩ ?_
        obtain ⟨r136, h136, E136, P136⟩ := r_next (ws0 := ws0) (tb := tb) hws htb ext I J hI   (by omega)
        obtain ⟨I137, J138, rfl, hI137, g136, k136, ⟨rfl, q136⟩⟩ := P136
        have FI137 := gr_frt FI g136 rfl rfl
        have FJ138 := gr_fjt FJ k136 rfl rfl
        have t139 := g136 0 69 rfl
        have t140 := g136 0 64 rfl
        have t141 := g136 0 122 rfl
        have t142 := g136 0 123 rfl
        have f143 := (show 0 ≤ I137 0 71 ∧ I137 0 71 ≤ 5 from (hI137 0 71).1)
        have f144 := (show 0 ≤ I137 0 72 ∧ I137 0 72 ≤ 1000 from (hI137 0 72).1)
        have f145 := (show 0 ≤ I137 0 73 ∧ I137 0 73 ≤ 1001 from (hI137 0 73).1)
        have f146 := (show 0 ≤ I137 0 69 ∧ I137 0 69 ≤ 1000 from (hI137 0 69).1)
        have f147 := (show 0 ≤ I137 0 64 ∧ I137 0 64 ≤ 2000 from (hI137 0 64).1)
        have f148 := (show 0 ≤ I137 0 122 ∧ I137 0 122 ≤ 47 from (hI137 0 122).1)
        have f149 := (show 0 ≤ I137 0 123 ∧ I137 0 123 ≤ 95 from (hI137 0 123).1)
        have KTM_I137 := gr_TM_fr KTM_I (fun k => g136 52 k rfl) (fun k => g136 53 k rfl) (fun k => g136 54 k rfl) (g136 0 64 rfl)
        refine gv_callV hD rfl (As := []) (st := []) rfl (by decide) rfl rfl (gr_lV hws rfl) (Nat.le_of_ble_eq_true rfl) (gz_Ev_mono (d := 10) (by omega) E136) ?_
        show gv_X _ _ (156, [(0, .inr (.inr (some 0))), (1, .inl a1)], [], gr_sh ++ ext, gr_h I137 J138)
        refine gv_run 4 true hD (pc' := 160) (lv' := [(0, .inr (.inr (some 0))), (1, .inl a1)]) (st' := [.inl (a1 + 1), .inr (.inr (some 0))]) (h' := gr_h I137 J138) (C := ((((True ∧ True) ∧ True) ∧ True) ∧ True)) rfl ⟨⟨⟨⟨trivial, trivial⟩, trivial⟩, trivial⟩, trivial⟩ ?_
        obtain ⟨r150, h150, E150, P150⟩ := ihR I137 J138 hI137 (a1 + 1) ⟨by omega, by omega⟩ (by omega) (by omega) (by omega) (by omega) (by omega) (by omega) (by omega) KTM_I137 (by omega)
        obtain ⟨I151, J152, rfl, hI151, g150, k150, KTM_I151, ⟨z150, rfl, q150⟩⟩ := P150
        have FI151 := gr_frt FI137 g150 rfl rfl
        have FJ152 := gr_fjt FJ138 k150 rfl rfl
        have t153 := g150 0 69 rfl
        have t154 := g150 0 123 rfl
        have f155 := (show 0 ≤ I151 0 71 ∧ I151 0 71 ≤ 5 from (hI151 0 71).1)
        have f156 := (show 0 ≤ I151 0 72 ∧ I151 0 72 ≤ 1000 from (hI151 0 72).1)
        have f157 := (show 0 ≤ I151 0 73 ∧ I151 0 73 ≤ 1001 from (hI151 0 73).1)
        have f158 := (show 0 ≤ I151 0 69 ∧ I151 0 69 ≤ 1000 from (hI151 0 69).1)
        have f159 := (show 0 ≤ I151 0 64 ∧ I151 0 64 ≤ 2000 from (hI151 0 64).1)
        have f160 := (show 0 ≤ I151 0 122 ∧ I151 0 122 ≤ 47 from (hI151 0 122).1)
        have f161 := (show 0 ≤ I151 0 123 ∧ I151 0 123 ≤ 95 from (hI151 0 123).1)
        refine gv_callV hD rfl (As := [.inl (a1 + 1)]) (st := []) rfl (by decide) rfl rfl (gr_lV hws rfl) (Nat.le_of_ble_eq_true rfl) (gz_Ev_mono (d := (14 + 2 * nr)) (Nat.le_refl _) E150) ?_
        show gv_X _ _ (163, [(0, .inr (.inr (some 0))), (1, .inl a1)], [.inl z150], gr_sh ++ ext, gr_h I151 J152)
        refine gv_run 2 true hD (pc' := 165) (lv' := [(2, .inl z150), (0, .inr (.inr (some 0))), (1, .inl a1)]) (st' := [.inl z150]) (h' := gr_h I151 J152) (C := ((True ∧ True) ∧ True)) rfl ⟨⟨trivial, trivial⟩, trivial⟩ ?_
        refine gv_if_lt (t := 177) hD rfl rfl ⟨by omega, by omega⟩ (fun c162 => ?_) (fun c162 => ?_)
        · refine gv_pick [] rfl ?_
          exact L177 I151 J152 hI151 FI151 FJ152 KTM_I151 (by omega)
        · refine gv_run 2 true hD (pc' := 171) (lv' := [(2, .inl z150), (0, .inr (.inr (some 0))), (1, .inl a1)]) (st' := [.inl 41, .inr (.inr (some 0))]) (h' := gr_h I151 J152) (C := ((True ∧ True) ∧ True)) rfl ⟨⟨trivial, trivial⟩, trivial⟩ ?_
          obtain ⟨r163, h163, E163, P163⟩ := r_need (ws0 := ws0) (tb := tb) hws htb ext I151 J152 hI151 41 ⟨by omega, by omega⟩ (by omega) (by omega) (by omega) (by omega) (by omega)
          obtain ⟨I164, J165, rfl, hI164, g163, k163, ⟨z163, rfl, q163⟩⟩ := P163
          have FI164 := gr_frt FI151 g163 rfl rfl
          have FJ165 := gr_fjt FJ152 k163 rfl rfl
          have t166 := g163 0 69 rfl
          have t167 := g163 0 64 rfl
          have t168 := g163 0 122 rfl
          have t169 := g163 0 123 rfl
          have f170 := (show 0 ≤ I164 0 71 ∧ I164 0 71 ≤ 5 from (hI164 0 71).1)
          have f171 := (show 0 ≤ I164 0 72 ∧ I164 0 72 ≤ 1000 from (hI164 0 72).1)
          have f172 := (show 0 ≤ I164 0 73 ∧ I164 0 73 ≤ 1001 from (hI164 0 73).1)
          have f173 := (show 0 ≤ I164 0 69 ∧ I164 0 69 ≤ 1000 from (hI164 0 69).1)
          have f174 := (show 0 ≤ I164 0 64 ∧ I164 0 64 ≤ 2000 from (hI164 0 64).1)
          have f175 := (show 0 ≤ I164 0 122 ∧ I164 0 122 ≤ 47 from (hI164 0 122).1)
          have f176 := (show 0 ≤ I164 0 123 ∧ I164 0 123 ≤ 95 from (hI164 0 123).1)
          have KTM_I164 := gr_TM_fr KTM_I151 (fun k => g163 52 k rfl) (fun k => g163 53 k rfl) (fun k => g163 54 k rfl) (g163 0 64 rfl)
          refine gv_callV hD rfl (As := [.inl 41]) (st := []) rfl (by decide) rfl rfl (gr_lV hws rfl) (Nat.le_of_ble_eq_true rfl) (gz_Ev_mono (d := 11) (by omega) E163) ?_
          show gv_X _ _ (174, [(2, .inl z150), (0, .inr (.inr (some 0))), (1, .inl a1)], [.inl z163], gr_sh ++ ext, gr_h I164 J165)
          refine gv_if_ne (t := 181) hD rfl rfl ⟨by omega, by omega⟩ (fun c177 => ?_) (fun c177 => ?_)
          · refine gv_run 1 true hD (pc' := 182) (lv' := [(2, .inl z150), (0, .inr (.inr (some 0))), (1, .inl a1)]) (st' := [.inl z150]) (h' := gr_h I164 J165) (C := (True ∧ True)) rfl ⟨trivial, trivial⟩ ?_
            refine gv_pick [] rfl ?_
            exact L182 I164 J165 z150 hI164 FI164 FJ165 KTM_I164 (by omega)
          · refine gv_pick [] rfl ?_
            exact L177 I164 J165 hI164 FI164 FJ165 KTM_I164 (by omega)
      · refine gv_run 2 true hD (pc' := 148) (lv' := [(0, .inr (.inr (some 0))), (1, .inl a1)]) (st' := [.inl 1, .inr (.inr (some 0))]) (h' := gr_h I J) (C := ((True ∧ True) ∧ True)) rfl ⟨⟨trivial, trivial⟩, trivial⟩ ?_
        obtain ⟨r178, h178, E178, P178⟩ := r_none (ws0 := ws0) (tb := tb) hws htb ext I J hI 1 ⟨by omega, by omega⟩ 
        obtain ⟨I179, J180, rfl, hI179, g178, k178, ⟨z178, rfl, q178⟩⟩ := P178
        have FI179 := gr_frt FI g178 rfl rfl
        have FJ180 := gr_fjt FJ k178 rfl rfl
        have t181 := g178 0 71 rfl
        have t182 := g178 0 72 rfl
        have t183 := g178 0 73 rfl
        have t184 := g178 0 69 rfl
        have t185 := g178 0 64 rfl
        have t186 := g178 0 122 rfl
        have t187 := g178 0 123 rfl
        have f188 := (show 0 ≤ I179 0 71 ∧ I179 0 71 ≤ 5 from (hI179 0 71).1)
        have f189 := (show 0 ≤ I179 0 72 ∧ I179 0 72 ≤ 1000 from (hI179 0 72).1)
        have f190 := (show 0 ≤ I179 0 73 ∧ I179 0 73 ≤ 1001 from (hI179 0 73).1)
        have f191 := (show 0 ≤ I179 0 69 ∧ I179 0 69 ≤ 1000 from (hI179 0 69).1)
        have f192 := (show 0 ≤ I179 0 64 ∧ I179 0 64 ≤ 2000 from (hI179 0 64).1)
        have f193 := (show 0 ≤ I179 0 122 ∧ I179 0 122 ≤ 47 from (hI179 0 122).1)
        have f194 := (show 0 ≤ I179 0 123 ∧ I179 0 123 ≤ 95 from (hI179 0 123).1)
        have KTM_I179 := gr_TM_fr KTM_I (fun k => g178 52 k rfl) (fun k => g178 53 k rfl) (fun k => g178 54 k rfl) (g178 0 64 rfl)
        refine gv_callV hD rfl (As := [.inl 1]) (st := []) rfl (by decide) rfl rfl (gr_lV hws rfl) (Nat.le_of_ble_eq_true rfl) (gz_Ev_mono (d := 3) (by omega) E178) ?_
        show gv_X _ _ (151, [(0, .inr (.inr (some 0))), (1, .inl a1)], [.inl z178], gr_sh ++ ext, gr_h I179 J180)
        exact gv_iret hD rfl ⟨I179, J180, rfl, hI179, FI179, FJ180, KTM_I179, ⟨_, rfl, by omega⟩⟩
    · have f195 := (show 0 ≤ I 0 74 ∧ I 0 74 ≤ 999999 from (hI 0 74).1)
      refine gv_run 3 true hD (pc' := 92) (lv' := [(0, .inr (.inr (some 0))), (1, .inl a1)]) (st' := [.inl 1, .inl (I 0 74)]) (h' := gr_h I J) (C := (((True ∧ True) ∧ True) ∧ True)) rfl ⟨⟨⟨trivial, trivial⟩, trivial⟩, trivial⟩ ?_
      refine gv_icmp_lt (t := 111) hD rfl rfl ⟨⟨by omega, by omega⟩, ⟨by omega, by omega⟩⟩ (fun c196 => ?_) (fun c196 => ?_)
      · refine gv_pick [0] rfl ?_
        exact L111 (by omega)
      · have f197 := (show 0 ≤ I 0 74 ∧ I 0 74 ≤ 999999 from (hI 0 74).1)
        have f198 := (show 0 ≤ I 0 123 ∧ I 0 123 ≤ 95 from (hI 0 123).1)
        have f199 := (show 0 ≤ I 6 (Int.toNat ((I 0 123))) ∧ I 6 (Int.toNat ((I 0 123))) ≤ 4 from (hI 6 (Int.toNat ((I 0 123)))).1)
        refine gv_run 7 true hD (pc' := 108) (lv' := [(0, .inr (.inr (some 0))), (1, .inl a1)]) (st' := [.inl (I 6 (Int.toNat ((I 0 123)))), .inl (I 0 74)]) (h' := gr_h I J) (C := (((((((True ∧ True) ∧ True) ∧ True) ∧ True) ∧ True) ∧ True) ∧ (0 ≤ (I 0 123) ∧ (I 0 123) < ((96 : Nat) : Int)))) rfl ⟨⟨⟨⟨⟨⟨⟨trivial, trivial⟩, trivial⟩, trivial⟩, trivial⟩, trivial⟩, trivial⟩, ⟨by omega, by omega⟩⟩ ?_
        refine gv_icmp_le (t := 117) hD rfl rfl ⟨⟨by omega, by omega⟩, ⟨by omega, by omega⟩⟩ (fun c200 => ?_) (fun c200 => ?_)
        · have f201 := (show 0 ≤ I 0 74 ∧ I 0 74 ≤ 999999 from (hI 0 74).1)
          refine gv_run 7 true hD (pc' := 126) (lv' := [(0, .inr (.inr (some 0))), (1, .inl a1)]) (st' := [.inl 0, .inl ((I 0 74) - 1), .inl 3, .inr (.inr (some 0))]) (h' := gr_h I J) (C := (((((((True ∧ True) ∧ True) ∧ True) ∧ True) ∧ True) ∧ True) ∧ True)) rfl ⟨⟨⟨⟨⟨⟨⟨trivial, trivial⟩, trivial⟩, trivial⟩, trivial⟩, trivial⟩, trivial⟩, trivial⟩ ?_
          refine gv_run 1 true hD (pc' := 127) (lv' := [(0, .inr (.inr (some 0))), (1, .inl a1)]) (st' := [.inr (.inl (Int64.ofNat 0)), .inl 0, .inl ((I 0 74) - 1), .inl 3, .inr (.inr (some 0))]) (h' := gr_h I J) (C := (True ∧ True)) rfl ⟨trivial, trivial⟩ ?_
          obtain ⟨r202, h202, E202, P202⟩ := r_node (ws0 := ws0) (tb := tb) hws htb ext I J hI 3 (((I 0 74) - 1)) 0 (Int64.ofNat 0) ⟨by omega, by omega⟩ ⟨by omega, by omega⟩ ⟨by omega, by omega⟩ (by omega) (by omega) (by omega) KTM_I
          obtain ⟨I203, J204, rfl, hI203, g202, k202, KTM_I203, ⟨z202, rfl, q202⟩⟩ := P202
          have FI203 := gr_frt FI g202 rfl rfl
          have FJ204 := gr_fjt FJ k202 rfl rfl
          have t205 := g202 0 71 rfl
          have t206 := g202 0 72 rfl
          have t207 := g202 0 73 rfl
          have t208 := g202 0 69 rfl
          have t209 := g202 0 122 rfl
          have t210 := g202 0 123 rfl
          have f211 := (show 0 ≤ I203 0 71 ∧ I203 0 71 ≤ 5 from (hI203 0 71).1)
          have f212 := (show 0 ≤ I203 0 72 ∧ I203 0 72 ≤ 1000 from (hI203 0 72).1)
          have f213 := (show 0 ≤ I203 0 73 ∧ I203 0 73 ≤ 1001 from (hI203 0 73).1)
          have f214 := (show 0 ≤ I203 0 69 ∧ I203 0 69 ≤ 1000 from (hI203 0 69).1)
          have f215 := (show 0 ≤ I203 0 64 ∧ I203 0 64 ≤ 2000 from (hI203 0 64).1)
          have f216 := (show 0 ≤ I203 0 122 ∧ I203 0 122 ≤ 47 from (hI203 0 122).1)
          have f217 := (show 0 ≤ I203 0 123 ∧ I203 0 123 ≤ 95 from (hI203 0 123).1)
          refine gv_callV hD rfl (As := [.inl 3, .inl ((I 0 74) - 1), .inl 0, .inr (.inl (Int64.ofNat 0))]) (st := []) rfl (by decide) rfl rfl (gr_lV hws rfl) (Nat.le_of_ble_eq_true rfl) (gz_Ev_mono (d := 1) (by omega) E202) ?_
          show gv_X _ _ (130, [(0, .inr (.inr (some 0))), (1, .inl a1)], [.inl z202], gr_sh ++ ext, gr_h I203 J204)
          refine gv_run 2 true hD (pc' := 132) (lv' := [(2, .inl z202), (0, .inr (.inr (some 0))), (1, .inl a1)]) (st' := [.inr (.inr (some 0))]) (h' := gr_h I203 J204) (C := ((True ∧ True) ∧ True)) rfl ⟨⟨trivial, trivial⟩, trivial⟩ ?_
          obtain ⟨r218, h218, E218, P218⟩ := r_next (ws0 := ws0) (tb := tb) hws htb ext I203 J204 hI203   (by omega)
          obtain ⟨I219, J220, rfl, hI219, g218, k218, ⟨rfl, q218⟩⟩ := P218
          have FI219 := gr_frt FI203 g218 rfl rfl
          have FJ220 := gr_fjt FJ204 k218 rfl rfl
          have t221 := g218 0 69 rfl
          have t222 := g218 0 64 rfl
          have t223 := g218 0 122 rfl
          have t224 := g218 0 123 rfl
          have f225 := (show 0 ≤ I219 0 71 ∧ I219 0 71 ≤ 5 from (hI219 0 71).1)
          have f226 := (show 0 ≤ I219 0 72 ∧ I219 0 72 ≤ 1000 from (hI219 0 72).1)
          have f227 := (show 0 ≤ I219 0 73 ∧ I219 0 73 ≤ 1001 from (hI219 0 73).1)
          have f228 := (show 0 ≤ I219 0 69 ∧ I219 0 69 ≤ 1000 from (hI219 0 69).1)
          have f229 := (show 0 ≤ I219 0 64 ∧ I219 0 64 ≤ 2000 from (hI219 0 64).1)
          have f230 := (show 0 ≤ I219 0 122 ∧ I219 0 122 ≤ 47 from (hI219 0 122).1)
          have f231 := (show 0 ≤ I219 0 123 ∧ I219 0 123 ≤ 95 from (hI219 0 123).1)
          have KTM_I219 := gr_TM_fr KTM_I203 (fun k => g218 52 k rfl) (fun k => g218 53 k rfl) (fun k => g218 54 k rfl) (g218 0 64 rfl)
          refine gv_callV hD rfl (As := []) (st := []) rfl (by decide) rfl rfl (gr_lV hws rfl) (Nat.le_of_ble_eq_true rfl) (gz_Ev_mono (d := 10) (by omega) E218) ?_
          show gv_X _ _ (135, [(2, .inl z202), (0, .inr (.inr (some 0))), (1, .inl a1)], [], gr_sh ++ ext, gr_h I219 J220)
          refine gv_run 1 true hD (pc' := 136) (lv' := [(2, .inl z202), (0, .inr (.inr (some 0))), (1, .inl a1)]) (st' := [.inl z202]) (h' := gr_h I219 J220) (C := (True ∧ True)) rfl ⟨trivial, trivial⟩ ?_
          exact gv_iret hD rfl ⟨I219, J220, rfl, hI219, FI219, FJ220, KTM_I219, ⟨_, rfl, by omega⟩⟩
        · refine gv_pick [0] rfl ?_
          exact L111 (by omega)
  · have f232 := (show 0 ≤ I 0 122 ∧ I 0 122 ≤ 47 from (hI 0 122).1)
    refine gv_run 5 true hD (pc' := 15) (lv' := [(2, .inl ((I 0 122) - 1)), (0, .inr (.inr (some 0))), (1, .inl a1)]) (st' := []) (h' := gr_h I J) (C := (((((True ∧ True) ∧ True) ∧ True) ∧ True) ∧ True)) rfl ⟨⟨⟨⟨⟨trivial, trivial⟩, trivial⟩, trivial⟩, trivial⟩, trivial⟩ ?_
    refine gv_pick [1, 0] rfl ?_
    exact L15 _ (((I 0 122) - 1)) (Nat.lt_succ_self _) (by omega)
set_option maxHeartbeats 4000000 in
set_option maxRecDepth 100000 in
theorem r_term {ws0 : List Cond} {tb : String → gz_T} (hws : ∀ w ∈ gr_ws, w ∈ ws0) (htb : tb RX13 = gr_T) (ext : gz_Sh) : ∀ (nr : Nat), ∀ (I : gr_I) (J : gr_J) (hI : gr_Inv I) (a1 : Int) (ha1 : 1 ≤ a1 ∧ a1 ≤ 41) (x0 : I 0 71 = 5 ∨ I 0 73 ≤ I 0 69) (x1 : I 0 72 ≤ I 0 69) (x2 : I 0 71 = 0 ∨ (I 0 72 < I 0 73 ∧ I 0 72 < I 0 69)) (x3 : I 0 71 = 3 → 2 ≤ I 0 73 - I 0 72 ∧ I 0 73 - I 0 72 ≤ 14) (x4 : I 0 72 ≤ I 0 73) (x5 : I 0 64 + I 0 69 - I 0 72 ≤ 1900) (x6 : I 0 122 ≤ a1) (KTM_I : gr_TM I) (_ : (42 - a1).toNat < nr), ∃ r h', gz_Ev ws0 tb (14 + 2 * nr) (yX13_term, cX13_term, 4, (some .int)) [.inr (.inr (some 0)), .inl a1] (gr_sh ++ ext) (gr_h I J) r (gr_sh ++ ext) h' 0 0 ∧ (∃ (I' : gr_I) (J' : gr_J), h' = gr_h I' J' ∧ gr_Inv I' ∧ gr_fr [64, 71, 72, 73, 74, 75, 76, 77, 122] [52, 53, 54, 55, 75] I I' ∧ gr_fj [64, 71, 72, 73, 74, 75, 76, 77, 122] [52, 53, 54, 55, 75] J J' ∧ gr_TM I' ∧ (∃ z : Int, r = some (.inl z) ∧ (-1) ≤ z ∧ z ≤ 1999 ∧ (I' 0 71 = 5 ∨ I' 0 73 ≤ I' 0 69) ∧ (I' 0 72 ≤ I' 0 69) ∧ (I' 0 71 = 0 ∨ (I' 0 72 < I' 0 73 ∧ I' 0 72 < I' 0 69)) ∧ (I' 0 71 = 3 → 2 ≤ I' 0 73 - I' 0 72 ∧ I' 0 73 - I' 0 72 ≤ 14) ∧ (I' 0 72 ≤ I' 0 73) ∧ (I' 0 69 = I 0 69) ∧ (I 0 73 ≤ I' 0 73) ∧ (I 0 72 ≤ I' 0 72) ∧ (I 0 64 ≤ I' 0 64) ∧ (I' 0 64 - I' 0 72 ≤ I 0 64 - I 0 72) ∧ (I' 0 122 = I 0 122) ∧ (z < I' 0 64) ∧ (z < 0 ∨ I 0 72 < I' 0 72))) := by
  intro nr
  induction nr with
  | zero => intro I J hI a1 ha1 x0 x1 x2 x3 x4 x5 x6 KTM_I hnr; omega
  | succ nr ihR =>
  intro I J hI a1 ha1 x0 x1 x2 x3 x4 x5 x6 KTM_I hnr
  show ∃ r h', gz_Ev ws0 tb (14 + 2 * nr + 1 + 1) (yX13_term, cX13_term, 4, (some .int)) [.inr (.inr (some 0)), .inl a1] (gr_sh ++ ext) (gr_h I J) r (gr_sh ++ ext) h' 0 0 ∧ (∃ (I' : gr_I) (J' : gr_J), h' = gr_h I' J' ∧ gr_Inv I' ∧ gr_fr [64, 71, 72, 73, 74, 75, 76, 77, 122] [52, 53, 54, 55, 75] I I' ∧ gr_fj [64, 71, 72, 73, 74, 75, 76, 77, 122] [52, 53, 54, 55, 75] J J' ∧ gr_TM I' ∧ (∃ z : Int, r = some (.inl z) ∧ (-1) ≤ z ∧ z ≤ 1999 ∧ (I' 0 71 = 5 ∨ I' 0 73 ≤ I' 0 69) ∧ (I' 0 72 ≤ I' 0 69) ∧ (I' 0 71 = 0 ∨ (I' 0 72 < I' 0 73 ∧ I' 0 72 < I' 0 69)) ∧ (I' 0 71 = 3 → 2 ≤ I' 0 73 - I' 0 72 ∧ I' 0 73 - I' 0 72 ≤ 14) ∧ (I' 0 72 ≤ I' 0 73) ∧ (I' 0 69 = I 0 69) ∧ (I 0 73 ≤ I' 0 73) ∧ (I 0 72 ≤ I' 0 72) ∧ (I 0 64 ≤ I' 0 64) ∧ (I' 0 64 - I' 0 72 ≤ I 0 64 - I 0 72) ∧ (I' 0 122 = I 0 122) ∧ (z < I' 0 64) ∧ (z < 0 ∨ I 0 72 < I' 0 72)))
  have FI : gr_fr [64, 71, 72, 73, 74, 75, 76, 77, 122] [52, 53, 54, 55, 75] I I := fun _ _ _ => rfl
  have FJ : gr_fj [64, 71, 72, 73, 74, 75, 76, 77, 122] [52, 53, 54, 55, 75] J J := fun _ _ _ => rfl
  have hD : gv_D (gr_E ws0 tb (14 + 2 * nr + 1) (yX13_term, cX13_term, 4, (some .int)) kX13_term) := gq_ok oX13_term
  refine gr_ev (d := (14 + 2 * nr + 1)) (l := kX13_term) (Po := fun r h' => (∃ (I' : gr_I) (J' : gr_J), h' = gr_h I' J' ∧ gr_Inv I' ∧ gr_fr [64, 71, 72, 73, 74, 75, 76, 77, 122] [52, 53, 54, 55, 75] I I' ∧ gr_fj [64, 71, 72, 73, 74, 75, 76, 77, 122] [52, 53, 54, 55, 75] J J' ∧ gr_TM I' ∧ (∃ z : Int, r = some (.inl z) ∧ (-1) ≤ z ∧ z ≤ 1999 ∧ (I' 0 71 = 5 ∨ I' 0 73 ≤ I' 0 69) ∧ (I' 0 72 ≤ I' 0 69) ∧ (I' 0 71 = 0 ∨ (I' 0 72 < I' 0 73 ∧ I' 0 72 < I' 0 69)) ∧ (I' 0 71 = 3 → 2 ≤ I' 0 73 - I' 0 72 ∧ I' 0 73 - I' 0 72 ≤ 14) ∧ (I' 0 72 ≤ I' 0 73) ∧ (I' 0 69 = I 0 69) ∧ (I 0 73 ≤ I' 0 73) ∧ (I 0 72 ≤ I' 0 72) ∧ (I 0 64 ≤ I' 0 64) ∧ (I' 0 64 - I' 0 72 ≤ I 0 64 - I 0 72) ∧ (I' 0 122 = I 0 122) ∧ (z < I' 0 64) ∧ (z < 0 ∨ I 0 72 < I' 0 72)))) htb rfl (Nat.le_of_ble_eq_true rfl) ?_
  have f1 := (show 0 ≤ I 0 71 ∧ I 0 71 ≤ 5 from (hI 0 71).1)
  have f2 := (show 0 ≤ I 0 72 ∧ I 0 72 ≤ 1000 from (hI 0 72).1)
  have f3 := (show 0 ≤ I 0 73 ∧ I 0 73 ≤ 1001 from (hI 0 73).1)
  have f4 := (show 0 ≤ I 0 69 ∧ I 0 69 ≤ 1000 from (hI 0 69).1)
  have f5 := (show 0 ≤ I 0 64 ∧ I 0 64 ≤ 2000 from (hI 0 64).1)
  have f6 := (show 0 ≤ I 0 122 ∧ I 0 122 ≤ 47 from (hI 0 122).1)
  have f7 := (show 0 ≤ I 0 123 ∧ I 0 123 ≤ 95 from (hI 0 123).1)
  have L108 : ∀ (I8 : gr_I) (J9 : gr_J) (s0_10 : Int), gr_Inv I8 → gr_fr [64, 71, 72, 73, 74, 75, 76, 77, 122] [52, 53, 54, 55, 75] I I8 → gr_fj [64, 71, 72, 73, 74, 75, 76, 77, 122] [52, 53, 54, 55, 75] J J9 → gr_TM I8 → (((-1) ≤ s0_10 ∧ s0_10 ≤ 1999) ∧ (I 0 64 ≤ I8 0 64) ∧ (I8 0 64 - I8 0 72 ≤ I 0 64 - I 0 72) ∧ (I8 0 122 = I 0 122) ∧ (s0_10 < I8 0 64) ∧ (I8 0 71 = 5 ∨ I8 0 73 ≤ I8 0 69) ∧ (I8 0 72 ≤ I8 0 69) ∧ (I8 0 71 = 0 ∨ (I8 0 72 < I8 0 73 ∧ I8 0 72 < I8 0 69)) ∧ (I8 0 71 = 3 → 2 ≤ I8 0 73 - I8 0 72 ∧ I8 0 73 - I8 0 72 ≤ 14) ∧ (I8 0 72 ≤ I8 0 73) ∧ (I8 0 69 = I 0 69) ∧ (I 0 73 ≤ I8 0 73) ∧ (I 0 72 ≤ I8 0 72)) → gv_X (gr_E ws0 tb (14 + 2 * nr + 1) (yX13_term, cX13_term, 4, (some .int)) kX13_term) (gv_Q cX13_term (some .int) (gr_sh ++ ext) (fun r h' => (∃ (I' : gr_I) (J' : gr_J), h' = gr_h I' J' ∧ gr_Inv I' ∧ gr_fr [64, 71, 72, 73, 74, 75, 76, 77, 122] [52, 53, 54, 55, 75] I I' ∧ gr_fj [64, 71, 72, 73, 74, 75, 76, 77, 122] [52, 53, 54, 55, 75] J J' ∧ gr_TM I' ∧ (∃ z : Int, r = some (.inl z) ∧ (-1) ≤ z ∧ z ≤ 1999 ∧ (I' 0 71 = 5 ∨ I' 0 73 ≤ I' 0 69) ∧ (I' 0 72 ≤ I' 0 69) ∧ (I' 0 71 = 0 ∨ (I' 0 72 < I' 0 73 ∧ I' 0 72 < I' 0 69)) ∧ (I' 0 71 = 3 → 2 ≤ I' 0 73 - I' 0 72 ∧ I' 0 73 - I' 0 72 ≤ 14) ∧ (I' 0 72 ≤ I' 0 73) ∧ (I' 0 69 = I 0 69) ∧ (I 0 73 ≤ I' 0 73) ∧ (I 0 72 ≤ I' 0 72) ∧ (I 0 64 ≤ I' 0 64) ∧ (I' 0 64 - I' 0 72 ≤ I 0 64 - I 0 72) ∧ (I' 0 122 = I 0 122) ∧ (z < I' 0 64) ∧ (z < 0 ∨ I 0 72 < I' 0 72))))) (108, [], [.inl s0_10], gr_sh ++ ext, gr_h I8 J9) := by
    intro I8 J9 s0_10 hI8 FI8 FJ9 KTM_I8 m_10
    obtain ⟨hs0_10, e0_10, e1_10, e2_10, e3_10, e4_10, e5_10, e6_10, e7_10, e8_10, e9_10, e10_10, e11_10⟩ := m_10
    have f11 := (show 0 ≤ I8 0 71 ∧ I8 0 71 ≤ 5 from (hI8 0 71).1)
    have f12 := (show 0 ≤ I8 0 72 ∧ I8 0 72 ≤ 1000 from (hI8 0 72).1)
    have f13 := (show 0 ≤ I8 0 73 ∧ I8 0 73 ≤ 1001 from (hI8 0 73).1)
    have f14 := (show 0 ≤ I8 0 69 ∧ I8 0 69 ≤ 1000 from (hI8 0 69).1)
    have f15 := (show 0 ≤ I8 0 64 ∧ I8 0 64 ≤ 2000 from (hI8 0 64).1)
    have f16 := (show 0 ≤ I8 0 122 ∧ I8 0 122 ≤ 47 from (hI8 0 122).1)
    have f17 := (show 0 ≤ I8 0 123 ∧ I8 0 123 ≤ 95 from (hI8 0 123).1)
    exact gv_iret hD rfl ⟨I8, J9, rfl, hI8, FI8, FJ9, KTM_I8, ⟨_, rfl, by omega⟩⟩
  have L115 : ∀ (n : Nat) (I18 : gr_I) (J19 : gr_J) (v2_20 : Int), (1001 - I18 0 72).toNat < n → gr_Inv I18 → gr_fr [64, 71, 72, 73, 74, 75, 76, 77, 122] [52, 53, 54, 55, 75] I I18 → gr_fj [64, 71, 72, 73, 74, 75, 76, 77, 122] [52, 53, 54, 55, 75] J J19 → gr_TM I18 → ((1 ≤ a1 ∧ a1 ≤ 40) ∧ ((-1) ≤ v2_20 ∧ v2_20 ≤ 1999) ∧ (I18 0 64 - I18 0 72 ≤ I 0 64 - I 0 72) ∧ (I 0 64 ≤ I18 0 64) ∧ (I18 0 122 = I 0 122) ∧ (v2_20 < I18 0 64) ∧ (a1 ≤ 40) ∧ (I18 0 71 = 5 ∨ I18 0 73 ≤ I18 0 69) ∧ (I18 0 72 ≤ I18 0 69) ∧ (I18 0 71 = 0 ∨ (I18 0 72 < I18 0 73 ∧ I18 0 72 < I18 0 69)) ∧ (I18 0 71 = 3 → 2 ≤ I18 0 73 - I18 0 72 ∧ I18 0 73 - I18 0 72 ≤ 14) ∧ (I18 0 72 ≤ I18 0 73) ∧ (I18 0 69 = I 0 69) ∧ (I 0 73 ≤ I18 0 73) ∧ (I 0 72 ≤ I18 0 72)) → gv_X (gr_E ws0 tb (14 + 2 * nr + 1) (yX13_term, cX13_term, 4, (some .int)) kX13_term) (gv_Q cX13_term (some .int) (gr_sh ++ ext) (fun r h' => (∃ (I' : gr_I) (J' : gr_J), h' = gr_h I' J' ∧ gr_Inv I' ∧ gr_fr [64, 71, 72, 73, 74, 75, 76, 77, 122] [52, 53, 54, 55, 75] I I' ∧ gr_fj [64, 71, 72, 73, 74, 75, 76, 77, 122] [52, 53, 54, 55, 75] J J' ∧ gr_TM I' ∧ (∃ z : Int, r = some (.inl z) ∧ (-1) ≤ z ∧ z ≤ 1999 ∧ (I' 0 71 = 5 ∨ I' 0 73 ≤ I' 0 69) ∧ (I' 0 72 ≤ I' 0 69) ∧ (I' 0 71 = 0 ∨ (I' 0 72 < I' 0 73 ∧ I' 0 72 < I' 0 69)) ∧ (I' 0 71 = 3 → 2 ≤ I' 0 73 - I' 0 72 ∧ I' 0 73 - I' 0 72 ≤ 14) ∧ (I' 0 72 ≤ I' 0 73) ∧ (I' 0 69 = I 0 69) ∧ (I 0 73 ≤ I' 0 73) ∧ (I 0 72 ≤ I' 0 72) ∧ (I 0 64 ≤ I' 0 64) ∧ (I' 0 64 - I' 0 72 ≤ I 0 64 - I 0 72) ∧ (I' 0 122 = I 0 122) ∧ (z < I' 0 64) ∧ (z < 0 ∨ I 0 72 < I' 0 72))))) (115, [(0, .inr (.inr (some 0))), (1, .inl a1), (2, .inl v2_20)], [], gr_sh ++ ext, gr_h I18 J19) := by
    intro n
    induction n with
    | zero => intro I18 J19 v2_20 hn; omega
    | succ n ih115 =>
      intro I18 J19 v2_20 hn hI18 FI18 FJ19 KTM_I18 m_20
      obtain ⟨ha1_20, hv2_20, e0_20, e1_20, e2_20, e3_20, e4_20, e5_20, e6_20, e7_20, e8_20, e9_20, e10_20, e11_20, e12_20⟩ := m_20
      have f21 := (show 0 ≤ I18 0 71 ∧ I18 0 71 ≤ 5 from (hI18 0 71).1)
      have f22 := (show 0 ≤ I18 0 72 ∧ I18 0 72 ≤ 1000 from (hI18 0 72).1)
      have f23 := (show 0 ≤ I18 0 73 ∧ I18 0 73 ≤ 1001 from (hI18 0 73).1)
      have f24 := (show 0 ≤ I18 0 69 ∧ I18 0 69 ≤ 1000 from (hI18 0 69).1)
      have f25 := (show 0 ≤ I18 0 64 ∧ I18 0 64 ≤ 2000 from (hI18 0 64).1)
      have f26 := (show 0 ≤ I18 0 122 ∧ I18 0 122 ≤ 47 from (hI18 0 122).1)
      have f27 := (show 0 ≤ I18 0 123 ∧ I18 0 123 ≤ 95 from (hI18 0 123).1)
      have L128 : ∀ (n : Nat) (I28 : gr_I) (J29 : gr_J) (v2_30 : Int), (1001 - I28 0 72).toNat < n → gr_Inv I28 → gr_fr [64, 71, 72, 73, 74, 75, 76, 77, 122] [52, 53, 54, 55, 75] I I28 → gr_fj [64, 71, 72, 73, 74, 75, 76, 77, 122] [52, 53, 54, 55, 75] J J29 → gr_TM I28 → ((1 ≤ a1 ∧ a1 ≤ 40) ∧ (0 ≤ v2_30 ∧ v2_30 ≤ 1999) ∧ (I 0 64 ≤ I28 0 64) ∧ (I28 0 64 - I28 0 72 ≤ I 0 64 - I 0 72) ∧ (I28 0 122 = I 0 122) ∧ (0 ≤ v2_30 ∧ v2_30 < I28 0 64) ∧ (a1 ≤ 40) ∧ (¬ I28 0 71 = 0) ∧ (I28 0 71 = 5 ∨ I28 0 73 ≤ I28 0 69) ∧ (I28 0 72 ≤ I28 0 69) ∧ (I28 0 71 = 0 ∨ (I28 0 72 < I28 0 73 ∧ I28 0 72 < I28 0 69)) ∧ (I28 0 71 = 3 → 2 ≤ I28 0 73 - I28 0 72 ∧ I28 0 73 - I28 0 72 ≤ 14) ∧ (I28 0 72 ≤ I28 0 73) ∧ (I28 0 69 = I 0 69) ∧ (I 0 73 ≤ I28 0 73) ∧ (I 0 72 ≤ I28 0 72)) → gv_X (gr_E ws0 tb (14 + 2 * nr + 1) (yX13_term, cX13_term, 4, (some .int)) kX13_term) (gv_Q cX13_term (some .int) (gr_sh ++ ext) (fun r h' => (∃ (I' : gr_I) (J' : gr_J), h' = gr_h I' J' ∧ gr_Inv I' ∧ gr_fr [64, 71, 72, 73, 74, 75, 76, 77, 122] [52, 53, 54, 55, 75] I I' ∧ gr_fj [64, 71, 72, 73, 74, 75, 76, 77, 122] [52, 53, 54, 55, 75] J J' ∧ gr_TM I' ∧ (∃ z : Int, r = some (.inl z) ∧ (-1) ≤ z ∧ z ≤ 1999 ∧ (I' 0 71 = 5 ∨ I' 0 73 ≤ I' 0 69) ∧ (I' 0 72 ≤ I' 0 69) ∧ (I' 0 71 = 0 ∨ (I' 0 72 < I' 0 73 ∧ I' 0 72 < I' 0 69)) ∧ (I' 0 71 = 3 → 2 ≤ I' 0 73 - I' 0 72 ∧ I' 0 73 - I' 0 72 ≤ 14) ∧ (I' 0 72 ≤ I' 0 73) ∧ (I' 0 69 = I 0 69) ∧ (I 0 73 ≤ I' 0 73) ∧ (I 0 72 ≤ I' 0 72) ∧ (I 0 64 ≤ I' 0 64) ∧ (I' 0 64 - I' 0 72 ≤ I 0 64 - I 0 72) ∧ (I' 0 122 = I 0 122) ∧ (z < I' 0 64) ∧ (z < 0 ∨ I 0 72 < I' 0 72))))) (128, [(0, .inr (.inr (some 0))), (1, .inl a1), (2, .inl v2_30)], [], gr_sh ++ ext, gr_h I28 J29) := by
        intro n
        induction n with
        | zero => intro I28 J29 v2_30 hn; omega
        | succ n ih128 =>
          intro I28 J29 v2_30 hn hI28 FI28 FJ29 KTM_I28 m_30
          clear ha1_20 hv2_20 e0_20 e1_20 e2_20 e3_20 e4_20 e5_20 e6_20 e7_20 e8_20 e9_20 e10_20 e11_20 e12_20 f21 f22 f23 f24 f25 f26 f27
          obtain ⟨ha1_30, hv2_30, e0_30, e1_30, e2_30, e3_30, e4_30, e5_30, e6_30, e7_30, e8_30, e9_30, e10_30, e11_30, e12_30, e13_30⟩ := m_30
          have f31 := (show 0 ≤ I28 0 71 ∧ I28 0 71 ≤ 5 from (hI28 0 71).1)
          have f32 := (show 0 ≤ I28 0 72 ∧ I28 0 72 ≤ 1000 from (hI28 0 72).1)
          have f33 := (show 0 ≤ I28 0 73 ∧ I28 0 73 ≤ 1001 from (hI28 0 73).1)
          have f34 := (show 0 ≤ I28 0 69 ∧ I28 0 69 ≤ 1000 from (hI28 0 69).1)
          have f35 := (show 0 ≤ I28 0 64 ∧ I28 0 64 ≤ 2000 from (hI28 0 64).1)
          have f36 := (show 0 ≤ I28 0 122 ∧ I28 0 122 ≤ 47 from (hI28 0 122).1)
          have f37 := (show 0 ≤ I28 0 123 ∧ I28 0 123 ≤ 95 from (hI28 0 123).1)
          refine gv_run 1 true hD (pc' := 129) (lv' := [(0, .inr (.inr (some 0))), (1, .inl a1), (2, .inl v2_30)]) (st' := [.inr (.inr (some 0))]) (h' := gr_h I28 J29) (C := (True ∧ True)) rfl ⟨trivial, trivial⟩ ?_
          obtain ⟨r38, h38, E38, P38⟩ := r_next (ws0 := ws0) (tb := tb) hws htb ext I28 J29 hI28   (by omega)
          obtain ⟨I39, J40, rfl, hI39, g38, k38, ⟨rfl, q38⟩⟩ := P38
          have FI39 := gr_frt FI28 g38 rfl rfl
          have FJ40 := gr_fjt FJ29 k38 rfl rfl
          have t41 := g38 0 69 rfl
          have t42 := g38 0 64 rfl
          have t43 := g38 0 122 rfl
          have t44 := g38 0 123 rfl
          have f45 := (show 0 ≤ I39 0 71 ∧ I39 0 71 ≤ 5 from (hI39 0 71).1)
          have f46 := (show 0 ≤ I39 0 72 ∧ I39 0 72 ≤ 1000 from (hI39 0 72).1)
          have f47 := (show 0 ≤ I39 0 73 ∧ I39 0 73 ≤ 1001 from (hI39 0 73).1)
          have f48 := (show 0 ≤ I39 0 69 ∧ I39 0 69 ≤ 1000 from (hI39 0 69).1)
          have f49 := (show 0 ≤ I39 0 64 ∧ I39 0 64 ≤ 2000 from (hI39 0 64).1)
          have f50 := (show 0 ≤ I39 0 122 ∧ I39 0 122 ≤ 47 from (hI39 0 122).1)
          have f51 := (show 0 ≤ I39 0 123 ∧ I39 0 123 ≤ 95 from (hI39 0 123).1)
          have KTM_I39 := gr_TM_fr KTM_I28 (fun k => g38 52 k rfl) (fun k => g38 53 k rfl) (fun k => g38 54 k rfl) (g38 0 64 rfl)
          refine gv_callV hD rfl (As := []) (st := []) rfl (by decide) rfl rfl (gr_lV hws rfl) (Nat.le_of_ble_eq_true rfl) (gz_Ev_mono (d := 10) (by omega) E38) ?_
          show gv_X _ _ (132, [(0, .inr (.inr (some 0))), (1, .inl a1), (2, .inl v2_30)], [], gr_sh ++ ext, gr_h I39 J40)
          refine gv_run 4 true hD (pc' := 136) (lv' := [(0, .inr (.inr (some 0))), (1, .inl a1), (2, .inl v2_30)]) (st' := [.inl (a1 + 1), .inr (.inr (some 0))]) (h' := gr_h I39 J40) (C := ((((True ∧ True) ∧ True) ∧ True) ∧ True)) rfl ⟨⟨⟨⟨trivial, trivial⟩, trivial⟩, trivial⟩, trivial⟩ ?_
          obtain ⟨r52, h52, E52, P52⟩ := ihR I39 J40 hI39 (a1 + 1) ⟨by omega, by omega⟩ (by omega) (by omega) (by omega) (by omega) (by omega) (by omega) (by omega) KTM_I39 (by omega)
          obtain ⟨I53, J54, rfl, hI53, g52, k52, KTM_I53, ⟨z52, rfl, q52⟩⟩ := P52
          have FI53 := gr_frt FI39 g52 rfl rfl
          have FJ54 := gr_fjt FJ40 k52 rfl rfl
          have t55 := g52 0 69 rfl
          have t56 := g52 0 123 rfl
          have f57 := (show 0 ≤ I53 0 71 ∧ I53 0 71 ≤ 5 from (hI53 0 71).1)
          have f58 := (show 0 ≤ I53 0 72 ∧ I53 0 72 ≤ 1000 from (hI53 0 72).1)
          have f59 := (show 0 ≤ I53 0 73 ∧ I53 0 73 ≤ 1001 from (hI53 0 73).1)
          have f60 := (show 0 ≤ I53 0 69 ∧ I53 0 69 ≤ 1000 from (hI53 0 69).1)
          have f61 := (show 0 ≤ I53 0 64 ∧ I53 0 64 ≤ 2000 from (hI53 0 64).1)
          have f62 := (show 0 ≤ I53 0 122 ∧ I53 0 122 ≤ 47 from (hI53 0 122).1)
          have f63 := (show 0 ≤ I53 0 123 ∧ I53 0 123 ≤ 95 from (hI53 0 123).1)
          refine gv_callV hD rfl (As := [.inl (a1 + 1)]) (st := []) rfl (by decide) rfl rfl (gr_lV hws rfl) (Nat.le_of_ble_eq_true rfl) (gz_Ev_mono (d := (14 + 2 * nr)) (by omega) E52) ?_
          show gv_X _ _ (139, [(0, .inr (.inr (some 0))), (1, .inl a1), (2, .inl v2_30)], [.inl z52], gr_sh ++ ext, gr_h I53 J54)
          refine gv_run 2 true hD (pc' := 141) (lv' := [(3, .inl z52), (0, .inr (.inr (some 0))), (1, .inl a1), (2, .inl v2_30)]) (st' := [.inl z52]) (h' := gr_h I53 J54) (C := ((True ∧ True) ∧ True)) rfl ⟨⟨trivial, trivial⟩, trivial⟩ ?_
          refine gv_if_ge (t := 146) hD rfl rfl ⟨by omega, by omega⟩ (fun c64 => ?_) (fun c64 => ?_)
          · refine gv_run 5 true hD (pc' := 151) (lv' := [(3, .inl z52), (0, .inr (.inr (some 0))), (1, .inl a1), (2, .inl v2_30)]) (st' := [.inr (.inl (Int64.ofNat 0)), .inl z52, .inl v2_30, .inl 4, .inr (.inr (some 0))]) (h' := gr_h I53 J54) (C := (((((True ∧ True) ∧ True) ∧ True) ∧ True) ∧ True)) rfl ⟨⟨⟨⟨⟨trivial, trivial⟩, trivial⟩, trivial⟩, trivial⟩, trivial⟩ ?_
            obtain ⟨r65, h65, E65, P65⟩ := r_node (ws0 := ws0) (tb := tb) hws htb ext I53 J54 hI53 4 v2_30 z52 (Int64.ofNat 0) ⟨by omega, by omega⟩ ⟨by omega, by omega⟩ ⟨by omega, by omega⟩ (by omega) (by omega) (by omega) KTM_I53
            obtain ⟨I66, J67, rfl, hI66, g65, k65, KTM_I66, ⟨z65, rfl, q65⟩⟩ := P65
            have FI66 := gr_frt FI53 g65 rfl rfl
            have FJ67 := gr_fjt FJ54 k65 rfl rfl
            have t68 := g65 0 71 rfl
            have t69 := g65 0 72 rfl
            have t70 := g65 0 73 rfl
            have t71 := g65 0 69 rfl
            have t72 := g65 0 122 rfl
            have t73 := g65 0 123 rfl
            have f74 := (show 0 ≤ I66 0 71 ∧ I66 0 71 ≤ 5 from (hI66 0 71).1)
            have f75 := (show 0 ≤ I66 0 72 ∧ I66 0 72 ≤ 1000 from (hI66 0 72).1)
            have f76 := (show 0 ≤ I66 0 73 ∧ I66 0 73 ≤ 1001 from (hI66 0 73).1)
            have f77 := (show 0 ≤ I66 0 69 ∧ I66 0 69 ≤ 1000 from (hI66 0 69).1)
            have f78 := (show 0 ≤ I66 0 64 ∧ I66 0 64 ≤ 2000 from (hI66 0 64).1)
            have f79 := (show 0 ≤ I66 0 122 ∧ I66 0 122 ≤ 47 from (hI66 0 122).1)
            have f80 := (show 0 ≤ I66 0 123 ∧ I66 0 123 ≤ 95 from (hI66 0 123).1)
            refine gv_callV hD rfl (As := [.inl 4, .inl v2_30, .inl z52, .inr (.inl (Int64.ofNat 0))]) (st := []) rfl (by decide) rfl rfl (gr_lV hws rfl) (Nat.le_of_ble_eq_true rfl) (gz_Ev_mono (d := 1) (by omega) E65) ?_
            show gv_X _ _ (154, [(3, .inl z52), (0, .inr (.inr (some 0))), (1, .inl a1), (2, .inl v2_30)], [.inl z65], gr_sh ++ ext, gr_h I66 J67)
            refine gv_run 3 true hD (pc' := 158) (lv' := [(2, .inl z65), (3, .inl z52), (0, .inr (.inr (some 0))), (1, .inl a1)]) (st' := [.inl 44, .inr (.inr (some 0))]) (h' := gr_h I66 J67) (C := (((True ∧ True) ∧ True) ∧ True)) rfl ⟨⟨⟨trivial, trivial⟩, trivial⟩, trivial⟩ ?_
            obtain ⟨r81, h81, E81, P81⟩ := r_sign (ws0 := ws0) (tb := tb) hws htb ext I66 J67 hI66 44 ⟨by omega, by omega⟩ (by omega)
            obtain ⟨rfl, ⟨z81, rfl, q81⟩⟩ := P81
            refine gv_callV hD rfl (As := [.inl 44]) (st := []) rfl (by decide) rfl rfl (gr_lV hws rfl) (Nat.le_of_ble_eq_true rfl) (gz_Ev_mono (d := 1) (by omega) E81) ?_
            show gv_X _ _ (161, [(2, .inl z65), (3, .inl z52), (0, .inr (.inr (some 0))), (1, .inl a1)], [.inl z81], gr_sh ++ ext, gr_h I66 J67)
            refine gv_if_ne (t := 128) hD rfl rfl ⟨by omega, by omega⟩ (fun c82 => ?_) (fun c82 => ?_)
            · refine gv_pick [2, 3, 0] rfl ?_
              exact ih128 I66 J67 z65 (by omega) hI66 FI66 FJ67 KTM_I66 (by omega)
            · refine gv_run 2 true hD (pc' := 167) (lv' := [(2, .inl z65), (3, .inl z52), (0, .inr (.inr (some 0))), (1, .inl a1)]) (st' := [.inl 41, .inr (.inr (some 0))]) (h' := gr_h I66 J67) (C := ((True ∧ True) ∧ True)) rfl ⟨⟨trivial, trivial⟩, trivial⟩ ?_
              obtain ⟨r83, h83, E83, P83⟩ := r_need (ws0 := ws0) (tb := tb) hws htb ext I66 J67 hI66 41 ⟨by omega, by omega⟩ (by omega) (by omega) (by omega) (by omega) (by omega)
              obtain ⟨I84, J85, rfl, hI84, g83, k83, ⟨z83, rfl, q83⟩⟩ := P83
              have FI84 := gr_frt FI66 g83 rfl rfl
              have FJ85 := gr_fjt FJ67 k83 rfl rfl
              have t86 := g83 0 69 rfl
              have t87 := g83 0 64 rfl
              have t88 := g83 0 122 rfl
              have t89 := g83 0 123 rfl
              have f90 := (show 0 ≤ I84 0 71 ∧ I84 0 71 ≤ 5 from (hI84 0 71).1)
              have f91 := (show 0 ≤ I84 0 72 ∧ I84 0 72 ≤ 1000 from (hI84 0 72).1)
              have f92 := (show 0 ≤ I84 0 73 ∧ I84 0 73 ≤ 1001 from (hI84 0 73).1)
              have f93 := (show 0 ≤ I84 0 69 ∧ I84 0 69 ≤ 1000 from (hI84 0 69).1)
              have f94 := (show 0 ≤ I84 0 64 ∧ I84 0 64 ≤ 2000 from (hI84 0 64).1)
              have f95 := (show 0 ≤ I84 0 122 ∧ I84 0 122 ≤ 47 from (hI84 0 122).1)
              have f96 := (show 0 ≤ I84 0 123 ∧ I84 0 123 ≤ 95 from (hI84 0 123).1)
              have KTM_I84 := gr_TM_fr KTM_I66 (fun k => g83 52 k rfl) (fun k => g83 53 k rfl) (fun k => g83 54 k rfl) (g83 0 64 rfl)
              refine gv_callV hD rfl (As := [.inl 41]) (st := []) rfl (by decide) rfl rfl (gr_lV hws rfl) (Nat.le_of_ble_eq_true rfl) (gz_Ev_mono (d := 11) (by omega) E83) ?_
              show gv_X _ _ (170, [(2, .inl z65), (3, .inl z52), (0, .inr (.inr (some 0))), (1, .inl a1)], [.inl z83], gr_sh ++ ext, gr_h I84 J85)
              refine gv_if_ne (t := 115) hD rfl rfl ⟨by omega, by omega⟩ (fun c97 => ?_) (fun c97 => ?_)
              · refine gv_pick [2, 3, 0] rfl ?_
                exact ih115 I84 J85 z65 (by omega) hI84 FI84 FJ85 KTM_I84 (by omega)
              · refine gv_run 1 true hD (pc' := 174) (lv' := [(2, .inl z65), (3, .inl z52), (0, .inr (.inr (some 0))), (1, .inl a1)]) (st' := [.inl (-1)]) (h' := gr_h I84 J85) (C := (True ∧ True)) rfl ⟨trivial, trivial⟩ ?_
                exact gv_iret hD rfl ⟨I84, J85, rfl, hI84, FI84, FJ85, KTM_I84, ⟨_, rfl, by omega⟩⟩
          · refine gv_run 1 true hD (pc' := 145) (lv' := [(3, .inl z52), (0, .inr (.inr (some 0))), (1, .inl a1), (2, .inl v2_30)]) (st' := [.inl (-1)]) (h' := gr_h I53 J54) (C := (True ∧ True)) rfl ⟨trivial, trivial⟩ ?_
            exact gv_iret hD rfl ⟨I53, J54, rfl, hI53, FI53, FJ54, KTM_I53, ⟨_, rfl, by omega⟩⟩
      have L175 : (((-1) ≤ v2_20 ∧ v2_20 ≤ 1999) ∧ (I 0 64 ≤ I18 0 64) ∧ (I18 0 64 - I18 0 72 ≤ I 0 64 - I 0 72) ∧ (I18 0 122 = I 0 122) ∧ (v2_20 < I18 0 64) ∧ (I18 0 71 = 5 ∨ I18 0 73 ≤ I18 0 69) ∧ (I18 0 72 ≤ I18 0 69) ∧ (I18 0 71 = 0 ∨ (I18 0 72 < I18 0 73 ∧ I18 0 72 < I18 0 69)) ∧ (I18 0 71 = 3 → 2 ≤ I18 0 73 - I18 0 72 ∧ I18 0 73 - I18 0 72 ≤ 14) ∧ (I18 0 72 ≤ I18 0 73) ∧ (I18 0 69 = I 0 69) ∧ (I 0 73 ≤ I18 0 73) ∧ (I 0 72 ≤ I18 0 72)) → gv_X (gr_E ws0 tb (14 + 2 * nr + 1) (yX13_term, cX13_term, 4, (some .int)) kX13_term) (gv_Q cX13_term (some .int) (gr_sh ++ ext) (fun r h' => (∃ (I' : gr_I) (J' : gr_J), h' = gr_h I' J' ∧ gr_Inv I' ∧ gr_fr [64, 71, 72, 73, 74, 75, 76, 77, 122] [52, 53, 54, 55, 75] I I' ∧ gr_fj [64, 71, 72, 73, 74, 75, 76, 77, 122] [52, 53, 54, 55, 75] J J' ∧ gr_TM I' ∧ (∃ z : Int, r = some (.inl z) ∧ (-1) ≤ z ∧ z ≤ 1999 ∧ (I' 0 71 = 5 ∨ I' 0 73 ≤ I' 0 69) ∧ (I' 0 72 ≤ I' 0 69) ∧ (I' 0 71 = 0 ∨ (I' 0 72 < I' 0 73 ∧ I' 0 72 < I' 0 69)) ∧ (I' 0 71 = 3 → 2 ≤ I' 0 73 - I' 0 72 ∧ I' 0 73 - I' 0 72 ≤ 14) ∧ (I' 0 72 ≤ I' 0 73) ∧ (I' 0 69 = I 0 69) ∧ (I 0 73 ≤ I' 0 73) ∧ (I 0 72 ≤ I' 0 72) ∧ (I 0 64 ≤ I' 0 64) ∧ (I' 0 64 - I' 0 72 ≤ I 0 64 - I 0 72) ∧ (I' 0 122 = I 0 122) ∧ (z < I' 0 64) ∧ (z < 0 ∨ I 0 72 < I' 0 72))))) (175, [(2, .inl v2_20)], [], gr_sh ++ ext, gr_h I18 J19) := by
        intro m_98
        obtain ⟨hv2_20_98, e0_98, e1_98, e2_98, e3_98, e4_98, e5_98, e6_98, e7_98, e8_98, e9_98, e10_98, e11_98⟩ := m_98
        have f99 := (show 0 ≤ I18 0 71 ∧ I18 0 71 ≤ 5 from (hI18 0 71).1)
        have f100 := (show 0 ≤ I18 0 72 ∧ I18 0 72 ≤ 1000 from (hI18 0 72).1)
        have f101 := (show 0 ≤ I18 0 73 ∧ I18 0 73 ≤ 1001 from (hI18 0 73).1)
        have f102 := (show 0 ≤ I18 0 69 ∧ I18 0 69 ≤ 1000 from (hI18 0 69).1)
        have f103 := (show 0 ≤ I18 0 64 ∧ I18 0 64 ≤ 2000 from (hI18 0 64).1)
        have f104 := (show 0 ≤ I18 0 122 ∧ I18 0 122 ≤ 47 from (hI18 0 122).1)
        have f105 := (show 0 ≤ I18 0 123 ∧ I18 0 123 ≤ 95 from (hI18 0 123).1)
        refine gv_run 1 true hD (pc' := 176) (lv' := [(2, .inl v2_20)]) (st' := [.inl v2_20]) (h' := gr_h I18 J19) (C := (True ∧ True)) rfl ⟨trivial, trivial⟩ ?_
        exact gv_iret hD rfl ⟨I18, J19, rfl, hI18, FI18, FJ19, KTM_I18, ⟨_, rfl, by omega⟩⟩
      refine gv_run 1 true hD (pc' := 116) (lv' := [(0, .inr (.inr (some 0))), (1, .inl a1), (2, .inl v2_20)]) (st' := [.inl v2_20]) (h' := gr_h I18 J19) (C := (True ∧ True)) rfl ⟨trivial, trivial⟩ ?_
      refine gv_if_lt (t := 175) hD rfl rfl ⟨by omega, by omega⟩ (fun c106 => ?_) (fun c106 => ?_)
      · refine gv_pick [2] rfl ?_
        exact L175 (by omega)
      · refine gv_run 2 true hD (pc' := 122) (lv' := [(0, .inr (.inr (some 0))), (1, .inl a1), (2, .inl v2_20)]) (st' := [.inl 40, .inr (.inr (some 0))]) (h' := gr_h I18 J19) (C := ((True ∧ True) ∧ True)) rfl ⟨⟨trivial, trivial⟩, trivial⟩ ?_
        obtain ⟨r107, h107, E107, P107⟩ := r_sign (ws0 := ws0) (tb := tb) hws htb ext I18 J19 hI18 40 ⟨by omega, by omega⟩ (by omega)
        obtain ⟨rfl, ⟨z107, rfl, q107⟩⟩ := P107
        refine gv_callV hD rfl (As := [.inl 40]) (st := []) rfl (by decide) rfl rfl (gr_lV hws rfl) (Nat.le_of_ble_eq_true rfl) (gz_Ev_mono (d := 1) (by omega) E107) ?_
        show gv_X _ _ (125, [(0, .inr (.inr (some 0))), (1, .inl a1), (2, .inl v2_20)], [.inl z107], gr_sh ++ ext, gr_h I18 J19)
        refine gv_if_eq (t := 175) hD rfl rfl ⟨by omega, by omega⟩ (fun c108 => ?_) (fun c108 => ?_)
        · refine gv_pick [2] rfl ?_
          exact L175 (by omega)
        · exact L128 _ I18 J19 v2_20 (Nat.lt_succ_self _) hI18 FI18 FJ19 KTM_I18 (by omega)
  refine gv_run 2 true hD (pc' := 3) (lv' := [(0, .inr (.inr (some 0))), (1, .inl a1)]) (st' := [.inl 40, .inl a1]) (h' := gr_h I J) (C := ((True ∧ True) ∧ True)) rfl ⟨⟨trivial, trivial⟩, trivial⟩ ?_
  refine gv_icmp_le (t := 12) hD rfl rfl ⟨⟨by omega, by omega⟩, ⟨by omega, by omega⟩⟩ (fun c109 => ?_) (fun c109 => ?_)
  · refine gv_run 2 true hD (pc' := 15) (lv' := [(0, .inr (.inr (some 0))), (1, .inl a1)]) (st' := [.inl 92, .inr (.inr (some 0))]) (h' := gr_h I J) (C := ((True ∧ True) ∧ True)) rfl ⟨⟨trivial, trivial⟩, trivial⟩ ?_
    obtain ⟨r110, h110, E110, P110⟩ := r_sign (ws0 := ws0) (tb := tb) hws htb ext I J hI 92 ⟨by omega, by omega⟩ (by omega)
    obtain ⟨rfl, ⟨z110, rfl, q110⟩⟩ := P110
    refine gv_callV hD rfl (As := [.inl 92]) (st := []) rfl (by decide) rfl rfl (gr_lV hws rfl) (Nat.le_of_ble_eq_true rfl) (gz_Ev_mono (d := 1) (by omega) E110) ?_
    show gv_X _ _ (18, [(0, .inr (.inr (some 0))), (1, .inl a1)], [.inl z110], gr_sh ++ ext, gr_h I J)
    refine gv_if_eq (t := 109) hD rfl rfl ⟨by omega, by omega⟩ (fun c111 => ?_) (fun c111 => ?_)
    · refine gv_run 2 true hD (pc' := 111) (lv' := [(0, .inr (.inr (some 0))), (1, .inl a1)]) (st' := [.inl a1, .inr (.inr (some 0))]) (h' := gr_h I J) (C := ((True ∧ True) ∧ True)) rfl ⟨⟨trivial, trivial⟩, trivial⟩ ?_
      obtain ⟨r112, h112, E112, P112⟩ := r_atom (ws0 := ws0) (tb := tb) hws htb ext nr ihR I J hI a1 ⟨by omega, by omega⟩ (by omega) (by omega) (by omega) (by omega) (by omega) (by omega) (by omega) KTM_I (by omega)
      obtain ⟨I113, J114, rfl, hI113, g112, k112, KTM_I113, ⟨z112, rfl, q112⟩⟩ := P112
      have FI113 := gr_frt FI g112 rfl rfl
      have FJ114 := gr_fjt FJ k112 rfl rfl
      have t115 := g112 0 69 rfl
      have t116 := g112 0 123 rfl
      have f117 := (show 0 ≤ I113 0 71 ∧ I113 0 71 ≤ 5 from (hI113 0 71).1)
      have f118 := (show 0 ≤ I113 0 72 ∧ I113 0 72 ≤ 1000 from (hI113 0 72).1)
      have f119 := (show 0 ≤ I113 0 73 ∧ I113 0 73 ≤ 1001 from (hI113 0 73).1)
      have f120 := (show 0 ≤ I113 0 69 ∧ I113 0 69 ≤ 1000 from (hI113 0 69).1)
      have f121 := (show 0 ≤ I113 0 64 ∧ I113 0 64 ≤ 2000 from (hI113 0 64).1)
      have f122 := (show 0 ≤ I113 0 122 ∧ I113 0 122 ≤ 47 from (hI113 0 122).1)
      have f123 := (show 0 ≤ I113 0 123 ∧ I113 0 123 ≤ 95 from (hI113 0 123).1)
      refine gv_callV hD rfl (As := [.inl a1]) (st := []) rfl (by decide) rfl rfl (gr_lV hws rfl) (Nat.le_of_ble_eq_true rfl) (gz_Ev_mono (d := (14 + 2 * nr + 1)) (Nat.le_refl _) E112) ?_
      show gv_X _ _ (114, [(0, .inr (.inr (some 0))), (1, .inl a1)], [.inl z112], gr_sh ++ ext, gr_h I113 J114)
      refine gv_run 1 true hD (pc' := 115) (lv' := [(2, .inl z112), (0, .inr (.inr (some 0))), (1, .inl a1)]) (st' := []) (h' := gr_h I113 J114) (C := (True ∧ True)) rfl ⟨trivial, trivial⟩ ?_
      refine gv_pick [1, 2, 0] rfl ?_
      exact L115 _ I113 J114 z112 (Nat.lt_succ_self _) hI113 FI113 FJ114 KTM_I113 (by omega)
    · refine gv_run 1 true hD (pc' := 22) (lv' := [(0, .inr (.inr (some 0))), (1, .inl a1)]) (st' := [.inr (.inr (some 0))]) (h' := gr_h I J) (C := (True ∧ True)) rfl ⟨trivial, trivial⟩ ?_
      obtain ⟨r124, h124, E124, P124⟩ := r_next (ws0 := ws0) (tb := tb) hws htb ext I J hI   (by omega)
      obtain ⟨I125, J126, rfl, hI125, g124, k124, ⟨rfl, q124⟩⟩ := P124
      have FI125 := gr_frt FI g124 rfl rfl
      have FJ126 := gr_fjt FJ k124 rfl rfl
      have t127 := g124 0 69 rfl
      have t128 := g124 0 64 rfl
      have t129 := g124 0 122 rfl
      have t130 := g124 0 123 rfl
      have f131 := (show 0 ≤ I125 0 71 ∧ I125 0 71 ≤ 5 from (hI125 0 71).1)
      have f132 := (show 0 ≤ I125 0 72 ∧ I125 0 72 ≤ 1000 from (hI125 0 72).1)
      have f133 := (show 0 ≤ I125 0 73 ∧ I125 0 73 ≤ 1001 from (hI125 0 73).1)
      have f134 := (show 0 ≤ I125 0 69 ∧ I125 0 69 ≤ 1000 from (hI125 0 69).1)
      have f135 := (show 0 ≤ I125 0 64 ∧ I125 0 64 ≤ 2000 from (hI125 0 64).1)
      have f136 := (show 0 ≤ I125 0 122 ∧ I125 0 122 ≤ 47 from (hI125 0 122).1)
      have f137 := (show 0 ≤ I125 0 123 ∧ I125 0 123 ≤ 95 from (hI125 0 123).1)
      have KTM_I125 := gr_TM_fr KTM_I (fun k => g124 52 k rfl) (fun k => g124 53 k rfl) (fun k => g124 54 k rfl) (g124 0 64 rfl)
      refine gv_callV hD rfl (As := []) (st := []) rfl (by decide) rfl rfl (gr_lV hws rfl) (Nat.le_of_ble_eq_true rfl) (gz_Ev_mono (d := 10) (by omega) E124) ?_
      show gv_X _ _ (25, [(0, .inr (.inr (some 0))), (1, .inl a1)], [], gr_sh ++ ext, gr_h I125 J126)
      have f138 := (show 0 ≤ I125 0 71 ∧ I125 0 71 ≤ 5 from (hI125 0 71).1)
      refine gv_run 3 true hD (pc' := 30) (lv' := [(0, .inr (.inr (some 0))), (1, .inl a1)]) (st' := [.inl 1, .inl (I125 0 71)]) (h' := gr_h I125 J126) (C := (((True ∧ True) ∧ True) ∧ True)) rfl ⟨⟨⟨trivial, trivial⟩, trivial⟩, trivial⟩ ?_
      refine gv_icmp_eq (t := 39) hD rfl rfl ⟨⟨by omega, by omega⟩, ⟨by omega, by omega⟩⟩ (fun c139 => ?_) (fun c139 => ?_)
      · have f140 := (show 0 ≤ I125 0 122 ∧ I125 0 122 ≤ 47 from (hI125 0 122).1)
        refine gv_run 7 true hD (pc' := 50) (lv' := [(0, .inr (.inr (some 0))), (1, .inl a1)]) (st' := [.inl 1, .inl (I125 0 122), .inr (.inr (some 0)), .inl (I125 0 122), .inr (.inr (some 75))]) (h' := gr_h I125 J126) (C := (((((((True ∧ True) ∧ True) ∧ True) ∧ True) ∧ True) ∧ True) ∧ True)) rfl ⟨⟨⟨⟨⟨⟨⟨trivial, trivial⟩, trivial⟩, trivial⟩, trivial⟩, trivial⟩, trivial⟩, trivial⟩ ?_
        refine gv_run 2 true hD (pc' := 54) (lv' := [(0, .inr (.inr (some 0))), (1, .inl a1)]) (st' := [.inl (I125 0 122), .inr (.inr (some 75))]) (h' := gz_up (gr_h I125 J126) 0 122 (.inl (((I125 0 122) + 1)))) (C := ((True ∧ True) ∧ True)) rfl ⟨⟨trivial, trivial⟩, trivial⟩ ?_
        refine gr_st hI125 FI125 rfl rfl ⟨⟨by show 0 ≤ _; omega, by show _ ≤ 47; omega⟩, trivial⟩ (fun I141 hI141 FI141 q142 p142 => ?_)
        have t143 := p142 0 71 (by decide)
        have t144 := p142 0 72 (by decide)
        have t145 := p142 0 73 (by decide)
        have t146 := p142 0 69 (by decide)
        have t147 := p142 0 64 (by decide)
        have t148 := p142 0 123 (by decide)
        have f149 := (show 0 ≤ I141 0 71 ∧ I141 0 71 ≤ 5 from (hI141 0 71).1)
        have f150 := (show 0 ≤ I141 0 72 ∧ I141 0 72 ≤ 1000 from (hI141 0 72).1)
        have f151 := (show 0 ≤ I141 0 73 ∧ I141 0 73 ≤ 1001 from (hI141 0 73).1)
        have f152 := (show 0 ≤ I141 0 69 ∧ I141 0 69 ≤ 1000 from (hI141 0 69).1)
        have f153 := (show 0 ≤ I141 0 64 ∧ I141 0 64 ≤ 2000 from (hI141 0 64).1)
        have f154 := (show 0 ≤ I141 0 122 ∧ I141 0 122 ≤ 47 from (hI141 0 122).1)
        have f155 := (show 0 ≤ I141 0 123 ∧ I141 0 123 ≤ 95 from (hI141 0 123).1)
        have KTM_I141 := gr_TM_fr KTM_I125 (fun k => p142 52 k (fun q => absurd q.1 (by decide))) (fun k => p142 53 k (fun q => absurd q.1 (by decide))) (fun k => p142 54 k (fun q => absurd q.1 (by decide))) (p142 0 64 (by decide))
        refine gv_run 3 true hD (pc' := 59) (lv' := [(0, .inr (.inr (some 0))), (1, .inl a1)]) (st' := []) (h' := gz_up (gr_h I141 J126) 75 (Int.toNat ((I125 0 122))) (.inr (.inl (J126 0 75)))) (C := (((True ∧ True) ∧ True) ∧ (0 ≤ (I125 0 122) ∧ (I125 0 122) < ((48 : Nat) : Int)))) rfl ⟨⟨⟨trivial, trivial⟩, trivial⟩, ⟨by omega, by omega⟩⟩ ?_
        refine gr_stJ FJ126 rfl rfl (fun J156 FJ156 => ?_)
        refine gv_run 1 true hD (pc' := 60) (lv' := [(0, .inr (.inr (some 0))), (1, .inl a1)]) (st' := [.inr (.inr (some 0))]) (h' := gr_h I141 J156) (C := (True ∧ True)) rfl ⟨trivial, trivial⟩ ?_
        obtain ⟨r157, h157, E157, P157⟩ := r_next (ws0 := ws0) (tb := tb) hws htb ext I141 J156 hI141   (by omega)
        obtain ⟨I158, J159, rfl, hI158, g157, k157, ⟨rfl, q157⟩⟩ := P157
        have FI158 := gr_frt FI141 g157 rfl rfl
        have FJ159 := gr_fjt FJ156 k157 rfl rfl
        have t160 := g157 0 69 rfl
        have t161 := g157 0 64 rfl
        have t162 := g157 0 122 rfl
        have t163 := g157 0 123 rfl
        have f164 := (show 0 ≤ I158 0 71 ∧ I158 0 71 ≤ 5 from (hI158 0 71).1)
        have f165 := (show 0 ≤ I158 0 72 ∧ I158 0 72 ≤ 1000 from (hI158 0 72).1)
        have f166 := (show 0 ≤ I158 0 73 ∧ I158 0 73 ≤ 1001 from (hI158 0 73).1)
        have f167 := (show 0 ≤ I158 0 69 ∧ I158 0 69 ≤ 1000 from (hI158 0 69).1)
        have f168 := (show 0 ≤ I158 0 64 ∧ I158 0 64 ≤ 2000 from (hI158 0 64).1)
        have f169 := (show 0 ≤ I158 0 122 ∧ I158 0 122 ≤ 47 from (hI158 0 122).1)
        have f170 := (show 0 ≤ I158 0 123 ∧ I158 0 123 ≤ 95 from (hI158 0 123).1)
        have KTM_I158 := gr_TM_fr KTM_I141 (fun k => g157 52 k rfl) (fun k => g157 53 k rfl) (fun k => g157 54 k rfl) (g157 0 64 rfl)
        refine gv_callV hD rfl (As := []) (st := []) rfl (by decide) rfl rfl (gr_lV hws rfl) (Nat.le_of_ble_eq_true rfl) (gz_Ev_mono (d := 10) (by omega) E157) ?_
        show gv_X _ _ (63, [(0, .inr (.inr (some 0))), (1, .inl a1)], [], gr_sh ++ ext, gr_h I158 J159)
        refine gv_run 2 true hD (pc' := 66) (lv' := [(0, .inr (.inr (some 0))), (1, .inl a1)]) (st' := [.inl 46, .inr (.inr (some 0))]) (h' := gr_h I158 J159) (C := ((True ∧ True) ∧ True)) rfl ⟨⟨trivial, trivial⟩, trivial⟩ ?_
        obtain ⟨r171, h171, E171, P171⟩ := r_need (ws0 := ws0) (tb := tb) hws htb ext I158 J159 hI158 46 ⟨by omega, by omega⟩ (by omega) (by omega) (by omega) (by omega) (by omega)
        obtain ⟨I172, J173, rfl, hI172, g171, k171, ⟨z171, rfl, q171⟩⟩ := P171
        have FI172 := gr_frt FI158 g171 rfl rfl
        have FJ173 := gr_fjt FJ159 k171 rfl rfl
        have t174 := g171 0 69 rfl
        have t175 := g171 0 64 rfl
        have t176 := g171 0 122 rfl
        have t177 := g171 0 123 rfl
        have f178 := (show 0 ≤ I172 0 71 ∧ I172 0 71 ≤ 5 from (hI172 0 71).1)
        have f179 := (show 0 ≤ I172 0 72 ∧ I172 0 72 ≤ 1000 from (hI172 0 72).1)
        have f180 := (show 0 ≤ I172 0 73 ∧ I172 0 73 ≤ 1001 from (hI172 0 73).1)
        have f181 := (show 0 ≤ I172 0 69 ∧ I172 0 69 ≤ 1000 from (hI172 0 69).1)
        have f182 := (show 0 ≤ I172 0 64 ∧ I172 0 64 ≤ 2000 from (hI172 0 64).1)
        have f183 := (show 0 ≤ I172 0 122 ∧ I172 0 122 ≤ 47 from (hI172 0 122).1)
        have f184 := (show 0 ≤ I172 0 123 ∧ I172 0 123 ≤ 95 from (hI172 0 123).1)
        have KTM_I172 := gr_TM_fr KTM_I158 (fun k => g171 52 k rfl) (fun k => g171 53 k rfl) (fun k => g171 54 k rfl) (g171 0 64 rfl)
        refine gv_callV hD rfl (As := [.inl 46]) (st := []) rfl (by decide) rfl rfl (gr_lV hws rfl) (Nat.le_of_ble_eq_true rfl) (gz_Ev_mono (d := 11) (by omega) E171) ?_
        show gv_X _ _ (69, [(0, .inr (.inr (some 0))), (1, .inl a1)], [.inl z171], gr_sh ++ ext, gr_h I172 J173)
        refine gv_if_ne (t := 74) hD rfl rfl ⟨by omega, by omega⟩ (fun c185 => ?_) (fun c185 => ?_)
        · refine gv_run 4 true hD (pc' := 78) (lv' := [(0, .inr (.inr (some 0))), (1, .inl a1)]) (st' := [.inl (a1 + 1), .inr (.inr (some 0))]) (h' := gr_h I172 J173) (C := ((((True ∧ True) ∧ True) ∧ True) ∧ True)) rfl ⟨⟨⟨⟨trivial, trivial⟩, trivial⟩, trivial⟩, trivial⟩ ?_
          obtain ⟨r186, h186, E186, P186⟩ := ihR I172 J173 hI172 (a1 + 1) ⟨by omega, by omega⟩ (by omega) (by omega) (by omega) (by omega) (by omega) (by omega) (by omega) KTM_I172 (by omega)
          obtain ⟨I187, J188, rfl, hI187, g186, k186, KTM_I187, ⟨z186, rfl, q186⟩⟩ := P186
          have FI187 := gr_frt FI172 g186 rfl rfl
          have FJ188 := gr_fjt FJ173 k186 rfl rfl
          have t189 := g186 0 69 rfl
          have t190 := g186 0 123 rfl
          have f191 := (show 0 ≤ I187 0 71 ∧ I187 0 71 ≤ 5 from (hI187 0 71).1)
          have f192 := (show 0 ≤ I187 0 72 ∧ I187 0 72 ≤ 1000 from (hI187 0 72).1)
          have f193 := (show 0 ≤ I187 0 73 ∧ I187 0 73 ≤ 1001 from (hI187 0 73).1)
          have f194 := (show 0 ≤ I187 0 69 ∧ I187 0 69 ≤ 1000 from (hI187 0 69).1)
          have f195 := (show 0 ≤ I187 0 64 ∧ I187 0 64 ≤ 2000 from (hI187 0 64).1)
          have f196 := (show 0 ≤ I187 0 122 ∧ I187 0 122 ≤ 47 from (hI187 0 122).1)
          have f197 := (show 0 ≤ I187 0 123 ∧ I187 0 123 ≤ 95 from (hI187 0 123).1)
          refine gv_callV hD rfl (As := [.inl (a1 + 1)]) (st := []) rfl (by decide) rfl rfl (gr_lV hws rfl) (Nat.le_of_ble_eq_true rfl) (gz_Ev_mono (d := (14 + 2 * nr)) (by omega) E186) ?_
          show gv_X _ _ (81, [(0, .inr (.inr (some 0))), (1, .inl a1)], [.inl z186], gr_sh ++ ext, gr_h I187 J188)
          have f198 := (show 0 ≤ I187 0 122 ∧ I187 0 122 ≤ 47 from (hI187 0 122).1)
          refine gv_run 6 true hD (pc' := 89) (lv' := [(2, .inl z186), (0, .inr (.inr (some 0))), (1, .inl a1)]) (st' := [.inl ((I187 0 122) - 1), .inr (.inr (some 0))]) (h' := gr_h I187 J188) (C := ((((((True ∧ True) ∧ True) ∧ True) ∧ True) ∧ True) ∧ True)) rfl ⟨⟨⟨⟨⟨⟨trivial, trivial⟩, trivial⟩, trivial⟩, trivial⟩, trivial⟩, trivial⟩ ?_
          refine gv_run 1 true hD (pc' := 92) (lv' := [(2, .inl z186), (0, .inr (.inr (some 0))), (1, .inl a1)]) (st' := []) (h' := gz_up (gr_h I187 J188) 0 122 (.inl (((I187 0 122) - 1)))) (C := (True ∧ True)) rfl ⟨trivial, trivial⟩ ?_
          refine gr_st hI187 FI187 rfl rfl ⟨⟨by show 0 ≤ _; omega, by show _ ≤ 47; omega⟩, trivial⟩ (fun I199 hI199 FI199 q200 p200 => ?_)
          have t201 := p200 0 71 (by decide)
          have t202 := p200 0 72 (by decide)
          have t203 := p200 0 73 (by decide)
          have t204 := p200 0 69 (by decide)
          have t205 := p200 0 64 (by decide)
          have t206 := p200 0 123 (by decide)
          have f207 := (show 0 ≤ I199 0 71 ∧ I199 0 71 ≤ 5 from (hI199 0 71).1)
          have f208 := (show 0 ≤ I199 0 72 ∧ I199 0 72 ≤ 1000 from (hI199 0 72).1)
          have f209 := (show 0 ≤ I199 0 73 ∧ I199 0 73 ≤ 1001 from (hI199 0 73).1)
          have f210 := (show 0 ≤ I199 0 69 ∧ I199 0 69 ≤ 1000 from (hI199 0 69).1)
          have f211 := (show 0 ≤ I199 0 64 ∧ I199 0 64 ≤ 2000 from (hI199 0 64).1)
          have f212 := (show 0 ≤ I199 0 122 ∧ I199 0 122 ≤ 47 from (hI199 0 122).1)
          have f213 := (show 0 ≤ I199 0 123 ∧ I199 0 123 ≤ 95 from (hI199 0 123).1)
          have KTM_I199 := gr_TM_fr KTM_I187 (fun k => p200 52 k (fun q => absurd q.1 (by decide))) (fun k => p200 53 k (fun q => absurd q.1 (by decide))) (fun k => p200 54 k (fun q => absurd q.1 (by decide))) (p200 0 64 (by decide))
          refine gv_run 1 true hD (pc' := 93) (lv' := [(2, .inl z186), (0, .inr (.inr (some 0))), (1, .inl a1)]) (st' := [.inl z186]) (h' := gr_h I199 J188) (C := (True ∧ True)) rfl ⟨trivial, trivial⟩ ?_
          refine gv_if_ge (t := 100) hD rfl rfl ⟨by omega, by omega⟩ (fun c214 => ?_) (fun c214 => ?_)
          · refine gv_run 5 true hD (pc' := 105) (lv' := [(2, .inl z186), (0, .inr (.inr (some 0))), (1, .inl a1)]) (st' := [.inr (.inl (Int64.ofNat 0)), .inl 0, .inl z186, .inl 0, .inr (.inr (some 0))]) (h' := gr_h I199 J188) (C := (((((True ∧ True) ∧ True) ∧ True) ∧ True) ∧ True)) rfl ⟨⟨⟨⟨⟨trivial, trivial⟩, trivial⟩, trivial⟩, trivial⟩, trivial⟩ ?_
            obtain ⟨r215, h215, E215, P215⟩ := r_node (ws0 := ws0) (tb := tb) hws htb ext I199 J188 hI199 0 z186 0 (Int64.ofNat 0) ⟨by omega, by omega⟩ ⟨by omega, by omega⟩ ⟨by omega, by omega⟩ (by omega) (by omega) (by omega) KTM_I199
            obtain ⟨I216, J217, rfl, hI216, g215, k215, KTM_I216, ⟨z215, rfl, q215⟩⟩ := P215
            have FI216 := gr_frt FI199 g215 rfl rfl
            have FJ217 := gr_fjt FJ188 k215 rfl rfl
            have t218 := g215 0 71 rfl
            have t219 := g215 0 72 rfl
            have t220 := g215 0 73 rfl
            have t221 := g215 0 69 rfl
            have t222 := g215 0 122 rfl
            have t223 := g215 0 123 rfl
            have f224 := (show 0 ≤ I216 0 71 ∧ I216 0 71 ≤ 5 from (hI216 0 71).1)
            have f225 := (show 0 ≤ I216 0 72 ∧ I216 0 72 ≤ 1000 from (hI216 0 72).1)
            have f226 := (show 0 ≤ I216 0 73 ∧ I216 0 73 ≤ 1001 from (hI216 0 73).1)
            have f227 := (show 0 ≤ I216 0 69 ∧ I216 0 69 ≤ 1000 from (hI216 0 69).1)
            have f228 := (show 0 ≤ I216 0 64 ∧ I216 0 64 ≤ 2000 from (hI216 0 64).1)
            have f229 := (show 0 ≤ I216 0 122 ∧ I216 0 122 ≤ 47 from (hI216 0 122).1)
            have f230 := (show 0 ≤ I216 0 123 ∧ I216 0 123 ≤ 95 from (hI216 0 123).1)
            refine gv_callV hD rfl (As := [.inl 0, .inl z186, .inl 0, .inr (.inl (Int64.ofNat 0))]) (st := []) rfl (by decide) rfl rfl (gr_lV hws rfl) (Nat.le_of_ble_eq_true rfl) (gz_Ev_mono (d := 1) (by omega) E215) ?_
            show gv_X _ _ (108, [(2, .inl z186), (0, .inr (.inr (some 0))), (1, .inl a1)], [.inl z215], gr_sh ++ ext, gr_h I216 J217)
            refine gv_pick [] rfl ?_
            exact L108 I216 J217 z215 hI216 FI216 FJ217 KTM_I216 (by omega)
          · refine gv_run 2 true hD (pc' := 108) (lv' := [(2, .inl z186), (0, .inr (.inr (some 0))), (1, .inl a1)]) (st' := [.inl (-1)]) (h' := gr_h I199 J188) (C := ((True ∧ True) ∧ True)) rfl ⟨⟨trivial, trivial⟩, trivial⟩ ?_
            refine gv_pick [] rfl ?_
            exact L108 I199 J188 (-1) hI199 FI199 FJ188 KTM_I199 (by omega)
        · refine gv_run 1 true hD (pc' := 73) (lv' := [(0, .inr (.inr (some 0))), (1, .inl a1)]) (st' := [.inl (-1)]) (h' := gr_h I172 J173) (C := (True ∧ True)) rfl ⟨trivial, trivial⟩ ?_
          exact gv_iret hD rfl ⟨I172, J173, rfl, hI172, FI172, FJ173, KTM_I172, ⟨_, rfl, by omega⟩⟩
      · refine gv_run 2 true hD (pc' := 35) (lv' := [(0, .inr (.inr (some 0))), (1, .inl a1)]) (st' := [.inl 1, .inr (.inr (some 0))]) (h' := gr_h I125 J126) (C := ((True ∧ True) ∧ True)) rfl ⟨⟨trivial, trivial⟩, trivial⟩ ?_
        obtain ⟨r231, h231, E231, P231⟩ := r_none (ws0 := ws0) (tb := tb) hws htb ext I125 J126 hI125 1 ⟨by omega, by omega⟩ 
        obtain ⟨I232, J233, rfl, hI232, g231, k231, ⟨z231, rfl, q231⟩⟩ := P231
        have FI232 := gr_frt FI125 g231 rfl rfl
        have FJ233 := gr_fjt FJ126 k231 rfl rfl
        have t234 := g231 0 71 rfl
        have t235 := g231 0 72 rfl
        have t236 := g231 0 73 rfl
        have t237 := g231 0 69 rfl
        have t238 := g231 0 64 rfl
        have t239 := g231 0 122 rfl
        have t240 := g231 0 123 rfl
        have f241 := (show 0 ≤ I232 0 71 ∧ I232 0 71 ≤ 5 from (hI232 0 71).1)
        have f242 := (show 0 ≤ I232 0 72 ∧ I232 0 72 ≤ 1000 from (hI232 0 72).1)
        have f243 := (show 0 ≤ I232 0 73 ∧ I232 0 73 ≤ 1001 from (hI232 0 73).1)
        have f244 := (show 0 ≤ I232 0 69 ∧ I232 0 69 ≤ 1000 from (hI232 0 69).1)
        have f245 := (show 0 ≤ I232 0 64 ∧ I232 0 64 ≤ 2000 from (hI232 0 64).1)
        have f246 := (show 0 ≤ I232 0 122 ∧ I232 0 122 ≤ 47 from (hI232 0 122).1)
        have f247 := (show 0 ≤ I232 0 123 ∧ I232 0 123 ≤ 95 from (hI232 0 123).1)
        have KTM_I232 := gr_TM_fr KTM_I125 (fun k => g231 52 k rfl) (fun k => g231 53 k rfl) (fun k => g231 54 k rfl) (g231 0 64 rfl)
        refine gv_callV hD rfl (As := [.inl 1]) (st := []) rfl (by decide) rfl rfl (gr_lV hws rfl) (Nat.le_of_ble_eq_true rfl) (gz_Ev_mono (d := 3) (by omega) E231) ?_
        show gv_X _ _ (38, [(0, .inr (.inr (some 0))), (1, .inl a1)], [.inl z231], gr_sh ++ ext, gr_h I232 J233)
        exact gv_iret hD rfl ⟨I232, J233, rfl, hI232, FI232, FJ233, KTM_I232, ⟨_, rfl, by omega⟩⟩
  · refine gv_run 2 true hD (pc' := 8) (lv' := [(0, .inr (.inr (some 0))), (1, .inl a1)]) (st' := [.inl 5, .inr (.inr (some 0))]) (h' := gr_h I J) (C := ((True ∧ True) ∧ True)) rfl ⟨⟨trivial, trivial⟩, trivial⟩ ?_
    obtain ⟨r248, h248, E248, P248⟩ := r_none (ws0 := ws0) (tb := tb) hws htb ext I J hI 5 ⟨by omega, by omega⟩ 
    obtain ⟨I249, J250, rfl, hI249, g248, k248, ⟨z248, rfl, q248⟩⟩ := P248
    have FI249 := gr_frt FI g248 rfl rfl
    have FJ250 := gr_fjt FJ k248 rfl rfl
    have t251 := g248 0 71 rfl
    have t252 := g248 0 72 rfl
    have t253 := g248 0 73 rfl
    have t254 := g248 0 69 rfl
    have t255 := g248 0 64 rfl
    have t256 := g248 0 122 rfl
    have t257 := g248 0 123 rfl
    have f258 := (show 0 ≤ I249 0 71 ∧ I249 0 71 ≤ 5 from (hI249 0 71).1)
    have f259 := (show 0 ≤ I249 0 72 ∧ I249 0 72 ≤ 1000 from (hI249 0 72).1)
    have f260 := (show 0 ≤ I249 0 73 ∧ I249 0 73 ≤ 1001 from (hI249 0 73).1)
    have f261 := (show 0 ≤ I249 0 69 ∧ I249 0 69 ≤ 1000 from (hI249 0 69).1)
    have f262 := (show 0 ≤ I249 0 64 ∧ I249 0 64 ≤ 2000 from (hI249 0 64).1)
    have f263 := (show 0 ≤ I249 0 122 ∧ I249 0 122 ≤ 47 from (hI249 0 122).1)
    have f264 := (show 0 ≤ I249 0 123 ∧ I249 0 123 ≤ 95 from (hI249 0 123).1)
    have KTM_I249 := gr_TM_fr KTM_I (fun k => g248 52 k rfl) (fun k => g248 53 k rfl) (fun k => g248 54 k rfl) (g248 0 64 rfl)
    refine gv_callV hD rfl (As := [.inl 5]) (st := []) rfl (by decide) rfl rfl (gr_lV hws rfl) (Nat.le_of_ble_eq_true rfl) (gz_Ev_mono (d := 3) (by omega) E248) ?_
    show gv_X _ _ (11, [(0, .inr (.inr (some 0))), (1, .inl a1)], [.inl z248], gr_sh ++ ext, gr_h I249 J250)
    exact gv_iret hD rfl ⟨I249, J250, rfl, hI249, FI249, FJ250, KTM_I249, ⟨_, rfl, by omega⟩⟩
