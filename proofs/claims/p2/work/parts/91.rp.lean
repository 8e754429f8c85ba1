set_option maxHeartbeats 4000000 in
set_option maxRecDepth 100000 in
theorem r_atom {ws0 : List Cond} {tb : String → gz_T} (hws : ∀ w ∈ gr_ws, w ∈ ws0) (htb : tb RX13 = gr_T) (ext : gz_Sh) (nr : Nat) (ihR : ∀ (I : gr_I) (J : gr_J) (hI : gr_Inv I) (a1 : Int) (ha1 : 1 ≤ a1 ∧ a1 ≤ 41) (x0 : I 0 71 = 5 ∨ I 0 73 ≤ I 0 69) (x1 : I 0 72 ≤ I 0 69) (x2 : I 0 71 = 0 ∨ (I 0 72 < I 0 73 ∧ I 0 72 < I 0 69)) (x3 : I 0 71 = 3 → 2 ≤ I 0 73 - I 0 72 ∧ I 0 73 - I 0 72 ≤ 14) (x4 : I 0 72 ≤ I 0 73) (x5 : I 0 64 + I 0 69 - I 0 72 ≤ 1900) (x6 : I 0 122 ≤ a1) (KTM_I : gr_TM I) (_ : (42 - a1).toNat < nr), ∃ r h', gz_Ev ws0 tb (14 + 2 * nr) (yX13_term, cX13_term, 4, (some .int)) [.inr (.inr (some 0)), .inl a1] (gr_sh ++ ext) (gr_h I J) r (gr_sh ++ ext) h' 0 0 ∧ (∃ (I' : gr_I) (J' : gr_J), h' = gr_h I' J' ∧ gr_Inv I' ∧ gr_fr [64, 71, 72, 73, 74, 75, 76, 77, 122] [52, 53, 54, 55, 75] I I' ∧ gr_fj [64, 71, 72, 73, 74, 75, 76, 77, 122] [52, 53, 54, 55, 75] J J' ∧ gr_TM I' ∧ (∃ z : Int, r = some (.inl z) ∧ (-1) ≤ z ∧ z ≤ 1999 ∧ (I' 0 71 = 5 ∨ I' 0 73 ≤ I' 0 69) ∧ (I' 0 72 ≤ I' 0 69) ∧ (I' 0 71 = 0 ∨ (I' 0 72 < I' 0 73 ∧ I' 0 72 < I' 0 69)) ∧ (I' 0 71 = 3 → 2 ≤ I' 0 73 - I' 0 72 ∧ I' 0 73 - I' 0 72 ≤ 14) ∧ (I' 0 72 ≤ I' 0 73) ∧ (I' 0 69 = I 0 69) ∧ (I 0 73 ≤ I' 0 73) ∧ (I 0 72 ≤ I' 0 72) ∧ (I 0 64 ≤ I' 0 64) ∧ (I' 0 64 - I' 0 72 ≤ I 0 64 - I 0 72) ∧ (I 0 122 ≤ I' 0 122) ∧ (z < 0 ∨ I' 0 122 = I 0 122) ∧ (z < I' 0 64) ∧ (z < 0 ∨ I 0 72 < I' 0 72)))) (I : gr_I) (J : gr_J) (hI : gr_Inv I) (a1 : Int) (ha1 : 1 ≤ a1 ∧ a1 ≤ 40) (x0 : I 0 71 = 5 ∨ I 0 73 ≤ I 0 69) (x1 : I 0 72 ≤ I 0 69) (x2 : I 0 71 = 0 ∨ (I 0 72 < I 0 73 ∧ I 0 72 < I 0 69)) (x3 : I 0 71 = 3 → 2 ≤ I 0 73 - I 0 72 ∧ I 0 73 - I 0 72 ≤ 14) (x4 : I 0 72 ≤ I 0 73) (x5 : I 0 64 + I 0 69 - I 0 72 ≤ 1900) (x6 : I 0 122 ≤ a1) (KTM_I : gr_TM I) (hnr : (41 - a1).toNat < nr) : ∃ r h', gz_Ev ws0 tb (14 + 2 * nr + 1) (yX13_atom, cX13_atom, 4, (some .int)) [.inr (.inr (some 0)), .inl a1] (gr_sh ++ ext) (gr_h I J) r (gr_sh ++ ext) h' 0 0 ∧ (∃ (I' : gr_I) (J' : gr_J), h' = gr_h I' J' ∧ gr_Inv I' ∧ gr_fr [64, 71, 72, 73, 74, 75, 76, 77, 122] [52, 53, 54, 55, 75] I I' ∧ gr_fj [64, 71, 72, 73, 74, 75, 76, 77, 122] [52, 53, 54, 55, 75] J J' ∧ gr_TM I' ∧ (∃ z : Int, r = some (.inl z) ∧ (-1) ≤ z ∧ z ≤ 1999 ∧ (I' 0 71 = 5 ∨ I' 0 73 ≤ I' 0 69) ∧ (I' 0 72 ≤ I' 0 69) ∧ (I' 0 71 = 0 ∨ (I' 0 72 < I' 0 73 ∧ I' 0 72 < I' 0 69)) ∧ (I' 0 71 = 3 → 2 ≤ I' 0 73 - I' 0 72 ∧ I' 0 73 - I' 0 72 ≤ 14) ∧ (I' 0 72 ≤ I' 0 73) ∧ (I' 0 69 = I 0 69) ∧ (I 0 73 ≤ I' 0 73) ∧ (I 0 72 ≤ I' 0 72) ∧ (I 0 64 ≤ I' 0 64) ∧ (I' 0 64 - I' 0 72 ≤ I 0 64 - I 0 72) ∧ (I 0 122 ≤ I' 0 122) ∧ (z < 0 ∨ I' 0 122 = I 0 122) ∧ (z < I' 0 64) ∧ (z < 0 ∨ I 0 72 < I' 0 72))) := by
  have FI : gr_fr [64, 71, 72, 73, 74, 75, 76, 77, 122] [52, 53, 54, 55, 75] I I := fun _ _ _ => rfl
  have FJ : gr_fj [64, 71, 72, 73, 74, 75, 76, 77, 122] [52, 53, 54, 55, 75] J J := fun _ _ _ => rfl
  have hD : gv_D (gr_E ws0 tb (14 + 2 * nr) (yX13_atom, cX13_atom, 4, (some .int)) kX13_atom) := gq_ok oX13_atom
  refine gr_ev (d := (14 + 2 * nr)) (l := kX13_atom) (Po := fun r h' => (∃ (I' : gr_I) (J' : gr_J), h' = gr_h I' J' ∧ gr_Inv I' ∧ gr_fr [64, 71, 72, 73, 74, 75, 76, 77, 122] [52, 53, 54, 55, 75] I I' ∧ gr_fj [64, 71, 72, 73, 74, 75, 76, 77, 122] [52, 53, 54, 55, 75] J J' ∧ gr_TM I' ∧ (∃ z : Int, r = some (.inl z) ∧ (-1) ≤ z ∧ z ≤ 1999 ∧ (I' 0 71 = 5 ∨ I' 0 73 ≤ I' 0 69) ∧ (I' 0 72 ≤ I' 0 69) ∧ (I' 0 71 = 0 ∨ (I' 0 72 < I' 0 73 ∧ I' 0 72 < I' 0 69)) ∧ (I' 0 71 = 3 → 2 ≤ I' 0 73 - I' 0 72 ∧ I' 0 73 - I' 0 72 ≤ 14) ∧ (I' 0 72 ≤ I' 0 73) ∧ (I' 0 69 = I 0 69) ∧ (I 0 73 ≤ I' 0 73) ∧ (I 0 72 ≤ I' 0 72) ∧ (I 0 64 ≤ I' 0 64) ∧ (I' 0 64 - I' 0 72 ≤ I 0 64 - I 0 72) ∧ (I 0 122 ≤ I' 0 122) ∧ (z < 0 ∨ I' 0 122 = I 0 122) ∧ (z < I' 0 64) ∧ (z < 0 ∨ I 0 72 < I' 0 72)))) htb rfl (Nat.le_of_ble_eq_true rfl) ?_
  have f1 := (show 0 ≤ I 0 71 ∧ I 0 71 ≤ 5 from (hI 0 71).1)
  have f2 := (show 0 ≤ I 0 72 ∧ I 0 72 ≤ 1000 from (hI 0 72).1)
  have f3 := (show 0 ≤ I 0 73 ∧ I 0 73 ≤ 1001 from (hI 0 73).1)
  have f4 := (show 0 ≤ I 0 69 ∧ I 0 69 ≤ 1000 from (hI 0 69).1)
  have f5 := (show 0 ≤ I 0 64 ∧ I 0 64 ≤ 2000 from (hI 0 64).1)
  have f6 := (show 0 ≤ I 0 122 ∧ I 0 122 ≤ 47 from (hI 0 122).1)
  have f7 := (show 0 ≤ I 0 123 ∧ I 0 123 ≤ 95 from (hI 0 123).1)
  have L15 : ∀ (n : Nat) (v2_8 : Int), (v2_8 - (-2)).toNat < n → (((-1) ≤ v2_8 ∧ v2_8 ≤ 46) ∧ (v2_8 < I 0 122) ∧ (I 0 71 = 1) ∧ (I 0 71 = 5 ∨ I 0 73 ≤ I 0 69) ∧ (I 0 72 ≤ I 0 69) ∧ (I 0 71 = 0 ∨ (I 0 72 < I 0 73 ∧ I 0 72 < I 0 69)) ∧ (I 0 71 = 3 → 2 ≤ I 0 73 - I 0 72 ∧ I 0 73 - I 0 72 ≤ 14) ∧ (I 0 72 ≤ I 0 73) ∧ (I 0 69 = I 0 69) ∧ (I 0 73 ≤ I 0 73) ∧ (I 0 72 ≤ I 0 72)) → gv_X (gr_E ws0 tb (14 + 2 * nr) (yX13_atom, cX13_atom, 4, (some .int)) kX13_atom) (gv_Q cX13_atom (some .int) (gr_sh ++ ext) (fun r h' => (∃ (I' : gr_I) (J' : gr_J), h' = gr_h I' J' ∧ gr_Inv I' ∧ gr_fr [64, 71, 72, 73, 74, 75, 76, 77, 122] [52, 53, 54, 55, 75] I I' ∧ gr_fj [64, 71, 72, 73, 74, 75, 76, 77, 122] [52, 53, 54, 55, 75] J J' ∧ gr_TM I' ∧ (∃ z : Int, r = some (.inl z) ∧ (-1) ≤ z ∧ z ≤ 1999 ∧ (I' 0 71 = 5 ∨ I' 0 73 ≤ I' 0 69) ∧ (I' 0 72 ≤ I' 0 69) ∧ (I' 0 71 = 0 ∨ (I' 0 72 < I' 0 73 ∧ I' 0 72 < I' 0 69)) ∧ (I' 0 71 = 3 → 2 ≤ I' 0 73 - I' 0 72 ∧ I' 0 73 - I' 0 72 ≤ 14) ∧ (I' 0 72 ≤ I' 0 73) ∧ (I' 0 69 = I 0 69) ∧ (I 0 73 ≤ I' 0 73) ∧ (I 0 72 ≤ I' 0 72) ∧ (I 0 64 ≤ I' 0 64) ∧ (I' 0 64 - I' 0 72 ≤ I 0 64 - I 0 72) ∧ (I 0 122 ≤ I' 0 122) ∧ (z < 0 ∨ I' 0 122 = I 0 122) ∧ (z < I' 0 64) ∧ (z < 0 ∨ I 0 72 < I' 0 72))))) (15, [(0, .inr (.inr (some 0))), (2, .inl v2_8)], [], gr_sh ++ ext, gr_h I J) := by
    intro n
    induction n with
    | zero => intro v2_8 hn; omega
    | succ n ih15 =>
      intro v2_8 hn m_8
      obtain ⟨hv2_8, e0_8, e1_8, e2_8, e3_8, e4_8, e5_8, e6_8, e7_8, e8_8, e9_8⟩ := m_8
      have f9 := (show 0 ≤ I 0 71 ∧ I 0 71 ≤ 5 from (hI 0 71).1)
      have f10 := (show 0 ≤ I 0 72 ∧ I 0 72 ≤ 1000 from (hI 0 72).1)
      have f11 := (show 0 ≤ I 0 73 ∧ I 0 73 ≤ 1001 from (hI 0 73).1)
      have f12 := (show 0 ≤ I 0 69 ∧ I 0 69 ≤ 1000 from (hI 0 69).1)
      have f13 := (show 0 ≤ I 0 64 ∧ I 0 64 ≤ 2000 from (hI 0 64).1)
      have f14 := (show 0 ≤ I 0 122 ∧ I 0 122 ≤ 47 from (hI 0 122).1)
      have f15 := (show 0 ≤ I 0 123 ∧ I 0 123 ≤ 95 from (hI 0 123).1)
      have L39 : (((-1) ≤ v2_8 ∧ v2_8 ≤ 46) ∧ (v2_8 < I 0 122) ∧ (I 0 71 = 1) ∧ (I 0 71 = 5 ∨ I 0 73 ≤ I 0 69) ∧ (I 0 72 ≤ I 0 69) ∧ (I 0 71 = 0 ∨ (I 0 72 < I 0 73 ∧ I 0 72 < I 0 69)) ∧ (I 0 71 = 3 → 2 ≤ I 0 73 - I 0 72 ∧ I 0 73 - I 0 72 ≤ 14) ∧ (I 0 72 ≤ I 0 73) ∧ (I 0 69 = I 0 69) ∧ (I 0 73 ≤ I 0 73) ∧ (I 0 72 ≤ I 0 72)) → gv_X (gr_E ws0 tb (14 + 2 * nr) (yX13_atom, cX13_atom, 4, (some .int)) kX13_atom) (gv_Q cX13_atom (some .int) (gr_sh ++ ext) (fun r h' => (∃ (I' : gr_I) (J' : gr_J), h' = gr_h I' J' ∧ gr_Inv I' ∧ gr_fr [64, 71, 72, 73, 74, 75, 76, 77, 122] [52, 53, 54, 55, 75] I I' ∧ gr_fj [64, 71, 72, 73, 74, 75, 76, 77, 122] [52, 53, 54, 55, 75] J J' ∧ gr_TM I' ∧ (∃ z : Int, r = some (.inl z) ∧ (-1) ≤ z ∧ z ≤ 1999 ∧ (I' 0 71 = 5 ∨ I' 0 73 ≤ I' 0 69) ∧ (I' 0 72 ≤ I' 0 69) ∧ (I' 0 71 = 0 ∨ (I' 0 72 < I' 0 73 ∧ I' 0 72 < I' 0 69)) ∧ (I' 0 71 = 3 → 2 ≤ I' 0 73 - I' 0 72 ∧ I' 0 73 - I' 0 72 ≤ 14) ∧ (I' 0 72 ≤ I' 0 73) ∧ (I' 0 69 = I 0 69) ∧ (I 0 73 ≤ I' 0 73) ∧ (I 0 72 ≤ I' 0 72) ∧ (I 0 64 ≤ I' 0 64) ∧ (I' 0 64 - I' 0 72 ≤ I 0 64 - I 0 72) ∧ (I 0 122 ≤ I' 0 122) ∧ (z < 0 ∨ I' 0 122 = I 0 122) ∧ (z < I' 0 64) ∧ (z < 0 ∨ I 0 72 < I' 0 72))))) (39, [(0, .inr (.inr (some 0))), (2, .inl v2_8)], [], gr_sh ++ ext, gr_h I J) := by
        intro m_16
        obtain ⟨hv2_8_16, e0_16, e1_16, e2_16, e3_16, e4_16, e5_16, e6_16, e7_16, e8_16, e9_16⟩ := m_16
        have f17 := (show 0 ≤ I 0 71 ∧ I 0 71 ≤ 5 from (hI 0 71).1)
        have f18 := (show 0 ≤ I 0 72 ∧ I 0 72 ≤ 1000 from (hI 0 72).1)
        have f19 := (show 0 ≤ I 0 73 ∧ I 0 73 ≤ 1001 from (hI 0 73).1)
        have f20 := (show 0 ≤ I 0 69 ∧ I 0 69 ≤ 1000 from (hI 0 69).1)
        have f21 := (show 0 ≤ I 0 64 ∧ I 0 64 ≤ 2000 from (hI 0 64).1)
        have f22 := (show 0 ≤ I 0 122 ∧ I 0 122 ≤ 47 from (hI 0 122).1)
        have f23 := (show 0 ≤ I 0 123 ∧ I 0 123 ≤ 95 from (hI 0 123).1)
        have L72 : ∀ (I24 : gr_I) (J25 : gr_J) (s0_26 : Int), gr_Inv I24 → gr_fr [64, 71, 72, 73, 74, 75, 76, 77, 122] [52, 53, 54, 55, 75] I I24 → gr_fj [64, 71, 72, 73, 74, 75, 76, 77, 122] [52, 53, 54, 55, 75] J J25 → gr_TM I24 → ((0 ≤ s0_26 ∧ s0_26 ≤ 1999) ∧ (I24 0 64 = I 0 64 + 1) ∧ (I24 0 72 = I 0 72) ∧ (I24 0 73 = I 0 73) ∧ (s0_26 = I 0 64) ∧ (I24 0 71 = 1) ∧ (I24 0 122 = I 0 122) ∧ (I24 0 71 = 5 ∨ I24 0 73 ≤ I24 0 69) ∧ (I24 0 72 ≤ I24 0 69) ∧ (I24 0 71 = 0 ∨ (I24 0 72 < I24 0 73 ∧ I24 0 72 < I24 0 69)) ∧ (I24 0 71 = 3 → 2 ≤ I24 0 73 - I24 0 72 ∧ I24 0 73 - I24 0 72 ≤ 14) ∧ (I24 0 72 ≤ I24 0 73) ∧ (I24 0 69 = I 0 69) ∧ (I 0 73 ≤ I24 0 73) ∧ (I 0 72 ≤ I24 0 72)) → gv_X (gr_E ws0 tb (14 + 2 * nr) (yX13_atom, cX13_atom, 4, (some .int)) kX13_atom) (gv_Q cX13_atom (some .int) (gr_sh ++ ext) (fun r h' => (∃ (I' : gr_I) (J' : gr_J), h' = gr_h I' J' ∧ gr_Inv I' ∧ gr_fr [64, 71, 72, 73, 74, 75, 76, 77, 122] [52, 53, 54, 55, 75] I I' ∧ gr_fj [64, 71, 72, 73, 74, 75, 76, 77, 122] [52, 53, 54, 55, 75] J J' ∧ gr_TM I' ∧ (∃ z : Int, r = some (.inl z) ∧ (-1) ≤ z ∧ z ≤ 1999 ∧ (I' 0 71 = 5 ∨ I' 0 73 ≤ I' 0 69) ∧ (I' 0 72 ≤ I' 0 69) ∧ (I' 0 71 = 0 ∨ (I' 0 72 < I' 0 73 ∧ I' 0 72 < I' 0 69)) ∧ (I' 0 71 = 3 → 2 ≤ I' 0 73 - I' 0 72 ∧ I' 0 73 - I' 0 72 ≤ 14) ∧ (I' 0 72 ≤ I' 0 73) ∧ (I' 0 69 = I 0 69) ∧ (I 0 73 ≤ I' 0 73) ∧ (I 0 72 ≤ I' 0 72) ∧ (I 0 64 ≤ I' 0 64) ∧ (I' 0 64 - I' 0 72 ≤ I 0 64 - I 0 72) ∧ (I 0 122 ≤ I' 0 122) ∧ (z < 0 ∨ I' 0 122 = I 0 122) ∧ (z < I' 0 64) ∧ (z < 0 ∨ I 0 72 < I' 0 72))))) (72, [(0, .inr (.inr (some 0)))], [.inl s0_26], gr_sh ++ ext, gr_h I24 J25) := by
          intro I24 J25 s0_26 hI24 FI24 FJ25 KTM_I24 m_26
          clear hv2_8_16 e0_16 e1_16 e2_16 e3_16 e4_16 e5_16 e6_16 e7_16 e8_16 e9_16 f17 f18 f19 f20 f21 f22 f23 hv2_8 e0_8 e1_8 e2_8 e3_8 e4_8 e5_8 e6_8 e7_8 e8_8 e9_8 f9 f10 f11 f12 f13 f14 f15
          obtain ⟨hs0_26, e0_26, e1_26, e2_26, e3_26, e4_26, e5_26, e6_26, e7_26, e8_26, e9_26, e10_26, e11_26, e12_26, e13_26⟩ := m_26
          have f27 := (show 0 ≤ I24 0 71 ∧ I24 0 71 ≤ 5 from (hI24 0 71).1)
          have f28 := (show 0 ≤ I24 0 72 ∧ I24 0 72 ≤ 1000 from (hI24 0 72).1)
          have f29 := (show 0 ≤ I24 0 73 ∧ I24 0 73 ≤ 1001 from (hI24 0 73).1)
          have f30 := (show 0 ≤ I24 0 69 ∧ I24 0 69 ≤ 1000 from (hI24 0 69).1)
          have f31 := (show 0 ≤ I24 0 64 ∧ I24 0 64 ≤ 2000 from (hI24 0 64).1)
          have f32 := (show 0 ≤ I24 0 122 ∧ I24 0 122 ≤ 47 from (hI24 0 122).1)
          have f33 := (show 0 ≤ I24 0 123 ∧ I24 0 123 ≤ 95 from (hI24 0 123).1)
          refine gv_run 2 true hD (pc' := 74) (lv' := [(3, .inl s0_26), (0, .inr (.inr (some 0)))]) (st' := [.inr (.inr (some 0))]) (h' := gr_h I24 J25) (C := ((True ∧ True) ∧ True)) rfl ⟨⟨trivial, trivial⟩, trivial⟩ ?_
          obtain ⟨r34, h34, E34, P34⟩ := r_next (ws0 := ws0) (tb := tb) hws htb ext I24 J25 hI24   (by omega)
          obtain ⟨I35, J36, rfl, hI35, g34, k34, ⟨rfl, q34⟩⟩ := P34
          have FI35 := gr_frt FI24 g34 rfl rfl
          have FJ36 := gr_fjt FJ25 k34 rfl rfl
          have t37 := g34 0 69 rfl
          have t38 := g34 0 64 rfl
          have t39 := g34 0 122 rfl
          have t40 := g34 0 123 rfl
          have f41 := (show 0 ≤ I35 0 71 ∧ I35 0 71 ≤ 5 from (hI35 0 71).1)
          have f42 := (show 0 ≤ I35 0 72 ∧ I35 0 72 ≤ 1000 from (hI35 0 72).1)
          have f43 := (show 0 ≤ I35 0 73 ∧ I35 0 73 ≤ 1001 from (hI35 0 73).1)
          have f44 := (show 0 ≤ I35 0 69 ∧ I35 0 69 ≤ 1000 from (hI35 0 69).1)
          have f45 := (show 0 ≤ I35 0 64 ∧ I35 0 64 ≤ 2000 from (hI35 0 64).1)
          have f46 := (show 0 ≤ I35 0 122 ∧ I35 0 122 ≤ 47 from (hI35 0 122).1)
          have f47 := (show 0 ≤ I35 0 123 ∧ I35 0 123 ≤ 95 from (hI35 0 123).1)
          have KTM_I35 := gr_TM_fr KTM_I24 (fun k => g34 52 k rfl) (fun k => g34 53 k rfl) (fun k => g34 54 k rfl) (g34 0 64 rfl)
          refine gv_callV hD rfl (As := []) (st := []) rfl (by decide) rfl rfl (gr_lV hws rfl) (Nat.le_of_ble_eq_true rfl) (gz_Ev_mono (d := 10) (by omega) E34) ?_
          show gv_X _ _ (77, [(3, .inl s0_26), (0, .inr (.inr (some 0)))], [], gr_sh ++ ext, gr_h I35 J36)
          refine gv_run 1 true hD (pc' := 78) (lv' := [(3, .inl s0_26), (0, .inr (.inr (some 0)))]) (st' := [.inl s0_26]) (h' := gr_h I35 J36) (C := (True ∧ True)) rfl ⟨trivial, trivial⟩ ?_
          exact gv_iret hD rfl ⟨I35, J36, rfl, hI35, FI35, FJ36, KTM_I35, ⟨_, rfl, by omega⟩⟩
        refine gv_run 1 true hD (pc' := 40) (lv' := [(0, .inr (.inr (some 0))), (2, .inl v2_8)]) (st' := [.inl v2_8]) (h' := gr_h I J) (C := (True ∧ True)) rfl ⟨trivial, trivial⟩ ?_
        refine gv_if_ge (t := 57) hD rfl rfl ⟨by omega, by omega⟩ (fun c48 => ?_) (fun c48 => ?_)
        · have f49 := (show 0 ≤ I 0 122 ∧ I 0 122 ≤ 47 from (hI 0 122).1)
          refine gv_run 7 true hD (pc' := 66) (lv' := [(0, .inr (.inr (some 0))), (2, .inl v2_8)]) (st' := [.inl v2_8, .inl ((I 0 122) - 1), .inl 1, .inr (.inr (some 0))]) (h' := gr_h I J) (C := (((((((True ∧ True) ∧ True) ∧ True) ∧ True) ∧ True) ∧ True) ∧ True)) rfl ⟨⟨⟨⟨⟨⟨⟨trivial, trivial⟩, trivial⟩, trivial⟩, trivial⟩, trivial⟩, trivial⟩, trivial⟩ ?_
          refine gv_run 3 true hD (pc' := 69) (lv' := [(0, .inr (.inr (some 0))), (2, .inl v2_8)]) (st' := [.inr (.inl (Int64.ofNat 0)), .inl 0, .inl (((I 0 122) - 1) - v2_8), .inl 1, .inr (.inr (some 0))]) (h' := gr_h I J) (C := (((True ∧ True) ∧ True) ∧ True)) rfl ⟨⟨⟨trivial, trivial⟩, trivial⟩, trivial⟩ ?_
          obtain ⟨r50, h50, E50, P50⟩ := r_node (ws0 := ws0) (tb := tb) hws htb ext I J hI 1 ((((I 0 122) - 1) - v2_8)) 0 (Int64.ofNat 0) ⟨by omega, by omega⟩ ⟨by omega, by omega⟩ ⟨by omega, by omega⟩ (by omega) (by omega) (by omega) KTM_I
          obtain ⟨I51, J52, rfl, hI51, g50, k50, KTM_I51, ⟨z50, rfl, q50⟩⟩ := P50
          have FI51 := gr_frt FI g50 rfl rfl
          have FJ52 := gr_fjt FJ k50 rfl rfl
          have t53 := g50 0 71 rfl
          have t54 := g50 0 72 rfl
          have t55 := g50 0 73 rfl
          have t56 := g50 0 69 rfl
          have t57 := g50 0 122 rfl
          have t58 := g50 0 123 rfl
          have f59 := (show 0 ≤ I51 0 71 ∧ I51 0 71 ≤ 5 from (hI51 0 71).1)
          have f60 := (show 0 ≤ I51 0 72 ∧ I51 0 72 ≤ 1000 from (hI51 0 72).1)
          have f61 := (show 0 ≤ I51 0 73 ∧ I51 0 73 ≤ 1001 from (hI51 0 73).1)
          have f62 := (show 0 ≤ I51 0 69 ∧ I51 0 69 ≤ 1000 from (hI51 0 69).1)
          have f63 := (show 0 ≤ I51 0 64 ∧ I51 0 64 ≤ 2000 from (hI51 0 64).1)
          have f64 := (show 0 ≤ I51 0 122 ∧ I51 0 122 ≤ 47 from (hI51 0 122).1)
          have f65 := (show 0 ≤ I51 0 123 ∧ I51 0 123 ≤ 95 from (hI51 0 123).1)
          refine gv_callV hD rfl (As := [.inl 1, .inl (((I 0 122) - 1) - v2_8), .inl 0, .inr (.inl (Int64.ofNat 0))]) (st := []) rfl (by decide) rfl rfl (gr_lV hws rfl) (Nat.le_of_ble_eq_true rfl) (gz_Ev_mono (d := 1) (by omega) E50) ?_
          show gv_X _ _ (72, [(0, .inr (.inr (some 0))), (2, .inl v2_8)], [.inl z50], gr_sh ++ ext, gr_h I51 J52)
          refine gv_pick [0] rfl ?_
          exact L72 I51 J52 z50 hI51 FI51 FJ52 KTM_I51 (by omega)
        · refine gv_run 6 true hD (pc' := 51) (lv' := [(0, .inr (.inr (some 0))), (2, .inl v2_8)]) (st' := [.inr (.inl (J 0 75)), .inl 0, .inl 0, .inl 2, .inr (.inr (some 0))]) (h' := gr_h I J) (C := ((((((True ∧ True) ∧ True) ∧ True) ∧ True) ∧ True) ∧ True)) rfl ⟨⟨⟨⟨⟨⟨trivial, trivial⟩, trivial⟩, trivial⟩, trivial⟩, trivial⟩, trivial⟩ ?_
          obtain ⟨r66, h66, E66, P66⟩ := r_node (ws0 := ws0) (tb := tb) hws htb ext I J hI 2 0 0 (J 0 75) ⟨by omega, by omega⟩ ⟨by omega, by omega⟩ ⟨by omega, by omega⟩ (by omega) (by omega) (by omega) KTM_I
          obtain ⟨I67, J68, rfl, hI67, g66, k66, KTM_I67, ⟨z66, rfl, q66⟩⟩ := P66
          have FI67 := gr_frt FI g66 rfl rfl
          have FJ68 := gr_fjt FJ k66 rfl rfl
          have t69 := g66 0 71 rfl
          have t70 := g66 0 72 rfl
          have t71 := g66 0 73 rfl
          have t72 := g66 0 69 rfl
          have t73 := g66 0 122 rfl
          have t74 := g66 0 123 rfl
          have f75 := (show 0 ≤ I67 0 71 ∧ I67 0 71 ≤ 5 from (hI67 0 71).1)
          have f76 := (show 0 ≤ I67 0 72 ∧ I67 0 72 ≤ 1000 from (hI67 0 72).1)
          have f77 := (show 0 ≤ I67 0 73 ∧ I67 0 73 ≤ 1001 from (hI67 0 73).1)
          have f78 := (show 0 ≤ I67 0 69 ∧ I67 0 69 ≤ 1000 from (hI67 0 69).1)
          have f79 := (show 0 ≤ I67 0 64 ∧ I67 0 64 ≤ 2000 from (hI67 0 64).1)
          have f80 := (show 0 ≤ I67 0 122 ∧ I67 0 122 ≤ 47 from (hI67 0 122).1)
          have f81 := (show 0 ≤ I67 0 123 ∧ I67 0 123 ≤ 95 from (hI67 0 123).1)
          refine gv_callV hD rfl (As := [.inl 2, .inl 0, .inl 0, .inr (.inl (J 0 75))]) (st := []) rfl (by decide) rfl rfl (gr_lV hws rfl) (Nat.le_of_ble_eq_true rfl) (gz_Ev_mono (d := 1) (by omega) E66) ?_
          show gv_X _ _ (54, [(0, .inr (.inr (some 0))), (2, .inl v2_8)], [.inl z66], gr_sh ++ ext, gr_h I67 J68)
          refine gv_run 1 true hD (pc' := 72) (lv' := [(0, .inr (.inr (some 0))), (2, .inl v2_8)]) (st' := [.inl z66]) (h' := gr_h I67 J68) (C := (True ∧ True)) rfl ⟨trivial, trivial⟩ ?_
          refine gv_pick [0] rfl ?_
          exact L72 I67 J68 z66 hI67 FI67 FJ68 KTM_I67 (by omega)
      refine gv_run 1 true hD (pc' := 16) (lv' := [(0, .inr (.inr (some 0))), (2, .inl v2_8)]) (st' := [.inl v2_8]) (h' := gr_h I J) (C := (True ∧ True)) rfl ⟨trivial, trivial⟩ ?_
      refine gv_if_lt (t := 39) hD rfl rfl ⟨by omega, by omega⟩ (fun c82 => ?_) (fun c82 => ?_)
      · exact L39 (by omega)
      · refine gv_run 4 true hD (pc' := 25) (lv' := [(0, .inr (.inr (some 0))), (2, .inl v2_8)]) (st' := [.inr (.inl (J 75 (Int.toNat v2_8)))]) (h' := gr_h I J) (C := ((((True ∧ True) ∧ True) ∧ True) ∧ (0 ≤ v2_8 ∧ v2_8 < ((48 : Nat) : Int)))) rfl ⟨⟨⟨⟨trivial, trivial⟩, trivial⟩, trivial⟩, ⟨by omega, by omega⟩⟩ ?_
        have f83 := gw_cmp ((J 75 (Int.toNat v2_8))) ((J 0 75))
        refine gv_run 3 true hD (pc' := 30) (lv' := [(0, .inr (.inr (some 0))), (2, .inl v2_8)]) (st' := [.inl ((lg_cmp ((J 75 (Int.toNat v2_8))) ((J 0 75))).toInt)]) (h' := gr_h I J) (C := (((True ∧ True) ∧ True) ∧ True)) rfl ⟨⟨⟨trivial, trivial⟩, trivial⟩, trivial⟩ ?_
        refine gv_if_eq (t := 39) hD rfl rfl ⟨by omega, by omega⟩ (fun c84 => ?_) (fun c84 => ?_)
        · exact L39 (by omega)
        · refine gv_run 2 true hD (pc' := 15) (lv' := [(2, .inl (v2_8 + (-1))), (0, .inr (.inr (some 0)))]) (st' := []) (h' := gr_h I J) (C := ((True ∧ True) ∧ True)) rfl ⟨⟨trivial, trivial⟩, trivial⟩ ?_
          refine gv_pick [1, 0] rfl ?_
          exact ih15 ((v2_8 + (-1))) (by omega) (by omega)
  have L79 : ((1 ≤ a1 ∧ a1 ≤ 40) ∧ (I 0 71 = 5 ∨ I 0 73 ≤ I 0 69) ∧ (I 0 72 ≤ I 0 69) ∧ (I 0 71 = 0 ∨ (I 0 72 < I 0 73 ∧ I 0 72 < I 0 69)) ∧ (I 0 71 = 3 → 2 ≤ I 0 73 - I 0 72 ∧ I 0 73 - I 0 72 ≤ 14) ∧ (I 0 72 ≤ I 0 73) ∧ (I 0 69 = I 0 69) ∧ (I 0 73 ≤ I 0 73) ∧ (I 0 72 ≤ I 0 72)) → gv_X (gr_E ws0 tb (14 + 2 * nr) (yX13_atom, cX13_atom, 4, (some .int)) kX13_atom) (gv_Q cX13_atom (some .int) (gr_sh ++ ext) (fun r h' => (∃ (I' : gr_I) (J' : gr_J), h' = gr_h I' J' ∧ gr_Inv I' ∧ gr_fr [64, 71, 72, 73, 74, 75, 76, 77, 122] [52, 53, 54, 55, 75] I I' ∧ gr_fj [64, 71, 72, 73, 74, 75, 76, 77, 122] [52, 53, 54, 55, 75] J J' ∧ gr_TM I' ∧ (∃ z : Int, r = some (.inl z) ∧ (-1) ≤ z ∧ z ≤ 1999 ∧ (I' 0 71 = 5 ∨ I' 0 73 ≤ I' 0 69) ∧ (I' 0 72 ≤ I' 0 69) ∧ (I' 0 71 = 0 ∨ (I' 0 72 < I' 0 73 ∧ I' 0 72 < I' 0 69)) ∧ (I' 0 71 = 3 → 2 ≤ I' 0 73 - I' 0 72 ∧ I' 0 73 - I' 0 72 ≤ 14) ∧ (I' 0 72 ≤ I' 0 73) ∧ (I' 0 69 = I 0 69) ∧ (I 0 73 ≤ I' 0 73) ∧ (I 0 72 ≤ I' 0 72) ∧ (I 0 64 ≤ I' 0 64) ∧ (I' 0 64 - I' 0 72 ≤ I 0 64 - I 0 72) ∧ (I 0 122 ≤ I' 0 122) ∧ (z < 0 ∨ I' 0 122 = I 0 122) ∧ (z < I' 0 64) ∧ (z < 0 ∨ I 0 72 < I' 0 72))))) (79, [(0, .inr (.inr (some 0))), (1, .inl a1)], [], gr_sh ++ ext, gr_h I J) := by
    intro m_85
    obtain ⟨ha1_85, e0_85, e1_85, e2_85, e3_85, e4_85, e5_85, e6_85, e7_85⟩ := m_85
    have f86 := (show 0 ≤ I 0 71 ∧ I 0 71 ≤ 5 from (hI 0 71).1)
    have f87 := (show 0 ≤ I 0 72 ∧ I 0 72 ≤ 1000 from (hI 0 72).1)
    have f88 := (show 0 ≤ I 0 73 ∧ I 0 73 ≤ 1001 from (hI 0 73).1)
    have f89 := (show 0 ≤ I 0 69 ∧ I 0 69 ≤ 1000 from (hI 0 69).1)
    have f90 := (show 0 ≤ I 0 64 ∧ I 0 64 ≤ 2000 from (hI 0 64).1)
    have f91 := (show 0 ≤ I 0 122 ∧ I 0 122 ≤ 47 from (hI 0 122).1)
    have f92 := (show 0 ≤ I 0 123 ∧ I 0 123 ≤ 95 from (hI 0 123).1)
    have L111 : ((I 0 71 = 5 ∨ I 0 73 ≤ I 0 69) ∧ (I 0 72 ≤ I 0 69) ∧ (I 0 71 = 0 ∨ (I 0 72 < I 0 73 ∧ I 0 72 < I 0 69)) ∧ (I 0 71 = 3 → 2 ≤ I 0 73 - I 0 72 ∧ I 0 73 - I 0 72 ≤ 14) ∧ (I 0 72 ≤ I 0 73) ∧ (I 0 69 = I 0 69) ∧ (I 0 73 ≤ I 0 73) ∧ (I 0 72 ≤ I 0 72)) → gv_X (gr_E ws0 tb (14 + 2 * nr) (yX13_atom, cX13_atom, 4, (some .int)) kX13_atom) (gv_Q cX13_atom (some .int) (gr_sh ++ ext) (fun r h' => (∃ (I' : gr_I) (J' : gr_J), h' = gr_h I' J' ∧ gr_Inv I' ∧ gr_fr [64, 71, 72, 73, 74, 75, 76, 77, 122] [52, 53, 54, 55, 75] I I' ∧ gr_fj [64, 71, 72, 73, 74, 75, 76, 77, 122] [52, 53, 54, 55, 75] J J' ∧ gr_TM I' ∧ (∃ z : Int, r = some (.inl z) ∧ (-1) ≤ z ∧ z ≤ 1999 ∧ (I' 0 71 = 5 ∨ I' 0 73 ≤ I' 0 69) ∧ (I' 0 72 ≤ I' 0 69) ∧ (I' 0 71 = 0 ∨ (I' 0 72 < I' 0 73 ∧ I' 0 72 < I' 0 69)) ∧ (I' 0 71 = 3 → 2 ≤ I' 0 73 - I' 0 72 ∧ I' 0 73 - I' 0 72 ≤ 14) ∧ (I' 0 72 ≤ I' 0 73) ∧ (I' 0 69 = I 0 69) ∧ (I 0 73 ≤ I' 0 73) ∧ (I 0 72 ≤ I' 0 72) ∧ (I 0 64 ≤ I' 0 64) ∧ (I' 0 64 - I' 0 72 ≤ I 0 64 - I 0 72) ∧ (I 0 122 ≤ I' 0 122) ∧ (z < 0 ∨ I' 0 122 = I 0 122) ∧ (z < I' 0 64) ∧ (z < 0 ∨ I 0 72 < I' 0 72))))) (111, [(0, .inr (.inr (some 0)))], [], gr_sh ++ ext, gr_h I J) := by
      intro m_93
      obtain ⟨e0_93, e1_93, e2_93, e3_93, e4_93, e5_93, e6_93, e7_93⟩ := m_93
      have f94 := (show 0 ≤ I 0 71 ∧ I 0 71 ≤ 5 from (hI 0 71).1)
      have f95 := (show 0 ≤ I 0 72 ∧ I 0 72 ≤ 1000 from (hI 0 72).1)
      have f96 := (show 0 ≤ I 0 73 ∧ I 0 73 ≤ 1001 from (hI 0 73).1)
      have f97 := (show 0 ≤ I 0 69 ∧ I 0 69 ≤ 1000 from (hI 0 69).1)
      have f98 := (show 0 ≤ I 0 64 ∧ I 0 64 ≤ 2000 from (hI 0 64).1)
      have f99 := (show 0 ≤ I 0 122 ∧ I 0 122 ≤ 47 from (hI 0 122).1)
      have f100 := (show 0 ≤ I 0 123 ∧ I 0 123 ≤ 95 from (hI 0 123).1)
      refine gv_run 2 true hD (pc' := 113) (lv' := [(0, .inr (.inr (some 0)))]) (st' := [.inl 5, .inr (.inr (some 0))]) (h' := gr_h I J) (C := ((True ∧ True) ∧ True)) rfl ⟨⟨trivial, trivial⟩, trivial⟩ ?_
      obtain ⟨r101, h101, E101, P101⟩ := r_none (ws0 := ws0) (tb := tb) hws htb ext I J hI 5 ⟨by omega, by omega⟩ 
      obtain ⟨I102, J103, rfl, hI102, g101, k101, ⟨z101, rfl, q101⟩⟩ := P101
      have FI102 := gr_frt FI g101 rfl rfl
      have FJ103 := gr_fjt FJ k101 rfl rfl
      have t104 := g101 0 71 rfl
      have t105 := g101 0 72 rfl
      have t106 := g101 0 73 rfl
      have t107 := g101 0 69 rfl
      have t108 := g101 0 64 rfl
      have t109 := g101 0 122 rfl
      have t110 := g101 0 123 rfl
      have f111 := (show 0 ≤ I102 0 71 ∧ I102 0 71 ≤ 5 from (hI102 0 71).1)
      have f112 := (show 0 ≤ I102 0 72 ∧ I102 0 72 ≤ 1000 from (hI102 0 72).1)
      have f113 := (show 0 ≤ I102 0 73 ∧ I102 0 73 ≤ 1001 from (hI102 0 73).1)
      have f114 := (show 0 ≤ I102 0 69 ∧ I102 0 69 ≤ 1000 from (hI102 0 69).1)
      have f115 := (show 0 ≤ I102 0 64 ∧ I102 0 64 ≤ 2000 from (hI102 0 64).1)
      have f116 := (show 0 ≤ I102 0 122 ∧ I102 0 122 ≤ 47 from (hI102 0 122).1)
      have f117 := (show 0 ≤ I102 0 123 ∧ I102 0 123 ≤ 95 from (hI102 0 123).1)
      have KTM_I102 := gr_TM_fr KTM_I (fun k => g101 52 k rfl) (fun k => g101 53 k rfl) (fun k => g101 54 k rfl) (g101 0 64 rfl)
      refine gv_callV hD rfl (As := [.inl 5]) (st := []) rfl (by decide) rfl rfl (gr_lV hws rfl) (Nat.le_of_ble_eq_true rfl) (gz_Ev_mono (d := 3) (by omega) E101) ?_
      show gv_X _ _ (116, [(0, .inr (.inr (some 0)))], [.inl z101], gr_sh ++ ext, gr_h I102 J103)
      exact gv_iret hD rfl ⟨I102, J103, rfl, hI102, FI102, FJ103, KTM_I102, ⟨_, rfl, by omega⟩⟩
    have L117 : ((I 0 71 = 2) ∧ (1 ≤ I 0 74 ∧ I 0 74 ≤ 4) ∧ (I 0 71 = 5 ∨ I 0 73 ≤ I 0 69) ∧ (I 0 72 ≤ I 0 69) ∧ (I 0 71 = 0 ∨ (I 0 72 < I 0 73 ∧ I 0 72 < I 0 69)) ∧ (I 0 71 = 3 → 2 ≤ I 0 73 - I 0 72 ∧ I 0 73 - I 0 72 ≤ 14) ∧ (I 0 72 ≤ I 0 73) ∧ (I 0 69 = I 0 69) ∧ (I 0 73 ≤ I 0 73) ∧ (I 0 72 ≤ I 0 72)) → gv_X (gr_E ws0 tb (14 + 2 * nr) (yX13_atom, cX13_atom, 4, (some .int)) kX13_atom) (gv_Q cX13_atom (some .int) (gr_sh ++ ext) (fun r h' => (∃ (I' : gr_I) (J' : gr_J), h' = gr_h I' J' ∧ gr_Inv I' ∧ gr_fr [64, 71, 72, 73, 74, 75, 76, 77, 122] [52, 53, 54, 55, 75] I I' ∧ gr_fj [64, 71, 72, 73, 74, 75, 76, 77, 122] [52, 53, 54, 55, 75] J J' ∧ gr_TM I' ∧ (∃ z : Int, r = some (.inl z) ∧ (-1) ≤ z ∧ z ≤ 1999 ∧ (I' 0 71 = 5 ∨ I' 0 73 ≤ I' 0 69) ∧ (I' 0 72 ≤ I' 0 69) ∧ (I' 0 71 = 0 ∨ (I' 0 72 < I' 0 73 ∧ I' 0 72 < I' 0 69)) ∧ (I' 0 71 = 3 → 2 ≤ I' 0 73 - I' 0 72 ∧ I' 0 73 - I' 0 72 ≤ 14) ∧ (I' 0 72 ≤ I' 0 73) ∧ (I' 0 69 = I 0 69) ∧ (I 0 73 ≤ I' 0 73) ∧ (I 0 72 ≤ I' 0 72) ∧ (I 0 64 ≤ I' 0 64) ∧ (I' 0 64 - I' 0 72 ≤ I 0 64 - I 0 72) ∧ (I 0 122 ≤ I' 0 122) ∧ (z < 0 ∨ I' 0 122 = I 0 122) ∧ (z < I' 0 64) ∧ (z < 0 ∨ I 0 72 < I' 0 72))))) (117, [(0, .inr (.inr (some 0)))], [], gr_sh ++ ext, gr_h I J) := by
      intro m_118
      obtain ⟨e0_118, e1_118, e2_118, e3_118, e4_118, e5_118, e6_118, e7_118, e8_118, e9_118⟩ := m_118
      have f119 := (show 0 ≤ I 0 71 ∧ I 0 71 ≤ 5 from (hI 0 71).1)
      have f120 := (show 0 ≤ I 0 72 ∧ I 0 72 ≤ 1000 from (hI 0 72).1)
      have f121 := (show 0 ≤ I 0 73 ∧ I 0 73 ≤ 1001 from (hI 0 73).1)
      have f122 := (show 0 ≤ I 0 69 ∧ I 0 69 ≤ 1000 from (hI 0 69).1)
      have f123 := (show 0 ≤ I 0 64 ∧ I 0 64 ≤ 2000 from (hI 0 64).1)
      have f124 := (show 0 ≤ I 0 122 ∧ I 0 122 ≤ 47 from (hI 0 122).1)
      have f125 := (show 0 ≤ I 0 123 ∧ I 0 123 ≤ 95 from (hI 0 123).1)
      have f126 := (show 0 ≤ I 0 74 ∧ I 0 74 ≤ 999999 from (hI 0 74).1)
      refine gv_run 7 true hD (pc' := 126) (lv' := [(0, .inr (.inr (some 0)))]) (st' := [.inl 0, .inl ((I 0 74) - 1), .inl 3, .inr (.inr (some 0))]) (h' := gr_h I J) (C := (((((((True ∧ True) ∧ True) ∧ True) ∧ True) ∧ True) ∧ True) ∧ True)) rfl ⟨⟨⟨⟨⟨⟨⟨trivial, trivial⟩, trivial⟩, trivial⟩, trivial⟩, trivial⟩, trivial⟩, trivial⟩ ?_
      refine gv_run 1 true hD (pc' := 127) (lv' := [(0, .inr (.inr (some 0)))]) (st' := [.inr (.inl (Int64.ofNat 0)), .inl 0, .inl ((I 0 74) - 1), .inl 3, .inr (.inr (some 0))]) (h' := gr_h I J) (C := (True ∧ True)) rfl ⟨trivial, trivial⟩ ?_
      obtain ⟨r127, h127, E127, P127⟩ := r_node (ws0 := ws0) (tb := tb) hws htb ext I J hI 3 (((I 0 74) - 1)) 0 (Int64.ofNat 0) ⟨by omega, by omega⟩ ⟨by omega, by omega⟩ ⟨by omega, by omega⟩ (by omega) (by omega) (by omega) KTM_I
      obtain ⟨I128, J129, rfl, hI128, g127, k127, KTM_I128, ⟨z127, rfl, q127⟩⟩ := P127
      have FI128 := gr_frt FI g127 rfl rfl
      have FJ129 := gr_fjt FJ k127 rfl rfl
      have t130 := g127 0 71 rfl
      have t131 := g127 0 72 rfl
      have t132 := g127 0 73 rfl
      have t133 := g127 0 69 rfl
      have t134 := g127 0 122 rfl
      have t135 := g127 0 123 rfl
      have f136 := (show 0 ≤ I128 0 71 ∧ I128 0 71 ≤ 5 from (hI128 0 71).1)
      have f137 := (show 0 ≤ I128 0 72 ∧ I128 0 72 ≤ 1000 from (hI128 0 72).1)
      have f138 := (show 0 ≤ I128 0 73 ∧ I128 0 73 ≤ 1001 from (hI128 0 73).1)
      have f139 := (show 0 ≤ I128 0 69 ∧ I128 0 69 ≤ 1000 from (hI128 0 69).1)
      have f140 := (show 0 ≤ I128 0 64 ∧ I128 0 64 ≤ 2000 from (hI128 0 64).1)
      have f141 := (show 0 ≤ I128 0 122 ∧ I128 0 122 ≤ 47 from (hI128 0 122).1)
      have f142 := (show 0 ≤ I128 0 123 ∧ I128 0 123 ≤ 95 from (hI128 0 123).1)
      refine gv_callV hD rfl (As := [.inl 3, .inl ((I 0 74) - 1), .inl 0, .inr (.inl (Int64.ofNat 0))]) (st := []) rfl (by decide) rfl rfl (gr_lV hws rfl) (Nat.le_of_ble_eq_true rfl) (gz_Ev_mono (d := 1) (by omega) E127) ?_
      show gv_X _ _ (130, [(0, .inr (.inr (some 0)))], [.inl z127], gr_sh ++ ext, gr_h I128 J129)
      refine gv_run 2 true hD (pc' := 132) (lv' := [(2, .inl z127), (0, .inr (.inr (some 0)))]) (st' := [.inr (.inr (some 0))]) (h' := gr_h I128 J129) (C := ((True ∧ True) ∧ True)) rfl ⟨⟨trivial, trivial⟩, trivial⟩ ?_
      obtain ⟨r143, h143, E143, P143⟩ := r_next (ws0 := ws0) (tb := tb) hws htb ext I128 J129 hI128   (by omega)
      obtain ⟨I144, J145, rfl, hI144, g143, k143, ⟨rfl, q143⟩⟩ := P143
      have FI144 := gr_frt FI128 g143 rfl rfl
      have FJ145 := gr_fjt FJ129 k143 rfl rfl
      have t146 := g143 0 69 rfl
      have t147 := g143 0 64 rfl
      have t148 := g143 0 122 rfl
      have t149 := g143 0 123 rfl
      have f150 := (show 0 ≤ I144 0 71 ∧ I144 0 71 ≤ 5 from (hI144 0 71).1)
      have f151 := (show 0 ≤ I144 0 72 ∧ I144 0 72 ≤ 1000 from (hI144 0 72).1)
      have f152 := (show 0 ≤ I144 0 73 ∧ I144 0 73 ≤ 1001 from (hI144 0 73).1)
      have f153 := (show 0 ≤ I144 0 69 ∧ I144 0 69 ≤ 1000 from (hI144 0 69).1)
      have f154 := (show 0 ≤ I144 0 64 ∧ I144 0 64 ≤ 2000 from (hI144 0 64).1)
      have f155 := (show 0 ≤ I144 0 122 ∧ I144 0 122 ≤ 47 from (hI144 0 122).1)
      have f156 := (show 0 ≤ I144 0 123 ∧ I144 0 123 ≤ 95 from (hI144 0 123).1)
      have KTM_I144 := gr_TM_fr KTM_I128 (fun k => g143 52 k rfl) (fun k => g143 53 k rfl) (fun k => g143 54 k rfl) (g143 0 64 rfl)
      refine gv_callV hD rfl (As := []) (st := []) rfl (by decide) rfl rfl (gr_lV hws rfl) (Nat.le_of_ble_eq_true rfl) (gz_Ev_mono (d := 10) (by omega) E143) ?_
      show gv_X _ _ (135, [(2, .inl z127), (0, .inr (.inr (some 0)))], [], gr_sh ++ ext, gr_h I144 J145)
      refine gv_run 1 true hD (pc' := 136) (lv' := [(2, .inl z127), (0, .inr (.inr (some 0)))]) (st' := [.inl z127]) (h' := gr_h I144 J145) (C := (True ∧ True)) rfl ⟨trivial, trivial⟩ ?_
      exact gv_iret hD rfl ⟨I144, J145, rfl, hI144, FI144, FJ145, KTM_I144, ⟨_, rfl, by omega⟩⟩
    have L137 : ((1 ≤ a1 ∧ a1 ≤ 40) ∧ (I 0 71 = 5 ∨ I 0 73 ≤ I 0 69) ∧ (I 0 72 ≤ I 0 69) ∧ (I 0 71 = 0 ∨ (I 0 72 < I 0 73 ∧ I 0 72 < I 0 69)) ∧ (I 0 71 = 3 → 2 ≤ I 0 73 - I 0 72 ∧ I 0 73 - I 0 72 ≤ 14) ∧ (I 0 72 ≤ I 0 73) ∧ (I 0 69 = I 0 69) ∧ (I 0 73 ≤ I 0 73) ∧ (I 0 72 ≤ I 0 72)) → gv_X (gr_E ws0 tb (14 + 2 * nr) (yX13_atom, cX13_atom, 4, (some .int)) kX13_atom) (gv_Q cX13_atom (some .int) (gr_sh ++ ext) (fun r h' => (∃ (I' : gr_I) (J' : gr_J), h' = gr_h I' J' ∧ gr_Inv I' ∧ gr_fr [64, 71, 72, 73, 74, 75, 76, 77, 122] [52, 53, 54, 55, 75] I I' ∧ gr_fj [64, 71, 72, 73, 74, 75, 76, 77, 122] [52, 53, 54, 55, 75] J J' ∧ gr_TM I' ∧ (∃ z : Int, r = some (.inl z) ∧ (-1) ≤ z ∧ z ≤ 1999 ∧ (I' 0 71 = 5 ∨ I' 0 73 ≤ I' 0 69) ∧ (I' 0 72 ≤ I' 0 69) ∧ (I' 0 71 = 0 ∨ (I' 0 72 < I' 0 73 ∧ I' 0 72 < I' 0 69)) ∧ (I' 0 71 = 3 → 2 ≤ I' 0 73 - I' 0 72 ∧ I' 0 73 - I' 0 72 ≤ 14) ∧ (I' 0 72 ≤ I' 0 73) ∧ (I' 0 69 = I 0 69) ∧ (I 0 73 ≤ I' 0 73) ∧ (I 0 72 ≤ I' 0 72) ∧ (I 0 64 ≤ I' 0 64) ∧ (I' 0 64 - I' 0 72 ≤ I 0 64 - I 0 72) ∧ (I 0 122 ≤ I' 0 122) ∧ (z < 0 ∨ I' 0 122 = I 0 122) ∧ (z < I' 0 64) ∧ (z < 0 ∨ I 0 72 < I' 0 72))))) (137, [(0, .inr (.inr (some 0))), (1, .inl a1)], [], gr_sh ++ ext, gr_h I J) := by
      intro m_157
      obtain ⟨ha1_157, e0_157, e1_157, e2_157, e3_157, e4_157, e5_157, e6_157, e7_157⟩ := m_157
      have f158 := (show 0 ≤ I 0 71 ∧ I 0 71 ≤ 5 from (hI 0 71).1)
      have f159 := (show 0 ≤ I 0 72 ∧ I 0 72 ≤ 1000 from (hI 0 72).1)
      have f160 := (show 0 ≤ I 0 73 ∧ I 0 73 ≤ 1001 from (hI 0 73).1)
      have f161 := (show 0 ≤ I 0 69 ∧ I 0 69 ≤ 1000 from (hI 0 69).1)
      have f162 := (show 0 ≤ I 0 64 ∧ I 0 64 ≤ 2000 from (hI 0 64).1)
      have f163 := (show 0 ≤ I 0 122 ∧ I 0 122 ≤ 47 from (hI 0 122).1)
      have f164 := (show 0 ≤ I 0 123 ∧ I 0 123 ≤ 95 from (hI 0 123).1)
      have L152 : ((1 ≤ a1 ∧ a1 ≤ 40) ∧ (I 0 71 = 4) ∧ (I 0 71 = 5 ∨ I 0 73 ≤ I 0 69) ∧ (I 0 72 ≤ I 0 69) ∧ (I 0 71 = 0 ∨ (I 0 72 < I 0 73 ∧ I 0 72 < I 0 69)) ∧ (I 0 71 = 3 → 2 ≤ I 0 73 - I 0 72 ∧ I 0 73 - I 0 72 ≤ 14) ∧ (I 0 72 ≤ I 0 73) ∧ (I 0 69 = I 0 69) ∧ (I 0 73 ≤ I 0 73) ∧ (I 0 72 ≤ I 0 72)) → gv_X (gr_E ws0 tb (14 + 2 * nr) (yX13_atom, cX13_atom, 4, (some .int)) kX13_atom) (gv_Q cX13_atom (some .int) (gr_sh ++ ext) (fun r h' => (∃ (I' : gr_I) (J' : gr_J), h' = gr_h I' J' ∧ gr_Inv I' ∧ gr_fr [64, 71, 72, 73, 74, 75, 76, 77, 122] [52, 53, 54, 55, 75] I I' ∧ gr_fj [64, 71, 72, 73, 74, 75, 76, 77, 122] [52, 53, 54, 55, 75] J J' ∧ gr_TM I' ∧ (∃ z : Int, r = some (.inl z) ∧ (-1) ≤ z ∧ z ≤ 1999 ∧ (I' 0 71 = 5 ∨ I' 0 73 ≤ I' 0 69) ∧ (I' 0 72 ≤ I' 0 69) ∧ (I' 0 71 = 0 ∨ (I' 0 72 < I' 0 73 ∧ I' 0 72 < I' 0 69)) ∧ (I' 0 71 = 3 → 2 ≤ I' 0 73 - I' 0 72 ∧ I' 0 73 - I' 0 72 ≤ 14) ∧ (I' 0 72 ≤ I' 0 73) ∧ (I' 0 69 = I 0 69) ∧ (I 0 73 ≤ I' 0 73) ∧ (I 0 72 ≤ I' 0 72) ∧ (I 0 64 ≤ I' 0 64) ∧ (I' 0 64 - I' 0 72 ≤ I 0 64 - I 0 72) ∧ (I 0 122 ≤ I' 0 122) ∧ (z < 0 ∨ I' 0 122 = I 0 122) ∧ (z < I' 0 64) ∧ (z < 0 ∨ I 0 72 < I' 0 72))))) (152, [(0, .inr (.inr (some 0))), (1, .inl a1)], [], gr_sh ++ ext, gr_h I J) := by
        intro m_165
        obtain ⟨ha1_165, e0_165, e1_165, e2_165, e3_165, e4_165, e5_165, e6_165, e7_165, e8_165⟩ := m_165
        have f166 := (show 0 ≤ I 0 71 ∧ I 0 71 ≤ 5 from (hI 0 71).1)
        have f167 := (show 0 ≤ I 0 72 ∧ I 0 72 ≤ 1000 from (hI 0 72).1)
        have f168 := (show 0 ≤ I 0 73 ∧ I 0 73 ≤ 1001 from (hI 0 73).1)
        have f169 := (show 0 ≤ I 0 69 ∧ I 0 69 ≤ 1000 from (hI 0 69).1)
        have f170 := (show 0 ≤ I 0 64 ∧ I 0 64 ≤ 2000 from (hI 0 64).1)
        have f171 := (show 0 ≤ I 0 122 ∧ I 0 122 ≤ 47 from (hI 0 122).1)
        have f172 := (show 0 ≤ I 0 123 ∧ I 0 123 ≤ 95 from (hI 0 123).1)
        have L182 : ∀ (I173 : gr_I) (J174 : gr_J) (s0_175 : Int), gr_Inv I173 → gr_fr [64, 71, 72, 73, 74, 75, 76, 77, 122] [52, 53, 54, 55, 75] I I173 → gr_fj [64, 71, 72, 73, 74, 75, 76, 77, 122] [52, 53, 54, 55, 75] J J174 → gr_TM I173 → (((-1) ≤ s0_175 ∧ s0_175 ≤ 1999) ∧ (I 0 64 ≤ I173 0 64) ∧ (s0_175 < I173 0 64) ∧ (I173 0 64 - I173 0 72 ≤ I 0 64 - I 0 72) ∧ (I 0 122 ≤ I173 0 122) ∧ (s0_175 < 0 ∨ I173 0 122 = I 0 122) ∧ (s0_175 < 0 ∨ I 0 72 < I173 0 72) ∧ (I173 0 71 = 5 ∨ I173 0 73 ≤ I173 0 69) ∧ (I173 0 72 ≤ I173 0 69) ∧ (I173 0 71 = 0 ∨ (I173 0 72 < I173 0 73 ∧ I173 0 72 < I173 0 69)) ∧ (I173 0 71 = 3 → 2 ≤ I173 0 73 - I173 0 72 ∧ I173 0 73 - I173 0 72 ≤ 14) ∧ (I173 0 72 ≤ I173 0 73) ∧ (I173 0 69 = I 0 69) ∧ (I 0 73 ≤ I173 0 73) ∧ (I 0 72 ≤ I173 0 72)) → gv_X (gr_E ws0 tb (14 + 2 * nr) (yX13_atom, cX13_atom, 4, (some .int)) kX13_atom) (gv_Q cX13_atom (some .int) (gr_sh ++ ext) (fun r h' => (∃ (I' : gr_I) (J' : gr_J), h' = gr_h I' J' ∧ gr_Inv I' ∧ gr_fr [64, 71, 72, 73, 74, 75, 76, 77, 122] [52, 53, 54, 55, 75] I I' ∧ gr_fj [64, 71, 72, 73, 74, 75, 76, 77, 122] [52, 53, 54, 55, 75] J J' ∧ gr_TM I' ∧ (∃ z : Int, r = some (.inl z) ∧ (-1) ≤ z ∧ z ≤ 1999 ∧ (I' 0 71 = 5 ∨ I' 0 73 ≤ I' 0 69) ∧ (I' 0 72 ≤ I' 0 69) ∧ (I' 0 71 = 0 ∨ (I' 0 72 < I' 0 73 ∧ I' 0 72 < I' 0 69)) ∧ (I' 0 71 = 3 → 2 ≤ I' 0 73 - I' 0 72 ∧ I' 0 73 - I' 0 72 ≤ 14) ∧ (I' 0 72 ≤ I' 0 73) ∧ (I' 0 69 = I 0 69) ∧ (I 0 73 ≤ I' 0 73) ∧ (I 0 72 ≤ I' 0 72) ∧ (I 0 64 ≤ I' 0 64) ∧ (I' 0 64 - I' 0 72 ≤ I 0 64 - I 0 72) ∧ (I 0 122 ≤ I' 0 122) ∧ (z < 0 ∨ I' 0 122 = I 0 122) ∧ (z < I' 0 64) ∧ (z < 0 ∨ I 0 72 < I' 0 72))))) (182, [], [.inl s0_175], gr_sh ++ ext, gr_h I173 J174) := by
          intro I173 J174 s0_175 hI173 FI173 FJ174 KTM_I173 m_175
          clear ha1_165 e0_165 e1_165 e2_165 e3_165 e4_165 e5_165 e6_165 e7_165 e8_165 f166 f167 f168 f169 f170 f171 f172 ha1_157 e0_157 e1_157 e2_157 e3_157 e4_157 e5_157 e6_157 e7_157 f158 f159 f160 f161 f162 f163 f164 ha1_85 e0_85 e1_85 e2_85 e3_85 e4_85 e5_85 e6_85 e7_85 f86 f87 f88 f89 f90 f91 f92
          obtain ⟨hs0_175, e0_175, e1_175, e2_175, e3_175, e4_175, e5_175, e6_175, e7_175, e8_175, e9_175, e10_175, e11_175, e12_175, e13_175⟩ := m_175
          have f176 := (show 0 ≤ I173 0 71 ∧ I173 0 71 ≤ 5 from (hI173 0 71).1)
          have f177 := (show 0 ≤ I173 0 72 ∧ I173 0 72 ≤ 1000 from (hI173 0 72).1)
          have f178 := (show 0 ≤ I173 0 73 ∧ I173 0 73 ≤ 1001 from (hI173 0 73).1)
          have f179 := (show 0 ≤ I173 0 69 ∧ I173 0 69 ≤ 1000 from (hI173 0 69).1)
          have f180 := (show 0 ≤ I173 0 64 ∧ I173 0 64 ≤ 2000 from (hI173 0 64).1)
          have f181 := (show 0 ≤ I173 0 122 ∧ I173 0 122 ≤ 47 from (hI173 0 122).1)
          have f182 := (show 0 ≤ I173 0 123 ∧ I173 0 123 ≤ 95 from (hI173 0 123).1)
          exact gv_iret hD rfl ⟨I173, J174, rfl, hI173, FI173, FJ174, KTM_I173, ⟨_, rfl, by omega⟩⟩
        have L177 : ∀ (I183 : gr_I) (J184 : gr_J) , gr_Inv I183 → gr_fr [64, 71, 72, 73, 74, 75, 76, 77, 122] [52, 53, 54, 55, 75] I I183 → gr_fj [64, 71, 72, 73, 74, 75, 76, 77, 122] [52, 53, 54, 55, 75] J J184 → gr_TM I183 → ((I 0 64 ≤ I183 0 64) ∧ (I183 0 64 - I183 0 72 ≤ I 0 64 - I 0 72) ∧ (I 0 122 ≤ I183 0 122) ∧ (I183 0 71 = 5 ∨ I183 0 73 ≤ I183 0 69) ∧ (I183 0 72 ≤ I183 0 69) ∧ (I183 0 71 = 0 ∨ (I183 0 72 < I183 0 73 ∧ I183 0 72 < I183 0 69)) ∧ (I183 0 71 = 3 → 2 ≤ I183 0 73 - I183 0 72 ∧ I183 0 73 - I183 0 72 ≤ 14) ∧ (I183 0 72 ≤ I183 0 73) ∧ (I183 0 69 = I 0 69) ∧ (I 0 73 ≤ I183 0 73) ∧ (I 0 72 ≤ I183 0 72)) → gv_X (gr_E ws0 tb (14 + 2 * nr) (yX13_atom, cX13_atom, 4, (some .int)) kX13_atom) (gv_Q cX13_atom (some .int) (gr_sh ++ ext) (fun r h' => (∃ (I' : gr_I) (J' : gr_J), h' = gr_h I' J' ∧ gr_Inv I' ∧ gr_fr [64, 71, 72, 73, 74, 75, 76, 77, 122] [52, 53, 54, 55, 75] I I' ∧ gr_fj [64, 71, 72, 73, 74, 75, 76, 77, 122] [52, 53, 54, 55, 75] J J' ∧ gr_TM I' ∧ (∃ z : Int, r = some (.inl z) ∧ (-1) ≤ z ∧ z ≤ 1999 ∧ (I' 0 71 = 5 ∨ I' 0 73 ≤ I' 0 69) ∧ (I' 0 72 ≤ I' 0 69) ∧ (I' 0 71 = 0 ∨ (I' 0 72 < I' 0 73 ∧ I' 0 72 < I' 0 69)) ∧ (I' 0 71 = 3 → 2 ≤ I' 0 73 - I' 0 72 ∧ I' 0 73 - I' 0 72 ≤ 14) ∧ (I' 0 72 ≤ I' 0 73) ∧ (I' 0 69 = I 0 69) ∧ (I 0 73 ≤ I' 0 73) ∧ (I 0 72 ≤ I' 0 72) ∧ (I 0 64 ≤ I' 0 64) ∧ (I' 0 64 - I' 0 72 ≤ I 0 64 - I 0 72) ∧ (I 0 122 ≤ I' 0 122) ∧ (z < 0 ∨ I' 0 122 = I 0 122) ∧ (z < I' 0 64) ∧ (z < 0 ∨ I 0 72 < I' 0 72))))) (177, [], [], gr_sh ++ ext, gr_h I183 J184) := by
          intro I183 J184 hI183 FI183 FJ184 KTM_I183 m_185
          clear ha1_165 e0_165 e1_165 e2_165 e3_165 e4_165 e5_165 e6_165 e7_165 e8_165 f166 f167 f168 f169 f170 f171 f172 ha1_157 e0_157 e1_157 e2_157 e3_157 e4_157 e5_157 e6_157 e7_157 f158 f159 f160 f161 f162 f163 f164 ha1_85 e0_85 e1_85 e2_85 e3_85 e4_85 e5_85 e6_85 e7_85 f86 f87 f88 f89 f90 f91 f92
          obtain ⟨e0_185, e1_185, e2_185, e3_185, e4_185, e5_185, e6_185, e7_185, e8_185, e9_185, e10_185⟩ := m_185
          have f186 := (show 0 ≤ I183 0 71 ∧ I183 0 71 ≤ 5 from (hI183 0 71).1)
          have f187 := (show 0 ≤ I183 0 72 ∧ I183 0 72 ≤ 1000 from (hI183 0 72).1)
          have f188 := (show 0 ≤ I183 0 73 ∧ I183 0 73 ≤ 1001 from (hI183 0 73).1)
          have f189 := (show 0 ≤ I183 0 69 ∧ I183 0 69 ≤ 1000 from (hI183 0 69).1)
          have f190 := (show 0 ≤ I183 0 64 ∧ I183 0 64 ≤ 2000 from (hI183 0 64).1)
          have f191 := (show 0 ≤ I183 0 122 ∧ I183 0 122 ≤ 47 from (hI183 0 122).1)
          have f192 := (show 0 ≤ I183 0 123 ∧ I183 0 123 ≤ 95 from (hI183 0 123).1)
          refine gv_run 2 true hD (pc' := 182) (lv' := []) (st' := [.inl (-1)]) (h' := gr_h I183 J184) (C := ((True ∧ True) ∧ True)) rfl ⟨⟨trivial, trivial⟩, trivial⟩ ?_
          exact L182 I183 J184 (-1) hI183 FI183 FJ184 KTM_I183 (by omega)
        refine gv_run 1 true hD (pc' := 153) (lv' := [(0, .inr (.inr (some 0))), (1, .inl a1)]) (st' := [.inr (.inr (some 0))]) (h' := gr_h I J) (C := (True ∧ True)) rfl ⟨trivial, trivial⟩ ?_
        obtain ⟨r193, h193, E193, P193⟩ := r_next (ws0 := ws0) (tb := tb) hws htb ext I J hI   (by omega)
        obtain ⟨I194, J195, rfl, hI194, g193, k193, ⟨rfl, q193⟩⟩ := P193
        have FI194 := gr_frt FI g193 rfl rfl
        have FJ195 := gr_fjt FJ k193 rfl rfl
        have t196 := g193 0 69 rfl
        have t197 := g193 0 64 rfl
        have t198 := g193 0 122 rfl
        have t199 := g193 0 123 rfl
        have f200 := (show 0 ≤ I194 0 71 ∧ I194 0 71 ≤ 5 from (hI194 0 71).1)
        have f201 := (show 0 ≤ I194 0 72 ∧ I194 0 72 ≤ 1000 from (hI194 0 72).1)
        have f202 := (show 0 ≤ I194 0 73 ∧ I194 0 73 ≤ 1001 from (hI194 0 73).1)
        have f203 := (show 0 ≤ I194 0 69 ∧ I194 0 69 ≤ 1000 from (hI194 0 69).1)
        have f204 := (show 0 ≤ I194 0 64 ∧ I194 0 64 ≤ 2000 from (hI194 0 64).1)
        have f205 := (show 0 ≤ I194 0 122 ∧ I194 0 122 ≤ 47 from (hI194 0 122).1)
        have f206 := (show 0 ≤ I194 0 123 ∧ I194 0 123 ≤ 95 from (hI194 0 123).1)
        have KTM_I194 := gr_TM_fr KTM_I (fun k => g193 52 k rfl) (fun k => g193 53 k rfl) (fun k => g193 54 k rfl) (g193 0 64 rfl)
        refine gv_callV hD rfl (As := []) (st := []) rfl (by decide) rfl rfl (gr_lV hws rfl) (Nat.le_of_ble_eq_true rfl) (gz_Ev_mono (d := 10) (by omega) E193) ?_
        show gv_X _ _ (156, [(0, .inr (.inr (some 0))), (1, .inl a1)], [], gr_sh ++ ext, gr_h I194 J195)
        refine gv_run 4 true hD (pc' := 160) (lv' := [(0, .inr (.inr (some 0))), (1, .inl a1)]) (st' := [.inl (a1 + 1), .inr (.inr (some 0))]) (h' := gr_h I194 J195) (C := ((((True ∧ True) ∧ True) ∧ True) ∧ True)) rfl ⟨⟨⟨⟨trivial, trivial⟩, trivial⟩, trivial⟩, trivial⟩ ?_
        obtain ⟨r207, h207, E207, P207⟩ := ihR I194 J195 hI194 (a1 + 1) ⟨by omega, by omega⟩ (by omega) (by omega) (by omega) (by omega) (by omega) (by omega) (by omega) KTM_I194 (by omega)
        obtain ⟨I208, J209, rfl, hI208, g207, k207, KTM_I208, ⟨z207, rfl, q207⟩⟩ := P207
        have FI208 := gr_frt FI194 g207 rfl rfl
        have FJ209 := gr_fjt FJ195 k207 rfl rfl
        have t210 := g207 0 69 rfl
        have t211 := g207 0 123 rfl
        have f212 := (show 0 ≤ I208 0 71 ∧ I208 0 71 ≤ 5 from (hI208 0 71).1)
        have f213 := (show 0 ≤ I208 0 72 ∧ I208 0 72 ≤ 1000 from (hI208 0 72).1)
        have f214 := (show 0 ≤ I208 0 73 ∧ I208 0 73 ≤ 1001 from (hI208 0 73).1)
        have f215 := (show 0 ≤ I208 0 69 ∧ I208 0 69 ≤ 1000 from (hI208 0 69).1)
        have f216 := (show 0 ≤ I208 0 64 ∧ I208 0 64 ≤ 2000 from (hI208 0 64).1)
        have f217 := (show 0 ≤ I208 0 122 ∧ I208 0 122 ≤ 47 from (hI208 0 122).1)
        have f218 := (show 0 ≤ I208 0 123 ∧ I208 0 123 ≤ 95 from (hI208 0 123).1)
        refine gv_callV hD rfl (As := [.inl (a1 + 1)]) (st := []) rfl (by decide) rfl rfl (gr_lV hws rfl) (Nat.le_of_ble_eq_true rfl) (gz_Ev_mono (d := (14 + 2 * nr)) (Nat.le_refl _) E207) ?_
        show gv_X _ _ (163, [(0, .inr (.inr (some 0))), (1, .inl a1)], [.inl z207], gr_sh ++ ext, gr_h I208 J209)
        refine gv_run 2 true hD (pc' := 165) (lv' := [(2, .inl z207), (0, .inr (.inr (some 0))), (1, .inl a1)]) (st' := [.inl z207]) (h' := gr_h I208 J209) (C := ((True ∧ True) ∧ True)) rfl ⟨⟨trivial, trivial⟩, trivial⟩ ?_
        refine gv_if_lt (t := 177) hD rfl rfl ⟨by omega, by omega⟩ (fun c219 => ?_) (fun c219 => ?_)
        · refine gv_pick [] rfl ?_
          exact L177 I208 J209 hI208 FI208 FJ209 KTM_I208 (by omega)
        · refine gv_run 2 true hD (pc' := 171) (lv' := [(2, .inl z207), (0, .inr (.inr (some 0))), (1, .inl a1)]) (st' := [.inl 41, .inr (.inr (some 0))]) (h' := gr_h I208 J209) (C := ((True ∧ True) ∧ True)) rfl ⟨⟨trivial, trivial⟩, trivial⟩ ?_
          obtain ⟨r220, h220, E220, P220⟩ := r_need (ws0 := ws0) (tb := tb) hws htb ext I208 J209 hI208 41 ⟨by omega, by omega⟩ (by omega) (by omega) (by omega) (by omega) (by omega)
          obtain ⟨I221, J222, rfl, hI221, g220, k220, ⟨z220, rfl, q220⟩⟩ := P220
          have FI221 := gr_frt FI208 g220 rfl rfl
          have FJ222 := gr_fjt FJ209 k220 rfl rfl
          have t223 := g220 0 69 rfl
          have t224 := g220 0 64 rfl
          have t225 := g220 0 122 rfl
          have t226 := g220 0 123 rfl
          have f227 := (show 0 ≤ I221 0 71 ∧ I221 0 71 ≤ 5 from (hI221 0 71).1)
          have f228 := (show 0 ≤ I221 0 72 ∧ I221 0 72 ≤ 1000 from (hI221 0 72).1)
          have f229 := (show 0 ≤ I221 0 73 ∧ I221 0 73 ≤ 1001 from (hI221 0 73).1)
          have f230 := (show 0 ≤ I221 0 69 ∧ I221 0 69 ≤ 1000 from (hI221 0 69).1)
          have f231 := (show 0 ≤ I221 0 64 ∧ I221 0 64 ≤ 2000 from (hI221 0 64).1)
          have f232 := (show 0 ≤ I221 0 122 ∧ I221 0 122 ≤ 47 from (hI221 0 122).1)
          have f233 := (show 0 ≤ I221 0 123 ∧ I221 0 123 ≤ 95 from (hI221 0 123).1)
          have KTM_I221 := gr_TM_fr KTM_I208 (fun k => g220 52 k rfl) (fun k => g220 53 k rfl) (fun k => g220 54 k rfl) (g220 0 64 rfl)
          refine gv_callV hD rfl (As := [.inl 41]) (st := []) rfl (by decide) rfl rfl (gr_lV hws rfl) (Nat.le_of_ble_eq_true rfl) (gz_Ev_mono (d := 11) (by omega) E220) ?_
          show gv_X _ _ (174, [(2, .inl z207), (0, .inr (.inr (some 0))), (1, .inl a1)], [.inl z220], gr_sh ++ ext, gr_h I221 J222)
          refine gv_if_ne (t := 181) hD rfl rfl ⟨by omega, by omega⟩ (fun c234 => ?_) (fun c234 => ?_)
          · refine gv_run 1 true hD (pc' := 182) (lv' := [(2, .inl z207), (0, .inr (.inr (some 0))), (1, .inl a1)]) (st' := [.inl z207]) (h' := gr_h I221 J222) (C := (True ∧ True)) rfl ⟨trivial, trivial⟩ ?_
            refine gv_pick [] rfl ?_
            exact L182 I221 J222 z207 hI221 FI221 FJ222 KTM_I221 (by omega)
          · refine gv_pick [] rfl ?_
            exact L177 I221 J222 hI221 FI221 FJ222 KTM_I221 (by omega)
      refine gv_run 2 true hD (pc' := 140) (lv' := [(0, .inr (.inr (some 0))), (1, .inl a1)]) (st' := [.inl 40, .inr (.inr (some 0))]) (h' := gr_h I J) (C := ((True ∧ True) ∧ True)) rfl ⟨⟨trivial, trivial⟩, trivial⟩ ?_
      obtain ⟨r235, h235, E235, P235⟩ := r_sign (ws0 := ws0) (tb := tb) hws htb ext I J hI 40 ⟨by omega, by omega⟩ (by omega)
      obtain ⟨rfl, ⟨z235, rfl, q235⟩⟩ := P235
      refine gv_callV hD rfl (As := [.inl 40]) (st := []) rfl (by decide) rfl rfl (gr_lV hws rfl) (Nat.le_of_ble_eq_true rfl) (gz_Ev_mono (d := 1) (by omega) E235) ?_
      show gv_X _ _ (143, [(0, .inr (.inr (some 0))), (1, .inl a1)], [.inl z235], gr_sh ++ ext, gr_h I J)
      refine gv_if_ne (t := 152) hD rfl rfl ⟨by omega, by omega⟩ (fun c236 => ?_) (fun c236 => ?_)
      · exact L152 (by omega)
      · refine gv_run 2 true hD (pc' := 148) (lv' := [(0, .inr (.inr (some 0))), (1, .inl a1)]) (st' := [.inl 1, .inr (.inr (some 0))]) (h' := gr_h I J) (C := ((True ∧ True) ∧ True)) rfl ⟨⟨trivial, trivial⟩, trivial⟩ ?_
        obtain ⟨r237, h237, E237, P237⟩ := r_none (ws0 := ws0) (tb := tb) hws htb ext I J hI 1 ⟨by omega, by omega⟩ 
        obtain ⟨I238, J239, rfl, hI238, g237, k237, ⟨z237, rfl, q237⟩⟩ := P237
        have FI238 := gr_frt FI g237 rfl rfl
        have FJ239 := gr_fjt FJ k237 rfl rfl
        have t240 := g237 0 71 rfl
        have t241 := g237 0 72 rfl
        have t242 := g237 0 73 rfl
        have t243 := g237 0 69 rfl
        have t244 := g237 0 64 rfl
        have t245 := g237 0 122 rfl
        have t246 := g237 0 123 rfl
        have f247 := (show 0 ≤ I238 0 71 ∧ I238 0 71 ≤ 5 from (hI238 0 71).1)
        have f248 := (show 0 ≤ I238 0 72 ∧ I238 0 72 ≤ 1000 from (hI238 0 72).1)
        have f249 := (show 0 ≤ I238 0 73 ∧ I238 0 73 ≤ 1001 from (hI238 0 73).1)
        have f250 := (show 0 ≤ I238 0 69 ∧ I238 0 69 ≤ 1000 from (hI238 0 69).1)
        have f251 := (show 0 ≤ I238 0 64 ∧ I238 0 64 ≤ 2000 from (hI238 0 64).1)
        have f252 := (show 0 ≤ I238 0 122 ∧ I238 0 122 ≤ 47 from (hI238 0 122).1)
        have f253 := (show 0 ≤ I238 0 123 ∧ I238 0 123 ≤ 95 from (hI238 0 123).1)
        have KTM_I238 := gr_TM_fr KTM_I (fun k => g237 52 k rfl) (fun k => g237 53 k rfl) (fun k => g237 54 k rfl) (g237 0 64 rfl)
        refine gv_callV hD rfl (As := [.inl 1]) (st := []) rfl (by decide) rfl rfl (gr_lV hws rfl) (Nat.le_of_ble_eq_true rfl) (gz_Ev_mono (d := 3) (by omega) E237) ?_
        show gv_X _ _ (151, [(0, .inr (.inr (some 0))), (1, .inl a1)], [.inl z237], gr_sh ++ ext, gr_h I238 J239)
        exact gv_iret hD rfl ⟨I238, J239, rfl, hI238, FI238, FJ239, KTM_I238, ⟨_, rfl, by omega⟩⟩
    have f254 := (show 0 ≤ I 0 71 ∧ I 0 71 ≤ 5 from (hI 0 71).1)
    refine gv_run 3 true hD (pc' := 84) (lv' := [(0, .inr (.inr (some 0))), (1, .inl a1)]) (st' := [.inl 2, .inl (I 0 71)]) (h' := gr_h I J) (C := (((True ∧ True) ∧ True) ∧ True)) rfl ⟨⟨⟨trivial, trivial⟩, trivial⟩, trivial⟩ ?_
    refine gv_icmp_ne (t := 137) hD rfl rfl ⟨⟨by omega, by omega⟩, ⟨by omega, by omega⟩⟩ (fun c255 => ?_) (fun c255 => ?_)
    · exact L137 (by omega)
    · have f256 := (show 0 ≤ I 0 74 ∧ I 0 74 ≤ 999999 from (hI 0 74).1)
      refine gv_run 3 true hD (pc' := 92) (lv' := [(0, .inr (.inr (some 0))), (1, .inl a1)]) (st' := [.inl 1, .inl (I 0 74)]) (h' := gr_h I J) (C := (((True ∧ True) ∧ True) ∧ True)) rfl ⟨⟨⟨trivial, trivial⟩, trivial⟩, trivial⟩ ?_
      refine gv_icmp_lt (t := 111) hD rfl rfl ⟨⟨by omega, by omega⟩, ⟨by omega, by omega⟩⟩ (fun c257 => ?_) (fun c257 => ?_)
      · refine gv_pick [0] rfl ?_
        exact L111 (by omega)
      · have f258 := (show 0 ≤ I 0 74 ∧ I 0 74 ≤ 999999 from (hI 0 74).1)
        have f259 := (show 0 ≤ I 0 123 ∧ I 0 123 ≤ 95 from (hI 0 123).1)
        have f260 := (show 0 ≤ I 6 (Int.toNat ((I 0 123))) ∧ I 6 (Int.toNat ((I 0 123))) ≤ 4 from (hI 6 (Int.toNat ((I 0 123)))).1)
        refine gv_run 7 true hD (pc' := 108) (lv' := [(0, .inr (.inr (some 0))), (1, .inl a1)]) (st' := [.inl (I 6 (Int.toNat ((I 0 123)))), .inl (I 0 74)]) (h' := gr_h I J) (C := (((((((True ∧ True) ∧ True) ∧ True) ∧ True) ∧ True) ∧ True) ∧ (0 ≤ (I 0 123) ∧ (I 0 123) < ((96 : Nat) : Int)))) rfl ⟨⟨⟨⟨⟨⟨⟨trivial, trivial⟩, trivial⟩, trivial⟩, trivial⟩, trivial⟩, trivial⟩, ⟨by omega, by omega⟩⟩ ?_
        refine gv_icmp_le (t := 117) hD rfl rfl ⟨⟨by omega, by omega⟩, ⟨by omega, by omega⟩⟩ (fun c261 => ?_) (fun c261 => ?_)
        · refine gv_pick [0] rfl ?_
          exact L117 (by omega)
        · refine gv_pick [0] rfl ?_
          exact L111 (by omega)
  have f262 := (show 0 ≤ I 0 71 ∧ I 0 71 ≤ 5 from (hI 0 71).1)
  refine gv_run 3 true hD (pc' := 5) (lv' := [(0, .inr (.inr (some 0))), (1, .inl a1)]) (st' := [.inl 1, .inl (I 0 71)]) (h' := gr_h I J) (C := (((True ∧ True) ∧ True) ∧ True)) rfl ⟨⟨⟨trivial, trivial⟩, trivial⟩, trivial⟩ ?_
  refine gv_icmp_ne (t := 79) hD rfl rfl ⟨⟨by omega, by omega⟩, ⟨by omega, by omega⟩⟩ (fun c263 => ?_) (fun c263 => ?_)
  · exact L79 (by omega)
  · have f264 := (show 0 ≤ I 0 122 ∧ I 0 122 ≤ 47 from (hI 0 122).1)
    refine gv_run 5 true hD (pc' := 15) (lv' := [(2, .inl ((I 0 122) - 1)), (0, .inr (.inr (some 0))), (1, .inl a1)]) (st' := []) (h' := gr_h I J) (C := (((((True ∧ True) ∧ True) ∧ True) ∧ True) ∧ True)) rfl ⟨⟨⟨⟨⟨trivial, trivial⟩, trivial⟩, trivial⟩, trivial⟩, trivial⟩ ?_
    refine gv_pick [1, 0] rfl ?_
    exact L15 _ (((I 0 122) - 1)) (Nat.lt_succ_self _) (by omega)
set_option maxHeartbeats 4000000 in
set_option maxRecDepth 100000 in
theorem r_term {ws0 : List Cond} {tb : String → gz_T} (hws : ∀ w ∈ gr_ws, w ∈ ws0) (htb : tb RX13 = gr_T) (ext : gz_Sh) : ∀ (nr : Nat), ∀ (I : gr_I) (J : gr_J) (hI : gr_Inv I) (a1 : Int) (ha1 : 1 ≤ a1 ∧ a1 ≤ 41) (x0 : I 0 71 = 5 ∨ I 0 73 ≤ I 0 69) (x1 : I 0 72 ≤ I 0 69) (x2 : I 0 71 = 0 ∨ (I 0 72 < I 0 73 ∧ I 0 72 < I 0 69)) (x3 : I 0 71 = 3 → 2 ≤ I 0 73 - I 0 72 ∧ I 0 73 - I 0 72 ≤ 14) (x4 : I 0 72 ≤ I 0 73) (x5 : I 0 64 + I 0 69 - I 0 72 ≤ 1900) (x6 : I 0 122 ≤ a1) (KTM_I : gr_TM I) (_ : (42 - a1).toNat < nr), ∃ r h', gz_Ev ws0 tb (14 + 2 * nr) (yX13_term, cX13_term, 4, (some .int)) [.inr (.inr (some 0)), .inl a1] (gr_sh ++ ext) (gr_h I J) r (gr_sh ++ ext) h' 0 0 ∧ (∃ (I' : gr_I) (J' : gr_J), h' = gr_h I' J' ∧ gr_Inv I' ∧ gr_fr [64, 71, 72, 73, 74, 75, 76, 77, 122] [52, 53, 54, 55, 75] I I' ∧ gr_fj [64, 71, 72, 73, 74, 75, 76, 77, 122] [52, 53, 54, 55, 75] J J' ∧ gr_TM I' ∧ (∃ z : Int, r = some (.inl z) ∧ (-1) ≤ z ∧ z ≤ 1999 ∧ (I' 0 71 = 5 ∨ I' 0 73 ≤ I' 0 69) ∧ (I' 0 72 ≤ I' 0 69) ∧ (I' 0 71 = 0 ∨ (I' 0 72 < I' 0 73 ∧ I' 0 72 < I' 0 69)) ∧ (I' 0 71 = 3 → 2 ≤ I' 0 73 - I' 0 72 ∧ I' 0 73 - I' 0 72 ≤ 14) ∧ (I' 0 72 ≤ I' 0 73) ∧ (I' 0 69 = I 0 69) ∧ (I 0 73 ≤ I' 0 73) ∧ (I 0 72 ≤ I' 0 72) ∧ (I 0 64 ≤ I' 0 64) ∧ (I' 0 64 - I' 0 72 ≤ I 0 64 - I 0 72) ∧ (I 0 122 ≤ I' 0 122) ∧ (z < 0 ∨ I' 0 122 = I 0 122) ∧ (z < I' 0 64) ∧ (z < 0 ∨ I 0 72 < I' 0 72))) := by
  intro nr
  induction nr with
  | zero => intro I J hI a1 ha1 x0 x1 x2 x3 x4 x5 x6 KTM_I hnr; omega
  | succ nr ihR =>
  intro I J hI a1 ha1 x0 x1 x2 x3 x4 x5 x6 KTM_I hnr
  show ∃ r h', gz_Ev ws0 tb (14 + 2 * nr + 1 + 1) (yX13_term, cX13_term, 4, (some .int)) [.inr (.inr (some 0)), .inl a1] (gr_sh ++ ext) (gr_h I J) r (gr_sh ++ ext) h' 0 0 ∧ (∃ (I' : gr_I) (J' : gr_J), h' = gr_h I' J' ∧ gr_Inv I' ∧ gr_fr [64, 71, 72, 73, 74, 75, 76, 77, 122] [52, 53, 54, 55, 75] I I' ∧ gr_fj [64, 71, 72, 73, 74, 75, 76, 77, 122] [52, 53, 54, 55, 75] J J' ∧ gr_TM I' ∧ (∃ z : Int, r = some (.inl z) ∧ (-1) ≤ z ∧ z ≤ 1999 ∧ (I' 0 71 = 5 ∨ I' 0 73 ≤ I' 0 69) ∧ (I' 0 72 ≤ I' 0 69) ∧ (I' 0 71 = 0 ∨ (I' 0 72 < I' 0 73 ∧ I' 0 72 < I' 0 69)) ∧ (I' 0 71 = 3 → 2 ≤ I' 0 73 - I' 0 72 ∧ I' 0 73 - I' 0 72 ≤ 14) ∧ (I' 0 72 ≤ I' 0 73) ∧ (I' 0 69 = I 0 69) ∧ (I 0 73 ≤ I' 0 73) ∧ (I 0 72 ≤ I' 0 72) ∧ (I 0 64 ≤ I' 0 64) ∧ (I' 0 64 - I' 0 72 ≤ I 0 64 - I 0 72) ∧ (I 0 122 ≤ I' 0 122) ∧ (z < 0 ∨ I' 0 122 = I 0 122) ∧ (z < I' 0 64) ∧ (z < 0 ∨ I 0 72 < I' 0 72)))
  have FI : gr_fr [64, 71, 72, 73, 74, 75, 76, 77, 122] [52, 53, 54, 55, 75] I I := fun _ _ _ => rfl
  have FJ : gr_fj [64, 71, 72, 73, 74, 75, 76, 77, 122] [52, 53, 54, 55, 75] J J := fun _ _ _ => rfl
  have hD : gv_D (gr_E ws0 tb (14 + 2 * nr + 1) (yX13_term, cX13_term, 4, (some .int)) kX13_term) := gq_ok oX13_term
  refine gr_ev (d := (14 + 2 * nr + 1)) (l := kX13_term) (Po := fun r h' => (∃ (I' : gr_I) (J' : gr_J), h' = gr_h I' J' ∧ gr_Inv I' ∧ gr_fr [64, 71, 72, 73, 74, 75, 76, 77, 122] [52, 53, 54, 55, 75] I I' ∧ gr_fj [64, 71, 72, 73, 74, 75, 76, 77, 122] [52, 53, 54, 55, 75] J J' ∧ gr_TM I' ∧ (∃ z : Int, r = some (.inl z) ∧ (-1) ≤ z ∧ z ≤ 1999 ∧ (I' 0 71 = 5 ∨ I' 0 73 ≤ I' 0 69) ∧ (I' 0 72 ≤ I' 0 69) ∧ (I' 0 71 = 0 ∨ (I' 0 72 < I' 0 73 ∧ I' 0 72 < I' 0 69)) ∧ (I' 0 71 = 3 → 2 ≤ I' 0 73 - I' 0 72 ∧ I' 0 73 - I' 0 72 ≤ 14) ∧ (I' 0 72 ≤ I' 0 73) ∧ (I' 0 69 = I 0 69) ∧ (I 0 73 ≤ I' 0 73) ∧ (I 0 72 ≤ I' 0 72) ∧ (I 0 64 ≤ I' 0 64) ∧ (I' 0 64 - I' 0 72 ≤ I 0 64 - I 0 72) ∧ (I 0 122 ≤ I' 0 122) ∧ (z < 0 ∨ I' 0 122 = I 0 122) ∧ (z < I' 0 64) ∧ (z < 0 ∨ I 0 72 < I' 0 72)))) htb rfl (Nat.le_of_ble_eq_true rfl) ?_
  have f1 := (show 0 ≤ I 0 71 ∧ I 0 71 ≤ 5 from (hI 0 71).1)
  have f2 := (show 0 ≤ I 0 72 ∧ I 0 72 ≤ 1000 from (hI 0 72).1)
  have f3 := (show 0 ≤ I 0 73 ∧ I 0 73 ≤ 1001 from (hI 0 73).1)
  have f4 := (show 0 ≤ I 0 69 ∧ I 0 69 ≤ 1000 from (hI 0 69).1)
  have f5 := (show 0 ≤ I 0 64 ∧ I 0 64 ≤ 2000 from (hI 0 64).1)
  have f6 := (show 0 ≤ I 0 122 ∧ I 0 122 ≤ 47 from (hI 0 122).1)
  have f7 := (show 0 ≤ I 0 123 ∧ I 0 123 ≤ 95 from (hI 0 123).1)
  have L12 : ((1 ≤ a1 ∧ a1 ≤ 40) ∧ (a1 ≤ 40) ∧ (I 0 71 = 5 ∨ I 0 73 ≤ I 0 69) ∧ (I 0 72 ≤ I 0 69) ∧ (I 0 71 = 0 ∨ (I 0 72 < I 0 73 ∧ I 0 72 < I 0 69)) ∧ (I 0 71 = 3 → 2 ≤ I 0 73 - I 0 72 ∧ I 0 73 - I 0 72 ≤ 14) ∧ (I 0 72 ≤ I 0 73) ∧ (I 0 69 = I 0 69) ∧ (I 0 73 ≤ I 0 73) ∧ (I 0 72 ≤ I 0 72)) → gv_X (gr_E ws0 tb (14 + 2 * nr + 1) (yX13_term, cX13_term, 4, (some .int)) kX13_term) (gv_Q cX13_term (some .int) (gr_sh ++ ext) (fun r h' => (∃ (I' : gr_I) (J' : gr_J), h' = gr_h I' J' ∧ gr_Inv I' ∧ gr_fr [64, 71, 72, 73, 74, 75, 76, 77, 122] [52, 53, 54, 55, 75] I I' ∧ gr_fj [64, 71, 72, 73, 74, 75, 76, 77, 122] [52, 53, 54, 55, 75] J J' ∧ gr_TM I' ∧ (∃ z : Int, r = some (.inl z) ∧ (-1) ≤ z ∧ z ≤ 1999 ∧ (I' 0 71 = 5 ∨ I' 0 73 ≤ I' 0 69) ∧ (I' 0 72 ≤ I' 0 69) ∧ (I' 0 71 = 0 ∨ (I' 0 72 < I' 0 73 ∧ I' 0 72 < I' 0 69)) ∧ (I' 0 71 = 3 → 2 ≤ I' 0 73 - I' 0 72 ∧ I' 0 73 - I' 0 72 ≤ 14) ∧ (I' 0 72 ≤ I' 0 73) ∧ (I' 0 69 = I 0 69) ∧ (I 0 73 ≤ I' 0 73) ∧ (I 0 72 ≤ I' 0 72) ∧ (I 0 64 ≤ I' 0 64) ∧ (I' 0 64 - I' 0 72 ≤ I 0 64 - I 0 72) ∧ (I 0 122 ≤ I' 0 122) ∧ (z < 0 ∨ I' 0 122 = I 0 122) ∧ (z < I' 0 64) ∧ (z < 0 ∨ I 0 72 < I' 0 72))))) (12, [(0, .inr (.inr (some 0))), (1, .inl a1)], [], gr_sh ++ ext, gr_h I J) := by
    intro m_8
    obtain ⟨ha1_8, e0_8, e1_8, e2_8, e3_8, e4_8, e5_8, e6_8, e7_8, e8_8⟩ := m_8
    have f9 := (show 0 ≤ I 0 71 ∧ I 0 71 ≤ 5 from (hI 0 71).1)
    have f10 := (show 0 ≤ I 0 72 ∧ I 0 72 ≤ 1000 from (hI 0 72).1)
    have f11 := (show 0 ≤ I 0 73 ∧ I 0 73 ≤ 1001 from (hI 0 73).1)
    have f12 := (show 0 ≤ I 0 69 ∧ I 0 69 ≤ 1000 from (hI 0 69).1)
    have f13 := (show 0 ≤ I 0 64 ∧ I 0 64 ≤ 2000 from (hI 0 64).1)
    have f14 := (show 0 ≤ I 0 122 ∧ I 0 122 ≤ 47 from (hI 0 122).1)
    have f15 := (show 0 ≤ I 0 123 ∧ I 0 123 ≤ 95 from (hI 0 123).1)
    have L39 : ∀ (I16 : gr_I) (J17 : gr_J) , gr_Inv I16 → gr_fr [64, 71, 72, 73, 74, 75, 76, 77, 122] [52, 53, 54, 55, 75] I I16 → gr_fj [64, 71, 72, 73, 74, 75, 76, 77, 122] [52, 53, 54, 55, 75] J J17 → gr_TM I16 → ((1 ≤ a1 ∧ a1 ≤ 40) ∧ (a1 ≤ 40) ∧ (I16 0 71 = 1) ∧ (I 0 72 < I16 0 72) ∧ (I16 0 64 = I 0 64) ∧ (I16 0 122 = I 0 122) ∧ (I16 0 71 = 5 ∨ I16 0 73 ≤ I16 0 69) ∧ (I16 0 72 ≤ I16 0 69) ∧ (I16 0 71 = 0 ∨ (I16 0 72 < I16 0 73 ∧ I16 0 72 < I16 0 69)) ∧ (I16 0 71 = 3 → 2 ≤ I16 0 73 - I16 0 72 ∧ I16 0 73 - I16 0 72 ≤ 14) ∧ (I16 0 72 ≤ I16 0 73) ∧ (I16 0 69 = I 0 69) ∧ (I 0 73 ≤ I16 0 73) ∧ (I 0 72 ≤ I16 0 72)) → gv_X (gr_E ws0 tb (14 + 2 * nr + 1) (yX13_term, cX13_term, 4, (some .int)) kX13_term) (gv_Q cX13_term (some .int) (gr_sh ++ ext) (fun r h' => (∃ (I' : gr_I) (J' : gr_J), h' = gr_h I' J' ∧ gr_Inv I' ∧ gr_fr [64, 71, 72, 73, 74, 75, 76, 77, 122] [52, 53, 54, 55, 75] I I' ∧ gr_fj [64, 71, 72, 73, 74, 75, 76, 77, 122] [52, 53, 54, 55, 75] J J' ∧ gr_TM I' ∧ (∃ z : Int, r = some (.inl z) ∧ (-1) ≤ z ∧ z ≤ 1999 ∧ (I' 0 71 = 5 ∨ I' 0 73 ≤ I' 0 69) ∧ (I' 0 72 ≤ I' 0 69) ∧ (I' 0 71 = 0 ∨ (I' 0 72 < I' 0 73 ∧ I' 0 72 < I' 0 69)) ∧ (I' 0 71 = 3 → 2 ≤ I' 0 73 - I' 0 72 ∧ I' 0 73 - I' 0 72 ≤ 14) ∧ (I' 0 72 ≤ I' 0 73) ∧ (I' 0 69 = I 0 69) ∧ (I 0 73 ≤ I' 0 73) ∧ (I 0 72 ≤ I' 0 72) ∧ (I 0 64 ≤ I' 0 64) ∧ (I' 0 64 - I' 0 72 ≤ I 0 64 - I 0 72) ∧ (I 0 122 ≤ I' 0 122) ∧ (z < 0 ∨ I' 0 122 = I 0 122) ∧ (z < I' 0 64) ∧ (z < 0 ∨ I 0 72 < I' 0 72))))) (39, [(0, .inr (.inr (some 0))), (1, .inl a1)], [], gr_sh ++ ext, gr_h I16 J17) := by
      intro I16 J17 hI16 FI16 FJ17 KTM_I16 m_18
      clear ha1_8 e0_8 e1_8 e2_8 e3_8 e4_8 e5_8 e6_8 e7_8 e8_8 f9 f10 f11 f12 f13 f14 f15
      obtain ⟨ha1_18, e0_18, e1_18, e2_18, e3_18, e4_18, e5_18, e6_18, e7_18, e8_18, e9_18, e10_18, e11_18, e12_18⟩ := m_18
      have f19 := (show 0 ≤ I16 0 71 ∧ I16 0 71 ≤ 5 from (hI16 0 71).1)
      have f20 := (show 0 ≤ I16 0 72 ∧ I16 0 72 ≤ 1000 from (hI16 0 72).1)
      have f21 := (show 0 ≤ I16 0 73 ∧ I16 0 73 ≤ 1001 from (hI16 0 73).1)
      have f22 := (show 0 ≤ I16 0 69 ∧ I16 0 69 ≤ 1000 from (hI16 0 69).1)
      have f23 := (show 0 ≤ I16 0 64 ∧ I16 0 64 ≤ 2000 from (hI16 0 64).1)
      have f24 := (show 0 ≤ I16 0 122 ∧ I16 0 122 ≤ 47 from (hI16 0 122).1)
      have f25 := (show 0 ≤ I16 0 123 ∧ I16 0 123 ≤ 95 from (hI16 0 123).1)
      have L74 : ∀ (I26 : gr_I) (J27 : gr_J) , gr_Inv I26 → gr_fr [64, 71, 72, 73, 74, 75, 76, 77, 122] [52, 53, 54, 55, 75] I I26 → gr_fj [64, 71, 72, 73, 74, 75, 76, 77, 122] [52, 53, 54, 55, 75] J J27 → gr_TM I26 → ((1 ≤ a1 ∧ a1 ≤ 40) ∧ (a1 ≤ 40) ∧ (I 0 72 < I26 0 72) ∧ (I26 0 64 = I 0 64) ∧ (I26 0 122 = I 0 122 + 1) ∧ (I26 0 71 = 5 ∨ I26 0 73 ≤ I26 0 69) ∧ (I26 0 72 ≤ I26 0 69) ∧ (I26 0 71 = 0 ∨ (I26 0 72 < I26 0 73 ∧ I26 0 72 < I26 0 69)) ∧ (I26 0 71 = 3 → 2 ≤ I26 0 73 - I26 0 72 ∧ I26 0 73 - I26 0 72 ≤ 14) ∧ (I26 0 72 ≤ I26 0 73) ∧ (I26 0 69 = I 0 69) ∧ (I 0 73 ≤ I26 0 73) ∧ (I 0 72 ≤ I26 0 72)) → gv_X (gr_E ws0 tb (14 + 2 * nr + 1) (yX13_term, cX13_term, 4, (some .int)) kX13_term) (gv_Q cX13_term (some .int) (gr_sh ++ ext) (fun r h' => (∃ (I' : gr_I) (J' : gr_J), h' = gr_h I' J' ∧ gr_Inv I' ∧ gr_fr [64, 71, 72, 73, 74, 75, 76, 77, 122] [52, 53, 54, 55, 75] I I' ∧ gr_fj [64, 71, 72, 73, 74, 75, 76, 77, 122] [52, 53, 54, 55, 75] J J' ∧ gr_TM I' ∧ (∃ z : Int, r = some (.inl z) ∧ (-1) ≤ z ∧ z ≤ 1999 ∧ (I' 0 71 = 5 ∨ I' 0 73 ≤ I' 0 69) ∧ (I' 0 72 ≤ I' 0 69) ∧ (I' 0 71 = 0 ∨ (I' 0 72 < I' 0 73 ∧ I' 0 72 < I' 0 69)) ∧ (I' 0 71 = 3 → 2 ≤ I' 0 73 - I' 0 72 ∧ I' 0 73 - I' 0 72 ≤ 14) ∧ (I' 0 72 ≤ I' 0 73) ∧ (I' 0 69 = I 0 69) ∧ (I 0 73 ≤ I' 0 73) ∧ (I 0 72 ≤ I' 0 72) ∧ (I 0 64 ≤ I' 0 64) ∧ (I' 0 64 - I' 0 72 ≤ I 0 64 - I 0 72) ∧ (I 0 122 ≤ I' 0 122) ∧ (z < 0 ∨ I' 0 122 = I 0 122) ∧ (z < I' 0 64) ∧ (z < 0 ∨ I 0 72 < I' 0 72))))) (74, [(0, .inr (.inr (some 0))), (1, .inl a1)], [], gr_sh ++ ext, gr_h I26 J27) := by
        intro I26 J27 hI26 FI26 FJ27 KTM_I26 m_28
        clear ha1_18 e0_18 e1_18 e2_18 e3_18 e4_18 e5_18 e6_18 e7_18 e8_18 e9_18 e10_18 e11_18 e12_18 f19 f20 f21 f22 f23 f24 f25
        obtain ⟨ha1_28, e0_28, e1_28, e2_28, e3_28, e4_28, e5_28, e6_28, e7_28, e8_28, e9_28, e10_28, e11_28⟩ := m_28
        have f29 := (show 0 ≤ I26 0 71 ∧ I26 0 71 ≤ 5 from (hI26 0 71).1)
        have f30 := (show 0 ≤ I26 0 72 ∧ I26 0 72 ≤ 1000 from (hI26 0 72).1)
        have f31 := (show 0 ≤ I26 0 73 ∧ I26 0 73 ≤ 1001 from (hI26 0 73).1)
        have f32 := (show 0 ≤ I26 0 69 ∧ I26 0 69 ≤ 1000 from (hI26 0 69).1)
        have f33 := (show 0 ≤ I26 0 64 ∧ I26 0 64 ≤ 2000 from (hI26 0 64).1)
        have f34 := (show 0 ≤ I26 0 122 ∧ I26 0 122 ≤ 47 from (hI26 0 122).1)
        have f35 := (show 0 ≤ I26 0 123 ∧ I26 0 123 ≤ 95 from (hI26 0 123).1)
        have L108 : ∀ (I36 : gr_I) (J37 : gr_J) (s0_38 : Int), gr_Inv I36 → gr_fr [64, 71, 72, 73, 74, 75, 76, 77, 122] [52, 53, 54, 55, 75] I I36 → gr_fj [64, 71, 72, 73, 74, 75, 76, 77, 122] [52, 53, 54, 55, 75] J J37 → gr_TM I36 → (((-1) ≤ s0_38 ∧ s0_38 ≤ 1999) ∧ (I 0 72 < I36 0 72) ∧ (I 0 64 ≤ I36 0 64) ∧ (I36 0 64 - I36 0 72 ≤ I 0 64 - I 0 72) ∧ (I 0 122 ≤ I36 0 122) ∧ (s0_38 < 0 ∨ I36 0 122 = I 0 122) ∧ (s0_38 < I36 0 64) ∧ (I36 0 71 = 5 ∨ I36 0 73 ≤ I36 0 69) ∧ (I36 0 72 ≤ I36 0 69) ∧ (I36 0 71 = 0 ∨ (I36 0 72 < I36 0 73 ∧ I36 0 72 < I36 0 69)) ∧ (I36 0 71 = 3 → 2 ≤ I36 0 73 - I36 0 72 ∧ I36 0 73 - I36 0 72 ≤ 14) ∧ (I36 0 72 ≤ I36 0 73) ∧ (I36 0 69 = I 0 69) ∧ (I 0 73 ≤ I36 0 73) ∧ (I 0 72 ≤ I36 0 72)) → gv_X (gr_E ws0 tb (14 + 2 * nr + 1) (yX13_term, cX13_term, 4, (some .int)) kX13_term) (gv_Q cX13_term (some .int) (gr_sh ++ ext) (fun r h' => (∃ (I' : gr_I) (J' : gr_J), h' = gr_h I' J' ∧ gr_Inv I' ∧ gr_fr [64, 71, 72, 73, 74, 75, 76, 77, 122] [52, 53, 54, 55, 75] I I' ∧ gr_fj [64, 71, 72, 73, 74, 75, 76, 77, 122] [52, 53, 54, 55, 75] J J' ∧ gr_TM I' ∧ (∃ z : Int, r = some (.inl z) ∧ (-1) ≤ z ∧ z ≤ 1999 ∧ (I' 0 71 = 5 ∨ I' 0 73 ≤ I' 0 69) ∧ (I' 0 72 ≤ I' 0 69) ∧ (I' 0 71 = 0 ∨ (I' 0 72 < I' 0 73 ∧ I' 0 72 < I' 0 69)) ∧ (I' 0 71 = 3 → 2 ≤ I' 0 73 - I' 0 72 ∧ I' 0 73 - I' 0 72 ≤ 14) ∧ (I' 0 72 ≤ I' 0 73) ∧ (I' 0 69 = I 0 69) ∧ (I 0 73 ≤ I' 0 73) ∧ (I 0 72 ≤ I' 0 72) ∧ (I 0 64 ≤ I' 0 64) ∧ (I' 0 64 - I' 0 72 ≤ I 0 64 - I 0 72) ∧ (I 0 122 ≤ I' 0 122) ∧ (z < 0 ∨ I' 0 122 = I 0 122) ∧ (z < I' 0 64) ∧ (z < 0 ∨ I 0 72 < I' 0 72))))) (108, [], [.inl s0_38], gr_sh ++ ext, gr_h I36 J37) := by
          intro I36 J37 s0_38 hI36 FI36 FJ37 KTM_I36 m_38
          clear ha1_28 e0_28 e1_28 e2_28 e3_28 e4_28 e5_28 e6_28 e7_28 e8_28 e9_28 e10_28 e11_28 f29 f30 f31 f32 f33 f34 f35
          obtain ⟨hs0_38, e0_38, e1_38, e2_38, e3_38, e4_38, e5_38, e6_38, e7_38, e8_38, e9_38, e10_38, e11_38, e12_38, e13_38⟩ := m_38
          have f39 := (show 0 ≤ I36 0 71 ∧ I36 0 71 ≤ 5 from (hI36 0 71).1)
          have f40 := (show 0 ≤ I36 0 72 ∧ I36 0 72 ≤ 1000 from (hI36 0 72).1)
          have f41 := (show 0 ≤ I36 0 73 ∧ I36 0 73 ≤ 1001 from (hI36 0 73).1)
          have f42 := (show 0 ≤ I36 0 69 ∧ I36 0 69 ≤ 1000 from (hI36 0 69).1)
          have f43 := (show 0 ≤ I36 0 64 ∧ I36 0 64 ≤ 2000 from (hI36 0 64).1)
          have f44 := (show 0 ≤ I36 0 122 ∧ I36 0 122 ≤ 47 from (hI36 0 122).1)
          have f45 := (show 0 ≤ I36 0 123 ∧ I36 0 123 ≤ 95 from (hI36 0 123).1)
          exact gv_iret hD rfl ⟨I36, J37, rfl, hI36, FI36, FJ37, KTM_I36, ⟨_, rfl, by omega⟩⟩
        refine gv_run 4 true hD (pc' := 78) (lv' := [(0, .inr (.inr (some 0))), (1, .inl a1)]) (st' := [.inl (a1 + 1), .inr (.inr (some 0))]) (h' := gr_h I26 J27) (C := ((((True ∧ True) ∧ True) ∧ True) ∧ True)) rfl ⟨⟨⟨⟨trivial, trivial⟩, trivial⟩, trivial⟩, trivial⟩ ?_
        obtain ⟨r46, h46, E46, P46⟩ := ihR I26 J27 hI26 (a1 + 1) ⟨by omega, by omega⟩ (by omega) (by omega) (by omega) (by omega) (by omega) (by omega) (by omega) KTM_I26 (by omega)
        obtain ⟨I47, J48, rfl, hI47, g46, k46, KTM_I47, ⟨z46, rfl, q46⟩⟩ := P46
        have FI47 := gr_frt FI26 g46 rfl rfl
        have FJ48 := gr_fjt FJ27 k46 rfl rfl
        have t49 := g46 0 69 rfl
        have t50 := g46 0 123 rfl
        have f51 := (show 0 ≤ I47 0 71 ∧ I47 0 71 ≤ 5 from (hI47 0 71).1)
        have f52 := (show 0 ≤ I47 0 72 ∧ I47 0 72 ≤ 1000 from (hI47 0 72).1)
        have f53 := (show 0 ≤ I47 0 73 ∧ I47 0 73 ≤ 1001 from (hI47 0 73).1)
        have f54 := (show 0 ≤ I47 0 69 ∧ I47 0 69 ≤ 1000 from (hI47 0 69).1)
        have f55 := (show 0 ≤ I47 0 64 ∧ I47 0 64 ≤ 2000 from (hI47 0 64).1)
        have f56 := (show 0 ≤ I47 0 122 ∧ I47 0 122 ≤ 47 from (hI47 0 122).1)
        have f57 := (show 0 ≤ I47 0 123 ∧ I47 0 123 ≤ 95 from (hI47 0 123).1)
        refine gv_callV hD rfl (As := [.inl (a1 + 1)]) (st := []) rfl (by decide) rfl rfl (gr_lV hws rfl) (Nat.le_of_ble_eq_true rfl) (gz_Ev_mono (d := (14 + 2 * nr)) (by omega) E46) ?_
        show gv_X _ _ (81, [(0, .inr (.inr (some 0))), (1, .inl a1)], [.inl z46], gr_sh ++ ext, gr_h I47 J48)
        have f58 := (show 0 ≤ I47 0 122 ∧ I47 0 122 ≤ 47 from (hI47 0 122).1)
        refine gv_run 6 true hD (pc' := 89) (lv' := [(2, .inl z46), (0, .inr (.inr (some 0))), (1, .inl a1)]) (st' := [.inl ((I47 0 122) - 1), .inr (.inr (some 0))]) (h' := gr_h I47 J48) (C := ((((((True ∧ True) ∧ True) ∧ True) ∧ True) ∧ True) ∧ True)) rfl ⟨⟨⟨⟨⟨⟨trivial, trivial⟩, trivial⟩, trivial⟩, trivial⟩, trivial⟩, trivial⟩ ?_
        refine gv_run 1 true hD (pc' := 92) (lv' := [(2, .inl z46), (0, .inr (.inr (some 0))), (1, .inl a1)]) (st' := []) (h' := gz_up (gr_h I47 J48) 0 122 (.inl (((I47 0 122) - 1)))) (C := (True ∧ True)) rfl ⟨trivial, trivial⟩ ?_
        refine gr_st hI47 FI47 rfl rfl ⟨⟨by show 0 ≤ _; omega, by show _ ≤ 47; omega⟩, trivial⟩ (fun I59 hI59 FI59 q60 p60 => ?_)
        have t61 := p60 0 71 (by decide)
        have t62 := p60 0 72 (by decide)
        have t63 := p60 0 73 (by decide)
        have t64 := p60 0 69 (by decide)
        have t65 := p60 0 64 (by decide)
        have t66 := p60 0 123 (by decide)
        have f67 := (show 0 ≤ I59 0 71 ∧ I59 0 71 ≤ 5 from (hI59 0 71).1)
        have f68 := (show 0 ≤ I59 0 72 ∧ I59 0 72 ≤ 1000 from (hI59 0 72).1)
        have f69 := (show 0 ≤ I59 0 73 ∧ I59 0 73 ≤ 1001 from (hI59 0 73).1)
        have f70 := (show 0 ≤ I59 0 69 ∧ I59 0 69 ≤ 1000 from (hI59 0 69).1)
        have f71 := (show 0 ≤ I59 0 64 ∧ I59 0 64 ≤ 2000 from (hI59 0 64).1)
        have f72 := (show 0 ≤ I59 0 122 ∧ I59 0 122 ≤ 47 from (hI59 0 122).1)
        have f73 := (show 0 ≤ I59 0 123 ∧ I59 0 123 ≤ 95 from (hI59 0 123).1)
        have KTM_I59 := gr_TM_fr KTM_I47 (fun k => p60 52 k (fun q => absurd q.1 (by decide))) (fun k => p60 53 k (fun q => absurd q.1 (by decide))) (fun k => p60 54 k (fun q => absurd q.1 (by decide))) (p60 0 64 (by decide))
        refine gv_run 1 true hD (pc' := 93) (lv' := [(2, .inl z46), (0, .inr (.inr (some 0))), (1, .inl a1)]) (st' := [.inl z46]) (h' := gr_h I59 J48) (C := (True ∧ True)) rfl ⟨trivial, trivial⟩ ?_
        refine gv_if_ge (t := 100) hD rfl rfl ⟨by omega, by omega⟩ (fun c74 => ?_) (fun c74 => ?_)
        · refine gv_run 5 true hD (pc' := 105) (lv' := [(2, .inl z46), (0, .inr (.inr (some 0))), (1, .inl a1)]) (st' := [.inr (.inl (Int64.ofNat 0)), .inl 0, .inl z46, .inl 0, .inr (.inr (some 0))]) (h' := gr_h I59 J48) (C := (((((True ∧ True) ∧ True) ∧ True) ∧ True) ∧ True)) rfl ⟨⟨⟨⟨⟨trivial, trivial⟩, trivial⟩, trivial⟩, trivial⟩, trivial⟩ ?_
          obtain ⟨r75, h75, E75, P75⟩ := r_node (ws0 := ws0) (tb := tb) hws htb ext I59 J48 hI59 0 z46 0 (Int64.ofNat 0) ⟨by omega, by omega⟩ ⟨by omega, by omega⟩ ⟨by omega, by omega⟩ (by omega) (by omega) (by omega) KTM_I59
          obtain ⟨I76, J77, rfl, hI76, g75, k75, KTM_I76, ⟨z75, rfl, q75⟩⟩ := P75
          have FI76 := gr_frt FI59 g75 rfl rfl
          have FJ77 := gr_fjt FJ48 k75 rfl rfl
          have t78 := g75 0 71 rfl
          have t79 := g75 0 72 rfl
          have t80 := g75 0 73 rfl
          have t81 := g75 0 69 rfl
          have t82 := g75 0 122 rfl
          have t83 := g75 0 123 rfl
          have f84 := (show 0 ≤ I76 0 71 ∧ I76 0 71 ≤ 5 from (hI76 0 71).1)
          have f85 := (show 0 ≤ I76 0 72 ∧ I76 0 72 ≤ 1000 from (hI76 0 72).1)
          have f86 := (show 0 ≤ I76 0 73 ∧ I76 0 73 ≤ 1001 from (hI76 0 73).1)
          have f87 := (show 0 ≤ I76 0 69 ∧ I76 0 69 ≤ 1000 from (hI76 0 69).1)
          have f88 := (show 0 ≤ I76 0 64 ∧ I76 0 64 ≤ 2000 from (hI76 0 64).1)
          have f89 := (show 0 ≤ I76 0 122 ∧ I76 0 122 ≤ 47 from (hI76 0 122).1)
          have f90 := (show 0 ≤ I76 0 123 ∧ I76 0 123 ≤ 95 from (hI76 0 123).1)
          refine gv_callV hD rfl (As := [.inl 0, .inl z46, .inl 0, .inr (.inl (Int64.ofNat 0))]) (st := []) rfl (by decide) rfl rfl (gr_lV hws rfl) (Nat.le_of_ble_eq_true rfl) (gz_Ev_mono (d := 1) (by omega) E75) ?_
          show gv_X _ _ (108, [(2, .inl z46), (0, .inr (.inr (some 0))), (1, .inl a1)], [.inl z75], gr_sh ++ ext, gr_h I76 J77)
          refine gv_pick [] rfl ?_
          exact L108 I76 J77 z75 hI76 FI76 FJ77 KTM_I76 (by omega)
        · refine gv_run 2 true hD (pc' := 108) (lv' := [(2, .inl z46), (0, .inr (.inr (some 0))), (1, .inl a1)]) (st' := [.inl (-1)]) (h' := gr_h I59 J48) (C := ((True ∧ True) ∧ True)) rfl ⟨⟨trivial, trivial⟩, trivial⟩ ?_
          refine gv_pick [] rfl ?_
          exact L108 I59 J48 (-1) hI59 FI59 FJ48 KTM_I59 (by omega)
      have f91 := (show 0 ≤ I16 0 122 ∧ I16 0 122 ≤ 47 from (hI16 0 122).1)
      refine gv_run 7 true hD (pc' := 50) (lv' := [(0, .inr (.inr (some 0))), (1, .inl a1)]) (st' := [.inl 1, .inl (I16 0 122), .inr (.inr (some 0)), .inl (I16 0 122), .inr (.inr (some 75))]) (h' := gr_h I16 J17) (C := (((((((True ∧ True) ∧ True) ∧ True) ∧ True) ∧ True) ∧ True) ∧ True)) rfl ⟨⟨⟨⟨⟨⟨⟨trivial, trivial⟩, trivial⟩, trivial⟩, trivial⟩, trivial⟩, trivial⟩, trivial⟩ ?_
      refine gv_run 2 true hD (pc' := 54) (lv' := [(0, .inr (.inr (some 0))), (1, .inl a1)]) (st' := [.inl (I16 0 122), .inr (.inr (some 75))]) (h' := gz_up (gr_h I16 J17) 0 122 (.inl (((I16 0 122) + 1)))) (C := ((True ∧ True) ∧ True)) rfl ⟨⟨trivial, trivial⟩, trivial⟩ ?_
      refine gr_st hI16 FI16 rfl rfl ⟨⟨by show 0 ≤ _; omega, by show _ ≤ 47; omega⟩, trivial⟩ (fun I92 hI92 FI92 q93 p93 => ?_)
      have t94 := p93 0 71 (by decide)
      have t95 := p93 0 72 (by decide)
      have t96 := p93 0 73 (by decide)
      have t97 := p93 0 69 (by decide)
      have t98 := p93 0 64 (by decide)
      have t99 := p93 0 123 (by decide)
      have f100 := (show 0 ≤ I92 0 71 ∧ I92 0 71 ≤ 5 from (hI92 0 71).1)
      have f101 := (show 0 ≤ I92 0 72 ∧ I92 0 72 ≤ 1000 from (hI92 0 72).1)
      have f102 := (show 0 ≤ I92 0 73 ∧ I92 0 73 ≤ 1001 from (hI92 0 73).1)
      have f103 := (show 0 ≤ I92 0 69 ∧ I92 0 69 ≤ 1000 from (hI92 0 69).1)
      have f104 := (show 0 ≤ I92 0 64 ∧ I92 0 64 ≤ 2000 from (hI92 0 64).1)
      have f105 := (show 0 ≤ I92 0 122 ∧ I92 0 122 ≤ 47 from (hI92 0 122).1)
      have f106 := (show 0 ≤ I92 0 123 ∧ I92 0 123 ≤ 95 from (hI92 0 123).1)
      have KTM_I92 := gr_TM_fr KTM_I16 (fun k => p93 52 k (fun q => absurd q.1 (by decide))) (fun k => p93 53 k (fun q => absurd q.1 (by decide))) (fun k => p93 54 k (fun q => absurd q.1 (by decide))) (p93 0 64 (by decide))
      refine gv_run 3 true hD (pc' := 59) (lv' := [(0, .inr (.inr (some 0))), (1, .inl a1)]) (st' := []) (h' := gz_up (gr_h I92 J17) 75 (Int.toNat ((I16 0 122))) (.inr (.inl (J17 0 75)))) (C := (((True ∧ True) ∧ True) ∧ (0 ≤ (I16 0 122) ∧ (I16 0 122) < ((48 : Nat) : Int)))) rfl ⟨⟨⟨trivial, trivial⟩, trivial⟩, ⟨by omega, by omega⟩⟩ ?_
      refine gr_stJ FJ17 rfl rfl (fun J107 FJ107 => ?_)
      refine gv_run 1 true hD (pc' := 60) (lv' := [(0, .inr (.inr (some 0))), (1, .inl a1)]) (st' := [.inr (.inr (some 0))]) (h' := gr_h I92 J107) (C := (True ∧ True)) rfl ⟨trivial, trivial⟩ ?_
      obtain ⟨r108, h108, E108, P108⟩ := r_next (ws0 := ws0) (tb := tb) hws htb ext I92 J107 hI92   (by omega)
      obtain ⟨I109, J110, rfl, hI109, g108, k108, ⟨rfl, q108⟩⟩ := P108
      have FI109 := gr_frt FI92 g108 rfl rfl
      have FJ110 := gr_fjt FJ107 k108 rfl rfl
      have t111 := g108 0 69 rfl
      have t112 := g108 0 64 rfl
      have t113 := g108 0 122 rfl
      have t114 := g108 0 123 rfl
      have f115 := (show 0 ≤ I109 0 71 ∧ I109 0 71 ≤ 5 from (hI109 0 71).1)
      have f116 := (show 0 ≤ I109 0 72 ∧ I109 0 72 ≤ 1000 from (hI109 0 72).1)
      have f117 := (show 0 ≤ I109 0 73 ∧ I109 0 73 ≤ 1001 from (hI109 0 73).1)
      have f118 := (show 0 ≤ I109 0 69 ∧ I109 0 69 ≤ 1000 from (hI109 0 69).1)
      have f119 := (show 0 ≤ I109 0 64 ∧ I109 0 64 ≤ 2000 from (hI109 0 64).1)
      have f120 := (show 0 ≤ I109 0 122 ∧ I109 0 122 ≤ 47 from (hI109 0 122).1)
      have f121 := (show 0 ≤ I109 0 123 ∧ I109 0 123 ≤ 95 from (hI109 0 123).1)
      have KTM_I109 := gr_TM_fr KTM_I92 (fun k => g108 52 k rfl) (fun k => g108 53 k rfl) (fun k => g108 54 k rfl) (g108 0 64 rfl)
      refine gv_callV hD rfl (As := []) (st := []) rfl (by decide) rfl rfl (gr_lV hws rfl) (Nat.le_of_ble_eq_true rfl) (gz_Ev_mono (d := 10) (by omega) E108) ?_
      show gv_X _ _ (63, [(0, .inr (.inr (some 0))), (1, .inl a1)], [], gr_sh ++ ext, gr_h I109 J110)
      refine gv_run 2 true hD (pc' := 66) (lv' := [(0, .inr (.inr (some 0))), (1, .inl a1)]) (st' := [.inl 46, .inr (.inr (some 0))]) (h' := gr_h I109 J110) (C := ((True ∧ True) ∧ True)) rfl ⟨⟨trivial, trivial⟩, trivial⟩ ?_
      obtain ⟨r122, h122, E122, P122⟩ := r_need (ws0 := ws0) (tb := tb) hws htb ext I109 J110 hI109 46 ⟨by omega, by omega⟩ (by omega) (by omega) (by omega) (by omega) (by omega)
      obtain ⟨I123, J124, rfl, hI123, g122, k122, ⟨z122, rfl, q122⟩⟩ := P122
      have FI123 := gr_frt FI109 g122 rfl rfl
      have FJ124 := gr_fjt FJ110 k122 rfl rfl
      have t125 := g122 0 69 rfl
      have t126 := g122 0 64 rfl
      have t127 := g122 0 122 rfl
      have t128 := g122 0 123 rfl
      have f129 := (show 0 ≤ I123 0 71 ∧ I123 0 71 ≤ 5 from (hI123 0 71).1)
      have f130 := (show 0 ≤ I123 0 72 ∧ I123 0 72 ≤ 1000 from (hI123 0 72).1)
      have f131 := (show 0 ≤ I123 0 73 ∧ I123 0 73 ≤ 1001 from (hI123 0 73).1)
      have f132 := (show 0 ≤ I123 0 69 ∧ I123 0 69 ≤ 1000 from (hI123 0 69).1)
      have f133 := (show 0 ≤ I123 0 64 ∧ I123 0 64 ≤ 2000 from (hI123 0 64).1)
      have f134 := (show 0 ≤ I123 0 122 ∧ I123 0 122 ≤ 47 from (hI123 0 122).1)
      have f135 := (show 0 ≤ I123 0 123 ∧ I123 0 123 ≤ 95 from (hI123 0 123).1)
      have KTM_I123 := gr_TM_fr KTM_I109 (fun k => g122 52 k rfl) (fun k => g122 53 k rfl) (fun k => g122 54 k rfl) (g122 0 64 rfl)
      refine gv_callV hD rfl (As := [.inl 46]) (st := []) rfl (by decide) rfl rfl (gr_lV hws rfl) (Nat.le_of_ble_eq_true rfl) (gz_Ev_mono (d := 11) (by omega) E122) ?_
      show gv_X _ _ (69, [(0, .inr (.inr (some 0))), (1, .inl a1)], [.inl z122], gr_sh ++ ext, gr_h I123 J124)
      refine gv_if_ne (t := 74) hD rfl rfl ⟨by omega, by omega⟩ (fun c136 => ?_) (fun c136 => ?_)
      · exact L74 I123 J124 hI123 FI123 FJ124 KTM_I123 (by omega)
      · refine gv_run 1 true hD (pc' := 73) (lv' := [(0, .inr (.inr (some 0))), (1, .inl a1)]) (st' := [.inl (-1)]) (h' := gr_h I123 J124) (C := (True ∧ True)) rfl ⟨trivial, trivial⟩ ?_
        exact gv_iret hD rfl ⟨I123, J124, rfl, hI123, FI123, FJ124, KTM_I123, ⟨_, rfl, by omega⟩⟩
    have L109 : ((1 ≤ a1 ∧ a1 ≤ 40) ∧ (a1 ≤ 40) ∧ (I 0 71 = 5 ∨ I 0 73 ≤ I 0 69) ∧ (I 0 72 ≤ I 0 69) ∧ (I 0 71 = 0 ∨ (I 0 72 < I 0 73 ∧ I 0 72 < I 0 69)) ∧ (I 0 71 = 3 → 2 ≤ I 0 73 - I 0 72 ∧ I 0 73 - I 0 72 ≤ 14) ∧ (I 0 72 ≤ I 0 73) ∧ (I 0 69 = I 0 69) ∧ (I 0 73 ≤ I 0 73) ∧ (I 0 72 ≤ I 0 72)) → gv_X (gr_E ws0 tb (14 + 2 * nr + 1) (yX13_term, cX13_term, 4, (some .int)) kX13_term) (gv_Q cX13_term (some .int) (gr_sh ++ ext) (fun r h' => (∃ (I' : gr_I) (J' : gr_J), h' = gr_h I' J' ∧ gr_Inv I' ∧ gr_fr [64, 71, 72, 73, 74, 75, 76, 77, 122] [52, 53, 54, 55, 75] I I' ∧ gr_fj [64, 71, 72, 73, 74, 75, 76, 77, 122] [52, 53, 54, 55, 75] J J' ∧ gr_TM I' ∧ (∃ z : Int, r = some (.inl z) ∧ (-1) ≤ z ∧ z ≤ 1999 ∧ (I' 0 71 = 5 ∨ I' 0 73 ≤ I' 0 69) ∧ (I' 0 72 ≤ I' 0 69) ∧ (I' 0 71 = 0 ∨ (I' 0 72 < I' 0 73 ∧ I' 0 72 < I' 0 69)) ∧ (I' 0 71 = 3 → 2 ≤ I' 0 73 - I' 0 72 ∧ I' 0 73 - I' 0 72 ≤ 14) ∧ (I' 0 72 ≤ I' 0 73) ∧ (I' 0 69 = I 0 69) ∧ (I 0 73 ≤ I' 0 73) ∧ (I 0 72 ≤ I' 0 72) ∧ (I 0 64 ≤ I' 0 64) ∧ (I' 0 64 - I' 0 72 ≤ I 0 64 - I 0 72) ∧ (I 0 122 ≤ I' 0 122) ∧ (z < 0 ∨ I' 0 122 = I 0 122) ∧ (z < I' 0 64) ∧ (z < 0 ∨ I 0 72 < I' 0 72))))) (109, [(0, .inr (.inr (some 0))), (1, .inl a1)], [], gr_sh ++ ext, gr_h I J) := by
      intro m_137
      obtain ⟨ha1_137, e0_137, e1_137, e2_137, e3_137, e4_137, e5_137, e6_137, e7_137, e8_137⟩ := m_137
      have f138 := (show 0 ≤ I 0 71 ∧ I 0 71 ≤ 5 from (hI 0 71).1)
      have f139 := (show 0 ≤ I 0 72 ∧ I 0 72 ≤ 1000 from (hI 0 72).1)
      have f140 := (show 0 ≤ I 0 73 ∧ I 0 73 ≤ 1001 from (hI 0 73).1)
      have f141 := (show 0 ≤ I 0 69 ∧ I 0 69 ≤ 1000 from (hI 0 69).1)
      have f142 := (show 0 ≤ I 0 64 ∧ I 0 64 ≤ 2000 from (hI 0 64).1)
      have f143 := (show 0 ≤ I 0 122 ∧ I 0 122 ≤ 47 from (hI 0 122).1)
      have f144 := (show 0 ≤ I 0 123 ∧ I 0 123 ≤ 95 from (hI 0 123).1)
      have L115 : ∀ (n : Nat) (I145 : gr_I) (J146 : gr_J) (v2_147 : Int), (1001 - I145 0 72).toNat < n → gr_Inv I145 → gr_fr [64, 71, 72, 73, 74, 75, 76, 77, 122] [52, 53, 54, 55, 75] I I145 → gr_fj [64, 71, 72, 73, 74, 75, 76, 77, 122] [52, 53, 54, 55, 75] J J146 → gr_TM I145 → ((1 ≤ a1 ∧ a1 ≤ 40) ∧ ((-1) ≤ v2_147 ∧ v2_147 ≤ 1999) ∧ (I145 0 64 - I145 0 72 ≤ I 0 64 - I 0 72) ∧ (I 0 64 ≤ I145 0 64) ∧ (I 0 122 ≤ I145 0 122) ∧ (v2_147 < 0 ∨ I145 0 122 = I 0 122) ∧ (v2_147 < I145 0 64) ∧ (a1 ≤ 40) ∧ (v2_147 < 0 ∨ I 0 72 < I145 0 72) ∧ (I145 0 71 = 5 ∨ I145 0 73 ≤ I145 0 69) ∧ (I145 0 72 ≤ I145 0 69) ∧ (I145 0 71 = 0 ∨ (I145 0 72 < I145 0 73 ∧ I145 0 72 < I145 0 69)) ∧ (I145 0 71 = 3 → 2 ≤ I145 0 73 - I145 0 72 ∧ I145 0 73 - I145 0 72 ≤ 14) ∧ (I145 0 72 ≤ I145 0 73) ∧ (I145 0 69 = I 0 69) ∧ (I 0 73 ≤ I145 0 73) ∧ (I 0 72 ≤ I145 0 72)) → gv_X (gr_E ws0 tb (14 + 2 * nr + 1) (yX13_term, cX13_term, 4, (some .int)) kX13_term) (gv_Q cX13_term (some .int) (gr_sh ++ ext) (fun r h' => (∃ (I' : gr_I) (J' : gr_J), h' = gr_h I' J' ∧ gr_Inv I' ∧ gr_fr [64, 71, 72, 73, 74, 75, 76, 77, 122] [52, 53, 54, 55, 75] I I' ∧ gr_fj [64, 71, 72, 73, 74, 75, 76, 77, 122] [52, 53, 54, 55, 75] J J' ∧ gr_TM I' ∧ (∃ z : Int, r = some (.inl z) ∧ (-1) ≤ z ∧ z ≤ 1999 ∧ (I' 0 71 = 5 ∨ I' 0 73 ≤ I' 0 69) ∧ (I' 0 72 ≤ I' 0 69) ∧ (I' 0 71 = 0 ∨ (I' 0 72 < I' 0 73 ∧ I' 0 72 < I' 0 69)) ∧ (I' 0 71 = 3 → 2 ≤ I' 0 73 - I' 0 72 ∧ I' 0 73 - I' 0 72 ≤ 14) ∧ (I' 0 72 ≤ I' 0 73) ∧ (I' 0 69 = I 0 69) ∧ (I 0 73 ≤ I' 0 73) ∧ (I 0 72 ≤ I' 0 72) ∧ (I 0 64 ≤ I' 0 64) ∧ (I' 0 64 - I' 0 72 ≤ I 0 64 - I 0 72) ∧ (I 0 122 ≤ I' 0 122) ∧ (z < 0 ∨ I' 0 122 = I 0 122) ∧ (z < I' 0 64) ∧ (z < 0 ∨ I 0 72 < I' 0 72))))) (115, [(0, .inr (.inr (some 0))), (1, .inl a1), (2, .inl v2_147)], [], gr_sh ++ ext, gr_h I145 J146) := by
        intro n
        induction n with
        | zero => intro I145 J146 v2_147 hn; omega
        | succ n ih115 =>
          intro I145 J146 v2_147 hn hI145 FI145 FJ146 KTM_I145 m_147
          clear ha1_137 e0_137 e1_137 e2_137 e3_137 e4_137 e5_137 e6_137 e7_137 e8_137 f138 f139 f140 f141 f142 f143 f144 ha1_8 e0_8 e1_8 e2_8 e3_8 e4_8 e5_8 e6_8 e7_8 e8_8 f9 f10 f11 f12 f13 f14 f15
          obtain ⟨ha1_147, hv2_147, e0_147, e1_147, e2_147, e3_147, e4_147, e5_147, e6_147, e7_147, e8_147, e9_147, e10_147, e11_147, e12_147, e13_147, e14_147⟩ := m_147
          have f148 := (show 0 ≤ I145 0 71 ∧ I145 0 71 ≤ 5 from (hI145 0 71).1)
          have f149 := (show 0 ≤ I145 0 72 ∧ I145 0 72 ≤ 1000 from (hI145 0 72).1)
          have f150 := (show 0 ≤ I145 0 73 ∧ I145 0 73 ≤ 1001 from (hI145 0 73).1)
          have f151 := (show 0 ≤ I145 0 69 ∧ I145 0 69 ≤ 1000 from (hI145 0 69).1)
          have f152 := (show 0 ≤ I145 0 64 ∧ I145 0 64 ≤ 2000 from (hI145 0 64).1)
          have f153 := (show 0 ≤ I145 0 122 ∧ I145 0 122 ≤ 47 from (hI145 0 122).1)
          have f154 := (show 0 ≤ I145 0 123 ∧ I145 0 123 ≤ 95 from (hI145 0 123).1)
          have L128 : ∀ (n : Nat) (I155 : gr_I) (J156 : gr_J) (v2_157 : Int), (1001 - I155 0 72).toNat < n → gr_Inv I155 → gr_fr [64, 71, 72, 73, 74, 75, 76, 77, 122] [52, 53, 54, 55, 75] I I155 → gr_fj [64, 71, 72, 73, 74, 75, 76, 77, 122] [52, 53, 54, 55, 75] J J156 → gr_TM I155 → ((1 ≤ a1 ∧ a1 ≤ 40) ∧ (0 ≤ v2_157 ∧ v2_157 ≤ 1999) ∧ (I 0 72 < I155 0 72) ∧ (I 0 64 ≤ I155 0 64) ∧ (I155 0 64 - I155 0 72 ≤ I 0 64 - I 0 72) ∧ (I155 0 122 = I 0 122) ∧ (0 ≤ v2_157 ∧ v2_157 < I155 0 64) ∧ (a1 ≤ 40) ∧ (I155 0 71 = 4) ∧ (I145 0 72 ≤ I155 0 72) ∧ (I155 0 71 = 5 ∨ I155 0 73 ≤ I155 0 69) ∧ (I155 0 72 ≤ I155 0 69) ∧ (I155 0 71 = 0 ∨ (I155 0 72 < I155 0 73 ∧ I155 0 72 < I155 0 69)) ∧ (I155 0 71 = 3 → 2 ≤ I155 0 73 - I155 0 72 ∧ I155 0 73 - I155 0 72 ≤ 14) ∧ (I155 0 72 ≤ I155 0 73) ∧ (I155 0 69 = I 0 69) ∧ (I 0 73 ≤ I155 0 73) ∧ (I 0 72 ≤ I155 0 72)) → gv_X (gr_E ws0 tb (14 + 2 * nr + 1) (yX13_term, cX13_term, 4, (some .int)) kX13_term) (gv_Q cX13_term (some .int) (gr_sh ++ ext) (fun r h' => (∃ (I' : gr_I) (J' : gr_J), h' = gr_h I' J' ∧ gr_Inv I' ∧ gr_fr [64, 71, 72, 73, 74, 75, 76, 77, 122] [52, 53, 54, 55, 75] I I' ∧ gr_fj [64, 71, 72, 73, 74, 75, 76, 77, 122] [52, 53, 54, 55, 75] J J' ∧ gr_TM I' ∧ (∃ z : Int, r = some (.inl z) ∧ (-1) ≤ z ∧ z ≤ 1999 ∧ (I' 0 71 = 5 ∨ I' 0 73 ≤ I' 0 69) ∧ (I' 0 72 ≤ I' 0 69) ∧ (I' 0 71 = 0 ∨ (I' 0 72 < I' 0 73 ∧ I' 0 72 < I' 0 69)) ∧ (I' 0 71 = 3 → 2 ≤ I' 0 73 - I' 0 72 ∧ I' 0 73 - I' 0 72 ≤ 14) ∧ (I' 0 72 ≤ I' 0 73) ∧ (I' 0 69 = I 0 69) ∧ (I 0 73 ≤ I' 0 73) ∧ (I 0 72 ≤ I' 0 72) ∧ (I 0 64 ≤ I' 0 64) ∧ (I' 0 64 - I' 0 72 ≤ I 0 64 - I 0 72) ∧ (I 0 122 ≤ I' 0 122) ∧ (z < 0 ∨ I' 0 122 = I 0 122) ∧ (z < I' 0 64) ∧ (z < 0 ∨ I 0 72 < I' 0 72))))) (128, [(0, .inr (.inr (some 0))), (1, .inl a1), (2, .inl v2_157)], [], gr_sh ++ ext, gr_h I155 J156) := by
            intro n
            induction n with
            | zero => intro I155 J156 v2_157 hn; omega
            | succ n ih128 =>
              intro I155 J156 v2_157 hn hI155 FI155 FJ156 KTM_I155 m_157
              clear ha1_147 hv2_147 e0_147 e1_147 e2_147 e3_147 e4_147 e5_147 e6_147 e7_147 e8_147 e9_147 e10_147 e11_147 e12_147 e13_147 e14_147 f148 f149 f150 f151 f152 f153 f154
              obtain ⟨ha1_157, hv2_157, e0_157, e1_157, e2_157, e3_157, e4_157, e5_157, e6_157, e7_157, e8_157, e9_157, e10_157, e11_157, e12_157, e13_157, e14_157, e15_157⟩ := m_157
              have f158 := (show 0 ≤ I155 0 71 ∧ I155 0 71 ≤ 5 from (hI155 0 71).1)
              have f159 := (show 0 ≤ I155 0 72 ∧ I155 0 72 ≤ 1000 from (hI155 0 72).1)
              have f160 := (show 0 ≤ I155 0 73 ∧ I155 0 73 ≤ 1001 from (hI155 0 73).1)
              have f161 := (show 0 ≤ I155 0 69 ∧ I155 0 69 ≤ 1000 from (hI155 0 69).1)
              have f162 := (show 0 ≤ I155 0 64 ∧ I155 0 64 ≤ 2000 from (hI155 0 64).1)
              have f163 := (show 0 ≤ I155 0 122 ∧ I155 0 122 ≤ 47 from (hI155 0 122).1)
              have f164 := (show 0 ≤ I155 0 123 ∧ I155 0 123 ≤ 95 from (hI155 0 123).1)
              refine gv_run 1 true hD (pc' := 129) (lv' := [(0, .inr (.inr (some 0))), (1, .inl a1), (2, .inl v2_157)]) (st' := [.inr (.inr (some 0))]) (h' := gr_h I155 J156) (C := (True ∧ True)) rfl ⟨trivial, trivial⟩ ?_
              obtain ⟨r165, h165, E165, P165⟩ := r_next (ws0 := ws0) (tb := tb) hws htb ext I155 J156 hI155   (by omega)
              obtain ⟨I166, J167, rfl, hI166, g165, k165, ⟨rfl, q165⟩⟩ := P165
              have FI166 := gr_frt FI155 g165 rfl rfl
              have FJ167 := gr_fjt FJ156 k165 rfl rfl
              have t168 := g165 0 69 rfl
              have t169 := g165 0 64 rfl
              have t170 := g165 0 122 rfl
              have t171 := g165 0 123 rfl
              have f172 := (show 0 ≤ I166 0 71 ∧ I166 0 71 ≤ 5 from (hI166 0 71).1)
              have f173 := (show 0 ≤ I166 0 72 ∧ I166 0 72 ≤ 1000 from (hI166 0 72).1)
              have f174 := (show 0 ≤ I166 0 73 ∧ I166 0 73 ≤ 1001 from (hI166 0 73).1)
              have f175 := (show 0 ≤ I166 0 69 ∧ I166 0 69 ≤ 1000 from (hI166 0 69).1)
              have f176 := (show 0 ≤ I166 0 64 ∧ I166 0 64 ≤ 2000 from (hI166 0 64).1)
              have f177 := (show 0 ≤ I166 0 122 ∧ I166 0 122 ≤ 47 from (hI166 0 122).1)
              have f178 := (show 0 ≤ I166 0 123 ∧ I166 0 123 ≤ 95 from (hI166 0 123).1)
              have KTM_I166 := gr_TM_fr KTM_I155 (fun k => g165 52 k rfl) (fun k => g165 53 k rfl) (fun k => g165 54 k rfl) (g165 0 64 rfl)
              refine gv_callV hD rfl (As := []) (st := []) rfl (by decide) rfl rfl (gr_lV hws rfl) (Nat.le_of_ble_eq_true rfl) (gz_Ev_mono (d := 10) (by omega) E165) ?_
              show gv_X _ _ (132, [(0, .inr (.inr (some 0))), (1, .inl a1), (2, .inl v2_157)], [], gr_sh ++ ext, gr_h I166 J167)
              refine gv_run 4 true hD (pc' := 136) (lv' := [(0, .inr (.inr (some 0))), (1, .inl a1), (2, .inl v2_157)]) (st' := [.inl (a1 + 1), .inr (.inr (some 0))]) (h' := gr_h I166 J167) (C := ((((True ∧ True) ∧ True) ∧ True) ∧ True)) rfl ⟨⟨⟨⟨trivial, trivial⟩, trivial⟩, trivial⟩, trivial⟩ ?_
              obtain ⟨r179, h179, E179, P179⟩ := ihR I166 J167 hI166 (a1 + 1) ⟨by omega, by omega⟩ (by omega) (by omega) (by omega) (by omega) (by omega) (by omega) (by omega) KTM_I166 (by omega)
              obtain ⟨I180, J181, rfl, hI180, g179, k179, KTM_I180, ⟨z179, rfl, q179⟩⟩ := P179
              have FI180 := gr_frt FI166 g179 rfl rfl
              have FJ181 := gr_fjt FJ167 k179 rfl rfl
              have t182 := g179 0 69 rfl
              have t183 := g179 0 123 rfl
              have f184 := (show 0 ≤ I180 0 71 ∧ I180 0 71 ≤ 5 from (hI180 0 71).1)
              have f185 := (show 0 ≤ I180 0 72 ∧ I180 0 72 ≤ 1000 from (hI180 0 72).1)
              have f186 := (show 0 ≤ I180 0 73 ∧ I180 0 73 ≤ 1001 from (hI180 0 73).1)
              have f187 := (show 0 ≤ I180 0 69 ∧ I180 0 69 ≤ 1000 from (hI180 0 69).1)
              have f188 := (show 0 ≤ I180 0 64 ∧ I180 0 64 ≤ 2000 from (hI180 0 64).1)
              have f189 := (show 0 ≤ I180 0 122 ∧ I180 0 122 ≤ 47 from (hI180 0 122).1)
              have f190 := (show 0 ≤ I180 0 123 ∧ I180 0 123 ≤ 95 from (hI180 0 123).1)
              refine gv_callV hD rfl (As := [.inl (a1 + 1)]) (st := []) rfl (by decide) rfl rfl (gr_lV hws rfl) (Nat.le_of_ble_eq_true rfl) (gz_Ev_mono (d := (14 + 2 * nr)) (by omega) E179) ?_
              show gv_X _ _ (139, [(0, .inr (.inr (some 0))), (1, .inl a1), (2, .inl v2_157)], [.inl z179], gr_sh ++ ext, gr_h I180 J181)
              refine gv_run 2 true hD (pc' := 141) (lv' := [(3, .inl z179), (0, .inr (.inr (some 0))), (1, .inl a1), (2, .inl v2_157)]) (st' := [.inl z179]) (h' := gr_h I180 J181) (C := ((True ∧ True) ∧ True)) rfl ⟨⟨trivial, trivial⟩, trivial⟩ ?_
              refine gv_if_ge (t := 146) hD rfl rfl ⟨by omega, by omega⟩ (fun c191 => ?_) (fun c191 => ?_)
              · refine gv_run 5 true hD (pc' := 151) (lv' := [(3, .inl z179), (0, .inr (.inr (some 0))), (1, .inl a1), (2, .inl v2_157)]) (st' := [.inr (.inl (Int64.ofNat 0)), .inl z179, .inl v2_157, .inl 4, .inr (.inr (some 0))]) (h' := gr_h I180 J181) (C := (((((True ∧ True) ∧ True) ∧ True) ∧ True) ∧ True)) rfl ⟨⟨⟨⟨⟨trivial, trivial⟩, trivial⟩, trivial⟩, trivial⟩, trivial⟩ ?_
                obtain ⟨r192, h192, E192, P192⟩ := r_node (ws0 := ws0) (tb := tb) hws htb ext I180 J181 hI180 4 v2_157 z179 (Int64.ofNat 0) ⟨by omega, by omega⟩ ⟨by omega, by omega⟩ ⟨by omega, by omega⟩ (by omega) (by omega) (by omega) KTM_I180
                obtain ⟨I193, J194, rfl, hI193, g192, k192, KTM_I193, ⟨z192, rfl, q192⟩⟩ := P192
                have FI193 := gr_frt FI180 g192 rfl rfl
                have FJ194 := gr_fjt FJ181 k192 rfl rfl
                have t195 := g192 0 71 rfl
                have t196 := g192 0 72 rfl
                have t197 := g192 0 73 rfl
                have t198 := g192 0 69 rfl
                have t199 := g192 0 122 rfl
                have t200 := g192 0 123 rfl
                have f201 := (show 0 ≤ I193 0 71 ∧ I193 0 71 ≤ 5 from (hI193 0 71).1)
                have f202 := (show 0 ≤ I193 0 72 ∧ I193 0 72 ≤ 1000 from (hI193 0 72).1)
                have f203 := (show 0 ≤ I193 0 73 ∧ I193 0 73 ≤ 1001 from (hI193 0 73).1)
                have f204 := (show 0 ≤ I193 0 69 ∧ I193 0 69 ≤ 1000 from (hI193 0 69).1)
                have f205 := (show 0 ≤ I193 0 64 ∧ I193 0 64 ≤ 2000 from (hI193 0 64).1)
                have f206 := (show 0 ≤ I193 0 122 ∧ I193 0 122 ≤ 47 from (hI193 0 122).1)
                have f207 := (show 0 ≤ I193 0 123 ∧ I193 0 123 ≤ 95 from (hI193 0 123).1)
                refine gv_callV hD rfl (As := [.inl 4, .inl v2_157, .inl z179, .inr (.inl (Int64.ofNat 0))]) (st := []) rfl (by decide) rfl rfl (gr_lV hws rfl) (Nat.le_of_ble_eq_true rfl) (gz_Ev_mono (d := 1) (by omega) E192) ?_
                show gv_X _ _ (154, [(3, .inl z179), (0, .inr (.inr (some 0))), (1, .inl a1), (2, .inl v2_157)], [.inl z192], gr_sh ++ ext, gr_h I193 J194)
                refine gv_run 3 true hD (pc' := 158) (lv' := [(2, .inl z192), (3, .inl z179), (0, .inr (.inr (some 0))), (1, .inl a1)]) (st' := [.inl 44, .inr (.inr (some 0))]) (h' := gr_h I193 J194) (C := (((True ∧ True) ∧ True) ∧ True)) rfl ⟨⟨⟨trivial, trivial⟩, trivial⟩, trivial⟩ ?_
                obtain ⟨r208, h208, E208, P208⟩ := r_sign (ws0 := ws0) (tb := tb) hws htb ext I193 J194 hI193 44 ⟨by omega, by omega⟩ (by omega)
                obtain ⟨rfl, ⟨z208, rfl, q208⟩⟩ := P208
                refine gv_callV hD rfl (As := [.inl 44]) (st := []) rfl (by decide) rfl rfl (gr_lV hws rfl) (Nat.le_of_ble_eq_true rfl) (gz_Ev_mono (d := 1) (by omega) E208) ?_
                show gv_X _ _ (161, [(2, .inl z192), (3, .inl z179), (0, .inr (.inr (some 0))), (1, .inl a1)], [.inl z208], gr_sh ++ ext, gr_h I193 J194)
                refine gv_if_ne (t := 128) hD rfl rfl ⟨by omega, by omega⟩ (fun c209 => ?_) (fun c209 => ?_)
                · refine gv_pick [2, 3, 0] rfl ?_
                  exact ih128 I193 J194 z192 (by omega) hI193 FI193 FJ194 KTM_I193 (by omega)
                · refine gv_run 2 true hD (pc' := 167) (lv' := [(2, .inl z192), (3, .inl z179), (0, .inr (.inr (some 0))), (1, .inl a1)]) (st' := [.inl 41, .inr (.inr (some 0))]) (h' := gr_h I193 J194) (C := ((True ∧ True) ∧ True)) rfl ⟨⟨trivial, trivial⟩, trivial⟩ ?_
                  obtain ⟨r210, h210, E210, P210⟩ := r_need (ws0 := ws0) (tb := tb) hws htb ext I193 J194 hI193 41 ⟨by omega, by omega⟩ (by omega) (by omega) (by omega) (by omega) (by omega)
                  obtain ⟨I211, J212, rfl, hI211, g210, k210, ⟨z210, rfl, q210⟩⟩ := P210
                  have FI211 := gr_frt FI193 g210 rfl rfl
                  have FJ212 := gr_fjt FJ194 k210 rfl rfl
                  have t213 := g210 0 69 rfl
                  have t214 := g210 0 64 rfl
                  have t215 := g210 0 122 rfl
                  have t216 := g210 0 123 rfl
                  have f217 := (show 0 ≤ I211 0 71 ∧ I211 0 71 ≤ 5 from (hI211 0 71).1)
                  have f218 := (show 0 ≤ I211 0 72 ∧ I211 0 72 ≤ 1000 from (hI211 0 72).1)
                  have f219 := (show 0 ≤ I211 0 73 ∧ I211 0 73 ≤ 1001 from (hI211 0 73).1)
                  have f220 := (show 0 ≤ I211 0 69 ∧ I211 0 69 ≤ 1000 from (hI211 0 69).1)
                  have f221 := (show 0 ≤ I211 0 64 ∧ I211 0 64 ≤ 2000 from (hI211 0 64).1)
                  have f222 := (show 0 ≤ I211 0 122 ∧ I211 0 122 ≤ 47 from (hI211 0 122).1)
                  have f223 := (show 0 ≤ I211 0 123 ∧ I211 0 123 ≤ 95 from (hI211 0 123).1)
                  have KTM_I211 := gr_TM_fr KTM_I193 (fun k => g210 52 k rfl) (fun k => g210 53 k rfl) (fun k => g210 54 k rfl) (g210 0 64 rfl)
                  refine gv_callV hD rfl (As := [.inl 41]) (st := []) rfl (by decide) rfl rfl (gr_lV hws rfl) (Nat.le_of_ble_eq_true rfl) (gz_Ev_mono (d := 11) (by omega) E210) ?_
                  show gv_X _ _ (170, [(2, .inl z192), (3, .inl z179), (0, .inr (.inr (some 0))), (1, .inl a1)], [.inl z210], gr_sh ++ ext, gr_h I211 J212)
                  refine gv_if_ne (t := 115) hD rfl rfl ⟨by omega, by omega⟩ (fun c224 => ?_) (fun c224 => ?_)
                  · refine gv_pick [2, 3, 0] rfl ?_
                    exact ih115 I211 J212 z192 (by omega) hI211 FI211 FJ212 KTM_I211 (by omega)
                  · refine gv_run 1 true hD (pc' := 174) (lv' := [(2, .inl z192), (3, .inl z179), (0, .inr (.inr (some 0))), (1, .inl a1)]) (st' := [.inl (-1)]) (h' := gr_h I211 J212) (C := (True ∧ True)) rfl ⟨trivial, trivial⟩ ?_
                    exact gv_iret hD rfl ⟨I211, J212, rfl, hI211, FI211, FJ212, KTM_I211, ⟨_, rfl, by omega⟩⟩
              · refine gv_run 1 true hD (pc' := 145) (lv' := [(3, .inl z179), (0, .inr (.inr (some 0))), (1, .inl a1), (2, .inl v2_157)]) (st' := [.inl (-1)]) (h' := gr_h I180 J181) (C := (True ∧ True)) rfl ⟨trivial, trivial⟩ ?_
                exact gv_iret hD rfl ⟨I180, J181, rfl, hI180, FI180, FJ181, KTM_I180, ⟨_, rfl, by omega⟩⟩
          have L175 : (((-1) ≤ v2_147 ∧ v2_147 ≤ 1999) ∧ (I 0 64 ≤ I145 0 64) ∧ (I145 0 64 - I145 0 72 ≤ I 0 64 - I 0 72) ∧ (I 0 122 ≤ I145 0 122) ∧ (v2_147 < 0 ∨ I145 0 122 = I 0 122) ∧ (v2_147 < I145 0 64) ∧ (v2_147 < 0 ∨ I 0 72 < I145 0 72) ∧ (I145 0 71 = 5 ∨ I145 0 73 ≤ I145 0 69) ∧ (I145 0 72 ≤ I145 0 69) ∧ (I145 0 71 = 0 ∨ (I145 0 72 < I145 0 73 ∧ I145 0 72 < I145 0 69)) ∧ (I145 0 71 = 3 → 2 ≤ I145 0 73 - I145 0 72 ∧ I145 0 73 - I145 0 72 ≤ 14) ∧ (I145 0 72 ≤ I145 0 73) ∧ (I145 0 69 = I 0 69) ∧ (I 0 73 ≤ I145 0 73) ∧ (I 0 72 ≤ I145 0 72)) → gv_X (gr_E ws0 tb (14 + 2 * nr + 1) (yX13_term, cX13_term, 4, (some .int)) kX13_term) (gv_Q cX13_term (some .int) (gr_sh ++ ext) (fun r h' => (∃ (I' : gr_I) (J' : gr_J), h' = gr_h I' J' ∧ gr_Inv I' ∧ gr_fr [64, 71, 72, 73, 74, 75, 76, 77, 122] [52, 53, 54, 55, 75] I I' ∧ gr_fj [64, 71, 72, 73, 74, 75, 76, 77, 122] [52, 53, 54, 55, 75] J J' ∧ gr_TM I' ∧ (∃ z : Int, r = some (.inl z) ∧ (-1) ≤ z ∧ z ≤ 1999 ∧ (I' 0 71 = 5 ∨ I' 0 73 ≤ I' 0 69) ∧ (I' 0 72 ≤ I' 0 69) ∧ (I' 0 71 = 0 ∨ (I' 0 72 < I' 0 73 ∧ I' 0 72 < I' 0 69)) ∧ (I' 0 71 = 3 → 2 ≤ I' 0 73 - I' 0 72 ∧ I' 0 73 - I' 0 72 ≤ 14) ∧ (I' 0 72 ≤ I' 0 73) ∧ (I' 0 69 = I 0 69) ∧ (I 0 73 ≤ I' 0 73) ∧ (I 0 72 ≤ I' 0 72) ∧ (I 0 64 ≤ I' 0 64) ∧ (I' 0 64 - I' 0 72 ≤ I 0 64 - I 0 72) ∧ (I 0 122 ≤ I' 0 122) ∧ (z < 0 ∨ I' 0 122 = I 0 122) ∧ (z < I' 0 64) ∧ (z < 0 ∨ I 0 72 < I' 0 72))))) (175, [(2, .inl v2_147)], [], gr_sh ++ ext, gr_h I145 J146) := by
            intro m_225
            obtain ⟨hv2_147_225, e0_225, e1_225, e2_225, e3_225, e4_225, e5_225, e6_225, e7_225, e8_225, e9_225, e10_225, e11_225, e12_225, e13_225⟩ := m_225
            have f226 := (show 0 ≤ I145 0 71 ∧ I145 0 71 ≤ 5 from (hI145 0 71).1)
            have f227 := (show 0 ≤ I145 0 72 ∧ I145 0 72 ≤ 1000 from (hI145 0 72).1)
            have f228 := (show 0 ≤ I145 0 73 ∧ I145 0 73 ≤ 1001 from (hI145 0 73).1)
            have f229 := (show 0 ≤ I145 0 69 ∧ I145 0 69 ≤ 1000 from (hI145 0 69).1)
            have f230 := (show 0 ≤ I145 0 64 ∧ I145 0 64 ≤ 2000 from (hI145 0 64).1)
            have f231 := (show 0 ≤ I145 0 122 ∧ I145 0 122 ≤ 47 from (hI145 0 122).1)
            have f232 := (show 0 ≤ I145 0 123 ∧ I145 0 123 ≤ 95 from (hI145 0 123).1)
            refine gv_run 1 true hD (pc' := 176) (lv' := [(2, .inl v2_147)]) (st' := [.inl v2_147]) (h' := gr_h I145 J146) (C := (True ∧ True)) rfl ⟨trivial, trivial⟩ ?_
            exact gv_iret hD rfl ⟨I145, J146, rfl, hI145, FI145, FJ146, KTM_I145, ⟨_, rfl, by omega⟩⟩
          refine gv_run 1 true hD (pc' := 116) (lv' := [(0, .inr (.inr (some 0))), (1, .inl a1), (2, .inl v2_147)]) (st' := [.inl v2_147]) (h' := gr_h I145 J146) (C := (True ∧ True)) rfl ⟨trivial, trivial⟩ ?_
          refine gv_if_lt (t := 175) hD rfl rfl ⟨by omega, by omega⟩ (fun c233 => ?_) (fun c233 => ?_)
          · refine gv_pick [2] rfl ?_
            exact L175 (by omega)
          · refine gv_run 2 true hD (pc' := 122) (lv' := [(0, .inr (.inr (some 0))), (1, .inl a1), (2, .inl v2_147)]) (st' := [.inl 40, .inr (.inr (some 0))]) (h' := gr_h I145 J146) (C := ((True ∧ True) ∧ True)) rfl ⟨⟨trivial, trivial⟩, trivial⟩ ?_
            obtain ⟨r234, h234, E234, P234⟩ := r_sign (ws0 := ws0) (tb := tb) hws htb ext I145 J146 hI145 40 ⟨by omega, by omega⟩ (by omega)
            obtain ⟨rfl, ⟨z234, rfl, q234⟩⟩ := P234
            refine gv_callV hD rfl (As := [.inl 40]) (st := []) rfl (by decide) rfl rfl (gr_lV hws rfl) (Nat.le_of_ble_eq_true rfl) (gz_Ev_mono (d := 1) (by omega) E234) ?_
            show gv_X _ _ (125, [(0, .inr (.inr (some 0))), (1, .inl a1), (2, .inl v2_147)], [.inl z234], gr_sh ++ ext, gr_h I145 J146)
            refine gv_if_eq (t := 175) hD rfl rfl ⟨by omega, by omega⟩ (fun c235 => ?_) (fun c235 => ?_)
            · refine gv_pick [2] rfl ?_
              exact L175 (by omega)
            · exact L128 _ I145 J146 v2_147 (Nat.lt_succ_self _) hI145 FI145 FJ146 KTM_I145 (by omega)
      refine gv_run 2 true hD (pc' := 111) (lv' := [(0, .inr (.inr (some 0))), (1, .inl a1)]) (st' := [.inl a1, .inr (.inr (some 0))]) (h' := gr_h I J) (C := ((True ∧ True) ∧ True)) rfl ⟨⟨trivial, trivial⟩, trivial⟩ ?_
      obtain ⟨r236, h236, E236, P236⟩ := r_atom (ws0 := ws0) (tb := tb) hws htb ext nr ihR I J hI a1 ⟨by omega, by omega⟩ (by omega) (by omega) (by omega) (by omega) (by omega) (by omega) (by omega) KTM_I (by omega)
      obtain ⟨I237, J238, rfl, hI237, g236, k236, KTM_I237, ⟨z236, rfl, q236⟩⟩ := P236
      have FI237 := gr_frt FI g236 rfl rfl
      have FJ238 := gr_fjt FJ k236 rfl rfl
      have t239 := g236 0 69 rfl
      have t240 := g236 0 123 rfl
      have f241 := (show 0 ≤ I237 0 71 ∧ I237 0 71 ≤ 5 from (hI237 0 71).1)
      have f242 := (show 0 ≤ I237 0 72 ∧ I237 0 72 ≤ 1000 from (hI237 0 72).1)
      have f243 := (show 0 ≤ I237 0 73 ∧ I237 0 73 ≤ 1001 from (hI237 0 73).1)
      have f244 := (show 0 ≤ I237 0 69 ∧ I237 0 69 ≤ 1000 from (hI237 0 69).1)
      have f245 := (show 0 ≤ I237 0 64 ∧ I237 0 64 ≤ 2000 from (hI237 0 64).1)
      have f246 := (show 0 ≤ I237 0 122 ∧ I237 0 122 ≤ 47 from (hI237 0 122).1)
      have f247 := (show 0 ≤ I237 0 123 ∧ I237 0 123 ≤ 95 from (hI237 0 123).1)
      refine gv_callV hD rfl (As := [.inl a1]) (st := []) rfl (by decide) rfl rfl (gr_lV hws rfl) (Nat.le_of_ble_eq_true rfl) (gz_Ev_mono (d := (14 + 2 * nr + 1)) (Nat.le_refl _) E236) ?_
      show gv_X _ _ (114, [(0, .inr (.inr (some 0))), (1, .inl a1)], [.inl z236], gr_sh ++ ext, gr_h I237 J238)
      refine gv_run 1 true hD (pc' := 115) (lv' := [(2, .inl z236), (0, .inr (.inr (some 0))), (1, .inl a1)]) (st' := []) (h' := gr_h I237 J238) (C := (True ∧ True)) rfl ⟨trivial, trivial⟩ ?_
      refine gv_pick [1, 2, 0] rfl ?_
      exact L115 _ I237 J238 z236 (Nat.lt_succ_self _) hI237 FI237 FJ238 KTM_I237 (by omega)
    refine gv_run 2 true hD (pc' := 15) (lv' := [(0, .inr (.inr (some 0))), (1, .inl a1)]) (st' := [.inl 92, .inr (.inr (some 0))]) (h' := gr_h I J) (C := ((True ∧ True) ∧ True)) rfl ⟨⟨trivial, trivial⟩, trivial⟩ ?_
    obtain ⟨r248, h248, E248, P248⟩ := r_sign (ws0 := ws0) (tb := tb) hws htb ext I J hI 92 ⟨by omega, by omega⟩ (by omega)
    obtain ⟨rfl, ⟨z248, rfl, q248⟩⟩ := P248
    refine gv_callV hD rfl (As := [.inl 92]) (st := []) rfl (by decide) rfl rfl (gr_lV hws rfl) (Nat.le_of_ble_eq_true rfl) (gz_Ev_mono (d := 1) (by omega) E248) ?_
    show gv_X _ _ (18, [(0, .inr (.inr (some 0))), (1, .inl a1)], [.inl z248], gr_sh ++ ext, gr_h I J)
    refine gv_if_eq (t := 109) hD rfl rfl ⟨by omega, by omega⟩ (fun c249 => ?_) (fun c249 => ?_)
    · exact L109 (by omega)
    · refine gv_run 1 true hD (pc' := 22) (lv' := [(0, .inr (.inr (some 0))), (1, .inl a1)]) (st' := [.inr (.inr (some 0))]) (h' := gr_h I J) (C := (True ∧ True)) rfl ⟨trivial, trivial⟩ ?_
      obtain ⟨r250, h250, E250, P250⟩ := r_next (ws0 := ws0) (tb := tb) hws htb ext I J hI   (by omega)
      obtain ⟨I251, J252, rfl, hI251, g250, k250, ⟨rfl, q250⟩⟩ := P250
      have FI251 := gr_frt FI g250 rfl rfl
      have FJ252 := gr_fjt FJ k250 rfl rfl
      have t253 := g250 0 69 rfl
      have t254 := g250 0 64 rfl
      have t255 := g250 0 122 rfl
      have t256 := g250 0 123 rfl
      have f257 := (show 0 ≤ I251 0 71 ∧ I251 0 71 ≤ 5 from (hI251 0 71).1)
      have f258 := (show 0 ≤ I251 0 72 ∧ I251 0 72 ≤ 1000 from (hI251 0 72).1)
      have f259 := (show 0 ≤ I251 0 73 ∧ I251 0 73 ≤ 1001 from (hI251 0 73).1)
      have f260 := (show 0 ≤ I251 0 69 ∧ I251 0 69 ≤ 1000 from (hI251 0 69).1)
      have f261 := (show 0 ≤ I251 0 64 ∧ I251 0 64 ≤ 2000 from (hI251 0 64).1)
      have f262 := (show 0 ≤ I251 0 122 ∧ I251 0 122 ≤ 47 from (hI251 0 122).1)
      have f263 := (show 0 ≤ I251 0 123 ∧ I251 0 123 ≤ 95 from (hI251 0 123).1)
      have KTM_I251 := gr_TM_fr KTM_I (fun k => g250 52 k rfl) (fun k => g250 53 k rfl) (fun k => g250 54 k rfl) (g250 0 64 rfl)
      refine gv_callV hD rfl (As := []) (st := []) rfl (by decide) rfl rfl (gr_lV hws rfl) (Nat.le_of_ble_eq_true rfl) (gz_Ev_mono (d := 10) (by omega) E250) ?_
      show gv_X _ _ (25, [(0, .inr (.inr (some 0))), (1, .inl a1)], [], gr_sh ++ ext, gr_h I251 J252)
      have f264 := (show 0 ≤ I251 0 71 ∧ I251 0 71 ≤ 5 from (hI251 0 71).1)
      refine gv_run 3 true hD (pc' := 30) (lv' := [(0, .inr (.inr (some 0))), (1, .inl a1)]) (st' := [.inl 1, .inl (I251 0 71)]) (h' := gr_h I251 J252) (C := (((True ∧ True) ∧ True) ∧ True)) rfl ⟨⟨⟨trivial, trivial⟩, trivial⟩, trivial⟩ ?_
      refine gv_icmp_eq (t := 39) hD rfl rfl ⟨⟨by omega, by omega⟩, ⟨by omega, by omega⟩⟩ (fun c265 => ?_) (fun c265 => ?_)
      · exact L39 I251 J252 hI251 FI251 FJ252 KTM_I251 (by omega)
      · refine gv_run 2 true hD (pc' := 35) (lv' := [(0, .inr (.inr (some 0))), (1, .inl a1)]) (st' := [.inl 1, .inr (.inr (some 0))]) (h' := gr_h I251 J252) (C := ((True ∧ True) ∧ True)) rfl ⟨⟨trivial, trivial⟩, trivial⟩ ?_
        obtain ⟨r266, h266, E266, P266⟩ := r_none (ws0 := ws0) (tb := tb) hws htb ext I251 J252 hI251 1 ⟨by omega, by omega⟩ 
        obtain ⟨I267, J268, rfl, hI267, g266, k266, ⟨z266, rfl, q266⟩⟩ := P266
        have FI267 := gr_frt FI251 g266 rfl rfl
        have FJ268 := gr_fjt FJ252 k266 rfl rfl
        have t269 := g266 0 71 rfl
        have t270 := g266 0 72 rfl
        have t271 := g266 0 73 rfl
        have t272 := g266 0 69 rfl
        have t273 := g266 0 64 rfl
        have t274 := g266 0 122 rfl
        have t275 := g266 0 123 rfl
        have f276 := (show 0 ≤ I267 0 71 ∧ I267 0 71 ≤ 5 from (hI267 0 71).1)
        have f277 := (show 0 ≤ I267 0 72 ∧ I267 0 72 ≤ 1000 from (hI267 0 72).1)
        have f278 := (show 0 ≤ I267 0 73 ∧ I267 0 73 ≤ 1001 from (hI267 0 73).1)
        have f279 := (show 0 ≤ I267 0 69 ∧ I267 0 69 ≤ 1000 from (hI267 0 69).1)
        have f280 := (show 0 ≤ I267 0 64 ∧ I267 0 64 ≤ 2000 from (hI267 0 64).1)
        have f281 := (show 0 ≤ I267 0 122 ∧ I267 0 122 ≤ 47 from (hI267 0 122).1)
        have f282 := (show 0 ≤ I267 0 123 ∧ I267 0 123 ≤ 95 from (hI267 0 123).1)
        have KTM_I267 := gr_TM_fr KTM_I251 (fun k => g266 52 k rfl) (fun k => g266 53 k rfl) (fun k => g266 54 k rfl) (g266 0 64 rfl)
        refine gv_callV hD rfl (As := [.inl 1]) (st := []) rfl (by decide) rfl rfl (gr_lV hws rfl) (Nat.le_of_ble_eq_true rfl) (gz_Ev_mono (d := 3) (by omega) E266) ?_
        show gv_X _ _ (38, [(0, .inr (.inr (some 0))), (1, .inl a1)], [.inl z266], gr_sh ++ ext, gr_h I267 J268)
        exact gv_iret hD rfl ⟨I267, J268, rfl, hI267, FI267, FJ268, KTM_I267, ⟨_, rfl, by omega⟩⟩
  refine gv_run 2 true hD (pc' := 3) (lv' := [(0, .inr (.inr (some 0))), (1, .inl a1)]) (st' := [.inl 40, .inl a1]) (h' := gr_h I J) (C := ((True ∧ True) ∧ True)) rfl ⟨⟨trivial, trivial⟩, trivial⟩ ?_
  refine gv_icmp_le (t := 12) hD rfl rfl ⟨⟨by omega, by omega⟩, ⟨by omega, by omega⟩⟩ (fun c283 => ?_) (fun c283 => ?_)
  · exact L12 (by omega)
  · refine gv_run 2 true hD (pc' := 8) (lv' := [(0, .inr (.inr (some 0))), (1, .inl a1)]) (st' := [.inl 5, .inr (.inr (some 0))]) (h' := gr_h I J) (C := ((True ∧ True) ∧ True)) rfl ⟨⟨trivial, trivial⟩, trivial⟩ ?_
    obtain ⟨r284, h284, E284, P284⟩ := r_none (ws0 := ws0) (tb := tb) hws htb ext I J hI 5 ⟨by omega, by omega⟩ 
    obtain ⟨I285, J286, rfl, hI285, g284, k284, ⟨z284, rfl, q284⟩⟩ := P284
    have FI285 := gr_frt FI g284 rfl rfl
    have FJ286 := gr_fjt FJ k284 rfl rfl
    have t287 := g284 0 71 rfl
    have t288 := g284 0 72 rfl
    have t289 := g284 0 73 rfl
    have t290 := g284 0 69 rfl
    have t291 := g284 0 64 rfl
    have t292 := g284 0 122 rfl
    have t293 := g284 0 123 rfl
    have f294 := (show 0 ≤ I285 0 71 ∧ I285 0 71 ≤ 5 from (hI285 0 71).1)
    have f295 := (show 0 ≤ I285 0 72 ∧ I285 0 72 ≤ 1000 from (hI285 0 72).1)
    have f296 := (show 0 ≤ I285 0 73 ∧ I285 0 73 ≤ 1001 from (hI285 0 73).1)
    have f297 := (show 0 ≤ I285 0 69 ∧ I285 0 69 ≤ 1000 from (hI285 0 69).1)
    have f298 := (show 0 ≤ I285 0 64 ∧ I285 0 64 ≤ 2000 from (hI285 0 64).1)
    have f299 := (show 0 ≤ I285 0 122 ∧ I285 0 122 ≤ 47 from (hI285 0 122).1)
    have f300 := (show 0 ≤ I285 0 123 ∧ I285 0 123 ≤ 95 from (hI285 0 123).1)
    have KTM_I285 := gr_TM_fr KTM_I (fun k => g284 52 k rfl) (fun k => g284 53 k rfl) (fun k => g284 54 k rfl) (g284 0 64 rfl)
    refine gv_callV hD rfl (As := [.inl 5]) (st := []) rfl (by decide) rfl rfl (gr_lV hws rfl) (Nat.le_of_ble_eq_true rfl) (gz_Ev_mono (d := 3) (by omega) E284) ?_
    show gv_X _ _ (11, [(0, .inr (.inr (some 0))), (1, .inl a1)], [.inl z284], gr_sh ++ ext, gr_h I285 J286)
    exact gv_iret hD rfl ⟨I285, J286, rfl, hI285, FI285, FJ286, KTM_I285, ⟨_, rfl, by omega⟩⟩
