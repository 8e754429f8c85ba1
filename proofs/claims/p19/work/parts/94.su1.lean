set_option maxHeartbeats 16000000 in
set_option maxRecDepth 100000 in
theorem r_atom_p {ws0 : List Cond} {tb : String → gz_T} (hws : ∀ w ∈ gr_ws, w ∈ ws0) (htb : tb RX13 = gr_T) (ext : gz_Sh) (nr : Nat) (ihR : ∀ (I : gr_I) (J : gr_J) (hI : gr_Inv I) (a1 : Int) (β : Int → Int) (N9 : Int) (p9 : Int) (m9 : Int) (ha1 : 1 ≤ a1 ∧ a1 ≤ 41) (x0 : I 0 71 = 5 ∨ I 0 73 ≤ I 0 69) (x1 : I 0 72 ≤ I 0 69) (x2 : I 0 71 = 0 ∨ (I 0 72 < I 0 73 ∧ I 0 72 < I 0 69)) (x3 : I 0 71 = 3 → 2 ≤ I 0 73 - I 0 72 ∧ I 0 73 - I 0 72 ≤ 14) (x4 : I 0 72 ≤ I 0 73) (x5 : I 0 64 + I 0 69 - I 0 72 ≤ 1900) (x6 : I 0 122 ≤ a1) (x7 : I 0 123 < I 0 3) (x8 : gr_ATp β N9 p9 I J) (x9 : 0 ≤ p9) (x10 : 4 * (1001 - gs_A β N9 p9) + 4 ≤ m9) (KTM_I : gr_TM I) (KTO_I : gr_TO I) (_ : (42 - a1).toNat < nr), ∃ r h', gz_Ev ws0 tb (14 + 2 * nr) (yX13_term, cX13_term, 4, (some .int)) [.inr (.inr (some 0)), .inl a1] (gr_sh ++ ext) (gr_h I J) r (gr_sh ++ ext) h' 0 0 ∧ (∃ (I' : gr_I) (J' : gr_J), h' = gr_h I' J' ∧ gr_Inv I' ∧ gr_fr [64, 71, 72, 73, 74, 75, 76, 77, 122] [52, 53, 54, 55, 75] I I' ∧ gr_fj [64, 71, 72, 73, 74, 75, 76, 77, 122] [52, 53, 54, 55, 75] J J' ∧ gr_TM I' ∧ gr_TO I' ∧ (∃ z : Int, r = some (.inl z) ∧ (-1) ≤ z ∧ z ≤ 1999 ∧ (I' 0 71 = 5 ∨ I' 0 73 ≤ I' 0 69) ∧ (I' 0 72 ≤ I' 0 69) ∧ (I' 0 71 = 0 ∨ (I' 0 72 < I' 0 73 ∧ I' 0 72 < I' 0 69)) ∧ (I' 0 71 = 3 → 2 ≤ I' 0 73 - I' 0 72 ∧ I' 0 73 - I' 0 72 ≤ 14) ∧ ((I' 0 72 ≤ I' 0 73) ∧ gs_TQ β N9 (gs_tm β N9 (I 6 (Int.toNat (I 0 123))) m9 0 a1 p9) z I I' J') ∧ (I' 0 69 = I 0 69) ∧ (I 0 73 ≤ I' 0 73) ∧ (I 0 72 ≤ I' 0 72) ∧ (I 0 64 ≤ I' 0 64) ∧ (I' 0 64 - I' 0 72 ≤ I 0 64 - I 0 72) ∧ (I 0 122 ≤ I' 0 122) ∧ (z < 0 ∨ I' 0 122 = I 0 122) ∧ (z < I' 0 64) ∧ (z < 0 ∨ I 0 72 < I' 0 72) ∧ (gr_OWN z (I 0 123) (I 0 122) I') ∧ (gr_TS9 I I')))) (I : gr_I) (J : gr_J) (hI : gr_Inv I) (a1 : Int) (β : Int → Int) (N9 : Int) (p9 : Int) (m9 : Int) (ha1 : 1 ≤ a1 ∧ a1 ≤ 40) (x0 : I 0 71 = 5 ∨ I 0 73 ≤ I 0 69) (x1 : I 0 72 ≤ I 0 69) (x2 : I 0 71 = 0 ∨ (I 0 72 < I 0 73 ∧ I 0 72 < I 0 69)) (x3 : I 0 71 = 3 → 2 ≤ I 0 73 - I 0 72 ∧ I 0 73 - I 0 72 ≤ 14) (x4 : I 0 72 ≤ I 0 73) (x5 : I 0 64 + I 0 69 - I 0 72 ≤ 1900) (x6 : I 0 122 ≤ a1) (x7 : I 0 123 < I 0 3) (x8 : gr_ATp β N9 p9 I J) (x9 : 0 ≤ p9) (x10 : 4 * (1001 - gs_A β N9 p9) + 3 ≤ m9) (KTM_I : gr_TM I) (KTO_I : gr_TO I) (hnr : (41 - a1).toNat < nr) : ∃ r h', gz_Ev ws0 tb (14 + 2 * nr + 1) (yX13_atom, cX13_atom, 4, (some .int)) [.inr (.inr (some 0)), .inl a1] (gr_sh ++ ext) (gr_h I J) r (gr_sh ++ ext) h' 0 0 ∧ (∃ (I' : gr_I) (J' : gr_J), h' = gr_h I' J' ∧ gr_Inv I' ∧ gr_fr [64, 71, 72, 73, 74, 75, 76, 77, 122] [52, 53, 54, 55, 75] I I' ∧ gr_fj [64, 71, 72, 73, 74, 75, 76, 77, 122] [52, 53, 54, 55, 75] J J' ∧ gr_TM I' ∧ gr_TO I' ∧ (∃ z : Int, r = some (.inl z) ∧ (-1) ≤ z ∧ z ≤ 1999 ∧ (I' 0 71 = 5 ∨ I' 0 73 ≤ I' 0 69) ∧ (I' 0 72 ≤ I' 0 69) ∧ (I' 0 71 = 0 ∨ (I' 0 72 < I' 0 73 ∧ I' 0 72 < I' 0 69)) ∧ (I' 0 71 = 3 → 2 ≤ I' 0 73 - I' 0 72 ∧ I' 0 73 - I' 0 72 ≤ 14) ∧ ((I' 0 72 ≤ I' 0 73) ∧ gs_TQ β N9 (gs_tm β N9 (I 6 (Int.toNat (I 0 123))) m9 1 a1 p9) z I I' J') ∧ (I' 0 69 = I 0 69) ∧ (I 0 73 ≤ I' 0 73) ∧ (I 0 72 ≤ I' 0 72) ∧ (I 0 64 ≤ I' 0 64) ∧ (I' 0 64 - I' 0 72 ≤ I 0 64 - I 0 72) ∧ (I 0 122 ≤ I' 0 122) ∧ (z < 0 ∨ I' 0 122 = I 0 122) ∧ (z < I' 0 64) ∧ (z < 0 ∨ I 0 72 < I' 0 72) ∧ (gr_OWN z (I 0 123) (I 0 122) I') ∧ (gr_TS9 I I'))) := by
  have FI : gr_fr [64, 71, 72, 73, 74, 75, 76, 77, 122] [52, 53, 54, 55, 75] I I := fun _ _ _ => rfl
  have FJ : gr_fj [64, 71, 72, 73, 74, 75, 76, 77, 122] [52, 53, 54, 55, 75] J J := fun _ _ _ => rfl
  have hD : gv_D (gr_E ws0 tb (14 + 2 * nr) (yX13_atom, cX13_atom, 4, (some .int)) kX13_atom) := gq_ok oX13_atom
  refine gr_ev (d := (14 + 2 * nr)) (l := kX13_atom) (Po := fun r h' => (∃ (I' : gr_I) (J' : gr_J), h' = gr_h I' J' ∧ gr_Inv I' ∧ gr_fr [64, 71, 72, 73, 74, 75, 76, 77, 122] [52, 53, 54, 55, 75] I I' ∧ gr_fj [64, 71, 72, 73, 74, 75, 76, 77, 122] [52, 53, 54, 55, 75] J J' ∧ gr_TM I' ∧ gr_TO I' ∧ (∃ z : Int, r = some (.inl z) ∧ (-1) ≤ z ∧ z ≤ 1999 ∧ (I' 0 71 = 5 ∨ I' 0 73 ≤ I' 0 69) ∧ (I' 0 72 ≤ I' 0 69) ∧ (I' 0 71 = 0 ∨ (I' 0 72 < I' 0 73 ∧ I' 0 72 < I' 0 69)) ∧ (I' 0 71 = 3 → 2 ≤ I' 0 73 - I' 0 72 ∧ I' 0 73 - I' 0 72 ≤ 14) ∧ ((I' 0 72 ≤ I' 0 73) ∧ gs_TQ β N9 (gs_tm β N9 (I 6 (Int.toNat (I 0 123))) m9 1 a1 p9) z I I' J') ∧ (I' 0 69 = I 0 69) ∧ (I 0 73 ≤ I' 0 73) ∧ (I 0 72 ≤ I' 0 72) ∧ (I 0 64 ≤ I' 0 64) ∧ (I' 0 64 - I' 0 72 ≤ I 0 64 - I 0 72) ∧ (I 0 122 ≤ I' 0 122) ∧ (z < 0 ∨ I' 0 122 = I 0 122) ∧ (z < I' 0 64) ∧ (z < 0 ∨ I 0 72 < I' 0 72) ∧ (gr_OWN z (I 0 123) (I 0 122) I') ∧ (gr_TS9 I I')))) htb rfl (Nat.le_of_ble_eq_true rfl) ?_
  have tAT := gr_ATp_l x8
  clear x0 x2 x3
  have f1 := (show 0 ≤ I 0 71 ∧ I 0 71 ≤ 5 from (hI 0 71).1)
  have f2 := (show 0 ≤ I 0 72 ∧ I 0 72 ≤ 1000 from (hI 0 72).1)
  have f3 := (show 0 ≤ I 0 73 ∧ I 0 73 ≤ 1001 from (hI 0 73).1)
  have f4 := (show 0 ≤ I 0 69 ∧ I 0 69 ≤ 1000 from (hI 0 69).1)
  have f5 := (show 0 ≤ I 0 64 ∧ I 0 64 ≤ 2000 from (hI 0 64).1)
  have f6 := (show 0 ≤ I 0 122 ∧ I 0 122 ≤ 47 from (hI 0 122).1)
  have f7 := (show 0 ≤ I 0 123 ∧ I 0 123 ≤ 95 from (hI 0 123).1)
  have f8 := (show 0 ≤ I 0 3 ∧ I 0 3 ≤ 96 from (hI 0 3).1)
  have f9 := (show 0 ≤ I 0 74 ∧ I 0 74 ≤ 999999 from (hI 0 74).1)
  have f10 := (show (-1) ≤ I 0 77 ∧ I 0 77 ≤ 1001 from (hI 0 77).1)
  have L15 : ∀ (n : Nat) (v2_11 : Int), (v2_11 - (-2)).toNat < n → (((-1) ≤ v2_11 ∧ v2_11 ≤ 46) ∧ (v2_11 < I 0 122) ∧ (I 0 71 = 1) ∧ (gs_T β N9 p9 = 1) ∧ (I 0 72 ≤ I 0 69) ∧ (I 0 72 ≤ I 0 73) ∧ (I 0 69 = I 0 69) ∧ (I 0 73 ≤ I 0 73) ∧ (I 0 72 ≤ I 0 72)) → gv_X (gr_E ws0 tb (14 + 2 * nr) (yX13_atom, cX13_atom, 4, (some .int)) kX13_atom) (gv_Q cX13_atom (some .int) (gr_sh ++ ext) (fun r h' => (∃ (I' : gr_I) (J' : gr_J), h' = gr_h I' J' ∧ gr_Inv I' ∧ gr_fr [64, 71, 72, 73, 74, 75, 76, 77, 122] [52, 53, 54, 55, 75] I I' ∧ gr_fj [64, 71, 72, 73, 74, 75, 76, 77, 122] [52, 53, 54, 55, 75] J J' ∧ gr_TM I' ∧ gr_TO I' ∧ (∃ z : Int, r = some (.inl z) ∧ (-1) ≤ z ∧ z ≤ 1999 ∧ (I' 0 71 = 5 ∨ I' 0 73 ≤ I' 0 69) ∧ (I' 0 72 ≤ I' 0 69) ∧ (I' 0 71 = 0 ∨ (I' 0 72 < I' 0 73 ∧ I' 0 72 < I' 0 69)) ∧ (I' 0 71 = 3 → 2 ≤ I' 0 73 - I' 0 72 ∧ I' 0 73 - I' 0 72 ≤ 14) ∧ ((I' 0 72 ≤ I' 0 73) ∧ gs_TQ β N9 (gs_tm β N9 (I 6 (Int.toNat (I 0 123))) m9 1 a1 p9) z I I' J') ∧ (I' 0 69 = I 0 69) ∧ (I 0 73 ≤ I' 0 73) ∧ (I 0 72 ≤ I' 0 72) ∧ (I 0 64 ≤ I' 0 64) ∧ (I' 0 64 - I' 0 72 ≤ I 0 64 - I 0 72) ∧ (I 0 122 ≤ I' 0 122) ∧ (z < 0 ∨ I' 0 122 = I 0 122) ∧ (z < I' 0 64) ∧ (z < 0 ∨ I 0 72 < I' 0 72) ∧ (gr_OWN z (I 0 123) (I 0 122) I') ∧ (gr_TS9 I I'))))) (15, [(0, .inr (.inr (some 0))), (2, .inl v2_11)], [], gr_sh ++ ext, gr_h I J) := by
    intro n
    induction n with
    | zero => intro v2_11 hn; omega
    | succ n ih15 =>
      intro v2_11 hn m_11
      obtain ⟨hv2_11, e0_11, e1_11, e2_11, e3_11, e4_11, e5_11, e6_11, e7_11⟩ := m_11
      have f12 := (show 0 ≤ I 0 71 ∧ I 0 71 ≤ 5 from (hI 0 71).1)
      have f13 := (show 0 ≤ I 0 72 ∧ I 0 72 ≤ 1000 from (hI 0 72).1)
      have f14 := (show 0 ≤ I 0 73 ∧ I 0 73 ≤ 1001 from (hI 0 73).1)
      have f15 := (show 0 ≤ I 0 69 ∧ I 0 69 ≤ 1000 from (hI 0 69).1)
      have f16 := (show 0 ≤ I 0 64 ∧ I 0 64 ≤ 2000 from (hI 0 64).1)
      have f17 := (show 0 ≤ I 0 122 ∧ I 0 122 ≤ 47 from (hI 0 122).1)
      have f18 := (show 0 ≤ I 0 123 ∧ I 0 123 ≤ 95 from (hI 0 123).1)
      have f19 := (show 0 ≤ I 0 3 ∧ I 0 3 ≤ 96 from (hI 0 3).1)
      have f20 := (show 0 ≤ I 0 74 ∧ I 0 74 ≤ 999999 from (hI 0 74).1)
      have f21 := (show (-1) ≤ I 0 77 ∧ I 0 77 ≤ 1001 from (hI 0 77).1)
      have L39 : (((-1) ≤ v2_11 ∧ v2_11 ≤ 46) ∧ (v2_11 < I 0 122) ∧ (I 0 71 = 1) ∧ (gs_T β N9 p9 = 1) ∧ (I 0 72 ≤ I 0 69) ∧ (I 0 72 ≤ I 0 73) ∧ (I 0 69 = I 0 69) ∧ (I 0 73 ≤ I 0 73) ∧ (I 0 72 ≤ I 0 72)) → gv_X (gr_E ws0 tb (14 + 2 * nr) (yX13_atom, cX13_atom, 4, (some .int)) kX13_atom) (gv_Q cX13_atom (some .int) (gr_sh ++ ext) (fun r h' => (∃ (I' : gr_I) (J' : gr_J), h' = gr_h I' J' ∧ gr_Inv I' ∧ gr_fr [64, 71, 72, 73, 74, 75, 76, 77, 122] [52, 53, 54, 55, 75] I I' ∧ gr_fj [64, 71, 72, 73, 74, 75, 76, 77, 122] [52, 53, 54, 55, 75] J J' ∧ gr_TM I' ∧ gr_TO I' ∧ (∃ z : Int, r = some (.inl z) ∧ (-1) ≤ z ∧ z ≤ 1999 ∧ (I' 0 71 = 5 ∨ I' 0 73 ≤ I' 0 69) ∧ (I' 0 72 ≤ I' 0 69) ∧ (I' 0 71 = 0 ∨ (I' 0 72 < I' 0 73 ∧ I' 0 72 < I' 0 69)) ∧ (I' 0 71 = 3 → 2 ≤ I' 0 73 - I' 0 72 ∧ I' 0 73 - I' 0 72 ≤ 14) ∧ ((I' 0 72 ≤ I' 0 73) ∧ gs_TQ β N9 (gs_tm β N9 (I 6 (Int.toNat (I 0 123))) m9 1 a1 p9) z I I' J') ∧ (I' 0 69 = I 0 69) ∧ (I 0 73 ≤ I' 0 73) ∧ (I 0 72 ≤ I' 0 72) ∧ (I 0 64 ≤ I' 0 64) ∧ (I' 0 64 - I' 0 72 ≤ I 0 64 - I 0 72) ∧ (I 0 122 ≤ I' 0 122) ∧ (z < 0 ∨ I' 0 122 = I 0 122) ∧ (z < I' 0 64) ∧ (z < 0 ∨ I 0 72 < I' 0 72) ∧ (gr_OWN z (I 0 123) (I 0 122) I') ∧ (gr_TS9 I I'))))) (39, [(0, .inr (.inr (some 0))), (2, .inl v2_11)], [], gr_sh ++ ext, gr_h I J) := by
        intro m_22
        obtain ⟨hv2_11_22, e0_22, e1_22, e2_22, e3_22, e4_22, e5_22, e6_22, e7_22⟩ := m_22
        have f23 := (show 0 ≤ I 0 71 ∧ I 0 71 ≤ 5 from (hI 0 71).1)
        have f24 := (show 0 ≤ I 0 72 ∧ I 0 72 ≤ 1000 from (hI 0 72).1)
        have f25 := (show 0 ≤ I 0 73 ∧ I 0 73 ≤ 1001 from (hI 0 73).1)
        have f26 := (show 0 ≤ I 0 69 ∧ I 0 69 ≤ 1000 from (hI 0 69).1)
        have f27 := (show 0 ≤ I 0 64 ∧ I 0 64 ≤ 2000 from (hI 0 64).1)
        have f28 := (show 0 ≤ I 0 122 ∧ I 0 122 ≤ 47 from (hI 0 122).1)
        have f29 := (show 0 ≤ I 0 123 ∧ I 0 123 ≤ 95 from (hI 0 123).1)
        have f30 := (show 0 ≤ I 0 3 ∧ I 0 3 ≤ 96 from (hI 0 3).1)
        have f31 := (show 0 ≤ I 0 74 ∧ I 0 74 ≤ 999999 from (hI 0 74).1)
        have f32 := (show (-1) ≤ I 0 77 ∧ I 0 77 ≤ 1001 from (hI 0 77).1)
        have L72 : ∀ (I33 : gr_I) (J34 : gr_J) (s0_35 : Int) (p_35 : Int), gr_Inv I33 → gr_fr [64, 71, 72, 73, 74, 75, 76, 77, 122] [52, 53, 54, 55, 75] I I33 → gr_fj [64, 71, 72, 73, 74, 75, 76, 77, 122] [52, 53, 54, 55, 75] J J34 → gr_TM I33 → gr_TO I33 → ((0 ≤ s0_35 ∧ s0_35 ≤ 1999) ∧ (I33 0 64 = I 0 64 + 1) ∧ (I33 0 72 = I 0 72) ∧ (I33 0 73 = I 0 73) ∧ (s0_35 = I 0 64) ∧ (I33 0 71 = 1) ∧ (I33 0 122 = I 0 122) ∧ (0 ≤ p_35) ∧ (I33 0 72 ≤ I33 0 69) ∧ (I33 0 72 ≤ I33 0 73) ∧ (I33 0 69 = I 0 69) ∧ (I 0 73 ≤ I33 0 73) ∧ (I 0 72 ≤ I33 0 72)) → (gr_TS9 I I33) → (gr_OWN s0_35 (I 0 123) (I 0 122) I33) → (gr_ATp β N9 p_35 I33 J34) → (p_35 = p9) → (gs_T β N9 p9 = 1) → gv_X (gr_E ws0 tb (14 + 2 * nr) (yX13_atom, cX13_atom, 4, (some .int)) kX13_atom) (gv_Q cX13_atom (some .int) (gr_sh ++ ext) (fun r h' => (∃ (I' : gr_I) (J' : gr_J), h' = gr_h I' J' ∧ gr_Inv I' ∧ gr_fr [64, 71, 72, 73, 74, 75, 76, 77, 122] [52, 53, 54, 55, 75] I I' ∧ gr_fj [64, 71, 72, 73, 74, 75, 76, 77, 122] [52, 53, 54, 55, 75] J J' ∧ gr_TM I' ∧ gr_TO I' ∧ (∃ z : Int, r = some (.inl z) ∧ (-1) ≤ z ∧ z ≤ 1999 ∧ (I' 0 71 = 5 ∨ I' 0 73 ≤ I' 0 69) ∧ (I' 0 72 ≤ I' 0 69) ∧ (I' 0 71 = 0 ∨ (I' 0 72 < I' 0 73 ∧ I' 0 72 < I' 0 69)) ∧ (I' 0 71 = 3 → 2 ≤ I' 0 73 - I' 0 72 ∧ I' 0 73 - I' 0 72 ≤ 14) ∧ ((I' 0 72 ≤ I' 0 73) ∧ gs_TQ β N9 (gs_tm β N9 (I 6 (Int.toNat (I 0 123))) m9 1 a1 p9) z I I' J') ∧ (I' 0 69 = I 0 69) ∧ (I 0 73 ≤ I' 0 73) ∧ (I 0 72 ≤ I' 0 72) ∧ (I 0 64 ≤ I' 0 64) ∧ (I' 0 64 - I' 0 72 ≤ I 0 64 - I 0 72) ∧ (I 0 122 ≤ I' 0 122) ∧ (z < 0 ∨ I' 0 122 = I 0 122) ∧ (z < I' 0 64) ∧ (z < 0 ∨ I 0 72 < I' 0 72) ∧ (gr_OWN z (I 0 123) (I 0 122) I') ∧ (gr_TS9 I I'))))) (72, [(0, .inr (.inr (some 0)))], [.inl s0_35], gr_sh ++ ext, gr_h I33 J34) := by
          intro I33 J34 s0_35 p_35 hI33 FI33 FJ34 KTM_I33 KTO_I33 m_35 e6_35 e7_35 e9_35 e10_35 e11_35
          clear hv2_11_22 e0_22 e1_22 e2_22 e3_22 e4_22 e5_22 e6_22 e7_22 f23 f24 f25 f26 f27 f28 f29 f30 f31 f32 hv2_11 e0_11 e1_11 e2_11 e3_11 e4_11 e5_11 e6_11 e7_11 f12 f13 f14 f15 f16 f17 f18 f19 f20 f21
          obtain ⟨hs0_35, e0_35, e1_35, e2_35, e3_35, e4_35, e5_35, e8_35, e12_35, e13_35, e14_35, e15_35, e16_35⟩ := m_35
          have f36 := (show 0 ≤ I33 0 71 ∧ I33 0 71 ≤ 5 from (hI33 0 71).1)
          have f37 := (show 0 ≤ I33 0 72 ∧ I33 0 72 ≤ 1000 from (hI33 0 72).1)
          have f38 := (show 0 ≤ I33 0 73 ∧ I33 0 73 ≤ 1001 from (hI33 0 73).1)
          have f39 := (show 0 ≤ I33 0 69 ∧ I33 0 69 ≤ 1000 from (hI33 0 69).1)
          have f40 := (show 0 ≤ I33 0 64 ∧ I33 0 64 ≤ 2000 from (hI33 0 64).1)
          have f41 := (show 0 ≤ I33 0 122 ∧ I33 0 122 ≤ 47 from (hI33 0 122).1)
          have f42 := (show 0 ≤ I33 0 123 ∧ I33 0 123 ≤ 95 from (hI33 0 123).1)
          have f43 := (show 0 ≤ I33 0 3 ∧ I33 0 3 ≤ 96 from (hI33 0 3).1)
          have f44 := (show 0 ≤ I33 0 74 ∧ I33 0 74 ≤ 999999 from (hI33 0 74).1)
          have f45 := (show (-1) ≤ I33 0 77 ∧ I33 0 77 ≤ 1001 from (hI33 0 77).1)
          have t46 := gr_ATp_l e9_35
          refine gv_run 2 true hD (pc' := 74) (lv' := [(3, .inl s0_35), (0, .inr (.inr (some 0)))]) (st' := [.inr (.inr (some 0))]) (h' := gr_h I33 J34) (C := ((True ∧ True) ∧ True)) rfl ⟨⟨trivial, trivial⟩, trivial⟩ ?_
          obtain ⟨r47, h47, E47, P47⟩ := r_next_p (ws0 := ws0) (tb := tb) hws htb ext β N9 I33 J34 hI33   ((gr_ATp_rr e9_35).1.resolve_left (by omega)) e9_35.1.1 e9_35.1.2
          obtain ⟨I48, J49, rfl, hI48, g47, k47, ⟨rfl, q47⟩⟩ := P47
          have FI48 := gr_frt FI33 g47 rfl rfl
          have FJ49 := gr_fjt FJ34 k47 rfl rfl
          have t50 := g47 0 69 rfl
          have t51 := g47 0 64 rfl
          have t52 := g47 0 122 rfl
          have t53 := g47 0 123 rfl
          have t54 := g47 0 3 rfl
          have t55 := g47 0 77 rfl
          have f56 := (show 0 ≤ I48 0 71 ∧ I48 0 71 ≤ 5 from (hI48 0 71).1)
          have f57 := (show 0 ≤ I48 0 72 ∧ I48 0 72 ≤ 1000 from (hI48 0 72).1)
          have f58 := (show 0 ≤ I48 0 73 ∧ I48 0 73 ≤ 1001 from (hI48 0 73).1)
          have f59 := (show 0 ≤ I48 0 69 ∧ I48 0 69 ≤ 1000 from (hI48 0 69).1)
          have f60 := (show 0 ≤ I48 0 64 ∧ I48 0 64 ≤ 2000 from (hI48 0 64).1)
          have f61 := (show 0 ≤ I48 0 122 ∧ I48 0 122 ≤ 47 from (hI48 0 122).1)
          have f62 := (show 0 ≤ I48 0 123 ∧ I48 0 123 ≤ 95 from (hI48 0 123).1)
          have f63 := (show 0 ≤ I48 0 3 ∧ I48 0 3 ≤ 96 from (hI48 0 3).1)
          have f64 := (show 0 ≤ I48 0 74 ∧ I48 0 74 ≤ 999999 from (hI48 0 74).1)
          have f65 := (show (-1) ≤ I48 0 77 ∧ I48 0 77 ≤ 1001 from (hI48 0 77).1)
          have KTM_I48 := gr_TM_fr KTM_I33 (fun k => g47 52 k rfl) (fun k => g47 53 k rfl) (fun k => g47 54 k rfl) (g47 0 64 rfl)
          have KTO_I48 := gr_TO_fr KTO_I33 (fun k => g47 52 k rfl) (fun k => g47 53 k rfl) (fun k => g47 54 k rfl) (fun k => g47 55 k rfl) (fun k => g47 6 k rfl) (g47 0 64 rfl) (g47 0 3 rfl)
          have t66 := (gr_ATp_rr e9_35).2.2.1.resolve_left (by omega)
          have A67 := gr_ATp_nx e9_35 q47.2.2.2.2.2
          have t68 := gr_ATp_l A67
          obtain ⟨_, _, -, -, -, -⟩ := q47
          refine gv_callV hD rfl (As := []) (st := []) rfl (by decide) rfl rfl (gr_lV hws rfl) (Nat.le_of_ble_eq_true rfl) (gz_Ev_mono (d := 10) (by omega) E47) ?_
          show gv_X _ _ (77, [(3, .inl s0_35), (0, .inr (.inr (some 0)))], [], gr_sh ++ ext, gr_h I48 J49)
          refine gv_run 1 true hD (pc' := 78) (lv' := [(3, .inl s0_35), (0, .inr (.inr (some 0)))]) (st' := [.inl s0_35]) (h' := gr_h I48 J49) (C := (True ∧ True)) rfl ⟨trivial, trivial⟩ ?_
          exact gv_iret hD rfl ⟨I48, J49, rfl, hI48, FI48, FJ49, KTM_I48, KTO_I48, ⟨_, rfl, by omega, by omega, (gr_ATp_rr A67).1, (gr_ATp_rr A67).2.1, (gr_ATp_rr A67).2.2.1, (gr_ATp_rr A67).2.2.2.1, ⟨(gr_ATp_rr A67).2.2.2.2, (gs_TQ_y (c := gs_X β N9 p_35) (n := 1) (by rw [e10_35, gs_tm_1 (by omega)]; unfold gs_atm; (repeat first | rw [if_pos (by omega)] | rw [if_neg (by omega)])) (by omega) (by omega) A67 (by omega))⟩, by omega, by omega, by omega, by omega, by omega, by omega, by omega, by omega, by omega, (gr_OWN_x e7_35 (gr_TS9_fr (fun k => g47 55 k rfl) (fun k => g47 52 k rfl) (fun k => g47 53 k rfl) (fun k => g47 54 k rfl)) (by omega) (by omega) (by omega)), (gr_TS9_tr e6_35 (gr_TS9_fr (fun k => g47 55 k rfl) (fun k => g47 52 k rfl) (fun k => g47 53 k rfl) (fun k => g47 54 k rfl)) (by omega))⟩⟩
        refine gv_run 1 true hD (pc' := 40) (lv' := [(0, .inr (.inr (some 0))), (2, .inl v2_11)]) (st' := [.inl v2_11]) (h' := gr_h I J) (C := (True ∧ True)) rfl ⟨trivial, trivial⟩ ?_
        refine gv_if_ge (t := 57) hD rfl rfl ⟨by omega, by omega⟩ (fun c69 => ?_) (fun c69 => ?_)
        · have f70 := (show 0 ≤ I 0 122 ∧ I 0 122 ≤ 47 from (hI 0 122).1)
          refine gv_run 7 true hD (pc' := 66) (lv' := [(0, .inr (.inr (some 0))), (2, .inl v2_11)]) (st' := [.inl v2_11, .inl ((I 0 122) - 1), .inl 1, .inr (.inr (some 0))]) (h' := gr_h I J) (C := (((((((True ∧ True) ∧ True) ∧ True) ∧ True) ∧ True) ∧ True) ∧ True)) rfl ⟨⟨⟨⟨⟨⟨⟨trivial, trivial⟩, trivial⟩, trivial⟩, trivial⟩, trivial⟩, trivial⟩, trivial⟩ ?_
          refine gv_run 3 true hD (pc' := 69) (lv' := [(0, .inr (.inr (some 0))), (2, .inl v2_11)]) (st' := [.inr (.inl (Int64.ofNat 0)), .inl 0, .inl (((I 0 122) - 1) - v2_11), .inl 1, .inr (.inr (some 0))]) (h' := gr_h I J) (C := (((True ∧ True) ∧ True) ∧ True)) rfl ⟨⟨⟨trivial, trivial⟩, trivial⟩, trivial⟩ ?_
          obtain ⟨r71, h71, E71, P71⟩ := r_node_w (ws0 := ws0) (tb := tb) hws htb ext I J hI 1 ((((I 0 122) - 1) - v2_11)) 0 (Int64.ofNat 0) ⟨by omega, by omega⟩ ⟨by omega, by omega⟩ ⟨by omega, by omega⟩ (by omega) (by omega) (by omega) KTO_I (gr_NDp_1 (by omega)) (by omega) KTM_I
          obtain ⟨I72, J73, rfl, hI72, g71, k71, KTM_I72, ⟨z71, rfl, q71⟩⟩ := P71
          have FI72 := gr_frt FI g71 rfl rfl
          have FJ73 := gr_fjt FJ k71 rfl rfl
          have t74 := g71 0 71 rfl
          have t75 := g71 0 72 rfl
          have t76 := g71 0 73 rfl
          have t77 := g71 0 69 rfl
          have t78 := g71 0 122 rfl
          have t79 := g71 0 123 rfl
          have t80 := g71 0 3 rfl
          have t81 := g71 0 74 rfl
          have t82 := g71 0 77 rfl
          have f83 := (show 0 ≤ I72 0 71 ∧ I72 0 71 ≤ 5 from (hI72 0 71).1)
          have f84 := (show 0 ≤ I72 0 72 ∧ I72 0 72 ≤ 1000 from (hI72 0 72).1)
          have f85 := (show 0 ≤ I72 0 73 ∧ I72 0 73 ≤ 1001 from (hI72 0 73).1)
          have f86 := (show 0 ≤ I72 0 69 ∧ I72 0 69 ≤ 1000 from (hI72 0 69).1)
          have f87 := (show 0 ≤ I72 0 64 ∧ I72 0 64 ≤ 2000 from (hI72 0 64).1)
          have f88 := (show 0 ≤ I72 0 122 ∧ I72 0 122 ≤ 47 from (hI72 0 122).1)
          have f89 := (show 0 ≤ I72 0 123 ∧ I72 0 123 ≤ 95 from (hI72 0 123).1)
          have f90 := (show 0 ≤ I72 0 3 ∧ I72 0 3 ≤ 96 from (hI72 0 3).1)
          have f91 := (show 0 ≤ I72 0 74 ∧ I72 0 74 ≤ 999999 from (hI72 0 74).1)
          have f92 := (show (-1) ≤ I72 0 77 ∧ I72 0 77 ≤ 1001 from (hI72 0 77).1)
          have KTO_I72 : gr_TO I72 := q71.2.2.2.2.1
          have A93 := gr_ATp_F x8 g71 k71 rfl
          have t94 := gr_ATp_l A93
          refine gv_callV hD rfl (As := [.inl 1, .inl (((I 0 122) - 1) - v2_11), .inl 0, .inr (.inl (Int64.ofNat 0))]) (st := []) rfl (by decide) rfl rfl (gr_lV hws rfl) (Nat.le_of_ble_eq_true rfl) (gz_Ev_mono (d := 1) (by omega) E71) ?_
          show gv_X _ _ (72, [(0, .inr (.inr (some 0))), (2, .inl v2_11)], [.inl z71], gr_sh ++ ext, gr_h I72 J73)
          refine gv_pick [0] rfl ?_
          exact L72 I72 J73 z71 p9 hI72 FI72 FJ73 KTM_I72 KTO_I72 (by omega) (gr_TS9_tr (gr_TS9_rf I) q71.2.2.2.2.2.1 (by omega)) (gr_OWN_x (show gr_OWN z71 (I 0 123) (I 0 122) I72 from Or.inr ⟨by omega, by omega⟩) (gr_TS9_rf _) (by omega) (by omega) (by omega)) A93 rfl (by omega)
        · refine gv_run 6 true hD (pc' := 51) (lv' := [(0, .inr (.inr (some 0))), (2, .inl v2_11)]) (st' := [.inr (.inl (J 0 75)), .inl 0, .inl 0, .inl 2, .inr (.inr (some 0))]) (h' := gr_h I J) (C := ((((((True ∧ True) ∧ True) ∧ True) ∧ True) ∧ True) ∧ True)) rfl ⟨⟨⟨⟨⟨⟨trivial, trivial⟩, trivial⟩, trivial⟩, trivial⟩, trivial⟩, trivial⟩ ?_
          obtain ⟨r95, h95, E95, P95⟩ := r_node_w (ws0 := ws0) (tb := tb) hws htb ext I J hI 2 0 0 (J 0 75) ⟨by omega, by omega⟩ ⟨by omega, by omega⟩ ⟨by omega, by omega⟩ (by omega) (by omega) (by omega) KTO_I gr_NDp_2 (by omega) KTM_I
          obtain ⟨I96, J97, rfl, hI96, g95, k95, KTM_I96, ⟨z95, rfl, q95⟩⟩ := P95
          have FI96 := gr_frt FI g95 rfl rfl
          have FJ97 := gr_fjt FJ k95 rfl rfl
          have t98 := g95 0 71 rfl
          have t99 := g95 0 72 rfl
          have t100 := g95 0 73 rfl
          have t101 := g95 0 69 rfl
          have t102 := g95 0 122 rfl
          have t103 := g95 0 123 rfl
          have t104 := g95 0 3 rfl
          have t105 := g95 0 74 rfl
          have t106 := g95 0 77 rfl
          have f107 := (show 0 ≤ I96 0 71 ∧ I96 0 71 ≤ 5 from (hI96 0 71).1)
          have f108 := (show 0 ≤ I96 0 72 ∧ I96 0 72 ≤ 1000 from (hI96 0 72).1)
          have f109 := (show 0 ≤ I96 0 73 ∧ I96 0 73 ≤ 1001 from (hI96 0 73).1)
          have f110 := (show 0 ≤ I96 0 69 ∧ I96 0 69 ≤ 1000 from (hI96 0 69).1)
          have f111 := (show 0 ≤ I96 0 64 ∧ I96 0 64 ≤ 2000 from (hI96 0 64).1)
          have f112 := (show 0 ≤ I96 0 122 ∧ I96 0 122 ≤ 47 from (hI96 0 122).1)
          have f113 := (show 0 ≤ I96 0 123 ∧ I96 0 123 ≤ 95 from (hI96 0 123).1)
          have f114 := (show 0 ≤ I96 0 3 ∧ I96 0 3 ≤ 96 from (hI96 0 3).1)
          have f115 := (show 0 ≤ I96 0 74 ∧ I96 0 74 ≤ 999999 from (hI96 0 74).1)
          have f116 := (show (-1) ≤ I96 0 77 ∧ I96 0 77 ≤ 1001 from (hI96 0 77).1)
          have KTO_I96 : gr_TO I96 := q95.2.2.2.2.1
          have A117 := gr_ATp_F x8 g95 k95 rfl
          have t118 := gr_ATp_l A117
          refine gv_callV hD rfl (As := [.inl 2, .inl 0, .inl 0, .inr (.inl (J 0 75))]) (st := []) rfl (by decide) rfl rfl (gr_lV hws rfl) (Nat.le_of_ble_eq_true rfl) (gz_Ev_mono (d := 1) (by omega) E95) ?_
          show gv_X _ _ (54, [(0, .inr (.inr (some 0))), (2, .inl v2_11)], [.inl z95], gr_sh ++ ext, gr_h I96 J97)
          refine gv_run 1 true hD (pc' := 72) (lv' := [(0, .inr (.inr (some 0))), (2, .inl v2_11)]) (st' := [.inl z95]) (h' := gr_h I96 J97) (C := (True ∧ True)) rfl ⟨trivial, trivial⟩ ?_
          refine gv_pick [0] rfl ?_
          exact L72 I96 J97 z95 p9 hI96 FI96 FJ97 KTM_I96 KTO_I96 (by omega) (gr_TS9_tr (gr_TS9_rf I) q95.2.2.2.2.2.1 (by omega)) (gr_OWN_x (show gr_OWN z95 (I 0 123) (I 0 122) I96 from Or.inr ⟨by omega, by omega⟩) (gr_TS9_rf _) (by omega) (by omega) (by omega)) A117 rfl (by omega)
      refine gv_run 1 true hD (pc' := 16) (lv' := [(0, .inr (.inr (some 0))), (2, .inl v2_11)]) (st' := [.inl v2_11]) (h' := gr_h I J) (C := (True ∧ True)) rfl ⟨trivial, trivial⟩ ?_
      refine gv_if_lt (t := 39) hD rfl rfl ⟨by omega, by omega⟩ (fun c119 => ?_) (fun c119 => ?_)
      · exact L39 (by omega)
      · refine gv_run 4 true hD (pc' := 25) (lv' := [(0, .inr (.inr (some 0))), (2, .inl v2_11)]) (st' := [.inr (.inl (J 75 (Int.toNat v2_11)))]) (h' := gr_h I J) (C := ((((True ∧ True) ∧ True) ∧ True) ∧ (0 ≤ v2_11 ∧ v2_11 < ((48 : Nat) : Int)))) rfl ⟨⟨⟨⟨trivial, trivial⟩, trivial⟩, trivial⟩, ⟨by omega, by omega⟩⟩ ?_
        have f120 := gw_cmp ((J 75 (Int.toNat v2_11))) ((J 0 75))
        refine gv_run 3 true hD (pc' := 30) (lv' := [(0, .inr (.inr (some 0))), (2, .inl v2_11)]) (st' := [.inl ((lg_cmp ((J 75 (Int.toNat v2_11))) ((J 0 75))).toInt)]) (h' := gr_h I J) (C := (((True ∧ True) ∧ True) ∧ True)) rfl ⟨⟨⟨trivial, trivial⟩, trivial⟩, trivial⟩ ?_
        refine gv_if_eq (t := 39) hD rfl rfl ⟨by omega, by omega⟩ (fun c121 => ?_) (fun c121 => ?_)
        · have j121 := gs_cmp0 (a := (J 75 (Int.toNat v2_11))) (b := (J 0 75)) (by omega)
          exact L39 (by omega)
        · have j121 := gs_cmpn (a := (J 75 (Int.toNat v2_11))) (b := (J 0 75)) (by omega)
          refine gv_run 2 true hD (pc' := 15) (lv' := [(2, .inl (v2_11 + (-1))), (0, .inr (.inr (some 0)))]) (st' := []) (h' := gr_h I J) (C := ((True ∧ True) ∧ True)) rfl ⟨⟨trivial, trivial⟩, trivial⟩ ?_
          refine gv_pick [1, 0] rfl ?_
          exact ih15 ((v2_11 + (-1))) (by omega) (by omega)
  have f122 := (show 0 ≤ I 0 71 ∧ I 0 71 ≤ 5 from (hI 0 71).1)
  refine gv_run 3 true hD (pc' := 5) (lv' := [(0, .inr (.inr (some 0))), (1, .inl a1)]) (st' := [.inl 1, .inl (I 0 71)]) (h' := gr_h I J) (C := (((True ∧ True) ∧ True) ∧ True)) rfl ⟨⟨⟨trivial, trivial⟩, trivial⟩, trivial⟩ ?_
  refine gv_icmp_ne (t := 79) hD rfl rfl ⟨⟨by omega, by omega⟩, ⟨by omega, by omega⟩⟩ (fun c123 => ?_) (fun c123 => ?_)
  · have t124 := gr_ATp_ne x8 (c := 1) (by omega) (by omega)
    have f125 := (show 0 ≤ I 0 71 ∧ I 0 71 ≤ 5 from (hI 0 71).1)
    refine gv_run 3 true hD (pc' := 84) (lv' := [(0, .inr (.inr (some 0))), (1, .inl a1)]) (st' := [.inl 2, .inl (I 0 71)]) (h' := gr_h I J) (C := (((True ∧ True) ∧ True) ∧ True)) rfl ⟨⟨⟨trivial, trivial⟩, trivial⟩, trivial⟩ ?_
    refine gv_icmp_ne (t := 137) hD rfl rfl ⟨⟨by omega, by omega⟩, ⟨by omega, by omega⟩⟩ (fun c126 => ?_) (fun c126 => ?_)
    · have t127 := gr_ATp_ne x8 (c := 2) (by omega) (by omega)
      refine gv_run 2 true hD (pc' := 140) (lv' := [(0, .inr (.inr (some 0))), (1, .inl a1)]) (st' := [.inl 40, .inr (.inr (some 0))]) (h' := gr_h I J) (C := ((True ∧ True) ∧ True)) rfl ⟨⟨trivial, trivial⟩, trivial⟩ ?_
      obtain ⟨r128, h128, E128, P128⟩ := r_sign_p (ws0 := ws0) (tb := tb) hws htb ext β N9 p9 I J hI 40 ⟨by omega, by omega⟩ (fun h9 => by have g9 := (gr_ATp_rr x8).2.2.1; omega) x8 (by omega)
      obtain ⟨rfl, ⟨z128, rfl, q128⟩⟩ := P128
      have V128 := gs_or_mk q128.2.2.2
      obtain ⟨_, _, o128, -⟩ := q128
      refine gv_callV hD rfl (As := [.inl 40]) (st := []) rfl (by decide) rfl rfl (gr_lV hws rfl) (Nat.le_of_ble_eq_true rfl) (gz_Ev_mono (d := 1) (by omega) E128) ?_
      show gv_X _ _ (143, [(0, .inr (.inr (some 0))), (1, .inl a1)], [.inl z128], gr_sh ++ ext, gr_h I J)
      refine gv_if_ne (t := 152) hD rfl rfl ⟨by omega, by omega⟩ (fun c129 => ?_) (fun c129 => ?_)
      · have u130 := gs_or1 V128 (by omega)
        have t131 := o128.resolve_left (by omega)
        have t132 := (gr_ATp_rr x8).2.2.1.resolve_left (by omega)
        clear o128 V128
        refine gv_run 1 true hD (pc' := 153) (lv' := [(0, .inr (.inr (some 0))), (1, .inl a1)]) (st' := [.inr (.inr (some 0))]) (h' := gr_h I J) (C := (True ∧ True)) rfl ⟨trivial, trivial⟩ ?_
        obtain ⟨r133, h133, E133, P133⟩ := r_next_p (ws0 := ws0) (tb := tb) hws htb ext β N9 I J hI   ((gr_ATp_rr x8).1.resolve_left (by omega)) x8.1.1 x8.1.2
        obtain ⟨I134, J135, rfl, hI134, g133, k133, ⟨rfl, q133⟩⟩ := P133
        have FI134 := gr_frt FI g133 rfl rfl
        have FJ135 := gr_fjt FJ k133 rfl rfl
        have t136 := g133 0 69 rfl
        have t137 := g133 0 64 rfl
        have t138 := g133 0 122 rfl
        have t139 := g133 0 123 rfl
        have t140 := g133 0 3 rfl
        have t141 := g133 0 77 rfl
        have f142 := (show 0 ≤ I134 0 71 ∧ I134 0 71 ≤ 5 from (hI134 0 71).1)
        have f143 := (show 0 ≤ I134 0 72 ∧ I134 0 72 ≤ 1000 from (hI134 0 72).1)
        have f144 := (show 0 ≤ I134 0 73 ∧ I134 0 73 ≤ 1001 from (hI134 0 73).1)
        have f145 := (show 0 ≤ I134 0 69 ∧ I134 0 69 ≤ 1000 from (hI134 0 69).1)
        have f146 := (show 0 ≤ I134 0 64 ∧ I134 0 64 ≤ 2000 from (hI134 0 64).1)
        have f147 := (show 0 ≤ I134 0 122 ∧ I134 0 122 ≤ 47 from (hI134 0 122).1)
        have f148 := (show 0 ≤ I134 0 123 ∧ I134 0 123 ≤ 95 from (hI134 0 123).1)
        have f149 := (show 0 ≤ I134 0 3 ∧ I134 0 3 ≤ 96 from (hI134 0 3).1)
        have f150 := (show 0 ≤ I134 0 74 ∧ I134 0 74 ≤ 999999 from (hI134 0 74).1)
        have f151 := (show (-1) ≤ I134 0 77 ∧ I134 0 77 ≤ 1001 from (hI134 0 77).1)
        have KTM_I134 := gr_TM_fr KTM_I (fun k => g133 52 k rfl) (fun k => g133 53 k rfl) (fun k => g133 54 k rfl) (g133 0 64 rfl)
        have KTO_I134 := gr_TO_fr KTO_I (fun k => g133 52 k rfl) (fun k => g133 53 k rfl) (fun k => g133 54 k rfl) (fun k => g133 55 k rfl) (fun k => g133 6 k rfl) (g133 0 64 rfl) (g133 0 3 rfl)
        have t152 := (gr_ATp_rr x8).2.2.1.resolve_left (by omega)
        have A153 := gr_ATp_nx x8 q133.2.2.2.2.2
        have t154 := gr_ATp_l A153
        obtain ⟨_, _, -, -, -, -⟩ := q133
        refine gv_callV hD rfl (As := []) (st := []) rfl (by decide) rfl rfl (gr_lV hws rfl) (Nat.le_of_ble_eq_true rfl) (gz_Ev_mono (d := 10) (by omega) E133) ?_
        show gv_X _ _ (156, [(0, .inr (.inr (some 0))), (1, .inl a1)], [], gr_sh ++ ext, gr_h I134 J135)
        refine gv_run 4 true hD (pc' := 160) (lv' := [(0, .inr (.inr (some 0))), (1, .inl a1)]) (st' := [.inl (a1 + 1), .inr (.inr (some 0))]) (h' := gr_h I134 J135) (C := ((((True ∧ True) ∧ True) ∧ True) ∧ True)) rfl ⟨⟨⟨⟨trivial, trivial⟩, trivial⟩, trivial⟩, trivial⟩ ?_
        obtain ⟨r155, h155, E155, P155⟩ := ihR I134 J135 hI134 (a1 + 1) β N9 (gs_X β N9 p9) (m9 - 1) ⟨by omega, by omega⟩ (gr_ATp_rr A153).1 (gr_ATp_rr A153).2.1 (gr_ATp_rr A153).2.2.1 (gr_ATp_rr A153).2.2.2.1 (gr_ATp_rr A153).2.2.2.2 (by omega) (by omega) (by omega) A153 (by omega) (by omega) KTM_I134 KTO_I134 (by omega)
        obtain ⟨I156, J157, rfl, hI156, g155, k155, KTM_I156, KTO_I156, ⟨z155, rfl, q155⟩⟩ := P155
        have FI156 := gr_frt FI134 g155 rfl rfl
        have FJ157 := gr_fjt FJ135 k155 rfl rfl
        have t158 := g155 0 69 rfl
        have t159 := g155 0 123 rfl
        have t160 := g155 0 3 rfl
        have f161 := (show 0 ≤ I156 0 71 ∧ I156 0 71 ≤ 5 from (hI156 0 71).1)
        have f162 := (show 0 ≤ I156 0 72 ∧ I156 0 72 ≤ 1000 from (hI156 0 72).1)
        have f163 := (show 0 ≤ I156 0 73 ∧ I156 0 73 ≤ 1001 from (hI156 0 73).1)
        have f164 := (show 0 ≤ I156 0 69 ∧ I156 0 69 ≤ 1000 from (hI156 0 69).1)
        have f165 := (show 0 ≤ I156 0 64 ∧ I156 0 64 ≤ 2000 from (hI156 0 64).1)
        have f166 := (show 0 ≤ I156 0 122 ∧ I156 0 122 ≤ 47 from (hI156 0 122).1)
        have f167 := (show 0 ≤ I156 0 123 ∧ I156 0 123 ≤ 95 from (hI156 0 123).1)
        have f168 := (show 0 ≤ I156 0 3 ∧ I156 0 3 ≤ 96 from (hI156 0 3).1)
        have f169 := (show 0 ≤ I156 0 74 ∧ I156 0 74 ≤ 999999 from (hI156 0 74).1)
        have f170 := (show (-1) ≤ I156 0 77 ∧ I156 0 77 ≤ 1001 from (hI156 0 77).1)
        refine gv_callV hD rfl (As := [.inl (a1 + 1)]) (st := []) rfl (by decide) rfl rfl (gr_lV hws rfl) (Nat.le_of_ble_eq_true rfl) (gz_Ev_mono (d := (14 + 2 * nr)) (Nat.le_refl _) E155) ?_
        show gv_X _ _ (163, [(0, .inr (.inr (some 0))), (1, .inl a1)], [.inl z155], gr_sh ++ ext, gr_h I156 J157)
        refine gv_run 2 true hD (pc' := 165) (lv' := [(2, .inl z155), (0, .inr (.inr (some 0))), (1, .inl a1)]) (st' := [.inl z155]) (h' := gr_h I156 J157) (C := ((True ∧ True) ∧ True)) rfl ⟨⟨trivial, trivial⟩, trivial⟩ ?_
        refine gv_if_lt (t := 177) hD rfl rfl ⟨by omega, by omega⟩ (fun c171 => ?_) (fun c171 => ?_)
        · have Q172 := q155.2.2.2.2.2.2.1.2
          rw [FI134 0 123 rfl, FI134 6 (Int.toNat (I 0 123)) rfl] at Q172
          obtain ⟨u172, u172_⟩ := gs_O9_0 Q172 (by omega)
          refine gv_run 2 true hD (pc' := 182) (lv' := [(2, .inl z155), (0, .inr (.inr (some 0))), (1, .inl a1)]) (st' := [.inl (-1)]) (h' := gr_h I156 J157) (C := ((True ∧ True) ∧ True)) rfl ⟨⟨trivial, trivial⟩, trivial⟩ ?_
          exact gv_iret hD rfl ⟨I156, J157, rfl, hI156, FI156, FJ157, KTM_I156, KTO_I156, ⟨_, rfl, by omega, by omega, by omega, by omega, by omega, by omega, ⟨by omega, (gs_TQ_n (c := (gs_tm β N9 (I 6 (Int.toNat (I 0 123))) (m9 - 1) 0 (a1 + 1) (gs_X β N9 p9)).1) (n := (gs_tm β N9 (I 6 (Int.toNat (I 0 123))) (m9 - 1) 0 (a1 + 1) (gs_X β N9 p9)).2) ((by rw [gs_tm_1 (by omega)]; unfold gs_atm; (repeat first | rw [if_pos (by omega)] | rw [if_neg (by omega)]) : (gs_tm β N9 (I 6 (Int.toNat (I 0 123))) m9 1 a1 p9) = gs_bd (gs_tm β N9 (I 6 (Int.toNat (I 0 123))) (m9 - 1) 0 (a1 + 1) (gs_X β N9 p9)) (fun q9 => (gs_need β N9 41 q9, 0))).trans ((gs_bd_x (by omega)).trans gs_pr)) (by omega) (by omega) (by omega))⟩, by omega, by omega, by omega, by omega, by omega, by omega, by omega, by omega, by omega, (Or.inl (by omega)), (gr_TS9_tr (gr_TS9_tr (gr_TS9_rf I) (gr_TS9_fr (fun k => g133 55 k rfl) (fun k => g133 52 k rfl) (fun k => g133 53 k rfl) (fun k => g133 54 k rfl)) (by omega)) q155.2.2.2.2.2.2.2.2.2.2.2.2.2.2.2.2.2 (by omega))⟩⟩
        · have Q173 := q155.2.2.2.2.2.2.1.2
          rw [FI134 0 123 rfl, FI134 6 (Int.toNat (I 0 123)) rfl] at Q173
          obtain ⟨u173, A173, U173⟩ := gs_O9_1 Q173 (by omega)
          have t174 := gr_ATp_l A173
          refine gv_run 2 true hD (pc' := 171) (lv' := [(2, .inl z155), (0, .inr (.inr (some 0))), (1, .inl a1)]) (st' := [.inl 41, .inr (.inr (some 0))]) (h' := gr_h I156 J157) (C := ((True ∧ True) ∧ True)) rfl ⟨⟨trivial, trivial⟩, trivial⟩ ?_
          obtain ⟨r175, h175, E175, P175⟩ := r_need_p (ws0 := ws0) (tb := tb) hws htb ext β N9 ((gs_tm β N9 (I 6 (Int.toNat (I 0 123))) (m9 - 1) 0 (a1 + 1) (gs_X β N9 p9)).1) I156 J157 hI156 41 ⟨by omega, by omega⟩ (gr_ATp_rr A173).1 (gr_ATp_rr A173).2.1 (gr_ATp_rr A173).2.2.1 (gr_ATp_rr A173).2.2.2.1 (gr_ATp_rr A173).2.2.2.2 A173 (by omega)
          obtain ⟨I176, J177, rfl, hI176, g175, k175, ⟨z175, rfl, q175⟩⟩ := P175
          have FI176 := gr_frt FI156 g175 rfl rfl
          have FJ177 := gr_fjt FJ157 k175 rfl rfl
          have t178 := g175 0 69 rfl
          have t179 := g175 0 64 rfl
          have t180 := g175 0 122 rfl
          have t181 := g175 0 123 rfl
          have t182 := g175 0 3 rfl
          have f183 := (show 0 ≤ I176 0 71 ∧ I176 0 71 ≤ 5 from (hI176 0 71).1)
          have f184 := (show 0 ≤ I176 0 72 ∧ I176 0 72 ≤ 1000 from (hI176 0 72).1)
          have f185 := (show 0 ≤ I176 0 73 ∧ I176 0 73 ≤ 1001 from (hI176 0 73).1)
          have f186 := (show 0 ≤ I176 0 69 ∧ I176 0 69 ≤ 1000 from (hI176 0 69).1)
          have f187 := (show 0 ≤ I176 0 64 ∧ I176 0 64 ≤ 2000 from (hI176 0 64).1)
          have f188 := (show 0 ≤ I176 0 122 ∧ I176 0 122 ≤ 47 from (hI176 0 122).1)
          have f189 := (show 0 ≤ I176 0 123 ∧ I176 0 123 ≤ 95 from (hI176 0 123).1)
          have f190 := (show 0 ≤ I176 0 3 ∧ I176 0 3 ≤ 96 from (hI176 0 3).1)
          have f191 := (show 0 ≤ I176 0 74 ∧ I176 0 74 ≤ 999999 from (hI176 0 74).1)
          have f192 := (show (-1) ≤ I176 0 77 ∧ I176 0 77 ≤ 1001 from (hI176 0 77).1)
          have KTM_I176 := gr_TM_fr KTM_I156 (fun k => g175 52 k rfl) (fun k => g175 53 k rfl) (fun k => g175 54 k rfl) (g175 0 64 rfl)
          have KTO_I176 := gr_TO_fr KTO_I156 (fun k => g175 52 k rfl) (fun k => g175 53 k rfl) (fun k => g175 54 k rfl) (fun k => g175 55 k rfl) (fun k => g175 6 k rfl) (g175 0 64 rfl) (g175 0 3 rfl)
          refine gv_callV hD rfl (As := [.inl 41]) (st := []) rfl (by decide) rfl rfl (gr_lV hws rfl) (Nat.le_of_ble_eq_true rfl) (gz_Ev_mono (d := 11) (by omega) E175) ?_
          show gv_X _ _ (174, [(2, .inl z155), (0, .inr (.inr (some 0))), (1, .inl a1)], [.inl z175], gr_sh ++ ext, gr_h I176 J177)
          refine gv_if_ne (t := 181) hD rfl rfl ⟨by omega, by omega⟩ (fun c193 => ?_) (fun c193 => ?_)
          · obtain ⟨u194, A194⟩ := gs_or1 q175.2.2.2.2.2.2.2.2.2.2.2 (by omega)
            have t195 := gr_ATp_l A194
            have t196 := (q175.2.2.2.2.2.2.2.2.2.2.1).resolve_left (by omega)
            obtain ⟨_, _, -, _, -, -, _, _, _, _, -, -⟩ := q175
            have t197 := (gr_ATp_rr A173).2.2.1.resolve_left (by omega)
            refine gv_run 1 true hD (pc' := 182) (lv' := [(2, .inl z155), (0, .inr (.inr (some 0))), (1, .inl a1)]) (st' := [.inl z155]) (h' := gr_h I176 J177) (C := (True ∧ True)) rfl ⟨trivial, trivial⟩ ?_
            exact gv_iret hD rfl ⟨I176, J177, rfl, hI176, FI176, FJ177, KTM_I176, KTO_I176, ⟨_, rfl, by omega, by omega, (gr_ATp_rr A194).1, (gr_ATp_rr A194).2.1, (gr_ATp_rr A194).2.2.1, (gr_ATp_rr A194).2.2.2.1, ⟨(gr_ATp_rr A194).2.2.2.2, (gs_TQ_y (c := gs_need β N9 41 (gs_tm β N9 (I 6 (Int.toNat (I 0 123))) (m9 - 1) 0 (a1 + 1) (gs_X β N9 p9)).1) (n := (gs_tm β N9 (I 6 (Int.toNat (I 0 123))) (m9 - 1) 0 (a1 + 1) (gs_X β N9 p9)).2 + 0) ((by rw [gs_tm_1 (by omega)]; unfold gs_atm; (repeat first | rw [if_pos (by omega)] | rw [if_neg (by omega)]) : (gs_tm β N9 (I 6 (Int.toNat (I 0 123))) m9 1 a1 p9) = gs_bd (gs_tm β N9 (I 6 (Int.toNat (I 0 123))) (m9 - 1) 0 (a1 + 1) (gs_X β N9 p9)) (fun q9 => (gs_need β N9 41 q9, 0))).trans (gs_bd_e (by omega))) (by omega) (by omega) A194 (by omega))⟩, by omega, by omega, by omega, by omega, by omega, by omega, by omega, by omega, by omega, (gr_OWN_x q155.2.2.2.2.2.2.2.2.2.2.2.2.2.2.2.2.1 (gr_TS9_fr (fun k => g175 55 k rfl) (fun k => g175 52 k rfl) (fun k => g175 53 k rfl) (fun k => g175 54 k rfl)) (by omega) (by omega) (by omega)), (gr_TS9_tr (gr_TS9_tr (gr_TS9_tr (gr_TS9_rf I) (gr_TS9_fr (fun k => g133 55 k rfl) (fun k => g133 52 k rfl) (fun k => g133 53 k rfl) (fun k => g133 54 k rfl)) (by omega)) q155.2.2.2.2.2.2.2.2.2.2.2.2.2.2.2.2.2 (by omega)) (gr_TS9_fr (fun k => g175 55 k rfl) (fun k => g175 52 k rfl) (fun k => g175 53 k rfl) (fun k => g175 54 k rfl)) (by omega))⟩⟩
          · obtain ⟨u198, u198_⟩ := gs_or0 q175.2.2.2.2.2.2.2.2.2.2.2 (by omega)
            refine gv_run 2 true hD (pc' := 182) (lv' := [(2, .inl z155), (0, .inr (.inr (some 0))), (1, .inl a1)]) (st' := [.inl (-1)]) (h' := gr_h I176 J177) (C := ((True ∧ True) ∧ True)) rfl ⟨⟨trivial, trivial⟩, trivial⟩ ?_
            exact gv_iret hD rfl ⟨I176, J177, rfl, hI176, FI176, FJ177, KTM_I176, KTO_I176, ⟨_, rfl, by omega, by omega, by omega, by omega, by omega, by omega, ⟨by omega, (gs_TQ_n (c := gs_need β N9 41 (gs_tm β N9 (I 6 (Int.toNat (I 0 123))) (m9 - 1) 0 (a1 + 1) (gs_X β N9 p9)).1) (n := (gs_tm β N9 (I 6 (Int.toNat (I 0 123))) (m9 - 1) 0 (a1 + 1) (gs_X β N9 p9)).2 + 0) ((by rw [gs_tm_1 (by omega)]; unfold gs_atm; (repeat first | rw [if_pos (by omega)] | rw [if_neg (by omega)]) : (gs_tm β N9 (I 6 (Int.toNat (I 0 123))) m9 1 a1 p9) = gs_bd (gs_tm β N9 (I 6 (Int.toNat (I 0 123))) (m9 - 1) 0 (a1 + 1) (gs_X β N9 p9)) (fun q9 => (gs_need β N9 41 q9, 0))).trans (gs_bd_e (by omega))) (by omega) (by omega) (by omega))⟩, by omega, by omega, by omega, by omega, by omega, by omega, by omega, by omega, by omega, (Or.inl (by omega)), (gr_TS9_tr (gr_TS9_tr (gr_TS9_tr (gr_TS9_rf I) (gr_TS9_fr (fun k => g133 55 k rfl) (fun k => g133 52 k rfl) (fun k => g133 53 k rfl) (fun k => g133 54 k rfl)) (by omega)) q155.2.2.2.2.2.2.2.2.2.2.2.2.2.2.2.2.2 (by omega)) (gr_TS9_fr (fun k => g175 55 k rfl) (fun k => g175 52 k rfl) (fun k => g175 53 k rfl) (fun k => g175 54 k rfl)) (by omega))⟩⟩
      · have u199 := gs_or0 V128 (by omega)
        clear o128 V128
        refine gv_run 2 true hD (pc' := 148) (lv' := [(0, .inr (.inr (some 0))), (1, .inl a1)]) (st' := [.inl 1, .inr (.inr (some 0))]) (h' := gr_h I J) (C := ((True ∧ True) ∧ True)) rfl ⟨⟨trivial, trivial⟩, trivial⟩ ?_
        obtain ⟨r200, h200, E200, P200⟩ := r_none_p (ws0 := ws0) (tb := tb) hws htb ext β N9 p9 I J hI 1 ⟨by omega, by omega⟩ x8 (by omega)
        obtain ⟨I201, J202, rfl, hI201, g200, k200, ⟨z200, rfl, q200⟩⟩ := P200
        have FI201 := gr_frt FI g200 rfl rfl
        have FJ202 := gr_fjt FJ k200 rfl rfl
        have t203 := g200 0 71 rfl
        have t204 := g200 0 72 rfl
        have t205 := g200 0 73 rfl
        have t206 := g200 0 69 rfl
        have t207 := g200 0 64 rfl
        have t208 := g200 0 122 rfl
        have t209 := g200 0 123 rfl
        have t210 := g200 0 3 rfl
        have t211 := g200 0 74 rfl
        have f212 := (show 0 ≤ I201 0 71 ∧ I201 0 71 ≤ 5 from (hI201 0 71).1)
        have f213 := (show 0 ≤ I201 0 72 ∧ I201 0 72 ≤ 1000 from (hI201 0 72).1)
        have f214 := (show 0 ≤ I201 0 73 ∧ I201 0 73 ≤ 1001 from (hI201 0 73).1)
        have f215 := (show 0 ≤ I201 0 69 ∧ I201 0 69 ≤ 1000 from (hI201 0 69).1)
        have f216 := (show 0 ≤ I201 0 64 ∧ I201 0 64 ≤ 2000 from (hI201 0 64).1)
        have f217 := (show 0 ≤ I201 0 122 ∧ I201 0 122 ≤ 47 from (hI201 0 122).1)
        have f218 := (show 0 ≤ I201 0 123 ∧ I201 0 123 ≤ 95 from (hI201 0 123).1)
        have f219 := (show 0 ≤ I201 0 3 ∧ I201 0 3 ≤ 96 from (hI201 0 3).1)
        have f220 := (show 0 ≤ I201 0 74 ∧ I201 0 74 ≤ 999999 from (hI201 0 74).1)
        have f221 := (show (-1) ≤ I201 0 77 ∧ I201 0 77 ≤ 1001 from (hI201 0 77).1)
        have KTM_I201 := gr_TM_fr KTM_I (fun k => g200 52 k rfl) (fun k => g200 53 k rfl) (fun k => g200 54 k rfl) (g200 0 64 rfl)
        have KTO_I201 := gr_TO_fr KTO_I (fun k => g200 52 k rfl) (fun k => g200 53 k rfl) (fun k => g200 54 k rfl) (fun k => g200 55 k rfl) (fun k => g200 6 k rfl) (g200 0 64 rfl) (g200 0 3 rfl)
        have A222 := gr_ATp_F x8 g200 k200 rfl
        have t223 := gr_ATp_l A222
        refine gv_callV hD rfl (As := [.inl 1]) (st := []) rfl (by decide) rfl rfl (gr_lV hws rfl) (Nat.le_of_ble_eq_true rfl) (gz_Ev_mono (d := 3) (by omega) E200) ?_
        show gv_X _ _ (151, [(0, .inr (.inr (some 0))), (1, .inl a1)], [.inl z200], gr_sh ++ ext, gr_h I201 J202)
        exact gv_iret hD rfl ⟨I201, J202, rfl, hI201, FI201, FJ202, KTM_I201, KTO_I201, ⟨_, rfl, by omega, by omega, (gr_ATp_rr A222).1, (gr_ATp_rr A222).2.1, (gr_ATp_rr A222).2.2.1, (gr_ATp_rr A222).2.2.2.1, ⟨(gr_ATp_rr A222).2.2.2.2, (gs_TQ_n (c := -1 - gs_A β N9 p9) (n := 0) (by rw [gs_tm_1 (by omega)]; unfold gs_atm; (repeat first | rw [if_pos (by omega)] | rw [if_neg (by omega)])) (by omega) (by omega) (by omega))⟩, by omega, by omega, by omega, by omega, by omega, by omega, by omega, by omega, by omega, (Or.inl (by omega)), (gr_TS9_tr (gr_TS9_rf I) (gr_TS9_fr (fun k => g200 55 k rfl) (fun k => g200 52 k rfl) (fun k => g200 53 k rfl) (fun k => g200 54 k rfl)) (by omega))⟩⟩
    · have t224 := (gr_ATp_k x8 (c := 2) (by omega)).mp (by omega)
      have t225 := (gr_ATp_rr x8).2.2.1.resolve_left (by omega)
      have t226 := gr_ATp_n x8 t224
      have f227 := (show 0 ≤ I 0 74 ∧ I 0 74 ≤ 999999 from (hI 0 74).1)
      refine gv_run 3 true hD (pc' := 92) (lv' := [(0, .inr (.inr (some 0))), (1, .inl a1)]) (st' := [.inl 1, .inl (I 0 74)]) (h' := gr_h I J) (C := (((True ∧ True) ∧ True) ∧ True)) rfl ⟨⟨⟨trivial, trivial⟩, trivial⟩, trivial⟩ ?_
      refine gv_icmp_lt (t := 111) hD rfl rfl ⟨⟨by omega, by omega⟩, ⟨by omega, by omega⟩⟩ (fun c228 => ?_) (fun c228 => ?_)
      · refine gv_run 2 true hD (pc' := 113) (lv' := [(0, .inr (.inr (some 0))), (1, .inl a1)]) (st' := [.inl 5, .inr (.inr (some 0))]) (h' := gr_h I J) (C := ((True ∧ True) ∧ True)) rfl ⟨⟨trivial, trivial⟩, trivial⟩ ?_
        obtain ⟨r229, h229, E229, P229⟩ := r_none_p (ws0 := ws0) (tb := tb) hws htb ext β N9 p9 I J hI 5 ⟨by omega, by omega⟩ x8 (by omega)
        obtain ⟨I230, J231, rfl, hI230, g229, k229, ⟨z229, rfl, q229⟩⟩ := P229
        have FI230 := gr_frt FI g229 rfl rfl
        have FJ231 := gr_fjt FJ k229 rfl rfl
        have t232 := g229 0 71 rfl
        have t233 := g229 0 72 rfl
        have t234 := g229 0 73 rfl
        have t235 := g229 0 69 rfl
        have t236 := g229 0 64 rfl
        have t237 := g229 0 122 rfl
        have t238 := g229 0 123 rfl
        have t239 := g229 0 3 rfl
        have t240 := g229 0 74 rfl
        have f241 := (show 0 ≤ I230 0 71 ∧ I230 0 71 ≤ 5 from (hI230 0 71).1)
        have f242 := (show 0 ≤ I230 0 72 ∧ I230 0 72 ≤ 1000 from (hI230 0 72).1)
        have f243 := (show 0 ≤ I230 0 73 ∧ I230 0 73 ≤ 1001 from (hI230 0 73).1)
        have f244 := (show 0 ≤ I230 0 69 ∧ I230 0 69 ≤ 1000 from (hI230 0 69).1)
        have f245 := (show 0 ≤ I230 0 64 ∧ I230 0 64 ≤ 2000 from (hI230 0 64).1)
        have f246 := (show 0 ≤ I230 0 122 ∧ I230 0 122 ≤ 47 from (hI230 0 122).1)
        have f247 := (show 0 ≤ I230 0 123 ∧ I230 0 123 ≤ 95 from (hI230 0 123).1)
        have f248 := (show 0 ≤ I230 0 3 ∧ I230 0 3 ≤ 96 from (hI230 0 3).1)
        have f249 := (show 0 ≤ I230 0 74 ∧ I230 0 74 ≤ 999999 from (hI230 0 74).1)
        have f250 := (show (-1) ≤ I230 0 77 ∧ I230 0 77 ≤ 1001 from (hI230 0 77).1)
        have KTM_I230 := gr_TM_fr KTM_I (fun k => g229 52 k rfl) (fun k => g229 53 k rfl) (fun k => g229 54 k rfl) (g229 0 64 rfl)
        have KTO_I230 := gr_TO_fr KTO_I (fun k => g229 52 k rfl) (fun k => g229 53 k rfl) (fun k => g229 54 k rfl) (fun k => g229 55 k rfl) (fun k => g229 6 k rfl) (g229 0 64 rfl) (g229 0 3 rfl)
        have A251 := gr_ATp_F x8 g229 k229 rfl
        have t252 := gr_ATp_l A251
        refine gv_callV hD rfl (As := [.inl 5]) (st := []) rfl (by decide) rfl rfl (gr_lV hws rfl) (Nat.le_of_ble_eq_true rfl) (gz_Ev_mono (d := 3) (by omega) E229) ?_
        show gv_X _ _ (116, [(0, .inr (.inr (some 0))), (1, .inl a1)], [.inl z229], gr_sh ++ ext, gr_h I230 J231)
        exact gv_iret hD rfl ⟨I230, J231, rfl, hI230, FI230, FJ231, KTM_I230, KTO_I230, ⟨_, rfl, by omega, by omega, (gr_ATp_rr A251).1, (gr_ATp_rr A251).2.1, (gr_ATp_rr A251).2.2.1, (gr_ATp_rr A251).2.2.2.1, ⟨(gr_ATp_rr A251).2.2.2.2, (gs_TQ_n (c := -1 - gs_A β N9 p9) (n := 0) (by rw [gs_tm_1 (by omega)]; unfold gs_atm; (repeat first | rw [if_pos (by omega)] | rw [if_neg (by omega)])) (by omega) (by omega) (by omega))⟩, by omega, by omega, by omega, by omega, by omega, by omega, by omega, by omega, by omega, (Or.inl (by omega)), (gr_TS9_tr (gr_TS9_rf I) (gr_TS9_fr (fun k => g229 55 k rfl) (fun k => g229 52 k rfl) (fun k => g229 53 k rfl) (fun k => g229 54 k rfl)) (by omega))⟩⟩
      · have f253 := (show 0 ≤ I 0 74 ∧ I 0 74 ≤ 999999 from (hI 0 74).1)
        have f254 := (show 0 ≤ I 0 123 ∧ I 0 123 ≤ 95 from (hI 0 123).1)
        have f255 := (show 0 ≤ I 6 (Int.toNat ((I 0 123))) ∧ I 6 (Int.toNat ((I 0 123))) ≤ 4 from (hI 6 (Int.toNat ((I 0 123)))).1)
        refine gv_run 7 true hD (pc' := 108) (lv' := [(0, .inr (.inr (some 0))), (1, .inl a1)]) (st' := [.inl (I 6 (Int.toNat ((I 0 123)))), .inl (I 0 74)]) (h' := gr_h I J) (C := (((((((True ∧ True) ∧ True) ∧ True) ∧ True) ∧ True) ∧ True) ∧ (0 ≤ (I 0 123) ∧ (I 0 123) < ((96 : Nat) : Int)))) rfl ⟨⟨⟨⟨⟨⟨⟨trivial, trivial⟩, trivial⟩, trivial⟩, trivial⟩, trivial⟩, trivial⟩, ⟨by omega, by omega⟩⟩ ?_
        refine gv_icmp_le (t := 117) hD rfl rfl ⟨⟨by omega, by omega⟩, ⟨by omega, by omega⟩⟩ (fun c256 => ?_) (fun c256 => ?_)
        · have f257 := (show 0 ≤ I 0 74 ∧ I 0 74 ≤ 999999 from (hI 0 74).1)
          refine gv_run 7 true hD (pc' := 126) (lv' := [(0, .inr (.inr (some 0))), (1, .inl a1)]) (st' := [.inl 0, .inl ((I 0 74) - 1), .inl 3, .inr (.inr (some 0))]) (h' := gr_h I J) (C := (((((((True ∧ True) ∧ True) ∧ True) ∧ True) ∧ True) ∧ True) ∧ True)) rfl ⟨⟨⟨⟨⟨⟨⟨trivial, trivial⟩, trivial⟩, trivial⟩, trivial⟩, trivial⟩, trivial⟩, trivial⟩ ?_
          refine gv_run 1 true hD (pc' := 127) (lv' := [(0, .inr (.inr (some 0))), (1, .inl a1)]) (st' := [.inr (.inl (Int64.ofNat 0)), .inl 0, .inl ((I 0 74) - 1), .inl 3, .inr (.inr (some 0))]) (h' := gr_h I J) (C := (True ∧ True)) rfl ⟨trivial, trivial⟩ ?_
          obtain ⟨r258, h258, E258, P258⟩ := r_node_w (ws0 := ws0) (tb := tb) hws htb ext I J hI 3 (((I 0 74) - 1)) 0 (Int64.ofNat 0) ⟨by omega, by omega⟩ ⟨by omega, by omega⟩ ⟨by omega, by omega⟩ (by omega) (by omega) (by omega) KTO_I (gr_NDp_3 (by omega)) (by omega) KTM_I
          obtain ⟨I259, J260, rfl, hI259, g258, k258, KTM_I259, ⟨z258, rfl, q258⟩⟩ := P258
          have FI259 := gr_frt FI g258 rfl rfl
          have FJ260 := gr_fjt FJ k258 rfl rfl
          have t261 := g258 0 71 rfl
          have t262 := g258 0 72 rfl
          have t263 := g258 0 73 rfl
          have t264 := g258 0 69 rfl
          have t265 := g258 0 122 rfl
          have t266 := g258 0 123 rfl
          have t267 := g258 0 3 rfl
          have t268 := g258 0 74 rfl
          have t269 := g258 0 77 rfl
          have f270 := (show 0 ≤ I259 0 71 ∧ I259 0 71 ≤ 5 from (hI259 0 71).1)
          have f271 := (show 0 ≤ I259 0 72 ∧ I259 0 72 ≤ 1000 from (hI259 0 72).1)
          have f272 := (show 0 ≤ I259 0 73 ∧ I259 0 73 ≤ 1001 from (hI259 0 73).1)
          have f273 := (show 0 ≤ I259 0 69 ∧ I259 0 69 ≤ 1000 from (hI259 0 69).1)
          have f274 := (show 0 ≤ I259 0 64 ∧ I259 0 64 ≤ 2000 from (hI259 0 64).1)
          have f275 := (show 0 ≤ I259 0 122 ∧ I259 0 122 ≤ 47 from (hI259 0 122).1)
          have f276 := (show 0 ≤ I259 0 123 ∧ I259 0 123 ≤ 95 from (hI259 0 123).1)
          have f277 := (show 0 ≤ I259 0 3 ∧ I259 0 3 ≤ 96 from (hI259 0 3).1)
          have f278 := (show 0 ≤ I259 0 74 ∧ I259 0 74 ≤ 999999 from (hI259 0 74).1)
          have f279 := (show (-1) ≤ I259 0 77 ∧ I259 0 77 ≤ 1001 from (hI259 0 77).1)
          have KTO_I259 : gr_TO I259 := q258.2.2.2.2.1
          have A280 := gr_ATp_F x8 g258 k258 rfl
          have t281 := gr_ATp_l A280
          refine gv_callV hD rfl (As := [.inl 3, .inl ((I 0 74) - 1), .inl 0, .inr (.inl (Int64.ofNat 0))]) (st := []) rfl (by decide) rfl rfl (gr_lV hws rfl) (Nat.le_of_ble_eq_true rfl) (gz_Ev_mono (d := 1) (by omega) E258) ?_
          show gv_X _ _ (130, [(0, .inr (.inr (some 0))), (1, .inl a1)], [.inl z258], gr_sh ++ ext, gr_h I259 J260)
          refine gv_run 2 true hD (pc' := 132) (lv' := [(2, .inl z258), (0, .inr (.inr (some 0))), (1, .inl a1)]) (st' := [.inr (.inr (some 0))]) (h' := gr_h I259 J260) (C := ((True ∧ True) ∧ True)) rfl ⟨⟨trivial, trivial⟩, trivial⟩ ?_
          obtain ⟨r282, h282, E282, P282⟩ := r_next_p (ws0 := ws0) (tb := tb) hws htb ext β N9 I259 J260 hI259   ((gr_ATp_rr A280).1.resolve_left (by omega)) A280.1.1 A280.1.2
          obtain ⟨I283, J284, rfl, hI283, g282, k282, ⟨rfl, q282⟩⟩ := P282
          have FI283 := gr_frt FI259 g282 rfl rfl
          have FJ284 := gr_fjt FJ260 k282 rfl rfl
          have t285 := g282 0 69 rfl
          have t286 := g282 0 64 rfl
          have t287 := g282 0 122 rfl
          have t288 := g282 0 123 rfl
          have t289 := g282 0 3 rfl
          have t290 := g282 0 77 rfl
          have f291 := (show 0 ≤ I283 0 71 ∧ I283 0 71 ≤ 5 from (hI283 0 71).1)
          have f292 := (show 0 ≤ I283 0 72 ∧ I283 0 72 ≤ 1000 from (hI283 0 72).1)
          have f293 := (show 0 ≤ I283 0 73 ∧ I283 0 73 ≤ 1001 from (hI283 0 73).1)
          have f294 := (show 0 ≤ I283 0 69 ∧ I283 0 69 ≤ 1000 from (hI283 0 69).1)
          have f295 := (show 0 ≤ I283 0 64 ∧ I283 0 64 ≤ 2000 from (hI283 0 64).1)
          have f296 := (show 0 ≤ I283 0 122 ∧ I283 0 122 ≤ 47 from (hI283 0 122).1)
          have f297 := (show 0 ≤ I283 0 123 ∧ I283 0 123 ≤ 95 from (hI283 0 123).1)
          have f298 := (show 0 ≤ I283 0 3 ∧ I283 0 3 ≤ 96 from (hI283 0 3).1)
          have f299 := (show 0 ≤ I283 0 74 ∧ I283 0 74 ≤ 999999 from (hI283 0 74).1)
          have f300 := (show (-1) ≤ I283 0 77 ∧ I283 0 77 ≤ 1001 from (hI283 0 77).1)
          have KTM_I283 := gr_TM_fr KTM_I259 (fun k => g282 52 k rfl) (fun k => g282 53 k rfl) (fun k => g282 54 k rfl) (g282 0 64 rfl)
          have KTO_I283 := gr_TO_fr KTO_I259 (fun k => g282 52 k rfl) (fun k => g282 53 k rfl) (fun k => g282 54 k rfl) (fun k => g282 55 k rfl) (fun k => g282 6 k rfl) (g282 0 64 rfl) (g282 0 3 rfl)
          have t301 := (gr_ATp_rr A280).2.2.1.resolve_left (by omega)
          have A302 := gr_ATp_nx A280 q282.2.2.2.2.2
          have t303 := gr_ATp_l A302
          obtain ⟨_, _, -, -, -, -⟩ := q282
          refine gv_callV hD rfl (As := []) (st := []) rfl (by decide) rfl rfl (gr_lV hws rfl) (Nat.le_of_ble_eq_true rfl) (gz_Ev_mono (d := 10) (by omega) E282) ?_
          show gv_X _ _ (135, [(2, .inl z258), (0, .inr (.inr (some 0))), (1, .inl a1)], [], gr_sh ++ ext, gr_h I283 J284)
          refine gv_run 1 true hD (pc' := 136) (lv' := [(2, .inl z258), (0, .inr (.inr (some 0))), (1, .inl a1)]) (st' := [.inl z258]) (h' := gr_h I283 J284) (C := (True ∧ True)) rfl ⟨trivial, trivial⟩ ?_
          exact gv_iret hD rfl ⟨I283, J284, rfl, hI283, FI283, FJ284, KTM_I283, KTO_I283, ⟨_, rfl, by omega, by omega, (gr_ATp_rr A302).1, (gr_ATp_rr A302).2.1, (gr_ATp_rr A302).2.2.1, (gr_ATp_rr A302).2.2.2.1, ⟨(gr_ATp_rr A302).2.2.2.2, (gs_TQ_y (c := gs_X β N9 p9) (n := 1) (by rw [gs_tm_1 (by omega)]; unfold gs_atm; (repeat first | rw [if_pos (by omega)] | rw [if_neg (by omega)])) (by omega) (by omega) A302 (by omega))⟩, by omega, by omega, by omega, by omega, by omega, by omega, by omega, by omega, by omega, (gr_OWN_x (show gr_OWN z258 (I 0 123) (I 0 122) I259 from Or.inr ⟨by omega, by omega⟩) (gr_TS9_fr (fun k => g282 55 k rfl) (fun k => g282 52 k rfl) (fun k => g282 53 k rfl) (fun k => g282 54 k rfl)) (by omega) (by omega) (by omega)), (gr_TS9_tr (gr_TS9_tr (gr_TS9_rf I) q258.2.2.2.2.2.1 (by omega)) (gr_TS9_fr (fun k => g282 55 k rfl) (fun k => g282 52 k rfl) (fun k => g282 53 k rfl) (fun k => g282 54 k rfl)) (by omega))⟩⟩
        · refine gv_run 2 true hD (pc' := 113) (lv' := [(0, .inr (.inr (some 0))), (1, .inl a1)]) (st' := [.inl 5, .inr (.inr (some 0))]) (h' := gr_h I J) (C := ((True ∧ True) ∧ True)) rfl ⟨⟨trivial, trivial⟩, trivial⟩ ?_
          obtain ⟨r304, h304, E304, P304⟩ := r_none_p (ws0 := ws0) (tb := tb) hws htb ext β N9 p9 I J hI 5 ⟨by omega, by omega⟩ x8 (by omega)
          obtain ⟨I305, J306, rfl, hI305, g304, k304, ⟨z304, rfl, q304⟩⟩ := P304
          have FI305 := gr_frt FI g304 rfl rfl
          have FJ306 := gr_fjt FJ k304 rfl rfl
          have t307 := g304 0 71 rfl
          have t308 := g304 0 72 rfl
          have t309 := g304 0 73 rfl
          have t310 := g304 0 69 rfl
          have t311 := g304 0 64 rfl
          have t312 := g304 0 122 rfl
          have t313 := g304 0 123 rfl
          have t314 := g304 0 3 rfl
          have t315 := g304 0 74 rfl
          have f316 := (show 0 ≤ I305 0 71 ∧ I305 0 71 ≤ 5 from (hI305 0 71).1)
          have f317 := (show 0 ≤ I305 0 72 ∧ I305 0 72 ≤ 1000 from (hI305 0 72).1)
          have f318 := (show 0 ≤ I305 0 73 ∧ I305 0 73 ≤ 1001 from (hI305 0 73).1)
          have f319 := (show 0 ≤ I305 0 69 ∧ I305 0 69 ≤ 1000 from (hI305 0 69).1)
          have f320 := (show 0 ≤ I305 0 64 ∧ I305 0 64 ≤ 2000 from (hI305 0 64).1)
          have f321 := (show 0 ≤ I305 0 122 ∧ I305 0 122 ≤ 47 from (hI305 0 122).1)
          have f322 := (show 0 ≤ I305 0 123 ∧ I305 0 123 ≤ 95 from (hI305 0 123).1)
          have f323 := (show 0 ≤ I305 0 3 ∧ I305 0 3 ≤ 96 from (hI305 0 3).1)
          have f324 := (show 0 ≤ I305 0 74 ∧ I305 0 74 ≤ 999999 from (hI305 0 74).1)
          have f325 := (show (-1) ≤ I305 0 77 ∧ I305 0 77 ≤ 1001 from (hI305 0 77).1)
          have KTM_I305 := gr_TM_fr KTM_I (fun k => g304 52 k rfl) (fun k => g304 53 k rfl) (fun k => g304 54 k rfl) (g304 0 64 rfl)
          have KTO_I305 := gr_TO_fr KTO_I (fun k => g304 52 k rfl) (fun k => g304 53 k rfl) (fun k => g304 54 k rfl) (fun k => g304 55 k rfl) (fun k => g304 6 k rfl) (g304 0 64 rfl) (g304 0 3 rfl)
          have A326 := gr_ATp_F x8 g304 k304 rfl
          have t327 := gr_ATp_l A326
          refine gv_callV hD rfl (As := [.inl 5]) (st := []) rfl (by decide) rfl rfl (gr_lV hws rfl) (Nat.le_of_ble_eq_true rfl) (gz_Ev_mono (d := 3) (by omega) E304) ?_
          show gv_X _ _ (116, [(0, .inr (.inr (some 0))), (1, .inl a1)], [.inl z304], gr_sh ++ ext, gr_h I305 J306)
          exact gv_iret hD rfl ⟨I305, J306, rfl, hI305, FI305, FJ306, KTM_I305, KTO_I305, ⟨_, rfl, by omega, by omega, (gr_ATp_rr A326).1, (gr_ATp_rr A326).2.1, (gr_ATp_rr A326).2.2.1, (gr_ATp_rr A326).2.2.2.1, ⟨(gr_ATp_rr A326).2.2.2.2, (gs_TQ_n (c := -1 - gs_A β N9 p9) (n := 0) (by rw [gs_tm_1 (by omega)]; unfold gs_atm; (repeat first | rw [if_pos (by omega)] | rw [if_neg (by omega)])) (by omega) (by omega) (by omega))⟩, by omega, by omega, by omega, by omega, by omega, by omega, by omega, by omega, by omega, (Or.inl (by omega)), (gr_TS9_tr (gr_TS9_rf I) (gr_TS9_fr (fun k => g304 55 k rfl) (fun k => g304 52 k rfl) (fun k => g304 53 k rfl) (fun k => g304 54 k rfl)) (by omega))⟩⟩
  · have t328 := (gr_ATp_k x8 (c := 1) (by omega)).mp (by omega)
    have t329 := (gr_ATp_rr x8).2.2.1.resolve_left (by omega)
    have f330 := (show 0 ≤ I 0 122 ∧ I 0 122 ≤ 47 from (hI 0 122).1)
    refine gv_run 5 true hD (pc' := 15) (lv' := [(2, .inl ((I 0 122) - 1)), (0, .inr (.inr (some 0))), (1, .inl a1)]) (st' := []) (h' := gr_h I J) (C := (((((True ∧ True) ∧ True) ∧ True) ∧ True) ∧ True)) rfl ⟨⟨⟨⟨⟨trivial, trivial⟩, trivial⟩, trivial⟩, trivial⟩, trivial⟩ ?_
    refine gv_pick [1, 0] rfl ?_
    exact L15 _ (((I 0 122) - 1)) (Nat.lt_succ_self _) (by omega)
