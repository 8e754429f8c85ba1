set_option maxHeartbeats 32000000 in
set_option maxRecDepth 100000 in
theorem r_sound_p {ws0 : List Cond} {tb : String → gz_T} (hws : ∀ w ∈ gr_ws, w ∈ ws0) (htb : tb RX13 = gr_T) (ext : gz_Sh) (β : Int → Int) (N9 : Int) (p9 : Int) (I : gr_I) (J : gr_J) (hI : gr_Inv I)   (x0 : I 0 71 = 5 ∨ I 0 73 ≤ I 0 69) (x1 : I 0 72 ≤ I 0 69) (x2 : I 0 71 = 0 ∨ (I 0 72 < I 0 73 ∧ I 0 72 < I 0 69)) (x3 : I 0 71 = 3 → 2 ≤ I 0 73 - I 0 72 ∧ I 0 73 - I 0 72 ≤ 14) (x4 : I 0 72 ≤ I 0 73) (x5 : 0 ≤ I 0 6) (x6 : I 0 59 + I 0 69 - I 0 72 ≤ 1900) (x7 : gr_ATp β N9 p9 I J) (x8 : 0 ≤ p9) : ∃ r h', gz_Ev ws0 tb 13 (yX13_sound, cX13_sound, 6, (some .boolean)) [.inr (.inr (some 0))] (gr_sh ++ ext) (gr_h I J) r (gr_sh ++ ext) h' 0 0 ∧ (∃ (I' : gr_I) (J' : gr_J), h' = gr_h I' J' ∧ gr_Inv I' ∧ gr_fr [59, 71, 72, 73, 74, 75, 76, 77, 104] [16, 27, 28, 29, 30, 51, 63] I I' ∧ gr_fj [59, 71, 72, 73, 74, 75, 76, 77, 104] [16, 27, 28, 29, 30, 51, 63] J J' ∧ (∃ z : Int, r = some (.inl z) ∧ 0 ≤ z ∧ z ≤ 1 ∧ (I' 0 71 = 5 ∨ I' 0 73 ≤ I' 0 69) ∧ (I' 0 72 ≤ I' 0 69) ∧ (I' 0 71 = 0 ∨ (I' 0 72 < I' 0 73 ∧ I' 0 72 < I' 0 69)) ∧ (I' 0 71 = 3 → 2 ≤ I' 0 73 - I' 0 72 ∧ I' 0 73 - I' 0 72 ≤ 14) ∧ (I' 0 72 ≤ I' 0 73) ∧ (I' 0 69 = I 0 69) ∧ (I 0 73 ≤ I' 0 73) ∧ (I 0 72 ≤ I' 0 72) ∧ (I' 0 59 - I' 0 72 ≤ I 0 59 - I 0 72) ∧ (gr_LKs I I') ∧ (gs_Or z (0 ≤ (gs_snd β N9 I J (I 0 78) p9) ∧ gr_ATp β N9 (gs_snd β N9 I J (I 0 78) p9) I' J' ∧ (I' 16 (Int.toNat (I 0 6)) = I 16 (Int.toNat (I 0 6)) + 1 ∧ ∀ j, ¬ j = (Int.toNat (I 0 6)) → I' 16 j = I 16 j) ∧ gs_Usn β N9 I J p9 I' (24 * I 0 6 + I 16 (Int.toNat (I 0 6)))) ((gs_snd β N9 I J (I 0 78) p9) < 0 ∧ I' 0 77 = -1 - (gs_snd β N9 I J (I 0 78) p9) ∧ gs_Ssn I I')))) := by
  have FI : gr_fr [59, 71, 72, 73, 74, 75, 76, 77, 104] [16, 27, 28, 29, 30, 51, 63] I I := fun _ _ _ => rfl
  have FJ : gr_fj [59, 71, 72, 73, 74, 75, 76, 77, 104] [16, 27, 28, 29, 30, 51, 63] J J := fun _ _ _ => rfl
  have hD : gv_D (gr_E ws0 tb 12 (yX13_sound, cX13_sound, 6, (some .boolean)) kX13_sound) := gq_of oX13_sound
  refine gr_ev (d := 12) (l := kX13_sound) (Po := fun r h' => (∃ (I' : gr_I) (J' : gr_J), h' = gr_h I' J' ∧ gr_Inv I' ∧ gr_fr [59, 71, 72, 73, 74, 75, 76, 77, 104] [16, 27, 28, 29, 30, 51, 63] I I' ∧ gr_fj [59, 71, 72, 73, 74, 75, 76, 77, 104] [16, 27, 28, 29, 30, 51, 63] J J' ∧ (∃ z : Int, r = some (.inl z) ∧ 0 ≤ z ∧ z ≤ 1 ∧ (I' 0 71 = 5 ∨ I' 0 73 ≤ I' 0 69) ∧ (I' 0 72 ≤ I' 0 69) ∧ (I' 0 71 = 0 ∨ (I' 0 72 < I' 0 73 ∧ I' 0 72 < I' 0 69)) ∧ (I' 0 71 = 3 → 2 ≤ I' 0 73 - I' 0 72 ∧ I' 0 73 - I' 0 72 ≤ 14) ∧ (I' 0 72 ≤ I' 0 73) ∧ (I' 0 69 = I 0 69) ∧ (I 0 73 ≤ I' 0 73) ∧ (I 0 72 ≤ I' 0 72) ∧ (I' 0 59 - I' 0 72 ≤ I 0 59 - I 0 72) ∧ (gr_LKs I I') ∧ (gs_Or z (0 ≤ (gs_snd β N9 I J (I 0 78) p9) ∧ gr_ATp β N9 (gs_snd β N9 I J (I 0 78) p9) I' J' ∧ (I' 16 (Int.toNat (I 0 6)) = I 16 (Int.toNat (I 0 6)) + 1 ∧ ∀ j, ¬ j = (Int.toNat (I 0 6)) → I' 16 j = I 16 j) ∧ gs_Usn β N9 I J p9 I' (24 * I 0 6 + I 16 (Int.toNat (I 0 6)))) ((gs_snd β N9 I J (I 0 78) p9) < 0 ∧ I' 0 77 = -1 - (gs_snd β N9 I J (I 0 78) p9) ∧ gs_Ssn I I'))))) htb rfl (Nat.le_of_ble_eq_true rfl) ?_
  have tAT := gr_ATp_l x7
  clear x0 x2 x3
  have f1 := (gr_b_0_71 hI)
  have f2 := (gr_b_0_72 hI)
  have f3 := (gr_b_0_73 hI)
  have f4 := (gr_b_0_69 hI)
  have f5 := (gr_b_0_6 hI)
  have f6 := (gr_b_0_59 hI)
  have f7 := (gr_b_0_104 hI)
  have KLK_I : gr_LKs I I := gr_LKs_rf
  have L35 : ∀ (v1_8 : Int), ((0 ≤ v1_8 ∧ v1_8 ≤ 7) ∧ (I 0 72 ≤ I 0 69) ∧ (I 0 72 ≤ I 0 73) ∧ (I 0 69 = I 0 69) ∧ (I 0 73 ≤ I 0 73) ∧ (I 0 72 ≤ I 0 72) ∧ (I 0 6 = I 0 6) ∧ (I 0 59 - I 0 72 ≤ I 0 59 - I 0 72)) → ((gs_snd β N9 I J (I 0 78) p9) = gs_snd1 β N9 I J (I 0 78) (gs_ctx β N9 I J 0 p9)) → (v1_8 = I 0 6) → gv_X (gr_E ws0 tb 12 (yX13_sound, cX13_sound, 6, (some .boolean)) kX13_sound) (gv_Q cX13_sound (some .boolean) (gr_sh ++ ext) (fun r h' => (∃ (I' : gr_I) (J' : gr_J), h' = gr_h I' J' ∧ gr_Inv I' ∧ gr_fr [59, 71, 72, 73, 74, 75, 76, 77, 104] [16, 27, 28, 29, 30, 51, 63] I I' ∧ gr_fj [59, 71, 72, 73, 74, 75, 76, 77, 104] [16, 27, 28, 29, 30, 51, 63] J J' ∧ (∃ z : Int, r = some (.inl z) ∧ 0 ≤ z ∧ z ≤ 1 ∧ (I' 0 71 = 5 ∨ I' 0 73 ≤ I' 0 69) ∧ (I' 0 72 ≤ I' 0 69) ∧ (I' 0 71 = 0 ∨ (I' 0 72 < I' 0 73 ∧ I' 0 72 < I' 0 69)) ∧ (I' 0 71 = 3 → 2 ≤ I' 0 73 - I' 0 72 ∧ I' 0 73 - I' 0 72 ≤ 14) ∧ (I' 0 72 ≤ I' 0 73) ∧ (I' 0 69 = I 0 69) ∧ (I 0 73 ≤ I' 0 73) ∧ (I 0 72 ≤ I' 0 72) ∧ (I' 0 59 - I' 0 72 ≤ I 0 59 - I 0 72) ∧ (gr_LKs I I') ∧ (gs_Or z (0 ≤ (gs_snd β N9 I J (I 0 78) p9) ∧ gr_ATp β N9 (gs_snd β N9 I J (I 0 78) p9) I' J' ∧ (I' 16 (Int.toNat (I 0 6)) = I 16 (Int.toNat (I 0 6)) + 1 ∧ ∀ j, ¬ j = (Int.toNat (I 0 6)) → I' 16 j = I 16 j) ∧ gs_Usn β N9 I J p9 I' (24 * I 0 6 + I 16 (Int.toNat (I 0 6)))) ((gs_snd β N9 I J (I 0 78) p9) < 0 ∧ I' 0 77 = -1 - (gs_snd β N9 I J (I 0 78) p9) ∧ gs_Ssn I I')))))) (35, [(0, .inr (.inr (some 0))), (1, .inl v1_8)], [], gr_sh ++ ext, gr_h I J) := by
    intro v1_8 m_8 e0_8 e1_8
    obtain ⟨hv1_8, e2_8, e3_8, e4_8, e5_8, e6_8, e7_8, e8_8⟩ := m_8
    have q9_8 := e1_8
    subst q9_8
    have f9 := (gr_b_0_71 hI)
    have f10 := (gr_b_0_72 hI)
    have f11 := (gr_b_0_73 hI)
    have f12 := (gr_b_0_69 hI)
    have f13 := (gr_b_0_6 hI)
    have f14 := (gr_b_0_59 hI)
    have f15 := (gr_b_0_104 hI)
    have L61 : ∀ (I16 : gr_I) (J17 : gr_J) (v2_18 : Int) (p_18 : Int), gr_Inv I16 → gr_fr [59, 71, 72, 73, 74, 75, 76, 77, 104] [16, 27, 28, 29, 30, 51, 63] I I16 → gr_fj [59, 71, 72, 73, 74, 75, 76, 77, 104] [16, 27, 28, 29, 30, 51, 63] J J17 → gr_LKs I I16 → ((0 ≤ (I 0 6) ∧ (I 0 6) ≤ 7) ∧ ((-16) ≤ v2_18 ∧ v2_18 ≤ 32015) ∧ (0 ≤ p_18) ∧ (I16 0 72 ≤ I16 0 69) ∧ (I16 0 72 ≤ I16 0 73) ∧ (I16 0 69 = I 0 69) ∧ (I 0 73 ≤ I16 0 73) ∧ (I 0 72 ≤ I16 0 72) ∧ (I16 0 6 = I 0 6) ∧ (I16 0 59 - I16 0 72 ≤ I 0 59 - I 0 72)) → (gr_ATp β N9 p_18 I16 J17) → ((gs_snd β N9 I J (I 0 78) p9) = gs_snd2 β N9 I J (I 0 78) p_18) → (gs_itx I I16 (I 0 6) v2_18 (gs_ti β N9 I J p9)) → (p_18 = (gs_X β N9 (gs_X β N9 p9))) → ((∀ k, I16 16 k = I 16 k) ∧ (∀ k, I16 27 k = I 27 k) ∧ (∀ k, I16 28 k = I 28 k) ∧ (∀ k, I16 29 k = I 29 k) ∧ (∀ k, I16 30 k = I 30 k)) → gv_X (gr_E ws0 tb 12 (yX13_sound, cX13_sound, 6, (some .boolean)) kX13_sound) (gv_Q cX13_sound (some .boolean) (gr_sh ++ ext) (fun r h' => (∃ (I' : gr_I) (J' : gr_J), h' = gr_h I' J' ∧ gr_Inv I' ∧ gr_fr [59, 71, 72, 73, 74, 75, 76, 77, 104] [16, 27, 28, 29, 30, 51, 63] I I' ∧ gr_fj [59, 71, 72, 73, 74, 75, 76, 77, 104] [16, 27, 28, 29, 30, 51, 63] J J' ∧ (∃ z : Int, r = some (.inl z) ∧ 0 ≤ z ∧ z ≤ 1 ∧ (I' 0 71 = 5 ∨ I' 0 73 ≤ I' 0 69) ∧ (I' 0 72 ≤ I' 0 69) ∧ (I' 0 71 = 0 ∨ (I' 0 72 < I' 0 73 ∧ I' 0 72 < I' 0 69)) ∧ (I' 0 71 = 3 → 2 ≤ I' 0 73 - I' 0 72 ∧ I' 0 73 - I' 0 72 ≤ 14) ∧ (I' 0 72 ≤ I' 0 73) ∧ (I' 0 69 = I 0 69) ∧ (I 0 73 ≤ I' 0 73) ∧ (I 0 72 ≤ I' 0 72) ∧ (I' 0 59 - I' 0 72 ≤ I 0 59 - I 0 72) ∧ (gr_LKs I I') ∧ (gs_Or z (0 ≤ (gs_snd β N9 I J (I 0 78) p9) ∧ gr_ATp β N9 (gs_snd β N9 I J (I 0 78) p9) I' J' ∧ (I' 16 (Int.toNat (I 0 6)) = I 16 (Int.toNat (I 0 6)) + 1 ∧ ∀ j, ¬ j = (Int.toNat (I 0 6)) → I' 16 j = I 16 j) ∧ gs_Usn β N9 I J p9 I' (24 * I 0 6 + I 16 (Int.toNat (I 0 6)))) ((gs_snd β N9 I J (I 0 78) p9) < 0 ∧ I' 0 77 = -1 - (gs_snd β N9 I J (I 0 78) p9) ∧ gs_Ssn I I')))))) (61, [(0, .inr (.inr (some 0))), (1, .inl (I 0 6)), (2, .inl v2_18)], [], gr_sh ++ ext, gr_h I16 J17) := by
      intro I16 J17 v2_18 p_18 hI16 FI16 FJ17 KLK_I16 m_18 e1_18 e2_18 e3_18 e4_18 e5_18
      clear hv1_8 e2_8 e3_8 e4_8 e5_8 e6_8 e7_8 e8_8 f9 f10 f11 f12 f13 f14 f15
      obtain ⟨h_I_0_6__18, hv2_18, e0_18, e6_18, e7_18, e8_18, e9_18, e10_18, e11_18, e12_18⟩ := m_18
      have f19 := (gr_b_0_71 hI16)
      have f20 := (gr_b_0_72 hI16)
      have f21 := (gr_b_0_73 hI16)
      have f22 := (gr_b_0_69 hI16)
      have f23 := (gr_b_0_6 hI16)
      have f24 := (gr_b_0_59 hI16)
      have f25 := (gr_b_0_104 hI16)
      have t26 := gr_ATp_l e1_18
      have L87 : ∀ (n : Nat) (I27 : gr_I) (J28 : gr_J) (v3_29 : Int) (v4_29 : Int) (p_29 : Int), (7 - v4_29).toNat < n → gr_Inv I27 → gr_fr [59, 71, 72, 73, 74, 75, 76, 77, 104] [16, 27, 28, 29, 30, 51, 63] I I27 → gr_fj [59, 71, 72, 73, 74, 75, 76, 77, 104] [16, 27, 28, 29, 30, 51, 63] J J28 → gr_LKs I I27 → ((0 ≤ (I 0 6) ∧ (I 0 6) ≤ 7) ∧ ((-16) ≤ v2_18 ∧ v2_18 ≤ 32015) ∧ (0 ≤ v3_29 ∧ v3_29 ≤ 32015) ∧ (0 ≤ v4_29 ∧ v4_29 ≤ 6) ∧ (0 ≤ p_29) ∧ (I27 0 72 ≤ I27 0 69) ∧ (I27 0 72 ≤ I27 0 73) ∧ (I27 0 69 = I 0 69) ∧ (I 0 73 ≤ I27 0 73) ∧ (I 0 72 ≤ I27 0 72) ∧ (I27 0 6 = I 0 6) ∧ (I27 0 59 - I27 0 72 ≤ I 0 59 - I 0 72)) → (gr_ATp β N9 p_29 I27 J28) → ((gs_snd β N9 I J (I 0 78) p9) = gs_snd3 β N9 I J (I 0 78) p_29) → (gs_s7 β N9 I J p9 I27 v2_18 v3_29) → (∀ j : Nat, (j : Int) < v4_29 → I27 63 j = 2147483647) → (p_29 = (gs_X β N9 (gs_X β N9 (gs_X β N9 p9)))) → ((∀ k, I27 16 k = I 16 k) ∧ (∀ k, I27 27 k = I 27 k) ∧ (∀ k, I27 28 k = I 28 k) ∧ (∀ k, I27 29 k = I 29 k) ∧ (∀ k, I27 30 k = I 30 k)) → gv_X (gr_E ws0 tb 12 (yX13_sound, cX13_sound, 6, (some .boolean)) kX13_sound) (gv_Q cX13_sound (some .boolean) (gr_sh ++ ext) (fun r h' => (∃ (I' : gr_I) (J' : gr_J), h' = gr_h I' J' ∧ gr_Inv I' ∧ gr_fr [59, 71, 72, 73, 74, 75, 76, 77, 104] [16, 27, 28, 29, 30, 51, 63] I I' ∧ gr_fj [59, 71, 72, 73, 74, 75, 76, 77, 104] [16, 27, 28, 29, 30, 51, 63] J J' ∧ (∃ z : Int, r = some (.inl z) ∧ 0 ≤ z ∧ z ≤ 1 ∧ (I' 0 71 = 5 ∨ I' 0 73 ≤ I' 0 69) ∧ (I' 0 72 ≤ I' 0 69) ∧ (I' 0 71 = 0 ∨ (I' 0 72 < I' 0 73 ∧ I' 0 72 < I' 0 69)) ∧ (I' 0 71 = 3 → 2 ≤ I' 0 73 - I' 0 72 ∧ I' 0 73 - I' 0 72 ≤ 14) ∧ (I' 0 72 ≤ I' 0 73) ∧ (I' 0 69 = I 0 69) ∧ (I 0 73 ≤ I' 0 73) ∧ (I 0 72 ≤ I' 0 72) ∧ (I' 0 59 - I' 0 72 ≤ I 0 59 - I 0 72) ∧ (gr_LKs I I') ∧ (gs_Or z (0 ≤ (gs_snd β N9 I J (I 0 78) p9) ∧ gr_ATp β N9 (gs_snd β N9 I J (I 0 78) p9) I' J' ∧ (I' 16 (Int.toNat (I 0 6)) = I 16 (Int.toNat (I 0 6)) + 1 ∧ ∀ j, ¬ j = (Int.toNat (I 0 6)) → I' 16 j = I 16 j) ∧ gs_Usn β N9 I J p9 I' (24 * I 0 6 + I 16 (Int.toNat (I 0 6)))) ((gs_snd β N9 I J (I 0 78) p9) < 0 ∧ I' 0 77 = -1 - (gs_snd β N9 I J (I 0 78) p9) ∧ gs_Ssn I I')))))) (87, [(0, .inr (.inr (some 0))), (1, .inl (I 0 6)), (2, .inl v2_18), (3, .inl v3_29), (4, .inl v4_29)], [], gr_sh ++ ext, gr_h I27 J28) := by
        intro n
        induction n with
        | zero => intro I27 J28 v3_29 v4_29 p_29 hn; exact gz_m 0 (by omega)
        | succ n ih87 =>
          intro I27 J28 v3_29 v4_29 p_29 hn hI27 FI27 FJ28 KLK_I27 m_29 e1_29 e2_29 e3_29 e4_29 e5_29 e6_29
          clear h_I_0_6__18 hv2_18 e0_18 e6_18 e7_18 e8_18 e9_18 e10_18 e11_18 e12_18 f19 f20 f21 f22 f23 f24 f25 t26
          obtain ⟨h_I_0_6__29, hv2_18_29, hv3_29, hv4_29, e0_29, e7_29, e8_29, e9_29, e10_29, e11_29, e12_29, e13_29⟩ := m_29
          have f30 := (gr_b_0_71 hI27)
          have f31 := (gr_b_0_72 hI27)
          have f32 := (gr_b_0_73 hI27)
          have f33 := (gr_b_0_69 hI27)
          have f34 := (gr_b_0_6 hI27)
          have f35 := (gr_b_0_59 hI27)
          have f36 := (gr_b_0_104 hI27)
          have t37 := gr_ATp_l e1_29
          have L150 : ∀ (I38 : gr_I) (J39 : gr_J) (p_40 : Int), gr_Inv I38 → gr_fr [59, 71, 72, 73, 74, 75, 76, 77, 104] [16, 27, 28, 29, 30, 51, 63] I I38 → gr_fj [59, 71, 72, 73, 74, 75, 76, 77, 104] [16, 27, 28, 29, 30, 51, 63] J J39 → gr_LKs I I38 → ((0 ≤ (I 0 6) ∧ (I 0 6) ≤ 7) ∧ ((-16) ≤ v2_18 ∧ v2_18 ≤ 32015) ∧ (0 ≤ v3_29 ∧ v3_29 ≤ 32015) ∧ (0 ≤ p_40) ∧ (I38 0 72 ≤ I38 0 69) ∧ (I38 0 72 ≤ I38 0 73) ∧ (I38 0 69 = I 0 69) ∧ (I 0 73 ≤ I38 0 73) ∧ (I 0 72 ≤ I38 0 72) ∧ (I38 0 6 = I 0 6) ∧ (I38 0 59 - I38 0 72 ≤ I 0 59 - I 0 72)) → (gr_ATp β N9 p_40 I38 J39) → ((gs_snd β N9 I J (I 0 78) p9) = gs_snd6 β N9 I (I 0 78) p_40) → (gs_s7 β N9 I J p9 I38 v2_18 v3_29) → (gs_sv8 I I38 (I 0 6) (gs_tv β N9 I J (gs_X β N9 (gs_X β N9 (gs_X β N9 p9))))) → ((∀ k, I38 16 k = I 16 k) ∧ (∀ k, I38 27 k = I 27 k) ∧ (∀ k, I38 28 k = I 28 k) ∧ (∀ k, I38 29 k = I 29 k) ∧ (∀ k, I38 30 k = I 30 k)) → gv_X (gr_E ws0 tb 12 (yX13_sound, cX13_sound, 6, (some .boolean)) kX13_sound) (gv_Q cX13_sound (some .boolean) (gr_sh ++ ext) (fun r h' => (∃ (I' : gr_I) (J' : gr_J), h' = gr_h I' J' ∧ gr_Inv I' ∧ gr_fr [59, 71, 72, 73, 74, 75, 76, 77, 104] [16, 27, 28, 29, 30, 51, 63] I I' ∧ gr_fj [59, 71, 72, 73, 74, 75, 76, 77, 104] [16, 27, 28, 29, 30, 51, 63] J J' ∧ (∃ z : Int, r = some (.inl z) ∧ 0 ≤ z ∧ z ≤ 1 ∧ (I' 0 71 = 5 ∨ I' 0 73 ≤ I' 0 69) ∧ (I' 0 72 ≤ I' 0 69) ∧ (I' 0 71 = 0 ∨ (I' 0 72 < I' 0 73 ∧ I' 0 72 < I' 0 69)) ∧ (I' 0 71 = 3 → 2 ≤ I' 0 73 - I' 0 72 ∧ I' 0 73 - I' 0 72 ≤ 14) ∧ (I' 0 72 ≤ I' 0 73) ∧ (I' 0 69 = I 0 69) ∧ (I 0 73 ≤ I' 0 73) ∧ (I 0 72 ≤ I' 0 72) ∧ (I' 0 59 - I' 0 72 ≤ I 0 59 - I 0 72) ∧ (gr_LKs I I') ∧ (gs_Or z (0 ≤ (gs_snd β N9 I J (I 0 78) p9) ∧ gr_ATp β N9 (gs_snd β N9 I J (I 0 78) p9) I' J' ∧ (I' 16 (Int.toNat (I 0 6)) = I 16 (Int.toNat (I 0 6)) + 1 ∧ ∀ j, ¬ j = (Int.toNat (I 0 6)) → I' 16 j = I 16 j) ∧ gs_Usn β N9 I J p9 I' (24 * I 0 6 + I 16 (Int.toNat (I 0 6)))) ((gs_snd β N9 I J (I 0 78) p9) < 0 ∧ I' 0 77 = -1 - (gs_snd β N9 I J (I 0 78) p9) ∧ gs_Ssn I I')))))) (150, [(0, .inr (.inr (some 0))), (1, .inl (I 0 6)), (2, .inl v2_18), (3, .inl v3_29)], [], gr_sh ++ ext, gr_h I38 J39) := by
            intro I38 J39 p_40 hI38 FI38 FJ39 KLK_I38 m_40 e1_40 e2_40 e3_40 e4_40 e5_40
            clear h_I_0_6__29 hv2_18_29 hv3_29 hv4_29 e0_29 e7_29 e8_29 e9_29 e10_29 e11_29 e12_29 e13_29 f30 f31 f32 f33 f34 f35 f36 t37
            obtain ⟨h_I_0_6__40, hv2_18_40, hv3_29_40, e0_40, e6_40, e7_40, e8_40, e9_40, e10_40, e11_40, e12_40⟩ := m_40
            have f41 := (gr_b_0_71 hI38)
            have f42 := (gr_b_0_72 hI38)
            have f43 := (gr_b_0_73 hI38)
            have f44 := (gr_b_0_69 hI38)
            have f45 := (gr_b_0_6 hI38)
            have f46 := (gr_b_0_59 hI38)
            have f47 := (gr_b_0_104 hI38)
            have t48 := gr_ATp_l e1_40
            have L212 : ∀ (n : Nat) (I49 : gr_I) (J50 : gr_J) (v4_51 : Int) (v5_51 : Int) (p_51 : Int), (4 - v5_51).toNat < n → gr_Inv I49 → gr_fr [59, 71, 72, 73, 74, 75, 76, 77, 104] [16, 27, 28, 29, 30, 51, 63] I I49 → gr_fj [59, 71, 72, 73, 74, 75, 76, 77, 104] [16, 27, 28, 29, 30, 51, 63] J J50 → gr_LKs I I49 → ((0 ≤ v4_51 ∧ v4_51 ≤ 191) ∧ (0 ≤ v5_51 ∧ v5_51 ≤ 3) ∧ (0 ≤ p_51) ∧ (I49 0 72 ≤ I49 0 69) ∧ (I49 0 72 ≤ I49 0 73) ∧ (I49 0 69 = I 0 69) ∧ (I 0 73 ≤ I49 0 73) ∧ (I 0 72 ≤ I49 0 72) ∧ (I49 0 6 = I 0 6) ∧ (I49 0 59 - I49 0 72 ≤ I 0 59 - I 0 72)) → (gr_ATp β N9 p_51 I49 J50) → ((gs_snd β N9 I J (I 0 78) p9) = p_51) → ((I49 16 (Int.toNat (I 0 6)) = I 16 (Int.toNat (I 0 6)) + 1 ∧ ∀ j, ¬ j = (Int.toNat (I 0 6)) → I49 16 j = I 16 j)) → (v4_51 = (24 * I 0 6 + I 16 (Int.toNat (I 0 6)))) → (gs_s9 β N9 I J p9 I49 v4_51 v5_51) → gv_X (gr_E ws0 tb 12 (yX13_sound, cX13_sound, 6, (some .boolean)) kX13_sound) (gv_Q cX13_sound (some .boolean) (gr_sh ++ ext) (fun r h' => (∃ (I' : gr_I) (J' : gr_J), h' = gr_h I' J' ∧ gr_Inv I' ∧ gr_fr [59, 71, 72, 73, 74, 75, 76, 77, 104] [16, 27, 28, 29, 30, 51, 63] I I' ∧ gr_fj [59, 71, 72, 73, 74, 75, 76, 77, 104] [16, 27, 28, 29, 30, 51, 63] J J' ∧ (∃ z : Int, r = some (.inl z) ∧ 0 ≤ z ∧ z ≤ 1 ∧ (I' 0 71 = 5 ∨ I' 0 73 ≤ I' 0 69) ∧ (I' 0 72 ≤ I' 0 69) ∧ (I' 0 71 = 0 ∨ (I' 0 72 < I' 0 73 ∧ I' 0 72 < I' 0 69)) ∧ (I' 0 71 = 3 → 2 ≤ I' 0 73 - I' 0 72 ∧ I' 0 73 - I' 0 72 ≤ 14) ∧ (I' 0 72 ≤ I' 0 73) ∧ (I' 0 69 = I 0 69) ∧ (I 0 73 ≤ I' 0 73) ∧ (I 0 72 ≤ I' 0 72) ∧ (I' 0 59 - I' 0 72 ≤ I 0 59 - I 0 72) ∧ (gr_LKs I I') ∧ (gs_Or z (0 ≤ (gs_snd β N9 I J (I 0 78) p9) ∧ gr_ATp β N9 (gs_snd β N9 I J (I 0 78) p9) I' J' ∧ (I' 16 (Int.toNat (I 0 6)) = I 16 (Int.toNat (I 0 6)) + 1 ∧ ∀ j, ¬ j = (Int.toNat (I 0 6)) → I' 16 j = I 16 j) ∧ gs_Usn β N9 I J p9 I' (24 * I 0 6 + I 16 (Int.toNat (I 0 6)))) ((gs_snd β N9 I J (I 0 78) p9) < 0 ∧ I' 0 77 = -1 - (gs_snd β N9 I J (I 0 78) p9) ∧ gs_Ssn I I')))))) (212, [(0, .inr (.inr (some 0))), (4, .inl v4_51), (5, .inl v5_51)], [], gr_sh ++ ext, gr_h I49 J50) := by
              intro n
              induction n with
              | zero => intro I49 J50 v4_51 v5_51 p_51 hn; exact gz_m 1 (by omega)
              | succ n ih212 =>
                intro I49 J50 v4_51 v5_51 p_51 hn hI49 FI49 FJ50 KLK_I49 m_51 e1_51 e2_51 e3_51 e4_51 e5_51
                clear h_I_0_6__40 hv2_18_40 hv3_29_40 e0_40 e6_40 e7_40 e8_40 e9_40 e10_40 e11_40 e12_40 f41 f42 f43 f44 f45 f46 f47 t48
                obtain ⟨hv4_51, hv5_51, e0_51, e6_51, e7_51, e8_51, e9_51, e10_51, e11_51, e12_51⟩ := m_51
                have f52 := (gr_b_0_71 hI49)
                have f53 := (gr_b_0_72 hI49)
                have f54 := (gr_b_0_73 hI49)
                have f55 := (gr_b_0_69 hI49)
                have f56 := (gr_b_0_6 hI49)
                have f57 := (gr_b_0_59 hI49)
                have f58 := (gr_b_0_104 hI49)
                have t59 := gr_ATp_l e1_51
                refine gv_run 2 true hD (pc' := 215) (lv' := [(0, .inr (.inr (some 0))), (4, .inl v4_51), (5, .inl v5_51)]) (st' := [.inl 3, .inl v5_51]) (h' := gr_h I49 J50) (C := ((True ∧ True) ∧ True)) rfl ⟨⟨trivial, trivial⟩, trivial⟩ ?_
                refine gv_icmp_ge (t := 264) hD rfl rfl ⟨⟨by exact gz_m 2 (by omega), by exact gz_m 3 (by omega)⟩, ⟨by exact gz_m 4 (by omega), by exact gz_m 5 (by omega)⟩⟩ (fun c60 => ?_) (fun c60 => ?_)
                · refine gv_run 1 true hD (pc' := 265) (lv' := [(0, .inr (.inr (some 0))), (4, .inl v4_51), (5, .inl v5_51)]) (st' := [.inl 1]) (h' := gr_h I49 J50) (C := (True ∧ True)) rfl ⟨trivial, trivial⟩ ?_
                  have b61 : (I49 0 69 = I 0 69) ∧ (I 0 73 ≤ I49 0 73) ∧ (I 0 72 ≤ I49 0 72) ∧ (I49 0 59 - I49 0 72 ≤ I 0 59 - I 0 72) := by exact gz_m 6 (by omega)
                  exact gv_zret hD rfl (by exact gz_m 7 (by omega)) ⟨I49, J50, rfl, hI49, FI49, FJ50, ⟨_, rfl, by exact gz_m 8 (by omega), by exact gz_m 9 (by omega), (gr_ATp_rr e1_51).1, (gr_ATp_rr e1_51).2.1, (gr_ATp_rr e1_51).2.2.1, (gr_ATp_rr e1_51).2.2.2.1, (gr_ATp_rr e1_51).2.2.2.2, b61.1, b61.2.1, b61.2.2.1, b61.2.2.2, KLK_I49, (Or.inl ⟨by exact gz_m 10 (by omega), by rw [e2_51]; exact ⟨by exact gz_m 11 (by omega), e1_51, e3_51, (by rw [← e4_51]; exact gs_Usn_mk e5_51 (by exact gz_m 12 (by omega)) (fun j => FI49 26 j rfl) (fun j => FI49 15 j rfl) (gs_lh (first := (I 0 78)) (by rw [e2_51]; exact gz_m 13 (by omega)) (by rw [← (gr_ATp_l x7).1]; exact (hI 0 72).1.1)))⟩⟩)⟩⟩
                · refine gv_run 7 true hD (pc' := 229) (lv' := [(0, .inr (.inr (some 0))), (4, .inl v4_51), (5, .inl v5_51)]) (st' := [.inl ((3 * v4_51) + v5_51), .inr (.inr (some 29))]) (h' := gr_h I49 J50) (C := (((((((True ∧ True) ∧ True) ∧ True) ∧ True) ∧ True) ∧ True) ∧ True)) rfl ⟨⟨⟨⟨⟨⟨⟨trivial, trivial⟩, trivial⟩, trivial⟩, trivial⟩, trivial⟩, trivial⟩, trivial⟩ ?_
                  have f62 := (show ((-2147483648) ≤ I49 63 (Int.toNat v5_51) ∧ I49 63 (Int.toNat v5_51) ≤ 2147483647) ∧ ((I49 63 (Int.toNat v5_51)) = -2147483648 ∨ (I49 63 (Int.toNat v5_51)) = 2147483647 ∨ -16 ≤ (I49 63 (Int.toNat v5_51)) ∧ (I49 63 (Int.toNat v5_51)) ≤ 32015) from hI49 63 (Int.toNat v5_51))
                  refine gv_run 4 true hD (pc' := 236) (lv' := [(0, .inr (.inr (some 0))), (4, .inl v4_51), (5, .inl v5_51)]) (st' := [.inl (I49 63 (Int.toNat v5_51)), .inl ((3 * v4_51) + v5_51), .inr (.inr (some 29))]) (h' := gr_h I49 J50) (C := ((((True ∧ True) ∧ True) ∧ True) ∧ (0 ≤ v5_51 ∧ v5_51 < ((6 : Nat) : Int)))) rfl ⟨⟨⟨⟨trivial, trivial⟩, trivial⟩, trivial⟩, ⟨by exact gz_m 14 (by omega), by exact gz_m 15 (by omega)⟩⟩ ?_
                  refine gv_run 1 true hD (pc' := 237) (lv' := [(0, .inr (.inr (some 0))), (4, .inl v4_51), (5, .inl v5_51)]) (st' := []) (h' := gz_up (gr_h I49 J50) 29 (Int.toNat (((3 * v4_51) + v5_51))) (.inl ((I49 63 (Int.toNat v5_51))))) (C := (True ∧ (0 ≤ (((3 * v4_51) + v5_51)) ∧ (((3 * v4_51) + v5_51)) < ((576 : Nat) : Int)))) rfl ⟨trivial, ⟨by exact gz_m 16 (by omega), by exact gz_m 17 (by omega)⟩⟩ ?_
                  refine gr_st hI49 FI49 rfl rfl ⟨⟨by show (-2147483648) ≤ _; exact gz_m 18 (by omega), by show _ ≤ 2147483647; exact gz_m 19 (by omega)⟩, by show (((I49 63 (Int.toNat v5_51))) = -2147483648 ∨ ((I49 63 (Int.toNat v5_51))) = 2147483647 ∨ -16 ≤ ((I49 63 (Int.toNat v5_51))) ∧ ((I49 63 (Int.toNat v5_51))) ≤ 32015); exact gz_m 20 (by omega)⟩ (fun I63 hI63 FI63 q64 p64 => ?_)
                  have t65 := p64 0 71 (fun q => absurd q.1 (by decide))
                  have t66 := p64 0 72 (fun q => absurd q.1 (by decide))
                  have t67 := p64 0 73 (fun q => absurd q.1 (by decide))
                  have t68 := p64 0 69 (fun q => absurd q.1 (by decide))
                  have t69 := p64 0 6 (fun q => absurd q.1 (by decide))
                  have t70 := p64 0 59 (fun q => absurd q.1 (by decide))
                  have t71 := p64 0 104 (fun q => absurd q.1 (by decide))
                  have f72 := (gr_b_0_71 hI63)
                  have f73 := (gr_b_0_72 hI63)
                  have f74 := (gr_b_0_73 hI63)
                  have f75 := (gr_b_0_69 hI63)
                  have f76 := (gr_b_0_6 hI63)
                  have f77 := (gr_b_0_59 hI63)
                  have f78 := (gr_b_0_104 hI63)
                  have KLK_I63 := gr_LKs_fr KLK_I49 (fun k => p64 51 k (fun q => absurd q.1 (by decide))) (p64 0 59 (fun q => absurd q.1 (by decide)))
                  have A79 := gr_ATp_sr e1_51 p64 rfl
                  refine gv_run 7 true hD (pc' := 248) (lv' := [(0, .inr (.inr (some 0))), (4, .inl v4_51), (5, .inl v5_51)]) (st' := [.inl ((3 * v4_51) + v5_51), .inr (.inr (some 30))]) (h' := gr_h I63 J50) (C := (((((((True ∧ True) ∧ True) ∧ True) ∧ True) ∧ True) ∧ True) ∧ True)) rfl ⟨⟨⟨⟨⟨⟨⟨trivial, trivial⟩, trivial⟩, trivial⟩, trivial⟩, trivial⟩, trivial⟩, trivial⟩ ?_
                  have f80 := (show ((-2147483648) ≤ I63 63 (Int.toNat ((3 + v5_51))) ∧ I63 63 (Int.toNat ((3 + v5_51))) ≤ 2147483647) ∧ ((I63 63 (Int.toNat ((3 + v5_51)))) = -2147483648 ∨ (I63 63 (Int.toNat ((3 + v5_51)))) = 2147483647 ∨ -16 ≤ (I63 63 (Int.toNat ((3 + v5_51)))) ∧ (I63 63 (Int.toNat ((3 + v5_51)))) ≤ 32015) from hI63 63 (Int.toNat ((3 + v5_51))))
                  refine gv_run 6 true hD (pc' := 257) (lv' := [(0, .inr (.inr (some 0))), (4, .inl v4_51), (5, .inl v5_51)]) (st' := [.inl (I63 63 (Int.toNat ((3 + v5_51)))), .inl ((3 * v4_51) + v5_51), .inr (.inr (some 30))]) (h' := gr_h I63 J50) (C := ((((((True ∧ True) ∧ True) ∧ True) ∧ True) ∧ True) ∧ (0 ≤ (3 + v5_51) ∧ (3 + v5_51) < ((6 : Nat) : Int)))) rfl ⟨⟨⟨⟨⟨⟨trivial, trivial⟩, trivial⟩, trivial⟩, trivial⟩, trivial⟩, ⟨by exact gz_m 21 (by omega), by exact gz_m 22 (by omega)⟩⟩ ?_
                  refine gv_run 1 true hD (pc' := 258) (lv' := [(0, .inr (.inr (some 0))), (4, .inl v4_51), (5, .inl v5_51)]) (st' := []) (h' := gz_up (gr_h I63 J50) 30 (Int.toNat (((3 * v4_51) + v5_51))) (.inl ((I63 63 (Int.toNat ((3 + v5_51))))))) (C := (True ∧ (0 ≤ (((3 * v4_51) + v5_51)) ∧ (((3 * v4_51) + v5_51)) < ((576 : Nat) : Int)))) rfl ⟨trivial, ⟨by exact gz_m 23 (by omega), by exact gz_m 24 (by omega)⟩⟩ ?_
                  refine gr_st hI63 FI63 rfl rfl ⟨⟨by show (-2147483648) ≤ _; exact gz_m 25 (by omega), by show _ ≤ 2147483647; exact gz_m 26 (by omega)⟩, by show (((I63 63 (Int.toNat ((3 + v5_51))))) = -2147483648 ∨ ((I63 63 (Int.toNat ((3 + v5_51))))) = 2147483647 ∨ -16 ≤ ((I63 63 (Int.toNat ((3 + v5_51))))) ∧ ((I63 63 (Int.toNat ((3 + v5_51))))) ≤ 32015); exact gz_m 27 (by omega)⟩ (fun I81 hI81 FI81 q82 p82 => ?_)
                  have t83 := p82 0 71 (fun q => absurd q.1 (by decide))
                  have t84 := p82 0 72 (fun q => absurd q.1 (by decide))
                  have t85 := p82 0 73 (fun q => absurd q.1 (by decide))
                  have t86 := p82 0 69 (fun q => absurd q.1 (by decide))
                  have t87 := p82 0 6 (fun q => absurd q.1 (by decide))
                  have t88 := p82 0 59 (fun q => absurd q.1 (by decide))
                  have t89 := p82 0 104 (fun q => absurd q.1 (by decide))
                  have f90 := (gr_b_0_71 hI81)
                  have f91 := (gr_b_0_72 hI81)
                  have f92 := (gr_b_0_73 hI81)
                  have f93 := (gr_b_0_69 hI81)
                  have f94 := (gr_b_0_6 hI81)
                  have f95 := (gr_b_0_59 hI81)
                  have f96 := (gr_b_0_104 hI81)
                  have KLK_I81 := gr_LKs_fr KLK_I63 (fun k => p82 51 k (fun q => absurd q.1 (by decide))) (p82 0 59 (fun q => absurd q.1 (by decide)))
                  have A97 := gr_ATp_sr A79 p82 rfl
                  refine gv_run 2 true hD (pc' := 212) (lv' := [(5, .inl (v5_51 + 1)), (0, .inr (.inr (some 0))), (4, .inl v4_51)]) (st' := []) (h' := gr_h I81 J50) (C := ((True ∧ True) ∧ True)) rfl ⟨⟨trivial, trivial⟩, trivial⟩ ?_
                  refine gv_pick [1, 2, 0] rfl ?_
                  exact ih212 I81 J50 v4_51 (v5_51 + 1) p_51 (by exact gz_m 28 (by omega)) hI81 FI81 FJ50 KLK_I81 (by exact gz_m 29 (by omega)) A97 e2_51 (by have y9 : ∀ j, I81 16 j = I49 16 j := fun j => ((p82 16 j (fun q => absurd q.1 (by decide))).trans (p64 16 j (fun q => absurd q.1 (by decide)))); exact ⟨(y9 _).trans e3_51.1, fun j hj => (y9 j).trans (e3_51.2 j hj)⟩) e4_51 (gs_s9_s e5_51 (by exact gz_m 30 (by omega)) ⟨by exact gz_m 31 (by omega), by exact gz_m 32 (by omega)⟩ rfl p64 q64 rfl rfl p82 q82 rfl)
            have f98 := (gr_b_16 hI38 (Int.toNat ((I 0 6))))
            refine gv_run 5 true hD (pc' := 157) (lv' := [(0, .inr (.inr (some 0))), (1, .inl (I 0 6)), (2, .inl v2_18), (3, .inl v3_29)]) (st' := [.inl (I38 16 (Int.toNat ((I 0 6)))), .inr (.inr (some 0))]) (h' := gr_h I38 J39) (C := (((((True ∧ True) ∧ True) ∧ True) ∧ True) ∧ (0 ≤ (I 0 6) ∧ (I 0 6) < ((8 : Nat) : Int)))) rfl ⟨⟨⟨⟨⟨trivial, trivial⟩, trivial⟩, trivial⟩, trivial⟩, ⟨by exact gz_m 33 (by omega), by exact gz_m 34 (by omega)⟩⟩ ?_
            refine gv_run 1 true hD (pc' := 159) (lv' := [(0, .inr (.inr (some 0))), (1, .inl (I 0 6)), (2, .inl v2_18), (3, .inl v3_29)]) (st' := [.inl 24, .inl (I38 16 (Int.toNat ((I 0 6)))), .inr (.inr (some 0))]) (h' := gr_h I38 J39) (C := (True ∧ True)) rfl ⟨trivial, trivial⟩ ?_
            have t99 := (show I38 16 (Int.toNat (I 0 6)) = I 16 (Int.toNat (I 0 6)) from (e5_40.1 _))
            refine gv_icmp_ge (t := 166) hD rfl rfl ⟨⟨by exact gz_m 35 (by omega), by exact gz_m 36 (by omega)⟩, ⟨by exact gz_m 37 (by omega), by exact gz_m 38 (by omega)⟩⟩ (fun c100 => ?_) (fun c100 => ?_)
            · refine gv_run 1 true hD (pc' := 167) (lv' := [(0, .inr (.inr (some 0))), (1, .inl (I 0 6)), (2, .inl v2_18), (3, .inl v3_29)]) (st' := [.inl 0, .inr (.inr (some 0))]) (h' := gr_h I38 J39) (C := (True ∧ True)) rfl ⟨trivial, trivial⟩ ?_
              obtain ⟨r101, h101, E101, P101⟩ := r_done_p (ws0 := ws0) (tb := tb) hws htb ext β N9 p_40 I38 J39 hI38 0 ⟨by exact gz_m 39 (by omega), by exact gz_m 40 (by omega)⟩ (gr_ATp_rr e1_40).1 (gr_ATp_rr e1_40).2.1 (gr_ATp_rr e1_40).2.2.1 (gr_ATp_rr e1_40).2.2.2.1 (gr_ATp_rr e1_40).2.2.2.2 e1_40 (by exact gz_m 41 (by omega))
              obtain ⟨I102, J103, rfl, hI102, g101, k101, ⟨z101, rfl, q101⟩⟩ := P101
              have FI102 := gr_frt FI38 g101 rfl rfl
              have FJ103 := gr_fjt FJ39 k101 rfl rfl
              have t104 := g101 0 69 rfl
              have t105 := g101 0 6 rfl
              have t106 := g101 0 59 rfl
              have t107 := g101 0 104 rfl
              have t108 := g101 16 (Int.toNat ((I 0 6))) rfl
              have f109 := (gr_b_0_71 hI102)
              have f110 := (gr_b_0_72 hI102)
              have f111 := (gr_b_0_73 hI102)
              have f112 := (gr_b_0_69 hI102)
              have f113 := (gr_b_0_6 hI102)
              have f114 := (gr_b_0_59 hI102)
              have f115 := (gr_b_0_104 hI102)
              have KLK_I102 := gr_LKs_fr KLK_I38 (fun k => g101 51 k rfl) (g101 0 59 rfl)
              refine gv_callV hD rfl (As := [.inl 0]) (st := []) rfl (by decide) rfl rfl (gr_lV hws rfl) (Nat.le_of_ble_eq_true rfl) (gz_Ev_mono (d := 11) (by decide) E101) ?_
              show gv_X _ _ (170, [(0, .inr (.inr (some 0))), (1, .inl (I 0 6)), (2, .inl v2_18), (3, .inl v3_29)], [.inl z101], gr_sh ++ ext, gr_h I102 J103)
              refine gv_if_ne (t := 175) hD rfl rfl ⟨by exact gz_m 42 (by omega), by exact gz_m 43 (by omega)⟩ (fun c116 => ?_) (fun c116 => ?_)
              · have Q117 := q101.2.2.2.2.2.2.2.2.2.2.2.2
                rw [FI38 0 78 rfl] at Q117
                obtain ⟨u117, A117⟩ := gs_or1 Q117 (by exact gz_m 44 (by omega))
                have t118 := gr_ATp_l A117
                have t119 := (q101.2.2.2.2.2.2.2.2.2.2.1).resolve_left (by exact gz_m 45 (by omega))
                have t120 := (q101.2.2.2.2.2.2.2.2.2.2.2.1).resolve_left (by exact gz_m 46 (by omega))
                obtain ⟨_, _, -, _, -, -, _, _, _, _, -, -, -⟩ := q101
                have t121 := (gr_ATp_rr e1_40).2.2.1.resolve_left (by exact gz_m 47 (by omega))
                refine gv_run 7 true hD (pc' := 185) (lv' := [(0, .inr (.inr (some 0))), (1, .inl (I 0 6)), (2, .inl v2_18), (3, .inl v3_29)]) (st' := [.inl (I 0 6), .inr (.inr (some 16)), .inl (I 0 6), .inr (.inr (some 16)), .inl (24 * (I 0 6))]) (h' := gr_h I102 J103) (C := (((((((True ∧ True) ∧ True) ∧ True) ∧ True) ∧ True) ∧ True) ∧ True)) rfl ⟨⟨⟨⟨⟨⟨⟨trivial, trivial⟩, trivial⟩, trivial⟩, trivial⟩, trivial⟩, trivial⟩, trivial⟩ ?_
                have f122 := (gr_b_16 hI102 (Int.toNat ((I 0 6))))
                refine gv_run 1 true hD (pc' := 186) (lv' := [(0, .inr (.inr (some 0))), (1, .inl (I 0 6)), (2, .inl v2_18), (3, .inl v3_29)]) (st' := [.inl (I102 16 (Int.toNat ((I 0 6)))), .inl (I 0 6), .inr (.inr (some 16)), .inl (24 * (I 0 6))]) (h' := gr_h I102 J103) (C := (True ∧ (0 ≤ (I 0 6) ∧ (I 0 6) < ((8 : Nat) : Int)))) rfl ⟨trivial, ⟨by exact gz_m 48 (by omega), by exact gz_m 49 (by omega)⟩⟩ ?_
                refine gv_run 3 true hD (pc' := 189) (lv' := [(0, .inr (.inr (some 0))), (1, .inl (I 0 6)), (2, .inl v2_18), (3, .inl v3_29)]) (st' := [.inl ((I102 16 (Int.toNat ((I 0 6)))) + 1), .inl (I 0 6), .inr (.inr (some 16)), .inl (I102 16 (Int.toNat ((I 0 6)))), .inl (24 * (I 0 6))]) (h' := gr_h I102 J103) (C := (((True ∧ True) ∧ True) ∧ True)) rfl ⟨⟨⟨trivial, trivial⟩, trivial⟩, trivial⟩ ?_
                refine gv_run 1 true hD (pc' := 190) (lv' := [(0, .inr (.inr (some 0))), (1, .inl (I 0 6)), (2, .inl v2_18), (3, .inl v3_29)]) (st' := [.inl (I102 16 (Int.toNat ((I 0 6)))), .inl (24 * (I 0 6))]) (h' := gz_up (gr_h I102 J103) 16 (Int.toNat ((I 0 6))) (.inl (((I102 16 (Int.toNat ((I 0 6)))) + 1)))) (C := (True ∧ (0 ≤ (I 0 6) ∧ (I 0 6) < ((8 : Nat) : Int)))) rfl ⟨trivial, ⟨by exact gz_m 50 (by omega), by exact gz_m 51 (by omega)⟩⟩ ?_
                refine gr_st hI102 FI102 rfl rfl ⟨⟨by show 0 ≤ _; exact gz_m 52 (by omega), by show _ ≤ 24; exact gz_m 53 (by omega)⟩, trivial⟩ (fun I123 hI123 FI123 q124 p124 => ?_)
                have t125 := p124 0 71 (fun q => absurd q.1 (by decide))
                have t126 := p124 0 72 (fun q => absurd q.1 (by decide))
                have t127 := p124 0 73 (fun q => absurd q.1 (by decide))
                have t128 := p124 0 69 (fun q => absurd q.1 (by decide))
                have t129 := p124 0 6 (fun q => absurd q.1 (by decide))
                have t130 := p124 0 59 (fun q => absurd q.1 (by decide))
                have t131 := p124 0 104 (fun q => absurd q.1 (by decide))
                have f132 := (gr_b_0_71 hI123)
                have f133 := (gr_b_0_72 hI123)
                have f134 := (gr_b_0_73 hI123)
                have f135 := (gr_b_0_69 hI123)
                have f136 := (gr_b_0_6 hI123)
                have f137 := (gr_b_0_59 hI123)
                have f138 := (gr_b_0_104 hI123)
                have KLK_I123 := gr_LKs_fr KLK_I102 (fun k => p124 51 k (fun q => absurd q.1 (by decide))) (p124 0 59 (fun q => absurd q.1 (by decide)))
                have A139 := gr_ATp_sr A117 p124 rfl
                refine gv_run 6 true hD (pc' := 200) (lv' := [(4, .inl ((24 * (I 0 6)) + (I102 16 (Int.toNat ((I 0 6)))))), (0, .inr (.inr (some 0))), (1, .inl (I 0 6)), (2, .inl v2_18), (3, .inl v3_29)]) (st' := [.inl v2_18, .inl ((24 * (I 0 6)) + (I102 16 (Int.toNat ((I 0 6))))), .inr (.inr (some 27))]) (h' := gr_h I123 J103) (C := ((((((True ∧ True) ∧ True) ∧ True) ∧ True) ∧ True) ∧ True)) rfl ⟨⟨⟨⟨⟨⟨trivial, trivial⟩, trivial⟩, trivial⟩, trivial⟩, trivial⟩, trivial⟩ ?_
                refine gv_run 1 true hD (pc' := 201) (lv' := [(4, .inl ((24 * (I 0 6)) + (I102 16 (Int.toNat ((I 0 6)))))), (0, .inr (.inr (some 0))), (1, .inl (I 0 6)), (2, .inl v2_18), (3, .inl v3_29)]) (st' := []) (h' := gz_up (gr_h I123 J103) 27 (Int.toNat (((24 * (I 0 6)) + (I102 16 (Int.toNat ((I 0 6))))))) (.inl v2_18)) (C := (True ∧ (0 ≤ (((24 * (I 0 6)) + (I102 16 (Int.toNat ((I 0 6)))))) ∧ (((24 * (I 0 6)) + (I102 16 (Int.toNat ((I 0 6)))))) < ((192 : Nat) : Int)))) rfl ⟨trivial, ⟨by exact gz_m 54 (by omega), by exact gz_m 55 (by omega)⟩⟩ ?_
                refine gr_st hI123 FI123 rfl rfl ⟨⟨by show (-16) ≤ _; exact gz_m 56 (by omega), by show _ ≤ 32015; exact gz_m 57 (by omega)⟩, trivial⟩ (fun I140 hI140 FI140 q141 p141 => ?_)
                have t142 := p141 0 71 (fun q => absurd q.1 (by decide))
                have t143 := p141 0 72 (fun q => absurd q.1 (by decide))
                have t144 := p141 0 73 (fun q => absurd q.1 (by decide))
                have t145 := p141 0 69 (fun q => absurd q.1 (by decide))
                have t146 := p141 0 6 (fun q => absurd q.1 (by decide))
                have t147 := p141 0 59 (fun q => absurd q.1 (by decide))
                have t148 := p141 0 104 (fun q => absurd q.1 (by decide))
                have t149 := p141 16 (Int.toNat ((I 0 6))) (fun q => absurd q.1 (by decide))
                have f150 := (gr_b_0_71 hI140)
                have f151 := (gr_b_0_72 hI140)
                have f152 := (gr_b_0_73 hI140)
                have f153 := (gr_b_0_69 hI140)
                have f154 := (gr_b_0_6 hI140)
                have f155 := (gr_b_0_59 hI140)
                have f156 := (gr_b_0_104 hI140)
                have KLK_I140 := gr_LKs_fr KLK_I123 (fun k => p141 51 k (fun q => absurd q.1 (by decide))) (p141 0 59 (fun q => absurd q.1 (by decide)))
                have A157 := gr_ATp_sr A139 p141 rfl
                refine gv_run 4 true hD (pc' := 208) (lv' := [(4, .inl ((24 * (I 0 6)) + (I102 16 (Int.toNat ((I 0 6)))))), (0, .inr (.inr (some 0))), (1, .inl (I 0 6)), (2, .inl v2_18), (3, .inl v3_29)]) (st' := [.inl v3_29, .inl ((24 * (I 0 6)) + (I102 16 (Int.toNat ((I 0 6))))), .inr (.inr (some 28))]) (h' := gr_h I140 J103) (C := ((((True ∧ True) ∧ True) ∧ True) ∧ True)) rfl ⟨⟨⟨⟨trivial, trivial⟩, trivial⟩, trivial⟩, trivial⟩ ?_
                refine gv_run 1 true hD (pc' := 209) (lv' := [(4, .inl ((24 * (I 0 6)) + (I102 16 (Int.toNat ((I 0 6)))))), (0, .inr (.inr (some 0))), (1, .inl (I 0 6)), (2, .inl v2_18), (3, .inl v3_29)]) (st' := []) (h' := gz_up (gr_h I140 J103) 28 (Int.toNat (((24 * (I 0 6)) + (I102 16 (Int.toNat ((I 0 6))))))) (.inl v3_29)) (C := (True ∧ (0 ≤ (((24 * (I 0 6)) + (I102 16 (Int.toNat ((I 0 6)))))) ∧ (((24 * (I 0 6)) + (I102 16 (Int.toNat ((I 0 6)))))) < ((192 : Nat) : Int)))) rfl ⟨trivial, ⟨by exact gz_m 58 (by omega), by exact gz_m 59 (by omega)⟩⟩ ?_
                refine gr_st hI140 FI140 rfl rfl ⟨⟨by show 0 ≤ _; exact gz_m 60 (by omega), by show _ ≤ 32015; exact gz_m 61 (by omega)⟩, trivial⟩ (fun I158 hI158 FI158 q159 p159 => ?_)
                have t160 := p159 0 71 (fun q => absurd q.1 (by decide))
                have t161 := p159 0 72 (fun q => absurd q.1 (by decide))
                have t162 := p159 0 73 (fun q => absurd q.1 (by decide))
                have t163 := p159 0 69 (fun q => absurd q.1 (by decide))
                have t164 := p159 0 6 (fun q => absurd q.1 (by decide))
                have t165 := p159 0 59 (fun q => absurd q.1 (by decide))
                have t166 := p159 0 104 (fun q => absurd q.1 (by decide))
                have t167 := p159 16 (Int.toNat ((I 0 6))) (fun q => absurd q.1 (by decide))
                have f168 := (gr_b_0_71 hI158)
                have f169 := (gr_b_0_72 hI158)
                have f170 := (gr_b_0_73 hI158)
                have f171 := (gr_b_0_69 hI158)
                have f172 := (gr_b_0_6 hI158)
                have f173 := (gr_b_0_59 hI158)
                have f174 := (gr_b_0_104 hI158)
                have KLK_I158 := gr_LKs_fr KLK_I140 (fun k => p159 51 k (fun q => absurd q.1 (by decide))) (p159 0 59 (fun q => absurd q.1 (by decide)))
                have A175 := gr_ATp_sr A157 p159 rfl
                refine gv_run 2 true hD (pc' := 212) (lv' := [(5, .inl 0), (4, .inl ((24 * (I 0 6)) + (I102 16 (Int.toNat ((I 0 6)))))), (0, .inr (.inr (some 0))), (1, .inl (I 0 6)), (2, .inl v2_18), (3, .inl v3_29)]) (st' := []) (h' := gr_h I158 J103) (C := ((True ∧ True) ∧ True)) rfl ⟨⟨trivial, trivial⟩, trivial⟩ ?_
                refine gv_pick [2, 1, 0] rfl ?_
                exact L212 _ I158 J103 (((24 * (I 0 6)) + (I102 16 (Int.toNat ((I 0 6)))))) 0 ((gs_done β N9 0 (I 0 78) p_40)) (Nat.lt_succ_self _) hI158 FI158 FJ103 KLK_I158 (by exact gz_m 62 (by omega)) A175 (by first | (exfalso; exact gz_m 63 (by omega)) | (rw [e2_40]; unfold gs_snd6; (repeat first | rw [if_pos (by exact gz_m 64 (by omega))] | rw [if_neg (by exact gz_m 65 (by omega))]))) (by have v9 : I102 16 (Int.toNat (I 0 6)) = I 16 (Int.toNat (I 0 6)) := ((g101 16 _ rfl).trans (e5_40.1 _)); exact ⟨(((p159 16 _ (fun q => absurd q.1 (by decide))).trans (p141 16 _ (fun q => absurd q.1 (by decide))))).trans (by rw [show (Int.toNat (I 0 6)) = (Int.toNat ((I 0 6))) from by exact gz_m 66 (by omega), q124]; exact gz_m 67 (by omega)), fun j hj => (((p159 16 j (fun q => absurd q.1 (by decide))).trans (p141 16 j (fun q => absurd q.1 (by decide))))).trans ((p124 16 j (fun h => hj (by have h9 := h.2; exact gz_m 68 (by omega)))).trans ((g101 16 j rfl).trans (e5_40.1 j)))⟩) (by have v9 : I102 16 (Int.toNat (I 0 6)) = I 16 (Int.toNat (I 0 6)) := ((g101 16 _ rfl).trans (e5_40.1 _)); exact gz_m 69 (by omega)) (gs_s9_0 e3_40.1 e3_40.2.1 e3_40.2.2 e4_40 (gr_LKs_fr (gr_LKs_fr (gr_LKs_fr (gr_LKs_fr gr_LKs_rf (fun k => g101 51 k rfl) (g101 0 59 rfl)) (fun k => p124 51 k (fun q => absurd q.1 (by decide))) (p124 0 59 (fun q => absurd q.1 (by decide)))) (fun k => p141 51 k (fun q => absurd q.1 (by decide))) (p141 0 59 (fun q => absurd q.1 (by decide)))) (fun k => p159 51 k (fun q => absurd q.1 (by decide))) (p159 0 59 (fun q => absurd q.1 (by decide)))) (fun j => ((((p159 63 j (fun q => absurd q.1 (by decide))).trans (p141 63 j (fun q => absurd q.1 (by decide)))).trans (p124 63 j (fun q => absurd q.1 (by decide)))).trans (g101 63 j rfl))) ((p159 27 _ (fun q => absurd q.1 (by decide))).trans q141) q159 (fun j hj => (p159 27 j (fun q => absurd q.1 (by decide))).trans ((p141 27 j (fun q => hj q.2)).trans (((p124 27 j (fun q => absurd q.1 (by decide))).trans (g101 27 j rfl)).trans (e5_40.2.1 j)))) (fun j hj => (p159 28 j (fun q => hj q.2)).trans ((p141 28 j (fun q => absurd q.1 (by decide))).trans (((p124 28 j (fun q => absurd q.1 (by decide))).trans (g101 28 j rfl)).trans (e5_40.2.2.1 j)))) (fun j => (((((p159 29 j (fun q => absurd q.1 (by decide))).trans (p141 29 j (fun q => absurd q.1 (by decide)))).trans (p124 29 j (fun q => absurd q.1 (by decide)))).trans (g101 29 j rfl)).trans (e5_40.2.2.2.1 j))) (fun j => (((((p159 30 j (fun q => absurd q.1 (by decide))).trans (p141 30 j (fun q => absurd q.1 (by decide)))).trans (p124 30 j (fun q => absurd q.1 (by decide)))).trans (g101 30 j rfl)).trans (e5_40.2.2.2.2 j))))
              · have Q176 := q101.2.2.2.2.2.2.2.2.2.2.2.2
                rw [FI38 0 78 rfl] at Q176
                obtain ⟨u176, u176_⟩ := gs_or0 Q176 (by exact gz_m 70 (by omega))
                refine gv_run 1 true hD (pc' := 174) (lv' := [(0, .inr (.inr (some 0))), (1, .inl (I 0 6)), (2, .inl v2_18), (3, .inl v3_29)]) (st' := [.inl 0]) (h' := gr_h I102 J103) (C := (True ∧ True)) rfl ⟨trivial, trivial⟩ ?_
                have b177 : (I102 0 71 = 5 ∨ I102 0 73 ≤ I102 0 69) ∧ (I102 0 72 ≤ I102 0 69) ∧ (I102 0 71 = 0 ∨ (I102 0 72 < I102 0 73 ∧ I102 0 72 < I102 0 69)) ∧ (I102 0 71 = 3 → 2 ≤ I102 0 73 - I102 0 72 ∧ I102 0 73 - I102 0 72 ≤ 14) ∧ (I102 0 72 ≤ I102 0 73) ∧ (I102 0 69 = I 0 69) ∧ (I 0 73 ≤ I102 0 73) ∧ (I 0 72 ≤ I102 0 72) ∧ (I102 0 59 - I102 0 72 ≤ I 0 59 - I 0 72) := by exact gz_m 71 (by omega)
                exact gv_zret hD rfl (by exact gz_m 72 (by omega)) ⟨I102, J103, rfl, hI102, FI102, FJ103, ⟨_, rfl, by exact gz_m 73 (by omega), by exact gz_m 74 (by omega), b177.1, b177.2.1, b177.2.2.1, b177.2.2.2.1, b177.2.2.2.2.1, b177.2.2.2.2.2.1, b177.2.2.2.2.2.2.1, b177.2.2.2.2.2.2.2.1, b177.2.2.2.2.2.2.2.2, KLK_I102, (Or.inr ⟨by exact gz_m 75 (by omega), by first | (exfalso; exact gz_m 76 (by omega)) | (rw [e2_40]; unfold gs_snd6; (repeat first | rw [if_pos (by exact gz_m 77 (by omega))] | rw [if_neg (by exact gz_m 78 (by omega))]); exact ⟨by exact gz_m 79 (by omega), by exact gz_m 80 (by omega), (fun j => ⟨((g101 16 j rfl).trans (e5_40.1 j)), ((g101 27 j rfl).trans (e5_40.2.1 j)), ((g101 28 j rfl).trans (e5_40.2.2.1 j)), ((g101 29 j rfl).trans (e5_40.2.2.2.1 j)), ((g101 30 j rfl).trans (e5_40.2.2.2.2 j))⟩)⟩)⟩)⟩⟩
            · refine gv_run 2 true hD (pc' := 167) (lv' := [(0, .inr (.inr (some 0))), (1, .inl (I 0 6)), (2, .inl v2_18), (3, .inl v3_29)]) (st' := [.inl 1, .inr (.inr (some 0))]) (h' := gr_h I38 J39) (C := ((True ∧ True) ∧ True)) rfl ⟨⟨trivial, trivial⟩, trivial⟩ ?_
              obtain ⟨r178, h178, E178, P178⟩ := r_done_p (ws0 := ws0) (tb := tb) hws htb ext β N9 p_40 I38 J39 hI38 1 ⟨by exact gz_m 81 (by omega), by exact gz_m 82 (by omega)⟩ (gr_ATp_rr e1_40).1 (gr_ATp_rr e1_40).2.1 (gr_ATp_rr e1_40).2.2.1 (gr_ATp_rr e1_40).2.2.2.1 (gr_ATp_rr e1_40).2.2.2.2 e1_40 (by exact gz_m 83 (by omega))
              obtain ⟨I179, J180, rfl, hI179, g178, k178, ⟨z178, rfl, q178⟩⟩ := P178
              have FI179 := gr_frt FI38 g178 rfl rfl
              have FJ180 := gr_fjt FJ39 k178 rfl rfl
              have t181 := g178 0 69 rfl
              have t182 := g178 0 6 rfl
              have t183 := g178 0 59 rfl
              have t184 := g178 0 104 rfl
              have t185 := g178 16 (Int.toNat ((I 0 6))) rfl
              have f186 := (gr_b_0_71 hI179)
              have f187 := (gr_b_0_72 hI179)
              have f188 := (gr_b_0_73 hI179)
              have f189 := (gr_b_0_69 hI179)
              have f190 := (gr_b_0_6 hI179)
              have f191 := (gr_b_0_59 hI179)
              have f192 := (gr_b_0_104 hI179)
              have KLK_I179 := gr_LKs_fr KLK_I38 (fun k => g178 51 k rfl) (g178 0 59 rfl)
              refine gv_callV hD rfl (As := [.inl 1]) (st := []) rfl (by decide) rfl rfl (gr_lV hws rfl) (Nat.le_of_ble_eq_true rfl) (gz_Ev_mono (d := 11) (by decide) E178) ?_
              show gv_X _ _ (170, [(0, .inr (.inr (some 0))), (1, .inl (I 0 6)), (2, .inl v2_18), (3, .inl v3_29)], [.inl z178], gr_sh ++ ext, gr_h I179 J180)
              refine gv_if_ne (t := 175) hD rfl rfl ⟨by exact gz_m 84 (by omega), by exact gz_m 85 (by omega)⟩ (fun c193 => ?_) (fun c193 => ?_)
              · have Q194 := q178.2.2.2.2.2.2.2.2.2.2.2.2
                rw [FI38 0 78 rfl] at Q194
                obtain ⟨u194, A194⟩ := gs_or1 Q194 (by exact gz_m 86 (by omega))
                have t195 := gr_ATp_l A194
                have t196 := (q178.2.2.2.2.2.2.2.2.2.2.1).resolve_left (by exact gz_m 87 (by omega))
                have t197 := (q178.2.2.2.2.2.2.2.2.2.2.2.1).resolve_left (by exact gz_m 88 (by omega))
                obtain ⟨_, _, -, _, -, -, _, _, _, _, -, -, -⟩ := q178
                have t198 := (gr_ATp_rr e1_40).2.2.1.resolve_left (by exact gz_m 89 (by omega))
                refine gv_run 7 true hD (pc' := 185) (lv' := [(0, .inr (.inr (some 0))), (1, .inl (I 0 6)), (2, .inl v2_18), (3, .inl v3_29)]) (st' := [.inl (I 0 6), .inr (.inr (some 16)), .inl (I 0 6), .inr (.inr (some 16)), .inl (24 * (I 0 6))]) (h' := gr_h I179 J180) (C := (((((((True ∧ True) ∧ True) ∧ True) ∧ True) ∧ True) ∧ True) ∧ True)) rfl ⟨⟨⟨⟨⟨⟨⟨trivial, trivial⟩, trivial⟩, trivial⟩, trivial⟩, trivial⟩, trivial⟩, trivial⟩ ?_
                have f199 := (gr_b_16 hI179 (Int.toNat ((I 0 6))))
                refine gv_run 1 true hD (pc' := 186) (lv' := [(0, .inr (.inr (some 0))), (1, .inl (I 0 6)), (2, .inl v2_18), (3, .inl v3_29)]) (st' := [.inl (I179 16 (Int.toNat ((I 0 6)))), .inl (I 0 6), .inr (.inr (some 16)), .inl (24 * (I 0 6))]) (h' := gr_h I179 J180) (C := (True ∧ (0 ≤ (I 0 6) ∧ (I 0 6) < ((8 : Nat) : Int)))) rfl ⟨trivial, ⟨by exact gz_m 90 (by omega), by exact gz_m 91 (by omega)⟩⟩ ?_
                refine gv_run 3 true hD (pc' := 189) (lv' := [(0, .inr (.inr (some 0))), (1, .inl (I 0 6)), (2, .inl v2_18), (3, .inl v3_29)]) (st' := [.inl ((I179 16 (Int.toNat ((I 0 6)))) + 1), .inl (I 0 6), .inr (.inr (some 16)), .inl (I179 16 (Int.toNat ((I 0 6)))), .inl (24 * (I 0 6))]) (h' := gr_h I179 J180) (C := (((True ∧ True) ∧ True) ∧ True)) rfl ⟨⟨⟨trivial, trivial⟩, trivial⟩, trivial⟩ ?_
                refine gv_run 1 true hD (pc' := 190) (lv' := [(0, .inr (.inr (some 0))), (1, .inl (I 0 6)), (2, .inl v2_18), (3, .inl v3_29)]) (st' := [.inl (I179 16 (Int.toNat ((I 0 6)))), .inl (24 * (I 0 6))]) (h' := gz_up (gr_h I179 J180) 16 (Int.toNat ((I 0 6))) (.inl (((I179 16 (Int.toNat ((I 0 6)))) + 1)))) (C := (True ∧ (0 ≤ (I 0 6) ∧ (I 0 6) < ((8 : Nat) : Int)))) rfl ⟨trivial, ⟨by exact gz_m 92 (by omega), by exact gz_m 93 (by omega)⟩⟩ ?_
                refine gr_st hI179 FI179 rfl rfl ⟨⟨by show 0 ≤ _; exact gz_m 94 (by omega), by show _ ≤ 24; exact gz_m 95 (by omega)⟩, trivial⟩ (fun I200 hI200 FI200 q201 p201 => ?_)
                have t202 := p201 0 71 (fun q => absurd q.1 (by decide))
                have t203 := p201 0 72 (fun q => absurd q.1 (by decide))
                have t204 := p201 0 73 (fun q => absurd q.1 (by decide))
                have t205 := p201 0 69 (fun q => absurd q.1 (by decide))
                have t206 := p201 0 6 (fun q => absurd q.1 (by decide))
                have t207 := p201 0 59 (fun q => absurd q.1 (by decide))
                have t208 := p201 0 104 (fun q => absurd q.1 (by decide))
                have f209 := (gr_b_0_71 hI200)
                have f210 := (gr_b_0_72 hI200)
                have f211 := (gr_b_0_73 hI200)
                have f212 := (gr_b_0_69 hI200)
                have f213 := (gr_b_0_6 hI200)
                have f214 := (gr_b_0_59 hI200)
                have f215 := (gr_b_0_104 hI200)
                have KLK_I200 := gr_LKs_fr KLK_I179 (fun k => p201 51 k (fun q => absurd q.1 (by decide))) (p201 0 59 (fun q => absurd q.1 (by decide)))
                have A216 := gr_ATp_sr A194 p201 rfl
                refine gv_run 6 true hD (pc' := 200) (lv' := [(4, .inl ((24 * (I 0 6)) + (I179 16 (Int.toNat ((I 0 6)))))), (0, .inr (.inr (some 0))), (1, .inl (I 0 6)), (2, .inl v2_18), (3, .inl v3_29)]) (st' := [.inl v2_18, .inl ((24 * (I 0 6)) + (I179 16 (Int.toNat ((I 0 6))))), .inr (.inr (some 27))]) (h' := gr_h I200 J180) (C := ((((((True ∧ True) ∧ True) ∧ True) ∧ True) ∧ True) ∧ True)) rfl ⟨⟨⟨⟨⟨⟨trivial, trivial⟩, trivial⟩, trivial⟩, trivial⟩, trivial⟩, trivial⟩ ?_
                refine gv_run 1 true hD (pc' := 201) (lv' := [(4, .inl ((24 * (I 0 6)) + (I179 16 (Int.toNat ((I 0 6)))))), (0, .inr (.inr (some 0))), (1, .inl (I 0 6)), (2, .inl v2_18), (3, .inl v3_29)]) (st' := []) (h' := gz_up (gr_h I200 J180) 27 (Int.toNat (((24 * (I 0 6)) + (I179 16 (Int.toNat ((I 0 6))))))) (.inl v2_18)) (C := (True ∧ (0 ≤ (((24 * (I 0 6)) + (I179 16 (Int.toNat ((I 0 6)))))) ∧ (((24 * (I 0 6)) + (I179 16 (Int.toNat ((I 0 6)))))) < ((192 : Nat) : Int)))) rfl ⟨trivial, ⟨by exact gz_m 96 (by omega), by exact gz_m 97 (by omega)⟩⟩ ?_
                refine gr_st hI200 FI200 rfl rfl ⟨⟨by show (-16) ≤ _; exact gz_m 98 (by omega), by show _ ≤ 32015; exact gz_m 99 (by omega)⟩, trivial⟩ (fun I217 hI217 FI217 q218 p218 => ?_)
                have t219 := p218 0 71 (fun q => absurd q.1 (by decide))
                have t220 := p218 0 72 (fun q => absurd q.1 (by decide))
                have t221 := p218 0 73 (fun q => absurd q.1 (by decide))
                have t222 := p218 0 69 (fun q => absurd q.1 (by decide))
                have t223 := p218 0 6 (fun q => absurd q.1 (by decide))
                have t224 := p218 0 59 (fun q => absurd q.1 (by decide))
                have t225 := p218 0 104 (fun q => absurd q.1 (by decide))
                have t226 := p218 16 (Int.toNat ((I 0 6))) (fun q => absurd q.1 (by decide))
                have f227 := (gr_b_0_71 hI217)
                have f228 := (gr_b_0_72 hI217)
                have f229 := (gr_b_0_73 hI217)
                have f230 := (gr_b_0_69 hI217)
                have f231 := (gr_b_0_6 hI217)
                have f232 := (gr_b_0_59 hI217)
                have f233 := (gr_b_0_104 hI217)
                have KLK_I217 := gr_LKs_fr KLK_I200 (fun k => p218 51 k (fun q => absurd q.1 (by decide))) (p218 0 59 (fun q => absurd q.1 (by decide)))
                have A234 := gr_ATp_sr A216 p218 rfl
                refine gv_run 4 true hD (pc' := 208) (lv' := [(4, .inl ((24 * (I 0 6)) + (I179 16 (Int.toNat ((I 0 6)))))), (0, .inr (.inr (some 0))), (1, .inl (I 0 6)), (2, .inl v2_18), (3, .inl v3_29)]) (st' := [.inl v3_29, .inl ((24 * (I 0 6)) + (I179 16 (Int.toNat ((I 0 6))))), .inr (.inr (some 28))]) (h' := gr_h I217 J180) (C := ((((True ∧ True) ∧ True) ∧ True) ∧ True)) rfl ⟨⟨⟨⟨trivial, trivial⟩, trivial⟩, trivial⟩, trivial⟩ ?_
                refine gv_run 1 true hD (pc' := 209) (lv' := [(4, .inl ((24 * (I 0 6)) + (I179 16 (Int.toNat ((I 0 6)))))), (0, .inr (.inr (some 0))), (1, .inl (I 0 6)), (2, .inl v2_18), (3, .inl v3_29)]) (st' := []) (h' := gz_up (gr_h I217 J180) 28 (Int.toNat (((24 * (I 0 6)) + (I179 16 (Int.toNat ((I 0 6))))))) (.inl v3_29)) (C := (True ∧ (0 ≤ (((24 * (I 0 6)) + (I179 16 (Int.toNat ((I 0 6)))))) ∧ (((24 * (I 0 6)) + (I179 16 (Int.toNat ((I 0 6)))))) < ((192 : Nat) : Int)))) rfl ⟨trivial, ⟨by exact gz_m 100 (by omega), by exact gz_m 101 (by omega)⟩⟩ ?_
                refine gr_st hI217 FI217 rfl rfl ⟨⟨by show 0 ≤ _; exact gz_m 102 (by omega), by show _ ≤ 32015; exact gz_m 103 (by omega)⟩, trivial⟩ (fun I235 hI235 FI235 q236 p236 => ?_)
                have t237 := p236 0 71 (fun q => absurd q.1 (by decide))
                have t238 := p236 0 72 (fun q => absurd q.1 (by decide))
                have t239 := p236 0 73 (fun q => absurd q.1 (by decide))
                have t240 := p236 0 69 (fun q => absurd q.1 (by decide))
                have t241 := p236 0 6 (fun q => absurd q.1 (by decide))
                have t242 := p236 0 59 (fun q => absurd q.1 (by decide))
                have t243 := p236 0 104 (fun q => absurd q.1 (by decide))
                have t244 := p236 16 (Int.toNat ((I 0 6))) (fun q => absurd q.1 (by decide))
                have f245 := (gr_b_0_71 hI235)
                have f246 := (gr_b_0_72 hI235)
                have f247 := (gr_b_0_73 hI235)
                have f248 := (gr_b_0_69 hI235)
                have f249 := (gr_b_0_6 hI235)
                have f250 := (gr_b_0_59 hI235)
                have f251 := (gr_b_0_104 hI235)
                have KLK_I235 := gr_LKs_fr KLK_I217 (fun k => p236 51 k (fun q => absurd q.1 (by decide))) (p236 0 59 (fun q => absurd q.1 (by decide)))
                have A252 := gr_ATp_sr A234 p236 rfl
                refine gv_run 2 true hD (pc' := 212) (lv' := [(5, .inl 0), (4, .inl ((24 * (I 0 6)) + (I179 16 (Int.toNat ((I 0 6)))))), (0, .inr (.inr (some 0))), (1, .inl (I 0 6)), (2, .inl v2_18), (3, .inl v3_29)]) (st' := []) (h' := gr_h I235 J180) (C := ((True ∧ True) ∧ True)) rfl ⟨⟨trivial, trivial⟩, trivial⟩ ?_
                refine gv_pick [2, 1, 0] rfl ?_
                exact L212 _ I235 J180 (((24 * (I 0 6)) + (I179 16 (Int.toNat ((I 0 6)))))) 0 ((gs_done β N9 1 (I 0 78) p_40)) (Nat.lt_succ_self _) hI235 FI235 FJ180 KLK_I235 (by exact gz_m 104 (by omega)) A252 (by first | (exfalso; exact gz_m 105 (by omega)) | (rw [e2_40]; unfold gs_snd6; (repeat first | rw [if_pos (by exact gz_m 106 (by omega))] | rw [if_neg (by exact gz_m 107 (by omega))]))) (by have v9 : I179 16 (Int.toNat (I 0 6)) = I 16 (Int.toNat (I 0 6)) := ((g178 16 _ rfl).trans (e5_40.1 _)); exact ⟨(((p236 16 _ (fun q => absurd q.1 (by decide))).trans (p218 16 _ (fun q => absurd q.1 (by decide))))).trans (by rw [show (Int.toNat (I 0 6)) = (Int.toNat ((I 0 6))) from by exact gz_m 108 (by omega), q201]; exact gz_m 109 (by omega)), fun j hj => (((p236 16 j (fun q => absurd q.1 (by decide))).trans (p218 16 j (fun q => absurd q.1 (by decide))))).trans ((p201 16 j (fun h => hj (by have h9 := h.2; exact gz_m 110 (by omega)))).trans ((g178 16 j rfl).trans (e5_40.1 j)))⟩) (by have v9 : I179 16 (Int.toNat (I 0 6)) = I 16 (Int.toNat (I 0 6)) := ((g178 16 _ rfl).trans (e5_40.1 _)); exact gz_m 111 (by omega)) (gs_s9_0 e3_40.1 e3_40.2.1 e3_40.2.2 e4_40 (gr_LKs_fr (gr_LKs_fr (gr_LKs_fr (gr_LKs_fr gr_LKs_rf (fun k => g178 51 k rfl) (g178 0 59 rfl)) (fun k => p201 51 k (fun q => absurd q.1 (by decide))) (p201 0 59 (fun q => absurd q.1 (by decide)))) (fun k => p218 51 k (fun q => absurd q.1 (by decide))) (p218 0 59 (fun q => absurd q.1 (by decide)))) (fun k => p236 51 k (fun q => absurd q.1 (by decide))) (p236 0 59 (fun q => absurd q.1 (by decide)))) (fun j => ((((p236 63 j (fun q => absurd q.1 (by decide))).trans (p218 63 j (fun q => absurd q.1 (by decide)))).trans (p201 63 j (fun q => absurd q.1 (by decide)))).trans (g178 63 j rfl))) ((p236 27 _ (fun q => absurd q.1 (by decide))).trans q218) q236 (fun j hj => (p236 27 j (fun q => absurd q.1 (by decide))).trans ((p218 27 j (fun q => hj q.2)).trans (((p201 27 j (fun q => absurd q.1 (by decide))).trans (g178 27 j rfl)).trans (e5_40.2.1 j)))) (fun j hj => (p236 28 j (fun q => hj q.2)).trans ((p218 28 j (fun q => absurd q.1 (by decide))).trans (((p201 28 j (fun q => absurd q.1 (by decide))).trans (g178 28 j rfl)).trans (e5_40.2.2.1 j)))) (fun j => (((((p236 29 j (fun q => absurd q.1 (by decide))).trans (p218 29 j (fun q => absurd q.1 (by decide)))).trans (p201 29 j (fun q => absurd q.1 (by decide)))).trans (g178 29 j rfl)).trans (e5_40.2.2.2.1 j))) (fun j => (((((p236 30 j (fun q => absurd q.1 (by decide))).trans (p218 30 j (fun q => absurd q.1 (by decide)))).trans (p201 30 j (fun q => absurd q.1 (by decide)))).trans (g178 30 j rfl)).trans (e5_40.2.2.2.2 j))))
              · have Q253 := q178.2.2.2.2.2.2.2.2.2.2.2.2
                rw [FI38 0 78 rfl] at Q253
                obtain ⟨u253, u253_⟩ := gs_or0 Q253 (by exact gz_m 112 (by omega))
                refine gv_run 1 true hD (pc' := 174) (lv' := [(0, .inr (.inr (some 0))), (1, .inl (I 0 6)), (2, .inl v2_18), (3, .inl v3_29)]) (st' := [.inl 0]) (h' := gr_h I179 J180) (C := (True ∧ True)) rfl ⟨trivial, trivial⟩ ?_
                have b254 : (I179 0 71 = 5 ∨ I179 0 73 ≤ I179 0 69) ∧ (I179 0 72 ≤ I179 0 69) ∧ (I179 0 71 = 0 ∨ (I179 0 72 < I179 0 73 ∧ I179 0 72 < I179 0 69)) ∧ (I179 0 71 = 3 → 2 ≤ I179 0 73 - I179 0 72 ∧ I179 0 73 - I179 0 72 ≤ 14) ∧ (I179 0 72 ≤ I179 0 73) ∧ (I179 0 69 = I 0 69) ∧ (I 0 73 ≤ I179 0 73) ∧ (I 0 72 ≤ I179 0 72) ∧ (I179 0 59 - I179 0 72 ≤ I 0 59 - I 0 72) := by exact gz_m 113 (by omega)
                exact gv_zret hD rfl (by exact gz_m 114 (by omega)) ⟨I179, J180, rfl, hI179, FI179, FJ180, ⟨_, rfl, by exact gz_m 115 (by omega), by exact gz_m 116 (by omega), b254.1, b254.2.1, b254.2.2.1, b254.2.2.2.1, b254.2.2.2.2.1, b254.2.2.2.2.2.1, b254.2.2.2.2.2.2.1, b254.2.2.2.2.2.2.2.1, b254.2.2.2.2.2.2.2.2, KLK_I179, (Or.inr ⟨by exact gz_m 117 (by omega), by first | (exfalso; exact gz_m 118 (by omega)) | (rw [e2_40]; unfold gs_snd6; (repeat first | rw [if_pos (by exact gz_m 119 (by omega))] | rw [if_neg (by exact gz_m 120 (by omega))]); exact ⟨by exact gz_m 121 (by omega), by exact gz_m 122 (by omega), (fun j => ⟨((g178 16 j rfl).trans (e5_40.1 j)), ((g178 27 j rfl).trans (e5_40.2.1 j)), ((g178 28 j rfl).trans (e5_40.2.2.1 j)), ((g178 29 j rfl).trans (e5_40.2.2.2.1 j)), ((g178 30 j rfl).trans (e5_40.2.2.2.2 j))⟩)⟩)⟩)⟩⟩
          have L119 : ((0 ≤ (I 0 6) ∧ (I 0 6) ≤ 7) ∧ ((-16) ≤ v2_18 ∧ v2_18 ≤ 32015) ∧ (0 ≤ v3_29 ∧ v3_29 ≤ 32015) ∧ (I27 0 71 = 4) ∧ (0 ≤ p_29) ∧ (I27 0 72 ≤ I27 0 69) ∧ (I27 0 72 ≤ I27 0 73) ∧ (I27 0 69 = I 0 69) ∧ (I 0 73 ≤ I27 0 73) ∧ (I 0 72 ≤ I27 0 72) ∧ (I27 0 6 = I 0 6) ∧ (I27 0 59 - I27 0 72 ≤ I 0 59 - I 0 72)) → (gr_ATp β N9 p_29 I27 J28) → ((gs_snd β N9 I J (I 0 78) p9) = gs_snd4 β N9 I J (I 0 78) (gs_sd β N9 I J 3 (gs_X β N9 p_29))) → (gs_s7 β N9 I J p9 I27 v2_18 v3_29) → (p_29 = (gs_X β N9 (gs_X β N9 (gs_X β N9 p9)))) → (gs_T β N9 (gs_X β N9 (gs_X β N9 (gs_X β N9 p9))) = 47) → ((∀ k, I27 16 k = I 16 k) ∧ (∀ k, I27 27 k = I 27 k) ∧ (∀ k, I27 28 k = I 28 k) ∧ (∀ k, I27 29 k = I 29 k) ∧ (∀ k, I27 30 k = I 30 k)) → gv_X (gr_E ws0 tb 12 (yX13_sound, cX13_sound, 6, (some .boolean)) kX13_sound) (gv_Q cX13_sound (some .boolean) (gr_sh ++ ext) (fun r h' => (∃ (I' : gr_I) (J' : gr_J), h' = gr_h I' J' ∧ gr_Inv I' ∧ gr_fr [59, 71, 72, 73, 74, 75, 76, 77, 104] [16, 27, 28, 29, 30, 51, 63] I I' ∧ gr_fj [59, 71, 72, 73, 74, 75, 76, 77, 104] [16, 27, 28, 29, 30, 51, 63] J J' ∧ (∃ z : Int, r = some (.inl z) ∧ 0 ≤ z ∧ z ≤ 1 ∧ (I' 0 71 = 5 ∨ I' 0 73 ≤ I' 0 69) ∧ (I' 0 72 ≤ I' 0 69) ∧ (I' 0 71 = 0 ∨ (I' 0 72 < I' 0 73 ∧ I' 0 72 < I' 0 69)) ∧ (I' 0 71 = 3 → 2 ≤ I' 0 73 - I' 0 72 ∧ I' 0 73 - I' 0 72 ≤ 14) ∧ (I' 0 72 ≤ I' 0 73) ∧ (I' 0 69 = I 0 69) ∧ (I 0 73 ≤ I' 0 73) ∧ (I 0 72 ≤ I' 0 72) ∧ (I' 0 59 - I' 0 72 ≤ I 0 59 - I 0 72) ∧ (gr_LKs I I') ∧ (gs_Or z (0 ≤ (gs_snd β N9 I J (I 0 78) p9) ∧ gr_ATp β N9 (gs_snd β N9 I J (I 0 78) p9) I' J' ∧ (I' 16 (Int.toNat (I 0 6)) = I 16 (Int.toNat (I 0 6)) + 1 ∧ ∀ j, ¬ j = (Int.toNat (I 0 6)) → I' 16 j = I 16 j) ∧ gs_Usn β N9 I J p9 I' (24 * I 0 6 + I 16 (Int.toNat (I 0 6)))) ((gs_snd β N9 I J (I 0 78) p9) < 0 ∧ I' 0 77 = -1 - (gs_snd β N9 I J (I 0 78) p9) ∧ gs_Ssn I I')))))) (119, [(0, .inr (.inr (some 0))), (1, .inl (I 0 6)), (2, .inl v2_18), (3, .inl v3_29)], [], gr_sh ++ ext, gr_h I27 J28) := by
            intro m_255 e2_255 e3_255 e4_255 e5_255 e6_255 e7_255
            obtain ⟨h_I_0_6__255, hv2_18_255, hv3_29_255, e0_255, e1_255, e8_255, e9_255, e10_255, e11_255, e12_255, e13_255, e14_255⟩ := m_255
            have f256 := (gr_b_0_71 hI27)
            have f257 := (gr_b_0_72 hI27)
            have f258 := (gr_b_0_73 hI27)
            have f259 := (gr_b_0_69 hI27)
            have f260 := (gr_b_0_6 hI27)
            have f261 := (gr_b_0_59 hI27)
            have f262 := (gr_b_0_104 hI27)
            have t263 := gr_ATp_l e1_29
            have L131 : ∀ (I264 : gr_I) (J265 : gr_J) (p_266 : Int), gr_Inv I264 → gr_fr [59, 71, 72, 73, 74, 75, 76, 77, 104] [16, 27, 28, 29, 30, 51, 63] I I264 → gr_fj [59, 71, 72, 73, 74, 75, 76, 77, 104] [16, 27, 28, 29, 30, 51, 63] J J265 → gr_LKs I I264 → ((0 ≤ (I 0 6) ∧ (I 0 6) ≤ 7) ∧ ((-16) ≤ v2_18 ∧ v2_18 ≤ 32015) ∧ (0 ≤ v3_29 ∧ v3_29 ≤ 32015) ∧ (0 ≤ p_266) ∧ (I264 0 72 ≤ I264 0 69) ∧ (I264 0 72 ≤ I264 0 73) ∧ (I264 0 69 = I 0 69) ∧ (I 0 73 ≤ I264 0 73) ∧ (I 0 72 ≤ I264 0 72) ∧ (I264 0 6 = I 0 6) ∧ (I264 0 59 - I264 0 72 ≤ I 0 59 - I 0 72)) → (gr_ATp β N9 p_266 I264 J265) → ((gs_snd β N9 I J (I 0 78) p9) = gs_snd5 β N9 I J (I 0 78) (gs_need β N9 95 p_266)) → (gs_s7 β N9 I J p9 I264 v2_18 v3_29) → (gs_s8 β N9 I J (gs_X β N9 (gs_X β N9 (gs_X β N9 p9))) I264) → (p_266 = gs_sp β N9 (gs_sn β N9 3 (gs_X β N9 (gs_X β N9 (gs_X β N9 (gs_X β N9 p9))))) (gs_X β N9 (gs_X β N9 (gs_X β N9 (gs_X β N9 p9))))) → ((∀ k, I264 16 k = I 16 k) ∧ (∀ k, I264 27 k = I 27 k) ∧ (∀ k, I264 28 k = I 28 k) ∧ (∀ k, I264 29 k = I 29 k) ∧ (∀ k, I264 30 k = I 30 k)) → gv_X (gr_E ws0 tb 12 (yX13_sound, cX13_sound, 6, (some .boolean)) kX13_sound) (gv_Q cX13_sound (some .boolean) (gr_sh ++ ext) (fun r h' => (∃ (I' : gr_I) (J' : gr_J), h' = gr_h I' J' ∧ gr_Inv I' ∧ gr_fr [59, 71, 72, 73, 74, 75, 76, 77, 104] [16, 27, 28, 29, 30, 51, 63] I I' ∧ gr_fj [59, 71, 72, 73, 74, 75, 76, 77, 104] [16, 27, 28, 29, 30, 51, 63] J J' ∧ (∃ z : Int, r = some (.inl z) ∧ 0 ≤ z ∧ z ≤ 1 ∧ (I' 0 71 = 5 ∨ I' 0 73 ≤ I' 0 69) ∧ (I' 0 72 ≤ I' 0 69) ∧ (I' 0 71 = 0 ∨ (I' 0 72 < I' 0 73 ∧ I' 0 72 < I' 0 69)) ∧ (I' 0 71 = 3 → 2 ≤ I' 0 73 - I' 0 72 ∧ I' 0 73 - I' 0 72 ≤ 14) ∧ (I' 0 72 ≤ I' 0 73) ∧ (I' 0 69 = I 0 69) ∧ (I 0 73 ≤ I' 0 73) ∧ (I 0 72 ≤ I' 0 72) ∧ (I' 0 59 - I' 0 72 ≤ I 0 59 - I 0 72) ∧ (gr_LKs I I') ∧ (gs_Or z (0 ≤ (gs_snd β N9 I J (I 0 78) p9) ∧ gr_ATp β N9 (gs_snd β N9 I J (I 0 78) p9) I' J' ∧ (I' 16 (Int.toNat (I 0 6)) = I 16 (Int.toNat (I 0 6)) + 1 ∧ ∀ j, ¬ j = (Int.toNat (I 0 6)) → I' 16 j = I 16 j) ∧ gs_Usn β N9 I J p9 I' (24 * I 0 6 + I 16 (Int.toNat (I 0 6)))) ((gs_snd β N9 I J (I 0 78) p9) < 0 ∧ I' 0 77 = -1 - (gs_snd β N9 I J (I 0 78) p9) ∧ gs_Ssn I I')))))) (131, [(0, .inr (.inr (some 0))), (1, .inl (I 0 6)), (2, .inl v2_18), (3, .inl v3_29)], [], gr_sh ++ ext, gr_h I264 J265) := by
              intro I264 J265 p_266 hI264 FI264 FJ265 KLK_I264 m_266 e1_266 e2_266 e3_266 e4_266 e5_266 e6_266
              clear h_I_0_6__255 hv2_18_255 hv3_29_255 e0_255 e1_255 e8_255 e9_255 e10_255 e11_255 e12_255 e13_255 e14_255 f256 f257 f258 f259 f260 f261 f262 t263 h_I_0_6__29 hv2_18_29 hv3_29 hv4_29 e0_29 e7_29 e8_29 e9_29 e10_29 e11_29 e12_29 e13_29 f30 f31 f32 f33 f34 f35 f36 t37
              obtain ⟨h_I_0_6__266, hv2_18_266, hv3_29_266, e0_266, e7_266, e8_266, e9_266, e10_266, e11_266, e12_266, e13_266⟩ := m_266
              have f267 := (gr_b_0_71 hI264)
              have f268 := (gr_b_0_72 hI264)
              have f269 := (gr_b_0_73 hI264)
              have f270 := (gr_b_0_69 hI264)
              have f271 := (gr_b_0_6 hI264)
              have f272 := (gr_b_0_59 hI264)
              have f273 := (gr_b_0_104 hI264)
              have t274 := gr_ATp_l e1_266
              refine gv_run 2 true hD (pc' := 134) (lv' := [(0, .inr (.inr (some 0))), (1, .inl (I 0 6)), (2, .inl v2_18), (3, .inl v3_29)]) (st' := [.inl 95, .inr (.inr (some 0))]) (h' := gr_h I264 J265) (C := ((True ∧ True) ∧ True)) rfl ⟨⟨trivial, trivial⟩, trivial⟩ ?_
              obtain ⟨r275, h275, E275, P275⟩ := r_need_p (ws0 := ws0) (tb := tb) hws htb ext β N9 p_266 I264 J265 hI264 95 ⟨by exact gz_m 123 (by omega), by exact gz_m 124 (by omega)⟩ (gr_ATp_rr e1_266).1 (gr_ATp_rr e1_266).2.1 (gr_ATp_rr e1_266).2.2.1 (gr_ATp_rr e1_266).2.2.2.1 (gr_ATp_rr e1_266).2.2.2.2 e1_266 (by exact gz_m 125 (by omega))
              obtain ⟨I276, J277, rfl, hI276, g275, k275, ⟨z275, rfl, q275⟩⟩ := P275
              have FI276 := gr_frt FI264 g275 rfl rfl
              have FJ277 := gr_fjt FJ265 k275 rfl rfl
              have t278 := g275 0 69 rfl
              have t279 := g275 0 6 rfl
              have t280 := g275 0 59 rfl
              have t281 := g275 0 104 rfl
              have t282 := g275 16 (Int.toNat ((I 0 6))) rfl
              have f283 := (gr_b_0_71 hI276)
              have f284 := (gr_b_0_72 hI276)
              have f285 := (gr_b_0_73 hI276)
              have f286 := (gr_b_0_69 hI276)
              have f287 := (gr_b_0_6 hI276)
              have f288 := (gr_b_0_59 hI276)
              have f289 := (gr_b_0_104 hI276)
              have KLK_I276 := gr_LKs_fr KLK_I264 (fun k => g275 51 k rfl) (g275 0 59 rfl)
              refine gv_callV hD rfl (As := [.inl 95]) (st := []) rfl (by decide) rfl rfl (gr_lV hws rfl) (Nat.le_of_ble_eq_true rfl) (gz_Ev_mono (d := 11) (by decide) E275) ?_
              show gv_X _ _ (137, [(0, .inr (.inr (some 0))), (1, .inl (I 0 6)), (2, .inl v2_18), (3, .inl v3_29)], [.inl z275], gr_sh ++ ext, gr_h I276 J277)
              refine gv_if_eq (t := 148) hD rfl rfl ⟨by exact gz_m 126 (by omega), by exact gz_m 127 (by omega)⟩ (fun c290 => ?_) (fun c290 => ?_)
              · obtain ⟨u291, u291_⟩ := gs_or0 q275.2.2.2.2.2.2.2.2.2.2.2 (by exact gz_m 128 (by omega))
                refine gv_run 1 true hD (pc' := 149) (lv' := [(0, .inr (.inr (some 0))), (1, .inl (I 0 6)), (2, .inl v2_18), (3, .inl v3_29)]) (st' := [.inl 0]) (h' := gr_h I276 J277) (C := (True ∧ True)) rfl ⟨trivial, trivial⟩ ?_
                have b292 : (I276 0 71 = 5 ∨ I276 0 73 ≤ I276 0 69) ∧ (I276 0 72 ≤ I276 0 69) ∧ (I276 0 71 = 0 ∨ (I276 0 72 < I276 0 73 ∧ I276 0 72 < I276 0 69)) ∧ (I276 0 71 = 3 → 2 ≤ I276 0 73 - I276 0 72 ∧ I276 0 73 - I276 0 72 ≤ 14) ∧ (I276 0 72 ≤ I276 0 73) ∧ (I276 0 69 = I 0 69) ∧ (I 0 73 ≤ I276 0 73) ∧ (I 0 72 ≤ I276 0 72) ∧ (I276 0 59 - I276 0 72 ≤ I 0 59 - I 0 72) := by exact gz_m 129 (by omega)
                exact gv_zret hD rfl (by exact gz_m 130 (by omega)) ⟨I276, J277, rfl, hI276, FI276, FJ277, ⟨_, rfl, by exact gz_m 131 (by omega), by exact gz_m 132 (by omega), b292.1, b292.2.1, b292.2.2.1, b292.2.2.2.1, b292.2.2.2.2.1, b292.2.2.2.2.2.1, b292.2.2.2.2.2.2.1, b292.2.2.2.2.2.2.2.1, b292.2.2.2.2.2.2.2.2, KLK_I276, (Or.inr ⟨by exact gz_m 133 (by omega), by first | (exfalso; exact gz_m 134 (by omega)) | (rw [e2_266]; unfold gs_snd5 gs_snd6; (repeat first | rw [if_pos (by exact gz_m 135 (by omega))] | rw [if_neg (by exact gz_m 136 (by omega))]); exact ⟨by exact gz_m 137 (by omega), by exact gz_m 138 (by omega), (fun j => ⟨((g275 16 j rfl).trans (e6_266.1 j)), ((g275 27 j rfl).trans (e6_266.2.1 j)), ((g275 28 j rfl).trans (e6_266.2.2.1 j)), ((g275 29 j rfl).trans (e6_266.2.2.2.1 j)), ((g275 30 j rfl).trans (e6_266.2.2.2.2 j))⟩)⟩)⟩)⟩⟩
              · obtain ⟨u293, A293⟩ := gs_or1 q275.2.2.2.2.2.2.2.2.2.2.2 (by exact gz_m 139 (by omega))
                have t294 := gr_ATp_l A293
                have t295 := (q275.2.2.2.2.2.2.2.2.2.2.1).resolve_left (by exact gz_m 140 (by omega))
                obtain ⟨_, _, -, _, -, -, _, _, _, _, -, -⟩ := q275
                have t296 := (gr_ATp_rr e1_266).2.2.1.resolve_left (by exact gz_m 141 (by omega))
                refine gv_run 2 true hD (pc' := 142) (lv' := [(0, .inr (.inr (some 0))), (1, .inl (I 0 6)), (2, .inl v2_18), (3, .inl v3_29)]) (st' := [.inl 3, .inr (.inr (some 0))]) (h' := gr_h I276 J277) (C := ((True ∧ True) ∧ True)) rfl ⟨⟨trivial, trivial⟩, trivial⟩ ?_
                obtain ⟨r297, h297, E297, P297⟩ := r_side_p (ws0 := ws0) (tb := tb) hws htb ext β N9 (gs_need β N9 95 p_266) I276 J277 hI276 3 ⟨by exact gz_m 142 (by omega), by exact gz_m 143 (by omega)⟩ (gr_ATp_rr A293).1 (gr_ATp_rr A293).2.1 (gr_ATp_rr A293).2.2.1 (gr_ATp_rr A293).2.2.2.1 (gr_ATp_rr A293).2.2.2.2 (by exact gz_m 144 (by omega)) (by exact gz_m 145 (by omega)) A293 (by exact gz_m 146 (by omega))
                obtain ⟨I298, J299, rfl, hI298, g297, k297, ⟨z297, rfl, q297⟩⟩ := P297
                have FI298 := gr_frt FI276 g297 rfl rfl
                have FJ299 := gr_fjt FJ277 k297 rfl rfl
                have t300 := g297 0 69 rfl
                have t301 := g297 0 6 rfl
                have t302 := g297 16 (Int.toNat ((I 0 6))) rfl
                have f303 := (gr_b_0_71 hI298)
                have f304 := (gr_b_0_72 hI298)
                have f305 := (gr_b_0_73 hI298)
                have f306 := (gr_b_0_69 hI298)
                have f307 := (gr_b_0_6 hI298)
                have f308 := (gr_b_0_59 hI298)
                have f309 := (gr_b_0_104 hI298)
                have l297 := q297.2.2.2.2.2.2.2.2.2.2.2.1
                have KLK_I298 := gr_LKs_tr KLK_I276 l297
                refine gv_callV hD rfl (As := [.inl 3]) (st := []) rfl (by decide) rfl rfl (gr_lV hws rfl) (Nat.le_of_ble_eq_true rfl) (gz_Ev_mono (d := 12) (by decide) E297) ?_
                show gv_X _ _ (145, [(0, .inr (.inr (some 0))), (1, .inl (I 0 6)), (2, .inl v2_18), (3, .inl v3_29)], [.inl z297], gr_sh ++ ext, gr_h I298 J299)
                refine gv_if_ne (t := 150) hD rfl rfl ⟨by exact gz_m 147 (by omega), by exact gz_m 148 (by omega)⟩ (fun c310 => ?_) (fun c310 => ?_)
                · have Q311 := q297.2.2.2.2.2.2.2.2.2.2.2.2
                  rw [gs_sd_eq (FI276 0 6 rfl) (fun k => (FI276 15 k rfl)) (fun k => (FJ277 22 k rfl))] at Q311
                  obtain ⟨u311, A311, U311⟩ := gs_or1 Q311 (by exact gz_m 149 (by omega))
                  have t312 := gr_ATp_l A311
                  obtain ⟨_, _, -, _, -, -, _, _, _, _, _, _, -⟩ := q297
                  exact L150 I298 J299 ((gs_sd β N9 I J 3 (gs_need β N9 95 p_266))) hI298 FI298 FJ299 KLK_I298 (by exact gz_m 150 (by omega)) A311 (by rw [e2_266]; unfold gs_snd5; (repeat first | rw [if_pos (by exact gz_m 151 (by omega))] | rw [if_neg (by exact gz_m 152 (by omega))])) (gs_s7_kp e3_266 (gr_LKs_tr (gr_LKs_fr gr_LKs_rf (fun k => g275 51 k rfl) (g275 0 59 rfl)) l297)) (gs_sv_1 e4_266 (gr_LKs_fr gr_LKs_rf (fun k => g275 51 k rfl) (g275 0 59 rfl)) (fun j => (g275 63 j rfl)) l297 ((gs_need_x (by exact gz_m 153 (by omega)) (by exact gz_m 154 (by omega))).trans (congrArg (gs_X β N9) e5_266)) (FI276 0 6 rfl) (fun k => (FI276 15 k rfl)) (fun k => (FJ277 22 k rfl)) (fun k => (FI276 26 k rfl)) U311) ⟨(fun k => (((g297 16 k rfl).trans (g275 16 k rfl)).trans (e6_266.1 k))), (fun k => (((g297 27 k rfl).trans (g275 27 k rfl)).trans (e6_266.2.1 k))), (fun k => (((g297 28 k rfl).trans (g275 28 k rfl)).trans (e6_266.2.2.1 k))), (fun k => (((g297 29 k rfl).trans (g275 29 k rfl)).trans (e6_266.2.2.2.1 k))), (fun k => (((g297 30 k rfl).trans (g275 30 k rfl)).trans (e6_266.2.2.2.2 k)))⟩
                · have Q313 := q297.2.2.2.2.2.2.2.2.2.2.2.2
                  rw [gs_sd_eq (FI276 0 6 rfl) (fun k => (FI276 15 k rfl)) (fun k => (FJ277 22 k rfl))] at Q313
                  obtain ⟨u313, u313_⟩ := gs_or0 Q313 (by exact gz_m 155 (by omega))
                  refine gv_run 1 true hD (pc' := 149) (lv' := [(0, .inr (.inr (some 0))), (1, .inl (I 0 6)), (2, .inl v2_18), (3, .inl v3_29)]) (st' := [.inl 0]) (h' := gr_h I298 J299) (C := (True ∧ True)) rfl ⟨trivial, trivial⟩ ?_
                  have b314 : (I298 0 71 = 5 ∨ I298 0 73 ≤ I298 0 69) ∧ (I298 0 72 ≤ I298 0 69) ∧ (I298 0 71 = 0 ∨ (I298 0 72 < I298 0 73 ∧ I298 0 72 < I298 0 69)) ∧ (I298 0 71 = 3 → 2 ≤ I298 0 73 - I298 0 72 ∧ I298 0 73 - I298 0 72 ≤ 14) ∧ (I298 0 72 ≤ I298 0 73) ∧ (I298 0 69 = I 0 69) ∧ (I 0 73 ≤ I298 0 73) ∧ (I 0 72 ≤ I298 0 72) ∧ (I298 0 59 - I298 0 72 ≤ I 0 59 - I 0 72) := by exact gz_m 156 (by omega)
                  exact gv_zret hD rfl (by exact gz_m 157 (by omega)) ⟨I298, J299, rfl, hI298, FI298, FJ299, ⟨_, rfl, by exact gz_m 158 (by omega), by exact gz_m 159 (by omega), b314.1, b314.2.1, b314.2.2.1, b314.2.2.2.1, b314.2.2.2.2.1, b314.2.2.2.2.2.1, b314.2.2.2.2.2.2.1, b314.2.2.2.2.2.2.2.1, b314.2.2.2.2.2.2.2.2, KLK_I298, (Or.inr ⟨by exact gz_m 160 (by omega), by first | (exfalso; exact gz_m 161 (by omega)) | (rw [e2_266]; unfold gs_snd5 gs_snd6; (repeat first | rw [if_pos (by exact gz_m 162 (by omega))] | rw [if_neg (by exact gz_m 163 (by omega))]); exact ⟨by exact gz_m 164 (by omega), by exact gz_m 165 (by omega), (fun j => ⟨(((g297 16 j rfl).trans (g275 16 j rfl)).trans (e6_266.1 j)), (((g297 27 j rfl).trans (g275 27 j rfl)).trans (e6_266.2.1 j)), (((g297 28 j rfl).trans (g275 28 j rfl)).trans (e6_266.2.2.1 j)), (((g297 29 j rfl).trans (g275 29 j rfl)).trans (e6_266.2.2.2.1 j)), (((g297 30 j rfl).trans (g275 30 j rfl)).trans (e6_266.2.2.2.2 j))⟩)⟩)⟩)⟩⟩
            refine gv_run 1 true hD (pc' := 120) (lv' := [(0, .inr (.inr (some 0))), (1, .inl (I 0 6)), (2, .inl v2_18), (3, .inl v3_29)]) (st' := [.inr (.inr (some 0))]) (h' := gr_h I27 J28) (C := (True ∧ True)) rfl ⟨trivial, trivial⟩ ?_
            obtain ⟨r315, h315, E315, P315⟩ := r_next_p (ws0 := ws0) (tb := tb) hws htb ext β N9 I27 J28 hI27   ((gr_ATp_rr e1_29).1.resolve_left (by exact gz_m 166 (by omega))) e1_29.1.1 e1_29.1.2
            obtain ⟨I316, J317, rfl, hI316, g315, k315, ⟨rfl, q315⟩⟩ := P315
            have FI316 := gr_frt FI27 g315 rfl rfl
            have FJ317 := gr_fjt FJ28 k315 rfl rfl
            have t318 := g315 0 69 rfl
            have t319 := g315 0 6 rfl
            have t320 := g315 0 59 rfl
            have t321 := g315 0 104 rfl
            have t322 := g315 16 (Int.toNat ((I 0 6))) rfl
            have f323 := (gr_b_0_71 hI316)
            have f324 := (gr_b_0_72 hI316)
            have f325 := (gr_b_0_73 hI316)
            have f326 := (gr_b_0_69 hI316)
            have f327 := (gr_b_0_6 hI316)
            have f328 := (gr_b_0_59 hI316)
            have f329 := (gr_b_0_104 hI316)
            have KLK_I316 := gr_LKs_fr KLK_I27 (fun k => g315 51 k rfl) (g315 0 59 rfl)
            have t330 := (gr_ATp_rr e1_29).2.2.1.resolve_left (by exact gz_m 167 (by omega))
            have A331 := gr_ATp_nx e1_29 q315.2.2.2.2.2
            have t332 := gr_ATp_l A331
            obtain ⟨_, _, -, -, -, -⟩ := q315
            refine gv_callV hD rfl (As := []) (st := []) rfl (by decide) rfl rfl (gr_lV hws rfl) (Nat.le_of_ble_eq_true rfl) (gz_Ev_mono (d := 10) (by decide) E315) ?_
            show gv_X _ _ (123, [(0, .inr (.inr (some 0))), (1, .inl (I 0 6)), (2, .inl v2_18), (3, .inl v3_29)], [], gr_sh ++ ext, gr_h I316 J317)
            refine gv_run 2 true hD (pc' := 125) (lv' := [(0, .inr (.inr (some 0))), (1, .inl (I 0 6)), (2, .inl v2_18), (3, .inl v3_29)]) (st' := [.inl 0, .inr (.inr (some 0))]) (h' := gr_h I316 J317) (C := ((True ∧ True) ∧ True)) rfl ⟨⟨trivial, trivial⟩, trivial⟩ ?_
            obtain ⟨r333, h333, E333, P333⟩ := r_side_p (ws0 := ws0) (tb := tb) hws htb ext β N9 (gs_X β N9 p_29) I316 J317 hI316 0 ⟨by exact gz_m 168 (by omega), by exact gz_m 169 (by omega)⟩ (gr_ATp_rr A331).1 (gr_ATp_rr A331).2.1 (gr_ATp_rr A331).2.2.1 (gr_ATp_rr A331).2.2.2.1 (gr_ATp_rr A331).2.2.2.2 (by exact gz_m 170 (by omega)) (by exact gz_m 171 (by omega)) A331 (by exact gz_m 172 (by omega))
            obtain ⟨I334, J335, rfl, hI334, g333, k333, ⟨z333, rfl, q333⟩⟩ := P333
            have FI334 := gr_frt FI316 g333 rfl rfl
            have FJ335 := gr_fjt FJ317 k333 rfl rfl
            have t336 := g333 0 69 rfl
            have t337 := g333 0 6 rfl
            have t338 := g333 16 (Int.toNat ((I 0 6))) rfl
            have f339 := (gr_b_0_71 hI334)
            have f340 := (gr_b_0_72 hI334)
            have f341 := (gr_b_0_73 hI334)
            have f342 := (gr_b_0_69 hI334)
            have f343 := (gr_b_0_6 hI334)
            have f344 := (gr_b_0_59 hI334)
            have f345 := (gr_b_0_104 hI334)
            have l333 := q333.2.2.2.2.2.2.2.2.2.2.2.1
            have KLK_I334 := gr_LKs_tr KLK_I316 l333
            refine gv_callV hD rfl (As := [.inl 0]) (st := []) rfl (by decide) rfl rfl (gr_lV hws rfl) (Nat.le_of_ble_eq_true rfl) (gz_Ev_mono (d := 12) (by decide) E333) ?_
            show gv_X _ _ (128, [(0, .inr (.inr (some 0))), (1, .inl (I 0 6)), (2, .inl v2_18), (3, .inl v3_29)], [.inl z333], gr_sh ++ ext, gr_h I334 J335)
            refine gv_if_eq (t := 148) hD rfl rfl ⟨by exact gz_m 173 (by omega), by exact gz_m 174 (by omega)⟩ (fun c346 => ?_) (fun c346 => ?_)
            · have Q347 := q333.2.2.2.2.2.2.2.2.2.2.2.2
              rw [gs_sd_eq (FI316 0 6 rfl) (fun k => (FI316 15 k rfl)) (fun k => (FJ317 22 k rfl))] at Q347
              obtain ⟨u347, u347_⟩ := gs_or0 Q347 (by exact gz_m 175 (by omega))
              refine gv_run 1 true hD (pc' := 149) (lv' := [(0, .inr (.inr (some 0))), (1, .inl (I 0 6)), (2, .inl v2_18), (3, .inl v3_29)]) (st' := [.inl 0]) (h' := gr_h I334 J335) (C := (True ∧ True)) rfl ⟨trivial, trivial⟩ ?_
              have b348 : (I334 0 71 = 5 ∨ I334 0 73 ≤ I334 0 69) ∧ (I334 0 72 ≤ I334 0 69) ∧ (I334 0 71 = 0 ∨ (I334 0 72 < I334 0 73 ∧ I334 0 72 < I334 0 69)) ∧ (I334 0 71 = 3 → 2 ≤ I334 0 73 - I334 0 72 ∧ I334 0 73 - I334 0 72 ≤ 14) ∧ (I334 0 72 ≤ I334 0 73) ∧ (I334 0 69 = I 0 69) ∧ (I 0 73 ≤ I334 0 73) ∧ (I 0 72 ≤ I334 0 72) ∧ (I334 0 59 - I334 0 72 ≤ I 0 59 - I 0 72) := by exact gz_m 176 (by omega)
              exact gv_zret hD rfl (by exact gz_m 177 (by omega)) ⟨I334, J335, rfl, hI334, FI334, FJ335, ⟨_, rfl, by exact gz_m 178 (by omega), by exact gz_m 179 (by omega), b348.1, b348.2.1, b348.2.2.1, b348.2.2.2.1, b348.2.2.2.2.1, b348.2.2.2.2.2.1, b348.2.2.2.2.2.2.1, b348.2.2.2.2.2.2.2.1, b348.2.2.2.2.2.2.2.2, KLK_I334, (Or.inr ⟨by exact gz_m 180 (by omega), by first | (exfalso; exact gz_m 181 (by omega)) | (rw [e3_255]; unfold gs_snd4; (repeat first | rw [if_pos (by exact gz_m 182 (by omega))] | rw [if_neg (by exact gz_m 183 (by omega))]); exact ⟨by exact gz_m 184 (by omega), by exact gz_m 185 (by omega), (fun j => ⟨(((g333 16 j rfl).trans (g315 16 j rfl)).trans (e7_255.1 j)), (((g333 27 j rfl).trans (g315 27 j rfl)).trans (e7_255.2.1 j)), (((g333 28 j rfl).trans (g315 28 j rfl)).trans (e7_255.2.2.1 j)), (((g333 29 j rfl).trans (g315 29 j rfl)).trans (e7_255.2.2.2.1 j)), (((g333 30 j rfl).trans (g315 30 j rfl)).trans (e7_255.2.2.2.2 j))⟩)⟩)⟩)⟩⟩
            · have Q349 := q333.2.2.2.2.2.2.2.2.2.2.2.2
              rw [gs_sd_eq (FI316 0 6 rfl) (fun k => (FI316 15 k rfl)) (fun k => (FJ317 22 k rfl))] at Q349
              obtain ⟨u349, A349, U349⟩ := gs_or1 Q349 (by exact gz_m 186 (by omega))
              have t350 := gr_ATp_l A349
              obtain ⟨_, _, -, _, -, -, _, _, _, _, _, _, -⟩ := q333
              exact L131 I334 J335 ((gs_sd β N9 I J 3 (gs_X β N9 p_29))) hI334 FI334 FJ335 KLK_I334 (by exact gz_m 187 (by omega)) A349 (by rw [e3_255]; unfold gs_snd4; (repeat first | rw [if_pos (by exact gz_m 188 (by omega))] | rw [if_neg (by exact gz_m 189 (by omega))])) (gs_s7_kp e4_255 (gr_LKs_tr (gr_LKs_fr gr_LKs_rf (fun k => g315 51 k rfl) (g315 0 59 rfl)) l333)) (gs_s8_mk e6_255 (congrArg (gs_X β N9) e5_255) (FI316 0 6 rfl) (fun k => (FI316 15 k rfl)) (fun k => (FJ317 22 k rfl)) (fun k => (FI316 26 k rfl)) U349) ((gs_sd_p (by rw [x7.1.2]; exact (hI 0 69).1.1) (gs_TX_z x7.1.1) 3 _ (by exact gz_m 190 (by omega)) (by exact gz_m 191 (by omega))).trans (by rw [e5_255])) ⟨(fun k => (((g333 16 k rfl).trans (g315 16 k rfl)).trans (e7_255.1 k))), (fun k => (((g333 27 k rfl).trans (g315 27 k rfl)).trans (e7_255.2.1 k))), (fun k => (((g333 28 k rfl).trans (g315 28 k rfl)).trans (e7_255.2.2.1 k))), (fun k => (((g333 29 k rfl).trans (g315 29 k rfl)).trans (e7_255.2.2.2.1 k))), (fun k => (((g333 30 k rfl).trans (g315 30 k rfl)).trans (e7_255.2.2.2.2 k)))⟩
          refine gv_run 2 true hD (pc' := 91) (lv' := [(0, .inr (.inr (some 0))), (1, .inl (I 0 6)), (2, .inl v2_18), (3, .inl v3_29), (4, .inl v4_29)]) (st' := [.inl 6, .inl v4_29]) (h' := gr_h I27 J28) (C := ((True ∧ True) ∧ True)) rfl ⟨⟨trivial, trivial⟩, trivial⟩ ?_
          refine gv_icmp_ge (t := 110) hD rfl rfl ⟨⟨by exact gz_m 192 (by omega), by exact gz_m 193 (by omega)⟩, ⟨by exact gz_m 194 (by omega), by exact gz_m 195 (by omega)⟩⟩ (fun c351 => ?_) (fun c351 => ?_)
          · refine gv_run 2 true hD (pc' := 113) (lv' := [(0, .inr (.inr (some 0))), (1, .inl (I 0 6)), (2, .inl v2_18), (3, .inl v3_29), (4, .inl v4_29)]) (st' := [.inl 47, .inr (.inr (some 0))]) (h' := gr_h I27 J28) (C := ((True ∧ True) ∧ True)) rfl ⟨⟨trivial, trivial⟩, trivial⟩ ?_
            obtain ⟨r352, h352, E352, P352⟩ := r_sign_p (ws0 := ws0) (tb := tb) hws htb ext β N9 p_29 I27 J28 hI27 47 ⟨by exact gz_m 196 (by omega), by exact gz_m 197 (by omega)⟩ (fun h9 => by have g9 := (gr_ATp_rr e1_29).2.2.1; exact gz_m 198 (by omega)) e1_29 (by exact gz_m 199 (by omega))
            obtain ⟨rfl, ⟨z352, rfl, q352⟩⟩ := P352
            have V352 := gs_or_mk q352.2.2.2
            obtain ⟨_, _, o352, -⟩ := q352
            refine gv_callV hD rfl (As := [.inl 47]) (st := []) rfl (by decide) rfl rfl (gr_lV hws rfl) (Nat.le_of_ble_eq_true rfl) (gz_Ev_mono (d := 1) (by decide) E352) ?_
            show gv_X _ _ (116, [(0, .inr (.inr (some 0))), (1, .inl (I 0 6)), (2, .inl v2_18), (3, .inl v3_29), (4, .inl v4_29)], [.inl z352], gr_sh ++ ext, gr_h I27 J28)
            refine gv_if_eq (t := 150) hD rfl rfl ⟨by exact gz_m 200 (by omega), by exact gz_m 201 (by omega)⟩ (fun c353 => ?_) (fun c353 => ?_)
            · have u354 := gs_or0 V352 (by exact gz_m 202 (by omega))
              clear o352 V352
              refine gv_pick [0, 1, 2, 3] rfl ?_
              exact L150 I27 J28 p_29 hI27 FI27 FJ28 KLK_I27 (by exact gz_m 203 (by omega)) e1_29 (by rw [e2_29]; unfold gs_snd3; (repeat first | rw [if_pos (by exact gz_m 204 (by omega))] | rw [if_neg (by exact gz_m 205 (by omega))])) e3_29 (gs_sv_0 (by rw [← e5_29]; exact gz_m 206 (by omega)) (fun j hj => e4_29 j (by exact gz_m 207 (by omega)))) ⟨(fun k => (e6_29.1 k)), (fun k => (e6_29.2.1 k)), (fun k => (e6_29.2.2.1 k)), (fun k => (e6_29.2.2.2.1 k)), (fun k => (e6_29.2.2.2.2 k))⟩
            · have u355 := gs_or1 V352 (by exact gz_m 208 (by omega))
              have t356 := o352.resolve_left (by exact gz_m 209 (by omega))
              have t357 := (gr_ATp_rr e1_29).2.2.1.resolve_left (by exact gz_m 210 (by omega))
              clear o352 V352
              refine gv_pick [0, 1, 2, 3] rfl ?_
              exact L119 (by exact gz_m 211 (by omega)) e1_29 (by rw [e2_29]; unfold gs_snd3; (repeat first | rw [if_pos (by exact gz_m 212 (by omega))] | rw [if_neg (by exact gz_m 213 (by omega))])) e3_29 e5_29 (by rw [← e5_29]; exact gz_m 214 (by omega)) ⟨(fun k => (e6_29.1 k)), (fun k => (e6_29.2.1 k)), (fun k => (e6_29.2.2.1 k)), (fun k => (e6_29.2.2.2.1 k)), (fun k => (e6_29.2.2.2.2 k))⟩
          · refine gv_run 4 true hD (pc' := 103) (lv' := [(0, .inr (.inr (some 0))), (1, .inl (I 0 6)), (2, .inl v2_18), (3, .inl v3_29), (4, .inl v4_29)]) (st' := [.inl 2147483647, .inl v4_29, .inr (.inr (some 63))]) (h' := gr_h I27 J28) (C := ((((True ∧ True) ∧ True) ∧ True) ∧ True)) rfl ⟨⟨⟨⟨trivial, trivial⟩, trivial⟩, trivial⟩, trivial⟩ ?_
            refine gv_run 1 true hD (pc' := 104) (lv' := [(0, .inr (.inr (some 0))), (1, .inl (I 0 6)), (2, .inl v2_18), (3, .inl v3_29), (4, .inl v4_29)]) (st' := []) (h' := gz_up (gr_h I27 J28) 63 (Int.toNat v4_29) (.inl 2147483647)) (C := (True ∧ (0 ≤ v4_29 ∧ v4_29 < ((6 : Nat) : Int)))) rfl ⟨trivial, ⟨by exact gz_m 215 (by omega), by exact gz_m 216 (by omega)⟩⟩ ?_
            refine gr_st hI27 FI27 rfl rfl ⟨⟨by show (-2147483648) ≤ _; exact gz_m 217 (by omega), by show _ ≤ 2147483647; exact gz_m 218 (by omega)⟩, by show (2147483647 = -2147483648 ∨ 2147483647 = 2147483647 ∨ -16 ≤ 2147483647 ∧ 2147483647 ≤ 32015); exact gz_m 219 (by omega)⟩ (fun I358 hI358 FI358 q359 p359 => ?_)
            have t360 := p359 0 71 (fun q => absurd q.1 (by decide))
            have t361 := p359 0 72 (fun q => absurd q.1 (by decide))
            have t362 := p359 0 73 (fun q => absurd q.1 (by decide))
            have t363 := p359 0 69 (fun q => absurd q.1 (by decide))
            have t364 := p359 0 6 (fun q => absurd q.1 (by decide))
            have t365 := p359 0 59 (fun q => absurd q.1 (by decide))
            have t366 := p359 0 104 (fun q => absurd q.1 (by decide))
            have t367 := p359 16 (Int.toNat ((I 0 6))) (fun q => absurd q.1 (by decide))
            have f368 := (gr_b_0_71 hI358)
            have f369 := (gr_b_0_72 hI358)
            have f370 := (gr_b_0_73 hI358)
            have f371 := (gr_b_0_69 hI358)
            have f372 := (gr_b_0_6 hI358)
            have f373 := (gr_b_0_59 hI358)
            have f374 := (gr_b_0_104 hI358)
            have KLK_I358 := gr_LKs_fr KLK_I27 (fun k => p359 51 k (fun q => absurd q.1 (by decide))) (p359 0 59 (fun q => absurd q.1 (by decide)))
            have A375 := gr_ATp_sr e1_29 p359 rfl
            refine gv_run 2 true hD (pc' := 87) (lv' := [(4, .inl (v4_29 + 1)), (0, .inr (.inr (some 0))), (1, .inl (I 0 6)), (2, .inl v2_18), (3, .inl v3_29)]) (st' := []) (h' := gr_h I358 J28) (C := ((True ∧ True) ∧ True)) rfl ⟨⟨trivial, trivial⟩, trivial⟩ ?_
            refine gv_pick [1, 2, 3, 4, 0] rfl ?_
            exact ih87 I358 J28 v3_29 (v4_29 + 1) p_29 (by exact gz_m 220 (by omega)) hI358 FI358 FJ28 KLK_I358 (by exact gz_m 221 (by omega)) A375 e2_29 (gs_s7_kp e3_29 (gr_LKs_fr gr_LKs_rf (fun k => p359 51 k (fun q => absurd q.1 (by decide))) (p359 0 59 (fun q => absurd q.1 (by decide))))) (gs_fill_s e4_29 (by exact gz_m 222 (by omega)) rfl p359 q359) e5_29 ⟨(fun k => ((p359 16 k (fun q => absurd q.1 (by decide))).trans (e6_29.1 k))), (fun k => ((p359 27 k (fun q => absurd q.1 (by decide))).trans (e6_29.2.1 k))), (fun k => ((p359 28 k (fun q => absurd q.1 (by decide))).trans (e6_29.2.2.1 k))), (fun k => ((p359 29 k (fun q => absurd q.1 (by decide))).trans (e6_29.2.2.2.1 k))), (fun k => ((p359 30 k (fun q => absurd q.1 (by decide))).trans (e6_29.2.2.2.2 k)))⟩
      have f376 := (gr_b_0_71 hI16)
      refine gv_run 3 true hD (pc' := 66) (lv' := [(0, .inr (.inr (some 0))), (1, .inl (I 0 6)), (2, .inl v2_18)]) (st' := [.inl 3, .inl (I16 0 71)]) (h' := gr_h I16 J17) (C := (((True ∧ True) ∧ True) ∧ True)) rfl ⟨⟨⟨trivial, trivial⟩, trivial⟩, trivial⟩ ?_
      refine gv_icmp_eq (t := 75) hD rfl rfl ⟨⟨by exact gz_m 223 (by omega), by exact gz_m 224 (by omega)⟩, ⟨by exact gz_m 225 (by omega), by exact gz_m 226 (by omega)⟩⟩ (fun c377 => ?_) (fun c377 => ?_)
      · have t378 := (gr_ATp_k e1_18 (c := 3) (by exact gz_m 227 (by omega))).mp (by exact gz_m 228 (by omega))
        have t379 := (gr_ATp_rr e1_18).2.2.1.resolve_left (by exact gz_m 229 (by omega))
        have t380 := (gr_ATp_rr e1_18).2.2.2.1 (by exact gz_m 230 (by omega))
        refine gv_run 1 true hD (pc' := 76) (lv' := [(0, .inr (.inr (some 0))), (1, .inl (I 0 6)), (2, .inl v2_18)]) (st' := [.inr (.inr (some 0))]) (h' := gr_h I16 J17) (C := (True ∧ True)) rfl ⟨trivial, trivial⟩ ?_
        obtain ⟨r381, h381, E381, P381⟩ := r_keeps_p (ws0 := ws0) (tb := tb) hws htb ext I16 J17 hI16   (by exact gz_m 231 (by omega)) ((gr_ATp_rr e1_18).2.2.2.1 (by exact gz_m 232 (by omega))).2 ((gr_ATp_rr e1_18).2.2.2.1 (by exact gz_m 233 (by omega))).1 (by have h9 := (gr_ATp_rr e1_18).1.resolve_left (by exact gz_m 234 (by omega)); exact gz_m 235 (by omega))
        obtain ⟨I382, J383, rfl, hI382, g381, k381, ⟨z381, rfl, q381⟩⟩ := P381
        have FI382 := gr_frt FI16 g381 rfl rfl
        have FJ383 := gr_fjt FJ17 k381 rfl rfl
        have t384 := g381 0 71 rfl
        have t385 := g381 0 72 rfl
        have t386 := g381 0 73 rfl
        have t387 := g381 0 69 rfl
        have t388 := g381 0 6 rfl
        have t389 := g381 0 104 rfl
        have t390 := g381 16 (Int.toNat ((I 0 6))) rfl
        have f391 := (gr_b_0_71 hI382)
        have f392 := (gr_b_0_72 hI382)
        have f393 := (gr_b_0_73 hI382)
        have f394 := (gr_b_0_69 hI382)
        have f395 := (gr_b_0_6 hI382)
        have f396 := (gr_b_0_59 hI382)
        have f397 := (gr_b_0_104 hI382)
        have l381 := q381.2.2.2.2.1
        have KLK_I382 := gr_LKs_tr KLK_I16 l381
        have A398 := gr_ATp_F e1_18 g381 k381 rfl
        have t399 := gr_ATp_l A398
        have G381 := q381.2.2.2.2.2.2
        refine gv_callV hD rfl (As := []) (st := []) rfl (by decide) rfl rfl (gr_lV hws rfl) (Nat.le_of_ble_eq_true rfl) (gz_Ev_mono (d := 2) (by decide) E381) ?_
        show gv_X _ _ (79, [(0, .inr (.inr (some 0))), (1, .inl (I 0 6)), (2, .inl v2_18)], [.inl z381], gr_sh ++ ext, gr_h I382 J383)
        refine gv_run 2 true hD (pc' := 81) (lv' := [(3, .inl z381), (0, .inr (.inr (some 0))), (1, .inl (I 0 6)), (2, .inl v2_18)]) (st' := [.inr (.inr (some 0))]) (h' := gr_h I382 J383) (C := ((True ∧ True) ∧ True)) rfl ⟨⟨trivial, trivial⟩, trivial⟩ ?_
        obtain ⟨r400, h400, E400, P400⟩ := r_next_p (ws0 := ws0) (tb := tb) hws htb ext β N9 I382 J383 hI382   ((gr_ATp_rr A398).1.resolve_left (by exact gz_m 236 (by omega))) A398.1.1 A398.1.2
        obtain ⟨I401, J402, rfl, hI401, g400, k400, ⟨rfl, q400⟩⟩ := P400
        have FI401 := gr_frt FI382 g400 rfl rfl
        have FJ402 := gr_fjt FJ383 k400 rfl rfl
        have t403 := g400 0 69 rfl
        have t404 := g400 0 6 rfl
        have t405 := g400 0 59 rfl
        have t406 := g400 0 104 rfl
        have t407 := g400 16 (Int.toNat ((I 0 6))) rfl
        have f408 := (gr_b_0_71 hI401)
        have f409 := (gr_b_0_72 hI401)
        have f410 := (gr_b_0_73 hI401)
        have f411 := (gr_b_0_69 hI401)
        have f412 := (gr_b_0_6 hI401)
        have f413 := (gr_b_0_59 hI401)
        have f414 := (gr_b_0_104 hI401)
        have KLK_I401 := gr_LKs_fr KLK_I382 (fun k => g400 51 k rfl) (g400 0 59 rfl)
        have t415 := (gr_ATp_rr A398).2.2.1.resolve_left (by exact gz_m 237 (by omega))
        have A416 := gr_ATp_nx A398 q400.2.2.2.2.2
        have t417 := gr_ATp_l A416
        obtain ⟨_, _, -, -, -, -⟩ := q400
        refine gv_callV hD rfl (As := []) (st := []) rfl (by decide) rfl rfl (gr_lV hws rfl) (Nat.le_of_ble_eq_true rfl) (gz_Ev_mono (d := 10) (by decide) E400) ?_
        show gv_X _ _ (84, [(3, .inl z381), (0, .inr (.inr (some 0))), (1, .inl (I 0 6)), (2, .inl v2_18)], [], gr_sh ++ ext, gr_h I401 J402)
        refine gv_run 2 true hD (pc' := 87) (lv' := [(4, .inl 0), (3, .inl z381), (0, .inr (.inr (some 0))), (1, .inl (I 0 6)), (2, .inl v2_18)]) (st' := []) (h' := gr_h I401 J402) (C := ((True ∧ True) ∧ True)) rfl ⟨⟨trivial, trivial⟩, trivial⟩ ?_
        refine gv_pick [2, 3, 4, 1, 0] rfl ?_
        exact L87 _ I401 J402 z381 0 (gs_X β N9 p_18) (Nat.lt_succ_self _) hI401 FI401 FJ402 KLK_I401 (by exact gz_m 238 (by omega)) A416 (by rw [e2_18]; unfold gs_snd2; (repeat first | rw [if_pos (by exact gz_m 239 (by omega))] | rw [if_neg (by exact gz_m 240 (by omega))])) ⟨gs_itx_kp e3_18 (gr_LKs_fr (gr_LKs_tr gr_LKs_rf l381) (fun k => g400 51 k rfl) (g400 0 59 rfl)), (by rw [← e4_18]; exact gs_itx_tl e1_18 ((gr_ATp_rr e1_18).1.resolve_left (by exact gz_m 241 (by omega))) ((gr_ATp_rr e1_18).2.2.2.1 (by exact gz_m 242 (by omega))) (by exact gz_m 243 (by omega)) G381 (by exact gz_m 244 (by omega)) (by exact gz_m 245 (by omega)) (by exact gz_m 246 (by omega)) (by exact gz_m 247 (by omega)) (fun j => (g400 51 j rfl)) (g400 0 59 rfl)), by exact gz_m 248 (by omega)⟩ (fun j hj => absurd hj (by exact gz_m 249 (by omega))) (congrArg (gs_X β N9) e4_18) ⟨(fun k => (((g400 16 k rfl).trans (g381 16 k rfl)).trans (e5_18.1 k))), (fun k => (((g400 27 k rfl).trans (g381 27 k rfl)).trans (e5_18.2.1 k))), (fun k => (((g400 28 k rfl).trans (g381 28 k rfl)).trans (e5_18.2.2.1 k))), (fun k => (((g400 29 k rfl).trans (g381 29 k rfl)).trans (e5_18.2.2.2.1 k))), (fun k => (((g400 30 k rfl).trans (g381 30 k rfl)).trans (e5_18.2.2.2.2 k)))⟩
      · have t418 := gr_ATp_ne e1_18 (c := 3) (by exact gz_m 250 (by omega)) (by exact gz_m 251 (by omega))
        refine gv_run 2 true hD (pc' := 71) (lv' := [(0, .inr (.inr (some 0))), (1, .inl (I 0 6)), (2, .inl v2_18)]) (st' := [.inl 1, .inr (.inr (some 0))]) (h' := gr_h I16 J17) (C := ((True ∧ True) ∧ True)) rfl ⟨⟨trivial, trivial⟩, trivial⟩ ?_
        obtain ⟨r419, h419, E419, P419⟩ := r_no__p (ws0 := ws0) (tb := tb) hws htb ext β N9 p_18 I16 J17 hI16 1 ⟨by exact gz_m 252 (by omega), by exact gz_m 253 (by omega)⟩ e1_18 (by exact gz_m 254 (by omega))
        obtain ⟨I420, J421, rfl, hI420, g419, k419, ⟨z419, rfl, q419⟩⟩ := P419
        have FI420 := gr_frt FI16 g419 rfl rfl
        have FJ421 := gr_fjt FJ17 k419 rfl rfl
        have t422 := g419 0 71 rfl
        have t423 := g419 0 72 rfl
        have t424 := g419 0 73 rfl
        have t425 := g419 0 69 rfl
        have t426 := g419 0 6 rfl
        have t427 := g419 0 59 rfl
        have t428 := g419 0 104 rfl
        have t429 := g419 16 (Int.toNat ((I 0 6))) rfl
        have f430 := (gr_b_0_71 hI420)
        have f431 := (gr_b_0_72 hI420)
        have f432 := (gr_b_0_73 hI420)
        have f433 := (gr_b_0_69 hI420)
        have f434 := (gr_b_0_6 hI420)
        have f435 := (gr_b_0_59 hI420)
        have f436 := (gr_b_0_104 hI420)
        have KLK_I420 := gr_LKs_fr KLK_I16 (fun k => g419 51 k rfl) (g419 0 59 rfl)
        have A437 := gr_ATp_F e1_18 g419 k419 rfl
        have t438 := gr_ATp_l A437
        refine gv_callV hD rfl (As := [.inl 1]) (st := []) rfl (by decide) rfl rfl (gr_lV hws rfl) (Nat.le_of_ble_eq_true rfl) (gz_Ev_mono (d := 2) (by decide) E419) ?_
        show gv_X _ _ (74, [(0, .inr (.inr (some 0))), (1, .inl (I 0 6)), (2, .inl v2_18)], [.inl z419], gr_sh ++ ext, gr_h I420 J421)
        have b439 : (I420 0 69 = I 0 69) ∧ (I 0 73 ≤ I420 0 73) ∧ (I 0 72 ≤ I420 0 72) ∧ (I420 0 59 - I420 0 72 ≤ I 0 59 - I 0 72) := by exact gz_m 255 (by omega)
        exact gv_zret hD rfl (by exact gz_m 256 (by omega)) ⟨I420, J421, rfl, hI420, FI420, FJ421, ⟨_, rfl, by exact gz_m 257 (by omega), by exact gz_m 258 (by omega), (gr_ATp_rr A437).1, (gr_ATp_rr A437).2.1, (gr_ATp_rr A437).2.2.1, (gr_ATp_rr A437).2.2.2.1, (gr_ATp_rr A437).2.2.2.2, b439.1, b439.2.1, b439.2.2.1, b439.2.2.2, KLK_I420, (Or.inr ⟨by exact gz_m 259 (by omega), by first | (exfalso; exact gz_m 260 (by omega)) | (rw [e2_18]; unfold gs_snd2; (repeat first | rw [if_pos (by exact gz_m 261 (by omega))] | rw [if_neg (by exact gz_m 262 (by omega))]); exact ⟨by exact gz_m 263 (by omega), by exact gz_m 264 (by omega), (fun j => ⟨((g419 16 j rfl).trans (e5_18.1 j)), ((g419 27 j rfl).trans (e5_18.2.1 j)), ((g419 28 j rfl).trans (e5_18.2.2.1 j)), ((g419 29 j rfl).trans (e5_18.2.2.2.1 j)), ((g419 30 j rfl).trans (e5_18.2.2.2.2 j))⟩)⟩)⟩)⟩⟩
    refine gv_run 2 true hD (pc' := 37) (lv' := [(0, .inr (.inr (some 0))), (1, .inl (I 0 6))]) (st' := [.inl 0, .inr (.inr (some 0))]) (h' := gr_h I J) (C := ((True ∧ True) ∧ True)) rfl ⟨⟨trivial, trivial⟩, trivial⟩ ?_
    obtain ⟨r440, h440, E440, P440⟩ := r_context_p (ws0 := ws0) (tb := tb) hws htb ext β N9 p9 I J hI 0 ⟨by exact gz_m 265 (by omega), by exact gz_m 266 (by omega)⟩ (gr_ATp_rr x7).1 (gr_ATp_rr x7).2.1 (gr_ATp_rr x7).2.2.1 (gr_ATp_rr x7).2.2.2.1 (gr_ATp_rr x7).2.2.2.2 (by exact gz_m 267 (by omega)) (by exact gz_m 268 (by omega)) x7 (by exact gz_m 269 (by omega))
    obtain ⟨I441, J442, rfl, hI441, g440, k440, ⟨z440, rfl, q440⟩⟩ := P440
    have FI441 := gr_frt FI g440 rfl rfl
    have FJ442 := gr_fjt FJ k440 rfl rfl
    have t443 := g440 0 69 rfl
    have t444 := g440 0 6 rfl
    have t445 := g440 16 (Int.toNat ((I 0 6))) rfl
    have f446 := (gr_b_0_71 hI441)
    have f447 := (gr_b_0_72 hI441)
    have f448 := (gr_b_0_73 hI441)
    have f449 := (gr_b_0_69 hI441)
    have f450 := (gr_b_0_6 hI441)
    have f451 := (gr_b_0_59 hI441)
    have f452 := (gr_b_0_104 hI441)
    have l440 := q440.2.2.2.2.2.2.2.2.2.2.2.2.1
    have KLK_I441 := gr_LKs_tr KLK_I l440
    refine gv_callV hD rfl (As := [.inl 0]) (st := []) rfl (by decide) rfl rfl (gr_lV hws rfl) (Nat.le_of_ble_eq_true rfl) (gz_Ev_mono (d := 11) (by decide) E440) ?_
    show gv_X _ _ (40, [(0, .inr (.inr (some 0))), (1, .inl (I 0 6))], [.inl z440], gr_sh ++ ext, gr_h I441 J442)
    refine gv_if_ne (t := 45) hD rfl rfl ⟨by exact gz_m 270 (by omega), by exact gz_m 271 (by omega)⟩ (fun c453 => ?_) (fun c453 => ?_)
    · obtain ⟨u454, A454, U454⟩ := gs_or1 q440.2.2.2.2.2.2.2.2.2.2.2.2.2 (by exact gz_m 272 (by omega))
      have t455 := gr_ATp_l A454
      have t456 := (q440.2.2.2.2.2.2.2.2.2.2.2.1).resolve_left (by exact gz_m 273 (by omega))
      obtain ⟨_, _, -, _, -, -, _, _, _, _, _, -, _, -⟩ := q440
      have f457 := (show ((-2147483648) ≤ I441 0 104 ∧ I441 0 104 ≤ 2147483647) ∧ ((I441 0 104) = -2147483648 ∨ (I441 0 104) = 2147483647 ∨ -16 ≤ (I441 0 104) ∧ (I441 0 104) ≤ 32015) from hI441 0 104)
      refine gv_run 5 true hD (pc' := 53) (lv' := [(2, .inl (I441 0 104)), (0, .inr (.inr (some 0))), (1, .inl (I 0 6))]) (st' := [.inl 62, .inr (.inr (some 0))]) (h' := gr_h I441 J442) (C := (((((True ∧ True) ∧ True) ∧ True) ∧ True) ∧ True)) rfl ⟨⟨⟨⟨⟨trivial, trivial⟩, trivial⟩, trivial⟩, trivial⟩, trivial⟩ ?_
      obtain ⟨r458, h458, E458, P458⟩ := r_need_p (ws0 := ws0) (tb := tb) hws htb ext β N9 (gs_ctx β N9 I J 0 p9) I441 J442 hI441 62 ⟨by exact gz_m 274 (by omega), by exact gz_m 275 (by omega)⟩ (gr_ATp_rr A454).1 (gr_ATp_rr A454).2.1 (gr_ATp_rr A454).2.2.1 (gr_ATp_rr A454).2.2.2.1 (gr_ATp_rr A454).2.2.2.2 A454 (by exact gz_m 276 (by omega))
      obtain ⟨I459, J460, rfl, hI459, g458, k458, ⟨z458, rfl, q458⟩⟩ := P458
      have FI459 := gr_frt FI441 g458 rfl rfl
      have FJ460 := gr_fjt FJ442 k458 rfl rfl
      have t461 := g458 0 69 rfl
      have t462 := g458 0 6 rfl
      have t463 := g458 0 59 rfl
      have t464 := g458 0 104 rfl
      have t465 := g458 16 (Int.toNat ((I 0 6))) rfl
      have f466 := (gr_b_0_71 hI459)
      have f467 := (gr_b_0_72 hI459)
      have f468 := (gr_b_0_73 hI459)
      have f469 := (gr_b_0_69 hI459)
      have f470 := (gr_b_0_6 hI459)
      have f471 := (gr_b_0_59 hI459)
      have f472 := (gr_b_0_104 hI459)
      have KLK_I459 := gr_LKs_fr KLK_I441 (fun k => g458 51 k rfl) (g458 0 59 rfl)
      refine gv_callV hD rfl (As := [.inl 62]) (st := []) rfl (by decide) rfl rfl (gr_lV hws rfl) (Nat.le_of_ble_eq_true rfl) (gz_Ev_mono (d := 11) (by decide) E458) ?_
      show gv_X _ _ (56, [(2, .inl (I441 0 104)), (0, .inr (.inr (some 0))), (1, .inl (I 0 6))], [.inl z458], gr_sh ++ ext, gr_h I459 J460)
      refine gv_if_ne (t := 61) hD rfl rfl ⟨by exact gz_m 277 (by omega), by exact gz_m 278 (by omega)⟩ (fun c473 => ?_) (fun c473 => ?_)
      · obtain ⟨u474, A474⟩ := gs_or1 q458.2.2.2.2.2.2.2.2.2.2.2 (by exact gz_m 279 (by omega))
        have t475 := gr_ATp_l A474
        have t476 := (q458.2.2.2.2.2.2.2.2.2.2.1).resolve_left (by exact gz_m 280 (by omega))
        obtain ⟨_, _, -, _, -, -, _, _, _, _, -, -⟩ := q458
        have t477 := (gr_ATp_rr A454).2.2.1.resolve_left (by exact gz_m 281 (by omega))
        refine gv_pick [1, 2, 0] rfl ?_
        exact L61 I459 J460 (I441 0 104) ((gs_need β N9 62 (gs_ctx β N9 I J 0 p9))) hI459 FI459 FJ460 KLK_I459 (by exact gz_m 282 (by omega)) A474 (by rw [e0_8]; unfold gs_snd1; (repeat first | rw [if_pos (by exact gz_m 283 (by omega))] | rw [if_neg (by exact gz_m 284 (by omega))])) (gs_itx_s U454 (fun j => (g458 51 j rfl)) (g458 0 59 rfl)) ((gs_need_x (by exact gz_m 285 (by omega)) (by exact gz_m 286 (by omega))).trans (congrArg (gs_X β N9) (gs_ctx_x (by exact gz_m 287 (by omega)) (by exact gz_m 288 (by omega))))) ⟨(fun k => ((g458 16 k rfl).trans (g440 16 k rfl))), (fun k => ((g458 27 k rfl).trans (g440 27 k rfl))), (fun k => ((g458 28 k rfl).trans (g440 28 k rfl))), (fun k => ((g458 29 k rfl).trans (g440 29 k rfl))), (fun k => ((g458 30 k rfl).trans (g440 30 k rfl)))⟩
      · obtain ⟨u478, u478_⟩ := gs_or0 q458.2.2.2.2.2.2.2.2.2.2.2 (by exact gz_m 289 (by omega))
        refine gv_run 1 true hD (pc' := 60) (lv' := [(2, .inl (I441 0 104)), (0, .inr (.inr (some 0))), (1, .inl (I 0 6))]) (st' := [.inl 0]) (h' := gr_h I459 J460) (C := (True ∧ True)) rfl ⟨trivial, trivial⟩ ?_
        have b479 : (I459 0 71 = 5 ∨ I459 0 73 ≤ I459 0 69) ∧ (I459 0 72 ≤ I459 0 69) ∧ (I459 0 71 = 0 ∨ (I459 0 72 < I459 0 73 ∧ I459 0 72 < I459 0 69)) ∧ (I459 0 71 = 3 → 2 ≤ I459 0 73 - I459 0 72 ∧ I459 0 73 - I459 0 72 ≤ 14) ∧ (I459 0 72 ≤ I459 0 73) ∧ (I459 0 69 = I 0 69) ∧ (I 0 73 ≤ I459 0 73) ∧ (I 0 72 ≤ I459 0 72) ∧ (I459 0 59 - I459 0 72 ≤ I 0 59 - I 0 72) := by exact gz_m 290 (by omega)
        exact gv_zret hD rfl (by exact gz_m 291 (by omega)) ⟨I459, J460, rfl, hI459, FI459, FJ460, ⟨_, rfl, by exact gz_m 292 (by omega), by exact gz_m 293 (by omega), b479.1, b479.2.1, b479.2.2.1, b479.2.2.2.1, b479.2.2.2.2.1, b479.2.2.2.2.2.1, b479.2.2.2.2.2.2.1, b479.2.2.2.2.2.2.2.1, b479.2.2.2.2.2.2.2.2, KLK_I459, (Or.inr ⟨by exact gz_m 294 (by omega), by first | (exfalso; exact gz_m 295 (by omega)) | (rw [e0_8]; unfold gs_snd1 gs_snd2; (repeat first | rw [if_pos (by exact gz_m 296 (by omega))] | rw [if_neg (by exact gz_m 297 (by omega))]); exact ⟨by exact gz_m 298 (by omega), by exact gz_m 299 (by omega), (fun j => ⟨((g458 16 j rfl).trans (g440 16 j rfl)), ((g458 27 j rfl).trans (g440 27 j rfl)), ((g458 28 j rfl).trans (g440 28 j rfl)), ((g458 29 j rfl).trans (g440 29 j rfl)), ((g458 30 j rfl).trans (g440 30 j rfl))⟩)⟩)⟩)⟩⟩
    · obtain ⟨u480, u480_⟩ := gs_or0 q440.2.2.2.2.2.2.2.2.2.2.2.2.2 (by exact gz_m 300 (by omega))
      refine gv_run 1 true hD (pc' := 44) (lv' := [(0, .inr (.inr (some 0))), (1, .inl (I 0 6))]) (st' := [.inl 0]) (h' := gr_h I441 J442) (C := (True ∧ True)) rfl ⟨trivial, trivial⟩ ?_
      have b481 : (I441 0 71 = 5 ∨ I441 0 73 ≤ I441 0 69) ∧ (I441 0 72 ≤ I441 0 69) ∧ (I441 0 71 = 0 ∨ (I441 0 72 < I441 0 73 ∧ I441 0 72 < I441 0 69)) ∧ (I441 0 71 = 3 → 2 ≤ I441 0 73 - I441 0 72 ∧ I441 0 73 - I441 0 72 ≤ 14) ∧ (I441 0 72 ≤ I441 0 73) ∧ (I441 0 69 = I 0 69) ∧ (I 0 73 ≤ I441 0 73) ∧ (I 0 72 ≤ I441 0 72) ∧ (I441 0 59 - I441 0 72 ≤ I 0 59 - I 0 72) := by exact gz_m 301 (by omega)
      exact gv_zret hD rfl (by exact gz_m 302 (by omega)) ⟨I441, J442, rfl, hI441, FI441, FJ442, ⟨_, rfl, by exact gz_m 303 (by omega), by exact gz_m 304 (by omega), b481.1, b481.2.1, b481.2.2.1, b481.2.2.2.1, b481.2.2.2.2.1, b481.2.2.2.2.2.1, b481.2.2.2.2.2.2.1, b481.2.2.2.2.2.2.2.1, b481.2.2.2.2.2.2.2.2, KLK_I441, (Or.inr ⟨by exact gz_m 305 (by omega), by first | (exfalso; exact gz_m 306 (by omega)) | (rw [e0_8]; unfold gs_snd1 gs_snd2; (repeat first | rw [if_pos (by exact gz_m 307 (by omega))] | rw [if_neg (by exact gz_m 308 (by omega))]); exact ⟨by exact gz_m 309 (by omega), by exact gz_m 310 (by omega), (fun j => ⟨(g440 16 j rfl), (g440 27 j rfl), (g440 28 j rfl), (g440 29 j rfl), (g440 30 j rfl)⟩)⟩)⟩)⟩⟩
  have f482 := (gr_b_0_6 hI)
  have f483 := (gr_b_0_71 hI)
  refine gv_run 6 true hD (pc' := 10) (lv' := [(1, .inl (I 0 6)), (0, .inr (.inr (some 0)))]) (st' := [.inl 3, .inl (I 0 71)]) (h' := gr_h I J) (C := ((((((True ∧ True) ∧ True) ∧ True) ∧ True) ∧ True) ∧ True)) rfl ⟨⟨⟨⟨⟨⟨trivial, trivial⟩, trivial⟩, trivial⟩, trivial⟩, trivial⟩, trivial⟩ ?_
  refine gv_icmp_ne (t := 35) hD rfl rfl ⟨⟨by exact gz_m 311 (by omega), by exact gz_m 312 (by omega)⟩, ⟨by exact gz_m 313 (by omega), by exact gz_m 314 (by omega)⟩⟩ (fun c484 => ?_) (fun c484 => ?_)
  · have t485 := gr_ATp_ne x7 (c := 3) (by exact gz_m 315 (by omega)) (by exact gz_m 316 (by omega))
    refine gv_pick [1, 0] rfl ?_
    exact L35 (I 0 6) (by exact gz_m 317 (by omega)) (if_neg (by exact gz_m 318 (by omega))) rfl
  · have t486 := (gr_ATp_k x7 (c := 3) (by exact gz_m 319 (by omega))).mp (by exact gz_m 320 (by omega))
    have t487 := (gr_ATp_rr x7).2.2.1.resolve_left (by exact gz_m 321 (by omega))
    have t488 := (gr_ATp_rr x7).2.2.2.1 (by exact gz_m 322 (by omega))
    refine gv_run 1 true hD (pc' := 14) (lv' := [(1, .inl (I 0 6)), (0, .inr (.inr (some 0)))]) (st' := [.inr (.inr (some 0))]) (h' := gr_h I J) (C := (True ∧ True)) rfl ⟨trivial, trivial⟩ ?_
    obtain ⟨r489, h489, E489, P489⟩ := r_size (ws0 := ws0) (tb := tb) hws htb ext I J hI   
    obtain ⟨rfl, ⟨z489, rfl, q489⟩⟩ := P489
    refine gv_callV hD rfl (As := []) (st := []) rfl (by decide) rfl rfl (gr_lV hws rfl) (Nat.le_of_ble_eq_true rfl) (gz_Ev_mono (d := 1) (by decide) E489) ?_
    show gv_X _ _ (17, [(1, .inl (I 0 6)), (0, .inr (.inr (some 0)))], [.inl z489], gr_sh ++ ext, gr_h I J)
    refine gv_run 1 true hD (pc' := 18) (lv' := [(1, .inl (I 0 6)), (0, .inr (.inr (some 0)))]) (st' := [.inl 1, .inl z489]) (h' := gr_h I J) (C := (True ∧ True)) rfl ⟨trivial, trivial⟩ ?_
    refine gv_icmp_lt (t := 29) hD rfl rfl ⟨⟨by exact gz_m 323 (by omega), by exact gz_m 324 (by omega)⟩, ⟨by exact gz_m 325 (by omega), by exact gz_m 326 (by omega)⟩⟩ (fun c490 => ?_) (fun c490 => ?_)
    · refine gv_run 2 true hD (pc' := 31) (lv' := [(1, .inl (I 0 6)), (0, .inr (.inr (some 0)))]) (st' := [.inl 5, .inr (.inr (some 0))]) (h' := gr_h I J) (C := ((True ∧ True) ∧ True)) rfl ⟨⟨trivial, trivial⟩, trivial⟩ ?_
      obtain ⟨r491, h491, E491, P491⟩ := r_no__p (ws0 := ws0) (tb := tb) hws htb ext β N9 p9 I J hI 5 ⟨by exact gz_m 327 (by omega), by exact gz_m 328 (by omega)⟩ x7 (by exact gz_m 329 (by omega))
      obtain ⟨I492, J493, rfl, hI492, g491, k491, ⟨z491, rfl, q491⟩⟩ := P491
      have FI492 := gr_frt FI g491 rfl rfl
      have FJ493 := gr_fjt FJ k491 rfl rfl
      have t494 := g491 0 71 rfl
      have t495 := g491 0 72 rfl
      have t496 := g491 0 73 rfl
      have t497 := g491 0 69 rfl
      have t498 := g491 0 6 rfl
      have t499 := g491 0 59 rfl
      have t500 := g491 0 104 rfl
      have t501 := g491 16 (Int.toNat ((I 0 6))) rfl
      have f502 := (gr_b_0_71 hI492)
      have f503 := (gr_b_0_72 hI492)
      have f504 := (gr_b_0_73 hI492)
      have f505 := (gr_b_0_69 hI492)
      have f506 := (gr_b_0_6 hI492)
      have f507 := (gr_b_0_59 hI492)
      have f508 := (gr_b_0_104 hI492)
      have KLK_I492 := gr_LKs_fr KLK_I (fun k => g491 51 k rfl) (g491 0 59 rfl)
      have A509 := gr_ATp_F x7 g491 k491 rfl
      have t510 := gr_ATp_l A509
      refine gv_callV hD rfl (As := [.inl 5]) (st := []) rfl (by decide) rfl rfl (gr_lV hws rfl) (Nat.le_of_ble_eq_true rfl) (gz_Ev_mono (d := 2) (by decide) E491) ?_
      show gv_X _ _ (34, [(1, .inl (I 0 6)), (0, .inr (.inr (some 0)))], [.inl z491], gr_sh ++ ext, gr_h I492 J493)
      have b511 : (I492 0 69 = I 0 69) ∧ (I 0 73 ≤ I492 0 73) ∧ (I 0 72 ≤ I492 0 72) ∧ (I492 0 59 - I492 0 72 ≤ I 0 59 - I 0 72) := by exact gz_m 330 (by omega)
      exact gv_zret hD rfl (by exact gz_m 331 (by omega)) ⟨I492, J493, rfl, hI492, FI492, FJ493, ⟨_, rfl, by exact gz_m 332 (by omega), by exact gz_m 333 (by omega), (gr_ATp_rr A509).1, (gr_ATp_rr A509).2.1, (gr_ATp_rr A509).2.2.1, (gr_ATp_rr A509).2.2.2.1, (gr_ATp_rr A509).2.2.2.2, b511.1, b511.2.1, b511.2.2.1, b511.2.2.2, KLK_I492, (Or.inr ⟨by exact gz_m 334 (by omega), by rw [show (gs_snd β N9 I J (I 0 78) p9) = _ from if_pos (by exact gz_m 335 (by omega))]; exact ⟨by exact gz_m 336 (by omega), by exact gz_m 337 (by omega), (fun j => ⟨(g491 16 j rfl), (g491 27 j rfl), (g491 28 j rfl), (g491 29 j rfl), (g491 30 j rfl)⟩)⟩⟩)⟩⟩
    · refine gv_run 1 true hD (pc' := 22) (lv' := [(1, .inl (I 0 6)), (0, .inr (.inr (some 0)))]) (st' := [.inr (.inr (some 0))]) (h' := gr_h I J) (C := (True ∧ True)) rfl ⟨trivial, trivial⟩ ?_
      obtain ⟨r512, h512, E512, P512⟩ := r_size (ws0 := ws0) (tb := tb) hws htb ext I J hI   
      obtain ⟨rfl, ⟨z512, rfl, q512⟩⟩ := P512
      refine gv_callV hD rfl (As := []) (st := []) rfl (by decide) rfl rfl (gr_lV hws rfl) (Nat.le_of_ble_eq_true rfl) (gz_Ev_mono (d := 1) (by decide) E512) ?_
      show gv_X _ _ (25, [(1, .inl (I 0 6)), (0, .inr (.inr (some 0)))], [.inl z512], gr_sh ++ ext, gr_h I J)
      refine gv_run 1 true hD (pc' := 26) (lv' := [(1, .inl (I 0 6)), (0, .inr (.inr (some 0)))]) (st' := [.inl 3, .inl z512]) (h' := gr_h I J) (C := (True ∧ True)) rfl ⟨trivial, trivial⟩ ?_
      refine gv_icmp_le (t := 35) hD rfl rfl ⟨⟨by exact gz_m 338 (by omega), by exact gz_m 339 (by omega)⟩, ⟨by exact gz_m 340 (by omega), by exact gz_m 341 (by omega)⟩⟩ (fun c513 => ?_) (fun c513 => ?_)
      · refine gv_pick [1, 0] rfl ?_
        exact L35 (I 0 6) (by exact gz_m 342 (by omega)) (if_neg (by exact gz_m 343 (by omega))) rfl
      · refine gv_run 2 true hD (pc' := 31) (lv' := [(1, .inl (I 0 6)), (0, .inr (.inr (some 0)))]) (st' := [.inl 5, .inr (.inr (some 0))]) (h' := gr_h I J) (C := ((True ∧ True) ∧ True)) rfl ⟨⟨trivial, trivial⟩, trivial⟩ ?_
        obtain ⟨r514, h514, E514, P514⟩ := r_no__p (ws0 := ws0) (tb := tb) hws htb ext β N9 p9 I J hI 5 ⟨by exact gz_m 344 (by omega), by exact gz_m 345 (by omega)⟩ x7 (by exact gz_m 346 (by omega))
        obtain ⟨I515, J516, rfl, hI515, g514, k514, ⟨z514, rfl, q514⟩⟩ := P514
        have FI515 := gr_frt FI g514 rfl rfl
        have FJ516 := gr_fjt FJ k514 rfl rfl
        have t517 := g514 0 71 rfl
        have t518 := g514 0 72 rfl
        have t519 := g514 0 73 rfl
        have t520 := g514 0 69 rfl
        have t521 := g514 0 6 rfl
        have t522 := g514 0 59 rfl
        have t523 := g514 0 104 rfl
        have t524 := g514 16 (Int.toNat ((I 0 6))) rfl
        have f525 := (gr_b_0_71 hI515)
        have f526 := (gr_b_0_72 hI515)
        have f527 := (gr_b_0_73 hI515)
        have f528 := (gr_b_0_69 hI515)
        have f529 := (gr_b_0_6 hI515)
        have f530 := (gr_b_0_59 hI515)
        have f531 := (gr_b_0_104 hI515)
        have KLK_I515 := gr_LKs_fr KLK_I (fun k => g514 51 k rfl) (g514 0 59 rfl)
        have A532 := gr_ATp_F x7 g514 k514 rfl
        have t533 := gr_ATp_l A532
        refine gv_callV hD rfl (As := [.inl 5]) (st := []) rfl (by decide) rfl rfl (gr_lV hws rfl) (Nat.le_of_ble_eq_true rfl) (gz_Ev_mono (d := 2) (by decide) E514) ?_
        show gv_X _ _ (34, [(1, .inl (I 0 6)), (0, .inr (.inr (some 0)))], [.inl z514], gr_sh ++ ext, gr_h I515 J516)
        have b534 : (I515 0 69 = I 0 69) ∧ (I 0 73 ≤ I515 0 73) ∧ (I 0 72 ≤ I515 0 72) ∧ (I515 0 59 - I515 0 72 ≤ I 0 59 - I 0 72) := by exact gz_m 347 (by omega)
        exact gv_zret hD rfl (by exact gz_m 348 (by omega)) ⟨I515, J516, rfl, hI515, FI515, FJ516, ⟨_, rfl, by exact gz_m 349 (by omega), by exact gz_m 350 (by omega), (gr_ATp_rr A532).1, (gr_ATp_rr A532).2.1, (gr_ATp_rr A532).2.2.1, (gr_ATp_rr A532).2.2.2.1, (gr_ATp_rr A532).2.2.2.2, b534.1, b534.2.1, b534.2.2.1, b534.2.2.2, KLK_I515, (Or.inr ⟨by exact gz_m 351 (by omega), by rw [show (gs_snd β N9 I J (I 0 78) p9) = _ from if_pos (by exact gz_m 352 (by omega))]; exact ⟨by exact gz_m 353 (by omega), by exact gz_m 354 (by omega), (fun j => ⟨(g514 16 j rfl), (g514 27 j rfl), (g514 28 j rfl), (g514 29 j rfl), (g514 30 j rfl)⟩)⟩⟩)⟩⟩
