set_option maxHeartbeats 16000000 in
set_option maxRecDepth 100000 in
theorem r_sound_p {ws0 : List Cond} {tb : String → gz_T} (hws : ∀ w ∈ gr_ws, w ∈ ws0) (htb : tb RX13 = gr_T) (ext : gz_Sh) (β : Int → Int) (N9 : Int) (p9 : Int) (I : gr_I) (J : gr_J) (hI : gr_Inv I)   (x0 : I 0 71 = 5 ∨ I 0 73 ≤ I 0 69) (x1 : I 0 72 ≤ I 0 69) (x2 : I 0 71 = 0 ∨ (I 0 72 < I 0 73 ∧ I 0 72 < I 0 69)) (x3 : I 0 71 = 3 → 2 ≤ I 0 73 - I 0 72 ∧ I 0 73 - I 0 72 ≤ 14) (x4 : I 0 72 ≤ I 0 73) (x5 : 0 ≤ I 0 6) (x6 : I 0 59 + I 0 69 - I 0 72 ≤ 1900) (x7 : gr_ATp β N9 p9 I J) (x8 : 0 ≤ p9) : ∃ r h', gz_Ev ws0 tb 13 (yX13_sound, cX13_sound, 6, (some .boolean)) [.inr (.inr (some 0))] (gr_sh ++ ext) (gr_h I J) r (gr_sh ++ ext) h' 0 0 ∧ (∃ (I' : gr_I) (J' : gr_J), h' = gr_h I' J' ∧ gr_Inv I' ∧ gr_fr [59, 71, 72, 73, 74, 75, 76, 77, 104] [16, 27, 28, 29, 30, 51, 63] I I' ∧ gr_fj [59, 71, 72, 73, 74, 75, 76, 77, 104] [16, 27, 28, 29, 30, 51, 63] J J' ∧ (∃ z : Int, r = some (.inl z) ∧ 0 ≤ z ∧ z ≤ 1 ∧ (I' 0 71 = 5 ∨ I' 0 73 ≤ I' 0 69) ∧ (I' 0 72 ≤ I' 0 69) ∧ (I' 0 71 = 0 ∨ (I' 0 72 < I' 0 73 ∧ I' 0 72 < I' 0 69)) ∧ (I' 0 71 = 3 → 2 ≤ I' 0 73 - I' 0 72 ∧ I' 0 73 - I' 0 72 ≤ 14) ∧ (I' 0 72 ≤ I' 0 73) ∧ (I' 0 69 = I 0 69) ∧ (I 0 73 ≤ I' 0 73) ∧ (I 0 72 ≤ I' 0 72) ∧ (I' 0 59 - I' 0 72 ≤ I 0 59 - I 0 72) ∧ (gs_Or z (0 ≤ (gs_snd β N9 I J (I 0 78) p9) ∧ gr_ATp β N9 (gs_snd β N9 I J (I 0 78) p9) I' J' ∧ (I' 16 (Int.toNat (I 0 6)) = I 16 (Int.toNat (I 0 6)) + 1 ∧ ∀ j, ¬ j = (Int.toNat (I 0 6)) → I' 16 j = I 16 j)) ((gs_snd β N9 I J (I 0 78) p9) < 0 ∧ I' 0 77 = -1 - (gs_snd β N9 I J (I 0 78) p9) ∧ ∀ j, I' 16 j = I 16 j)))) := by
  have FI : gr_fr [59, 71, 72, 73, 74, 75, 76, 77, 104] [16, 27, 28, 29, 30, 51, 63] I I := fun _ _ _ => rfl
  have FJ : gr_fj [59, 71, 72, 73, 74, 75, 76, 77, 104] [16, 27, 28, 29, 30, 51, 63] J J := fun _ _ _ => rfl
  have hD : gv_D (gr_E ws0 tb 12 (yX13_sound, cX13_sound, 6, (some .boolean)) kX13_sound) := gq_ok oX13_sound
  refine gr_ev (d := 12) (l := kX13_sound) (Po := fun r h' => (∃ (I' : gr_I) (J' : gr_J), h' = gr_h I' J' ∧ gr_Inv I' ∧ gr_fr [59, 71, 72, 73, 74, 75, 76, 77, 104] [16, 27, 28, 29, 30, 51, 63] I I' ∧ gr_fj [59, 71, 72, 73, 74, 75, 76, 77, 104] [16, 27, 28, 29, 30, 51, 63] J J' ∧ (∃ z : Int, r = some (.inl z) ∧ 0 ≤ z ∧ z ≤ 1 ∧ (I' 0 71 = 5 ∨ I' 0 73 ≤ I' 0 69) ∧ (I' 0 72 ≤ I' 0 69) ∧ (I' 0 71 = 0 ∨ (I' 0 72 < I' 0 73 ∧ I' 0 72 < I' 0 69)) ∧ (I' 0 71 = 3 → 2 ≤ I' 0 73 - I' 0 72 ∧ I' 0 73 - I' 0 72 ≤ 14) ∧ (I' 0 72 ≤ I' 0 73) ∧ (I' 0 69 = I 0 69) ∧ (I 0 73 ≤ I' 0 73) ∧ (I 0 72 ≤ I' 0 72) ∧ (I' 0 59 - I' 0 72 ≤ I 0 59 - I 0 72) ∧ (gs_Or z (0 ≤ (gs_snd β N9 I J (I 0 78) p9) ∧ gr_ATp β N9 (gs_snd β N9 I J (I 0 78) p9) I' J' ∧ (I' 16 (Int.toNat (I 0 6)) = I 16 (Int.toNat (I 0 6)) + 1 ∧ ∀ j, ¬ j = (Int.toNat (I 0 6)) → I' 16 j = I 16 j)) ((gs_snd β N9 I J (I 0 78) p9) < 0 ∧ I' 0 77 = -1 - (gs_snd β N9 I J (I 0 78) p9) ∧ ∀ j, I' 16 j = I 16 j))))) htb rfl (Nat.le_of_ble_eq_true rfl) ?_
  have tAT := gr_ATp_l x7
  clear x0 x2 x3
  have f1 := (show 0 ≤ I 0 71 ∧ I 0 71 ≤ 5 from (hI 0 71).1)
  have f2 := (show 0 ≤ I 0 72 ∧ I 0 72 ≤ 1000 from (hI 0 72).1)
  have f3 := (show 0 ≤ I 0 73 ∧ I 0 73 ≤ 1001 from (hI 0 73).1)
  have f4 := (show 0 ≤ I 0 69 ∧ I 0 69 ≤ 1000 from (hI 0 69).1)
  have f5 := (show (-1) ≤ I 0 6 ∧ I 0 6 ≤ 7 from (hI 0 6).1)
  have f6 := (show 0 ≤ I 0 59 ∧ I 0 59 ≤ 2000 from (hI 0 59).1)
  have f7 := (show (-2147483648) ≤ I 0 104 ∧ I 0 104 ≤ 2147483647 from (hI 0 104).1)
  have L35 : ∀ (v1_8 : Int), ((0 ≤ v1_8 ∧ v1_8 ≤ 7) ∧ (I 0 72 ≤ I 0 69) ∧ (I 0 72 ≤ I 0 73) ∧ (I 0 69 = I 0 69) ∧ (I 0 73 ≤ I 0 73) ∧ (I 0 72 ≤ I 0 72) ∧ (I 0 6 = I 0 6) ∧ (I 0 59 - I 0 72 ≤ I 0 59 - I 0 72)) → ((gs_snd β N9 I J (I 0 78) p9) = gs_snd1 β N9 I J (I 0 78) (gs_ctx β N9 I J 0 p9)) → (v1_8 = I 0 6) → gv_X (gr_E ws0 tb 12 (yX13_sound, cX13_sound, 6, (some .boolean)) kX13_sound) (gv_Q cX13_sound (some .boolean) (gr_sh ++ ext) (fun r h' => (∃ (I' : gr_I) (J' : gr_J), h' = gr_h I' J' ∧ gr_Inv I' ∧ gr_fr [59, 71, 72, 73, 74, 75, 76, 77, 104] [16, 27, 28, 29, 30, 51, 63] I I' ∧ gr_fj [59, 71, 72, 73, 74, 75, 76, 77, 104] [16, 27, 28, 29, 30, 51, 63] J J' ∧ (∃ z : Int, r = some (.inl z) ∧ 0 ≤ z ∧ z ≤ 1 ∧ (I' 0 71 = 5 ∨ I' 0 73 ≤ I' 0 69) ∧ (I' 0 72 ≤ I' 0 69) ∧ (I' 0 71 = 0 ∨ (I' 0 72 < I' 0 73 ∧ I' 0 72 < I' 0 69)) ∧ (I' 0 71 = 3 → 2 ≤ I' 0 73 - I' 0 72 ∧ I' 0 73 - I' 0 72 ≤ 14) ∧ (I' 0 72 ≤ I' 0 73) ∧ (I' 0 69 = I 0 69) ∧ (I 0 73 ≤ I' 0 73) ∧ (I 0 72 ≤ I' 0 72) ∧ (I' 0 59 - I' 0 72 ≤ I 0 59 - I 0 72) ∧ (gs_Or z (0 ≤ (gs_snd β N9 I J (I 0 78) p9) ∧ gr_ATp β N9 (gs_snd β N9 I J (I 0 78) p9) I' J' ∧ (I' 16 (Int.toNat (I 0 6)) = I 16 (Int.toNat (I 0 6)) + 1 ∧ ∀ j, ¬ j = (Int.toNat (I 0 6)) → I' 16 j = I 16 j)) ((gs_snd β N9 I J (I 0 78) p9) < 0 ∧ I' 0 77 = -1 - (gs_snd β N9 I J (I 0 78) p9) ∧ ∀ j, I' 16 j = I 16 j)))))) (35, [(0, .inr (.inr (some 0))), (1, .inl v1_8)], [], gr_sh ++ ext, gr_h I J) := by
    intro v1_8 m_8 e0_8 e1_8
    obtain ⟨hv1_8, e2_8, e3_8, e4_8, e5_8, e6_8, e7_8, e8_8⟩ := m_8
    have q9_8 := e1_8
    subst q9_8
    have f9 := (show 0 ≤ I 0 71 ∧ I 0 71 ≤ 5 from (hI 0 71).1)
    have f10 := (show 0 ≤ I 0 72 ∧ I 0 72 ≤ 1000 from (hI 0 72).1)
    have f11 := (show 0 ≤ I 0 73 ∧ I 0 73 ≤ 1001 from (hI 0 73).1)
    have f12 := (show 0 ≤ I 0 69 ∧ I 0 69 ≤ 1000 from (hI 0 69).1)
    have f13 := (show (-1) ≤ I 0 6 ∧ I 0 6 ≤ 7 from (hI 0 6).1)
    have f14 := (show 0 ≤ I 0 59 ∧ I 0 59 ≤ 2000 from (hI 0 59).1)
    have f15 := (show (-2147483648) ≤ I 0 104 ∧ I 0 104 ≤ 2147483647 from (hI 0 104).1)
    have L61 : ∀ (I16 : gr_I) (J17 : gr_J) (v2_18 : Int) (p_18 : Int), gr_Inv I16 → gr_fr [59, 71, 72, 73, 74, 75, 76, 77, 104] [16, 27, 28, 29, 30, 51, 63] I I16 → gr_fj [59, 71, 72, 73, 74, 75, 76, 77, 104] [16, 27, 28, 29, 30, 51, 63] J J17 → ((0 ≤ (I 0 6) ∧ (I 0 6) ≤ 7) ∧ ((-16) ≤ v2_18 ∧ v2_18 ≤ 32015) ∧ (0 ≤ p_18) ∧ (I16 0 72 ≤ I16 0 69) ∧ (I16 0 72 ≤ I16 0 73) ∧ (I16 0 69 = I 0 69) ∧ (I 0 73 ≤ I16 0 73) ∧ (I 0 72 ≤ I16 0 72) ∧ (I16 0 6 = I 0 6) ∧ (I16 0 59 - I16 0 72 ≤ I 0 59 - I 0 72)) → (gr_ATp β N9 p_18 I16 J17) → ((gs_snd β N9 I J (I 0 78) p9) = gs_snd2 β N9 I J (I 0 78) p_18) → ((∀ k, I16 16 k = I 16 k)) → gv_X (gr_E ws0 tb 12 (yX13_sound, cX13_sound, 6, (some .boolean)) kX13_sound) (gv_Q cX13_sound (some .boolean) (gr_sh ++ ext) (fun r h' => (∃ (I' : gr_I) (J' : gr_J), h' = gr_h I' J' ∧ gr_Inv I' ∧ gr_fr [59, 71, 72, 73, 74, 75, 76, 77, 104] [16, 27, 28, 29, 30, 51, 63] I I' ∧ gr_fj [59, 71, 72, 73, 74, 75, 76, 77, 104] [16, 27, 28, 29, 30, 51, 63] J J' ∧ (∃ z : Int, r = some (.inl z) ∧ 0 ≤ z ∧ z ≤ 1 ∧ (I' 0 71 = 5 ∨ I' 0 73 ≤ I' 0 69) ∧ (I' 0 72 ≤ I' 0 69) ∧ (I' 0 71 = 0 ∨ (I' 0 72 < I' 0 73 ∧ I' 0 72 < I' 0 69)) ∧ (I' 0 71 = 3 → 2 ≤ I' 0 73 - I' 0 72 ∧ I' 0 73 - I' 0 72 ≤ 14) ∧ (I' 0 72 ≤ I' 0 73) ∧ (I' 0 69 = I 0 69) ∧ (I 0 73 ≤ I' 0 73) ∧ (I 0 72 ≤ I' 0 72) ∧ (I' 0 59 - I' 0 72 ≤ I 0 59 - I 0 72) ∧ (gs_Or z (0 ≤ (gs_snd β N9 I J (I 0 78) p9) ∧ gr_ATp β N9 (gs_snd β N9 I J (I 0 78) p9) I' J' ∧ (I' 16 (Int.toNat (I 0 6)) = I 16 (Int.toNat (I 0 6)) + 1 ∧ ∀ j, ¬ j = (Int.toNat (I 0 6)) → I' 16 j = I 16 j)) ((gs_snd β N9 I J (I 0 78) p9) < 0 ∧ I' 0 77 = -1 - (gs_snd β N9 I J (I 0 78) p9) ∧ ∀ j, I' 16 j = I 16 j)))))) (61, [(0, .inr (.inr (some 0))), (1, .inl (I 0 6)), (2, .inl v2_18)], [], gr_sh ++ ext, gr_h I16 J17) := by
      intro I16 J17 v2_18 p_18 hI16 FI16 FJ17 m_18 e1_18 e2_18 e3_18
      clear hv1_8 e2_8 e3_8 e4_8 e5_8 e6_8 e7_8 e8_8 f9 f10 f11 f12 f13 f14 f15
      obtain ⟨h_I_0_6__18, hv2_18, e0_18, e4_18, e5_18, e6_18, e7_18, e8_18, e9_18, e10_18⟩ := m_18
      have f19 := (show 0 ≤ I16 0 71 ∧ I16 0 71 ≤ 5 from (hI16 0 71).1)
      have f20 := (show 0 ≤ I16 0 72 ∧ I16 0 72 ≤ 1000 from (hI16 0 72).1)
      have f21 := (show 0 ≤ I16 0 73 ∧ I16 0 73 ≤ 1001 from (hI16 0 73).1)
      have f22 := (show 0 ≤ I16 0 69 ∧ I16 0 69 ≤ 1000 from (hI16 0 69).1)
      have f23 := (show (-1) ≤ I16 0 6 ∧ I16 0 6 ≤ 7 from (hI16 0 6).1)
      have f24 := (show 0 ≤ I16 0 59 ∧ I16 0 59 ≤ 2000 from (hI16 0 59).1)
      have f25 := (show (-2147483648) ≤ I16 0 104 ∧ I16 0 104 ≤ 2147483647 from (hI16 0 104).1)
      have t26 := gr_ATp_l e1_18
      have L87 : ∀ (n : Nat) (I27 : gr_I) (J28 : gr_J) (v3_29 : Int) (v4_29 : Int) (p_29 : Int), (7 - v4_29).toNat < n → gr_Inv I27 → gr_fr [59, 71, 72, 73, 74, 75, 76, 77, 104] [16, 27, 28, 29, 30, 51, 63] I I27 → gr_fj [59, 71, 72, 73, 74, 75, 76, 77, 104] [16, 27, 28, 29, 30, 51, 63] J J28 → ((0 ≤ (I 0 6) ∧ (I 0 6) ≤ 7) ∧ ((-16) ≤ v2_18 ∧ v2_18 ≤ 32015) ∧ (0 ≤ v3_29 ∧ v3_29 ≤ 32015) ∧ (0 ≤ v4_29 ∧ v4_29 ≤ 6) ∧ (0 ≤ p_29) ∧ (I27 0 72 ≤ I27 0 69) ∧ (I27 0 72 ≤ I27 0 73) ∧ (I27 0 69 = I 0 69) ∧ (I 0 73 ≤ I27 0 73) ∧ (I 0 72 ≤ I27 0 72) ∧ (I27 0 6 = I 0 6) ∧ (I27 0 59 - I27 0 72 ≤ I 0 59 - I 0 72)) → (gr_ATp β N9 p_29 I27 J28) → ((gs_snd β N9 I J (I 0 78) p9) = gs_snd3 β N9 I J (I 0 78) p_29) → ((∀ k, I27 16 k = I 16 k)) → gv_X (gr_E ws0 tb 12 (yX13_sound, cX13_sound, 6, (some .boolean)) kX13_sound) (gv_Q cX13_sound (some .boolean) (gr_sh ++ ext) (fun r h' => (∃ (I' : gr_I) (J' : gr_J), h' = gr_h I' J' ∧ gr_Inv I' ∧ gr_fr [59, 71, 72, 73, 74, 75, 76, 77, 104] [16, 27, 28, 29, 30, 51, 63] I I' ∧ gr_fj [59, 71, 72, 73, 74, 75, 76, 77, 104] [16, 27, 28, 29, 30, 51, 63] J J' ∧ (∃ z : Int, r = some (.inl z) ∧ 0 ≤ z ∧ z ≤ 1 ∧ (I' 0 71 = 5 ∨ I' 0 73 ≤ I' 0 69) ∧ (I' 0 72 ≤ I' 0 69) ∧ (I' 0 71 = 0 ∨ (I' 0 72 < I' 0 73 ∧ I' 0 72 < I' 0 69)) ∧ (I' 0 71 = 3 → 2 ≤ I' 0 73 - I' 0 72 ∧ I' 0 73 - I' 0 72 ≤ 14) ∧ (I' 0 72 ≤ I' 0 73) ∧ (I' 0 69 = I 0 69) ∧ (I 0 73 ≤ I' 0 73) ∧ (I 0 72 ≤ I' 0 72) ∧ (I' 0 59 - I' 0 72 ≤ I 0 59 - I 0 72) ∧ (gs_Or z (0 ≤ (gs_snd β N9 I J (I 0 78) p9) ∧ gr_ATp β N9 (gs_snd β N9 I J (I 0 78) p9) I' J' ∧ (I' 16 (Int.toNat (I 0 6)) = I 16 (Int.toNat (I 0 6)) + 1 ∧ ∀ j, ¬ j = (Int.toNat (I 0 6)) → I' 16 j = I 16 j)) ((gs_snd β N9 I J (I 0 78) p9) < 0 ∧ I' 0 77 = -1 - (gs_snd β N9 I J (I 0 78) p9) ∧ ∀ j, I' 16 j = I 16 j)))))) (87, [(0, .inr (.inr (some 0))), (1, .inl (I 0 6)), (2, .inl v2_18), (3, .inl v3_29), (4, .inl v4_29)], [], gr_sh ++ ext, gr_h I27 J28) := by
        intro n
        induction n with
        | zero => intro I27 J28 v3_29 v4_29 p_29 hn; omega
        | succ n ih87 =>
          intro I27 J28 v3_29 v4_29 p_29 hn hI27 FI27 FJ28 m_29 e1_29 e2_29 e3_29
          clear h_I_0_6__18 hv2_18 e0_18 e4_18 e5_18 e6_18 e7_18 e8_18 e9_18 e10_18 f19 f20 f21 f22 f23 f24 f25 t26
          obtain ⟨h_I_0_6__29, hv2_18_29, hv3_29, hv4_29, e0_29, e4_29, e5_29, e6_29, e7_29, e8_29, e9_29, e10_29⟩ := m_29
          have f30 := (show 0 ≤ I27 0 71 ∧ I27 0 71 ≤ 5 from (hI27 0 71).1)
          have f31 := (show 0 ≤ I27 0 72 ∧ I27 0 72 ≤ 1000 from (hI27 0 72).1)
          have f32 := (show 0 ≤ I27 0 73 ∧ I27 0 73 ≤ 1001 from (hI27 0 73).1)
          have f33 := (show 0 ≤ I27 0 69 ∧ I27 0 69 ≤ 1000 from (hI27 0 69).1)
          have f34 := (show (-1) ≤ I27 0 6 ∧ I27 0 6 ≤ 7 from (hI27 0 6).1)
          have f35 := (show 0 ≤ I27 0 59 ∧ I27 0 59 ≤ 2000 from (hI27 0 59).1)
          have f36 := (show (-2147483648) ≤ I27 0 104 ∧ I27 0 104 ≤ 2147483647 from (hI27 0 104).1)
          have t37 := gr_ATp_l e1_29
          have L150 : ∀ (I38 : gr_I) (J39 : gr_J) (p_40 : Int), gr_Inv I38 → gr_fr [59, 71, 72, 73, 74, 75, 76, 77, 104] [16, 27, 28, 29, 30, 51, 63] I I38 → gr_fj [59, 71, 72, 73, 74, 75, 76, 77, 104] [16, 27, 28, 29, 30, 51, 63] J J39 → ((0 ≤ (I 0 6) ∧ (I 0 6) ≤ 7) ∧ ((-16) ≤ v2_18 ∧ v2_18 ≤ 32015) ∧ (0 ≤ v3_29 ∧ v3_29 ≤ 32015) ∧ (0 ≤ p_40) ∧ (I38 0 72 ≤ I38 0 69) ∧ (I38 0 72 ≤ I38 0 73) ∧ (I38 0 69 = I 0 69) ∧ (I 0 73 ≤ I38 0 73) ∧ (I 0 72 ≤ I38 0 72) ∧ (I38 0 6 = I 0 6) ∧ (I38 0 59 - I38 0 72 ≤ I 0 59 - I 0 72)) → (gr_ATp β N9 p_40 I38 J39) → ((gs_snd β N9 I J (I 0 78) p9) = gs_snd6 β N9 I (I 0 78) p_40) → ((∀ k, I38 16 k = I 16 k)) → gv_X (gr_E ws0 tb 12 (yX13_sound, cX13_sound, 6, (some .boolean)) kX13_sound) (gv_Q cX13_sound (some .boolean) (gr_sh ++ ext) (fun r h' => (∃ (I' : gr_I) (J' : gr_J), h' = gr_h I' J' ∧ gr_Inv I' ∧ gr_fr [59, 71, 72, 73, 74, 75, 76, 77, 104] [16, 27, 28, 29, 30, 51, 63] I I' ∧ gr_fj [59, 71, 72, 73, 74, 75, 76, 77, 104] [16, 27, 28, 29, 30, 51, 63] J J' ∧ (∃ z : Int, r = some (.inl z) ∧ 0 ≤ z ∧ z ≤ 1 ∧ (I' 0 71 = 5 ∨ I' 0 73 ≤ I' 0 69) ∧ (I' 0 72 ≤ I' 0 69) ∧ (I' 0 71 = 0 ∨ (I' 0 72 < I' 0 73 ∧ I' 0 72 < I' 0 69)) ∧ (I' 0 71 = 3 → 2 ≤ I' 0 73 - I' 0 72 ∧ I' 0 73 - I' 0 72 ≤ 14) ∧ (I' 0 72 ≤ I' 0 73) ∧ (I' 0 69 = I 0 69) ∧ (I 0 73 ≤ I' 0 73) ∧ (I 0 72 ≤ I' 0 72) ∧ (I' 0 59 - I' 0 72 ≤ I 0 59 - I 0 72) ∧ (gs_Or z (0 ≤ (gs_snd β N9 I J (I 0 78) p9) ∧ gr_ATp β N9 (gs_snd β N9 I J (I 0 78) p9) I' J' ∧ (I' 16 (Int.toNat (I 0 6)) = I 16 (Int.toNat (I 0 6)) + 1 ∧ ∀ j, ¬ j = (Int.toNat (I 0 6)) → I' 16 j = I 16 j)) ((gs_snd β N9 I J (I 0 78) p9) < 0 ∧ I' 0 77 = -1 - (gs_snd β N9 I J (I 0 78) p9) ∧ ∀ j, I' 16 j = I 16 j)))))) (150, [(0, .inr (.inr (some 0))), (1, .inl (I 0 6)), (2, .inl v2_18), (3, .inl v3_29)], [], gr_sh ++ ext, gr_h I38 J39) := by
            intro I38 J39 p_40 hI38 FI38 FJ39 m_40 e1_40 e2_40 e3_40
            clear h_I_0_6__29 hv2_18_29 hv3_29 hv4_29 e0_29 e4_29 e5_29 e6_29 e7_29 e8_29 e9_29 e10_29 f30 f31 f32 f33 f34 f35 f36 t37
            obtain ⟨h_I_0_6__40, hv2_18_40, hv3_29_40, e0_40, e4_40, e5_40, e6_40, e7_40, e8_40, e9_40, e10_40⟩ := m_40
            have f41 := (show 0 ≤ I38 0 71 ∧ I38 0 71 ≤ 5 from (hI38 0 71).1)
            have f42 := (show 0 ≤ I38 0 72 ∧ I38 0 72 ≤ 1000 from (hI38 0 72).1)
            have f43 := (show 0 ≤ I38 0 73 ∧ I38 0 73 ≤ 1001 from (hI38 0 73).1)
            have f44 := (show 0 ≤ I38 0 69 ∧ I38 0 69 ≤ 1000 from (hI38 0 69).1)
            have f45 := (show (-1) ≤ I38 0 6 ∧ I38 0 6 ≤ 7 from (hI38 0 6).1)
            have f46 := (show 0 ≤ I38 0 59 ∧ I38 0 59 ≤ 2000 from (hI38 0 59).1)
            have f47 := (show (-2147483648) ≤ I38 0 104 ∧ I38 0 104 ≤ 2147483647 from (hI38 0 104).1)
            have t48 := gr_ATp_l e1_40
            have L212 : ∀ (n : Nat) (I49 : gr_I) (J50 : gr_J) (v4_51 : Int) (v5_51 : Int) (p_51 : Int), (4 - v5_51).toNat < n → gr_Inv I49 → gr_fr [59, 71, 72, 73, 74, 75, 76, 77, 104] [16, 27, 28, 29, 30, 51, 63] I I49 → gr_fj [59, 71, 72, 73, 74, 75, 76, 77, 104] [16, 27, 28, 29, 30, 51, 63] J J50 → ((0 ≤ v4_51 ∧ v4_51 ≤ 191) ∧ (0 ≤ v5_51 ∧ v5_51 ≤ 3) ∧ (0 ≤ p_51) ∧ (I49 0 72 ≤ I49 0 69) ∧ (I49 0 72 ≤ I49 0 73) ∧ (I49 0 69 = I 0 69) ∧ (I 0 73 ≤ I49 0 73) ∧ (I 0 72 ≤ I49 0 72) ∧ (I49 0 6 = I 0 6) ∧ (I49 0 59 - I49 0 72 ≤ I 0 59 - I 0 72)) → (gr_ATp β N9 p_51 I49 J50) → ((gs_snd β N9 I J (I 0 78) p9) = p_51) → ((I49 16 (Int.toNat (I 0 6)) = I 16 (Int.toNat (I 0 6)) + 1 ∧ ∀ j, ¬ j = (Int.toNat (I 0 6)) → I49 16 j = I 16 j)) → gv_X (gr_E ws0 tb 12 (yX13_sound, cX13_sound, 6, (some .boolean)) kX13_sound) (gv_Q cX13_sound (some .boolean) (gr_sh ++ ext) (fun r h' => (∃ (I' : gr_I) (J' : gr_J), h' = gr_h I' J' ∧ gr_Inv I' ∧ gr_fr [59, 71, 72, 73, 74, 75, 76, 77, 104] [16, 27, 28, 29, 30, 51, 63] I I' ∧ gr_fj [59, 71, 72, 73, 74, 75, 76, 77, 104] [16, 27, 28, 29, 30, 51, 63] J J' ∧ (∃ z : Int, r = some (.inl z) ∧ 0 ≤ z ∧ z ≤ 1 ∧ (I' 0 71 = 5 ∨ I' 0 73 ≤ I' 0 69) ∧ (I' 0 72 ≤ I' 0 69) ∧ (I' 0 71 = 0 ∨ (I' 0 72 < I' 0 73 ∧ I' 0 72 < I' 0 69)) ∧ (I' 0 71 = 3 → 2 ≤ I' 0 73 - I' 0 72 ∧ I' 0 73 - I' 0 72 ≤ 14) ∧ (I' 0 72 ≤ I' 0 73) ∧ (I' 0 69 = I 0 69) ∧ (I 0 73 ≤ I' 0 73) ∧ (I 0 72 ≤ I' 0 72) ∧ (I' 0 59 - I' 0 72 ≤ I 0 59 - I 0 72) ∧ (gs_Or z (0 ≤ (gs_snd β N9 I J (I 0 78) p9) ∧ gr_ATp β N9 (gs_snd β N9 I J (I 0 78) p9) I' J' ∧ (I' 16 (Int.toNat (I 0 6)) = I 16 (Int.toNat (I 0 6)) + 1 ∧ ∀ j, ¬ j = (Int.toNat (I 0 6)) → I' 16 j = I 16 j)) ((gs_snd β N9 I J (I 0 78) p9) < 0 ∧ I' 0 77 = -1 - (gs_snd β N9 I J (I 0 78) p9) ∧ ∀ j, I' 16 j = I 16 j)))))) (212, [(0, .inr (.inr (some 0))), (4, .inl v4_51), (5, .inl v5_51)], [], gr_sh ++ ext, gr_h I49 J50) := by
              intro n
              induction n with
              | zero => intro I49 J50 v4_51 v5_51 p_51 hn; omega
              | succ n ih212 =>
                intro I49 J50 v4_51 v5_51 p_51 hn hI49 FI49 FJ50 m_51 e1_51 e2_51 e3_51
                clear h_I_0_6__40 hv2_18_40 hv3_29_40 e0_40 e4_40 e5_40 e6_40 e7_40 e8_40 e9_40 e10_40 f41 f42 f43 f44 f45 f46 f47 t48
                obtain ⟨hv4_51, hv5_51, e0_51, e4_51, e5_51, e6_51, e7_51, e8_51, e9_51, e10_51⟩ := m_51
                have f52 := (show 0 ≤ I49 0 71 ∧ I49 0 71 ≤ 5 from (hI49 0 71).1)
                have f53 := (show 0 ≤ I49 0 72 ∧ I49 0 72 ≤ 1000 from (hI49 0 72).1)
                have f54 := (show 0 ≤ I49 0 73 ∧ I49 0 73 ≤ 1001 from (hI49 0 73).1)
                have f55 := (show 0 ≤ I49 0 69 ∧ I49 0 69 ≤ 1000 from (hI49 0 69).1)
                have f56 := (show (-1) ≤ I49 0 6 ∧ I49 0 6 ≤ 7 from (hI49 0 6).1)
                have f57 := (show 0 ≤ I49 0 59 ∧ I49 0 59 ≤ 2000 from (hI49 0 59).1)
                have f58 := (show (-2147483648) ≤ I49 0 104 ∧ I49 0 104 ≤ 2147483647 from (hI49 0 104).1)
                have t59 := gr_ATp_l e1_51
                refine gv_run 2 true hD (pc' := 215) (lv' := [(0, .inr (.inr (some 0))), (4, .inl v4_51), (5, .inl v5_51)]) (st' := [.inl 3, .inl v5_51]) (h' := gr_h I49 J50) (C := ((True ∧ True) ∧ True)) rfl ⟨⟨trivial, trivial⟩, trivial⟩ ?_
                refine gv_icmp_ge (t := 264) hD rfl rfl ⟨⟨by omega, by omega⟩, ⟨by omega, by omega⟩⟩ (fun c60 => ?_) (fun c60 => ?_)
                · refine gv_run 1 true hD (pc' := 265) (lv' := [(0, .inr (.inr (some 0))), (4, .inl v4_51), (5, .inl v5_51)]) (st' := [.inl 1]) (h' := gr_h I49 J50) (C := (True ∧ True)) rfl ⟨trivial, trivial⟩ ?_
                  have b61 : (I49 0 69 = I 0 69) ∧ (I 0 73 ≤ I49 0 73) ∧ (I 0 72 ≤ I49 0 72) ∧ (I49 0 59 - I49 0 72 ≤ I 0 59 - I 0 72) := by omega
                  exact gv_zret hD rfl (by omega) ⟨I49, J50, rfl, hI49, FI49, FJ50, ⟨_, rfl, by omega, by omega, (gr_ATp_rr e1_51).1, (gr_ATp_rr e1_51).2.1, (gr_ATp_rr e1_51).2.2.1, (gr_ATp_rr e1_51).2.2.2.1, (gr_ATp_rr e1_51).2.2.2.2, b61.1, b61.2.1, b61.2.2.1, b61.2.2.2, (Or.inl ⟨by omega, by rw [e2_51]; exact ⟨by omega, e1_51, e3_51⟩⟩)⟩⟩
                · refine gv_run 7 true hD (pc' := 229) (lv' := [(0, .inr (.inr (some 0))), (4, .inl v4_51), (5, .inl v5_51)]) (st' := [.inl ((3 * v4_51) + v5_51), .inr (.inr (some 29))]) (h' := gr_h I49 J50) (C := (((((((True ∧ True) ∧ True) ∧ True) ∧ True) ∧ True) ∧ True) ∧ True)) rfl ⟨⟨⟨⟨⟨⟨⟨trivial, trivial⟩, trivial⟩, trivial⟩, trivial⟩, trivial⟩, trivial⟩, trivial⟩ ?_
                  have f62 := (show ((-2147483648) ≤ I49 63 (Int.toNat v5_51) ∧ I49 63 (Int.toNat v5_51) ≤ 2147483647) ∧ ((I49 63 (Int.toNat v5_51)) = -2147483648 ∨ (I49 63 (Int.toNat v5_51)) = 2147483647 ∨ -16 ≤ (I49 63 (Int.toNat v5_51)) ∧ (I49 63 (Int.toNat v5_51)) ≤ 32015) from hI49 63 (Int.toNat v5_51))
                  refine gv_run 4 true hD (pc' := 236) (lv' := [(0, .inr (.inr (some 0))), (4, .inl v4_51), (5, .inl v5_51)]) (st' := [.inl (I49 63 (Int.toNat v5_51)), .inl ((3 * v4_51) + v5_51), .inr (.inr (some 29))]) (h' := gr_h I49 J50) (C := ((((True ∧ True) ∧ True) ∧ True) ∧ (0 ≤ v5_51 ∧ v5_51 < ((6 : Nat) : Int)))) rfl ⟨⟨⟨⟨trivial, trivial⟩, trivial⟩, trivial⟩, ⟨by omega, by omega⟩⟩ ?_
                  refine gv_run 1 true hD (pc' := 237) (lv' := [(0, .inr (.inr (some 0))), (4, .inl v4_51), (5, .inl v5_51)]) (st' := []) (h' := gz_up (gr_h I49 J50) 29 (Int.toNat (((3 * v4_51) + v5_51))) (.inl ((I49 63 (Int.toNat v5_51))))) (C := (True ∧ (0 ≤ (((3 * v4_51) + v5_51)) ∧ (((3 * v4_51) + v5_51)) < ((576 : Nat) : Int)))) rfl ⟨trivial, ⟨by omega, by omega⟩⟩ ?_
                  refine gr_st hI49 FI49 rfl rfl ⟨⟨by show (-2147483648) ≤ _; omega, by show _ ≤ 2147483647; omega⟩, by show (((I49 63 (Int.toNat v5_51))) = -2147483648 ∨ ((I49 63 (Int.toNat v5_51))) = 2147483647 ∨ -16 ≤ ((I49 63 (Int.toNat v5_51))) ∧ ((I49 63 (Int.toNat v5_51))) ≤ 32015); omega⟩ (fun I63 hI63 FI63 q64 p64 => ?_)
                  have t65 := p64 0 71 (fun q => absurd q.1 (by decide))
                  have t66 := p64 0 72 (fun q => absurd q.1 (by decide))
                  have t67 := p64 0 73 (fun q => absurd q.1 (by decide))
                  have t68 := p64 0 69 (fun q => absurd q.1 (by decide))
                  have t69 := p64 0 6 (fun q => absurd q.1 (by decide))
                  have t70 := p64 0 59 (fun q => absurd q.1 (by decide))
                  have t71 := p64 0 104 (fun q => absurd q.1 (by decide))
                  have f72 := (show 0 ≤ I63 0 71 ∧ I63 0 71 ≤ 5 from (hI63 0 71).1)
                  have f73 := (show 0 ≤ I63 0 72 ∧ I63 0 72 ≤ 1000 from (hI63 0 72).1)
                  have f74 := (show 0 ≤ I63 0 73 ∧ I63 0 73 ≤ 1001 from (hI63 0 73).1)
                  have f75 := (show 0 ≤ I63 0 69 ∧ I63 0 69 ≤ 1000 from (hI63 0 69).1)
                  have f76 := (show (-1) ≤ I63 0 6 ∧ I63 0 6 ≤ 7 from (hI63 0 6).1)
                  have f77 := (show 0 ≤ I63 0 59 ∧ I63 0 59 ≤ 2000 from (hI63 0 59).1)
                  have f78 := (show (-2147483648) ≤ I63 0 104 ∧ I63 0 104 ≤ 2147483647 from (hI63 0 104).1)
                  have A79 := gr_ATp_sr e1_51 p64 rfl
                  refine gv_run 7 true hD (pc' := 248) (lv' := [(0, .inr (.inr (some 0))), (4, .inl v4_51), (5, .inl v5_51)]) (st' := [.inl ((3 * v4_51) + v5_51), .inr (.inr (some 30))]) (h' := gr_h I63 J50) (C := (((((((True ∧ True) ∧ True) ∧ True) ∧ True) ∧ True) ∧ True) ∧ True)) rfl ⟨⟨⟨⟨⟨⟨⟨trivial, trivial⟩, trivial⟩, trivial⟩, trivial⟩, trivial⟩, trivial⟩, trivial⟩ ?_
                  have f80 := (show ((-2147483648) ≤ I63 63 (Int.toNat ((3 + v5_51))) ∧ I63 63 (Int.toNat ((3 + v5_51))) ≤ 2147483647) ∧ ((I63 63 (Int.toNat ((3 + v5_51)))) = -2147483648 ∨ (I63 63 (Int.toNat ((3 + v5_51)))) = 2147483647 ∨ -16 ≤ (I63 63 (Int.toNat ((3 + v5_51)))) ∧ (I63 63 (Int.toNat ((3 + v5_51)))) ≤ 32015) from hI63 63 (Int.toNat ((3 + v5_51))))
                  refine gv_run 6 true hD (pc' := 257) (lv' := [(0, .inr (.inr (some 0))), (4, .inl v4_51), (5, .inl v5_51)]) (st' := [.inl (I63 63 (Int.toNat ((3 + v5_51)))), .inl ((3 * v4_51) + v5_51), .inr (.inr (some 30))]) (h' := gr_h I63 J50) (C := ((((((True ∧ True) ∧ True) ∧ True) ∧ True) ∧ True) ∧ (0 ≤ (3 + v5_51) ∧ (3 + v5_51) < ((6 : Nat) : Int)))) rfl ⟨⟨⟨⟨⟨⟨trivial, trivial⟩, trivial⟩, trivial⟩, trivial⟩, trivial⟩, ⟨by omega, by omega⟩⟩ ?_
                  refine gv_run 1 true hD (pc' := 258) (lv' := [(0, .inr (.inr (some 0))), (4, .inl v4_51), (5, .inl v5_51)]) (st' := []) (h' := gz_up (gr_h I63 J50) 30 (Int.toNat (((3 * v4_51) + v5_51))) (.inl ((I63 63 (Int.toNat ((3 + v5_51))))))) (C := (True ∧ (0 ≤ (((3 * v4_51) + v5_51)) ∧ (((3 * v4_51) + v5_51)) < ((576 : Nat) : Int)))) rfl ⟨trivial, ⟨by omega, by omega⟩⟩ ?_
                  refine gr_st hI63 FI63 rfl rfl ⟨⟨by show (-2147483648) ≤ _; omega, by show _ ≤ 2147483647; omega⟩, by show (((I63 63 (Int.toNat ((3 + v5_51))))) = -2147483648 ∨ ((I63 63 (Int.toNat ((3 + v5_51))))) = 2147483647 ∨ -16 ≤ ((I63 63 (Int.toNat ((3 + v5_51))))) ∧ ((I63 63 (Int.toNat ((3 + v5_51))))) ≤ 32015); omega⟩ (fun I81 hI81 FI81 q82 p82 => ?_)
                  have t83 := p82 0 71 (fun q => absurd q.1 (by decide))
                  have t84 := p82 0 72 (fun q => absurd q.1 (by decide))
                  have t85 := p82 0 73 (fun q => absurd q.1 (by decide))
                  have t86 := p82 0 69 (fun q => absurd q.1 (by decide))
                  have t87 := p82 0 6 (fun q => absurd q.1 (by decide))
                  have t88 := p82 0 59 (fun q => absurd q.1 (by decide))
                  have t89 := p82 0 104 (fun q => absurd q.1 (by decide))
                  have f90 := (show 0 ≤ I81 0 71 ∧ I81 0 71 ≤ 5 from (hI81 0 71).1)
                  have f91 := (show 0 ≤ I81 0 72 ∧ I81 0 72 ≤ 1000 from (hI81 0 72).1)
                  have f92 := (show 0 ≤ I81 0 73 ∧ I81 0 73 ≤ 1001 from (hI81 0 73).1)
                  have f93 := (show 0 ≤ I81 0 69 ∧ I81 0 69 ≤ 1000 from (hI81 0 69).1)
                  have f94 := (show (-1) ≤ I81 0 6 ∧ I81 0 6 ≤ 7 from (hI81 0 6).1)
                  have f95 := (show 0 ≤ I81 0 59 ∧ I81 0 59 ≤ 2000 from (hI81 0 59).1)
                  have f96 := (show (-2147483648) ≤ I81 0 104 ∧ I81 0 104 ≤ 2147483647 from (hI81 0 104).1)
                  have A97 := gr_ATp_sr A79 p82 rfl
                  refine gv_run 2 true hD (pc' := 212) (lv' := [(5, .inl (v5_51 + 1)), (0, .inr (.inr (some 0))), (4, .inl v4_51)]) (st' := []) (h' := gr_h I81 J50) (C := ((True ∧ True) ∧ True)) rfl ⟨⟨trivial, trivial⟩, trivial⟩ ?_
                  refine gv_pick [1, 2, 0] rfl ?_
                  exact ih212 I81 J50 v4_51 (v5_51 + 1) p_51 (by omega) hI81 FI81 FJ50 (by omega) A97 e2_51 (by have y9 : ∀ j, I81 16 j = I49 16 j := fun j => ((p82 16 j (fun q => absurd q.1 (by decide))).trans (p64 16 j (fun q => absurd q.1 (by decide)))); exact ⟨(y9 _).trans e3_51.1, fun j hj => (y9 j).trans (e3_51.2 j hj)⟩)
            have f98 := (show 0 ≤ I38 16 (Int.toNat ((I 0 6))) ∧ I38 16 (Int.toNat ((I 0 6))) ≤ 24 from (hI38 16 (Int.toNat ((I 0 6)))).1)
            refine gv_run 5 true hD (pc' := 157) (lv' := [(0, .inr (.inr (some 0))), (1, .inl (I 0 6)), (2, .inl v2_18), (3, .inl v3_29)]) (st' := [.inl (I38 16 (Int.toNat ((I 0 6)))), .inr (.inr (some 0))]) (h' := gr_h I38 J39) (C := (((((True ∧ True) ∧ True) ∧ True) ∧ True) ∧ (0 ≤ (I 0 6) ∧ (I 0 6) < ((8 : Nat) : Int)))) rfl ⟨⟨⟨⟨⟨trivial, trivial⟩, trivial⟩, trivial⟩, trivial⟩, ⟨by omega, by omega⟩⟩ ?_
            refine gv_run 1 true hD (pc' := 159) (lv' := [(0, .inr (.inr (some 0))), (1, .inl (I 0 6)), (2, .inl v2_18), (3, .inl v3_29)]) (st' := [.inl 24, .inl (I38 16 (Int.toNat ((I 0 6)))), .inr (.inr (some 0))]) (h' := gr_h I38 J39) (C := (True ∧ True)) rfl ⟨trivial, trivial⟩ ?_
            have t99 := (show I38 16 (Int.toNat (I 0 6)) = I 16 (Int.toNat (I 0 6)) from (e3_40 _))
            refine gv_icmp_ge (t := 166) hD rfl rfl ⟨⟨by omega, by omega⟩, ⟨by omega, by omega⟩⟩ (fun c100 => ?_) (fun c100 => ?_)
            · refine gv_run 1 true hD (pc' := 167) (lv' := [(0, .inr (.inr (some 0))), (1, .inl (I 0 6)), (2, .inl v2_18), (3, .inl v3_29)]) (st' := [.inl 0, .inr (.inr (some 0))]) (h' := gr_h I38 J39) (C := (True ∧ True)) rfl ⟨trivial, trivial⟩ ?_
              obtain ⟨r101, h101, E101, P101⟩ := r_done_p (ws0 := ws0) (tb := tb) hws htb ext β N9 p_40 I38 J39 hI38 0 ⟨by omega, by omega⟩ (gr_ATp_rr e1_40).1 (gr_ATp_rr e1_40).2.1 (gr_ATp_rr e1_40).2.2.1 (gr_ATp_rr e1_40).2.2.2.1 (gr_ATp_rr e1_40).2.2.2.2 e1_40 (by omega)
              obtain ⟨I102, J103, rfl, hI102, g101, k101, ⟨z101, rfl, q101⟩⟩ := P101
              have FI102 := gr_frt FI38 g101 rfl rfl
              have FJ103 := gr_fjt FJ39 k101 rfl rfl
              have t104 := g101 0 69 rfl
              have t105 := g101 0 6 rfl
              have t106 := g101 0 59 rfl
              have t107 := g101 0 104 rfl
              have t108 := g101 16 (Int.toNat ((I 0 6))) rfl
              have f109 := (show 0 ≤ I102 0 71 ∧ I102 0 71 ≤ 5 from (hI102 0 71).1)
              have f110 := (show 0 ≤ I102 0 72 ∧ I102 0 72 ≤ 1000 from (hI102 0 72).1)
              have f111 := (show 0 ≤ I102 0 73 ∧ I102 0 73 ≤ 1001 from (hI102 0 73).1)
              have f112 := (show 0 ≤ I102 0 69 ∧ I102 0 69 ≤ 1000 from (hI102 0 69).1)
              have f113 := (show (-1) ≤ I102 0 6 ∧ I102 0 6 ≤ 7 from (hI102 0 6).1)
              have f114 := (show 0 ≤ I102 0 59 ∧ I102 0 59 ≤ 2000 from (hI102 0 59).1)
              have f115 := (show (-2147483648) ≤ I102 0 104 ∧ I102 0 104 ≤ 2147483647 from (hI102 0 104).1)
              refine gv_callV hD rfl (As := [.inl 0]) (st := []) rfl (by decide) rfl rfl (gr_lV hws rfl) (Nat.le_of_ble_eq_true rfl) (gz_Ev_mono (d := 11) (by decide) E101) ?_
              show gv_X _ _ (170, [(0, .inr (.inr (some 0))), (1, .inl (I 0 6)), (2, .inl v2_18), (3, .inl v3_29)], [.inl z101], gr_sh ++ ext, gr_h I102 J103)
              refine gv_if_ne (t := 175) hD rfl rfl ⟨by omega, by omega⟩ (fun c116 => ?_) (fun c116 => ?_)
              · have Q117 := q101.2.2.2.2.2.2.2.2.2.2.2.2
                rw [FI38 0 78 rfl] at Q117
                obtain ⟨u117, A117⟩ := gs_or1 Q117 (by omega)
                have t118 := gr_ATp_l A117
                have t119 := (q101.2.2.2.2.2.2.2.2.2.2.1).resolve_left (by omega)
                have t120 := (q101.2.2.2.2.2.2.2.2.2.2.2.1).resolve_left (by omega)
                obtain ⟨_, _, -, _, -, -, _, _, _, _, -, -, -⟩ := q101
                refine gv_run 7 true hD (pc' := 185) (lv' := [(0, .inr (.inr (some 0))), (1, .inl (I 0 6)), (2, .inl v2_18), (3, .inl v3_29)]) (st' := [.inl (I 0 6), .inr (.inr (some 16)), .inl (I 0 6), .inr (.inr (some 16)), .inl (24 * (I 0 6))]) (h' := gr_h I102 J103) (C := (((((((True ∧ True) ∧ True) ∧ True) ∧ True) ∧ True) ∧ True) ∧ True)) rfl ⟨⟨⟨⟨⟨⟨⟨trivial, trivial⟩, trivial⟩, trivial⟩, trivial⟩, trivial⟩, trivial⟩, trivial⟩ ?_
                have f121 := (show 0 ≤ I102 16 (Int.toNat ((I 0 6))) ∧ I102 16 (Int.toNat ((I 0 6))) ≤ 24 from (hI102 16 (Int.toNat ((I 0 6)))).1)
                refine gv_run 1 true hD (pc' := 186) (lv' := [(0, .inr (.inr (some 0))), (1, .inl (I 0 6)), (2, .inl v2_18), (3, .inl v3_29)]) (st' := [.inl (I102 16 (Int.toNat ((I 0 6)))), .inl (I 0 6), .inr (.inr (some 16)), .inl (24 * (I 0 6))]) (h' := gr_h I102 J103) (C := (True ∧ (0 ≤ (I 0 6) ∧ (I 0 6) < ((8 : Nat) : Int)))) rfl ⟨trivial, ⟨by omega, by omega⟩⟩ ?_
                refine gv_run 3 true hD (pc' := 189) (lv' := [(0, .inr (.inr (some 0))), (1, .inl (I 0 6)), (2, .inl v2_18), (3, .inl v3_29)]) (st' := [.inl ((I102 16 (Int.toNat ((I 0 6)))) + 1), .inl (I 0 6), .inr (.inr (some 16)), .inl (I102 16 (Int.toNat ((I 0 6)))), .inl (24 * (I 0 6))]) (h' := gr_h I102 J103) (C := (((True ∧ True) ∧ True) ∧ True)) rfl ⟨⟨⟨trivial, trivial⟩, trivial⟩, trivial⟩ ?_
                refine gv_run 1 true hD (pc' := 190) (lv' := [(0, .inr (.inr (some 0))), (1, .inl (I 0 6)), (2, .inl v2_18), (3, .inl v3_29)]) (st' := [.inl (I102 16 (Int.toNat ((I 0 6)))), .inl (24 * (I 0 6))]) (h' := gz_up (gr_h I102 J103) 16 (Int.toNat ((I 0 6))) (.inl (((I102 16 (Int.toNat ((I 0 6)))) + 1)))) (C := (True ∧ (0 ≤ (I 0 6) ∧ (I 0 6) < ((8 : Nat) : Int)))) rfl ⟨trivial, ⟨by omega, by omega⟩⟩ ?_
                refine gr_st hI102 FI102 rfl rfl ⟨⟨by show 0 ≤ _; omega, by show _ ≤ 24; omega⟩, trivial⟩ (fun I122 hI122 FI122 q123 p123 => ?_)
                have t124 := p123 0 71 (fun q => absurd q.1 (by decide))
                have t125 := p123 0 72 (fun q => absurd q.1 (by decide))
                have t126 := p123 0 73 (fun q => absurd q.1 (by decide))
                have t127 := p123 0 69 (fun q => absurd q.1 (by decide))
                have t128 := p123 0 6 (fun q => absurd q.1 (by decide))
                have t129 := p123 0 59 (fun q => absurd q.1 (by decide))
                have t130 := p123 0 104 (fun q => absurd q.1 (by decide))
                have f131 := (show 0 ≤ I122 0 71 ∧ I122 0 71 ≤ 5 from (hI122 0 71).1)
                have f132 := (show 0 ≤ I122 0 72 ∧ I122 0 72 ≤ 1000 from (hI122 0 72).1)
                have f133 := (show 0 ≤ I122 0 73 ∧ I122 0 73 ≤ 1001 from (hI122 0 73).1)
                have f134 := (show 0 ≤ I122 0 69 ∧ I122 0 69 ≤ 1000 from (hI122 0 69).1)
                have f135 := (show (-1) ≤ I122 0 6 ∧ I122 0 6 ≤ 7 from (hI122 0 6).1)
                have f136 := (show 0 ≤ I122 0 59 ∧ I122 0 59 ≤ 2000 from (hI122 0 59).1)
                have f137 := (show (-2147483648) ≤ I122 0 104 ∧ I122 0 104 ≤ 2147483647 from (hI122 0 104).1)
                have A138 := gr_ATp_sr A117 p123 rfl
                refine gv_run 6 true hD (pc' := 200) (lv' := [(4, .inl ((24 * (I 0 6)) + (I102 16 (Int.toNat ((I 0 6)))))), (0, .inr (.inr (some 0))), (1, .inl (I 0 6)), (2, .inl v2_18), (3, .inl v3_29)]) (st' := [.inl v2_18, .inl ((24 * (I 0 6)) + (I102 16 (Int.toNat ((I 0 6))))), .inr (.inr (some 27))]) (h' := gr_h I122 J103) (C := ((((((True ∧ True) ∧ True) ∧ True) ∧ True) ∧ True) ∧ True)) rfl ⟨⟨⟨⟨⟨⟨trivial, trivial⟩, trivial⟩, trivial⟩, trivial⟩, trivial⟩, trivial⟩ ?_
                refine gv_run 1 true hD (pc' := 201) (lv' := [(4, .inl ((24 * (I 0 6)) + (I102 16 (Int.toNat ((I 0 6)))))), (0, .inr (.inr (some 0))), (1, .inl (I 0 6)), (2, .inl v2_18), (3, .inl v3_29)]) (st' := []) (h' := gz_up (gr_h I122 J103) 27 (Int.toNat (((24 * (I 0 6)) + (I102 16 (Int.toNat ((I 0 6))))))) (.inl v2_18)) (C := (True ∧ (0 ≤ (((24 * (I 0 6)) + (I102 16 (Int.toNat ((I 0 6)))))) ∧ (((24 * (I 0 6)) + (I102 16 (Int.toNat ((I 0 6)))))) < ((192 : Nat) : Int)))) rfl ⟨trivial, ⟨by omega, by omega⟩⟩ ?_
                refine gr_st hI122 FI122 rfl rfl ⟨⟨by show (-16) ≤ _; omega, by show _ ≤ 32015; omega⟩, trivial⟩ (fun I139 hI139 FI139 q140 p140 => ?_)
                have t141 := p140 0 71 (fun q => absurd q.1 (by decide))
                have t142 := p140 0 72 (fun q => absurd q.1 (by decide))
                have t143 := p140 0 73 (fun q => absurd q.1 (by decide))
                have t144 := p140 0 69 (fun q => absurd q.1 (by decide))
                have t145 := p140 0 6 (fun q => absurd q.1 (by decide))
                have t146 := p140 0 59 (fun q => absurd q.1 (by decide))
                have t147 := p140 0 104 (fun q => absurd q.1 (by decide))
                have t148 := p140 16 (Int.toNat ((I 0 6))) (fun q => absurd q.1 (by decide))
                have f149 := (show 0 ≤ I139 0 71 ∧ I139 0 71 ≤ 5 from (hI139 0 71).1)
                have f150 := (show 0 ≤ I139 0 72 ∧ I139 0 72 ≤ 1000 from (hI139 0 72).1)
                have f151 := (show 0 ≤ I139 0 73 ∧ I139 0 73 ≤ 1001 from (hI139 0 73).1)
                have f152 := (show 0 ≤ I139 0 69 ∧ I139 0 69 ≤ 1000 from (hI139 0 69).1)
                have f153 := (show (-1) ≤ I139 0 6 ∧ I139 0 6 ≤ 7 from (hI139 0 6).1)
                have f154 := (show 0 ≤ I139 0 59 ∧ I139 0 59 ≤ 2000 from (hI139 0 59).1)
                have f155 := (show (-2147483648) ≤ I139 0 104 ∧ I139 0 104 ≤ 2147483647 from (hI139 0 104).1)
                have A156 := gr_ATp_sr A138 p140 rfl
                refine gv_run 4 true hD (pc' := 208) (lv' := [(4, .inl ((24 * (I 0 6)) + (I102 16 (Int.toNat ((I 0 6)))))), (0, .inr (.inr (some 0))), (1, .inl (I 0 6)), (2, .inl v2_18), (3, .inl v3_29)]) (st' := [.inl v3_29, .inl ((24 * (I 0 6)) + (I102 16 (Int.toNat ((I 0 6))))), .inr (.inr (some 28))]) (h' := gr_h I139 J103) (C := ((((True ∧ True) ∧ True) ∧ True) ∧ True)) rfl ⟨⟨⟨⟨trivial, trivial⟩, trivial⟩, trivial⟩, trivial⟩ ?_
                refine gv_run 1 true hD (pc' := 209) (lv' := [(4, .inl ((24 * (I 0 6)) + (I102 16 (Int.toNat ((I 0 6)))))), (0, .inr (.inr (some 0))), (1, .inl (I 0 6)), (2, .inl v2_18), (3, .inl v3_29)]) (st' := []) (h' := gz_up (gr_h I139 J103) 28 (Int.toNat (((24 * (I 0 6)) + (I102 16 (Int.toNat ((I 0 6))))))) (.inl v3_29)) (C := (True ∧ (0 ≤ (((24 * (I 0 6)) + (I102 16 (Int.toNat ((I 0 6)))))) ∧ (((24 * (I 0 6)) + (I102 16 (Int.toNat ((I 0 6)))))) < ((192 : Nat) : Int)))) rfl ⟨trivial, ⟨by omega, by omega⟩⟩ ?_
                refine gr_st hI139 FI139 rfl rfl ⟨⟨by show 0 ≤ _; omega, by show _ ≤ 32015; omega⟩, trivial⟩ (fun I157 hI157 FI157 q158 p158 => ?_)
                have t159 := p158 0 71 (fun q => absurd q.1 (by decide))
                have t160 := p158 0 72 (fun q => absurd q.1 (by decide))
                have t161 := p158 0 73 (fun q => absurd q.1 (by decide))
                have t162 := p158 0 69 (fun q => absurd q.1 (by decide))
                have t163 := p158 0 6 (fun q => absurd q.1 (by decide))
                have t164 := p158 0 59 (fun q => absurd q.1 (by decide))
                have t165 := p158 0 104 (fun q => absurd q.1 (by decide))
                have t166 := p158 16 (Int.toNat ((I 0 6))) (fun q => absurd q.1 (by decide))
                have f167 := (show 0 ≤ I157 0 71 ∧ I157 0 71 ≤ 5 from (hI157 0 71).1)
                have f168 := (show 0 ≤ I157 0 72 ∧ I157 0 72 ≤ 1000 from (hI157 0 72).1)
                have f169 := (show 0 ≤ I157 0 73 ∧ I157 0 73 ≤ 1001 from (hI157 0 73).1)
                have f170 := (show 0 ≤ I157 0 69 ∧ I157 0 69 ≤ 1000 from (hI157 0 69).1)
                have f171 := (show (-1) ≤ I157 0 6 ∧ I157 0 6 ≤ 7 from (hI157 0 6).1)
                have f172 := (show 0 ≤ I157 0 59 ∧ I157 0 59 ≤ 2000 from (hI157 0 59).1)
                have f173 := (show (-2147483648) ≤ I157 0 104 ∧ I157 0 104 ≤ 2147483647 from (hI157 0 104).1)
                have A174 := gr_ATp_sr A156 p158 rfl
                refine gv_run 2 true hD (pc' := 212) (lv' := [(5, .inl 0), (4, .inl ((24 * (I 0 6)) + (I102 16 (Int.toNat ((I 0 6)))))), (0, .inr (.inr (some 0))), (1, .inl (I 0 6)), (2, .inl v2_18), (3, .inl v3_29)]) (st' := []) (h' := gr_h I157 J103) (C := ((True ∧ True) ∧ True)) rfl ⟨⟨trivial, trivial⟩, trivial⟩ ?_
                refine gv_pick [2, 1, 0] rfl ?_
                exact L212 _ I157 J103 (((24 * (I 0 6)) + (I102 16 (Int.toNat ((I 0 6)))))) 0 ((gs_done β N9 0 (I 0 78) p_40)) (Nat.lt_succ_self _) hI157 FI157 FJ103 (by omega) A174 (by first | (exfalso; omega) | (rw [e2_40]; unfold gs_snd6; (repeat first | rw [if_pos (by omega)] | rw [if_neg (by omega)]))) (by have v9 : I102 16 (Int.toNat (I 0 6)) = I 16 (Int.toNat (I 0 6)) := ((g101 16 _ rfl).trans (e3_40 _)); exact ⟨(((p158 16 _ (fun q => absurd q.1 (by decide))).trans (p140 16 _ (fun q => absurd q.1 (by decide))))).trans (by rw [show (Int.toNat (I 0 6)) = (Int.toNat ((I 0 6))) from by omega, q123]; omega), fun j hj => (((p158 16 j (fun q => absurd q.1 (by decide))).trans (p140 16 j (fun q => absurd q.1 (by decide))))).trans ((p123 16 j (fun h => hj (by have h9 := h.2; omega))).trans ((g101 16 j rfl).trans (e3_40 j)))⟩)
              · have Q175 := q101.2.2.2.2.2.2.2.2.2.2.2.2
                rw [FI38 0 78 rfl] at Q175
                obtain ⟨u175, u175_⟩ := gs_or0 Q175 (by omega)
                refine gv_run 1 true hD (pc' := 174) (lv' := [(0, .inr (.inr (some 0))), (1, .inl (I 0 6)), (2, .inl v2_18), (3, .inl v3_29)]) (st' := [.inl 0]) (h' := gr_h I102 J103) (C := (True ∧ True)) rfl ⟨trivial, trivial⟩ ?_
                have b176 : (I102 0 71 = 5 ∨ I102 0 73 ≤ I102 0 69) ∧ (I102 0 72 ≤ I102 0 69) ∧ (I102 0 71 = 0 ∨ (I102 0 72 < I102 0 73 ∧ I102 0 72 < I102 0 69)) ∧ (I102 0 71 = 3 → 2 ≤ I102 0 73 - I102 0 72 ∧ I102 0 73 - I102 0 72 ≤ 14) ∧ (I102 0 72 ≤ I102 0 73) ∧ (I102 0 69 = I 0 69) ∧ (I 0 73 ≤ I102 0 73) ∧ (I 0 72 ≤ I102 0 72) ∧ (I102 0 59 - I102 0 72 ≤ I 0 59 - I 0 72) := by omega
                exact gv_zret hD rfl (by omega) ⟨I102, J103, rfl, hI102, FI102, FJ103, ⟨_, rfl, by omega, by omega, b176.1, b176.2.1, b176.2.2.1, b176.2.2.2.1, b176.2.2.2.2.1, b176.2.2.2.2.2.1, b176.2.2.2.2.2.2.1, b176.2.2.2.2.2.2.2.1, b176.2.2.2.2.2.2.2.2, (Or.inr ⟨by omega, by first | (exfalso; omega) | (rw [e2_40]; unfold gs_snd6; (repeat first | rw [if_pos (by omega)] | rw [if_neg (by omega)]); exact ⟨by omega, by omega, (fun j => ((g101 16 j rfl).trans (e3_40 j)))⟩)⟩)⟩⟩
            · refine gv_run 2 true hD (pc' := 167) (lv' := [(0, .inr (.inr (some 0))), (1, .inl (I 0 6)), (2, .inl v2_18), (3, .inl v3_29)]) (st' := [.inl 1, .inr (.inr (some 0))]) (h' := gr_h I38 J39) (C := ((True ∧ True) ∧ True)) rfl ⟨⟨trivial, trivial⟩, trivial⟩ ?_
              obtain ⟨r177, h177, E177, P177⟩ := r_done_p (ws0 := ws0) (tb := tb) hws htb ext β N9 p_40 I38 J39 hI38 1 ⟨by omega, by omega⟩ (gr_ATp_rr e1_40).1 (gr_ATp_rr e1_40).2.1 (gr_ATp_rr e1_40).2.2.1 (gr_ATp_rr e1_40).2.2.2.1 (gr_ATp_rr e1_40).2.2.2.2 e1_40 (by omega)
              obtain ⟨I178, J179, rfl, hI178, g177, k177, ⟨z177, rfl, q177⟩⟩ := P177
              have FI178 := gr_frt FI38 g177 rfl rfl
              have FJ179 := gr_fjt FJ39 k177 rfl rfl
              have t180 := g177 0 69 rfl
              have t181 := g177 0 6 rfl
              have t182 := g177 0 59 rfl
              have t183 := g177 0 104 rfl
              have t184 := g177 16 (Int.toNat ((I 0 6))) rfl
              have f185 := (show 0 ≤ I178 0 71 ∧ I178 0 71 ≤ 5 from (hI178 0 71).1)
              have f186 := (show 0 ≤ I178 0 72 ∧ I178 0 72 ≤ 1000 from (hI178 0 72).1)
              have f187 := (show 0 ≤ I178 0 73 ∧ I178 0 73 ≤ 1001 from (hI178 0 73).1)
              have f188 := (show 0 ≤ I178 0 69 ∧ I178 0 69 ≤ 1000 from (hI178 0 69).1)
              have f189 := (show (-1) ≤ I178 0 6 ∧ I178 0 6 ≤ 7 from (hI178 0 6).1)
              have f190 := (show 0 ≤ I178 0 59 ∧ I178 0 59 ≤ 2000 from (hI178 0 59).1)
              have f191 := (show (-2147483648) ≤ I178 0 104 ∧ I178 0 104 ≤ 2147483647 from (hI178 0 104).1)
              refine gv_callV hD rfl (As := [.inl 1]) (st := []) rfl (by decide) rfl rfl (gr_lV hws rfl) (Nat.le_of_ble_eq_true rfl) (gz_Ev_mono (d := 11) (by decide) E177) ?_
              show gv_X _ _ (170, [(0, .inr (.inr (some 0))), (1, .inl (I 0 6)), (2, .inl v2_18), (3, .inl v3_29)], [.inl z177], gr_sh ++ ext, gr_h I178 J179)
              refine gv_if_ne (t := 175) hD rfl rfl ⟨by omega, by omega⟩ (fun c192 => ?_) (fun c192 => ?_)
              · have Q193 := q177.2.2.2.2.2.2.2.2.2.2.2.2
                rw [FI38 0 78 rfl] at Q193
                obtain ⟨u193, A193⟩ := gs_or1 Q193 (by omega)
                have t194 := gr_ATp_l A193
                have t195 := (q177.2.2.2.2.2.2.2.2.2.2.1).resolve_left (by omega)
                have t196 := (q177.2.2.2.2.2.2.2.2.2.2.2.1).resolve_left (by omega)
                obtain ⟨_, _, -, _, -, -, _, _, _, _, -, -, -⟩ := q177
                refine gv_run 7 true hD (pc' := 185) (lv' := [(0, .inr (.inr (some 0))), (1, .inl (I 0 6)), (2, .inl v2_18), (3, .inl v3_29)]) (st' := [.inl (I 0 6), .inr (.inr (some 16)), .inl (I 0 6), .inr (.inr (some 16)), .inl (24 * (I 0 6))]) (h' := gr_h I178 J179) (C := (((((((True ∧ True) ∧ True) ∧ True) ∧ True) ∧ True) ∧ True) ∧ True)) rfl ⟨⟨⟨⟨⟨⟨⟨trivial, trivial⟩, trivial⟩, trivial⟩, trivial⟩, trivial⟩, trivial⟩, trivial⟩ ?_
                have f197 := (show 0 ≤ I178 16 (Int.toNat ((I 0 6))) ∧ I178 16 (Int.toNat ((I 0 6))) ≤ 24 from (hI178 16 (Int.toNat ((I 0 6)))).1)
                refine gv_run 1 true hD (pc' := 186) (lv' := [(0, .inr (.inr (some 0))), (1, .inl (I 0 6)), (2, .inl v2_18), (3, .inl v3_29)]) (st' := [.inl (I178 16 (Int.toNat ((I 0 6)))), .inl (I 0 6), .inr (.inr (some 16)), .inl (24 * (I 0 6))]) (h' := gr_h I178 J179) (C := (True ∧ (0 ≤ (I 0 6) ∧ (I 0 6) < ((8 : Nat) : Int)))) rfl ⟨trivial, ⟨by omega, by omega⟩⟩ ?_
                refine gv_run 3 true hD (pc' := 189) (lv' := [(0, .inr (.inr (some 0))), (1, .inl (I 0 6)), (2, .inl v2_18), (3, .inl v3_29)]) (st' := [.inl ((I178 16 (Int.toNat ((I 0 6)))) + 1), .inl (I 0 6), .inr (.inr (some 16)), .inl (I178 16 (Int.toNat ((I 0 6)))), .inl (24 * (I 0 6))]) (h' := gr_h I178 J179) (C := (((True ∧ True) ∧ True) ∧ True)) rfl ⟨⟨⟨trivial, trivial⟩, trivial⟩, trivial⟩ ?_
                refine gv_run 1 true hD (pc' := 190) (lv' := [(0, .inr (.inr (some 0))), (1, .inl (I 0 6)), (2, .inl v2_18), (3, .inl v3_29)]) (st' := [.inl (I178 16 (Int.toNat ((I 0 6)))), .inl (24 * (I 0 6))]) (h' := gz_up (gr_h I178 J179) 16 (Int.toNat ((I 0 6))) (.inl (((I178 16 (Int.toNat ((I 0 6)))) + 1)))) (C := (True ∧ (0 ≤ (I 0 6) ∧ (I 0 6) < ((8 : Nat) : Int)))) rfl ⟨trivial, ⟨by omega, by omega⟩⟩ ?_
                refine gr_st hI178 FI178 rfl rfl ⟨⟨by show 0 ≤ _; omega, by show _ ≤ 24; omega⟩, trivial⟩ (fun I198 hI198 FI198 q199 p199 => ?_)
                have t200 := p199 0 71 (fun q => absurd q.1 (by decide))
                have t201 := p199 0 72 (fun q => absurd q.1 (by decide))
                have t202 := p199 0 73 (fun q => absurd q.1 (by decide))
                have t203 := p199 0 69 (fun q => absurd q.1 (by decide))
                have t204 := p199 0 6 (fun q => absurd q.1 (by decide))
                have t205 := p199 0 59 (fun q => absurd q.1 (by decide))
                have t206 := p199 0 104 (fun q => absurd q.1 (by decide))
                have f207 := (show 0 ≤ I198 0 71 ∧ I198 0 71 ≤ 5 from (hI198 0 71).1)
                have f208 := (show 0 ≤ I198 0 72 ∧ I198 0 72 ≤ 1000 from (hI198 0 72).1)
                have f209 := (show 0 ≤ I198 0 73 ∧ I198 0 73 ≤ 1001 from (hI198 0 73).1)
                have f210 := (show 0 ≤ I198 0 69 ∧ I198 0 69 ≤ 1000 from (hI198 0 69).1)
                have f211 := (show (-1) ≤ I198 0 6 ∧ I198 0 6 ≤ 7 from (hI198 0 6).1)
                have f212 := (show 0 ≤ I198 0 59 ∧ I198 0 59 ≤ 2000 from (hI198 0 59).1)
                have f213 := (show (-2147483648) ≤ I198 0 104 ∧ I198 0 104 ≤ 2147483647 from (hI198 0 104).1)
                have A214 := gr_ATp_sr A193 p199 rfl
                refine gv_run 6 true hD (pc' := 200) (lv' := [(4, .inl ((24 * (I 0 6)) + (I178 16 (Int.toNat ((I 0 6)))))), (0, .inr (.inr (some 0))), (1, .inl (I 0 6)), (2, .inl v2_18), (3, .inl v3_29)]) (st' := [.inl v2_18, .inl ((24 * (I 0 6)) + (I178 16 (Int.toNat ((I 0 6))))), .inr (.inr (some 27))]) (h' := gr_h I198 J179) (C := ((((((True ∧ True) ∧ True) ∧ True) ∧ True) ∧ True) ∧ True)) rfl ⟨⟨⟨⟨⟨⟨trivial, trivial⟩, trivial⟩, trivial⟩, trivial⟩, trivial⟩, trivial⟩ ?_
                refine gv_run 1 true hD (pc' := 201) (lv' := [(4, .inl ((24 * (I 0 6)) + (I178 16 (Int.toNat ((I 0 6)))))), (0, .inr (.inr (some 0))), (1, .inl (I 0 6)), (2, .inl v2_18), (3, .inl v3_29)]) (st' := []) (h' := gz_up (gr_h I198 J179) 27 (Int.toNat (((24 * (I 0 6)) + (I178 16 (Int.toNat ((I 0 6))))))) (.inl v2_18)) (C := (True ∧ (0 ≤ (((24 * (I 0 6)) + (I178 16 (Int.toNat ((I 0 6)))))) ∧ (((24 * (I 0 6)) + (I178 16 (Int.toNat ((I 0 6)))))) < ((192 : Nat) : Int)))) rfl ⟨trivial, ⟨by omega, by omega⟩⟩ ?_
                refine gr_st hI198 FI198 rfl rfl ⟨⟨by show (-16) ≤ _; omega, by show _ ≤ 32015; omega⟩, trivial⟩ (fun I215 hI215 FI215 q216 p216 => ?_)
                have t217 := p216 0 71 (fun q => absurd q.1 (by decide))
                have t218 := p216 0 72 (fun q => absurd q.1 (by decide))
                have t219 := p216 0 73 (fun q => absurd q.1 (by decide))
                have t220 := p216 0 69 (fun q => absurd q.1 (by decide))
                have t221 := p216 0 6 (fun q => absurd q.1 (by decide))
                have t222 := p216 0 59 (fun q => absurd q.1 (by decide))
                have t223 := p216 0 104 (fun q => absurd q.1 (by decide))
                have t224 := p216 16 (Int.toNat ((I 0 6))) (fun q => absurd q.1 (by decide))
                have f225 := (show 0 ≤ I215 0 71 ∧ I215 0 71 ≤ 5 from (hI215 0 71).1)
                have f226 := (show 0 ≤ I215 0 72 ∧ I215 0 72 ≤ 1000 from (hI215 0 72).1)
                have f227 := (show 0 ≤ I215 0 73 ∧ I215 0 73 ≤ 1001 from (hI215 0 73).1)
                have f228 := (show 0 ≤ I215 0 69 ∧ I215 0 69 ≤ 1000 from (hI215 0 69).1)
                have f229 := (show (-1) ≤ I215 0 6 ∧ I215 0 6 ≤ 7 from (hI215 0 6).1)
                have f230 := (show 0 ≤ I215 0 59 ∧ I215 0 59 ≤ 2000 from (hI215 0 59).1)
                have f231 := (show (-2147483648) ≤ I215 0 104 ∧ I215 0 104 ≤ 2147483647 from (hI215 0 104).1)
                have A232 := gr_ATp_sr A214 p216 rfl
                refine gv_run 4 true hD (pc' := 208) (lv' := [(4, .inl ((24 * (I 0 6)) + (I178 16 (Int.toNat ((I 0 6)))))), (0, .inr (.inr (some 0))), (1, .inl (I 0 6)), (2, .inl v2_18), (3, .inl v3_29)]) (st' := [.inl v3_29, .inl ((24 * (I 0 6)) + (I178 16 (Int.toNat ((I 0 6))))), .inr (.inr (some 28))]) (h' := gr_h I215 J179) (C := ((((True ∧ True) ∧ True) ∧ True) ∧ True)) rfl ⟨⟨⟨⟨trivial, trivial⟩, trivial⟩, trivial⟩, trivial⟩ ?_
                refine gv_run 1 true hD (pc' := 209) (lv' := [(4, .inl ((24 * (I 0 6)) + (I178 16 (Int.toNat ((I 0 6)))))), (0, .inr (.inr (some 0))), (1, .inl (I 0 6)), (2, .inl v2_18), (3, .inl v3_29)]) (st' := []) (h' := gz_up (gr_h I215 J179) 28 (Int.toNat (((24 * (I 0 6)) + (I178 16 (Int.toNat ((I 0 6))))))) (.inl v3_29)) (C := (True ∧ (0 ≤ (((24 * (I 0 6)) + (I178 16 (Int.toNat ((I 0 6)))))) ∧ (((24 * (I 0 6)) + (I178 16 (Int.toNat ((I 0 6)))))) < ((192 : Nat) : Int)))) rfl ⟨trivial, ⟨by omega, by omega⟩⟩ ?_
                refine gr_st hI215 FI215 rfl rfl ⟨⟨by show 0 ≤ _; omega, by show _ ≤ 32015; omega⟩, trivial⟩ (fun I233 hI233 FI233 q234 p234 => ?_)
                have t235 := p234 0 71 (fun q => absurd q.1 (by decide))
                have t236 := p234 0 72 (fun q => absurd q.1 (by decide))
                have t237 := p234 0 73 (fun q => absurd q.1 (by decide))
                have t238 := p234 0 69 (fun q => absurd q.1 (by decide))
                have t239 := p234 0 6 (fun q => absurd q.1 (by decide))
                have t240 := p234 0 59 (fun q => absurd q.1 (by decide))
                have t241 := p234 0 104 (fun q => absurd q.1 (by decide))
                have t242 := p234 16 (Int.toNat ((I 0 6))) (fun q => absurd q.1 (by decide))
                have f243 := (show 0 ≤ I233 0 71 ∧ I233 0 71 ≤ 5 from (hI233 0 71).1)
                have f244 := (show 0 ≤ I233 0 72 ∧ I233 0 72 ≤ 1000 from (hI233 0 72).1)
                have f245 := (show 0 ≤ I233 0 73 ∧ I233 0 73 ≤ 1001 from (hI233 0 73).1)
                have f246 := (show 0 ≤ I233 0 69 ∧ I233 0 69 ≤ 1000 from (hI233 0 69).1)
                have f247 := (show (-1) ≤ I233 0 6 ∧ I233 0 6 ≤ 7 from (hI233 0 6).1)
                have f248 := (show 0 ≤ I233 0 59 ∧ I233 0 59 ≤ 2000 from (hI233 0 59).1)
                have f249 := (show (-2147483648) ≤ I233 0 104 ∧ I233 0 104 ≤ 2147483647 from (hI233 0 104).1)
                have A250 := gr_ATp_sr A232 p234 rfl
                refine gv_run 2 true hD (pc' := 212) (lv' := [(5, .inl 0), (4, .inl ((24 * (I 0 6)) + (I178 16 (Int.toNat ((I 0 6)))))), (0, .inr (.inr (some 0))), (1, .inl (I 0 6)), (2, .inl v2_18), (3, .inl v3_29)]) (st' := []) (h' := gr_h I233 J179) (C := ((True ∧ True) ∧ True)) rfl ⟨⟨trivial, trivial⟩, trivial⟩ ?_
                refine gv_pick [2, 1, 0] rfl ?_
                exact L212 _ I233 J179 (((24 * (I 0 6)) + (I178 16 (Int.toNat ((I 0 6)))))) 0 ((gs_done β N9 1 (I 0 78) p_40)) (Nat.lt_succ_self _) hI233 FI233 FJ179 (by omega) A250 (by first | (exfalso; omega) | (rw [e2_40]; unfold gs_snd6; (repeat first | rw [if_pos (by omega)] | rw [if_neg (by omega)]))) (by have v9 : I178 16 (Int.toNat (I 0 6)) = I 16 (Int.toNat (I 0 6)) := ((g177 16 _ rfl).trans (e3_40 _)); exact ⟨(((p234 16 _ (fun q => absurd q.1 (by decide))).trans (p216 16 _ (fun q => absurd q.1 (by decide))))).trans (by rw [show (Int.toNat (I 0 6)) = (Int.toNat ((I 0 6))) from by omega, q199]; omega), fun j hj => (((p234 16 j (fun q => absurd q.1 (by decide))).trans (p216 16 j (fun q => absurd q.1 (by decide))))).trans ((p199 16 j (fun h => hj (by have h9 := h.2; omega))).trans ((g177 16 j rfl).trans (e3_40 j)))⟩)
              · have Q251 := q177.2.2.2.2.2.2.2.2.2.2.2.2
                rw [FI38 0 78 rfl] at Q251
                obtain ⟨u251, u251_⟩ := gs_or0 Q251 (by omega)
                refine gv_run 1 true hD (pc' := 174) (lv' := [(0, .inr (.inr (some 0))), (1, .inl (I 0 6)), (2, .inl v2_18), (3, .inl v3_29)]) (st' := [.inl 0]) (h' := gr_h I178 J179) (C := (True ∧ True)) rfl ⟨trivial, trivial⟩ ?_
                have b252 : (I178 0 71 = 5 ∨ I178 0 73 ≤ I178 0 69) ∧ (I178 0 72 ≤ I178 0 69) ∧ (I178 0 71 = 0 ∨ (I178 0 72 < I178 0 73 ∧ I178 0 72 < I178 0 69)) ∧ (I178 0 71 = 3 → 2 ≤ I178 0 73 - I178 0 72 ∧ I178 0 73 - I178 0 72 ≤ 14) ∧ (I178 0 72 ≤ I178 0 73) ∧ (I178 0 69 = I 0 69) ∧ (I 0 73 ≤ I178 0 73) ∧ (I 0 72 ≤ I178 0 72) ∧ (I178 0 59 - I178 0 72 ≤ I 0 59 - I 0 72) := by omega
                exact gv_zret hD rfl (by omega) ⟨I178, J179, rfl, hI178, FI178, FJ179, ⟨_, rfl, by omega, by omega, b252.1, b252.2.1, b252.2.2.1, b252.2.2.2.1, b252.2.2.2.2.1, b252.2.2.2.2.2.1, b252.2.2.2.2.2.2.1, b252.2.2.2.2.2.2.2.1, b252.2.2.2.2.2.2.2.2, (Or.inr ⟨by omega, by first | (exfalso; omega) | (rw [e2_40]; unfold gs_snd6; (repeat first | rw [if_pos (by omega)] | rw [if_neg (by omega)]); exact ⟨by omega, by omega, (fun j => ((g177 16 j rfl).trans (e3_40 j)))⟩)⟩)⟩⟩
          have L119 : ((0 ≤ (I 0 6) ∧ (I 0 6) ≤ 7) ∧ ((-16) ≤ v2_18 ∧ v2_18 ≤ 32015) ∧ (0 ≤ v3_29 ∧ v3_29 ≤ 32015) ∧ (I27 0 71 = 4) ∧ (0 ≤ p_29) ∧ (I27 0 72 ≤ I27 0 69) ∧ (I27 0 72 ≤ I27 0 73) ∧ (I27 0 69 = I 0 69) ∧ (I 0 73 ≤ I27 0 73) ∧ (I 0 72 ≤ I27 0 72) ∧ (I27 0 6 = I 0 6) ∧ (I27 0 59 - I27 0 72 ≤ I 0 59 - I 0 72)) → (gr_ATp β N9 p_29 I27 J28) → ((gs_snd β N9 I J (I 0 78) p9) = gs_snd4 β N9 I J (I 0 78) (gs_sd β N9 I J 3 (gs_X β N9 p_29))) → ((∀ k, I27 16 k = I 16 k)) → gv_X (gr_E ws0 tb 12 (yX13_sound, cX13_sound, 6, (some .boolean)) kX13_sound) (gv_Q cX13_sound (some .boolean) (gr_sh ++ ext) (fun r h' => (∃ (I' : gr_I) (J' : gr_J), h' = gr_h I' J' ∧ gr_Inv I' ∧ gr_fr [59, 71, 72, 73, 74, 75, 76, 77, 104] [16, 27, 28, 29, 30, 51, 63] I I' ∧ gr_fj [59, 71, 72, 73, 74, 75, 76, 77, 104] [16, 27, 28, 29, 30, 51, 63] J J' ∧ (∃ z : Int, r = some (.inl z) ∧ 0 ≤ z ∧ z ≤ 1 ∧ (I' 0 71 = 5 ∨ I' 0 73 ≤ I' 0 69) ∧ (I' 0 72 ≤ I' 0 69) ∧ (I' 0 71 = 0 ∨ (I' 0 72 < I' 0 73 ∧ I' 0 72 < I' 0 69)) ∧ (I' 0 71 = 3 → 2 ≤ I' 0 73 - I' 0 72 ∧ I' 0 73 - I' 0 72 ≤ 14) ∧ (I' 0 72 ≤ I' 0 73) ∧ (I' 0 69 = I 0 69) ∧ (I 0 73 ≤ I' 0 73) ∧ (I 0 72 ≤ I' 0 72) ∧ (I' 0 59 - I' 0 72 ≤ I 0 59 - I 0 72) ∧ (gs_Or z (0 ≤ (gs_snd β N9 I J (I 0 78) p9) ∧ gr_ATp β N9 (gs_snd β N9 I J (I 0 78) p9) I' J' ∧ (I' 16 (Int.toNat (I 0 6)) = I 16 (Int.toNat (I 0 6)) + 1 ∧ ∀ j, ¬ j = (Int.toNat (I 0 6)) → I' 16 j = I 16 j)) ((gs_snd β N9 I J (I 0 78) p9) < 0 ∧ I' 0 77 = -1 - (gs_snd β N9 I J (I 0 78) p9) ∧ ∀ j, I' 16 j = I 16 j)))))) (119, [(0, .inr (.inr (some 0))), (1, .inl (I 0 6)), (2, .inl v2_18), (3, .inl v3_29)], [], gr_sh ++ ext, gr_h I27 J28) := by
            intro m_253 e2_253 e3_253 e4_253
            obtain ⟨h_I_0_6__253, hv2_18_253, hv3_29_253, e0_253, e1_253, e5_253, e6_253, e7_253, e8_253, e9_253, e10_253, e11_253⟩ := m_253
            have f254 := (show 0 ≤ I27 0 71 ∧ I27 0 71 ≤ 5 from (hI27 0 71).1)
            have f255 := (show 0 ≤ I27 0 72 ∧ I27 0 72 ≤ 1000 from (hI27 0 72).1)
            have f256 := (show 0 ≤ I27 0 73 ∧ I27 0 73 ≤ 1001 from (hI27 0 73).1)
            have f257 := (show 0 ≤ I27 0 69 ∧ I27 0 69 ≤ 1000 from (hI27 0 69).1)
            have f258 := (show (-1) ≤ I27 0 6 ∧ I27 0 6 ≤ 7 from (hI27 0 6).1)
            have f259 := (show 0 ≤ I27 0 59 ∧ I27 0 59 ≤ 2000 from (hI27 0 59).1)
            have f260 := (show (-2147483648) ≤ I27 0 104 ∧ I27 0 104 ≤ 2147483647 from (hI27 0 104).1)
            have t261 := gr_ATp_l e1_29
            have L131 : ∀ (I262 : gr_I) (J263 : gr_J) (p_264 : Int), gr_Inv I262 → gr_fr [59, 71, 72, 73, 74, 75, 76, 77, 104] [16, 27, 28, 29, 30, 51, 63] I I262 → gr_fj [59, 71, 72, 73, 74, 75, 76, 77, 104] [16, 27, 28, 29, 30, 51, 63] J J263 → ((0 ≤ (I 0 6) ∧ (I 0 6) ≤ 7) ∧ ((-16) ≤ v2_18 ∧ v2_18 ≤ 32015) ∧ (0 ≤ v3_29 ∧ v3_29 ≤ 32015) ∧ (0 ≤ p_264) ∧ (I262 0 72 ≤ I262 0 69) ∧ (I262 0 72 ≤ I262 0 73) ∧ (I262 0 69 = I 0 69) ∧ (I 0 73 ≤ I262 0 73) ∧ (I 0 72 ≤ I262 0 72) ∧ (I262 0 6 = I 0 6) ∧ (I262 0 59 - I262 0 72 ≤ I 0 59 - I 0 72)) → (gr_ATp β N9 p_264 I262 J263) → ((gs_snd β N9 I J (I 0 78) p9) = gs_snd5 β N9 I J (I 0 78) (gs_need β N9 95 p_264)) → ((∀ k, I262 16 k = I 16 k)) → gv_X (gr_E ws0 tb 12 (yX13_sound, cX13_sound, 6, (some .boolean)) kX13_sound) (gv_Q cX13_sound (some .boolean) (gr_sh ++ ext) (fun r h' => (∃ (I' : gr_I) (J' : gr_J), h' = gr_h I' J' ∧ gr_Inv I' ∧ gr_fr [59, 71, 72, 73, 74, 75, 76, 77, 104] [16, 27, 28, 29, 30, 51, 63] I I' ∧ gr_fj [59, 71, 72, 73, 74, 75, 76, 77, 104] [16, 27, 28, 29, 30, 51, 63] J J' ∧ (∃ z : Int, r = some (.inl z) ∧ 0 ≤ z ∧ z ≤ 1 ∧ (I' 0 71 = 5 ∨ I' 0 73 ≤ I' 0 69) ∧ (I' 0 72 ≤ I' 0 69) ∧ (I' 0 71 = 0 ∨ (I' 0 72 < I' 0 73 ∧ I' 0 72 < I' 0 69)) ∧ (I' 0 71 = 3 → 2 ≤ I' 0 73 - I' 0 72 ∧ I' 0 73 - I' 0 72 ≤ 14) ∧ (I' 0 72 ≤ I' 0 73) ∧ (I' 0 69 = I 0 69) ∧ (I 0 73 ≤ I' 0 73) ∧ (I 0 72 ≤ I' 0 72) ∧ (I' 0 59 - I' 0 72 ≤ I 0 59 - I 0 72) ∧ (gs_Or z (0 ≤ (gs_snd β N9 I J (I 0 78) p9) ∧ gr_ATp β N9 (gs_snd β N9 I J (I 0 78) p9) I' J' ∧ (I' 16 (Int.toNat (I 0 6)) = I 16 (Int.toNat (I 0 6)) + 1 ∧ ∀ j, ¬ j = (Int.toNat (I 0 6)) → I' 16 j = I 16 j)) ((gs_snd β N9 I J (I 0 78) p9) < 0 ∧ I' 0 77 = -1 - (gs_snd β N9 I J (I 0 78) p9) ∧ ∀ j, I' 16 j = I 16 j)))))) (131, [(0, .inr (.inr (some 0))), (1, .inl (I 0 6)), (2, .inl v2_18), (3, .inl v3_29)], [], gr_sh ++ ext, gr_h I262 J263) := by
              intro I262 J263 p_264 hI262 FI262 FJ263 m_264 e1_264 e2_264 e3_264
              clear h_I_0_6__253 hv2_18_253 hv3_29_253 e0_253 e1_253 e5_253 e6_253 e7_253 e8_253 e9_253 e10_253 e11_253 f254 f255 f256 f257 f258 f259 f260 t261 h_I_0_6__29 hv2_18_29 hv3_29 hv4_29 e0_29 e4_29 e5_29 e6_29 e7_29 e8_29 e9_29 e10_29 f30 f31 f32 f33 f34 f35 f36 t37
              obtain ⟨h_I_0_6__264, hv2_18_264, hv3_29_264, e0_264, e4_264, e5_264, e6_264, e7_264, e8_264, e9_264, e10_264⟩ := m_264
              have f265 := (show 0 ≤ I262 0 71 ∧ I262 0 71 ≤ 5 from (hI262 0 71).1)
              have f266 := (show 0 ≤ I262 0 72 ∧ I262 0 72 ≤ 1000 from (hI262 0 72).1)
              have f267 := (show 0 ≤ I262 0 73 ∧ I262 0 73 ≤ 1001 from (hI262 0 73).1)
              have f268 := (show 0 ≤ I262 0 69 ∧ I262 0 69 ≤ 1000 from (hI262 0 69).1)
              have f269 := (show (-1) ≤ I262 0 6 ∧ I262 0 6 ≤ 7 from (hI262 0 6).1)
              have f270 := (show 0 ≤ I262 0 59 ∧ I262 0 59 ≤ 2000 from (hI262 0 59).1)
              have f271 := (show (-2147483648) ≤ I262 0 104 ∧ I262 0 104 ≤ 2147483647 from (hI262 0 104).1)
              have t272 := gr_ATp_l e1_264
              refine gv_run 2 true hD (pc' := 134) (lv' := [(0, .inr (.inr (some 0))), (1, .inl (I 0 6)), (2, .inl v2_18), (3, .inl v3_29)]) (st' := [.inl 95, .inr (.inr (some 0))]) (h' := gr_h I262 J263) (C := ((True ∧ True) ∧ True)) rfl ⟨⟨trivial, trivial⟩, trivial⟩ ?_
              obtain ⟨r273, h273, E273, P273⟩ := r_need_p (ws0 := ws0) (tb := tb) hws htb ext β N9 p_264 I262 J263 hI262 95 ⟨by omega, by omega⟩ (gr_ATp_rr e1_264).1 (gr_ATp_rr e1_264).2.1 (gr_ATp_rr e1_264).2.2.1 (gr_ATp_rr e1_264).2.2.2.1 (gr_ATp_rr e1_264).2.2.2.2 e1_264 (by omega)
              obtain ⟨I274, J275, rfl, hI274, g273, k273, ⟨z273, rfl, q273⟩⟩ := P273
              have FI274 := gr_frt FI262 g273 rfl rfl
              have FJ275 := gr_fjt FJ263 k273 rfl rfl
              have t276 := g273 0 69 rfl
              have t277 := g273 0 6 rfl
              have t278 := g273 0 59 rfl
              have t279 := g273 0 104 rfl
              have t280 := g273 16 (Int.toNat ((I 0 6))) rfl
              have f281 := (show 0 ≤ I274 0 71 ∧ I274 0 71 ≤ 5 from (hI274 0 71).1)
              have f282 := (show 0 ≤ I274 0 72 ∧ I274 0 72 ≤ 1000 from (hI274 0 72).1)
              have f283 := (show 0 ≤ I274 0 73 ∧ I274 0 73 ≤ 1001 from (hI274 0 73).1)
              have f284 := (show 0 ≤ I274 0 69 ∧ I274 0 69 ≤ 1000 from (hI274 0 69).1)
              have f285 := (show (-1) ≤ I274 0 6 ∧ I274 0 6 ≤ 7 from (hI274 0 6).1)
              have f286 := (show 0 ≤ I274 0 59 ∧ I274 0 59 ≤ 2000 from (hI274 0 59).1)
              have f287 := (show (-2147483648) ≤ I274 0 104 ∧ I274 0 104 ≤ 2147483647 from (hI274 0 104).1)
              refine gv_callV hD rfl (As := [.inl 95]) (st := []) rfl (by decide) rfl rfl (gr_lV hws rfl) (Nat.le_of_ble_eq_true rfl) (gz_Ev_mono (d := 11) (by decide) E273) ?_
              show gv_X _ _ (137, [(0, .inr (.inr (some 0))), (1, .inl (I 0 6)), (2, .inl v2_18), (3, .inl v3_29)], [.inl z273], gr_sh ++ ext, gr_h I274 J275)
              refine gv_if_eq (t := 148) hD rfl rfl ⟨by omega, by omega⟩ (fun c288 => ?_) (fun c288 => ?_)
              · obtain ⟨u289, u289_⟩ := gs_or0 q273.2.2.2.2.2.2.2.2.2.2.2 (by omega)
                refine gv_run 1 true hD (pc' := 149) (lv' := [(0, .inr (.inr (some 0))), (1, .inl (I 0 6)), (2, .inl v2_18), (3, .inl v3_29)]) (st' := [.inl 0]) (h' := gr_h I274 J275) (C := (True ∧ True)) rfl ⟨trivial, trivial⟩ ?_
                have b290 : (I274 0 71 = 5 ∨ I274 0 73 ≤ I274 0 69) ∧ (I274 0 72 ≤ I274 0 69) ∧ (I274 0 71 = 0 ∨ (I274 0 72 < I274 0 73 ∧ I274 0 72 < I274 0 69)) ∧ (I274 0 71 = 3 → 2 ≤ I274 0 73 - I274 0 72 ∧ I274 0 73 - I274 0 72 ≤ 14) ∧ (I274 0 72 ≤ I274 0 73) ∧ (I274 0 69 = I 0 69) ∧ (I 0 73 ≤ I274 0 73) ∧ (I 0 72 ≤ I274 0 72) ∧ (I274 0 59 - I274 0 72 ≤ I 0 59 - I 0 72) := by omega
                exact gv_zret hD rfl (by omega) ⟨I274, J275, rfl, hI274, FI274, FJ275, ⟨_, rfl, by omega, by omega, b290.1, b290.2.1, b290.2.2.1, b290.2.2.2.1, b290.2.2.2.2.1, b290.2.2.2.2.2.1, b290.2.2.2.2.2.2.1, b290.2.2.2.2.2.2.2.1, b290.2.2.2.2.2.2.2.2, (Or.inr ⟨by omega, by first | (exfalso; omega) | (rw [e2_264]; unfold gs_snd5 gs_snd6; (repeat first | rw [if_pos (by omega)] | rw [if_neg (by omega)]); exact ⟨by omega, by omega, (fun j => ((g273 16 j rfl).trans (e3_264 j)))⟩)⟩)⟩⟩
              · obtain ⟨u291, A291⟩ := gs_or1 q273.2.2.2.2.2.2.2.2.2.2.2 (by omega)
                have t292 := gr_ATp_l A291
                have t293 := (q273.2.2.2.2.2.2.2.2.2.2.1).resolve_left (by omega)
                obtain ⟨_, _, -, _, -, -, _, _, _, _, -, -⟩ := q273
                refine gv_run 2 true hD (pc' := 142) (lv' := [(0, .inr (.inr (some 0))), (1, .inl (I 0 6)), (2, .inl v2_18), (3, .inl v3_29)]) (st' := [.inl 3, .inr (.inr (some 0))]) (h' := gr_h I274 J275) (C := ((True ∧ True) ∧ True)) rfl ⟨⟨trivial, trivial⟩, trivial⟩ ?_
                obtain ⟨r294, h294, E294, P294⟩ := r_side_p (ws0 := ws0) (tb := tb) hws htb ext β N9 (gs_need β N9 95 p_264) I274 J275 hI274 3 ⟨by omega, by omega⟩ (gr_ATp_rr A291).1 (gr_ATp_rr A291).2.1 (gr_ATp_rr A291).2.2.1 (gr_ATp_rr A291).2.2.2.1 (gr_ATp_rr A291).2.2.2.2 (by omega) (by omega) A291 (by omega)
                obtain ⟨I295, J296, rfl, hI295, g294, k294, ⟨z294, rfl, q294⟩⟩ := P294
                have FI295 := gr_frt FI274 g294 rfl rfl
                have FJ296 := gr_fjt FJ275 k294 rfl rfl
                have t297 := g294 0 69 rfl
                have t298 := g294 0 6 rfl
                have t299 := g294 16 (Int.toNat ((I 0 6))) rfl
                have f300 := (show 0 ≤ I295 0 71 ∧ I295 0 71 ≤ 5 from (hI295 0 71).1)
                have f301 := (show 0 ≤ I295 0 72 ∧ I295 0 72 ≤ 1000 from (hI295 0 72).1)
                have f302 := (show 0 ≤ I295 0 73 ∧ I295 0 73 ≤ 1001 from (hI295 0 73).1)
                have f303 := (show 0 ≤ I295 0 69 ∧ I295 0 69 ≤ 1000 from (hI295 0 69).1)
                have f304 := (show (-1) ≤ I295 0 6 ∧ I295 0 6 ≤ 7 from (hI295 0 6).1)
                have f305 := (show 0 ≤ I295 0 59 ∧ I295 0 59 ≤ 2000 from (hI295 0 59).1)
                have f306 := (show (-2147483648) ≤ I295 0 104 ∧ I295 0 104 ≤ 2147483647 from (hI295 0 104).1)
                refine gv_callV hD rfl (As := [.inl 3]) (st := []) rfl (by decide) rfl rfl (gr_lV hws rfl) (Nat.le_of_ble_eq_true rfl) (gz_Ev_mono (d := 12) (by decide) E294) ?_
                show gv_X _ _ (145, [(0, .inr (.inr (some 0))), (1, .inl (I 0 6)), (2, .inl v2_18), (3, .inl v3_29)], [.inl z294], gr_sh ++ ext, gr_h I295 J296)
                refine gv_if_ne (t := 150) hD rfl rfl ⟨by omega, by omega⟩ (fun c307 => ?_) (fun c307 => ?_)
                · have Q308 := q294.2.2.2.2.2.2.2.2.2.2.2
                  rw [gs_sd_eq (FI274 0 6 rfl) (fun k => (FI274 15 k rfl)) (fun k => (FJ275 22 k rfl))] at Q308
                  obtain ⟨u308, A308⟩ := gs_or1 Q308 (by omega)
                  have t309 := gr_ATp_l A308
                  obtain ⟨_, _, -, _, -, -, _, _, _, _, _, -⟩ := q294
                  exact L150 I295 J296 ((gs_sd β N9 I J 3 (gs_need β N9 95 p_264))) hI295 FI295 FJ296 (by omega) A308 (by rw [e2_264]; unfold gs_snd5; (repeat first | rw [if_pos (by omega)] | rw [if_neg (by omega)])) (fun k => (((g294 16 k rfl).trans (g273 16 k rfl)).trans (e3_264 k)))
                · have Q310 := q294.2.2.2.2.2.2.2.2.2.2.2
                  rw [gs_sd_eq (FI274 0 6 rfl) (fun k => (FI274 15 k rfl)) (fun k => (FJ275 22 k rfl))] at Q310
                  obtain ⟨u310, u310_⟩ := gs_or0 Q310 (by omega)
                  refine gv_run 1 true hD (pc' := 149) (lv' := [(0, .inr (.inr (some 0))), (1, .inl (I 0 6)), (2, .inl v2_18), (3, .inl v3_29)]) (st' := [.inl 0]) (h' := gr_h I295 J296) (C := (True ∧ True)) rfl ⟨trivial, trivial⟩ ?_
                  have b311 : (I295 0 71 = 5 ∨ I295 0 73 ≤ I295 0 69) ∧ (I295 0 72 ≤ I295 0 69) ∧ (I295 0 71 = 0 ∨ (I295 0 72 < I295 0 73 ∧ I295 0 72 < I295 0 69)) ∧ (I295 0 71 = 3 → 2 ≤ I295 0 73 - I295 0 72 ∧ I295 0 73 - I295 0 72 ≤ 14) ∧ (I295 0 72 ≤ I295 0 73) ∧ (I295 0 69 = I 0 69) ∧ (I 0 73 ≤ I295 0 73) ∧ (I 0 72 ≤ I295 0 72) ∧ (I295 0 59 - I295 0 72 ≤ I 0 59 - I 0 72) := by omega
                  exact gv_zret hD rfl (by omega) ⟨I295, J296, rfl, hI295, FI295, FJ296, ⟨_, rfl, by omega, by omega, b311.1, b311.2.1, b311.2.2.1, b311.2.2.2.1, b311.2.2.2.2.1, b311.2.2.2.2.2.1, b311.2.2.2.2.2.2.1, b311.2.2.2.2.2.2.2.1, b311.2.2.2.2.2.2.2.2, (Or.inr ⟨by omega, by first | (exfalso; omega) | (rw [e2_264]; unfold gs_snd5 gs_snd6; (repeat first | rw [if_pos (by omega)] | rw [if_neg (by omega)]); exact ⟨by omega, by omega, (fun j => (((g294 16 j rfl).trans (g273 16 j rfl)).trans (e3_264 j)))⟩)⟩)⟩⟩
            refine gv_run 1 true hD (pc' := 120) (lv' := [(0, .inr (.inr (some 0))), (1, .inl (I 0 6)), (2, .inl v2_18), (3, .inl v3_29)]) (st' := [.inr (.inr (some 0))]) (h' := gr_h I27 J28) (C := (True ∧ True)) rfl ⟨trivial, trivial⟩ ?_
            obtain ⟨r312, h312, E312, P312⟩ := r_next_p (ws0 := ws0) (tb := tb) hws htb ext β N9 I27 J28 hI27   ((gr_ATp_rr e1_29).1.resolve_left (by omega)) e1_29.1.1 e1_29.1.2
            obtain ⟨I313, J314, rfl, hI313, g312, k312, ⟨rfl, q312⟩⟩ := P312
            have FI313 := gr_frt FI27 g312 rfl rfl
            have FJ314 := gr_fjt FJ28 k312 rfl rfl
            have t315 := g312 0 69 rfl
            have t316 := g312 0 6 rfl
            have t317 := g312 0 59 rfl
            have t318 := g312 0 104 rfl
            have t319 := g312 16 (Int.toNat ((I 0 6))) rfl
            have f320 := (show 0 ≤ I313 0 71 ∧ I313 0 71 ≤ 5 from (hI313 0 71).1)
            have f321 := (show 0 ≤ I313 0 72 ∧ I313 0 72 ≤ 1000 from (hI313 0 72).1)
            have f322 := (show 0 ≤ I313 0 73 ∧ I313 0 73 ≤ 1001 from (hI313 0 73).1)
            have f323 := (show 0 ≤ I313 0 69 ∧ I313 0 69 ≤ 1000 from (hI313 0 69).1)
            have f324 := (show (-1) ≤ I313 0 6 ∧ I313 0 6 ≤ 7 from (hI313 0 6).1)
            have f325 := (show 0 ≤ I313 0 59 ∧ I313 0 59 ≤ 2000 from (hI313 0 59).1)
            have f326 := (show (-2147483648) ≤ I313 0 104 ∧ I313 0 104 ≤ 2147483647 from (hI313 0 104).1)
            have A327 := gr_ATp_nx e1_29 q312.2.2.2.2.2
            have t328 := gr_ATp_l A327
            obtain ⟨_, _, -, -, -, -⟩ := q312
            refine gv_callV hD rfl (As := []) (st := []) rfl (by decide) rfl rfl (gr_lV hws rfl) (Nat.le_of_ble_eq_true rfl) (gz_Ev_mono (d := 10) (by decide) E312) ?_
            show gv_X _ _ (123, [(0, .inr (.inr (some 0))), (1, .inl (I 0 6)), (2, .inl v2_18), (3, .inl v3_29)], [], gr_sh ++ ext, gr_h I313 J314)
            refine gv_run 2 true hD (pc' := 125) (lv' := [(0, .inr (.inr (some 0))), (1, .inl (I 0 6)), (2, .inl v2_18), (3, .inl v3_29)]) (st' := [.inl 0, .inr (.inr (some 0))]) (h' := gr_h I313 J314) (C := ((True ∧ True) ∧ True)) rfl ⟨⟨trivial, trivial⟩, trivial⟩ ?_
            obtain ⟨r329, h329, E329, P329⟩ := r_side_p (ws0 := ws0) (tb := tb) hws htb ext β N9 (gs_X β N9 p_29) I313 J314 hI313 0 ⟨by omega, by omega⟩ (gr_ATp_rr A327).1 (gr_ATp_rr A327).2.1 (gr_ATp_rr A327).2.2.1 (gr_ATp_rr A327).2.2.2.1 (gr_ATp_rr A327).2.2.2.2 (by omega) (by omega) A327 (by omega)
            obtain ⟨I330, J331, rfl, hI330, g329, k329, ⟨z329, rfl, q329⟩⟩ := P329
            have FI330 := gr_frt FI313 g329 rfl rfl
            have FJ331 := gr_fjt FJ314 k329 rfl rfl
            have t332 := g329 0 69 rfl
            have t333 := g329 0 6 rfl
            have t334 := g329 16 (Int.toNat ((I 0 6))) rfl
            have f335 := (show 0 ≤ I330 0 71 ∧ I330 0 71 ≤ 5 from (hI330 0 71).1)
            have f336 := (show 0 ≤ I330 0 72 ∧ I330 0 72 ≤ 1000 from (hI330 0 72).1)
            have f337 := (show 0 ≤ I330 0 73 ∧ I330 0 73 ≤ 1001 from (hI330 0 73).1)
            have f338 := (show 0 ≤ I330 0 69 ∧ I330 0 69 ≤ 1000 from (hI330 0 69).1)
            have f339 := (show (-1) ≤ I330 0 6 ∧ I330 0 6 ≤ 7 from (hI330 0 6).1)
            have f340 := (show 0 ≤ I330 0 59 ∧ I330 0 59 ≤ 2000 from (hI330 0 59).1)
            have f341 := (show (-2147483648) ≤ I330 0 104 ∧ I330 0 104 ≤ 2147483647 from (hI330 0 104).1)
            refine gv_callV hD rfl (As := [.inl 0]) (st := []) rfl (by decide) rfl rfl (gr_lV hws rfl) (Nat.le_of_ble_eq_true rfl) (gz_Ev_mono (d := 12) (by decide) E329) ?_
            show gv_X _ _ (128, [(0, .inr (.inr (some 0))), (1, .inl (I 0 6)), (2, .inl v2_18), (3, .inl v3_29)], [.inl z329], gr_sh ++ ext, gr_h I330 J331)
            refine gv_if_eq (t := 148) hD rfl rfl ⟨by omega, by omega⟩ (fun c342 => ?_) (fun c342 => ?_)
            · have Q343 := q329.2.2.2.2.2.2.2.2.2.2.2
              rw [gs_sd_eq (FI313 0 6 rfl) (fun k => (FI313 15 k rfl)) (fun k => (FJ314 22 k rfl))] at Q343
              obtain ⟨u343, u343_⟩ := gs_or0 Q343 (by omega)
              refine gv_run 1 true hD (pc' := 149) (lv' := [(0, .inr (.inr (some 0))), (1, .inl (I 0 6)), (2, .inl v2_18), (3, .inl v3_29)]) (st' := [.inl 0]) (h' := gr_h I330 J331) (C := (True ∧ True)) rfl ⟨trivial, trivial⟩ ?_
              have b344 : (I330 0 71 = 5 ∨ I330 0 73 ≤ I330 0 69) ∧ (I330 0 72 ≤ I330 0 69) ∧ (I330 0 71 = 0 ∨ (I330 0 72 < I330 0 73 ∧ I330 0 72 < I330 0 69)) ∧ (I330 0 71 = 3 → 2 ≤ I330 0 73 - I330 0 72 ∧ I330 0 73 - I330 0 72 ≤ 14) ∧ (I330 0 72 ≤ I330 0 73) ∧ (I330 0 69 = I 0 69) ∧ (I 0 73 ≤ I330 0 73) ∧ (I 0 72 ≤ I330 0 72) ∧ (I330 0 59 - I330 0 72 ≤ I 0 59 - I 0 72) := by omega
              exact gv_zret hD rfl (by omega) ⟨I330, J331, rfl, hI330, FI330, FJ331, ⟨_, rfl, by omega, by omega, b344.1, b344.2.1, b344.2.2.1, b344.2.2.2.1, b344.2.2.2.2.1, b344.2.2.2.2.2.1, b344.2.2.2.2.2.2.1, b344.2.2.2.2.2.2.2.1, b344.2.2.2.2.2.2.2.2, (Or.inr ⟨by omega, by first | (exfalso; omega) | (rw [e3_253]; unfold gs_snd4; (repeat first | rw [if_pos (by omega)] | rw [if_neg (by omega)]); exact ⟨by omega, by omega, (fun j => (((g329 16 j rfl).trans (g312 16 j rfl)).trans (e4_253 j)))⟩)⟩)⟩⟩
            · have Q345 := q329.2.2.2.2.2.2.2.2.2.2.2
              rw [gs_sd_eq (FI313 0 6 rfl) (fun k => (FI313 15 k rfl)) (fun k => (FJ314 22 k rfl))] at Q345
              obtain ⟨u345, A345⟩ := gs_or1 Q345 (by omega)
              have t346 := gr_ATp_l A345
              obtain ⟨_, _, -, _, -, -, _, _, _, _, _, -⟩ := q329
              exact L131 I330 J331 ((gs_sd β N9 I J 3 (gs_X β N9 p_29))) hI330 FI330 FJ331 (by omega) A345 (by rw [e3_253]; unfold gs_snd4; (repeat first | rw [if_pos (by omega)] | rw [if_neg (by omega)])) (fun k => (((g329 16 k rfl).trans (g312 16 k rfl)).trans (e4_253 k)))
          refine gv_run 2 true hD (pc' := 91) (lv' := [(0, .inr (.inr (some 0))), (1, .inl (I 0 6)), (2, .inl v2_18), (3, .inl v3_29), (4, .inl v4_29)]) (st' := [.inl 6, .inl v4_29]) (h' := gr_h I27 J28) (C := ((True ∧ True) ∧ True)) rfl ⟨⟨trivial, trivial⟩, trivial⟩ ?_
          refine gv_icmp_ge (t := 110) hD rfl rfl ⟨⟨by omega, by omega⟩, ⟨by omega, by omega⟩⟩ (fun c347 => ?_) (fun c347 => ?_)
          · refine gv_run 2 true hD (pc' := 113) (lv' := [(0, .inr (.inr (some 0))), (1, .inl (I 0 6)), (2, .inl v2_18), (3, .inl v3_29), (4, .inl v4_29)]) (st' := [.inl 47, .inr (.inr (some 0))]) (h' := gr_h I27 J28) (C := ((True ∧ True) ∧ True)) rfl ⟨⟨trivial, trivial⟩, trivial⟩ ?_
            obtain ⟨r348, h348, E348, P348⟩ := r_sign_p (ws0 := ws0) (tb := tb) hws htb ext β N9 p_29 I27 J28 hI27 47 ⟨by omega, by omega⟩ (fun h9 => by have g9 := (gr_ATp_rr e1_29).2.2.1; omega) e1_29 (by omega)
            obtain ⟨rfl, ⟨z348, rfl, q348⟩⟩ := P348
            have V348 := gs_or_mk q348.2.2.2
            obtain ⟨_, _, o348, -⟩ := q348
            refine gv_callV hD rfl (As := [.inl 47]) (st := []) rfl (by decide) rfl rfl (gr_lV hws rfl) (Nat.le_of_ble_eq_true rfl) (gz_Ev_mono (d := 1) (by decide) E348) ?_
            show gv_X _ _ (116, [(0, .inr (.inr (some 0))), (1, .inl (I 0 6)), (2, .inl v2_18), (3, .inl v3_29), (4, .inl v4_29)], [.inl z348], gr_sh ++ ext, gr_h I27 J28)
            refine gv_if_eq (t := 150) hD rfl rfl ⟨by omega, by omega⟩ (fun c349 => ?_) (fun c349 => ?_)
            · have u350 := gs_or0 V348 (by omega)
              clear o348 V348
              refine gv_pick [0, 1, 2, 3] rfl ?_
              exact L150 I27 J28 p_29 hI27 FI27 FJ28 (by omega) e1_29 (by rw [e2_29]; unfold gs_snd3; (repeat first | rw [if_pos (by omega)] | rw [if_neg (by omega)])) (fun k => (e3_29 k))
            · have u351 := gs_or1 V348 (by omega)
              have t352 := o348.resolve_left (by omega)
              clear o348 V348
              refine gv_pick [0, 1, 2, 3] rfl ?_
              exact L119 (by omega) e1_29 (by rw [e2_29]; unfold gs_snd3; (repeat first | rw [if_pos (by omega)] | rw [if_neg (by omega)])) (fun k => (e3_29 k))
          · refine gv_run 4 true hD (pc' := 103) (lv' := [(0, .inr (.inr (some 0))), (1, .inl (I 0 6)), (2, .inl v2_18), (3, .inl v3_29), (4, .inl v4_29)]) (st' := [.inl 2147483647, .inl v4_29, .inr (.inr (some 63))]) (h' := gr_h I27 J28) (C := ((((True ∧ True) ∧ True) ∧ True) ∧ True)) rfl ⟨⟨⟨⟨trivial, trivial⟩, trivial⟩, trivial⟩, trivial⟩ ?_
            refine gv_run 1 true hD (pc' := 104) (lv' := [(0, .inr (.inr (some 0))), (1, .inl (I 0 6)), (2, .inl v2_18), (3, .inl v3_29), (4, .inl v4_29)]) (st' := []) (h' := gz_up (gr_h I27 J28) 63 (Int.toNat v4_29) (.inl 2147483647)) (C := (True ∧ (0 ≤ v4_29 ∧ v4_29 < ((6 : Nat) : Int)))) rfl ⟨trivial, ⟨by omega, by omega⟩⟩ ?_
            refine gr_st hI27 FI27 rfl rfl ⟨⟨by show (-2147483648) ≤ _; omega, by show _ ≤ 2147483647; omega⟩, by show (2147483647 = -2147483648 ∨ 2147483647 = 2147483647 ∨ -16 ≤ 2147483647 ∧ 2147483647 ≤ 32015); omega⟩ (fun I353 hI353 FI353 q354 p354 => ?_)
            have t355 := p354 0 71 (fun q => absurd q.1 (by decide))
            have t356 := p354 0 72 (fun q => absurd q.1 (by decide))
            have t357 := p354 0 73 (fun q => absurd q.1 (by decide))
            have t358 := p354 0 69 (fun q => absurd q.1 (by decide))
            have t359 := p354 0 6 (fun q => absurd q.1 (by decide))
            have t360 := p354 0 59 (fun q => absurd q.1 (by decide))
            have t361 := p354 0 104 (fun q => absurd q.1 (by decide))
            have t362 := p354 16 (Int.toNat ((I 0 6))) (fun q => absurd q.1 (by decide))
            have f363 := (show 0 ≤ I353 0 71 ∧ I353 0 71 ≤ 5 from (hI353 0 71).1)
            have f364 := (show 0 ≤ I353 0 72 ∧ I353 0 72 ≤ 1000 from (hI353 0 72).1)
            have f365 := (show 0 ≤ I353 0 73 ∧ I353 0 73 ≤ 1001 from (hI353 0 73).1)
            have f366 := (show 0 ≤ I353 0 69 ∧ I353 0 69 ≤ 1000 from (hI353 0 69).1)
            have f367 := (show (-1) ≤ I353 0 6 ∧ I353 0 6 ≤ 7 from (hI353 0 6).1)
            have f368 := (show 0 ≤ I353 0 59 ∧ I353 0 59 ≤ 2000 from (hI353 0 59).1)
            have f369 := (show (-2147483648) ≤ I353 0 104 ∧ I353 0 104 ≤ 2147483647 from (hI353 0 104).1)
            have A370 := gr_ATp_sr e1_29 p354 rfl
            refine gv_run 2 true hD (pc' := 87) (lv' := [(4, .inl (v4_29 + 1)), (0, .inr (.inr (some 0))), (1, .inl (I 0 6)), (2, .inl v2_18), (3, .inl v3_29)]) (st' := []) (h' := gr_h I353 J28) (C := ((True ∧ True) ∧ True)) rfl ⟨⟨trivial, trivial⟩, trivial⟩ ?_
            refine gv_pick [1, 2, 3, 4, 0] rfl ?_
            exact ih87 I353 J28 v3_29 (v4_29 + 1) p_29 (by omega) hI353 FI353 FJ28 (by omega) A370 e2_29 (fun k => ((p354 16 k (fun q => absurd q.1 (by decide))).trans (e3_29 k)))
      have f371 := (show 0 ≤ I16 0 71 ∧ I16 0 71 ≤ 5 from (hI16 0 71).1)
      refine gv_run 3 true hD (pc' := 66) (lv' := [(0, .inr (.inr (some 0))), (1, .inl (I 0 6)), (2, .inl v2_18)]) (st' := [.inl 3, .inl (I16 0 71)]) (h' := gr_h I16 J17) (C := (((True ∧ True) ∧ True) ∧ True)) rfl ⟨⟨⟨trivial, trivial⟩, trivial⟩, trivial⟩ ?_
      refine gv_icmp_eq (t := 75) hD rfl rfl ⟨⟨by omega, by omega⟩, ⟨by omega, by omega⟩⟩ (fun c372 => ?_) (fun c372 => ?_)
      · have t373 := (gr_ATp_k e1_18 (c := 3) (by omega)).mp (by omega)
        refine gv_run 1 true hD (pc' := 76) (lv' := [(0, .inr (.inr (some 0))), (1, .inl (I 0 6)), (2, .inl v2_18)]) (st' := [.inr (.inr (some 0))]) (h' := gr_h I16 J17) (C := (True ∧ True)) rfl ⟨trivial, trivial⟩ ?_
        obtain ⟨r374, h374, E374, P374⟩ := r_keeps_p (ws0 := ws0) (tb := tb) hws htb ext I16 J17 hI16   (by omega) ((gr_ATp_rr e1_18).2.2.2.1 (by omega)).2 ((gr_ATp_rr e1_18).2.2.2.1 (by omega)).1 (by have h9 := (gr_ATp_rr e1_18).1.resolve_left (by omega); omega)
        obtain ⟨I375, J376, rfl, hI375, g374, k374, ⟨z374, rfl, q374⟩⟩ := P374
        have FI375 := gr_frt FI16 g374 rfl rfl
        have FJ376 := gr_fjt FJ17 k374 rfl rfl
        have t377 := g374 0 71 rfl
        have t378 := g374 0 72 rfl
        have t379 := g374 0 73 rfl
        have t380 := g374 0 69 rfl
        have t381 := g374 0 6 rfl
        have t382 := g374 0 104 rfl
        have t383 := g374 16 (Int.toNat ((I 0 6))) rfl
        have f384 := (show 0 ≤ I375 0 71 ∧ I375 0 71 ≤ 5 from (hI375 0 71).1)
        have f385 := (show 0 ≤ I375 0 72 ∧ I375 0 72 ≤ 1000 from (hI375 0 72).1)
        have f386 := (show 0 ≤ I375 0 73 ∧ I375 0 73 ≤ 1001 from (hI375 0 73).1)
        have f387 := (show 0 ≤ I375 0 69 ∧ I375 0 69 ≤ 1000 from (hI375 0 69).1)
        have f388 := (show (-1) ≤ I375 0 6 ∧ I375 0 6 ≤ 7 from (hI375 0 6).1)
        have f389 := (show 0 ≤ I375 0 59 ∧ I375 0 59 ≤ 2000 from (hI375 0 59).1)
        have f390 := (show (-2147483648) ≤ I375 0 104 ∧ I375 0 104 ≤ 2147483647 from (hI375 0 104).1)
        have A391 := gr_ATp_F e1_18 g374 k374 rfl
        have t392 := gr_ATp_l A391
        refine gv_callV hD rfl (As := []) (st := []) rfl (by decide) rfl rfl (gr_lV hws rfl) (Nat.le_of_ble_eq_true rfl) (gz_Ev_mono (d := 2) (by decide) E374) ?_
        show gv_X _ _ (79, [(0, .inr (.inr (some 0))), (1, .inl (I 0 6)), (2, .inl v2_18)], [.inl z374], gr_sh ++ ext, gr_h I375 J376)
        refine gv_run 2 true hD (pc' := 81) (lv' := [(3, .inl z374), (0, .inr (.inr (some 0))), (1, .inl (I 0 6)), (2, .inl v2_18)]) (st' := [.inr (.inr (some 0))]) (h' := gr_h I375 J376) (C := ((True ∧ True) ∧ True)) rfl ⟨⟨trivial, trivial⟩, trivial⟩ ?_
        obtain ⟨r393, h393, E393, P393⟩ := r_next_p (ws0 := ws0) (tb := tb) hws htb ext β N9 I375 J376 hI375   ((gr_ATp_rr A391).1.resolve_left (by omega)) A391.1.1 A391.1.2
        obtain ⟨I394, J395, rfl, hI394, g393, k393, ⟨rfl, q393⟩⟩ := P393
        have FI394 := gr_frt FI375 g393 rfl rfl
        have FJ395 := gr_fjt FJ376 k393 rfl rfl
        have t396 := g393 0 69 rfl
        have t397 := g393 0 6 rfl
        have t398 := g393 0 59 rfl
        have t399 := g393 0 104 rfl
        have t400 := g393 16 (Int.toNat ((I 0 6))) rfl
        have f401 := (show 0 ≤ I394 0 71 ∧ I394 0 71 ≤ 5 from (hI394 0 71).1)
        have f402 := (show 0 ≤ I394 0 72 ∧ I394 0 72 ≤ 1000 from (hI394 0 72).1)
        have f403 := (show 0 ≤ I394 0 73 ∧ I394 0 73 ≤ 1001 from (hI394 0 73).1)
        have f404 := (show 0 ≤ I394 0 69 ∧ I394 0 69 ≤ 1000 from (hI394 0 69).1)
        have f405 := (show (-1) ≤ I394 0 6 ∧ I394 0 6 ≤ 7 from (hI394 0 6).1)
        have f406 := (show 0 ≤ I394 0 59 ∧ I394 0 59 ≤ 2000 from (hI394 0 59).1)
        have f407 := (show (-2147483648) ≤ I394 0 104 ∧ I394 0 104 ≤ 2147483647 from (hI394 0 104).1)
        have A408 := gr_ATp_nx A391 q393.2.2.2.2.2
        have t409 := gr_ATp_l A408
        obtain ⟨_, _, -, -, -, -⟩ := q393
        refine gv_callV hD rfl (As := []) (st := []) rfl (by decide) rfl rfl (gr_lV hws rfl) (Nat.le_of_ble_eq_true rfl) (gz_Ev_mono (d := 10) (by decide) E393) ?_
        show gv_X _ _ (84, [(3, .inl z374), (0, .inr (.inr (some 0))), (1, .inl (I 0 6)), (2, .inl v2_18)], [], gr_sh ++ ext, gr_h I394 J395)
        refine gv_run 2 true hD (pc' := 87) (lv' := [(4, .inl 0), (3, .inl z374), (0, .inr (.inr (some 0))), (1, .inl (I 0 6)), (2, .inl v2_18)]) (st' := []) (h' := gr_h I394 J395) (C := ((True ∧ True) ∧ True)) rfl ⟨⟨trivial, trivial⟩, trivial⟩ ?_
        refine gv_pick [2, 3, 4, 1, 0] rfl ?_
        exact L87 _ I394 J395 z374 0 (gs_X β N9 p_18) (Nat.lt_succ_self _) hI394 FI394 FJ395 (by omega) A408 (by rw [e2_18]; unfold gs_snd2; (repeat first | rw [if_pos (by omega)] | rw [if_neg (by omega)])) (fun k => (((g393 16 k rfl).trans (g374 16 k rfl)).trans (e3_18 k)))
      · have t410 := gr_ATp_ne e1_18 (c := 3) (by omega) (by omega)
        refine gv_run 2 true hD (pc' := 71) (lv' := [(0, .inr (.inr (some 0))), (1, .inl (I 0 6)), (2, .inl v2_18)]) (st' := [.inl 1, .inr (.inr (some 0))]) (h' := gr_h I16 J17) (C := ((True ∧ True) ∧ True)) rfl ⟨⟨trivial, trivial⟩, trivial⟩ ?_
        obtain ⟨r411, h411, E411, P411⟩ := r_no__p (ws0 := ws0) (tb := tb) hws htb ext β N9 p_18 I16 J17 hI16 1 ⟨by omega, by omega⟩ e1_18 (by omega)
        obtain ⟨I412, J413, rfl, hI412, g411, k411, ⟨z411, rfl, q411⟩⟩ := P411
        have FI412 := gr_frt FI16 g411 rfl rfl
        have FJ413 := gr_fjt FJ17 k411 rfl rfl
        have t414 := g411 0 71 rfl
        have t415 := g411 0 72 rfl
        have t416 := g411 0 73 rfl
        have t417 := g411 0 69 rfl
        have t418 := g411 0 6 rfl
        have t419 := g411 0 59 rfl
        have t420 := g411 0 104 rfl
        have t421 := g411 16 (Int.toNat ((I 0 6))) rfl
        have f422 := (show 0 ≤ I412 0 71 ∧ I412 0 71 ≤ 5 from (hI412 0 71).1)
        have f423 := (show 0 ≤ I412 0 72 ∧ I412 0 72 ≤ 1000 from (hI412 0 72).1)
        have f424 := (show 0 ≤ I412 0 73 ∧ I412 0 73 ≤ 1001 from (hI412 0 73).1)
        have f425 := (show 0 ≤ I412 0 69 ∧ I412 0 69 ≤ 1000 from (hI412 0 69).1)
        have f426 := (show (-1) ≤ I412 0 6 ∧ I412 0 6 ≤ 7 from (hI412 0 6).1)
        have f427 := (show 0 ≤ I412 0 59 ∧ I412 0 59 ≤ 2000 from (hI412 0 59).1)
        have f428 := (show (-2147483648) ≤ I412 0 104 ∧ I412 0 104 ≤ 2147483647 from (hI412 0 104).1)
        have A429 := gr_ATp_F e1_18 g411 k411 rfl
        have t430 := gr_ATp_l A429
        refine gv_callV hD rfl (As := [.inl 1]) (st := []) rfl (by decide) rfl rfl (gr_lV hws rfl) (Nat.le_of_ble_eq_true rfl) (gz_Ev_mono (d := 2) (by decide) E411) ?_
        show gv_X _ _ (74, [(0, .inr (.inr (some 0))), (1, .inl (I 0 6)), (2, .inl v2_18)], [.inl z411], gr_sh ++ ext, gr_h I412 J413)
        have b431 : (I412 0 69 = I 0 69) ∧ (I 0 73 ≤ I412 0 73) ∧ (I 0 72 ≤ I412 0 72) ∧ (I412 0 59 - I412 0 72 ≤ I 0 59 - I 0 72) := by omega
        exact gv_zret hD rfl (by omega) ⟨I412, J413, rfl, hI412, FI412, FJ413, ⟨_, rfl, by omega, by omega, (gr_ATp_rr A429).1, (gr_ATp_rr A429).2.1, (gr_ATp_rr A429).2.2.1, (gr_ATp_rr A429).2.2.2.1, (gr_ATp_rr A429).2.2.2.2, b431.1, b431.2.1, b431.2.2.1, b431.2.2.2, (Or.inr ⟨by omega, by first | (exfalso; omega) | (rw [e2_18]; unfold gs_snd2; (repeat first | rw [if_pos (by omega)] | rw [if_neg (by omega)]); exact ⟨by omega, by omega, (fun j => ((g411 16 j rfl).trans (e3_18 j)))⟩)⟩)⟩⟩
    refine gv_run 2 true hD (pc' := 37) (lv' := [(0, .inr (.inr (some 0))), (1, .inl (I 0 6))]) (st' := [.inl 0, .inr (.inr (some 0))]) (h' := gr_h I J) (C := ((True ∧ True) ∧ True)) rfl ⟨⟨trivial, trivial⟩, trivial⟩ ?_
    obtain ⟨r432, h432, E432, P432⟩ := r_context_p (ws0 := ws0) (tb := tb) hws htb ext β N9 p9 I J hI 0 ⟨by omega, by omega⟩ (gr_ATp_rr x7).1 (gr_ATp_rr x7).2.1 (gr_ATp_rr x7).2.2.1 (gr_ATp_rr x7).2.2.2.1 (gr_ATp_rr x7).2.2.2.2 (by omega) (by omega) x7 (by omega)
    obtain ⟨I433, J434, rfl, hI433, g432, k432, ⟨z432, rfl, q432⟩⟩ := P432
    have FI433 := gr_frt FI g432 rfl rfl
    have FJ434 := gr_fjt FJ k432 rfl rfl
    have t435 := g432 0 69 rfl
    have t436 := g432 0 6 rfl
    have t437 := g432 16 (Int.toNat ((I 0 6))) rfl
    have f438 := (show 0 ≤ I433 0 71 ∧ I433 0 71 ≤ 5 from (hI433 0 71).1)
    have f439 := (show 0 ≤ I433 0 72 ∧ I433 0 72 ≤ 1000 from (hI433 0 72).1)
    have f440 := (show 0 ≤ I433 0 73 ∧ I433 0 73 ≤ 1001 from (hI433 0 73).1)
    have f441 := (show 0 ≤ I433 0 69 ∧ I433 0 69 ≤ 1000 from (hI433 0 69).1)
    have f442 := (show (-1) ≤ I433 0 6 ∧ I433 0 6 ≤ 7 from (hI433 0 6).1)
    have f443 := (show 0 ≤ I433 0 59 ∧ I433 0 59 ≤ 2000 from (hI433 0 59).1)
    have f444 := (show (-2147483648) ≤ I433 0 104 ∧ I433 0 104 ≤ 2147483647 from (hI433 0 104).1)
    refine gv_callV hD rfl (As := [.inl 0]) (st := []) rfl (by decide) rfl rfl (gr_lV hws rfl) (Nat.le_of_ble_eq_true rfl) (gz_Ev_mono (d := 11) (by decide) E432) ?_
    show gv_X _ _ (40, [(0, .inr (.inr (some 0))), (1, .inl (I 0 6))], [.inl z432], gr_sh ++ ext, gr_h I433 J434)
    refine gv_if_ne (t := 45) hD rfl rfl ⟨by omega, by omega⟩ (fun c445 => ?_) (fun c445 => ?_)
    · obtain ⟨u446, A446⟩ := gs_or1 q432.2.2.2.2.2.2.2.2.2.2.2.2 (by omega)
      have t447 := gr_ATp_l A446
      have t448 := (q432.2.2.2.2.2.2.2.2.2.2.2.1).resolve_left (by omega)
      obtain ⟨_, _, -, _, -, -, _, _, _, _, _, -, -⟩ := q432
      have f449 := (show ((-2147483648) ≤ I433 0 104 ∧ I433 0 104 ≤ 2147483647) ∧ ((I433 0 104) = -2147483648 ∨ (I433 0 104) = 2147483647 ∨ -16 ≤ (I433 0 104) ∧ (I433 0 104) ≤ 32015) from hI433 0 104)
      refine gv_run 5 true hD (pc' := 53) (lv' := [(2, .inl (I433 0 104)), (0, .inr (.inr (some 0))), (1, .inl (I 0 6))]) (st' := [.inl 62, .inr (.inr (some 0))]) (h' := gr_h I433 J434) (C := (((((True ∧ True) ∧ True) ∧ True) ∧ True) ∧ True)) rfl ⟨⟨⟨⟨⟨trivial, trivial⟩, trivial⟩, trivial⟩, trivial⟩, trivial⟩ ?_
      obtain ⟨r450, h450, E450, P450⟩ := r_need_p (ws0 := ws0) (tb := tb) hws htb ext β N9 (gs_ctx β N9 I J 0 p9) I433 J434 hI433 62 ⟨by omega, by omega⟩ (gr_ATp_rr A446).1 (gr_ATp_rr A446).2.1 (gr_ATp_rr A446).2.2.1 (gr_ATp_rr A446).2.2.2.1 (gr_ATp_rr A446).2.2.2.2 A446 (by omega)
      obtain ⟨I451, J452, rfl, hI451, g450, k450, ⟨z450, rfl, q450⟩⟩ := P450
      have FI451 := gr_frt FI433 g450 rfl rfl
      have FJ452 := gr_fjt FJ434 k450 rfl rfl
      have t453 := g450 0 69 rfl
      have t454 := g450 0 6 rfl
      have t455 := g450 0 59 rfl
      have t456 := g450 0 104 rfl
      have t457 := g450 16 (Int.toNat ((I 0 6))) rfl
      have f458 := (show 0 ≤ I451 0 71 ∧ I451 0 71 ≤ 5 from (hI451 0 71).1)
      have f459 := (show 0 ≤ I451 0 72 ∧ I451 0 72 ≤ 1000 from (hI451 0 72).1)
      have f460 := (show 0 ≤ I451 0 73 ∧ I451 0 73 ≤ 1001 from (hI451 0 73).1)
      have f461 := (show 0 ≤ I451 0 69 ∧ I451 0 69 ≤ 1000 from (hI451 0 69).1)
      have f462 := (show (-1) ≤ I451 0 6 ∧ I451 0 6 ≤ 7 from (hI451 0 6).1)
      have f463 := (show 0 ≤ I451 0 59 ∧ I451 0 59 ≤ 2000 from (hI451 0 59).1)
      have f464 := (show (-2147483648) ≤ I451 0 104 ∧ I451 0 104 ≤ 2147483647 from (hI451 0 104).1)
      refine gv_callV hD rfl (As := [.inl 62]) (st := []) rfl (by decide) rfl rfl (gr_lV hws rfl) (Nat.le_of_ble_eq_true rfl) (gz_Ev_mono (d := 11) (by decide) E450) ?_
      show gv_X _ _ (56, [(2, .inl (I433 0 104)), (0, .inr (.inr (some 0))), (1, .inl (I 0 6))], [.inl z450], gr_sh ++ ext, gr_h I451 J452)
      refine gv_if_ne (t := 61) hD rfl rfl ⟨by omega, by omega⟩ (fun c465 => ?_) (fun c465 => ?_)
      · obtain ⟨u466, A466⟩ := gs_or1 q450.2.2.2.2.2.2.2.2.2.2.2 (by omega)
        have t467 := gr_ATp_l A466
        have t468 := (q450.2.2.2.2.2.2.2.2.2.2.1).resolve_left (by omega)
        obtain ⟨_, _, -, _, -, -, _, _, _, _, -, -⟩ := q450
        refine gv_pick [1, 2, 0] rfl ?_
        exact L61 I451 J452 (I433 0 104) ((gs_need β N9 62 (gs_ctx β N9 I J 0 p9))) hI451 FI451 FJ452 (by omega) A466 (by rw [e0_8]; unfold gs_snd1; (repeat first | rw [if_pos (by omega)] | rw [if_neg (by omega)])) (fun k => ((g450 16 k rfl).trans (g432 16 k rfl)))
      · obtain ⟨u469, u469_⟩ := gs_or0 q450.2.2.2.2.2.2.2.2.2.2.2 (by omega)
        refine gv_run 1 true hD (pc' := 60) (lv' := [(2, .inl (I433 0 104)), (0, .inr (.inr (some 0))), (1, .inl (I 0 6))]) (st' := [.inl 0]) (h' := gr_h I451 J452) (C := (True ∧ True)) rfl ⟨trivial, trivial⟩ ?_
        have b470 : (I451 0 71 = 5 ∨ I451 0 73 ≤ I451 0 69) ∧ (I451 0 72 ≤ I451 0 69) ∧ (I451 0 71 = 0 ∨ (I451 0 72 < I451 0 73 ∧ I451 0 72 < I451 0 69)) ∧ (I451 0 71 = 3 → 2 ≤ I451 0 73 - I451 0 72 ∧ I451 0 73 - I451 0 72 ≤ 14) ∧ (I451 0 72 ≤ I451 0 73) ∧ (I451 0 69 = I 0 69) ∧ (I 0 73 ≤ I451 0 73) ∧ (I 0 72 ≤ I451 0 72) ∧ (I451 0 59 - I451 0 72 ≤ I 0 59 - I 0 72) := by omega
        exact gv_zret hD rfl (by omega) ⟨I451, J452, rfl, hI451, FI451, FJ452, ⟨_, rfl, by omega, by omega, b470.1, b470.2.1, b470.2.2.1, b470.2.2.2.1, b470.2.2.2.2.1, b470.2.2.2.2.2.1, b470.2.2.2.2.2.2.1, b470.2.2.2.2.2.2.2.1, b470.2.2.2.2.2.2.2.2, (Or.inr ⟨by omega, by first | (exfalso; omega) | (rw [e0_8]; unfold gs_snd1 gs_snd2; (repeat first | rw [if_pos (by omega)] | rw [if_neg (by omega)]); exact ⟨by omega, by omega, (fun j => ((g450 16 j rfl).trans (g432 16 j rfl)))⟩)⟩)⟩⟩
    · obtain ⟨u471, u471_⟩ := gs_or0 q432.2.2.2.2.2.2.2.2.2.2.2.2 (by omega)
      refine gv_run 1 true hD (pc' := 44) (lv' := [(0, .inr (.inr (some 0))), (1, .inl (I 0 6))]) (st' := [.inl 0]) (h' := gr_h I433 J434) (C := (True ∧ True)) rfl ⟨trivial, trivial⟩ ?_
      have b472 : (I433 0 71 = 5 ∨ I433 0 73 ≤ I433 0 69) ∧ (I433 0 72 ≤ I433 0 69) ∧ (I433 0 71 = 0 ∨ (I433 0 72 < I433 0 73 ∧ I433 0 72 < I433 0 69)) ∧ (I433 0 71 = 3 → 2 ≤ I433 0 73 - I433 0 72 ∧ I433 0 73 - I433 0 72 ≤ 14) ∧ (I433 0 72 ≤ I433 0 73) ∧ (I433 0 69 = I 0 69) ∧ (I 0 73 ≤ I433 0 73) ∧ (I 0 72 ≤ I433 0 72) ∧ (I433 0 59 - I433 0 72 ≤ I 0 59 - I 0 72) := by omega
      exact gv_zret hD rfl (by omega) ⟨I433, J434, rfl, hI433, FI433, FJ434, ⟨_, rfl, by omega, by omega, b472.1, b472.2.1, b472.2.2.1, b472.2.2.2.1, b472.2.2.2.2.1, b472.2.2.2.2.2.1, b472.2.2.2.2.2.2.1, b472.2.2.2.2.2.2.2.1, b472.2.2.2.2.2.2.2.2, (Or.inr ⟨by omega, by first | (exfalso; omega) | (rw [e0_8]; unfold gs_snd1 gs_snd2; (repeat first | rw [if_pos (by omega)] | rw [if_neg (by omega)]); exact ⟨by omega, by omega, (fun j => (g432 16 j rfl))⟩)⟩)⟩⟩
  have f473 := (show (-1) ≤ I 0 6 ∧ I 0 6 ≤ 7 from (hI 0 6).1)
  have f474 := (show 0 ≤ I 0 71 ∧ I 0 71 ≤ 5 from (hI 0 71).1)
  refine gv_run 6 true hD (pc' := 10) (lv' := [(1, .inl (I 0 6)), (0, .inr (.inr (some 0)))]) (st' := [.inl 3, .inl (I 0 71)]) (h' := gr_h I J) (C := ((((((True ∧ True) ∧ True) ∧ True) ∧ True) ∧ True) ∧ True)) rfl ⟨⟨⟨⟨⟨⟨trivial, trivial⟩, trivial⟩, trivial⟩, trivial⟩, trivial⟩, trivial⟩ ?_
  refine gv_icmp_ne (t := 35) hD rfl rfl ⟨⟨by omega, by omega⟩, ⟨by omega, by omega⟩⟩ (fun c475 => ?_) (fun c475 => ?_)
  · have t476 := gr_ATp_ne x7 (c := 3) (by omega) (by omega)
    refine gv_pick [1, 0] rfl ?_
    exact L35 (I 0 6) (by omega) (if_neg (by omega)) rfl
  · have t477 := (gr_ATp_k x7 (c := 3) (by omega)).mp (by omega)
    refine gv_run 1 true hD (pc' := 14) (lv' := [(1, .inl (I 0 6)), (0, .inr (.inr (some 0)))]) (st' := [.inr (.inr (some 0))]) (h' := gr_h I J) (C := (True ∧ True)) rfl ⟨trivial, trivial⟩ ?_
    obtain ⟨r478, h478, E478, P478⟩ := r_size (ws0 := ws0) (tb := tb) hws htb ext I J hI   
    obtain ⟨rfl, ⟨z478, rfl, q478⟩⟩ := P478
    refine gv_callV hD rfl (As := []) (st := []) rfl (by decide) rfl rfl (gr_lV hws rfl) (Nat.le_of_ble_eq_true rfl) (gz_Ev_mono (d := 1) (by decide) E478) ?_
    show gv_X _ _ (17, [(1, .inl (I 0 6)), (0, .inr (.inr (some 0)))], [.inl z478], gr_sh ++ ext, gr_h I J)
    refine gv_run 1 true hD (pc' := 18) (lv' := [(1, .inl (I 0 6)), (0, .inr (.inr (some 0)))]) (st' := [.inl 1, .inl z478]) (h' := gr_h I J) (C := (True ∧ True)) rfl ⟨trivial, trivial⟩ ?_
    refine gv_icmp_lt (t := 29) hD rfl rfl ⟨⟨by omega, by omega⟩, ⟨by omega, by omega⟩⟩ (fun c479 => ?_) (fun c479 => ?_)
    · refine gv_run 2 true hD (pc' := 31) (lv' := [(1, .inl (I 0 6)), (0, .inr (.inr (some 0)))]) (st' := [.inl 5, .inr (.inr (some 0))]) (h' := gr_h I J) (C := ((True ∧ True) ∧ True)) rfl ⟨⟨trivial, trivial⟩, trivial⟩ ?_
      obtain ⟨r480, h480, E480, P480⟩ := r_no__p (ws0 := ws0) (tb := tb) hws htb ext β N9 p9 I J hI 5 ⟨by omega, by omega⟩ x7 (by omega)
      obtain ⟨I481, J482, rfl, hI481, g480, k480, ⟨z480, rfl, q480⟩⟩ := P480
      have FI481 := gr_frt FI g480 rfl rfl
      have FJ482 := gr_fjt FJ k480 rfl rfl
      have t483 := g480 0 71 rfl
      have t484 := g480 0 72 rfl
      have t485 := g480 0 73 rfl
      have t486 := g480 0 69 rfl
      have t487 := g480 0 6 rfl
      have t488 := g480 0 59 rfl
      have t489 := g480 0 104 rfl
      have t490 := g480 16 (Int.toNat ((I 0 6))) rfl
      have f491 := (show 0 ≤ I481 0 71 ∧ I481 0 71 ≤ 5 from (hI481 0 71).1)
      have f492 := (show 0 ≤ I481 0 72 ∧ I481 0 72 ≤ 1000 from (hI481 0 72).1)
      have f493 := (show 0 ≤ I481 0 73 ∧ I481 0 73 ≤ 1001 from (hI481 0 73).1)
      have f494 := (show 0 ≤ I481 0 69 ∧ I481 0 69 ≤ 1000 from (hI481 0 69).1)
      have f495 := (show (-1) ≤ I481 0 6 ∧ I481 0 6 ≤ 7 from (hI481 0 6).1)
      have f496 := (show 0 ≤ I481 0 59 ∧ I481 0 59 ≤ 2000 from (hI481 0 59).1)
      have f497 := (show (-2147483648) ≤ I481 0 104 ∧ I481 0 104 ≤ 2147483647 from (hI481 0 104).1)
      have A498 := gr_ATp_F x7 g480 k480 rfl
      have t499 := gr_ATp_l A498
      refine gv_callV hD rfl (As := [.inl 5]) (st := []) rfl (by decide) rfl rfl (gr_lV hws rfl) (Nat.le_of_ble_eq_true rfl) (gz_Ev_mono (d := 2) (by decide) E480) ?_
      show gv_X _ _ (34, [(1, .inl (I 0 6)), (0, .inr (.inr (some 0)))], [.inl z480], gr_sh ++ ext, gr_h I481 J482)
      have b500 : (I481 0 69 = I 0 69) ∧ (I 0 73 ≤ I481 0 73) ∧ (I 0 72 ≤ I481 0 72) ∧ (I481 0 59 - I481 0 72 ≤ I 0 59 - I 0 72) := by omega
      exact gv_zret hD rfl (by omega) ⟨I481, J482, rfl, hI481, FI481, FJ482, ⟨_, rfl, by omega, by omega, (gr_ATp_rr A498).1, (gr_ATp_rr A498).2.1, (gr_ATp_rr A498).2.2.1, (gr_ATp_rr A498).2.2.2.1, (gr_ATp_rr A498).2.2.2.2, b500.1, b500.2.1, b500.2.2.1, b500.2.2.2, (Or.inr ⟨by omega, by rw [show (gs_snd β N9 I J (I 0 78) p9) = _ from if_pos (by omega)]; exact ⟨by omega, by omega, (fun j => (g480 16 j rfl))⟩⟩)⟩⟩
    · refine gv_run 1 true hD (pc' := 22) (lv' := [(1, .inl (I 0 6)), (0, .inr (.inr (some 0)))]) (st' := [.inr (.inr (some 0))]) (h' := gr_h I J) (C := (True ∧ True)) rfl ⟨trivial, trivial⟩ ?_
      obtain ⟨r501, h501, E501, P501⟩ := r_size (ws0 := ws0) (tb := tb) hws htb ext I J hI   
      obtain ⟨rfl, ⟨z501, rfl, q501⟩⟩ := P501
      refine gv_callV hD rfl (As := []) (st := []) rfl (by decide) rfl rfl (gr_lV hws rfl) (Nat.le_of_ble_eq_true rfl) (gz_Ev_mono (d := 1) (by decide) E501) ?_
      show gv_X _ _ (25, [(1, .inl (I 0 6)), (0, .inr (.inr (some 0)))], [.inl z501], gr_sh ++ ext, gr_h I J)
      refine gv_run 1 true hD (pc' := 26) (lv' := [(1, .inl (I 0 6)), (0, .inr (.inr (some 0)))]) (st' := [.inl 3, .inl z501]) (h' := gr_h I J) (C := (True ∧ True)) rfl ⟨trivial, trivial⟩ ?_
      refine gv_icmp_le (t := 35) hD rfl rfl ⟨⟨by omega, by omega⟩, ⟨by omega, by omega⟩⟩ (fun c502 => ?_) (fun c502 => ?_)
      · refine gv_pick [1, 0] rfl ?_
        exact L35 (I 0 6) (by omega) (if_neg (by omega)) rfl
      · refine gv_run 2 true hD (pc' := 31) (lv' := [(1, .inl (I 0 6)), (0, .inr (.inr (some 0)))]) (st' := [.inl 5, .inr (.inr (some 0))]) (h' := gr_h I J) (C := ((True ∧ True) ∧ True)) rfl ⟨⟨trivial, trivial⟩, trivial⟩ ?_
        obtain ⟨r503, h503, E503, P503⟩ := r_no__p (ws0 := ws0) (tb := tb) hws htb ext β N9 p9 I J hI 5 ⟨by omega, by omega⟩ x7 (by omega)
        obtain ⟨I504, J505, rfl, hI504, g503, k503, ⟨z503, rfl, q503⟩⟩ := P503
        have FI504 := gr_frt FI g503 rfl rfl
        have FJ505 := gr_fjt FJ k503 rfl rfl
        have t506 := g503 0 71 rfl
        have t507 := g503 0 72 rfl
        have t508 := g503 0 73 rfl
        have t509 := g503 0 69 rfl
        have t510 := g503 0 6 rfl
        have t511 := g503 0 59 rfl
        have t512 := g503 0 104 rfl
        have t513 := g503 16 (Int.toNat ((I 0 6))) rfl
        have f514 := (show 0 ≤ I504 0 71 ∧ I504 0 71 ≤ 5 from (hI504 0 71).1)
        have f515 := (show 0 ≤ I504 0 72 ∧ I504 0 72 ≤ 1000 from (hI504 0 72).1)
        have f516 := (show 0 ≤ I504 0 73 ∧ I504 0 73 ≤ 1001 from (hI504 0 73).1)
        have f517 := (show 0 ≤ I504 0 69 ∧ I504 0 69 ≤ 1000 from (hI504 0 69).1)
        have f518 := (show (-1) ≤ I504 0 6 ∧ I504 0 6 ≤ 7 from (hI504 0 6).1)
        have f519 := (show 0 ≤ I504 0 59 ∧ I504 0 59 ≤ 2000 from (hI504 0 59).1)
        have f520 := (show (-2147483648) ≤ I504 0 104 ∧ I504 0 104 ≤ 2147483647 from (hI504 0 104).1)
        have A521 := gr_ATp_F x7 g503 k503 rfl
        have t522 := gr_ATp_l A521
        refine gv_callV hD rfl (As := [.inl 5]) (st := []) rfl (by decide) rfl rfl (gr_lV hws rfl) (Nat.le_of_ble_eq_true rfl) (gz_Ev_mono (d := 2) (by decide) E503) ?_
        show gv_X _ _ (34, [(1, .inl (I 0 6)), (0, .inr (.inr (some 0)))], [.inl z503], gr_sh ++ ext, gr_h I504 J505)
        have b523 : (I504 0 69 = I 0 69) ∧ (I 0 73 ≤ I504 0 73) ∧ (I 0 72 ≤ I504 0 72) ∧ (I504 0 59 - I504 0 72 ≤ I 0 59 - I 0 72) := by omega
        exact gv_zret hD rfl (by omega) ⟨I504, J505, rfl, hI504, FI504, FJ505, ⟨_, rfl, by omega, by omega, (gr_ATp_rr A521).1, (gr_ATp_rr A521).2.1, (gr_ATp_rr A521).2.2.1, (gr_ATp_rr A521).2.2.2.1, (gr_ATp_rr A521).2.2.2.2, b523.1, b523.2.1, b523.2.2.1, b523.2.2.2, (Or.inr ⟨by omega, by rw [show (gs_snd β N9 I J (I 0 78) p9) = _ from if_pos (by omega)]; exact ⟨by omega, by omega, (fun j => (g503 16 j rfl))⟩⟩)⟩⟩
