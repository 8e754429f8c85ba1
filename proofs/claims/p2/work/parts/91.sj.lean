theorem gr_GR_back {I0 I1 I2 I3 : gr_I} (h0 : gr_GR I0) (h1 : gr_GR I1) (hs : gr_ST I0 I1) (hr : gr_RT8 I0 I1) (hf : gr_FT I1 I2 8) (g3 : ∀ k, I2 36 k = I1 36 k) (g4 : ∀ k, I2 41 k = I1 41 k) (g5 : ∀ k, I2 42 k = I1 42 k) (g6 : ∀ k, I2 43 k = I1 43 k) (g7 : ∀ k, I2 45 k = I1 45 k) (g8 : ∀ k, I2 46 k = I1 46 k) (g9 : ∀ k, I2 47 k = I1 47 k) (g10 : ∀ k, I2 6 k = I1 6 k) (g11 : ∀ k, I2 7 k = I1 7 k) (g12 : ∀ k, I2 8 k = I1 8 k) (h3 : ∀ a k, ¬ (a = 0) → I3 a k = I2 a k) (hu : I3 0 3 = I0 0 3) : gr_GR I3 ∧ gr_ST I0 I3 := by
  have r : ∀ a : Nat, ¬ a = 0 → (∀ k, I2 a k = I1 a k) → ∀ k, I3 a k = I1 a k := fun a ha hk k => (h3 a k ha).trans (hk k)
  refine ⟨⟨fun t k ht hk => ?_, fun t k ht hk => ?_⟩, ⟨⟨by omega, fun f hq => ?_⟩, fun t ht => ?_⟩⟩
  · have e := (gr_back hr hf t ht).2.2.2.2.2.2
    rw [h3 19 t (by decide), e] at hk
    have st := hs.2 t ht
    obtain ⟨a, b⟩ := h1.1 t k ht (by omega)
    obtain ⟨a0, b0⟩ := h0.1 t k ht hk
    refine ⟨a, fun hc => ?_⟩
    have b9 := b hc
    have b8 := (b0 hc).1.1
    have e4 := st.2.1 k hk
    exact gr_LW_c b9 (r _ (by decide) g4 _) (r _ (by decide) g5 _) (r _ (by decide) g7 _) (fun _ _ => r _ (by decide) g6 _) (fun _ _ => r _ (by decide) g8 _) (fun _ _ => r _ (by decide) g9 _) (by rw [hu, e4]; exact b8) (r _ (by decide) g10 _) (fun _ _ => r _ (by decide) g11 _) (r _ (by decide) g12 _)
  · have e := (gr_back hr hf t ht).2.2.2.2.2.1
    rw [h3 18 t (by decide), e] at hk
    have st := hs.2 t ht
    obtain ⟨a, b⟩ := h1.2 t k ht (by omega)
    obtain ⟨a0, b0⟩ := h0.2 t k ht hk
    refine ⟨a, fun hc => ?_⟩
    have b9 := b hc
    have b8 := (b0 hc).1
    have e4 := st.2.2 k hk
    rw [r 36 (by decide) g3, r 6 (by decide) g10, hu]
    exact ⟨by rw [e4]; exact b8, b9.2.1, b9.2.2⟩
  · rw [r 6 (by decide) g10]
    exact hs.1.2 f hq
  · have e := gr_back hr hf t ht
    have st := hs.2 t ht
    rw [h3 19 t (by decide), h3 18 t (by decide), e.2.2.2.2.2.2, e.2.2.2.2.2.1]
    exact ⟨⟨Int.le_refl _, Int.le_refl _⟩, fun k hk => (r 41 (by decide) g4 _).trans (st.2.1 k hk), fun k hk => (r 36 (by decide) g3 _).trans (st.2.2 k hk)⟩
set_option maxHeartbeats 4000000 in
set_option maxRecDepth 100000 in
theorem r_module_w {ws0 : List Cond} {tb : String → gz_T} (hws : ∀ w ∈ gr_ws, w ∈ ws0) (htb : tb RX13 = gr_T) (ext : gz_Sh) (B : Int) (hB : B ≤ 1500) (I : gr_I) (J : gr_J) (hI : gr_Inv I)   (x0 : I 0 59 + I 0 68 ≤ 1900) (x1 : I 0 42 + I 0 68 ≤ 1900) (x2 : I 0 64 + I 0 68 ≤ 1900) (x3 : I 0 100 ≤ 999999) (KTM_I : gr_TM I) (KVF_I : gr_VF I) (KLE_I : gr_LE B I) (KGR_I : gr_GR I) : ∃ r h', gz_Ev ws0 tb 101 (yX13_module, cX13_module, 2, (some .int)) [.inr (.inr (some 0))] (gr_sh ++ ext) (gr_h I J) r (gr_sh ++ ext) h' 0 0 ∧ (∃ (I' : gr_I) (J' : gr_J), h' = gr_h I' J' ∧ gr_Inv I' ∧ gr_fr [0, 1, 2, 3, 4, 5, 6, 42, 59, 64, 68, 69, 71, 72, 73, 74, 75, 76, 77, 78, 79, 99, 100, 101, 104, 106, 118, 119, 120, 122, 123] [1, 2, 3, 4, 5, 6, 7, 8, 9, 10, 11, 12, 13, 14, 15, 16, 17, 18, 19, 20, 21, 22, 23, 24, 25, 26, 27, 28, 29, 30, 31, 32, 33, 34, 35, 36, 37, 38, 39, 40, 41, 42, 43, 44, 45, 46, 47, 48, 49, 50, 51, 52, 53, 54, 55, 56, 57, 59, 60, 61, 62, 63, 64, 65, 66, 67, 68, 69, 70, 71, 72, 73, 74, 75] I I' ∧ gr_fj [0, 1, 2, 3, 4, 5, 6, 42, 59, 64, 68, 69, 71, 72, 73, 74, 75, 76, 77, 78, 79, 99, 100, 101, 104, 106, 118, 119, 120, 122, 123] [1, 2, 3, 4, 5, 6, 7, 8, 9, 10, 11, 12, 13, 14, 15, 16, 17, 18, 19, 20, 21, 22, 23, 24, 25, 26, 27, 28, 29, 30, 31, 32, 33, 34, 35, 36, 37, 38, 39, 40, 41, 42, 43, 44, 45, 46, 47, 48, 49, 50, 51, 52, 53, 54, 55, 56, 57, 59, 60, 61, 62, 63, 64, 65, 66, 67, 68, 69, 70, 71, 72, 73, 74, 75] J J' ∧ gr_TM I' ∧ gr_VF I' ∧ gr_LE B I' ∧ gr_GR I' ∧ (∃ z : Int, r = some (.inl z) ∧ (-1002) ≤ z ∧ z ≤ 1000 ∧ (I' 0 59 ≤ I 0 59 + I 0 68) ∧ (I' 0 42 ≤ I 0 42 + I 0 68) ∧ (I' 0 64 ≤ I 0 64 + I 0 68) ∧ (I' 0 68 = 0) ∧ (I' 0 100 ≤ I 0 100 + 1) ∧ (gr_ST I I'))) := by
  have FI : gr_fr [0, 1, 2, 3, 4, 5, 6, 42, 59, 64, 68, 69, 71, 72, 73, 74, 75, 76, 77, 78, 79, 99, 100, 101, 104, 106, 118, 119, 120, 122, 123] [1, 2, 3, 4, 5, 6, 7, 8, 9, 10, 11, 12, 13, 14, 15, 16, 17, 18, 19, 20, 21, 22, 23, 24, 25, 26, 27, 28, 29, 30, 31, 32, 33, 34, 35, 36, 37, 38, 39, 40, 41, 42, 43, 44, 45, 46, 47, 48, 49, 50, 51, 52, 53, 54, 55, 56, 57, 59, 60, 61, 62, 63, 64, 65, 66, 67, 68, 69, 70, 71, 72, 73, 74, 75] I I := fun _ _ _ => rfl
  have FJ : gr_fj [0, 1, 2, 3, 4, 5, 6, 42, 59, 64, 68, 69, 71, 72, 73, 74, 75, 76, 77, 78, 79, 99, 100, 101, 104, 106, 118, 119, 120, 122, 123] [1, 2, 3, 4, 5, 6, 7, 8, 9, 10, 11, 12, 13, 14, 15, 16, 17, 18, 19, 20, 21, 22, 23, 24, 25, 26, 27, 28, 29, 30, 31, 32, 33, 34, 35, 36, 37, 38, 39, 40, 41, 42, 43, 44, 45, 46, 47, 48, 49, 50, 51, 52, 53, 54, 55, 56, 57, 59, 60, 61, 62, 63, 64, 65, 66, 67, 68, 69, 70, 71, 72, 73, 74, 75] J J := fun _ _ _ => rfl
  have hD : gv_D (gr_E ws0 tb 100 (yX13_module, cX13_module, 2, (some .int)) kX13_module) := gq_ok oX13_module
  refine gr_ev (d := 100) (l := kX13_module) (Po := fun r h' => (∃ (I' : gr_I) (J' : gr_J), h' = gr_h I' J' ∧ gr_Inv I' ∧ gr_fr [0, 1, 2, 3, 4, 5, 6, 42, 59, 64, 68, 69, 71, 72, 73, 74, 75, 76, 77, 78, 79, 99, 100, 101, 104, 106, 118, 119, 120, 122, 123] [1, 2, 3, 4, 5, 6, 7, 8, 9, 10, 11, 12, 13, 14, 15, 16, 17, 18, 19, 20, 21, 22, 23, 24, 25, 26, 27, 28, 29, 30, 31, 32, 33, 34, 35, 36, 37, 38, 39, 40, 41, 42, 43, 44, 45, 46, 47, 48, 49, 50, 51, 52, 53, 54, 55, 56, 57, 59, 60, 61, 62, 63, 64, 65, 66, 67, 68, 69, 70, 71, 72, 73, 74, 75] I I' ∧ gr_fj [0, 1, 2, 3, 4, 5, 6, 42, 59, 64, 68, 69, 71, 72, 73, 74, 75, 76, 77, 78, 79, 99, 100, 101, 104, 106, 118, 119, 120, 122, 123] [1, 2, 3, 4, 5, 6, 7, 8, 9, 10, 11, 12, 13, 14, 15, 16, 17, 18, 19, 20, 21, 22, 23, 24, 25, 26, 27, 28, 29, 30, 31, 32, 33, 34, 35, 36, 37, 38, 39, 40, 41, 42, 43, 44, 45, 46, 47, 48, 49, 50, 51, 52, 53, 54, 55, 56, 57, 59, 60, 61, 62, 63, 64, 65, 66, 67, 68, 69, 70, 71, 72, 73, 74, 75] J J' ∧ gr_TM I' ∧ gr_VF I' ∧ gr_LE B I' ∧ gr_GR I' ∧ (∃ z : Int, r = some (.inl z) ∧ (-1002) ≤ z ∧ z ≤ 1000 ∧ (I' 0 59 ≤ I 0 59 + I 0 68) ∧ (I' 0 42 ≤ I 0 42 + I 0 68) ∧ (I' 0 64 ≤ I 0 64 + I 0 68) ∧ (I' 0 68 = 0) ∧ (I' 0 100 ≤ I 0 100 + 1) ∧ (gr_ST I I')))) htb rfl (Nat.le_of_ble_eq_true rfl) ?_
  obtain ⟨I9, hI9⟩ : ∃ I9 : gr_I, I9 = I := ⟨I, rfl⟩
  have f1 := (show 0 ≤ I 0 71 ∧ I 0 71 ≤ 5 from (hI 0 71).1)
  have f2 := (show 0 ≤ I 0 72 ∧ I 0 72 ≤ 1000 from (hI 0 72).1)
  have f3 := (show 0 ≤ I 0 73 ∧ I 0 73 ≤ 1001 from (hI 0 73).1)
  have f4 := (show 0 ≤ I 0 69 ∧ I 0 69 ≤ 1000 from (hI 0 69).1)
  have f5 := (show 0 ≤ I 0 68 ∧ I 0 68 ≤ 1000 from (hI 0 68).1)
  have f6 := (show 0 ≤ I 0 99 ∧ I 0 99 ≤ 1000 from (hI 0 99).1)
  have f7 := (show 0 ≤ I 0 100 ∧ I 0 100 ≤ 1000000 from (hI 0 100).1)
  have f8 := (show 0 ≤ I 0 1 ∧ I 0 1 ≤ 8 from (hI 0 1).1)
  have f9 := (show 0 ≤ I 0 2 ∧ I 0 2 ≤ 32 from (hI 0 2).1)
  have f10 := (show 0 ≤ I 0 3 ∧ I 0 3 ≤ 96 from (hI 0 3).1)
  have f11 := (show 0 ≤ I 0 4 ∧ I 0 4 ≤ 8 from (hI 0 4).1)
  have f12 := (show 0 ≤ I 0 5 ∧ I 0 5 ≤ 64 from (hI 0 5).1)
  have f13 := (show (-1) ≤ I 0 6 ∧ I 0 6 ≤ 7 from (hI 0 6).1)
  have f14 := (show 0 ≤ I 0 42 ∧ I 0 42 ≤ 2000 from (hI 0 42).1)
  have f15 := (show 0 ≤ I 0 59 ∧ I 0 59 ≤ 2000 from (hI 0 59).1)
  have f16 := (show 0 ≤ I 0 64 ∧ I 0 64 ≤ 2000 from (hI 0 64).1)
  have L29 : ∀ (n : Nat) (I17 : gr_I) (J18 : gr_J) (v1_19 : Int), (1001 - I17 0 72).toNat < n → gr_Inv I17 → gr_fr [0, 1, 2, 3, 4, 5, 6, 42, 59, 64, 68, 69, 71, 72, 73, 74, 75, 76, 77, 78, 79, 99, 100, 101, 104, 106, 118, 119, 120, 122, 123] [1, 2, 3, 4, 5, 6, 7, 8, 9, 10, 11, 12, 13, 14, 15, 16, 17, 18, 19, 20, 21, 22, 23, 24, 25, 26, 27, 28, 29, 30, 31, 32, 33, 34, 35, 36, 37, 38, 39, 40, 41, 42, 43, 44, 45, 46, 47, 48, 49, 50, 51, 52, 53, 54, 55, 56, 57, 59, 60, 61, 62, 63, 64, 65, 66, 67, 68, 69, 70, 71, 72, 73, 74, 75] I I17 → gr_fj [0, 1, 2, 3, 4, 5, 6, 42, 59, 64, 68, 69, 71, 72, 73, 74, 75, 76, 77, 78, 79, 99, 100, 101, 104, 106, 118, 119, 120, 122, 123] [1, 2, 3, 4, 5, 6, 7, 8, 9, 10, 11, 12, 13, 14, 15, 16, 17, 18, 19, 20, 21, 22, 23, 24, 25, 26, 27, 28, 29, 30, 31, 32, 33, 34, 35, 36, 37, 38, 39, 40, 41, 42, 43, 44, 45, 46, 47, 48, 49, 50, 51, 52, 53, 54, 55, 56, 57, 59, 60, 61, 62, 63, 64, 65, 66, 67, 68, 69, 70, 71, 72, 73, 74, 75] J J18 → gr_TM I17 → gr_VF I17 → gr_LN B I17 → gr_RT8 I I17 → gr_GR I17 → gr_ST I9 I17 → ((0 ≤ v1_19 ∧ v1_19 ≤ 1000) ∧ (I17 0 71 = 5 ∨ I17 0 73 ≤ I17 0 69) ∧ (I17 0 72 ≤ I17 0 69) ∧ (I17 0 71 = 0 ∨ (I17 0 72 < I17 0 73 ∧ I17 0 72 < I17 0 69)) ∧ (I17 0 71 = 3 → 2 ≤ I17 0 73 - I17 0 72 ∧ I17 0 73 - I17 0 72 ≤ 14) ∧ (I17 0 72 ≤ I17 0 73) ∧ (I17 0 69 = I 0 68) ∧ (I17 0 68 = 0) ∧ (I17 0 100 = I 0 100) ∧ (v1_19 ≤ I17 0 72) ∧ (I 0 64 ≤ I17 0 64) ∧ (I17 0 99 ≤ I17 0 72) ∧ (I17 0 59 - I17 0 72 ≤ I 0 59) ∧ (I17 0 42 - I17 0 72 ≤ I 0 42) ∧ (I17 0 64 - I17 0 72 ≤ I 0 64) ∧ (I17 59 (Int.toNat 0) = I 0 1) ∧ (I17 59 (Int.toNat ((0 + 1))) = I 0 2) ∧ (I17 59 (Int.toNat (((0 + 1) + 1))) = I 0 3) ∧ (I17 59 (Int.toNat ((((0 + 1) + 1) + 1))) = I 0 4) ∧ (I17 59 (Int.toNat (((((0 + 1) + 1) + 1) + 1))) = I 0 5) ∧ (I17 59 (Int.toNat ((((((0 + 1) + 1) + 1) + 1) + 1))) = I 0 6) ∧ (I17 59 (Int.toNat (((((((0 + 1) + 1) + 1) + 1) + 1) + 1))) = I 0 42) ∧ (I17 59 (Int.toNat ((((((((0 + 1) + 1) + 1) + 1) + 1) + 1) + 1))) = I 0 59) ∧ (I17 59 (Int.toNat (((((((((0 + 1) + 1) + 1) + 1) + 1) + 1) + 1) + 1))) = I 0 64)) → gv_X (gr_E ws0 tb 100 (yX13_module, cX13_module, 2, (some .int)) kX13_module) (gv_Q cX13_module (some .int) (gr_sh ++ ext) (fun r h' => (∃ (I' : gr_I) (J' : gr_J), h' = gr_h I' J' ∧ gr_Inv I' ∧ gr_fr [0, 1, 2, 3, 4, 5, 6, 42, 59, 64, 68, 69, 71, 72, 73, 74, 75, 76, 77, 78, 79, 99, 100, 101, 104, 106, 118, 119, 120, 122, 123] [1, 2, 3, 4, 5, 6, 7, 8, 9, 10, 11, 12, 13, 14, 15, 16, 17, 18, 19, 20, 21, 22, 23, 24, 25, 26, 27, 28, 29, 30, 31, 32, 33, 34, 35, 36, 37, 38, 39, 40, 41, 42, 43, 44, 45, 46, 47, 48, 49, 50, 51, 52, 53, 54, 55, 56, 57, 59, 60, 61, 62, 63, 64, 65, 66, 67, 68, 69, 70, 71, 72, 73, 74, 75] I I' ∧ gr_fj [0, 1, 2, 3, 4, 5, 6, 42, 59, 64, 68, 69, 71, 72, 73, 74, 75, 76, 77, 78, 79, 99, 100, 101, 104, 106, 118, 119, 120, 122, 123] [1, 2, 3, 4, 5, 6, 7, 8, 9, 10, 11, 12, 13, 14, 15, 16, 17, 18, 19, 20, 21, 22, 23, 24, 25, 26, 27, 28, 29, 30, 31, 32, 33, 34, 35, 36, 37, 38, 39, 40, 41, 42, 43, 44, 45, 46, 47, 48, 49, 50, 51, 52, 53, 54, 55, 56, 57, 59, 60, 61, 62, 63, 64, 65, 66, 67, 68, 69, 70, 71, 72, 73, 74, 75] J J' ∧ gr_TM I' ∧ gr_VF I' ∧ gr_LE B I' ∧ gr_GR I' ∧ (∃ z : Int, r = some (.inl z) ∧ (-1002) ≤ z ∧ z ≤ 1000 ∧ (I' 0 59 ≤ I 0 59 + I 0 68) ∧ (I' 0 42 ≤ I 0 42 + I 0 68) ∧ (I' 0 64 ≤ I 0 64 + I 0 68) ∧ (I' 0 68 = 0) ∧ (I' 0 100 ≤ I 0 100 + 1) ∧ (gr_ST I I'))))) (29, [(0, .inr (.inr (some 0))), (1, .inl v1_19)], [], gr_sh ++ ext, gr_h I17 J18) := by
    intro n
    induction n with
    | zero => intro I17 J18 v1_19 hn; omega
    | succ n ih29 =>
      intro I17 J18 v1_19 hn hI17 FI17 FJ18 KTM_I17 KVF_I17 KLN_I17 KRT_I17 KGR_I17 KST_I17 m_19
      obtain ⟨hv1_19, e0_19, e1_19, e2_19, e3_19, e4_19, e5_19, e6_19, e7_19, e8_19, e9_19, e10_19, e11_19, e12_19, e13_19, e14_19, e15_19, e16_19, e17_19, e18_19, e19_19, e20_19, e21_19, e22_19⟩ := m_19
      have f20 := (show 0 ≤ I17 0 71 ∧ I17 0 71 ≤ 5 from (hI17 0 71).1)
      have f21 := (show 0 ≤ I17 0 72 ∧ I17 0 72 ≤ 1000 from (hI17 0 72).1)
      have f22 := (show 0 ≤ I17 0 73 ∧ I17 0 73 ≤ 1001 from (hI17 0 73).1)
      have f23 := (show 0 ≤ I17 0 69 ∧ I17 0 69 ≤ 1000 from (hI17 0 69).1)
      have f24 := (show 0 ≤ I17 0 68 ∧ I17 0 68 ≤ 1000 from (hI17 0 68).1)
      have f25 := (show 0 ≤ I17 0 99 ∧ I17 0 99 ≤ 1000 from (hI17 0 99).1)
      have f26 := (show 0 ≤ I17 0 100 ∧ I17 0 100 ≤ 1000000 from (hI17 0 100).1)
      have f27 := (show 0 ≤ I17 0 1 ∧ I17 0 1 ≤ 8 from (hI17 0 1).1)
      have f28 := (show 0 ≤ I17 0 2 ∧ I17 0 2 ≤ 32 from (hI17 0 2).1)
      have f29 := (show 0 ≤ I17 0 3 ∧ I17 0 3 ≤ 96 from (hI17 0 3).1)
      have f30 := (show 0 ≤ I17 0 4 ∧ I17 0 4 ≤ 8 from (hI17 0 4).1)
      have f31 := (show 0 ≤ I17 0 5 ∧ I17 0 5 ≤ 64 from (hI17 0 5).1)
      have f32 := (show (-1) ≤ I17 0 6 ∧ I17 0 6 ≤ 7 from (hI17 0 6).1)
      have f33 := (show 0 ≤ I17 0 42 ∧ I17 0 42 ≤ 2000 from (hI17 0 42).1)
      have f34 := (show 0 ≤ I17 0 59 ∧ I17 0 59 ≤ 2000 from (hI17 0 59).1)
      have f35 := (show 0 ≤ I17 0 64 ∧ I17 0 64 ≤ 2000 from (hI17 0 64).1)
      have f36 := (show 0 ≤ I17 0 71 ∧ I17 0 71 ≤ 5 from (hI17 0 71).1)
      refine gv_run 2 true hD (pc' := 33) (lv' := [(0, .inr (.inr (some 0))), (1, .inl v1_19)]) (st' := [.inl (I17 0 71)]) (h' := gr_h I17 J18) (C := ((True ∧ True) ∧ True)) rfl ⟨⟨trivial, trivial⟩, trivial⟩ ?_
      refine gv_if_eq (t := 68) hD rfl rfl ⟨by omega, by omega⟩ (fun c37 => ?_) (fun c37 => ?_)
      · refine gv_run 3 true hD (pc' := 73) (lv' := [(0, .inr (.inr (some 0))), (1, .inl v1_19)]) (st' := []) (h' := gz_up (gr_h I17 J18) 0 79 (.inl 0)) (C := (((True ∧ True) ∧ True) ∧ True)) rfl ⟨⟨⟨trivial, trivial⟩, trivial⟩, trivial⟩ ?_
        refine gr_st hI17 FI17 rfl rfl ⟨⟨by show 0 ≤ _; omega, by show _ ≤ 6; omega⟩, trivial⟩ (fun I38 hI38 FI38 q39 p39 => ?_)
        have t40 := p39 0 71 (by decide)
        have t41 := p39 0 72 (by decide)
        have t42 := p39 0 73 (by decide)
        have t43 := p39 0 69 (by decide)
        have t44 := p39 0 68 (by decide)
        have t45 := p39 0 99 (by decide)
        have t46 := p39 0 100 (by decide)
        have t47 := p39 0 1 (by decide)
        have t48 := p39 0 2 (by decide)
        have t49 := p39 0 3 (by decide)
        have t50 := p39 0 4 (by decide)
        have t51 := p39 0 5 (by decide)
        have t52 := p39 0 6 (by decide)
        have t53 := p39 0 42 (by decide)
        have t54 := p39 0 59 (by decide)
        have t55 := p39 0 64 (by decide)
        have t56 := p39 59 (Int.toNat 0) (fun q => absurd q.1 (by decide))
        have t57 := p39 59 (Int.toNat ((0 + 1))) (fun q => absurd q.1 (by decide))
        have t58 := p39 59 (Int.toNat (((0 + 1) + 1))) (fun q => absurd q.1 (by decide))
        have t59 := p39 59 (Int.toNat ((((0 + 1) + 1) + 1))) (fun q => absurd q.1 (by decide))
        have t60 := p39 59 (Int.toNat (((((0 + 1) + 1) + 1) + 1))) (fun q => absurd q.1 (by decide))
        have t61 := p39 59 (Int.toNat ((((((0 + 1) + 1) + 1) + 1) + 1))) (fun q => absurd q.1 (by decide))
        have t62 := p39 59 (Int.toNat (((((((0 + 1) + 1) + 1) + 1) + 1) + 1))) (fun q => absurd q.1 (by decide))
        have t63 := p39 59 (Int.toNat ((((((((0 + 1) + 1) + 1) + 1) + 1) + 1) + 1))) (fun q => absurd q.1 (by decide))
        have t64 := p39 59 (Int.toNat (((((((((0 + 1) + 1) + 1) + 1) + 1) + 1) + 1) + 1))) (fun q => absurd q.1 (by decide))
        have f65 := (show 0 ≤ I38 0 71 ∧ I38 0 71 ≤ 5 from (hI38 0 71).1)
        have f66 := (show 0 ≤ I38 0 72 ∧ I38 0 72 ≤ 1000 from (hI38 0 72).1)
        have f67 := (show 0 ≤ I38 0 73 ∧ I38 0 73 ≤ 1001 from (hI38 0 73).1)
        have f68 := (show 0 ≤ I38 0 69 ∧ I38 0 69 ≤ 1000 from (hI38 0 69).1)
        have f69 := (show 0 ≤ I38 0 68 ∧ I38 0 68 ≤ 1000 from (hI38 0 68).1)
        have f70 := (show 0 ≤ I38 0 99 ∧ I38 0 99 ≤ 1000 from (hI38 0 99).1)
        have f71 := (show 0 ≤ I38 0 100 ∧ I38 0 100 ≤ 1000000 from (hI38 0 100).1)
        have f72 := (show 0 ≤ I38 0 1 ∧ I38 0 1 ≤ 8 from (hI38 0 1).1)
        have f73 := (show 0 ≤ I38 0 2 ∧ I38 0 2 ≤ 32 from (hI38 0 2).1)
        have f74 := (show 0 ≤ I38 0 3 ∧ I38 0 3 ≤ 96 from (hI38 0 3).1)
        have f75 := (show 0 ≤ I38 0 4 ∧ I38 0 4 ≤ 8 from (hI38 0 4).1)
        have f76 := (show 0 ≤ I38 0 5 ∧ I38 0 5 ≤ 64 from (hI38 0 5).1)
        have f77 := (show (-1) ≤ I38 0 6 ∧ I38 0 6 ≤ 7 from (hI38 0 6).1)
        have f78 := (show 0 ≤ I38 0 42 ∧ I38 0 42 ≤ 2000 from (hI38 0 42).1)
        have f79 := (show 0 ≤ I38 0 59 ∧ I38 0 59 ≤ 2000 from (hI38 0 59).1)
        have f80 := (show 0 ≤ I38 0 64 ∧ I38 0 64 ≤ 2000 from (hI38 0 64).1)
        have KTM_I38 := gr_TM_fr KTM_I17 (fun k => p39 52 k (fun q => absurd q.1 (by decide))) (fun k => p39 53 k (fun q => absurd q.1 (by decide))) (fun k => p39 54 k (fun q => absurd q.1 (by decide))) (p39 0 64 (by decide))
        have KVF_I38 := gr_VF_fr KVF_I17 (fun k => p39 14 k (fun q => absurd q.1 (by decide))) (fun k => p39 13 k (fun q => absurd q.1 (by decide)))
        have KGR_I38 := gr_GR_fr KGR_I17 (fun k => p39 19 k (fun q => absurd q.1 (by decide))) (fun k => p39 18 k (fun q => absurd q.1 (by decide))) (fun k => p39 36 k (fun q => absurd q.1 (by decide))) (fun k => p39 41 k (fun q => absurd q.1 (by decide))) (fun k => p39 42 k (fun q => absurd q.1 (by decide))) (fun k => p39 43 k (fun q => absurd q.1 (by decide))) (fun k => p39 45 k (fun q => absurd q.1 (by decide))) (fun k => p39 46 k (fun q => absurd q.1 (by decide))) (fun k => p39 47 k (fun q => absurd q.1 (by decide))) (fun k => p39 6 k (fun q => absurd q.1 (by decide))) (fun k => p39 7 k (fun q => absurd q.1 (by decide))) (fun k => p39 8 k (fun q => absurd q.1 (by decide))) (p39 0 3 (by decide))
        have KLN_I38 := gr_LN_fr KLN_I17 (fun k => p39 19 k (fun q => absurd q.1 (by decide))) (by omega) (by omega)
        have KRT_I38 := gr_RT8_fr KRT_I17 (fun k => p39 59 k (fun q => absurd q.1 (by decide)))
        have KST_I38 := gr_ST_fr KST_I17 (fun k => p39 6 k (fun q => absurd q.1 (by decide))) (fun k => p39 19 k (fun q => absurd q.1 (by decide))) (fun k => p39 18 k (fun q => absurd q.1 (by decide))) (fun k => p39 41 k (fun q => absurd q.1 (by decide))) (fun k => p39 36 k (fun q => absurd q.1 (by decide))) (p39 0 3 (by decide))
        have f81 := (show 0 ≤ I38 0 100 ∧ I38 0 100 ≤ 1000000 from (hI38 0 100).1)
        refine gv_run 5 true hD (pc' := 80) (lv' := [(0, .inr (.inr (some 0))), (1, .inl v1_19)]) (st' := [.inl ((I38 0 100) + 1), .inr (.inr (some 0))]) (h' := gr_h I38 J18) (C := (((((True ∧ True) ∧ True) ∧ True) ∧ True) ∧ True)) rfl ⟨⟨⟨⟨⟨trivial, trivial⟩, trivial⟩, trivial⟩, trivial⟩, trivial⟩ ?_
        refine gv_run 1 true hD (pc' := 83) (lv' := [(0, .inr (.inr (some 0))), (1, .inl v1_19)]) (st' := []) (h' := gz_up (gr_h I38 J18) 0 100 (.inl (((I38 0 100) + 1)))) (C := (True ∧ True)) rfl ⟨trivial, trivial⟩ ?_
        refine gr_st hI38 FI38 rfl rfl ⟨⟨by show 0 ≤ _; omega, by show _ ≤ 1000000; omega⟩, trivial⟩ (fun I82 hI82 FI82 q83 p83 => ?_)
        have t84 := p83 0 71 (by decide)
        have t85 := p83 0 72 (by decide)
        have t86 := p83 0 73 (by decide)
        have t87 := p83 0 69 (by decide)
        have t88 := p83 0 68 (by decide)
        have t89 := p83 0 99 (by decide)
        have t90 := p83 0 1 (by decide)
        have t91 := p83 0 2 (by decide)
        have t92 := p83 0 3 (by decide)
        have t93 := p83 0 4 (by decide)
        have t94 := p83 0 5 (by decide)
        have t95 := p83 0 6 (by decide)
        have t96 := p83 0 42 (by decide)
        have t97 := p83 0 59 (by decide)
        have t98 := p83 0 64 (by decide)
        have t99 := p83 59 (Int.toNat 0) (fun q => absurd q.1 (by decide))
        have t100 := p83 59 (Int.toNat ((0 + 1))) (fun q => absurd q.1 (by decide))
        have t101 := p83 59 (Int.toNat (((0 + 1) + 1))) (fun q => absurd q.1 (by decide))
        have t102 := p83 59 (Int.toNat ((((0 + 1) + 1) + 1))) (fun q => absurd q.1 (by decide))
        have t103 := p83 59 (Int.toNat (((((0 + 1) + 1) + 1) + 1))) (fun q => absurd q.1 (by decide))
        have t104 := p83 59 (Int.toNat ((((((0 + 1) + 1) + 1) + 1) + 1))) (fun q => absurd q.1 (by decide))
        have t105 := p83 59 (Int.toNat (((((((0 + 1) + 1) + 1) + 1) + 1) + 1))) (fun q => absurd q.1 (by decide))
        have t106 := p83 59 (Int.toNat ((((((((0 + 1) + 1) + 1) + 1) + 1) + 1) + 1))) (fun q => absurd q.1 (by decide))
        have t107 := p83 59 (Int.toNat (((((((((0 + 1) + 1) + 1) + 1) + 1) + 1) + 1) + 1))) (fun q => absurd q.1 (by decide))
        have f108 := (show 0 ≤ I82 0 71 ∧ I82 0 71 ≤ 5 from (hI82 0 71).1)
        have f109 := (show 0 ≤ I82 0 72 ∧ I82 0 72 ≤ 1000 from (hI82 0 72).1)
        have f110 := (show 0 ≤ I82 0 73 ∧ I82 0 73 ≤ 1001 from (hI82 0 73).1)
        have f111 := (show 0 ≤ I82 0 69 ∧ I82 0 69 ≤ 1000 from (hI82 0 69).1)
        have f112 := (show 0 ≤ I82 0 68 ∧ I82 0 68 ≤ 1000 from (hI82 0 68).1)
        have f113 := (show 0 ≤ I82 0 99 ∧ I82 0 99 ≤ 1000 from (hI82 0 99).1)
        have f114 := (show 0 ≤ I82 0 100 ∧ I82 0 100 ≤ 1000000 from (hI82 0 100).1)
        have f115 := (show 0 ≤ I82 0 1 ∧ I82 0 1 ≤ 8 from (hI82 0 1).1)
        have f116 := (show 0 ≤ I82 0 2 ∧ I82 0 2 ≤ 32 from (hI82 0 2).1)
        have f117 := (show 0 ≤ I82 0 3 ∧ I82 0 3 ≤ 96 from (hI82 0 3).1)
        have f118 := (show 0 ≤ I82 0 4 ∧ I82 0 4 ≤ 8 from (hI82 0 4).1)
        have f119 := (show 0 ≤ I82 0 5 ∧ I82 0 5 ≤ 64 from (hI82 0 5).1)
        have f120 := (show (-1) ≤ I82 0 6 ∧ I82 0 6 ≤ 7 from (hI82 0 6).1)
        have f121 := (show 0 ≤ I82 0 42 ∧ I82 0 42 ≤ 2000 from (hI82 0 42).1)
        have f122 := (show 0 ≤ I82 0 59 ∧ I82 0 59 ≤ 2000 from (hI82 0 59).1)
        have f123 := (show 0 ≤ I82 0 64 ∧ I82 0 64 ≤ 2000 from (hI82 0 64).1)
        have KTM_I82 := gr_TM_fr KTM_I38 (fun k => p83 52 k (fun q => absurd q.1 (by decide))) (fun k => p83 53 k (fun q => absurd q.1 (by decide))) (fun k => p83 54 k (fun q => absurd q.1 (by decide))) (p83 0 64 (by decide))
        have KVF_I82 := gr_VF_fr KVF_I38 (fun k => p83 14 k (fun q => absurd q.1 (by decide))) (fun k => p83 13 k (fun q => absurd q.1 (by decide)))
        have KGR_I82 := gr_GR_fr KGR_I38 (fun k => p83 19 k (fun q => absurd q.1 (by decide))) (fun k => p83 18 k (fun q => absurd q.1 (by decide))) (fun k => p83 36 k (fun q => absurd q.1 (by decide))) (fun k => p83 41 k (fun q => absurd q.1 (by decide))) (fun k => p83 42 k (fun q => absurd q.1 (by decide))) (fun k => p83 43 k (fun q => absurd q.1 (by decide))) (fun k => p83 45 k (fun q => absurd q.1 (by decide))) (fun k => p83 46 k (fun q => absurd q.1 (by decide))) (fun k => p83 47 k (fun q => absurd q.1 (by decide))) (fun k => p83 6 k (fun q => absurd q.1 (by decide))) (fun k => p83 7 k (fun q => absurd q.1 (by decide))) (fun k => p83 8 k (fun q => absurd q.1 (by decide))) (p83 0 3 (by decide))
        have KLN_I82 := gr_LN_fr KLN_I38 (fun k => p83 19 k (fun q => absurd q.1 (by decide))) (by omega) (by omega)
        have KRT_I82 := gr_RT8_fr KRT_I38 (fun k => p83 59 k (fun q => absurd q.1 (by decide)))
        have KST_I82 := gr_ST_fr KST_I38 (fun k => p83 6 k (fun q => absurd q.1 (by decide))) (fun k => p83 19 k (fun q => absurd q.1 (by decide))) (fun k => p83 18 k (fun q => absurd q.1 (by decide))) (fun k => p83 41 k (fun q => absurd q.1 (by decide))) (fun k => p83 36 k (fun q => absurd q.1 (by decide))) (p83 0 3 (by decide))
        refine gv_run 1 true hD (pc' := 84) (lv' := [(0, .inr (.inr (some 0))), (1, .inl v1_19)]) (st' := [.inl v1_19]) (h' := gr_h I82 J18) (C := (True ∧ True)) rfl ⟨trivial, trivial⟩ ?_
        exact gv_iret hD rfl ⟨I82, J18, rfl, hI82, FI82, FJ18, KTM_I82, KVF_I82, gr_LE_of KLN_I82 (fun _ => rfl) (by omega) (by omega), KGR_I82, ⟨_, rfl, by omega, by omega, by omega, by omega, by omega, by omega, by omega, (by rw [← hI9]; exact KST_I82)⟩⟩
      · refine gv_run 1 true hD (pc' := 37) (lv' := [(0, .inr (.inr (some 0))), (1, .inl v1_19)]) (st' := [.inr (.inr (some 0))]) (h' := gr_h I17 J18) (C := (True ∧ True)) rfl ⟨trivial, trivial⟩ ?_
        obtain ⟨r124, h124, E124, P124⟩ := r_statement_w (ws0 := ws0) (tb := tb) hws htb ext B (by omega) I9 I17 J18 hI17   (by omega) (by omega) (by omega) (by omega) (by omega) (by omega) (by omega) (by omega) (by omega) KTM_I17 KVF_I17 KLN_I17 KGR_I17 KST_I17
        obtain ⟨I125, J126, rfl, hI125, g124, k124, KTM_I125, KVF_I125, KLN_I125, KGR_I125, KST_I125, ⟨z124, rfl, q124⟩⟩ := P124
        have FI125 := gr_frt FI17 g124 rfl rfl
        have FJ126 := gr_fjt FJ18 k124 rfl rfl
        have t127 := g124 0 69 rfl
        have t128 := g124 0 68 rfl
        have t129 := g124 0 100 rfl
        have t130 := g124 59 (Int.toNat 0) rfl
        have t131 := g124 59 (Int.toNat ((0 + 1))) rfl
        have t132 := g124 59 (Int.toNat (((0 + 1) + 1))) rfl
        have t133 := g124 59 (Int.toNat ((((0 + 1) + 1) + 1))) rfl
        have t134 := g124 59 (Int.toNat (((((0 + 1) + 1) + 1) + 1))) rfl
        have t135 := g124 59 (Int.toNat ((((((0 + 1) + 1) + 1) + 1) + 1))) rfl
        have t136 := g124 59 (Int.toNat (((((((0 + 1) + 1) + 1) + 1) + 1) + 1))) rfl
        have t137 := g124 59 (Int.toNat ((((((((0 + 1) + 1) + 1) + 1) + 1) + 1) + 1))) rfl
        have t138 := g124 59 (Int.toNat (((((((((0 + 1) + 1) + 1) + 1) + 1) + 1) + 1) + 1))) rfl
        have f139 := (show 0 ≤ I125 0 71 ∧ I125 0 71 ≤ 5 from (hI125 0 71).1)
        have f140 := (show 0 ≤ I125 0 72 ∧ I125 0 72 ≤ 1000 from (hI125 0 72).1)
        have f141 := (show 0 ≤ I125 0 73 ∧ I125 0 73 ≤ 1001 from (hI125 0 73).1)
        have f142 := (show 0 ≤ I125 0 69 ∧ I125 0 69 ≤ 1000 from (hI125 0 69).1)
        have f143 := (show 0 ≤ I125 0 68 ∧ I125 0 68 ≤ 1000 from (hI125 0 68).1)
        have f144 := (show 0 ≤ I125 0 99 ∧ I125 0 99 ≤ 1000 from (hI125 0 99).1)
        have f145 := (show 0 ≤ I125 0 100 ∧ I125 0 100 ≤ 1000000 from (hI125 0 100).1)
        have f146 := (show 0 ≤ I125 0 1 ∧ I125 0 1 ≤ 8 from (hI125 0 1).1)
        have f147 := (show 0 ≤ I125 0 2 ∧ I125 0 2 ≤ 32 from (hI125 0 2).1)
        have f148 := (show 0 ≤ I125 0 3 ∧ I125 0 3 ≤ 96 from (hI125 0 3).1)
        have f149 := (show 0 ≤ I125 0 4 ∧ I125 0 4 ≤ 8 from (hI125 0 4).1)
        have f150 := (show 0 ≤ I125 0 5 ∧ I125 0 5 ≤ 64 from (hI125 0 5).1)
        have f151 := (show (-1) ≤ I125 0 6 ∧ I125 0 6 ≤ 7 from (hI125 0 6).1)
        have f152 := (show 0 ≤ I125 0 42 ∧ I125 0 42 ≤ 2000 from (hI125 0 42).1)
        have f153 := (show 0 ≤ I125 0 59 ∧ I125 0 59 ≤ 2000 from (hI125 0 59).1)
        have f154 := (show 0 ≤ I125 0 64 ∧ I125 0 64 ≤ 2000 from (hI125 0 64).1)
        have KRT_I125 := gr_RT8_fr KRT_I17 (fun k => g124 59 k rfl)
        refine gv_callV hD rfl (As := []) (st := []) rfl (by decide) rfl rfl (gr_lV hws rfl) (Nat.le_of_ble_eq_true rfl) (gz_Ev_mono (d := 100) (by decide) E124) ?_
        show gv_X _ _ (40, [(0, .inr (.inr (some 0))), (1, .inl v1_19)], [.inl z124], gr_sh ++ ext, gr_h I125 J126)
        refine gv_if_ne (t := 62) hD rfl rfl ⟨by omega, by omega⟩ (fun c155 => ?_) (fun c155 => ?_)
        · refine gv_run 2 true hD (pc' := 29) (lv' := [(1, .inl (v1_19 + 1)), (0, .inr (.inr (some 0)))]) (st' := []) (h' := gr_h I125 J126) (C := ((True ∧ True) ∧ True)) rfl ⟨⟨trivial, trivial⟩, trivial⟩ ?_
          refine gv_pick [1, 0] rfl ?_
          exact ih29 I125 J126 (v1_19 + 1) (by omega) hI125 FI125 FJ126 KTM_I125 KVF_I125 KLN_I125 KRT_I125 KGR_I125 KST_I125 (by omega)
        · refine gv_run 1 true hD (pc' := 44) (lv' := [(0, .inr (.inr (some 0))), (1, .inl v1_19)]) (st' := [.inr (.inr (some 0))]) (h' := gr_h I125 J126) (C := (True ∧ True)) rfl ⟨trivial, trivial⟩ ?_
          obtain ⟨r156, h156, E156, P156⟩ := r_forget (ws0 := ws0) (tb := tb) hws htb ext I125 J126 hI125   (by omega) (by omega) (by omega) (by omega) (by omega) (by omega) (by omega) (by omega) (by omega) (by omega) (gr_HT_of KRT_I125 hI) KTM_I125
          obtain ⟨I157, J158, rfl, hI157, g156, k156, KTM_I157, ⟨rfl, q156⟩⟩ := P156
          have FI157 := gr_frt FI125 g156 rfl rfl
          have FJ158 := gr_fjt FJ126 k156 rfl rfl
          have t159 := g156 0 71 rfl
          have t160 := g156 0 72 rfl
          have t161 := g156 0 73 rfl
          have t162 := g156 0 69 rfl
          have t163 := g156 0 68 rfl
          have t164 := g156 0 99 rfl
          have t165 := g156 0 100 rfl
          have t166 := g156 59 (Int.toNat 0) rfl
          have t167 := g156 59 (Int.toNat ((0 + 1))) rfl
          have t168 := g156 59 (Int.toNat (((0 + 1) + 1))) rfl
          have t169 := g156 59 (Int.toNat ((((0 + 1) + 1) + 1))) rfl
          have t170 := g156 59 (Int.toNat (((((0 + 1) + 1) + 1) + 1))) rfl
          have t171 := g156 59 (Int.toNat ((((((0 + 1) + 1) + 1) + 1) + 1))) rfl
          have t172 := g156 59 (Int.toNat (((((((0 + 1) + 1) + 1) + 1) + 1) + 1))) rfl
          have t173 := g156 59 (Int.toNat ((((((((0 + 1) + 1) + 1) + 1) + 1) + 1) + 1))) rfl
          have t174 := g156 59 (Int.toNat (((((((((0 + 1) + 1) + 1) + 1) + 1) + 1) + 1) + 1))) rfl
          have f175 := (show 0 ≤ I157 0 71 ∧ I157 0 71 ≤ 5 from (hI157 0 71).1)
          have f176 := (show 0 ≤ I157 0 72 ∧ I157 0 72 ≤ 1000 from (hI157 0 72).1)
          have f177 := (show 0 ≤ I157 0 73 ∧ I157 0 73 ≤ 1001 from (hI157 0 73).1)
          have f178 := (show 0 ≤ I157 0 69 ∧ I157 0 69 ≤ 1000 from (hI157 0 69).1)
          have f179 := (show 0 ≤ I157 0 68 ∧ I157 0 68 ≤ 1000 from (hI157 0 68).1)
          have f180 := (show 0 ≤ I157 0 99 ∧ I157 0 99 ≤ 1000 from (hI157 0 99).1)
          have f181 := (show 0 ≤ I157 0 100 ∧ I157 0 100 ≤ 1000000 from (hI157 0 100).1)
          have f182 := (show 0 ≤ I157 0 1 ∧ I157 0 1 ≤ 8 from (hI157 0 1).1)
          have f183 := (show 0 ≤ I157 0 2 ∧ I157 0 2 ≤ 32 from (hI157 0 2).1)
          have f184 := (show 0 ≤ I157 0 3 ∧ I157 0 3 ≤ 96 from (hI157 0 3).1)
          have f185 := (show 0 ≤ I157 0 4 ∧ I157 0 4 ≤ 8 from (hI157 0 4).1)
          have f186 := (show 0 ≤ I157 0 5 ∧ I157 0 5 ≤ 64 from (hI157 0 5).1)
          have f187 := (show (-1) ≤ I157 0 6 ∧ I157 0 6 ≤ 7 from (hI157 0 6).1)
          have f188 := (show 0 ≤ I157 0 42 ∧ I157 0 42 ≤ 2000 from (hI157 0 42).1)
          have f189 := (show 0 ≤ I157 0 59 ∧ I157 0 59 ≤ 2000 from (hI157 0 59).1)
          have f190 := (show 0 ≤ I157 0 64 ∧ I157 0 64 ≤ 2000 from (hI157 0 64).1)
          have KRT_I157 := gr_RT8_fr KRT_I125 (fun k => g156 59 k rfl)
          refine gv_callV hD rfl (As := []) (st := []) rfl (by decide) rfl rfl (gr_lV hws rfl) (Nat.le_of_ble_eq_true rfl) (gz_Ev_mono (d := 1) (by decide) E156) ?_
          show gv_X _ _ (47, [(0, .inr (.inr (some 0))), (1, .inl v1_19)], [], gr_sh ++ ext, gr_h I157 J158)
          have f191 := (show 0 ≤ I157 0 76 ∧ I157 0 76 ≤ 6 from (hI157 0 76).1)
          refine gv_run 3 true hD (pc' := 52) (lv' := [(0, .inr (.inr (some 0))), (1, .inl v1_19)]) (st' := [.inl (I157 0 76), .inr (.inr (some 0))]) (h' := gr_h I157 J158) (C := (((True ∧ True) ∧ True) ∧ True)) rfl ⟨⟨⟨trivial, trivial⟩, trivial⟩, trivial⟩ ?_
          refine gv_run 1 true hD (pc' := 55) (lv' := [(0, .inr (.inr (some 0))), (1, .inl v1_19)]) (st' := []) (h' := gz_up (gr_h I157 J158) 0 79 (.inl (I157 0 76))) (C := (True ∧ True)) rfl ⟨trivial, trivial⟩ ?_
          refine gr_st hI157 FI157 rfl rfl ⟨⟨by show 0 ≤ _; omega, by show _ ≤ 6; omega⟩, trivial⟩ (fun I192 hI192 FI192 q193 p193 => ?_)
          have t194 := p193 0 71 (by decide)
          have t195 := p193 0 72 (by decide)
          have t196 := p193 0 73 (by decide)
          have t197 := p193 0 69 (by decide)
          have t198 := p193 0 68 (by decide)
          have t199 := p193 0 99 (by decide)
          have t200 := p193 0 100 (by decide)
          have t201 := p193 0 1 (by decide)
          have t202 := p193 0 2 (by decide)
          have t203 := p193 0 3 (by decide)
          have t204 := p193 0 4 (by decide)
          have t205 := p193 0 5 (by decide)
          have t206 := p193 0 6 (by decide)
          have t207 := p193 0 42 (by decide)
          have t208 := p193 0 59 (by decide)
          have t209 := p193 0 64 (by decide)
          have t210 := p193 59 (Int.toNat 0) (fun q => absurd q.1 (by decide))
          have t211 := p193 59 (Int.toNat ((0 + 1))) (fun q => absurd q.1 (by decide))
          have t212 := p193 59 (Int.toNat (((0 + 1) + 1))) (fun q => absurd q.1 (by decide))
          have t213 := p193 59 (Int.toNat ((((0 + 1) + 1) + 1))) (fun q => absurd q.1 (by decide))
          have t214 := p193 59 (Int.toNat (((((0 + 1) + 1) + 1) + 1))) (fun q => absurd q.1 (by decide))
          have t215 := p193 59 (Int.toNat ((((((0 + 1) + 1) + 1) + 1) + 1))) (fun q => absurd q.1 (by decide))
          have t216 := p193 59 (Int.toNat (((((((0 + 1) + 1) + 1) + 1) + 1) + 1))) (fun q => absurd q.1 (by decide))
          have t217 := p193 59 (Int.toNat ((((((((0 + 1) + 1) + 1) + 1) + 1) + 1) + 1))) (fun q => absurd q.1 (by decide))
          have t218 := p193 59 (Int.toNat (((((((((0 + 1) + 1) + 1) + 1) + 1) + 1) + 1) + 1))) (fun q => absurd q.1 (by decide))
          have f219 := (show 0 ≤ I192 0 71 ∧ I192 0 71 ≤ 5 from (hI192 0 71).1)
          have f220 := (show 0 ≤ I192 0 72 ∧ I192 0 72 ≤ 1000 from (hI192 0 72).1)
          have f221 := (show 0 ≤ I192 0 73 ∧ I192 0 73 ≤ 1001 from (hI192 0 73).1)
          have f222 := (show 0 ≤ I192 0 69 ∧ I192 0 69 ≤ 1000 from (hI192 0 69).1)
          have f223 := (show 0 ≤ I192 0 68 ∧ I192 0 68 ≤ 1000 from (hI192 0 68).1)
          have f224 := (show 0 ≤ I192 0 99 ∧ I192 0 99 ≤ 1000 from (hI192 0 99).1)
          have f225 := (show 0 ≤ I192 0 100 ∧ I192 0 100 ≤ 1000000 from (hI192 0 100).1)
          have f226 := (show 0 ≤ I192 0 1 ∧ I192 0 1 ≤ 8 from (hI192 0 1).1)
          have f227 := (show 0 ≤ I192 0 2 ∧ I192 0 2 ≤ 32 from (hI192 0 2).1)
          have f228 := (show 0 ≤ I192 0 3 ∧ I192 0 3 ≤ 96 from (hI192 0 3).1)
          have f229 := (show 0 ≤ I192 0 4 ∧ I192 0 4 ≤ 8 from (hI192 0 4).1)
          have f230 := (show 0 ≤ I192 0 5 ∧ I192 0 5 ≤ 64 from (hI192 0 5).1)
          have f231 := (show (-1) ≤ I192 0 6 ∧ I192 0 6 ≤ 7 from (hI192 0 6).1)
          have f232 := (show 0 ≤ I192 0 42 ∧ I192 0 42 ≤ 2000 from (hI192 0 42).1)
          have f233 := (show 0 ≤ I192 0 59 ∧ I192 0 59 ≤ 2000 from (hI192 0 59).1)
          have f234 := (show 0 ≤ I192 0 64 ∧ I192 0 64 ≤ 2000 from (hI192 0 64).1)
          have KTM_I192 := gr_TM_fr KTM_I157 (fun k => p193 52 k (fun q => absurd q.1 (by decide))) (fun k => p193 53 k (fun q => absurd q.1 (by decide))) (fun k => p193 54 k (fun q => absurd q.1 (by decide))) (p193 0 64 (by decide))
          have KRT_I192 := gr_RT8_fr KRT_I157 (fun k => p193 59 k (fun q => absurd q.1 (by decide)))
          have f235 := (show (-1) ≤ I192 0 77 ∧ I192 0 77 ≤ 1001 from (hI192 0 77).1)
          refine gv_run 4 true hD (pc' := 61) (lv' := [(0, .inr (.inr (some 0))), (1, .inl v1_19)]) (st' := [.inl ((-1) - (I192 0 77))]) (h' := gr_h I192 J158) (C := ((((True ∧ True) ∧ True) ∧ True) ∧ True)) rfl ⟨⟨⟨⟨trivial, trivial⟩, trivial⟩, trivial⟩, trivial⟩ ?_
          exact gv_iret hD rfl ⟨I192, J158, rfl, hI192, FI192, FJ158, KTM_I192, (gr_VF_back KVF_I KRT_I125 q156.2.2.2.2.2.2.2.2.2 (fun a k h => by rw [p193 a k (fun q => h q.1)])), (gr_LE_back KLE_I KRT_I125 q156.2.2.2.2.2.2.2.2.2 (fun a k h => by rw [p193 a k (fun q => h q.1)]) (by omega)), (gr_GR_back KGR_I KGR_I125 (by rw [← hI9]; exact KST_I125) KRT_I125 q156.2.2.2.2.2.2.2.2.2 (fun k => g156 36 k rfl) (fun k => g156 41 k rfl) (fun k => g156 42 k rfl) (fun k => g156 43 k rfl) (fun k => g156 45 k rfl) (fun k => g156 46 k rfl) (fun k => g156 47 k rfl) (fun k => g156 6 k rfl) (fun k => g156 7 k rfl) (fun k => g156 8 k rfl) (fun a k h => by rw [p193 a k (fun q => h q.1)]) (by omega)).1, ⟨_, rfl, by omega, by omega, by omega, by omega, by omega, by omega, by omega, (gr_GR_back KGR_I KGR_I125 (by rw [← hI9]; exact KST_I125) KRT_I125 q156.2.2.2.2.2.2.2.2.2 (fun k => g156 36 k rfl) (fun k => g156 41 k rfl) (fun k => g156 42 k rfl) (fun k => g156 43 k rfl) (fun k => g156 45 k rfl) (fun k => g156 46 k rfl) (fun k => g156 47 k rfl) (fun k => g156 6 k rfl) (fun k => g156 7 k rfl) (fun k => g156 8 k rfl) (fun a k h => by rw [p193 a k (fun q => h q.1)]) (by omega)).2⟩⟩
  refine gv_run 3 true hD (pc' := 5) (lv' := [(0, .inr (.inr (some 0)))]) (st' := []) (h' := gz_up (gr_h I J) 0 0 (.inl 0)) (C := (((True ∧ True) ∧ True) ∧ True)) rfl ⟨⟨⟨trivial, trivial⟩, trivial⟩, trivial⟩ ?_
  refine gr_st hI FI rfl rfl ⟨⟨by show 0 ≤ _; omega, by show _ ≤ 2; omega⟩, trivial⟩ (fun I236 hI236 FI236 q237 p237 => ?_)
  have t238 := p237 0 71 (by decide)
  have t239 := p237 0 72 (by decide)
  have t240 := p237 0 73 (by decide)
  have t241 := p237 0 69 (by decide)
  have t242 := p237 0 68 (by decide)
  have t243 := p237 0 99 (by decide)
  have t244 := p237 0 100 (by decide)
  have t245 := p237 0 1 (by decide)
  have t246 := p237 0 2 (by decide)
  have t247 := p237 0 3 (by decide)
  have t248 := p237 0 4 (by decide)
  have t249 := p237 0 5 (by decide)
  have t250 := p237 0 6 (by decide)
  have t251 := p237 0 42 (by decide)
  have t252 := p237 0 59 (by decide)
  have t253 := p237 0 64 (by decide)
  have t254 := p237 59 (Int.toNat 0) (fun q => absurd q.1 (by decide))
  have t255 := p237 59 (Int.toNat ((0 + 1))) (fun q => absurd q.1 (by decide))
  have t256 := p237 59 (Int.toNat (((0 + 1) + 1))) (fun q => absurd q.1 (by decide))
  have t257 := p237 59 (Int.toNat ((((0 + 1) + 1) + 1))) (fun q => absurd q.1 (by decide))
  have t258 := p237 59 (Int.toNat (((((0 + 1) + 1) + 1) + 1))) (fun q => absurd q.1 (by decide))
  have t259 := p237 59 (Int.toNat ((((((0 + 1) + 1) + 1) + 1) + 1))) (fun q => absurd q.1 (by decide))
  have t260 := p237 59 (Int.toNat (((((((0 + 1) + 1) + 1) + 1) + 1) + 1))) (fun q => absurd q.1 (by decide))
  have t261 := p237 59 (Int.toNat ((((((((0 + 1) + 1) + 1) + 1) + 1) + 1) + 1))) (fun q => absurd q.1 (by decide))
  have t262 := p237 59 (Int.toNat (((((((((0 + 1) + 1) + 1) + 1) + 1) + 1) + 1) + 1))) (fun q => absurd q.1 (by decide))
  have f263 := (show 0 ≤ I236 0 71 ∧ I236 0 71 ≤ 5 from (hI236 0 71).1)
  have f264 := (show 0 ≤ I236 0 72 ∧ I236 0 72 ≤ 1000 from (hI236 0 72).1)
  have f265 := (show 0 ≤ I236 0 73 ∧ I236 0 73 ≤ 1001 from (hI236 0 73).1)
  have f266 := (show 0 ≤ I236 0 69 ∧ I236 0 69 ≤ 1000 from (hI236 0 69).1)
  have f267 := (show 0 ≤ I236 0 68 ∧ I236 0 68 ≤ 1000 from (hI236 0 68).1)
  have f268 := (show 0 ≤ I236 0 99 ∧ I236 0 99 ≤ 1000 from (hI236 0 99).1)
  have f269 := (show 0 ≤ I236 0 100 ∧ I236 0 100 ≤ 1000000 from (hI236 0 100).1)
  have f270 := (show 0 ≤ I236 0 1 ∧ I236 0 1 ≤ 8 from (hI236 0 1).1)
  have f271 := (show 0 ≤ I236 0 2 ∧ I236 0 2 ≤ 32 from (hI236 0 2).1)
  have f272 := (show 0 ≤ I236 0 3 ∧ I236 0 3 ≤ 96 from (hI236 0 3).1)
  have f273 := (show 0 ≤ I236 0 4 ∧ I236 0 4 ≤ 8 from (hI236 0 4).1)
  have f274 := (show 0 ≤ I236 0 5 ∧ I236 0 5 ≤ 64 from (hI236 0 5).1)
  have f275 := (show (-1) ≤ I236 0 6 ∧ I236 0 6 ≤ 7 from (hI236 0 6).1)
  have f276 := (show 0 ≤ I236 0 42 ∧ I236 0 42 ≤ 2000 from (hI236 0 42).1)
  have f277 := (show 0 ≤ I236 0 59 ∧ I236 0 59 ≤ 2000 from (hI236 0 59).1)
  have f278 := (show 0 ≤ I236 0 64 ∧ I236 0 64 ≤ 2000 from (hI236 0 64).1)
  have KTM_I236 := gr_TM_fr KTM_I (fun k => p237 52 k (fun q => absurd q.1 (by decide))) (fun k => p237 53 k (fun q => absurd q.1 (by decide))) (fun k => p237 54 k (fun q => absurd q.1 (by decide))) (p237 0 64 (by decide))
  have KVF_I236 := gr_VF_fr KVF_I (fun k => p237 14 k (fun q => absurd q.1 (by decide))) (fun k => p237 13 k (fun q => absurd q.1 (by decide)))
  have KLE_I236 := gr_LE_fr KLE_I (fun k => p237 19 k (fun q => absurd q.1 (by decide))) (p237 0 68 (by decide))
  have KGR_I236 := gr_GR_fr KGR_I (fun k => p237 19 k (fun q => absurd q.1 (by decide))) (fun k => p237 18 k (fun q => absurd q.1 (by decide))) (fun k => p237 36 k (fun q => absurd q.1 (by decide))) (fun k => p237 41 k (fun q => absurd q.1 (by decide))) (fun k => p237 42 k (fun q => absurd q.1 (by decide))) (fun k => p237 43 k (fun q => absurd q.1 (by decide))) (fun k => p237 45 k (fun q => absurd q.1 (by decide))) (fun k => p237 46 k (fun q => absurd q.1 (by decide))) (fun k => p237 47 k (fun q => absurd q.1 (by decide))) (fun k => p237 6 k (fun q => absurd q.1 (by decide))) (fun k => p237 7 k (fun q => absurd q.1 (by decide))) (fun k => p237 8 k (fun q => absurd q.1 (by decide))) (p237 0 3 (by decide))
  refine gv_run 1 true hD (pc' := 6) (lv' := [(0, .inr (.inr (some 0)))]) (st' := [.inr (.inr (some 0))]) (h' := gr_h I236 J) (C := (True ∧ True)) rfl ⟨trivial, trivial⟩ ?_
  obtain ⟨r279, h279, E279, P279⟩ := r_reads (ws0 := ws0) (tb := tb) hws htb ext I236 J hI236   
  obtain ⟨I280, J281, rfl, hI280, g279, k279, ⟨rfl, q279⟩⟩ := P279
  have FI280 := gr_frt FI236 g279 rfl rfl
  have FJ281 := gr_fjt FJ k279 rfl rfl
  have t282 := g279 0 71 rfl
  have t283 := g279 0 72 rfl
  have t284 := g279 0 73 rfl
  have t285 := g279 0 99 rfl
  have t286 := g279 0 100 rfl
  have t287 := g279 0 1 rfl
  have t288 := g279 0 2 rfl
  have t289 := g279 0 3 rfl
  have t290 := g279 0 4 rfl
  have t291 := g279 0 5 rfl
  have t292 := g279 0 6 rfl
  have t293 := g279 0 42 rfl
  have t294 := g279 0 59 rfl
  have t295 := g279 0 64 rfl
  have t296 := g279 59 (Int.toNat 0) rfl
  have t297 := g279 59 (Int.toNat ((0 + 1))) rfl
  have t298 := g279 59 (Int.toNat (((0 + 1) + 1))) rfl
  have t299 := g279 59 (Int.toNat ((((0 + 1) + 1) + 1))) rfl
  have t300 := g279 59 (Int.toNat (((((0 + 1) + 1) + 1) + 1))) rfl
  have t301 := g279 59 (Int.toNat ((((((0 + 1) + 1) + 1) + 1) + 1))) rfl
  have t302 := g279 59 (Int.toNat (((((((0 + 1) + 1) + 1) + 1) + 1) + 1))) rfl
  have t303 := g279 59 (Int.toNat ((((((((0 + 1) + 1) + 1) + 1) + 1) + 1) + 1))) rfl
  have t304 := g279 59 (Int.toNat (((((((((0 + 1) + 1) + 1) + 1) + 1) + 1) + 1) + 1))) rfl
  have f305 := (show 0 ≤ I280 0 71 ∧ I280 0 71 ≤ 5 from (hI280 0 71).1)
  have f306 := (show 0 ≤ I280 0 72 ∧ I280 0 72 ≤ 1000 from (hI280 0 72).1)
  have f307 := (show 0 ≤ I280 0 73 ∧ I280 0 73 ≤ 1001 from (hI280 0 73).1)
  have f308 := (show 0 ≤ I280 0 69 ∧ I280 0 69 ≤ 1000 from (hI280 0 69).1)
  have f309 := (show 0 ≤ I280 0 68 ∧ I280 0 68 ≤ 1000 from (hI280 0 68).1)
  have f310 := (show 0 ≤ I280 0 99 ∧ I280 0 99 ≤ 1000 from (hI280 0 99).1)
  have f311 := (show 0 ≤ I280 0 100 ∧ I280 0 100 ≤ 1000000 from (hI280 0 100).1)
  have f312 := (show 0 ≤ I280 0 1 ∧ I280 0 1 ≤ 8 from (hI280 0 1).1)
  have f313 := (show 0 ≤ I280 0 2 ∧ I280 0 2 ≤ 32 from (hI280 0 2).1)
  have f314 := (show 0 ≤ I280 0 3 ∧ I280 0 3 ≤ 96 from (hI280 0 3).1)
  have f315 := (show 0 ≤ I280 0 4 ∧ I280 0 4 ≤ 8 from (hI280 0 4).1)
  have f316 := (show 0 ≤ I280 0 5 ∧ I280 0 5 ≤ 64 from (hI280 0 5).1)
  have f317 := (show (-1) ≤ I280 0 6 ∧ I280 0 6 ≤ 7 from (hI280 0 6).1)
  have f318 := (show 0 ≤ I280 0 42 ∧ I280 0 42 ≤ 2000 from (hI280 0 42).1)
  have f319 := (show 0 ≤ I280 0 59 ∧ I280 0 59 ≤ 2000 from (hI280 0 59).1)
  have f320 := (show 0 ≤ I280 0 64 ∧ I280 0 64 ≤ 2000 from (hI280 0 64).1)
  have KTM_I280 := gr_TM_fr KTM_I236 (fun k => g279 52 k rfl) (fun k => g279 53 k rfl) (fun k => g279 54 k rfl) (g279 0 64 rfl)
  have KVF_I280 := gr_VF_fr KVF_I236 (fun k => g279 14 k rfl) (fun k => g279 13 k rfl)
  have KGR_I280 := gr_GR_fr KGR_I236 (fun k => g279 19 k rfl) (fun k => g279 18 k rfl) (fun k => g279 36 k rfl) (fun k => g279 41 k rfl) (fun k => g279 42 k rfl) (fun k => g279 43 k rfl) (fun k => g279 45 k rfl) (fun k => g279 46 k rfl) (fun k => g279 47 k rfl) (fun k => g279 6 k rfl) (fun k => g279 7 k rfl) (fun k => g279 8 k rfl) (g279 0 3 rfl)
  have KST_I280 : gr_ST I9 I280 := gr_ST_fr (by rw [hI9]; exact gr_ST_rf I) (fun k => (g279 6 k rfl).trans (p237 6 k (fun q => absurd q.1 (by decide)))) (fun k => (g279 19 k rfl).trans (p237 19 k (fun q => absurd q.1 (by decide)))) (fun k => (g279 18 k rfl).trans (p237 18 k (fun q => absurd q.1 (by decide)))) (fun k => (g279 41 k rfl).trans (p237 41 k (fun q => absurd q.1 (by decide)))) (fun k => (g279 36 k rfl).trans (p237 36 k (fun q => absurd q.1 (by decide)))) (by omega)
  refine gv_callV hD rfl (As := []) (st := []) rfl (by decide) rfl rfl (gr_lV hws rfl) (Nat.le_of_ble_eq_true rfl) (gz_Ev_mono (d := 1) (by decide) E279) ?_
  show gv_X _ _ (9, [(0, .inr (.inr (some 0)))], [], gr_sh ++ ext, gr_h I280 J281)
  refine gv_run 1 true hD (pc' := 10) (lv' := [(0, .inr (.inr (some 0)))]) (st' := [.inr (.inr (some 0))]) (h' := gr_h I280 J281) (C := (True ∧ True)) rfl ⟨trivial, trivial⟩ ?_
  obtain ⟨r321, h321, E321, P321⟩ := r_remember (ws0 := ws0) (tb := tb) hws htb ext I280 J281 hI280   
  obtain ⟨I322, J323, rfl, hI322, g321, k321, ⟨rfl, q321⟩⟩ := P321
  have FI322 := gr_frt FI280 g321 rfl rfl
  have FJ323 := gr_fjt FJ281 k321 rfl rfl
  have t324 := g321 0 71 rfl
  have t325 := g321 0 72 rfl
  have t326 := g321 0 73 rfl
  have t327 := g321 0 69 rfl
  have t328 := g321 0 68 rfl
  have t329 := g321 0 100 rfl
  have t330 := g321 0 1 rfl
  have t331 := g321 0 2 rfl
  have t332 := g321 0 3 rfl
  have t333 := g321 0 4 rfl
  have t334 := g321 0 5 rfl
  have t335 := g321 0 6 rfl
  have t336 := g321 0 42 rfl
  have t337 := g321 0 59 rfl
  have t338 := g321 0 64 rfl
  have f339 := (show 0 ≤ I322 0 71 ∧ I322 0 71 ≤ 5 from (hI322 0 71).1)
  have f340 := (show 0 ≤ I322 0 72 ∧ I322 0 72 ≤ 1000 from (hI322 0 72).1)
  have f341 := (show 0 ≤ I322 0 73 ∧ I322 0 73 ≤ 1001 from (hI322 0 73).1)
  have f342 := (show 0 ≤ I322 0 69 ∧ I322 0 69 ≤ 1000 from (hI322 0 69).1)
  have f343 := (show 0 ≤ I322 0 68 ∧ I322 0 68 ≤ 1000 from (hI322 0 68).1)
  have f344 := (show 0 ≤ I322 0 99 ∧ I322 0 99 ≤ 1000 from (hI322 0 99).1)
  have f345 := (show 0 ≤ I322 0 100 ∧ I322 0 100 ≤ 1000000 from (hI322 0 100).1)
  have f346 := (show 0 ≤ I322 0 1 ∧ I322 0 1 ≤ 8 from (hI322 0 1).1)
  have f347 := (show 0 ≤ I322 0 2 ∧ I322 0 2 ≤ 32 from (hI322 0 2).1)
  have f348 := (show 0 ≤ I322 0 3 ∧ I322 0 3 ≤ 96 from (hI322 0 3).1)
  have f349 := (show 0 ≤ I322 0 4 ∧ I322 0 4 ≤ 8 from (hI322 0 4).1)
  have f350 := (show 0 ≤ I322 0 5 ∧ I322 0 5 ≤ 64 from (hI322 0 5).1)
  have f351 := (show (-1) ≤ I322 0 6 ∧ I322 0 6 ≤ 7 from (hI322 0 6).1)
  have f352 := (show 0 ≤ I322 0 42 ∧ I322 0 42 ≤ 2000 from (hI322 0 42).1)
  have f353 := (show 0 ≤ I322 0 59 ∧ I322 0 59 ≤ 2000 from (hI322 0 59).1)
  have f354 := (show 0 ≤ I322 0 64 ∧ I322 0 64 ≤ 2000 from (hI322 0 64).1)
  have KTM_I322 := gr_TM_fr KTM_I280 (fun k => g321 52 k rfl) (fun k => g321 53 k rfl) (fun k => g321 54 k rfl) (g321 0 64 rfl)
  have KVF_I322 := gr_VF_fr KVF_I280 (fun k => g321 14 k rfl) (fun k => g321 13 k rfl)
  have KGR_I322 := gr_GR_fr KGR_I280 (fun k => g321 19 k rfl) (fun k => g321 18 k rfl) (fun k => g321 36 k rfl) (fun k => g321 41 k rfl) (fun k => g321 42 k rfl) (fun k => g321 43 k rfl) (fun k => g321 45 k rfl) (fun k => g321 46 k rfl) (fun k => g321 47 k rfl) (fun k => g321 6 k rfl) (fun k => g321 7 k rfl) (fun k => g321 8 k rfl) (g321 0 3 rfl)
  have KST_I322 := gr_ST_fr KST_I280 (fun k => g321 6 k rfl) (fun k => g321 19 k rfl) (fun k => g321 18 k rfl) (fun k => g321 41 k rfl) (fun k => g321 36 k rfl) (g321 0 3 rfl)
  have KRT_I322 : gr_RT8 I I322 := gr_RT8_l q321.2.2.2.2.2.2.2.2.2.2 (fun k => (g279 13 k rfl).trans (p237 13 k (fun q => absurd q.1 (by decide)))) (fun k => (g279 14 k rfl).trans (p237 14 k (fun q => absurd q.1 (by decide)))) (fun k => (g279 15 k rfl).trans (p237 15 k (fun q => absurd q.1 (by decide)))) (fun k => (g279 16 k rfl).trans (p237 16 k (fun q => absurd q.1 (by decide)))) (fun k => (g279 17 k rfl).trans (p237 17 k (fun q => absurd q.1 (by decide)))) (fun k => (g279 18 k rfl).trans (p237 18 k (fun q => absurd q.1 (by decide)))) (fun k => (g279 19 k rfl).trans (p237 19 k (fun q => absurd q.1 (by decide))))
  refine gv_callV hD rfl (As := []) (st := []) rfl (by decide) rfl rfl (gr_lV hws rfl) (Nat.le_of_ble_eq_true rfl) (gz_Ev_mono (d := 1) (by decide) E321) ?_
  show gv_X _ _ (13, [(0, .inr (.inr (some 0)))], [], gr_sh ++ ext, gr_h I322 J323)
  refine gv_run 3 true hD (pc' := 18) (lv' := [(0, .inr (.inr (some 0)))]) (st' := []) (h' := gz_up (gr_h I322 J323) 0 73 (.inl 0)) (C := (((True ∧ True) ∧ True) ∧ True)) rfl ⟨⟨⟨trivial, trivial⟩, trivial⟩, trivial⟩ ?_
  refine gr_st hI322 FI322 rfl rfl ⟨⟨by show 0 ≤ _; omega, by show _ ≤ 1001; omega⟩, trivial⟩ (fun I355 hI355 FI355 q356 p356 => ?_)
  have t357 := p356 0 71 (by decide)
  have t358 := p356 0 72 (by decide)
  have t359 := p356 0 69 (by decide)
  have t360 := p356 0 68 (by decide)
  have t361 := p356 0 99 (by decide)
  have t362 := p356 0 100 (by decide)
  have t363 := p356 0 1 (by decide)
  have t364 := p356 0 2 (by decide)
  have t365 := p356 0 3 (by decide)
  have t366 := p356 0 4 (by decide)
  have t367 := p356 0 5 (by decide)
  have t368 := p356 0 6 (by decide)
  have t369 := p356 0 42 (by decide)
  have t370 := p356 0 59 (by decide)
  have t371 := p356 0 64 (by decide)
  have t372 := p356 59 (Int.toNat 0) (fun q => absurd q.1 (by decide))
  have t373 := p356 59 (Int.toNat ((0 + 1))) (fun q => absurd q.1 (by decide))
  have t374 := p356 59 (Int.toNat (((0 + 1) + 1))) (fun q => absurd q.1 (by decide))
  have t375 := p356 59 (Int.toNat ((((0 + 1) + 1) + 1))) (fun q => absurd q.1 (by decide))
  have t376 := p356 59 (Int.toNat (((((0 + 1) + 1) + 1) + 1))) (fun q => absurd q.1 (by decide))
  have t377 := p356 59 (Int.toNat ((((((0 + 1) + 1) + 1) + 1) + 1))) (fun q => absurd q.1 (by decide))
  have t378 := p356 59 (Int.toNat (((((((0 + 1) + 1) + 1) + 1) + 1) + 1))) (fun q => absurd q.1 (by decide))
  have t379 := p356 59 (Int.toNat ((((((((0 + 1) + 1) + 1) + 1) + 1) + 1) + 1))) (fun q => absurd q.1 (by decide))
  have t380 := p356 59 (Int.toNat (((((((((0 + 1) + 1) + 1) + 1) + 1) + 1) + 1) + 1))) (fun q => absurd q.1 (by decide))
  have f381 := (show 0 ≤ I355 0 71 ∧ I355 0 71 ≤ 5 from (hI355 0 71).1)
  have f382 := (show 0 ≤ I355 0 72 ∧ I355 0 72 ≤ 1000 from (hI355 0 72).1)
  have f383 := (show 0 ≤ I355 0 73 ∧ I355 0 73 ≤ 1001 from (hI355 0 73).1)
  have f384 := (show 0 ≤ I355 0 69 ∧ I355 0 69 ≤ 1000 from (hI355 0 69).1)
  have f385 := (show 0 ≤ I355 0 68 ∧ I355 0 68 ≤ 1000 from (hI355 0 68).1)
  have f386 := (show 0 ≤ I355 0 99 ∧ I355 0 99 ≤ 1000 from (hI355 0 99).1)
  have f387 := (show 0 ≤ I355 0 100 ∧ I355 0 100 ≤ 1000000 from (hI355 0 100).1)
  have f388 := (show 0 ≤ I355 0 1 ∧ I355 0 1 ≤ 8 from (hI355 0 1).1)
  have f389 := (show 0 ≤ I355 0 2 ∧ I355 0 2 ≤ 32 from (hI355 0 2).1)
  have f390 := (show 0 ≤ I355 0 3 ∧ I355 0 3 ≤ 96 from (hI355 0 3).1)
  have f391 := (show 0 ≤ I355 0 4 ∧ I355 0 4 ≤ 8 from (hI355 0 4).1)
  have f392 := (show 0 ≤ I355 0 5 ∧ I355 0 5 ≤ 64 from (hI355 0 5).1)
  have f393 := (show (-1) ≤ I355 0 6 ∧ I355 0 6 ≤ 7 from (hI355 0 6).1)
  have f394 := (show 0 ≤ I355 0 42 ∧ I355 0 42 ≤ 2000 from (hI355 0 42).1)
  have f395 := (show 0 ≤ I355 0 59 ∧ I355 0 59 ≤ 2000 from (hI355 0 59).1)
  have f396 := (show 0 ≤ I355 0 64 ∧ I355 0 64 ≤ 2000 from (hI355 0 64).1)
  have KTM_I355 := gr_TM_fr KTM_I322 (fun k => p356 52 k (fun q => absurd q.1 (by decide))) (fun k => p356 53 k (fun q => absurd q.1 (by decide))) (fun k => p356 54 k (fun q => absurd q.1 (by decide))) (p356 0 64 (by decide))
  have KVF_I355 := gr_VF_fr KVF_I322 (fun k => p356 14 k (fun q => absurd q.1 (by decide))) (fun k => p356 13 k (fun q => absurd q.1 (by decide)))
  have KGR_I355 := gr_GR_fr KGR_I322 (fun k => p356 19 k (fun q => absurd q.1 (by decide))) (fun k => p356 18 k (fun q => absurd q.1 (by decide))) (fun k => p356 36 k (fun q => absurd q.1 (by decide))) (fun k => p356 41 k (fun q => absurd q.1 (by decide))) (fun k => p356 42 k (fun q => absurd q.1 (by decide))) (fun k => p356 43 k (fun q => absurd q.1 (by decide))) (fun k => p356 45 k (fun q => absurd q.1 (by decide))) (fun k => p356 46 k (fun q => absurd q.1 (by decide))) (fun k => p356 47 k (fun q => absurd q.1 (by decide))) (fun k => p356 6 k (fun q => absurd q.1 (by decide))) (fun k => p356 7 k (fun q => absurd q.1 (by decide))) (fun k => p356 8 k (fun q => absurd q.1 (by decide))) (p356 0 3 (by decide))
  have KRT_I355 := gr_RT8_fr KRT_I322 (fun k => p356 59 k (fun q => absurd q.1 (by decide)))
  have KST_I355 := gr_ST_fr KST_I322 (fun k => p356 6 k (fun q => absurd q.1 (by decide))) (fun k => p356 19 k (fun q => absurd q.1 (by decide))) (fun k => p356 18 k (fun q => absurd q.1 (by decide))) (fun k => p356 41 k (fun q => absurd q.1 (by decide))) (fun k => p356 36 k (fun q => absurd q.1 (by decide))) (p356 0 3 (by decide))
  refine gv_run 3 true hD (pc' := 23) (lv' := [(0, .inr (.inr (some 0)))]) (st' := []) (h' := gz_up (gr_h I355 J323) 0 76 (.inl 0)) (C := (((True ∧ True) ∧ True) ∧ True)) rfl ⟨⟨⟨trivial, trivial⟩, trivial⟩, trivial⟩ ?_
  refine gr_st hI355 FI355 rfl rfl ⟨⟨by show 0 ≤ _; omega, by show _ ≤ 6; omega⟩, trivial⟩ (fun I397 hI397 FI397 q398 p398 => ?_)
  have t399 := p398 0 71 (by decide)
  have t400 := p398 0 72 (by decide)
  have t401 := p398 0 73 (by decide)
  have t402 := p398 0 69 (by decide)
  have t403 := p398 0 68 (by decide)
  have t404 := p398 0 99 (by decide)
  have t405 := p398 0 100 (by decide)
  have t406 := p398 0 1 (by decide)
  have t407 := p398 0 2 (by decide)
  have t408 := p398 0 3 (by decide)
  have t409 := p398 0 4 (by decide)
  have t410 := p398 0 5 (by decide)
  have t411 := p398 0 6 (by decide)
  have t412 := p398 0 42 (by decide)
  have t413 := p398 0 59 (by decide)
  have t414 := p398 0 64 (by decide)
  have t415 := p398 59 (Int.toNat 0) (fun q => absurd q.1 (by decide))
  have t416 := p398 59 (Int.toNat ((0 + 1))) (fun q => absurd q.1 (by decide))
  have t417 := p398 59 (Int.toNat (((0 + 1) + 1))) (fun q => absurd q.1 (by decide))
  have t418 := p398 59 (Int.toNat ((((0 + 1) + 1) + 1))) (fun q => absurd q.1 (by decide))
  have t419 := p398 59 (Int.toNat (((((0 + 1) + 1) + 1) + 1))) (fun q => absurd q.1 (by decide))
  have t420 := p398 59 (Int.toNat ((((((0 + 1) + 1) + 1) + 1) + 1))) (fun q => absurd q.1 (by decide))
  have t421 := p398 59 (Int.toNat (((((((0 + 1) + 1) + 1) + 1) + 1) + 1))) (fun q => absurd q.1 (by decide))
  have t422 := p398 59 (Int.toNat ((((((((0 + 1) + 1) + 1) + 1) + 1) + 1) + 1))) (fun q => absurd q.1 (by decide))
  have t423 := p398 59 (Int.toNat (((((((((0 + 1) + 1) + 1) + 1) + 1) + 1) + 1) + 1))) (fun q => absurd q.1 (by decide))
  have f424 := (show 0 ≤ I397 0 71 ∧ I397 0 71 ≤ 5 from (hI397 0 71).1)
  have f425 := (show 0 ≤ I397 0 72 ∧ I397 0 72 ≤ 1000 from (hI397 0 72).1)
  have f426 := (show 0 ≤ I397 0 73 ∧ I397 0 73 ≤ 1001 from (hI397 0 73).1)
  have f427 := (show 0 ≤ I397 0 69 ∧ I397 0 69 ≤ 1000 from (hI397 0 69).1)
  have f428 := (show 0 ≤ I397 0 68 ∧ I397 0 68 ≤ 1000 from (hI397 0 68).1)
  have f429 := (show 0 ≤ I397 0 99 ∧ I397 0 99 ≤ 1000 from (hI397 0 99).1)
  have f430 := (show 0 ≤ I397 0 100 ∧ I397 0 100 ≤ 1000000 from (hI397 0 100).1)
  have f431 := (show 0 ≤ I397 0 1 ∧ I397 0 1 ≤ 8 from (hI397 0 1).1)
  have f432 := (show 0 ≤ I397 0 2 ∧ I397 0 2 ≤ 32 from (hI397 0 2).1)
  have f433 := (show 0 ≤ I397 0 3 ∧ I397 0 3 ≤ 96 from (hI397 0 3).1)
  have f434 := (show 0 ≤ I397 0 4 ∧ I397 0 4 ≤ 8 from (hI397 0 4).1)
  have f435 := (show 0 ≤ I397 0 5 ∧ I397 0 5 ≤ 64 from (hI397 0 5).1)
  have f436 := (show (-1) ≤ I397 0 6 ∧ I397 0 6 ≤ 7 from (hI397 0 6).1)
  have f437 := (show 0 ≤ I397 0 42 ∧ I397 0 42 ≤ 2000 from (hI397 0 42).1)
  have f438 := (show 0 ≤ I397 0 59 ∧ I397 0 59 ≤ 2000 from (hI397 0 59).1)
  have f439 := (show 0 ≤ I397 0 64 ∧ I397 0 64 ≤ 2000 from (hI397 0 64).1)
  have KTM_I397 := gr_TM_fr KTM_I355 (fun k => p398 52 k (fun q => absurd q.1 (by decide))) (fun k => p398 53 k (fun q => absurd q.1 (by decide))) (fun k => p398 54 k (fun q => absurd q.1 (by decide))) (p398 0 64 (by decide))
  have KVF_I397 := gr_VF_fr KVF_I355 (fun k => p398 14 k (fun q => absurd q.1 (by decide))) (fun k => p398 13 k (fun q => absurd q.1 (by decide)))
  have KGR_I397 := gr_GR_fr KGR_I355 (fun k => p398 19 k (fun q => absurd q.1 (by decide))) (fun k => p398 18 k (fun q => absurd q.1 (by decide))) (fun k => p398 36 k (fun q => absurd q.1 (by decide))) (fun k => p398 41 k (fun q => absurd q.1 (by decide))) (fun k => p398 42 k (fun q => absurd q.1 (by decide))) (fun k => p398 43 k (fun q => absurd q.1 (by decide))) (fun k => p398 45 k (fun q => absurd q.1 (by decide))) (fun k => p398 46 k (fun q => absurd q.1 (by decide))) (fun k => p398 47 k (fun q => absurd q.1 (by decide))) (fun k => p398 6 k (fun q => absurd q.1 (by decide))) (fun k => p398 7 k (fun q => absurd q.1 (by decide))) (fun k => p398 8 k (fun q => absurd q.1 (by decide))) (p398 0 3 (by decide))
  have KRT_I397 := gr_RT8_fr KRT_I355 (fun k => p398 59 k (fun q => absurd q.1 (by decide)))
  have KST_I397 := gr_ST_fr KST_I355 (fun k => p398 6 k (fun q => absurd q.1 (by decide))) (fun k => p398 19 k (fun q => absurd q.1 (by decide))) (fun k => p398 18 k (fun q => absurd q.1 (by decide))) (fun k => p398 41 k (fun q => absurd q.1 (by decide))) (fun k => p398 36 k (fun q => absurd q.1 (by decide))) (p398 0 3 (by decide))
  refine gv_run 1 true hD (pc' := 24) (lv' := [(0, .inr (.inr (some 0)))]) (st' := [.inr (.inr (some 0))]) (h' := gr_h I397 J323) (C := (True ∧ True)) rfl ⟨trivial, trivial⟩ ?_
  obtain ⟨r440, h440, E440, P440⟩ := r_next (ws0 := ws0) (tb := tb) hws htb ext I397 J323 hI397   (by omega)
  obtain ⟨I441, J442, rfl, hI441, g440, k440, ⟨rfl, q440⟩⟩ := P440
  have FI441 := gr_frt FI397 g440 rfl rfl
  have FJ442 := gr_fjt FJ323 k440 rfl rfl
  have t443 := g440 0 69 rfl
  have t444 := g440 0 68 rfl
  have t445 := g440 0 99 rfl
  have t446 := g440 0 100 rfl
  have t447 := g440 0 1 rfl
  have t448 := g440 0 2 rfl
  have t449 := g440 0 3 rfl
  have t450 := g440 0 4 rfl
  have t451 := g440 0 5 rfl
  have t452 := g440 0 6 rfl
  have t453 := g440 0 42 rfl
  have t454 := g440 0 59 rfl
  have t455 := g440 0 64 rfl
  have t456 := g440 59 (Int.toNat 0) rfl
  have t457 := g440 59 (Int.toNat ((0 + 1))) rfl
  have t458 := g440 59 (Int.toNat (((0 + 1) + 1))) rfl
  have t459 := g440 59 (Int.toNat ((((0 + 1) + 1) + 1))) rfl
  have t460 := g440 59 (Int.toNat (((((0 + 1) + 1) + 1) + 1))) rfl
  have t461 := g440 59 (Int.toNat ((((((0 + 1) + 1) + 1) + 1) + 1))) rfl
  have t462 := g440 59 (Int.toNat (((((((0 + 1) + 1) + 1) + 1) + 1) + 1))) rfl
  have t463 := g440 59 (Int.toNat ((((((((0 + 1) + 1) + 1) + 1) + 1) + 1) + 1))) rfl
  have t464 := g440 59 (Int.toNat (((((((((0 + 1) + 1) + 1) + 1) + 1) + 1) + 1) + 1))) rfl
  have f465 := (show 0 ≤ I441 0 71 ∧ I441 0 71 ≤ 5 from (hI441 0 71).1)
  have f466 := (show 0 ≤ I441 0 72 ∧ I441 0 72 ≤ 1000 from (hI441 0 72).1)
  have f467 := (show 0 ≤ I441 0 73 ∧ I441 0 73 ≤ 1001 from (hI441 0 73).1)
  have f468 := (show 0 ≤ I441 0 69 ∧ I441 0 69 ≤ 1000 from (hI441 0 69).1)
  have f469 := (show 0 ≤ I441 0 68 ∧ I441 0 68 ≤ 1000 from (hI441 0 68).1)
  have f470 := (show 0 ≤ I441 0 99 ∧ I441 0 99 ≤ 1000 from (hI441 0 99).1)
  have f471 := (show 0 ≤ I441 0 100 ∧ I441 0 100 ≤ 1000000 from (hI441 0 100).1)
  have f472 := (show 0 ≤ I441 0 1 ∧ I441 0 1 ≤ 8 from (hI441 0 1).1)
  have f473 := (show 0 ≤ I441 0 2 ∧ I441 0 2 ≤ 32 from (hI441 0 2).1)
  have f474 := (show 0 ≤ I441 0 3 ∧ I441 0 3 ≤ 96 from (hI441 0 3).1)
  have f475 := (show 0 ≤ I441 0 4 ∧ I441 0 4 ≤ 8 from (hI441 0 4).1)
  have f476 := (show 0 ≤ I441 0 5 ∧ I441 0 5 ≤ 64 from (hI441 0 5).1)
  have f477 := (show (-1) ≤ I441 0 6 ∧ I441 0 6 ≤ 7 from (hI441 0 6).1)
  have f478 := (show 0 ≤ I441 0 42 ∧ I441 0 42 ≤ 2000 from (hI441 0 42).1)
  have f479 := (show 0 ≤ I441 0 59 ∧ I441 0 59 ≤ 2000 from (hI441 0 59).1)
  have f480 := (show 0 ≤ I441 0 64 ∧ I441 0 64 ≤ 2000 from (hI441 0 64).1)
  have KTM_I441 := gr_TM_fr KTM_I397 (fun k => g440 52 k rfl) (fun k => g440 53 k rfl) (fun k => g440 54 k rfl) (g440 0 64 rfl)
  have KVF_I441 := gr_VF_fr KVF_I397 (fun k => g440 14 k rfl) (fun k => g440 13 k rfl)
  have KGR_I441 := gr_GR_fr KGR_I397 (fun k => g440 19 k rfl) (fun k => g440 18 k rfl) (fun k => g440 36 k rfl) (fun k => g440 41 k rfl) (fun k => g440 42 k rfl) (fun k => g440 43 k rfl) (fun k => g440 45 k rfl) (fun k => g440 46 k rfl) (fun k => g440 47 k rfl) (fun k => g440 6 k rfl) (fun k => g440 7 k rfl) (fun k => g440 8 k rfl) (g440 0 3 rfl)
  have KRT_I441 := gr_RT8_fr KRT_I397 (fun k => g440 59 k rfl)
  have KST_I441 := gr_ST_fr KST_I397 (fun k => g440 6 k rfl) (fun k => g440 19 k rfl) (fun k => g440 18 k rfl) (fun k => g440 41 k rfl) (fun k => g440 36 k rfl) (g440 0 3 rfl)
  have KLN_I441 : gr_LN B I441 := gr_LN_of KLE_I (fun k => (((((g440 19 k rfl).trans (p398 19 k (fun q => absurd q.1 (by decide)))).trans (p356 19 k (fun q => absurd q.1 (by decide)))).trans (g321 19 k rfl)).trans (g279 19 k rfl)).trans (p237 19 k (fun q => absurd q.1 (by decide)))) (by omega) (by omega)
  refine gv_callV hD rfl (As := []) (st := []) rfl (by decide) rfl rfl (gr_lV hws rfl) (Nat.le_of_ble_eq_true rfl) (gz_Ev_mono (d := 10) (by decide) E440) ?_
  show gv_X _ _ (27, [(0, .inr (.inr (some 0)))], [], gr_sh ++ ext, gr_h I441 J442)
  refine gv_run 2 true hD (pc' := 29) (lv' := [(1, .inl 0), (0, .inr (.inr (some 0)))]) (st' := []) (h' := gr_h I441 J442) (C := ((True ∧ True) ∧ True)) rfl ⟨⟨trivial, trivial⟩, trivial⟩ ?_
  refine gv_pick [1, 0] rfl ?_
  exact L29 _ I441 J442 0 (Nat.lt_succ_self _) hI441 FI441 FJ442 KTM_I441 KVF_I441 KLN_I441 KRT_I441 KGR_I441 KST_I441 (by omega)
