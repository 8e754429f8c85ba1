set_option maxHeartbeats 4000000 in
set_option maxRecDepth 100000 in
theorem r_module_p {ws0 : List Cond} {tb : String → gz_T} (hws : ∀ w ∈ gr_ws, w ∈ ws0) (htb : tb RX13 = gr_T) (ext : gz_Sh) (B : Int) (hB : B ≤ 1500) (β : Int → Int) (N9 : Int) (I : gr_I) (J : gr_J) (hI : gr_Inv I)   (x0 : I 0 59 + I 0 68 ≤ 1900) (x1 : I 0 42 + I 0 68 ≤ 1900) (x2 : I 0 64 + I 0 68 ≤ 1900) (x3 : I 0 100 ≤ 999999) (x4 : gs_TX β N9 (I 56)) (x5 : N9 = I 0 68) (x6 : gr_KW J) (KTM_I : gr_TM I) (KVF_I : gr_VF I) (KLE_I : gr_LE B I) (KGR_I : gr_GR I) (KTO_I : gr_TO I) (KFM_I : gr_FM I) : ∃ r h', gz_Ev ws0 tb 101 (yX13_module, cX13_module, 2, (some .int)) [.inr (.inr (some 0))] (gr_sh ++ ext) (gr_h I J) r (gr_sh ++ ext) h' 0 0 ∧ (∃ (I' : gr_I) (J' : gr_J), h' = gr_h I' J' ∧ gr_Inv I' ∧ gr_fr [0, 1, 2, 3, 4, 5, 6, 42, 59, 64, 68, 69, 71, 72, 73, 74, 75, 76, 77, 78, 79, 99, 100, 101, 104, 106, 118, 119, 120, 122, 123] [1, 2, 3, 4, 5, 6, 7, 8, 9, 10, 11, 12, 13, 14, 15, 16, 17, 18, 19, 20, 21, 22, 23, 24, 25, 26, 27, 28, 29, 30, 31, 32, 33, 34, 35, 36, 37, 38, 39, 40, 41, 42, 43, 44, 45, 46, 47, 48, 49, 50, 51, 52, 53, 54, 55, 57, 59, 60, 61, 62, 63, 64, 65, 66, 67, 68, 69, 70, 71, 72, 73, 74, 75] I I' ∧ gr_fj [0, 1, 2, 3, 4, 5, 6, 42, 59, 64, 68, 69, 71, 72, 73, 74, 75, 76, 77, 78, 79, 99, 100, 101, 104, 106, 118, 119, 120, 122, 123] [1, 2, 3, 4, 5, 6, 7, 8, 9, 10, 11, 12, 13, 14, 15, 16, 17, 18, 19, 20, 21, 22, 23, 24, 25, 26, 27, 28, 29, 30, 31, 32, 33, 34, 35, 36, 37, 38, 39, 40, 41, 42, 43, 44, 45, 46, 47, 48, 49, 50, 51, 52, 53, 54, 55, 57, 59, 60, 61, 62, 63, 64, 65, 66, 67, 68, 69, 70, 71, 72, 73, 74, 75] J J' ∧ gr_TM I' ∧ gr_VF I' ∧ gr_LE B I' ∧ gr_GR I' ∧ gr_TO I' ∧ gr_FM I' ∧ (∃ z : Int, r = some (.inl z) ∧ (-1002) ≤ z ∧ z ≤ 1000 ∧ (I' 0 59 ≤ I 0 59 + I 0 68) ∧ (I' 0 42 ≤ I 0 42 + I 0 68) ∧ (I' 0 64 ≤ I 0 64 + I 0 68) ∧ (I' 0 68 = 0) ∧ (I' 0 100 ≤ I 0 100 + 1) ∧ (gr_ST I I') ∧ (gs_MD β N9 z I J I' J'))) := by
  have FI : gr_fr [0, 1, 2, 3, 4, 5, 6, 42, 59, 64, 68, 69, 71, 72, 73, 74, 75, 76, 77, 78, 79, 99, 100, 101, 104, 106, 118, 119, 120, 122, 123] [1, 2, 3, 4, 5, 6, 7, 8, 9, 10, 11, 12, 13, 14, 15, 16, 17, 18, 19, 20, 21, 22, 23, 24, 25, 26, 27, 28, 29, 30, 31, 32, 33, 34, 35, 36, 37, 38, 39, 40, 41, 42, 43, 44, 45, 46, 47, 48, 49, 50, 51, 52, 53, 54, 55, 57, 59, 60, 61, 62, 63, 64, 65, 66, 67, 68, 69, 70, 71, 72, 73, 74, 75] I I := fun _ _ _ => rfl
  have FJ : gr_fj [0, 1, 2, 3, 4, 5, 6, 42, 59, 64, 68, 69, 71, 72, 73, 74, 75, 76, 77, 78, 79, 99, 100, 101, 104, 106, 118, 119, 120, 122, 123] [1, 2, 3, 4, 5, 6, 7, 8, 9, 10, 11, 12, 13, 14, 15, 16, 17, 18, 19, 20, 21, 22, 23, 24, 25, 26, 27, 28, 29, 30, 31, 32, 33, 34, 35, 36, 37, 38, 39, 40, 41, 42, 43, 44, 45, 46, 47, 48, 49, 50, 51, 52, 53, 54, 55, 57, 59, 60, 61, 62, 63, 64, 65, 66, 67, 68, 69, 70, 71, 72, 73, 74, 75] J J := fun _ _ _ => rfl
  have hD : gv_D (gr_E ws0 tb 100 (yX13_module, cX13_module, 2, (some .int)) kX13_module) := gq_ok oX13_module
  refine gr_ev (d := 100) (l := kX13_module) (Po := fun r h' => (∃ (I' : gr_I) (J' : gr_J), h' = gr_h I' J' ∧ gr_Inv I' ∧ gr_fr [0, 1, 2, 3, 4, 5, 6, 42, 59, 64, 68, 69, 71, 72, 73, 74, 75, 76, 77, 78, 79, 99, 100, 101, 104, 106, 118, 119, 120, 122, 123] [1, 2, 3, 4, 5, 6, 7, 8, 9, 10, 11, 12, 13, 14, 15, 16, 17, 18, 19, 20, 21, 22, 23, 24, 25, 26, 27, 28, 29, 30, 31, 32, 33, 34, 35, 36, 37, 38, 39, 40, 41, 42, 43, 44, 45, 46, 47, 48, 49, 50, 51, 52, 53, 54, 55, 57, 59, 60, 61, 62, 63, 64, 65, 66, 67, 68, 69, 70, 71, 72, 73, 74, 75] I I' ∧ gr_fj [0, 1, 2, 3, 4, 5, 6, 42, 59, 64, 68, 69, 71, 72, 73, 74, 75, 76, 77, 78, 79, 99, 100, 101, 104, 106, 118, 119, 120, 122, 123] [1, 2, 3, 4, 5, 6, 7, 8, 9, 10, 11, 12, 13, 14, 15, 16, 17, 18, 19, 20, 21, 22, 23, 24, 25, 26, 27, 28, 29, 30, 31, 32, 33, 34, 35, 36, 37, 38, 39, 40, 41, 42, 43, 44, 45, 46, 47, 48, 49, 50, 51, 52, 53, 54, 55, 57, 59, 60, 61, 62, 63, 64, 65, 66, 67, 68, 69, 70, 71, 72, 73, 74, 75] J J' ∧ gr_TM I' ∧ gr_VF I' ∧ gr_LE B I' ∧ gr_GR I' ∧ gr_TO I' ∧ gr_FM I' ∧ (∃ z : Int, r = some (.inl z) ∧ (-1002) ≤ z ∧ z ≤ 1000 ∧ (I' 0 59 ≤ I 0 59 + I 0 68) ∧ (I' 0 42 ≤ I 0 42 + I 0 68) ∧ (I' 0 64 ≤ I 0 64 + I 0 68) ∧ (I' 0 68 = 0) ∧ (I' 0 100 ≤ I 0 100 + 1) ∧ (gr_ST I I') ∧ (gs_MD β N9 z I J I' J')))) htb rfl (Nat.le_of_ble_eq_true rfl) ?_
  obtain ⟨I9, hI9⟩ : ∃ I9 : gr_I, I9 = I := ⟨I, rfl⟩
  have KW := x6
  have f1 := (show 0 ≤ I 0 71 ∧ I 0 71 ≤ 5 from (hI 0 71).1)
  have f2 := (show 0 ≤ I 0 72 ∧ I 0 72 ≤ 1000 from (hI 0 72).1)
  have f3 := (show 0 ≤ I 0 73 ∧ I 0 73 ≤ 1001 from (hI 0 73).1)
  have f4 := (show 0 ≤ I 0 69 ∧ I 0 69 ≤ 1000 from (hI 0 69).1)
  have f5 := (show 0 ≤ I 0 68 ∧ I 0 68 ≤ 1000 from (hI 0 68).1)
  have f6 := (show 0 ≤ I 0 99 ∧ I 0 99 ≤ 1000 from (hI 0 99).1)
  have f7 := (show 0 ≤ I 0 100 ∧ I 0 100 ≤ 1000000 from (hI 0 100).1)
  have f8 := (show 0 ≤ I 0 1 ∧ I 0 1 ≤ 8 from (hI 0 1).1)
  have f9 := (show 0 ≤ I 0 2 ∧ I 0 2 ≤ 32 from (hI 0 2).1)
  have f10 := (show 0 ≤ I 0 3 ∧ I 0 3 ≤ 96 from (hI 0 3).1)
  have f11 := (show 0 ≤ I 0 4 ∧ I 0 4 ≤ 8 from (hI 0 4).1)
  have f12 := (show 0 ≤ I 0 5 ∧ I 0 5 ≤ 64 from (hI 0 5).1)
  have f13 := (show (-1) ≤ I 0 6 ∧ I 0 6 ≤ 7 from (hI 0 6).1)
  have f14 := (show 0 ≤ I 0 42 ∧ I 0 42 ≤ 2000 from (hI 0 42).1)
  have f15 := (show 0 ≤ I 0 59 ∧ I 0 59 ≤ 2000 from (hI 0 59).1)
  have f16 := (show 0 ≤ I 0 64 ∧ I 0 64 ≤ 2000 from (hI 0 64).1)
  have f17 := (show 0 ≤ I 0 3 ∧ I 0 3 ≤ 96 from (hI 0 3).1)
  have f18 := (show (-1) ≤ I 0 77 ∧ I 0 77 ≤ 1001 from (hI 0 77).1)
  have L29 : ∀ (n : Nat) (I19 : gr_I) (J20 : gr_J) (v1_21 : Int) (p_21 : Int), (1001 - I19 0 72).toNat < n → gr_Inv I19 → gr_fr [0, 1, 2, 3, 4, 5, 6, 42, 59, 64, 68, 69, 71, 72, 73, 74, 75, 76, 77, 78, 79, 99, 100, 101, 104, 106, 118, 119, 120, 122, 123] [1, 2, 3, 4, 5, 6, 7, 8, 9, 10, 11, 12, 13, 14, 15, 16, 17, 18, 19, 20, 21, 22, 23, 24, 25, 26, 27, 28, 29, 30, 31, 32, 33, 34, 35, 36, 37, 38, 39, 40, 41, 42, 43, 44, 45, 46, 47, 48, 49, 50, 51, 52, 53, 54, 55, 57, 59, 60, 61, 62, 63, 64, 65, 66, 67, 68, 69, 70, 71, 72, 73, 74, 75] I I19 → gr_fj [0, 1, 2, 3, 4, 5, 6, 42, 59, 64, 68, 69, 71, 72, 73, 74, 75, 76, 77, 78, 79, 99, 100, 101, 104, 106, 118, 119, 120, 122, 123] [1, 2, 3, 4, 5, 6, 7, 8, 9, 10, 11, 12, 13, 14, 15, 16, 17, 18, 19, 20, 21, 22, 23, 24, 25, 26, 27, 28, 29, 30, 31, 32, 33, 34, 35, 36, 37, 38, 39, 40, 41, 42, 43, 44, 45, 46, 47, 48, 49, 50, 51, 52, 53, 54, 55, 57, 59, 60, 61, 62, 63, 64, 65, 66, 67, 68, 69, 70, 71, 72, 73, 74, 75] J J20 → gr_TM I19 → gr_VF I19 → gr_LN B I19 → gr_RT8 I I19 → gr_GR I19 → gr_ST I9 I19 → gr_TO I19 → gr_FM I19 → gr_MQ I9 I19 → ((0 ≤ v1_21 ∧ v1_21 ≤ 1000) ∧ (I19 0 72 ≤ I19 0 69) ∧ (I19 0 72 ≤ I19 0 73) ∧ (I19 0 69 = I 0 68) ∧ (I19 0 68 = 0) ∧ (I19 0 100 = I 0 100) ∧ (v1_21 ≤ I19 0 72) ∧ (I 0 64 ≤ I19 0 64) ∧ (I19 0 99 ≤ I19 0 72) ∧ (I19 0 59 - I19 0 72 ≤ I 0 59) ∧ (I19 0 42 - I19 0 72 ≤ I 0 42) ∧ (I19 0 64 - I19 0 72 ≤ I 0 64) ∧ (I19 59 (Int.toNat 0) = I 0 1) ∧ (I19 59 (Int.toNat ((0 + 1))) = I 0 2) ∧ (I19 59 (Int.toNat (((0 + 1) + 1))) = I 0 3) ∧ (I19 59 (Int.toNat ((((0 + 1) + 1) + 1))) = I 0 4) ∧ (I19 59 (Int.toNat (((((0 + 1) + 1) + 1) + 1))) = I 0 5) ∧ (I19 59 (Int.toNat ((((((0 + 1) + 1) + 1) + 1) + 1))) = I 0 6) ∧ (I19 59 (Int.toNat (((((((0 + 1) + 1) + 1) + 1) + 1) + 1))) = I 0 42) ∧ (I19 59 (Int.toNat ((((((((0 + 1) + 1) + 1) + 1) + 1) + 1) + 1))) = I 0 59) ∧ (I19 59 (Int.toNat (((((((((0 + 1) + 1) + 1) + 1) + 1) + 1) + 1) + 1))) = I 0 64) ∧ (0 ≤ p_21)) → (gr_ATp β N9 p_21 I19 J20) → (gs_M0 β N9 v1_21 I J p_21 I19 J20) → gv_X (gr_E ws0 tb 100 (yX13_module, cX13_module, 2, (some .int)) kX13_module) (gv_Q cX13_module (some .int) (gr_sh ++ ext) (fun r h' => (∃ (I' : gr_I) (J' : gr_J), h' = gr_h I' J' ∧ gr_Inv I' ∧ gr_fr [0, 1, 2, 3, 4, 5, 6, 42, 59, 64, 68, 69, 71, 72, 73, 74, 75, 76, 77, 78, 79, 99, 100, 101, 104, 106, 118, 119, 120, 122, 123] [1, 2, 3, 4, 5, 6, 7, 8, 9, 10, 11, 12, 13, 14, 15, 16, 17, 18, 19, 20, 21, 22, 23, 24, 25, 26, 27, 28, 29, 30, 31, 32, 33, 34, 35, 36, 37, 38, 39, 40, 41, 42, 43, 44, 45, 46, 47, 48, 49, 50, 51, 52, 53, 54, 55, 57, 59, 60, 61, 62, 63, 64, 65, 66, 67, 68, 69, 70, 71, 72, 73, 74, 75] I I' ∧ gr_fj [0, 1, 2, 3, 4, 5, 6, 42, 59, 64, 68, 69, 71, 72, 73, 74, 75, 76, 77, 78, 79, 99, 100, 101, 104, 106, 118, 119, 120, 122, 123] [1, 2, 3, 4, 5, 6, 7, 8, 9, 10, 11, 12, 13, 14, 15, 16, 17, 18, 19, 20, 21, 22, 23, 24, 25, 26, 27, 28, 29, 30, 31, 32, 33, 34, 35, 36, 37, 38, 39, 40, 41, 42, 43, 44, 45, 46, 47, 48, 49, 50, 51, 52, 53, 54, 55, 57, 59, 60, 61, 62, 63, 64, 65, 66, 67, 68, 69, 70, 71, 72, 73, 74, 75] J J' ∧ gr_TM I' ∧ gr_VF I' ∧ gr_LE B I' ∧ gr_GR I' ∧ gr_TO I' ∧ gr_FM I' ∧ (∃ z : Int, r = some (.inl z) ∧ (-1002) ≤ z ∧ z ≤ 1000 ∧ (I' 0 59 ≤ I 0 59 + I 0 68) ∧ (I' 0 42 ≤ I 0 42 + I 0 68) ∧ (I' 0 64 ≤ I 0 64 + I 0 68) ∧ (I' 0 68 = 0) ∧ (I' 0 100 ≤ I 0 100 + 1) ∧ (gr_ST I I') ∧ (gs_MD β N9 z I J I' J'))))) (29, [(0, .inr (.inr (some 0))), (1, .inl v1_21)], [], gr_sh ++ ext, gr_h I19 J20) := by
    intro n
    induction n with
    | zero => intro I19 J20 v1_21 p_21 hn; omega
    | succ n ih29 =>
      intro I19 J20 v1_21 p_21 hn hI19 FI19 FJ20 KTM_I19 KVF_I19 KLN_I19 KRT_I19 KGR_I19 KST_I19 KTO_I19 KFM_I19 KMQ_I19 m_21 e21_21 e22_21
      obtain ⟨hv1_21, e0_21, e1_21, e2_21, e3_21, e4_21, e5_21, e6_21, e7_21, e8_21, e9_21, e10_21, e11_21, e12_21, e13_21, e14_21, e15_21, e16_21, e17_21, e18_21, e19_21, e20_21⟩ := m_21
      have f22 := (show 0 ≤ I19 0 71 ∧ I19 0 71 ≤ 5 from (hI19 0 71).1)
      have f23 := (show 0 ≤ I19 0 72 ∧ I19 0 72 ≤ 1000 from (hI19 0 72).1)
      have f24 := (show 0 ≤ I19 0 73 ∧ I19 0 73 ≤ 1001 from (hI19 0 73).1)
      have f25 := (show 0 ≤ I19 0 69 ∧ I19 0 69 ≤ 1000 from (hI19 0 69).1)
      have f26 := (show 0 ≤ I19 0 68 ∧ I19 0 68 ≤ 1000 from (hI19 0 68).1)
      have f27 := (show 0 ≤ I19 0 99 ∧ I19 0 99 ≤ 1000 from (hI19 0 99).1)
      have f28 := (show 0 ≤ I19 0 100 ∧ I19 0 100 ≤ 1000000 from (hI19 0 100).1)
      have f29 := (show 0 ≤ I19 0 1 ∧ I19 0 1 ≤ 8 from (hI19 0 1).1)
      have f30 := (show 0 ≤ I19 0 2 ∧ I19 0 2 ≤ 32 from (hI19 0 2).1)
      have f31 := (show 0 ≤ I19 0 3 ∧ I19 0 3 ≤ 96 from (hI19 0 3).1)
      have f32 := (show 0 ≤ I19 0 4 ∧ I19 0 4 ≤ 8 from (hI19 0 4).1)
      have f33 := (show 0 ≤ I19 0 5 ∧ I19 0 5 ≤ 64 from (hI19 0 5).1)
      have f34 := (show (-1) ≤ I19 0 6 ∧ I19 0 6 ≤ 7 from (hI19 0 6).1)
      have f35 := (show 0 ≤ I19 0 42 ∧ I19 0 42 ≤ 2000 from (hI19 0 42).1)
      have f36 := (show 0 ≤ I19 0 59 ∧ I19 0 59 ≤ 2000 from (hI19 0 59).1)
      have f37 := (show 0 ≤ I19 0 64 ∧ I19 0 64 ≤ 2000 from (hI19 0 64).1)
      have f38 := (show 0 ≤ I19 0 3 ∧ I19 0 3 ≤ 96 from (hI19 0 3).1)
      have f39 := (show (-1) ≤ I19 0 77 ∧ I19 0 77 ≤ 1001 from (hI19 0 77).1)
      have t40 := gr_ATp_l e21_21
      have f41 := (show 0 ≤ I19 0 71 ∧ I19 0 71 ≤ 5 from (hI19 0 71).1)
      refine gv_run 2 true hD (pc' := 33) (lv' := [(0, .inr (.inr (some 0))), (1, .inl v1_21)]) (st' := [.inl (I19 0 71)]) (h' := gr_h I19 J20) (C := ((True ∧ True) ∧ True)) rfl ⟨⟨trivial, trivial⟩, trivial⟩ ?_
      refine gv_if_eq (t := 68) hD rfl rfl ⟨by omega, by omega⟩ (fun c42 => ?_) (fun c42 => ?_)
      · have t43 := (gr_ATp_0 e21_21).mp (by omega)
        refine gv_run 3 true hD (pc' := 73) (lv' := [(0, .inr (.inr (some 0))), (1, .inl v1_21)]) (st' := []) (h' := gz_up (gr_h I19 J20) 0 79 (.inl 0)) (C := (((True ∧ True) ∧ True) ∧ True)) rfl ⟨⟨⟨trivial, trivial⟩, trivial⟩, trivial⟩ ?_
        refine gr_st hI19 FI19 rfl rfl ⟨⟨by show 0 ≤ _; omega, by show _ ≤ 6; omega⟩, trivial⟩ (fun I44 hI44 FI44 q45 p45 => ?_)
        have t46 := p45 0 71 (by decide)
        have t47 := p45 0 72 (by decide)
        have t48 := p45 0 73 (by decide)
        have t49 := p45 0 69 (by decide)
        have t50 := p45 0 68 (by decide)
        have t51 := p45 0 99 (by decide)
        have t52 := p45 0 100 (by decide)
        have t53 := p45 0 1 (by decide)
        have t54 := p45 0 2 (by decide)
        have t55 := p45 0 3 (by decide)
        have t56 := p45 0 4 (by decide)
        have t57 := p45 0 5 (by decide)
        have t58 := p45 0 6 (by decide)
        have t59 := p45 0 42 (by decide)
        have t60 := p45 0 59 (by decide)
        have t61 := p45 0 64 (by decide)
        have t62 := p45 0 3 (by decide)
        have t63 := p45 0 77 (by decide)
        have t64 := p45 59 (Int.toNat 0) (fun q => absurd q.1 (by decide))
        have t65 := p45 59 (Int.toNat ((0 + 1))) (fun q => absurd q.1 (by decide))
        have t66 := p45 59 (Int.toNat (((0 + 1) + 1))) (fun q => absurd q.1 (by decide))
        have t67 := p45 59 (Int.toNat ((((0 + 1) + 1) + 1))) (fun q => absurd q.1 (by decide))
        have t68 := p45 59 (Int.toNat (((((0 + 1) + 1) + 1) + 1))) (fun q => absurd q.1 (by decide))
        have t69 := p45 59 (Int.toNat ((((((0 + 1) + 1) + 1) + 1) + 1))) (fun q => absurd q.1 (by decide))
        have t70 := p45 59 (Int.toNat (((((((0 + 1) + 1) + 1) + 1) + 1) + 1))) (fun q => absurd q.1 (by decide))
        have t71 := p45 59 (Int.toNat ((((((((0 + 1) + 1) + 1) + 1) + 1) + 1) + 1))) (fun q => absurd q.1 (by decide))
        have t72 := p45 59 (Int.toNat (((((((((0 + 1) + 1) + 1) + 1) + 1) + 1) + 1) + 1))) (fun q => absurd q.1 (by decide))
        have f73 := (show 0 ≤ I44 0 71 ∧ I44 0 71 ≤ 5 from (hI44 0 71).1)
        have f74 := (show 0 ≤ I44 0 72 ∧ I44 0 72 ≤ 1000 from (hI44 0 72).1)
        have f75 := (show 0 ≤ I44 0 73 ∧ I44 0 73 ≤ 1001 from (hI44 0 73).1)
        have f76 := (show 0 ≤ I44 0 69 ∧ I44 0 69 ≤ 1000 from (hI44 0 69).1)
        have f77 := (show 0 ≤ I44 0 68 ∧ I44 0 68 ≤ 1000 from (hI44 0 68).1)
        have f78 := (show 0 ≤ I44 0 99 ∧ I44 0 99 ≤ 1000 from (hI44 0 99).1)
        have f79 := (show 0 ≤ I44 0 100 ∧ I44 0 100 ≤ 1000000 from (hI44 0 100).1)
        have f80 := (show 0 ≤ I44 0 1 ∧ I44 0 1 ≤ 8 from (hI44 0 1).1)
        have f81 := (show 0 ≤ I44 0 2 ∧ I44 0 2 ≤ 32 from (hI44 0 2).1)
        have f82 := (show 0 ≤ I44 0 3 ∧ I44 0 3 ≤ 96 from (hI44 0 3).1)
        have f83 := (show 0 ≤ I44 0 4 ∧ I44 0 4 ≤ 8 from (hI44 0 4).1)
        have f84 := (show 0 ≤ I44 0 5 ∧ I44 0 5 ≤ 64 from (hI44 0 5).1)
        have f85 := (show (-1) ≤ I44 0 6 ∧ I44 0 6 ≤ 7 from (hI44 0 6).1)
        have f86 := (show 0 ≤ I44 0 42 ∧ I44 0 42 ≤ 2000 from (hI44 0 42).1)
        have f87 := (show 0 ≤ I44 0 59 ∧ I44 0 59 ≤ 2000 from (hI44 0 59).1)
        have f88 := (show 0 ≤ I44 0 64 ∧ I44 0 64 ≤ 2000 from (hI44 0 64).1)
        have f89 := (show 0 ≤ I44 0 3 ∧ I44 0 3 ≤ 96 from (hI44 0 3).1)
        have f90 := (show (-1) ≤ I44 0 77 ∧ I44 0 77 ≤ 1001 from (hI44 0 77).1)
        have KTM_I44 := gr_TM_fr KTM_I19 (fun k => p45 52 k (fun q => absurd q.1 (by decide))) (fun k => p45 53 k (fun q => absurd q.1 (by decide))) (fun k => p45 54 k (fun q => absurd q.1 (by decide))) (p45 0 64 (by decide))
        have KVF_I44 := gr_VF_fr KVF_I19 (fun k => p45 14 k (fun q => absurd q.1 (by decide))) (fun k => p45 13 k (fun q => absurd q.1 (by decide)))
        have KGR_I44 := gr_GR_fr KGR_I19 (fun k => p45 19 k (fun q => absurd q.1 (by decide))) (fun k => p45 18 k (fun q => absurd q.1 (by decide))) (fun k => p45 36 k (fun q => absurd q.1 (by decide))) (fun k => p45 41 k (fun q => absurd q.1 (by decide))) (fun k => p45 42 k (fun q => absurd q.1 (by decide))) (fun k => p45 43 k (fun q => absurd q.1 (by decide))) (fun k => p45 45 k (fun q => absurd q.1 (by decide))) (fun k => p45 46 k (fun q => absurd q.1 (by decide))) (fun k => p45 47 k (fun q => absurd q.1 (by decide))) (fun k => p45 6 k (fun q => absurd q.1 (by decide))) (fun k => p45 7 k (fun q => absurd q.1 (by decide))) (fun k => p45 8 k (fun q => absurd q.1 (by decide))) (p45 0 3 (by decide))
        have KTO_I44 := gr_TO_fr KTO_I19 (fun k => p45 52 k (fun q => absurd q.1 (by decide))) (fun k => p45 53 k (fun q => absurd q.1 (by decide))) (fun k => p45 54 k (fun q => absurd q.1 (by decide))) (fun k => p45 55 k (fun q => absurd q.1 (by decide))) (fun k => p45 6 k (fun q => absurd q.1 (by decide))) (p45 0 64 (by decide)) (p45 0 3 (by decide))
        have KFM_I44 := gr_FM_fr KFM_I19 (fun k => p45 10 k (fun q => absurd q.1 (by decide))) (fun k => p45 55 k (fun q => absurd q.1 (by decide))) (fun k => p45 52 k (fun q => absurd q.1 (by decide))) (fun k => p45 53 k (fun q => absurd q.1 (by decide))) (fun k => p45 54 k (fun q => absurd q.1 (by decide))) (p45 0 64 (by decide)) (p45 0 3 (by decide))
        have KLN_I44 := gr_LN_fr KLN_I19 (fun k => p45 19 k (fun q => absurd q.1 (by decide))) (by omega) (by omega)
        have KRT_I44 := gr_RT8_fr KRT_I19 (fun k => p45 59 k (fun q => absurd q.1 (by decide)))
        have KST_I44 := gr_ST_fr KST_I19 (fun k => p45 6 k (fun q => absurd q.1 (by decide))) (fun k => p45 19 k (fun q => absurd q.1 (by decide))) (fun k => p45 18 k (fun q => absurd q.1 (by decide))) (fun k => p45 41 k (fun q => absurd q.1 (by decide))) (fun k => p45 36 k (fun q => absurd q.1 (by decide))) (p45 0 3 (by decide))
        have KMQ_I44 := gr_MQ_fr KMQ_I19 (fun k => p45 10 k (fun q => absurd q.1 (by decide))) (fun k => p45 55 k (fun q => absurd q.1 (by decide))) (fun k => p45 52 k (fun q => absurd q.1 (by decide))) (fun k => p45 53 k (fun q => absurd q.1 (by decide))) (fun k => p45 54 k (fun q => absurd q.1 (by decide))) (fun k => p45 60 k (fun q => absurd q.1 (by decide))) (p45 0 64 (by decide)) (p45 0 3 (by decide)) (p45 0 99 (by decide))
        have A91 := gr_ATp_sf e21_21 p45 rfl
        have f92 := (show 0 ≤ I44 0 100 ∧ I44 0 100 ≤ 1000000 from (hI44 0 100).1)
        refine gv_run 5 true hD (pc' := 80) (lv' := [(0, .inr (.inr (some 0))), (1, .inl v1_21)]) (st' := [.inl ((I44 0 100) + 1), .inr (.inr (some 0))]) (h' := gr_h I44 J20) (C := (((((True ∧ True) ∧ True) ∧ True) ∧ True) ∧ True)) rfl ⟨⟨⟨⟨⟨trivial, trivial⟩, trivial⟩, trivial⟩, trivial⟩, trivial⟩ ?_
        refine gv_run 1 true hD (pc' := 83) (lv' := [(0, .inr (.inr (some 0))), (1, .inl v1_21)]) (st' := []) (h' := gz_up (gr_h I44 J20) 0 100 (.inl (((I44 0 100) + 1)))) (C := (True ∧ True)) rfl ⟨trivial, trivial⟩ ?_
        refine gr_st hI44 FI44 rfl rfl ⟨⟨by show 0 ≤ _; omega, by show _ ≤ 1000000; omega⟩, trivial⟩ (fun I93 hI93 FI93 q94 p94 => ?_)
        have t95 := p94 0 71 (by decide)
        have t96 := p94 0 72 (by decide)
        have t97 := p94 0 73 (by decide)
        have t98 := p94 0 69 (by decide)
        have t99 := p94 0 68 (by decide)
        have t100 := p94 0 99 (by decide)
        have t101 := p94 0 1 (by decide)
        have t102 := p94 0 2 (by decide)
        have t103 := p94 0 3 (by decide)
        have t104 := p94 0 4 (by decide)
        have t105 := p94 0 5 (by decide)
        have t106 := p94 0 6 (by decide)
        have t107 := p94 0 42 (by decide)
        have t108 := p94 0 59 (by decide)
        have t109 := p94 0 64 (by decide)
        have t110 := p94 0 3 (by decide)
        have t111 := p94 0 77 (by decide)
        have t112 := p94 59 (Int.toNat 0) (fun q => absurd q.1 (by decide))
        have t113 := p94 59 (Int.toNat ((0 + 1))) (fun q => absurd q.1 (by decide))
        have t114 := p94 59 (Int.toNat (((0 + 1) + 1))) (fun q => absurd q.1 (by decide))
        have t115 := p94 59 (Int.toNat ((((0 + 1) + 1) + 1))) (fun q => absurd q.1 (by decide))
        have t116 := p94 59 (Int.toNat (((((0 + 1) + 1) + 1) + 1))) (fun q => absurd q.1 (by decide))
        have t117 := p94 59 (Int.toNat ((((((0 + 1) + 1) + 1) + 1) + 1))) (fun q => absurd q.1 (by decide))
        have t118 := p94 59 (Int.toNat (((((((0 + 1) + 1) + 1) + 1) + 1) + 1))) (fun q => absurd q.1 (by decide))
        have t119 := p94 59 (Int.toNat ((((((((0 + 1) + 1) + 1) + 1) + 1) + 1) + 1))) (fun q => absurd q.1 (by decide))
        have t120 := p94 59 (Int.toNat (((((((((0 + 1) + 1) + 1) + 1) + 1) + 1) + 1) + 1))) (fun q => absurd q.1 (by decide))
        have f121 := (show 0 ≤ I93 0 71 ∧ I93 0 71 ≤ 5 from (hI93 0 71).1)
        have f122 := (show 0 ≤ I93 0 72 ∧ I93 0 72 ≤ 1000 from (hI93 0 72).1)
        have f123 := (show 0 ≤ I93 0 73 ∧ I93 0 73 ≤ 1001 from (hI93 0 73).1)
        have f124 := (show 0 ≤ I93 0 69 ∧ I93 0 69 ≤ 1000 from (hI93 0 69).1)
        have f125 := (show 0 ≤ I93 0 68 ∧ I93 0 68 ≤ 1000 from (hI93 0 68).1)
        have f126 := (show 0 ≤ I93 0 99 ∧ I93 0 99 ≤ 1000 from (hI93 0 99).1)
        have f127 := (show 0 ≤ I93 0 100 ∧ I93 0 100 ≤ 1000000 from (hI93 0 100).1)
        have f128 := (show 0 ≤ I93 0 1 ∧ I93 0 1 ≤ 8 from (hI93 0 1).1)
        have f129 := (show 0 ≤ I93 0 2 ∧ I93 0 2 ≤ 32 from (hI93 0 2).1)
        have f130 := (show 0 ≤ I93 0 3 ∧ I93 0 3 ≤ 96 from (hI93 0 3).1)
        have f131 := (show 0 ≤ I93 0 4 ∧ I93 0 4 ≤ 8 from (hI93 0 4).1)
        have f132 := (show 0 ≤ I93 0 5 ∧ I93 0 5 ≤ 64 from (hI93 0 5).1)
        have f133 := (show (-1) ≤ I93 0 6 ∧ I93 0 6 ≤ 7 from (hI93 0 6).1)
        have f134 := (show 0 ≤ I93 0 42 ∧ I93 0 42 ≤ 2000 from (hI93 0 42).1)
        have f135 := (show 0 ≤ I93 0 59 ∧ I93 0 59 ≤ 2000 from (hI93 0 59).1)
        have f136 := (show 0 ≤ I93 0 64 ∧ I93 0 64 ≤ 2000 from (hI93 0 64).1)
        have f137 := (show 0 ≤ I93 0 3 ∧ I93 0 3 ≤ 96 from (hI93 0 3).1)
        have f138 := (show (-1) ≤ I93 0 77 ∧ I93 0 77 ≤ 1001 from (hI93 0 77).1)
        have KTM_I93 := gr_TM_fr KTM_I44 (fun k => p94 52 k (fun q => absurd q.1 (by decide))) (fun k => p94 53 k (fun q => absurd q.1 (by decide))) (fun k => p94 54 k (fun q => absurd q.1 (by decide))) (p94 0 64 (by decide))
        have KVF_I93 := gr_VF_fr KVF_I44 (fun k => p94 14 k (fun q => absurd q.1 (by decide))) (fun k => p94 13 k (fun q => absurd q.1 (by decide)))
        have KGR_I93 := gr_GR_fr KGR_I44 (fun k => p94 19 k (fun q => absurd q.1 (by decide))) (fun k => p94 18 k (fun q => absurd q.1 (by decide))) (fun k => p94 36 k (fun q => absurd q.1 (by decide))) (fun k => p94 41 k (fun q => absurd q.1 (by decide))) (fun k => p94 42 k (fun q => absurd q.1 (by decide))) (fun k => p94 43 k (fun q => absurd q.1 (by decide))) (fun k => p94 45 k (fun q => absurd q.1 (by decide))) (fun k => p94 46 k (fun q => absurd q.1 (by decide))) (fun k => p94 47 k (fun q => absurd q.1 (by decide))) (fun k => p94 6 k (fun q => absurd q.1 (by decide))) (fun k => p94 7 k (fun q => absurd q.1 (by decide))) (fun k => p94 8 k (fun q => absurd q.1 (by decide))) (p94 0 3 (by decide))
        have KTO_I93 := gr_TO_fr KTO_I44 (fun k => p94 52 k (fun q => absurd q.1 (by decide))) (fun k => p94 53 k (fun q => absurd q.1 (by decide))) (fun k => p94 54 k (fun q => absurd q.1 (by decide))) (fun k => p94 55 k (fun q => absurd q.1 (by decide))) (fun k => p94 6 k (fun q => absurd q.1 (by decide))) (p94 0 64 (by decide)) (p94 0 3 (by decide))
        have KFM_I93 := gr_FM_fr KFM_I44 (fun k => p94 10 k (fun q => absurd q.1 (by decide))) (fun k => p94 55 k (fun q => absurd q.1 (by decide))) (fun k => p94 52 k (fun q => absurd q.1 (by decide))) (fun k => p94 53 k (fun q => absurd q.1 (by decide))) (fun k => p94 54 k (fun q => absurd q.1 (by decide))) (p94 0 64 (by decide)) (p94 0 3 (by decide))
        have KLN_I93 := gr_LN_fr KLN_I44 (fun k => p94 19 k (fun q => absurd q.1 (by decide))) (by omega) (by omega)
        have KRT_I93 := gr_RT8_fr KRT_I44 (fun k => p94 59 k (fun q => absurd q.1 (by decide)))
        have KST_I93 := gr_ST_fr KST_I44 (fun k => p94 6 k (fun q => absurd q.1 (by decide))) (fun k => p94 19 k (fun q => absurd q.1 (by decide))) (fun k => p94 18 k (fun q => absurd q.1 (by decide))) (fun k => p94 41 k (fun q => absurd q.1 (by decide))) (fun k => p94 36 k (fun q => absurd q.1 (by decide))) (p94 0 3 (by decide))
        have KMQ_I93 := gr_MQ_fr KMQ_I44 (fun k => p94 10 k (fun q => absurd q.1 (by decide))) (fun k => p94 55 k (fun q => absurd q.1 (by decide))) (fun k => p94 52 k (fun q => absurd q.1 (by decide))) (fun k => p94 53 k (fun q => absurd q.1 (by decide))) (fun k => p94 54 k (fun q => absurd q.1 (by decide))) (fun k => p94 60 k (fun q => absurd q.1 (by decide))) (p94 0 64 (by decide)) (p94 0 3 (by decide)) (p94 0 99 (by decide))
        have A139 := gr_ATp_sf A91 p94 rfl
        refine gv_run 1 true hD (pc' := 84) (lv' := [(0, .inr (.inr (some 0))), (1, .inl v1_21)]) (st' := [.inl v1_21]) (h' := gr_h I93 J20) (C := (True ∧ True)) rfl ⟨trivial, trivial⟩ ?_
        exact gv_iret hD rfl ⟨I93, J20, rfl, hI93, FI93, FJ20, KTM_I93, KVF_I93, gr_LE_of KLN_I93 (fun _ => rfl) (by omega) (by omega), KGR_I93, KTO_I93, KFM_I93, ⟨_, rfl, by omega, by omega, by omega, by omega, by omega, by omega, by omega, (by rw [← hI9]; exact KST_I93), ⟨v1_21, p_21, I19, J20, by omega, e22_21, Or.inl ⟨by omega, rfl, (gs_Ts_tr (gs_Ts_tr gs_Ts_rf (gs_TsX_st p45 rfl)) (gs_TsX_st p94 rfl))⟩⟩⟩⟩
      · have t140 := gr_ATp_e0 e21_21 (by omega)
        refine gv_run 1 true hD (pc' := 37) (lv' := [(0, .inr (.inr (some 0))), (1, .inl v1_21)]) (st' := [.inr (.inr (some 0))]) (h' := gr_h I19 J20) (C := (True ∧ True)) rfl ⟨trivial, trivial⟩ ?_
        obtain ⟨r141, h141, E141, P141⟩ := r_statement_p (ws0 := ws0) (tb := tb) hws htb ext B (by omega) I9 β N9 p_21 I19 J20 hI19   (gr_ATp_rr e21_21).1 (gr_ATp_rr e21_21).2.1 (gr_ATp_rr e21_21).2.2.1 (gr_ATp_rr e21_21).2.2.2.1 (gr_ATp_rr e21_21).2.2.2.2 (by omega) (by omega) (by omega) (by omega) (by rw [hI9]; omega) e21_21 (by omega) (fun k h1 h2 => (FJ20 0 k (gs_kwF h1 h2 rfl)).trans (KW k h1 h2)) KTM_I19 KVF_I19 KLN_I19 KGR_I19 KST_I19 KTO_I19 KFM_I19 KMQ_I19
        obtain ⟨I142, J143, rfl, hI142, g141, k141, KTM_I142, KVF_I142, KLN_I142, KGR_I142, KST_I142, KTO_I142, KFM_I142, KMQ_I142, ⟨z141, rfl, q141⟩⟩ := P141
        have FI142 := gr_frt FI19 g141 rfl rfl
        have FJ143 := gr_fjt FJ20 k141 rfl rfl
        have t144 := g141 0 69 rfl
        have t145 := g141 0 68 rfl
        have t146 := g141 0 100 rfl
        have t147 := g141 59 (Int.toNat 0) rfl
        have t148 := g141 59 (Int.toNat ((0 + 1))) rfl
        have t149 := g141 59 (Int.toNat (((0 + 1) + 1))) rfl
        have t150 := g141 59 (Int.toNat ((((0 + 1) + 1) + 1))) rfl
        have t151 := g141 59 (Int.toNat (((((0 + 1) + 1) + 1) + 1))) rfl
        have t152 := g141 59 (Int.toNat ((((((0 + 1) + 1) + 1) + 1) + 1))) rfl
        have t153 := g141 59 (Int.toNat (((((((0 + 1) + 1) + 1) + 1) + 1) + 1))) rfl
        have t154 := g141 59 (Int.toNat ((((((((0 + 1) + 1) + 1) + 1) + 1) + 1) + 1))) rfl
        have t155 := g141 59 (Int.toNat (((((((((0 + 1) + 1) + 1) + 1) + 1) + 1) + 1) + 1))) rfl
        have f156 := (show 0 ≤ I142 0 71 ∧ I142 0 71 ≤ 5 from (hI142 0 71).1)
        have f157 := (show 0 ≤ I142 0 72 ∧ I142 0 72 ≤ 1000 from (hI142 0 72).1)
        have f158 := (show 0 ≤ I142 0 73 ∧ I142 0 73 ≤ 1001 from (hI142 0 73).1)
        have f159 := (show 0 ≤ I142 0 69 ∧ I142 0 69 ≤ 1000 from (hI142 0 69).1)
        have f160 := (show 0 ≤ I142 0 68 ∧ I142 0 68 ≤ 1000 from (hI142 0 68).1)
        have f161 := (show 0 ≤ I142 0 99 ∧ I142 0 99 ≤ 1000 from (hI142 0 99).1)
        have f162 := (show 0 ≤ I142 0 100 ∧ I142 0 100 ≤ 1000000 from (hI142 0 100).1)
        have f163 := (show 0 ≤ I142 0 1 ∧ I142 0 1 ≤ 8 from (hI142 0 1).1)
        have f164 := (show 0 ≤ I142 0 2 ∧ I142 0 2 ≤ 32 from (hI142 0 2).1)
        have f165 := (show 0 ≤ I142 0 3 ∧ I142 0 3 ≤ 96 from (hI142 0 3).1)
        have f166 := (show 0 ≤ I142 0 4 ∧ I142 0 4 ≤ 8 from (hI142 0 4).1)
        have f167 := (show 0 ≤ I142 0 5 ∧ I142 0 5 ≤ 64 from (hI142 0 5).1)
        have f168 := (show (-1) ≤ I142 0 6 ∧ I142 0 6 ≤ 7 from (hI142 0 6).1)
        have f169 := (show 0 ≤ I142 0 42 ∧ I142 0 42 ≤ 2000 from (hI142 0 42).1)
        have f170 := (show 0 ≤ I142 0 59 ∧ I142 0 59 ≤ 2000 from (hI142 0 59).1)
        have f171 := (show 0 ≤ I142 0 64 ∧ I142 0 64 ≤ 2000 from (hI142 0 64).1)
        have f172 := (show 0 ≤ I142 0 3 ∧ I142 0 3 ≤ 96 from (hI142 0 3).1)
        have f173 := (show (-1) ≤ I142 0 77 ∧ I142 0 77 ≤ 1001 from (hI142 0 77).1)
        have KRT_I142 := gr_RT8_fr KRT_I19 (fun k => g141 59 k rfl)
        refine gv_callV hD rfl (As := []) (st := []) rfl (by decide) rfl rfl (gr_lV hws rfl) (Nat.le_of_ble_eq_true rfl) (gz_Ev_mono (d := 100) (by decide) E141) ?_
        show gv_X _ _ (40, [(0, .inr (.inr (some 0))), (1, .inl v1_21)], [.inl z141], gr_sh ++ ext, gr_h I142 J143)
        refine gv_if_ne (t := 62) hD rfl rfl ⟨by omega, by omega⟩ (fun c174 => ?_) (fun c174 => ?_)
        · obtain ⟨y175, S175⟩ := gs_or1 q141.2.2.2.2.2.2.2.2.2.2.2.2.2.2.2.2 (by omega)
          have S175_ := S175
          obtain ⟨_, _, _, _, w175, A175, _⟩ := S175_
          have t176 := gr_ATp_l A175
          have t177 := (q141.2.2.2.2.2.2.2.2.2.2.2.2.2.2.2.1).resolve_left (by omega)
          obtain ⟨_, _, -, _, -, -, _, _, _, _, _, _, _, _, _, -, -⟩ := q141
          refine gv_run 2 true hD (pc' := 29) (lv' := [(1, .inl (v1_21 + 1)), (0, .inr (.inr (some 0)))]) (st' := []) (h' := gr_h I142 J143) (C := ((True ∧ True) ∧ True)) rfl ⟨⟨trivial, trivial⟩, trivial⟩ ?_
          refine gv_pick [1, 0] rfl ?_
          exact ih29 I142 J143 (v1_21 + 1) y175 (by omega) hI142 FI142 FJ143 KTM_I142 KVF_I142 KLN_I142 KRT_I142 KGR_I142 KST_I142 KTO_I142 KFM_I142 KMQ_I142 (by omega) A175 (gs_M0_s e22_21 (by omega) (by omega) S175)
        · have S178 := gs_or0 q141.2.2.2.2.2.2.2.2.2.2.2.2.2.2.2.2 (by omega)
          refine gv_run 1 true hD (pc' := 44) (lv' := [(0, .inr (.inr (some 0))), (1, .inl v1_21)]) (st' := [.inr (.inr (some 0))]) (h' := gr_h I142 J143) (C := (True ∧ True)) rfl ⟨trivial, trivial⟩ ?_
          obtain ⟨r179, h179, E179, P179⟩ := r_forget_p (ws0 := ws0) (tb := tb) hws htb ext I142 J143 hI142   (by omega) (by omega) (by omega) (by omega) (by omega) (by omega) (by omega) (by omega) (by omega) (by omega) (gr_HT_of KRT_I142 hI) KTM_I142
          obtain ⟨I180, J181, rfl, hI180, g179, k179, KTM_I180, ⟨rfl, q179⟩⟩ := P179
          have FI180 := gr_frt FI142 g179 rfl rfl
          have FJ181 := gr_fjt FJ143 k179 rfl rfl
          have t182 := g179 0 71 rfl
          have t183 := g179 0 72 rfl
          have t184 := g179 0 73 rfl
          have t185 := g179 0 69 rfl
          have t186 := g179 0 68 rfl
          have t187 := g179 0 99 rfl
          have t188 := g179 0 100 rfl
          have t189 := g179 0 77 rfl
          have t190 := g179 59 (Int.toNat 0) rfl
          have t191 := g179 59 (Int.toNat ((0 + 1))) rfl
          have t192 := g179 59 (Int.toNat (((0 + 1) + 1))) rfl
          have t193 := g179 59 (Int.toNat ((((0 + 1) + 1) + 1))) rfl
          have t194 := g179 59 (Int.toNat (((((0 + 1) + 1) + 1) + 1))) rfl
          have t195 := g179 59 (Int.toNat ((((((0 + 1) + 1) + 1) + 1) + 1))) rfl
          have t196 := g179 59 (Int.toNat (((((((0 + 1) + 1) + 1) + 1) + 1) + 1))) rfl
          have t197 := g179 59 (Int.toNat ((((((((0 + 1) + 1) + 1) + 1) + 1) + 1) + 1))) rfl
          have t198 := g179 59 (Int.toNat (((((((((0 + 1) + 1) + 1) + 1) + 1) + 1) + 1) + 1))) rfl
          have f199 := (show 0 ≤ I180 0 71 ∧ I180 0 71 ≤ 5 from (hI180 0 71).1)
          have f200 := (show 0 ≤ I180 0 72 ∧ I180 0 72 ≤ 1000 from (hI180 0 72).1)
          have f201 := (show 0 ≤ I180 0 73 ∧ I180 0 73 ≤ 1001 from (hI180 0 73).1)
          have f202 := (show 0 ≤ I180 0 69 ∧ I180 0 69 ≤ 1000 from (hI180 0 69).1)
          have f203 := (show 0 ≤ I180 0 68 ∧ I180 0 68 ≤ 1000 from (hI180 0 68).1)
          have f204 := (show 0 ≤ I180 0 99 ∧ I180 0 99 ≤ 1000 from (hI180 0 99).1)
          have f205 := (show 0 ≤ I180 0 100 ∧ I180 0 100 ≤ 1000000 from (hI180 0 100).1)
          have f206 := (show 0 ≤ I180 0 1 ∧ I180 0 1 ≤ 8 from (hI180 0 1).1)
          have f207 := (show 0 ≤ I180 0 2 ∧ I180 0 2 ≤ 32 from (hI180 0 2).1)
          have f208 := (show 0 ≤ I180 0 3 ∧ I180 0 3 ≤ 96 from (hI180 0 3).1)
          have f209 := (show 0 ≤ I180 0 4 ∧ I180 0 4 ≤ 8 from (hI180 0 4).1)
          have f210 := (show 0 ≤ I180 0 5 ∧ I180 0 5 ≤ 64 from (hI180 0 5).1)
          have f211 := (show (-1) ≤ I180 0 6 ∧ I180 0 6 ≤ 7 from (hI180 0 6).1)
          have f212 := (show 0 ≤ I180 0 42 ∧ I180 0 42 ≤ 2000 from (hI180 0 42).1)
          have f213 := (show 0 ≤ I180 0 59 ∧ I180 0 59 ≤ 2000 from (hI180 0 59).1)
          have f214 := (show 0 ≤ I180 0 64 ∧ I180 0 64 ≤ 2000 from (hI180 0 64).1)
          have f215 := (show 0 ≤ I180 0 3 ∧ I180 0 3 ≤ 96 from (hI180 0 3).1)
          have f216 := (show (-1) ≤ I180 0 77 ∧ I180 0 77 ≤ 1001 from (hI180 0 77).1)
          have KRT_I180 := gr_RT8_fr KRT_I142 (fun k => g179 59 k rfl)
          refine gv_callV hD rfl (As := []) (st := []) rfl (by decide) rfl rfl (gr_lV hws rfl) (Nat.le_of_ble_eq_true rfl) (gz_Ev_mono (d := 1) (by decide) E179) ?_
          show gv_X _ _ (47, [(0, .inr (.inr (some 0))), (1, .inl v1_21)], [], gr_sh ++ ext, gr_h I180 J181)
          have f217 := (show 0 ≤ I180 0 76 ∧ I180 0 76 ≤ 6 from (hI180 0 76).1)
          refine gv_run 3 true hD (pc' := 52) (lv' := [(0, .inr (.inr (some 0))), (1, .inl v1_21)]) (st' := [.inl (I180 0 76), .inr (.inr (some 0))]) (h' := gr_h I180 J181) (C := (((True ∧ True) ∧ True) ∧ True)) rfl ⟨⟨⟨trivial, trivial⟩, trivial⟩, trivial⟩ ?_
          refine gv_run 1 true hD (pc' := 55) (lv' := [(0, .inr (.inr (some 0))), (1, .inl v1_21)]) (st' := []) (h' := gz_up (gr_h I180 J181) 0 79 (.inl (I180 0 76))) (C := (True ∧ True)) rfl ⟨trivial, trivial⟩ ?_
          refine gr_st hI180 FI180 rfl rfl ⟨⟨by show 0 ≤ _; omega, by show _ ≤ 6; omega⟩, trivial⟩ (fun I218 hI218 FI218 q219 p219 => ?_)
          have t220 := p219 0 71 (by decide)
          have t221 := p219 0 72 (by decide)
          have t222 := p219 0 73 (by decide)
          have t223 := p219 0 69 (by decide)
          have t224 := p219 0 68 (by decide)
          have t225 := p219 0 99 (by decide)
          have t226 := p219 0 100 (by decide)
          have t227 := p219 0 1 (by decide)
          have t228 := p219 0 2 (by decide)
          have t229 := p219 0 3 (by decide)
          have t230 := p219 0 4 (by decide)
          have t231 := p219 0 5 (by decide)
          have t232 := p219 0 6 (by decide)
          have t233 := p219 0 42 (by decide)
          have t234 := p219 0 59 (by decide)
          have t235 := p219 0 64 (by decide)
          have t236 := p219 0 3 (by decide)
          have t237 := p219 0 77 (by decide)
          have t238 := p219 59 (Int.toNat 0) (fun q => absurd q.1 (by decide))
          have t239 := p219 59 (Int.toNat ((0 + 1))) (fun q => absurd q.1 (by decide))
          have t240 := p219 59 (Int.toNat (((0 + 1) + 1))) (fun q => absurd q.1 (by decide))
          have t241 := p219 59 (Int.toNat ((((0 + 1) + 1) + 1))) (fun q => absurd q.1 (by decide))
          have t242 := p219 59 (Int.toNat (((((0 + 1) + 1) + 1) + 1))) (fun q => absurd q.1 (by decide))
          have t243 := p219 59 (Int.toNat ((((((0 + 1) + 1) + 1) + 1) + 1))) (fun q => absurd q.1 (by decide))
          have t244 := p219 59 (Int.toNat (((((((0 + 1) + 1) + 1) + 1) + 1) + 1))) (fun q => absurd q.1 (by decide))
          have t245 := p219 59 (Int.toNat ((((((((0 + 1) + 1) + 1) + 1) + 1) + 1) + 1))) (fun q => absurd q.1 (by decide))
          have t246 := p219 59 (Int.toNat (((((((((0 + 1) + 1) + 1) + 1) + 1) + 1) + 1) + 1))) (fun q => absurd q.1 (by decide))
          have f247 := (show 0 ≤ I218 0 71 ∧ I218 0 71 ≤ 5 from (hI218 0 71).1)
          have f248 := (show 0 ≤ I218 0 72 ∧ I218 0 72 ≤ 1000 from (hI218 0 72).1)
          have f249 := (show 0 ≤ I218 0 73 ∧ I218 0 73 ≤ 1001 from (hI218 0 73).1)
          have f250 := (show 0 ≤ I218 0 69 ∧ I218 0 69 ≤ 1000 from (hI218 0 69).1)
          have f251 := (show 0 ≤ I218 0 68 ∧ I218 0 68 ≤ 1000 from (hI218 0 68).1)
          have f252 := (show 0 ≤ I218 0 99 ∧ I218 0 99 ≤ 1000 from (hI218 0 99).1)
          have f253 := (show 0 ≤ I218 0 100 ∧ I218 0 100 ≤ 1000000 from (hI218 0 100).1)
          have f254 := (show 0 ≤ I218 0 1 ∧ I218 0 1 ≤ 8 from (hI218 0 1).1)
          have f255 := (show 0 ≤ I218 0 2 ∧ I218 0 2 ≤ 32 from (hI218 0 2).1)
          have f256 := (show 0 ≤ I218 0 3 ∧ I218 0 3 ≤ 96 from (hI218 0 3).1)
          have f257 := (show 0 ≤ I218 0 4 ∧ I218 0 4 ≤ 8 from (hI218 0 4).1)
          have f258 := (show 0 ≤ I218 0 5 ∧ I218 0 5 ≤ 64 from (hI218 0 5).1)
          have f259 := (show (-1) ≤ I218 0 6 ∧ I218 0 6 ≤ 7 from (hI218 0 6).1)
          have f260 := (show 0 ≤ I218 0 42 ∧ I218 0 42 ≤ 2000 from (hI218 0 42).1)
          have f261 := (show 0 ≤ I218 0 59 ∧ I218 0 59 ≤ 2000 from (hI218 0 59).1)
          have f262 := (show 0 ≤ I218 0 64 ∧ I218 0 64 ≤ 2000 from (hI218 0 64).1)
          have f263 := (show 0 ≤ I218 0 3 ∧ I218 0 3 ≤ 96 from (hI218 0 3).1)
          have f264 := (show (-1) ≤ I218 0 77 ∧ I218 0 77 ≤ 1001 from (hI218 0 77).1)
          have KTM_I218 := gr_TM_fr KTM_I180 (fun k => p219 52 k (fun q => absurd q.1 (by decide))) (fun k => p219 53 k (fun q => absurd q.1 (by decide))) (fun k => p219 54 k (fun q => absurd q.1 (by decide))) (p219 0 64 (by decide))
          have KRT_I218 := gr_RT8_fr KRT_I180 (fun k => p219 59 k (fun q => absurd q.1 (by decide)))
          have f265 := (show (-1) ≤ I218 0 77 ∧ I218 0 77 ≤ 1001 from (hI218 0 77).1)
          refine gv_run 4 true hD (pc' := 61) (lv' := [(0, .inr (.inr (some 0))), (1, .inl v1_21)]) (st' := [.inl ((-1) - (I218 0 77))]) (h' := gr_h I218 J181) (C := ((((True ∧ True) ∧ True) ∧ True) ∧ True)) rfl ⟨⟨⟨⟨trivial, trivial⟩, trivial⟩, trivial⟩, trivial⟩ ?_
          exact gv_iret hD rfl ⟨I218, J181, rfl, hI218, FI218, FJ181, KTM_I218, (gr_VF_back KVF_I KRT_I142 q179.2.2.2.2.2.2.2.2.2.1 (fun a k h => by rw [p219 a k (fun q => h q.1)])), (gr_LE_back KLE_I KRT_I142 q179.2.2.2.2.2.2.2.2.2.1 (fun a k h => by rw [p219 a k (fun q => h q.1)]) (by omega)), (gr_GR_back KGR_I KGR_I142 (by rw [← hI9]; exact KST_I142) KRT_I142 q179.2.2.2.2.2.2.2.2.2.1 (fun k => g179 36 k rfl) (fun k => g179 41 k rfl) (fun k => g179 42 k rfl) (fun k => g179 43 k rfl) (fun k => g179 45 k rfl) (fun k => g179 46 k rfl) (fun k => g179 47 k rfl) (fun k => g179 6 k rfl) (fun k => g179 7 k rfl) (fun k => g179 8 k rfl) (fun a k h => by rw [p219 a k (fun q => h q.1)]) (by omega)).1, (gr_TO_back KTO_I KTM_I hI (show gr_TS9 I I142 from by rw [← hI9]; exact KMQ_I142.1.2) (fun k => (p219 55 k (fun q => absurd q.1 (by decide))).trans (g179 55 k rfl)) (fun k => (p219 52 k (fun q => absurd q.1 (by decide))).trans (g179 52 k rfl)) (fun k => (p219 53 k (fun q => absurd q.1 (by decide))).trans (g179 53 k rfl)) (fun k => (p219 54 k (fun q => absurd q.1 (by decide))).trans (g179 54 k rfl)) (gr_GR_back KGR_I KGR_I142 (by rw [← hI9]; exact KST_I142) KRT_I142 q179.2.2.2.2.2.2.2.2.2.1 (fun k => g179 36 k rfl) (fun k => g179 41 k rfl) (fun k => g179 42 k rfl) (fun k => g179 43 k rfl) (fun k => g179 45 k rfl) (fun k => g179 46 k rfl) (fun k => g179 47 k rfl) (fun k => g179 6 k rfl) (fun k => g179 7 k rfl) (fun k => g179 8 k rfl) (fun a k h => by rw [p219 a k (fun q => h q.1)]) (by omega)).2.1.2 (by omega) (by omega)), (gr_FM_back (I9 := I) KFM_I142 (by rw [← hI9]; exact KMQ_I142) q179.2.2.2.2.2.2.2.2.2.2 (fun k => p219 10 k (fun q => absurd q.1 (by decide))) (fun k => (p219 55 k (fun q => absurd q.1 (by decide))).trans (g179 55 k rfl)) (by omega) (by have h9 := KST_I142.1.1; rw [hI9] at h9; omega)), ⟨_, rfl, by omega, by omega, by omega, by omega, by omega, by omega, by omega, (gr_GR_back KGR_I KGR_I142 (by rw [← hI9]; exact KST_I142) KRT_I142 q179.2.2.2.2.2.2.2.2.2.1 (fun k => g179 36 k rfl) (fun k => g179 41 k rfl) (fun k => g179 42 k rfl) (fun k => g179 43 k rfl) (fun k => g179 45 k rfl) (fun k => g179 46 k rfl) (fun k => g179 47 k rfl) (fun k => g179 6 k rfl) (fun k => g179 7 k rfl) (fun k => g179 8 k rfl) (fun a k h => by rw [p219 a k (fun q => h q.1)]) (by omega)).2, (by obtain ⟨I3, J3, s1, s2, s3, s4⟩ := S178; exact ⟨_, p_21, I19, J20, by omega, e22_21, Or.inr ⟨by omega, I3, J3, I142, J143, s1, s2, by omega, s4, (gs_BK_mk (J3 := J143) ⟨by omega, by omega, by omega, by omega, by omega, by omega⟩ KRT_I142 q179.2.2.2.2.2.2.2.2.2.1 q179.2.2.2.2.2.2.2.2.2.2 q179.1.2 (fun a j ha => by rw [p219 a j (fun q => ha q.1)]) (gs_Ts_tr (gs_TsX_fr (m := [101, 102, 103, 104, 105, 106, 13, 14, 15, 16, 17, 18, 19, 10]) g179 k179 rfl) (gs_TsX_st p219 rfl)))⟩⟩)⟩⟩
  refine gv_run 3 true hD (pc' := 5) (lv' := [(0, .inr (.inr (some 0)))]) (st' := []) (h' := gz_up (gr_h I J) 0 0 (.inl 0)) (C := (((True ∧ True) ∧ True) ∧ True)) rfl ⟨⟨⟨trivial, trivial⟩, trivial⟩, trivial⟩ ?_
  refine gr_st hI FI rfl rfl ⟨⟨by show 0 ≤ _; omega, by show _ ≤ 2; omega⟩, trivial⟩ (fun I266 hI266 FI266 q267 p267 => ?_)
  have t268 := p267 0 71 (by decide)
  have t269 := p267 0 72 (by decide)
  have t270 := p267 0 73 (by decide)
  have t271 := p267 0 69 (by decide)
  have t272 := p267 0 68 (by decide)
  have t273 := p267 0 99 (by decide)
  have t274 := p267 0 100 (by decide)
  have t275 := p267 0 1 (by decide)
  have t276 := p267 0 2 (by decide)
  have t277 := p267 0 3 (by decide)
  have t278 := p267 0 4 (by decide)
  have t279 := p267 0 5 (by decide)
  have t280 := p267 0 6 (by decide)
  have t281 := p267 0 42 (by decide)
  have t282 := p267 0 59 (by decide)
  have t283 := p267 0 64 (by decide)
  have t284 := p267 0 3 (by decide)
  have t285 := p267 0 77 (by decide)
  have t286 := p267 59 (Int.toNat 0) (fun q => absurd q.1 (by decide))
  have t287 := p267 59 (Int.toNat ((0 + 1))) (fun q => absurd q.1 (by decide))
  have t288 := p267 59 (Int.toNat (((0 + 1) + 1))) (fun q => absurd q.1 (by decide))
  have t289 := p267 59 (Int.toNat ((((0 + 1) + 1) + 1))) (fun q => absurd q.1 (by decide))
  have t290 := p267 59 (Int.toNat (((((0 + 1) + 1) + 1) + 1))) (fun q => absurd q.1 (by decide))
  have t291 := p267 59 (Int.toNat ((((((0 + 1) + 1) + 1) + 1) + 1))) (fun q => absurd q.1 (by decide))
  have t292 := p267 59 (Int.toNat (((((((0 + 1) + 1) + 1) + 1) + 1) + 1))) (fun q => absurd q.1 (by decide))
  have t293 := p267 59 (Int.toNat ((((((((0 + 1) + 1) + 1) + 1) + 1) + 1) + 1))) (fun q => absurd q.1 (by decide))
  have t294 := p267 59 (Int.toNat (((((((((0 + 1) + 1) + 1) + 1) + 1) + 1) + 1) + 1))) (fun q => absurd q.1 (by decide))
  have f295 := (show 0 ≤ I266 0 71 ∧ I266 0 71 ≤ 5 from (hI266 0 71).1)
  have f296 := (show 0 ≤ I266 0 72 ∧ I266 0 72 ≤ 1000 from (hI266 0 72).1)
  have f297 := (show 0 ≤ I266 0 73 ∧ I266 0 73 ≤ 1001 from (hI266 0 73).1)
  have f298 := (show 0 ≤ I266 0 69 ∧ I266 0 69 ≤ 1000 from (hI266 0 69).1)
  have f299 := (show 0 ≤ I266 0 68 ∧ I266 0 68 ≤ 1000 from (hI266 0 68).1)
  have f300 := (show 0 ≤ I266 0 99 ∧ I266 0 99 ≤ 1000 from (hI266 0 99).1)
  have f301 := (show 0 ≤ I266 0 100 ∧ I266 0 100 ≤ 1000000 from (hI266 0 100).1)
  have f302 := (show 0 ≤ I266 0 1 ∧ I266 0 1 ≤ 8 from (hI266 0 1).1)
  have f303 := (show 0 ≤ I266 0 2 ∧ I266 0 2 ≤ 32 from (hI266 0 2).1)
  have f304 := (show 0 ≤ I266 0 3 ∧ I266 0 3 ≤ 96 from (hI266 0 3).1)
  have f305 := (show 0 ≤ I266 0 4 ∧ I266 0 4 ≤ 8 from (hI266 0 4).1)
  have f306 := (show 0 ≤ I266 0 5 ∧ I266 0 5 ≤ 64 from (hI266 0 5).1)
  have f307 := (show (-1) ≤ I266 0 6 ∧ I266 0 6 ≤ 7 from (hI266 0 6).1)
  have f308 := (show 0 ≤ I266 0 42 ∧ I266 0 42 ≤ 2000 from (hI266 0 42).1)
  have f309 := (show 0 ≤ I266 0 59 ∧ I266 0 59 ≤ 2000 from (hI266 0 59).1)
  have f310 := (show 0 ≤ I266 0 64 ∧ I266 0 64 ≤ 2000 from (hI266 0 64).1)
  have f311 := (show 0 ≤ I266 0 3 ∧ I266 0 3 ≤ 96 from (hI266 0 3).1)
  have f312 := (show (-1) ≤ I266 0 77 ∧ I266 0 77 ≤ 1001 from (hI266 0 77).1)
  have KTM_I266 := gr_TM_fr KTM_I (fun k => p267 52 k (fun q => absurd q.1 (by decide))) (fun k => p267 53 k (fun q => absurd q.1 (by decide))) (fun k => p267 54 k (fun q => absurd q.1 (by decide))) (p267 0 64 (by decide))
  have KVF_I266 := gr_VF_fr KVF_I (fun k => p267 14 k (fun q => absurd q.1 (by decide))) (fun k => p267 13 k (fun q => absurd q.1 (by decide)))
  have KLE_I266 := gr_LE_fr KLE_I (fun k => p267 19 k (fun q => absurd q.1 (by decide))) (p267 0 68 (by decide))
  have KGR_I266 := gr_GR_fr KGR_I (fun k => p267 19 k (fun q => absurd q.1 (by decide))) (fun k => p267 18 k (fun q => absurd q.1 (by decide))) (fun k => p267 36 k (fun q => absurd q.1 (by decide))) (fun k => p267 41 k (fun q => absurd q.1 (by decide))) (fun k => p267 42 k (fun q => absurd q.1 (by decide))) (fun k => p267 43 k (fun q => absurd q.1 (by decide))) (fun k => p267 45 k (fun q => absurd q.1 (by decide))) (fun k => p267 46 k (fun q => absurd q.1 (by decide))) (fun k => p267 47 k (fun q => absurd q.1 (by decide))) (fun k => p267 6 k (fun q => absurd q.1 (by decide))) (fun k => p267 7 k (fun q => absurd q.1 (by decide))) (fun k => p267 8 k (fun q => absurd q.1 (by decide))) (p267 0 3 (by decide))
  have KTO_I266 := gr_TO_fr KTO_I (fun k => p267 52 k (fun q => absurd q.1 (by decide))) (fun k => p267 53 k (fun q => absurd q.1 (by decide))) (fun k => p267 54 k (fun q => absurd q.1 (by decide))) (fun k => p267 55 k (fun q => absurd q.1 (by decide))) (fun k => p267 6 k (fun q => absurd q.1 (by decide))) (p267 0 64 (by decide)) (p267 0 3 (by decide))
  have KFM_I266 := gr_FM_fr KFM_I (fun k => p267 10 k (fun q => absurd q.1 (by decide))) (fun k => p267 55 k (fun q => absurd q.1 (by decide))) (fun k => p267 52 k (fun q => absurd q.1 (by decide))) (fun k => p267 53 k (fun q => absurd q.1 (by decide))) (fun k => p267 54 k (fun q => absurd q.1 (by decide))) (p267 0 64 (by decide)) (p267 0 3 (by decide))
  refine gv_run 1 true hD (pc' := 6) (lv' := [(0, .inr (.inr (some 0)))]) (st' := [.inr (.inr (some 0))]) (h' := gr_h I266 J) (C := (True ∧ True)) rfl ⟨trivial, trivial⟩ ?_
  obtain ⟨r313, h313, E313, P313⟩ := r_reads_p (ws0 := ws0) (tb := tb) hws htb ext I266 J hI266   
  obtain ⟨I314, J315, rfl, hI314, g313, k313, ⟨rfl, q313⟩⟩ := P313
  have FI314 := gr_frt FI266 g313 rfl rfl
  have FJ315 := gr_fjt FJ k313 rfl rfl
  have t316 := g313 0 71 rfl
  have t317 := g313 0 72 rfl
  have t318 := g313 0 73 rfl
  have t319 := g313 0 99 rfl
  have t320 := g313 0 100 rfl
  have t321 := g313 0 1 rfl
  have t322 := g313 0 2 rfl
  have t323 := g313 0 3 rfl
  have t324 := g313 0 4 rfl
  have t325 := g313 0 5 rfl
  have t326 := g313 0 6 rfl
  have t327 := g313 0 42 rfl
  have t328 := g313 0 59 rfl
  have t329 := g313 0 64 rfl
  have t330 := g313 0 3 rfl
  have t331 := g313 0 77 rfl
  have t332 := g313 59 (Int.toNat 0) rfl
  have t333 := g313 59 (Int.toNat ((0 + 1))) rfl
  have t334 := g313 59 (Int.toNat (((0 + 1) + 1))) rfl
  have t335 := g313 59 (Int.toNat ((((0 + 1) + 1) + 1))) rfl
  have t336 := g313 59 (Int.toNat (((((0 + 1) + 1) + 1) + 1))) rfl
  have t337 := g313 59 (Int.toNat ((((((0 + 1) + 1) + 1) + 1) + 1))) rfl
  have t338 := g313 59 (Int.toNat (((((((0 + 1) + 1) + 1) + 1) + 1) + 1))) rfl
  have t339 := g313 59 (Int.toNat ((((((((0 + 1) + 1) + 1) + 1) + 1) + 1) + 1))) rfl
  have t340 := g313 59 (Int.toNat (((((((((0 + 1) + 1) + 1) + 1) + 1) + 1) + 1) + 1))) rfl
  have f341 := (show 0 ≤ I314 0 71 ∧ I314 0 71 ≤ 5 from (hI314 0 71).1)
  have f342 := (show 0 ≤ I314 0 72 ∧ I314 0 72 ≤ 1000 from (hI314 0 72).1)
  have f343 := (show 0 ≤ I314 0 73 ∧ I314 0 73 ≤ 1001 from (hI314 0 73).1)
  have f344 := (show 0 ≤ I314 0 69 ∧ I314 0 69 ≤ 1000 from (hI314 0 69).1)
  have f345 := (show 0 ≤ I314 0 68 ∧ I314 0 68 ≤ 1000 from (hI314 0 68).1)
  have f346 := (show 0 ≤ I314 0 99 ∧ I314 0 99 ≤ 1000 from (hI314 0 99).1)
  have f347 := (show 0 ≤ I314 0 100 ∧ I314 0 100 ≤ 1000000 from (hI314 0 100).1)
  have f348 := (show 0 ≤ I314 0 1 ∧ I314 0 1 ≤ 8 from (hI314 0 1).1)
  have f349 := (show 0 ≤ I314 0 2 ∧ I314 0 2 ≤ 32 from (hI314 0 2).1)
  have f350 := (show 0 ≤ I314 0 3 ∧ I314 0 3 ≤ 96 from (hI314 0 3).1)
  have f351 := (show 0 ≤ I314 0 4 ∧ I314 0 4 ≤ 8 from (hI314 0 4).1)
  have f352 := (show 0 ≤ I314 0 5 ∧ I314 0 5 ≤ 64 from (hI314 0 5).1)
  have f353 := (show (-1) ≤ I314 0 6 ∧ I314 0 6 ≤ 7 from (hI314 0 6).1)
  have f354 := (show 0 ≤ I314 0 42 ∧ I314 0 42 ≤ 2000 from (hI314 0 42).1)
  have f355 := (show 0 ≤ I314 0 59 ∧ I314 0 59 ≤ 2000 from (hI314 0 59).1)
  have f356 := (show 0 ≤ I314 0 64 ∧ I314 0 64 ≤ 2000 from (hI314 0 64).1)
  have f357 := (show 0 ≤ I314 0 3 ∧ I314 0 3 ≤ 96 from (hI314 0 3).1)
  have f358 := (show (-1) ≤ I314 0 77 ∧ I314 0 77 ≤ 1001 from (hI314 0 77).1)
  have KTM_I314 := gr_TM_fr KTM_I266 (fun k => g313 52 k rfl) (fun k => g313 53 k rfl) (fun k => g313 54 k rfl) (g313 0 64 rfl)
  have KVF_I314 := gr_VF_fr KVF_I266 (fun k => g313 14 k rfl) (fun k => g313 13 k rfl)
  have KGR_I314 := gr_GR_fr KGR_I266 (fun k => g313 19 k rfl) (fun k => g313 18 k rfl) (fun k => g313 36 k rfl) (fun k => g313 41 k rfl) (fun k => g313 42 k rfl) (fun k => g313 43 k rfl) (fun k => g313 45 k rfl) (fun k => g313 46 k rfl) (fun k => g313 47 k rfl) (fun k => g313 6 k rfl) (fun k => g313 7 k rfl) (fun k => g313 8 k rfl) (g313 0 3 rfl)
  have KTO_I314 := gr_TO_fr KTO_I266 (fun k => g313 52 k rfl) (fun k => g313 53 k rfl) (fun k => g313 54 k rfl) (fun k => g313 55 k rfl) (fun k => g313 6 k rfl) (g313 0 64 rfl) (g313 0 3 rfl)
  have KFM_I314 := gr_FM_fr KFM_I266 (fun k => g313 10 k rfl) (fun k => g313 55 k rfl) (fun k => g313 52 k rfl) (fun k => g313 53 k rfl) (fun k => g313 54 k rfl) (g313 0 64 rfl) (g313 0 3 rfl)
  have KST_I314 : gr_ST I9 I314 := gr_ST_fr (by rw [hI9]; exact gr_ST_rf I) (fun k => (g313 6 k rfl).trans (p267 6 k (fun q => absurd q.1 (by decide)))) (fun k => (g313 19 k rfl).trans (p267 19 k (fun q => absurd q.1 (by decide)))) (fun k => (g313 18 k rfl).trans (p267 18 k (fun q => absurd q.1 (by decide)))) (fun k => (g313 41 k rfl).trans (p267 41 k (fun q => absurd q.1 (by decide)))) (fun k => (g313 36 k rfl).trans (p267 36 k (fun q => absurd q.1 (by decide)))) (by omega)
  refine gv_callV hD rfl (As := []) (st := []) rfl (by decide) rfl rfl (gr_lV hws rfl) (Nat.le_of_ble_eq_true rfl) (gz_Ev_mono (d := 1) (by decide) E313) ?_
  show gv_X _ _ (9, [(0, .inr (.inr (some 0)))], [], gr_sh ++ ext, gr_h I314 J315)
  refine gv_run 1 true hD (pc' := 10) (lv' := [(0, .inr (.inr (some 0)))]) (st' := [.inr (.inr (some 0))]) (h' := gr_h I314 J315) (C := (True ∧ True)) rfl ⟨trivial, trivial⟩ ?_
  obtain ⟨r359, h359, E359, P359⟩ := r_remember (ws0 := ws0) (tb := tb) hws htb ext I314 J315 hI314   
  obtain ⟨I360, J361, rfl, hI360, g359, k359, ⟨rfl, q359⟩⟩ := P359
  have FI360 := gr_frt FI314 g359 rfl rfl
  have FJ361 := gr_fjt FJ315 k359 rfl rfl
  have t362 := g359 0 71 rfl
  have t363 := g359 0 72 rfl
  have t364 := g359 0 73 rfl
  have t365 := g359 0 69 rfl
  have t366 := g359 0 68 rfl
  have t367 := g359 0 100 rfl
  have t368 := g359 0 1 rfl
  have t369 := g359 0 2 rfl
  have t370 := g359 0 3 rfl
  have t371 := g359 0 4 rfl
  have t372 := g359 0 5 rfl
  have t373 := g359 0 6 rfl
  have t374 := g359 0 42 rfl
  have t375 := g359 0 59 rfl
  have t376 := g359 0 64 rfl
  have t377 := g359 0 3 rfl
  have t378 := g359 0 77 rfl
  have f379 := (show 0 ≤ I360 0 71 ∧ I360 0 71 ≤ 5 from (hI360 0 71).1)
  have f380 := (show 0 ≤ I360 0 72 ∧ I360 0 72 ≤ 1000 from (hI360 0 72).1)
  have f381 := (show 0 ≤ I360 0 73 ∧ I360 0 73 ≤ 1001 from (hI360 0 73).1)
  have f382 := (show 0 ≤ I360 0 69 ∧ I360 0 69 ≤ 1000 from (hI360 0 69).1)
  have f383 := (show 0 ≤ I360 0 68 ∧ I360 0 68 ≤ 1000 from (hI360 0 68).1)
  have f384 := (show 0 ≤ I360 0 99 ∧ I360 0 99 ≤ 1000 from (hI360 0 99).1)
  have f385 := (show 0 ≤ I360 0 100 ∧ I360 0 100 ≤ 1000000 from (hI360 0 100).1)
  have f386 := (show 0 ≤ I360 0 1 ∧ I360 0 1 ≤ 8 from (hI360 0 1).1)
  have f387 := (show 0 ≤ I360 0 2 ∧ I360 0 2 ≤ 32 from (hI360 0 2).1)
  have f388 := (show 0 ≤ I360 0 3 ∧ I360 0 3 ≤ 96 from (hI360 0 3).1)
  have f389 := (show 0 ≤ I360 0 4 ∧ I360 0 4 ≤ 8 from (hI360 0 4).1)
  have f390 := (show 0 ≤ I360 0 5 ∧ I360 0 5 ≤ 64 from (hI360 0 5).1)
  have f391 := (show (-1) ≤ I360 0 6 ∧ I360 0 6 ≤ 7 from (hI360 0 6).1)
  have f392 := (show 0 ≤ I360 0 42 ∧ I360 0 42 ≤ 2000 from (hI360 0 42).1)
  have f393 := (show 0 ≤ I360 0 59 ∧ I360 0 59 ≤ 2000 from (hI360 0 59).1)
  have f394 := (show 0 ≤ I360 0 64 ∧ I360 0 64 ≤ 2000 from (hI360 0 64).1)
  have f395 := (show 0 ≤ I360 0 3 ∧ I360 0 3 ≤ 96 from (hI360 0 3).1)
  have f396 := (show (-1) ≤ I360 0 77 ∧ I360 0 77 ≤ 1001 from (hI360 0 77).1)
  have KTM_I360 := gr_TM_fr KTM_I314 (fun k => g359 52 k rfl) (fun k => g359 53 k rfl) (fun k => g359 54 k rfl) (g359 0 64 rfl)
  have KVF_I360 := gr_VF_fr KVF_I314 (fun k => g359 14 k rfl) (fun k => g359 13 k rfl)
  have KGR_I360 := gr_GR_fr KGR_I314 (fun k => g359 19 k rfl) (fun k => g359 18 k rfl) (fun k => g359 36 k rfl) (fun k => g359 41 k rfl) (fun k => g359 42 k rfl) (fun k => g359 43 k rfl) (fun k => g359 45 k rfl) (fun k => g359 46 k rfl) (fun k => g359 47 k rfl) (fun k => g359 6 k rfl) (fun k => g359 7 k rfl) (fun k => g359 8 k rfl) (g359 0 3 rfl)
  have KTO_I360 := gr_TO_fr KTO_I314 (fun k => g359 52 k rfl) (fun k => g359 53 k rfl) (fun k => g359 54 k rfl) (fun k => g359 55 k rfl) (fun k => g359 6 k rfl) (g359 0 64 rfl) (g359 0 3 rfl)
  have KFM_I360 := gr_FM_fr KFM_I314 (fun k => g359 10 k rfl) (fun k => g359 55 k rfl) (fun k => g359 52 k rfl) (fun k => g359 53 k rfl) (fun k => g359 54 k rfl) (g359 0 64 rfl) (g359 0 3 rfl)
  have KST_I360 := gr_ST_fr KST_I314 (fun k => g359 6 k rfl) (fun k => g359 19 k rfl) (fun k => g359 18 k rfl) (fun k => g359 41 k rfl) (fun k => g359 36 k rfl) (g359 0 3 rfl)
  have KRT_I360 : gr_RT8 I I360 := gr_RT8_l q359.2.2.2.2.2.2.2.2.2.2 (fun k => (g313 13 k rfl).trans (p267 13 k (fun q => absurd q.1 (by decide)))) (fun k => (g313 14 k rfl).trans (p267 14 k (fun q => absurd q.1 (by decide)))) (fun k => (g313 15 k rfl).trans (p267 15 k (fun q => absurd q.1 (by decide)))) (fun k => (g313 16 k rfl).trans (p267 16 k (fun q => absurd q.1 (by decide)))) (fun k => (g313 17 k rfl).trans (p267 17 k (fun q => absurd q.1 (by decide)))) (fun k => (g313 18 k rfl).trans (p267 18 k (fun q => absurd q.1 (by decide)))) (fun k => (g313 19 k rfl).trans (p267 19 k (fun q => absurd q.1 (by decide))))
  have KMQ_I360 : gr_MQ I9 I360 := gr_MQ_st KFM_I360 (by rw [hI9]; exact gr_TS9_fr (fun k => ((g359 55 k rfl).trans (g313 55 k rfl)).trans (p267 55 k (fun q => absurd q.1 (by decide)))) (fun k => ((g359 52 k rfl).trans (g313 52 k rfl)).trans (p267 52 k (fun q => absurd q.1 (by decide)))) (fun k => ((g359 53 k rfl).trans (g313 53 k rfl)).trans (p267 53 k (fun q => absurd q.1 (by decide)))) (fun k => ((g359 54 k rfl).trans (g313 54 k rfl)).trans (p267 54 k (fun q => absurd q.1 (by decide))))) (by rw [hI9]; omega) (by rw [hI9]; omega)
  refine gv_callV hD rfl (As := []) (st := []) rfl (by decide) rfl rfl (gr_lV hws rfl) (Nat.le_of_ble_eq_true rfl) (gz_Ev_mono (d := 1) (by decide) E359) ?_
  show gv_X _ _ (13, [(0, .inr (.inr (some 0)))], [], gr_sh ++ ext, gr_h I360 J361)
  refine gv_run 3 true hD (pc' := 18) (lv' := [(0, .inr (.inr (some 0)))]) (st' := []) (h' := gz_up (gr_h I360 J361) 0 73 (.inl 0)) (C := (((True ∧ True) ∧ True) ∧ True)) rfl ⟨⟨⟨trivial, trivial⟩, trivial⟩, trivial⟩ ?_
  refine gr_st hI360 FI360 rfl rfl ⟨⟨by show 0 ≤ _; omega, by show _ ≤ 1001; omega⟩, trivial⟩ (fun I397 hI397 FI397 q398 p398 => ?_)
  have t399 := p398 0 71 (by decide)
  have t400 := p398 0 72 (by decide)
  have t401 := p398 0 69 (by decide)
  have t402 := p398 0 68 (by decide)
  have t403 := p398 0 99 (by decide)
  have t404 := p398 0 100 (by decide)
  have t405 := p398 0 1 (by decide)
  have t406 := p398 0 2 (by decide)
  have t407 := p398 0 3 (by decide)
  have t408 := p398 0 4 (by decide)
  have t409 := p398 0 5 (by decide)
  have t410 := p398 0 6 (by decide)
  have t411 := p398 0 42 (by decide)
  have t412 := p398 0 59 (by decide)
  have t413 := p398 0 64 (by decide)
  have t414 := p398 0 3 (by decide)
  have t415 := p398 0 77 (by decide)
  have t416 := p398 59 (Int.toNat 0) (fun q => absurd q.1 (by decide))
  have t417 := p398 59 (Int.toNat ((0 + 1))) (fun q => absurd q.1 (by decide))
  have t418 := p398 59 (Int.toNat (((0 + 1) + 1))) (fun q => absurd q.1 (by decide))
  have t419 := p398 59 (Int.toNat ((((0 + 1) + 1) + 1))) (fun q => absurd q.1 (by decide))
  have t420 := p398 59 (Int.toNat (((((0 + 1) + 1) + 1) + 1))) (fun q => absurd q.1 (by decide))
  have t421 := p398 59 (Int.toNat ((((((0 + 1) + 1) + 1) + 1) + 1))) (fun q => absurd q.1 (by decide))
  have t422 := p398 59 (Int.toNat (((((((0 + 1) + 1) + 1) + 1) + 1) + 1))) (fun q => absurd q.1 (by decide))
  have t423 := p398 59 (Int.toNat ((((((((0 + 1) + 1) + 1) + 1) + 1) + 1) + 1))) (fun q => absurd q.1 (by decide))
  have t424 := p398 59 (Int.toNat (((((((((0 + 1) + 1) + 1) + 1) + 1) + 1) + 1) + 1))) (fun q => absurd q.1 (by decide))
  have f425 := (show 0 ≤ I397 0 71 ∧ I397 0 71 ≤ 5 from (hI397 0 71).1)
  have f426 := (show 0 ≤ I397 0 72 ∧ I397 0 72 ≤ 1000 from (hI397 0 72).1)
  have f427 := (show 0 ≤ I397 0 73 ∧ I397 0 73 ≤ 1001 from (hI397 0 73).1)
  have f428 := (show 0 ≤ I397 0 69 ∧ I397 0 69 ≤ 1000 from (hI397 0 69).1)
  have f429 := (show 0 ≤ I397 0 68 ∧ I397 0 68 ≤ 1000 from (hI397 0 68).1)
  have f430 := (show 0 ≤ I397 0 99 ∧ I397 0 99 ≤ 1000 from (hI397 0 99).1)
  have f431 := (show 0 ≤ I397 0 100 ∧ I397 0 100 ≤ 1000000 from (hI397 0 100).1)
  have f432 := (show 0 ≤ I397 0 1 ∧ I397 0 1 ≤ 8 from (hI397 0 1).1)
  have f433 := (show 0 ≤ I397 0 2 ∧ I397 0 2 ≤ 32 from (hI397 0 2).1)
  have f434 := (show 0 ≤ I397 0 3 ∧ I397 0 3 ≤ 96 from (hI397 0 3).1)
  have f435 := (show 0 ≤ I397 0 4 ∧ I397 0 4 ≤ 8 from (hI397 0 4).1)
  have f436 := (show 0 ≤ I397 0 5 ∧ I397 0 5 ≤ 64 from (hI397 0 5).1)
  have f437 := (show (-1) ≤ I397 0 6 ∧ I397 0 6 ≤ 7 from (hI397 0 6).1)
  have f438 := (show 0 ≤ I397 0 42 ∧ I397 0 42 ≤ 2000 from (hI397 0 42).1)
  have f439 := (show 0 ≤ I397 0 59 ∧ I397 0 59 ≤ 2000 from (hI397 0 59).1)
  have f440 := (show 0 ≤ I397 0 64 ∧ I397 0 64 ≤ 2000 from (hI397 0 64).1)
  have f441 := (show 0 ≤ I397 0 3 ∧ I397 0 3 ≤ 96 from (hI397 0 3).1)
  have f442 := (show (-1) ≤ I397 0 77 ∧ I397 0 77 ≤ 1001 from (hI397 0 77).1)
  have KTM_I397 := gr_TM_fr KTM_I360 (fun k => p398 52 k (fun q => absurd q.1 (by decide))) (fun k => p398 53 k (fun q => absurd q.1 (by decide))) (fun k => p398 54 k (fun q => absurd q.1 (by decide))) (p398 0 64 (by decide))
  have KVF_I397 := gr_VF_fr KVF_I360 (fun k => p398 14 k (fun q => absurd q.1 (by decide))) (fun k => p398 13 k (fun q => absurd q.1 (by decide)))
  have KGR_I397 := gr_GR_fr KGR_I360 (fun k => p398 19 k (fun q => absurd q.1 (by decide))) (fun k => p398 18 k (fun q => absurd q.1 (by decide))) (fun k => p398 36 k (fun q => absurd q.1 (by decide))) (fun k => p398 41 k (fun q => absurd q.1 (by decide))) (fun k => p398 42 k (fun q => absurd q.1 (by decide))) (fun k => p398 43 k (fun q => absurd q.1 (by decide))) (fun k => p398 45 k (fun q => absurd q.1 (by decide))) (fun k => p398 46 k (fun q => absurd q.1 (by decide))) (fun k => p398 47 k (fun q => absurd q.1 (by decide))) (fun k => p398 6 k (fun q => absurd q.1 (by decide))) (fun k => p398 7 k (fun q => absurd q.1 (by decide))) (fun k => p398 8 k (fun q => absurd q.1 (by decide))) (p398 0 3 (by decide))
  have KTO_I397 := gr_TO_fr KTO_I360 (fun k => p398 52 k (fun q => absurd q.1 (by decide))) (fun k => p398 53 k (fun q => absurd q.1 (by decide))) (fun k => p398 54 k (fun q => absurd q.1 (by decide))) (fun k => p398 55 k (fun q => absurd q.1 (by decide))) (fun k => p398 6 k (fun q => absurd q.1 (by decide))) (p398 0 64 (by decide)) (p398 0 3 (by decide))
  have KFM_I397 := gr_FM_fr KFM_I360 (fun k => p398 10 k (fun q => absurd q.1 (by decide))) (fun k => p398 55 k (fun q => absurd q.1 (by decide))) (fun k => p398 52 k (fun q => absurd q.1 (by decide))) (fun k => p398 53 k (fun q => absurd q.1 (by decide))) (fun k => p398 54 k (fun q => absurd q.1 (by decide))) (p398 0 64 (by decide)) (p398 0 3 (by decide))
  have KRT_I397 := gr_RT8_fr KRT_I360 (fun k => p398 59 k (fun q => absurd q.1 (by decide)))
  have KST_I397 := gr_ST_fr KST_I360 (fun k => p398 6 k (fun q => absurd q.1 (by decide))) (fun k => p398 19 k (fun q => absurd q.1 (by decide))) (fun k => p398 18 k (fun q => absurd q.1 (by decide))) (fun k => p398 41 k (fun q => absurd q.1 (by decide))) (fun k => p398 36 k (fun q => absurd q.1 (by decide))) (p398 0 3 (by decide))
  have KMQ_I397 := gr_MQ_fr KMQ_I360 (fun k => p398 10 k (fun q => absurd q.1 (by decide))) (fun k => p398 55 k (fun q => absurd q.1 (by decide))) (fun k => p398 52 k (fun q => absurd q.1 (by decide))) (fun k => p398 53 k (fun q => absurd q.1 (by decide))) (fun k => p398 54 k (fun q => absurd q.1 (by decide))) (fun k => p398 60 k (fun q => absurd q.1 (by decide))) (p398 0 64 (by decide)) (p398 0 3 (by decide)) (p398 0 99 (by decide))
  refine gv_run 3 true hD (pc' := 23) (lv' := [(0, .inr (.inr (some 0)))]) (st' := []) (h' := gz_up (gr_h I397 J361) 0 76 (.inl 0)) (C := (((True ∧ True) ∧ True) ∧ True)) rfl ⟨⟨⟨trivial, trivial⟩, trivial⟩, trivial⟩ ?_
  refine gr_st hI397 FI397 rfl rfl ⟨⟨by show 0 ≤ _; omega, by show _ ≤ 6; omega⟩, trivial⟩ (fun I443 hI443 FI443 q444 p444 => ?_)
  have t445 := p444 0 71 (by decide)
  have t446 := p444 0 72 (by decide)
  have t447 := p444 0 73 (by decide)
  have t448 := p444 0 69 (by decide)
  have t449 := p444 0 68 (by decide)
  have t450 := p444 0 99 (by decide)
  have t451 := p444 0 100 (by decide)
  have t452 := p444 0 1 (by decide)
  have t453 := p444 0 2 (by decide)
  have t454 := p444 0 3 (by decide)
  have t455 := p444 0 4 (by decide)
  have t456 := p444 0 5 (by decide)
  have t457 := p444 0 6 (by decide)
  have t458 := p444 0 42 (by decide)
  have t459 := p444 0 59 (by decide)
  have t460 := p444 0 64 (by decide)
  have t461 := p444 0 3 (by decide)
  have t462 := p444 0 77 (by decide)
  have t463 := p444 59 (Int.toNat 0) (fun q => absurd q.1 (by decide))
  have t464 := p444 59 (Int.toNat ((0 + 1))) (fun q => absurd q.1 (by decide))
  have t465 := p444 59 (Int.toNat (((0 + 1) + 1))) (fun q => absurd q.1 (by decide))
  have t466 := p444 59 (Int.toNat ((((0 + 1) + 1) + 1))) (fun q => absurd q.1 (by decide))
  have t467 := p444 59 (Int.toNat (((((0 + 1) + 1) + 1) + 1))) (fun q => absurd q.1 (by decide))
  have t468 := p444 59 (Int.toNat ((((((0 + 1) + 1) + 1) + 1) + 1))) (fun q => absurd q.1 (by decide))
  have t469 := p444 59 (Int.toNat (((((((0 + 1) + 1) + 1) + 1) + 1) + 1))) (fun q => absurd q.1 (by decide))
  have t470 := p444 59 (Int.toNat ((((((((0 + 1) + 1) + 1) + 1) + 1) + 1) + 1))) (fun q => absurd q.1 (by decide))
  have t471 := p444 59 (Int.toNat (((((((((0 + 1) + 1) + 1) + 1) + 1) + 1) + 1) + 1))) (fun q => absurd q.1 (by decide))
  have f472 := (show 0 ≤ I443 0 71 ∧ I443 0 71 ≤ 5 from (hI443 0 71).1)
  have f473 := (show 0 ≤ I443 0 72 ∧ I443 0 72 ≤ 1000 from (hI443 0 72).1)
  have f474 := (show 0 ≤ I443 0 73 ∧ I443 0 73 ≤ 1001 from (hI443 0 73).1)
  have f475 := (show 0 ≤ I443 0 69 ∧ I443 0 69 ≤ 1000 from (hI443 0 69).1)
  have f476 := (show 0 ≤ I443 0 68 ∧ I443 0 68 ≤ 1000 from (hI443 0 68).1)
  have f477 := (show 0 ≤ I443 0 99 ∧ I443 0 99 ≤ 1000 from (hI443 0 99).1)
  have f478 := (show 0 ≤ I443 0 100 ∧ I443 0 100 ≤ 1000000 from (hI443 0 100).1)
  have f479 := (show 0 ≤ I443 0 1 ∧ I443 0 1 ≤ 8 from (hI443 0 1).1)
  have f480 := (show 0 ≤ I443 0 2 ∧ I443 0 2 ≤ 32 from (hI443 0 2).1)
  have f481 := (show 0 ≤ I443 0 3 ∧ I443 0 3 ≤ 96 from (hI443 0 3).1)
  have f482 := (show 0 ≤ I443 0 4 ∧ I443 0 4 ≤ 8 from (hI443 0 4).1)
  have f483 := (show 0 ≤ I443 0 5 ∧ I443 0 5 ≤ 64 from (hI443 0 5).1)
  have f484 := (show (-1) ≤ I443 0 6 ∧ I443 0 6 ≤ 7 from (hI443 0 6).1)
  have f485 := (show 0 ≤ I443 0 42 ∧ I443 0 42 ≤ 2000 from (hI443 0 42).1)
  have f486 := (show 0 ≤ I443 0 59 ∧ I443 0 59 ≤ 2000 from (hI443 0 59).1)
  have f487 := (show 0 ≤ I443 0 64 ∧ I443 0 64 ≤ 2000 from (hI443 0 64).1)
  have f488 := (show 0 ≤ I443 0 3 ∧ I443 0 3 ≤ 96 from (hI443 0 3).1)
  have f489 := (show (-1) ≤ I443 0 77 ∧ I443 0 77 ≤ 1001 from (hI443 0 77).1)
  have KTM_I443 := gr_TM_fr KTM_I397 (fun k => p444 52 k (fun q => absurd q.1 (by decide))) (fun k => p444 53 k (fun q => absurd q.1 (by decide))) (fun k => p444 54 k (fun q => absurd q.1 (by decide))) (p444 0 64 (by decide))
  have KVF_I443 := gr_VF_fr KVF_I397 (fun k => p444 14 k (fun q => absurd q.1 (by decide))) (fun k => p444 13 k (fun q => absurd q.1 (by decide)))
  have KGR_I443 := gr_GR_fr KGR_I397 (fun k => p444 19 k (fun q => absurd q.1 (by decide))) (fun k => p444 18 k (fun q => absurd q.1 (by decide))) (fun k => p444 36 k (fun q => absurd q.1 (by decide))) (fun k => p444 41 k (fun q => absurd q.1 (by decide))) (fun k => p444 42 k (fun q => absurd q.1 (by decide))) (fun k => p444 43 k (fun q => absurd q.1 (by decide))) (fun k => p444 45 k (fun q => absurd q.1 (by decide))) (fun k => p444 46 k (fun q => absurd q.1 (by decide))) (fun k => p444 47 k (fun q => absurd q.1 (by decide))) (fun k => p444 6 k (fun q => absurd q.1 (by decide))) (fun k => p444 7 k (fun q => absurd q.1 (by decide))) (fun k => p444 8 k (fun q => absurd q.1 (by decide))) (p444 0 3 (by decide))
  have KTO_I443 := gr_TO_fr KTO_I397 (fun k => p444 52 k (fun q => absurd q.1 (by decide))) (fun k => p444 53 k (fun q => absurd q.1 (by decide))) (fun k => p444 54 k (fun q => absurd q.1 (by decide))) (fun k => p444 55 k (fun q => absurd q.1 (by decide))) (fun k => p444 6 k (fun q => absurd q.1 (by decide))) (p444 0 64 (by decide)) (p444 0 3 (by decide))
  have KFM_I443 := gr_FM_fr KFM_I397 (fun k => p444 10 k (fun q => absurd q.1 (by decide))) (fun k => p444 55 k (fun q => absurd q.1 (by decide))) (fun k => p444 52 k (fun q => absurd q.1 (by decide))) (fun k => p444 53 k (fun q => absurd q.1 (by decide))) (fun k => p444 54 k (fun q => absurd q.1 (by decide))) (p444 0 64 (by decide)) (p444 0 3 (by decide))
  have KRT_I443 := gr_RT8_fr KRT_I397 (fun k => p444 59 k (fun q => absurd q.1 (by decide)))
  have KST_I443 := gr_ST_fr KST_I397 (fun k => p444 6 k (fun q => absurd q.1 (by decide))) (fun k => p444 19 k (fun q => absurd q.1 (by decide))) (fun k => p444 18 k (fun q => absurd q.1 (by decide))) (fun k => p444 41 k (fun q => absurd q.1 (by decide))) (fun k => p444 36 k (fun q => absurd q.1 (by decide))) (p444 0 3 (by decide))
  have KMQ_I443 := gr_MQ_fr KMQ_I397 (fun k => p444 10 k (fun q => absurd q.1 (by decide))) (fun k => p444 55 k (fun q => absurd q.1 (by decide))) (fun k => p444 52 k (fun q => absurd q.1 (by decide))) (fun k => p444 53 k (fun q => absurd q.1 (by decide))) (fun k => p444 54 k (fun q => absurd q.1 (by decide))) (fun k => p444 60 k (fun q => absurd q.1 (by decide))) (p444 0 64 (by decide)) (p444 0 3 (by decide)) (p444 0 99 (by decide))
  refine gv_run 1 true hD (pc' := 24) (lv' := [(0, .inr (.inr (some 0)))]) (st' := [.inr (.inr (some 0))]) (h' := gr_h I443 J361) (C := (True ∧ True)) rfl ⟨trivial, trivial⟩ ?_
  obtain ⟨r490, h490, E490, P490⟩ := r_next_p (ws0 := ws0) (tb := tb) hws htb ext β N9 I443 J361 hI443   (by omega) (gs_TX_cp x4 (fun j hj => ((((p444 57 j (fun q => absurd q.1 (by decide))).trans (p398 57 j (fun q => absurd q.1 (by decide)))).trans (g359 57 j rfl))).trans ((q313.1.2 j (by omega)).trans (p267 56 j (fun q => absurd q.1 (by decide)))))) (by omega)
  obtain ⟨I491, J492, rfl, hI491, g490, k490, ⟨rfl, q490⟩⟩ := P490
  have FI491 := gr_frt FI443 g490 rfl rfl
  have FJ492 := gr_fjt FJ361 k490 rfl rfl
  have t493 := g490 0 69 rfl
  have t494 := g490 0 68 rfl
  have t495 := g490 0 99 rfl
  have t496 := g490 0 100 rfl
  have t497 := g490 0 1 rfl
  have t498 := g490 0 2 rfl
  have t499 := g490 0 3 rfl
  have t500 := g490 0 4 rfl
  have t501 := g490 0 5 rfl
  have t502 := g490 0 6 rfl
  have t503 := g490 0 42 rfl
  have t504 := g490 0 59 rfl
  have t505 := g490 0 64 rfl
  have t506 := g490 0 3 rfl
  have t507 := g490 0 77 rfl
  have t508 := g490 59 (Int.toNat 0) rfl
  have t509 := g490 59 (Int.toNat ((0 + 1))) rfl
  have t510 := g490 59 (Int.toNat (((0 + 1) + 1))) rfl
  have t511 := g490 59 (Int.toNat ((((0 + 1) + 1) + 1))) rfl
  have t512 := g490 59 (Int.toNat (((((0 + 1) + 1) + 1) + 1))) rfl
  have t513 := g490 59 (Int.toNat ((((((0 + 1) + 1) + 1) + 1) + 1))) rfl
  have t514 := g490 59 (Int.toNat (((((((0 + 1) + 1) + 1) + 1) + 1) + 1))) rfl
  have t515 := g490 59 (Int.toNat ((((((((0 + 1) + 1) + 1) + 1) + 1) + 1) + 1))) rfl
  have t516 := g490 59 (Int.toNat (((((((((0 + 1) + 1) + 1) + 1) + 1) + 1) + 1) + 1))) rfl
  have f517 := (show 0 ≤ I491 0 71 ∧ I491 0 71 ≤ 5 from (hI491 0 71).1)
  have f518 := (show 0 ≤ I491 0 72 ∧ I491 0 72 ≤ 1000 from (hI491 0 72).1)
  have f519 := (show 0 ≤ I491 0 73 ∧ I491 0 73 ≤ 1001 from (hI491 0 73).1)
  have f520 := (show 0 ≤ I491 0 69 ∧ I491 0 69 ≤ 1000 from (hI491 0 69).1)
  have f521 := (show 0 ≤ I491 0 68 ∧ I491 0 68 ≤ 1000 from (hI491 0 68).1)
  have f522 := (show 0 ≤ I491 0 99 ∧ I491 0 99 ≤ 1000 from (hI491 0 99).1)
  have f523 := (show 0 ≤ I491 0 100 ∧ I491 0 100 ≤ 1000000 from (hI491 0 100).1)
  have f524 := (show 0 ≤ I491 0 1 ∧ I491 0 1 ≤ 8 from (hI491 0 1).1)
  have f525 := (show 0 ≤ I491 0 2 ∧ I491 0 2 ≤ 32 from (hI491 0 2).1)
  have f526 := (show 0 ≤ I491 0 3 ∧ I491 0 3 ≤ 96 from (hI491 0 3).1)
  have f527 := (show 0 ≤ I491 0 4 ∧ I491 0 4 ≤ 8 from (hI491 0 4).1)
  have f528 := (show 0 ≤ I491 0 5 ∧ I491 0 5 ≤ 64 from (hI491 0 5).1)
  have f529 := (show (-1) ≤ I491 0 6 ∧ I491 0 6 ≤ 7 from (hI491 0 6).1)
  have f530 := (show 0 ≤ I491 0 42 ∧ I491 0 42 ≤ 2000 from (hI491 0 42).1)
  have f531 := (show 0 ≤ I491 0 59 ∧ I491 0 59 ≤ 2000 from (hI491 0 59).1)
  have f532 := (show 0 ≤ I491 0 64 ∧ I491 0 64 ≤ 2000 from (hI491 0 64).1)
  have f533 := (show 0 ≤ I491 0 3 ∧ I491 0 3 ≤ 96 from (hI491 0 3).1)
  have f534 := (show (-1) ≤ I491 0 77 ∧ I491 0 77 ≤ 1001 from (hI491 0 77).1)
  have KTM_I491 := gr_TM_fr KTM_I443 (fun k => g490 52 k rfl) (fun k => g490 53 k rfl) (fun k => g490 54 k rfl) (g490 0 64 rfl)
  have KVF_I491 := gr_VF_fr KVF_I443 (fun k => g490 14 k rfl) (fun k => g490 13 k rfl)
  have KGR_I491 := gr_GR_fr KGR_I443 (fun k => g490 19 k rfl) (fun k => g490 18 k rfl) (fun k => g490 36 k rfl) (fun k => g490 41 k rfl) (fun k => g490 42 k rfl) (fun k => g490 43 k rfl) (fun k => g490 45 k rfl) (fun k => g490 46 k rfl) (fun k => g490 47 k rfl) (fun k => g490 6 k rfl) (fun k => g490 7 k rfl) (fun k => g490 8 k rfl) (g490 0 3 rfl)
  have KTO_I491 := gr_TO_fr KTO_I443 (fun k => g490 52 k rfl) (fun k => g490 53 k rfl) (fun k => g490 54 k rfl) (fun k => g490 55 k rfl) (fun k => g490 6 k rfl) (g490 0 64 rfl) (g490 0 3 rfl)
  have KFM_I491 := gr_FM_fr KFM_I443 (fun k => g490 10 k rfl) (fun k => g490 55 k rfl) (fun k => g490 52 k rfl) (fun k => g490 53 k rfl) (fun k => g490 54 k rfl) (g490 0 64 rfl) (g490 0 3 rfl)
  have KRT_I491 := gr_RT8_fr KRT_I443 (fun k => g490 59 k rfl)
  have KST_I491 := gr_ST_fr KST_I443 (fun k => g490 6 k rfl) (fun k => g490 19 k rfl) (fun k => g490 18 k rfl) (fun k => g490 41 k rfl) (fun k => g490 36 k rfl) (g490 0 3 rfl)
  have KMQ_I491 := gr_MQ_fr KMQ_I443 (fun k => g490 10 k rfl) (fun k => g490 55 k rfl) (fun k => g490 52 k rfl) (fun k => g490 53 k rfl) (fun k => g490 54 k rfl) (fun k => g490 60 k rfl) (g490 0 64 rfl) (g490 0 3 rfl) (g490 0 99 rfl)
  have KLN_I491 : gr_LN B I491 := gr_LN_of KLE_I (fun k => (((((g490 19 k rfl).trans (p444 19 k (fun q => absurd q.1 (by decide)))).trans (p398 19 k (fun q => absurd q.1 (by decide)))).trans (g359 19 k rfl)).trans (g313 19 k rfl)).trans (p267 19 k (fun q => absurd q.1 (by decide)))) (by omega) (by omega)
  have A535 := q490.2.2.2.2.2
  rw [show I443 0 73 = 0 from by omega] at A535
  have t536 := gr_ATp_l A535
  obtain ⟨_, _, -, -, -, -⟩ := q490
  refine gv_callV hD rfl (As := []) (st := []) rfl (by decide) rfl rfl (gr_lV hws rfl) (Nat.le_of_ble_eq_true rfl) (gz_Ev_mono (d := 10) (by decide) E490) ?_
  show gv_X _ _ (27, [(0, .inr (.inr (some 0)))], [], gr_sh ++ ext, gr_h I491 J492)
  refine gv_run 2 true hD (pc' := 29) (lv' := [(1, .inl 0), (0, .inr (.inr (some 0)))]) (st' := []) (h' := gr_h I491 J492) (C := ((True ∧ True) ∧ True)) rfl ⟨⟨trivial, trivial⟩, trivial⟩ ?_
  refine gv_pick [1, 0] rfl ?_
  exact L29 _ I491 J492 0 0 (Nat.lt_succ_self _) hI491 FI491 FJ492 KTM_I491 KVF_I491 KLN_I491 KRT_I491 KGR_I491 KST_I491 KTO_I491 KFM_I491 KMQ_I491 (by omega) A535 (gs_M0_0 (gs_Ts_tr (gs_Ts_tr (gs_Ts_tr (gs_Ts_tr (gs_Ts_tr (gs_Ts_tr gs_Ts_rf (gs_TsX_st p267 rfl)) (gs_TsX_fr (m := [199]) g313 k313 rfl)) (gs_TsX_fr (m := [199]) g359 k359 rfl)) (gs_TsX_st p398 rfl)) (gs_TsX_st p444 rfl)) (gs_TsX_fr (m := [199]) g490 k490 rfl)) (by omega))
