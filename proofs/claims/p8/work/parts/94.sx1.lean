set_option maxHeartbeats 8000000 in
set_option maxRecDepth 100000 in
theorem r_module_p {ws0 : List Cond} {tb : String → gz_T} (hws : ∀ w ∈ gr_ws, w ∈ ws0) (htb : tb RX13 = gr_T) (ext : gz_Sh) (B : Int) (hB : B ≤ 1500) (β : Int → Int) (N9 : Int) (I : gr_I) (J : gr_J) (hI : gr_Inv I)   (x0 : I 0 59 + I 0 68 ≤ 1900) (x1 : I 0 42 + I 0 68 ≤ 1900) (x2 : I 0 64 + I 0 68 ≤ 1900) (x3 : I 0 100 ≤ 999999) (x4 : gs_TX β N9 (I 56)) (x5 : N9 = I 0 68) (x6 : gr_KW J) (x7 : gs_PDa I) (KTM_I : gr_TM I) (KVF_I : gr_VF I) (KLE_I : gr_LE B I) (KGR_I : gr_GR I) (KTO_I : gr_TO I) (KFM_I : gr_FM I) : ∃ r h', gz_Ev ws0 tb 101 (yX13_module, cX13_module, 2, (some .int)) [.inr (.inr (some 0))] (gr_sh ++ ext) (gr_h I J) r (gr_sh ++ ext) h' 0 0 ∧ (∃ (I' : gr_I) (J' : gr_J), h' = gr_h I' J' ∧ gr_Inv I' ∧ gr_fr [0, 1, 2, 3, 4, 5, 6, 42, 59, 64, 68, 69, 71, 72, 73, 74, 75, 76, 77, 78, 79, 99, 100, 101, 104, 106, 118, 119, 120, 122, 123] [1, 2, 3, 4, 5, 6, 7, 8, 9, 10, 11, 12, 13, 14, 15, 16, 17, 18, 19, 20, 21, 22, 23, 24, 25, 26, 27, 28, 29, 30, 31, 32, 33, 34, 35, 36, 37, 38, 39, 40, 41, 42, 43, 44, 45, 46, 47, 48, 49, 50, 51, 52, 53, 54, 55, 57, 59, 60, 61, 62, 63, 64, 65, 66, 67, 68, 69, 70, 71, 72, 73, 74, 75] I I' ∧ gr_fj [0, 1, 2, 3, 4, 5, 6, 42, 59, 64, 68, 69, 71, 72, 73, 74, 75, 76, 77, 78, 79, 99, 100, 101, 104, 106, 118, 119, 120, 122, 123] [1, 2, 3, 4, 5, 6, 7, 8, 9, 10, 11, 12, 13, 14, 15, 16, 17, 18, 19, 20, 21, 22, 23, 24, 25, 26, 27, 28, 29, 30, 31, 32, 33, 34, 35, 36, 37, 38, 39, 40, 41, 42, 43, 44, 45, 46, 47, 48, 49, 50, 51, 52, 53, 54, 55, 57, 59, 60, 61, 62, 63, 64, 65, 66, 67, 68, 69, 70, 71, 72, 73, 74, 75] J J' ∧ gr_TM I' ∧ gr_VF I' ∧ gr_LE B I' ∧ gr_GR I' ∧ gr_TO I' ∧ gr_FM I' ∧ (∃ z : Int, r = some (.inl z) ∧ (-1002) ≤ z ∧ z ≤ 1000 ∧ (I' 0 59 ≤ I 0 59 + I 0 68) ∧ (I' 0 42 ≤ I 0 42 + I 0 68) ∧ (I' 0 64 ≤ I 0 64 + I 0 68) ∧ (I' 0 68 = 0) ∧ (I' 0 100 = I 0 100 + 1 ∨ (I' 0 100 = I 0 100 ∧ z < 0)) ∧ (gr_ST I I') ∧ (gs_MD β N9 z I J I' J'))) := by
  have FI : gr_fr [0, 1, 2, 3, 4, 5, 6, 42, 59, 64, 68, 69, 71, 72, 73, 74, 75, 76, 77, 78, 79, 99, 100, 101, 104, 106, 118, 119, 120, 122, 123] [1, 2, 3, 4, 5, 6, 7, 8, 9, 10, 11, 12, 13, 14, 15, 16, 17, 18, 19, 20, 21, 22, 23, 24, 25, 26, 27, 28, 29, 30, 31, 32, 33, 34, 35, 36, 37, 38, 39, 40, 41, 42, 43, 44, 45, 46, 47, 48, 49, 50, 51, 52, 53, 54, 55, 57, 59, 60, 61, 62, 63, 64, 65, 66, 67, 68, 69, 70, 71, 72, 73, 74, 75] I I := fun _ _ _ => rfl
  have FJ : gr_fj [0, 1, 2, 3, 4, 5, 6, 42, 59, 64, 68, 69, 71, 72, 73, 74, 75, 76, 77, 78, 79, 99, 100, 101, 104, 106, 118, 119, 120, 122, 123] [1, 2, 3, 4, 5, 6, 7, 8, 9, 10, 11, 12, 13, 14, 15, 16, 17, 18, 19, 20, 21, 22, 23, 24, 25, 26, 27, 28, 29, 30, 31, 32, 33, 34, 35, 36, 37, 38, 39, 40, 41, 42, 43, 44, 45, 46, 47, 48, 49, 50, 51, 52, 53, 54, 55, 57, 59, 60, 61, 62, 63, 64, 65, 66, 67, 68, 69, 70, 71, 72, 73, 74, 75] J J := fun _ _ _ => rfl
  have hD : gv_D (gr_E ws0 tb 100 (yX13_module, cX13_module, 2, (some .int)) kX13_module) := gq_of oX13_module
  refine gr_ev (d := 100) (l := kX13_module) (Po := fun r h' => (∃ (I' : gr_I) (J' : gr_J), h' = gr_h I' J' ∧ gr_Inv I' ∧ gr_fr [0, 1, 2, 3, 4, 5, 6, 42, 59, 64, 68, 69, 71, 72, 73, 74, 75, 76, 77, 78, 79, 99, 100, 101, 104, 106, 118, 119, 120, 122, 123] [1, 2, 3, 4, 5, 6, 7, 8, 9, 10, 11, 12, 13, 14, 15, 16, 17, 18, 19, 20, 21, 22, 23, 24, 25, 26, 27, 28, 29, 30, 31, 32, 33, 34, 35, 36, 37, 38, 39, 40, 41, 42, 43, 44, 45, 46, 47, 48, 49, 50, 51, 52, 53, 54, 55, 57, 59, 60, 61, 62, 63, 64, 65, 66, 67, 68, 69, 70, 71, 72, 73, 74, 75] I I' ∧ gr_fj [0, 1, 2, 3, 4, 5, 6, 42, 59, 64, 68, 69, 71, 72, 73, 74, 75, 76, 77, 78, 79, 99, 100, 101, 104, 106, 118, 119, 120, 122, 123] [1, 2, 3, 4, 5, 6, 7, 8, 9, 10, 11, 12, 13, 14, 15, 16, 17, 18, 19, 20, 21, 22, 23, 24, 25, 26, 27, 28, 29, 30, 31, 32, 33, 34, 35, 36, 37, 38, 39, 40, 41, 42, 43, 44, 45, 46, 47, 48, 49, 50, 51, 52, 53, 54, 55, 57, 59, 60, 61, 62, 63, 64, 65, 66, 67, 68, 69, 70, 71, 72, 73, 74, 75] J J' ∧ gr_TM I' ∧ gr_VF I' ∧ gr_LE B I' ∧ gr_GR I' ∧ gr_TO I' ∧ gr_FM I' ∧ (∃ z : Int, r = some (.inl z) ∧ (-1002) ≤ z ∧ z ≤ 1000 ∧ (I' 0 59 ≤ I 0 59 + I 0 68) ∧ (I' 0 42 ≤ I 0 42 + I 0 68) ∧ (I' 0 64 ≤ I 0 64 + I 0 68) ∧ (I' 0 68 = 0) ∧ (I' 0 100 = I 0 100 + 1 ∨ (I' 0 100 = I 0 100 ∧ z < 0)) ∧ (gr_ST I I') ∧ (gs_MD β N9 z I J I' J')))) htb rfl (Nat.le_of_ble_eq_true rfl) ?_
  obtain ⟨I9, hI9⟩ : ∃ I9 : gr_I, I9 = I := ⟨I, rfl⟩
  have KW := x6
  have f1 := (gr_b_0_71 hI)
  have f2 := (gr_b_0_72 hI)
  have f3 := (gr_b_0_73 hI)
  have f4 := (gr_b_0_69 hI)
  have f5 := (gr_b_0_68 hI)
  have f6 := (gr_b_0_99 hI)
  have f7 := (gr_b_0_100 hI)
  have f8 := (gr_b_0_1 hI)
  have f9 := (gr_b_0_2 hI)
  have f10 := (gr_b_0_3 hI)
  have f11 := (gr_b_0_4 hI)
  have f12 := (gr_b_0_5 hI)
  have f13 := (gr_b_0_6 hI)
  have f14 := (gr_b_0_42 hI)
  have f15 := (gr_b_0_59 hI)
  have f16 := (gr_b_0_64 hI)
  have f17 := (gr_b_0_3 hI)
  have f18 := (gr_b_0_77 hI)
  have L29 : ∀ (n : Nat) (I19 : gr_I) (J20 : gr_J) (v1_21 : Int) (p_21 : Int), (1001 - I19 0 72).toNat < n → gr_Inv I19 → gr_fr [0, 1, 2, 3, 4, 5, 6, 42, 59, 64, 68, 69, 71, 72, 73, 74, 75, 76, 77, 78, 79, 99, 100, 101, 104, 106, 118, 119, 120, 122, 123] [1, 2, 3, 4, 5, 6, 7, 8, 9, 10, 11, 12, 13, 14, 15, 16, 17, 18, 19, 20, 21, 22, 23, 24, 25, 26, 27, 28, 29, 30, 31, 32, 33, 34, 35, 36, 37, 38, 39, 40, 41, 42, 43, 44, 45, 46, 47, 48, 49, 50, 51, 52, 53, 54, 55, 57, 59, 60, 61, 62, 63, 64, 65, 66, 67, 68, 69, 70, 71, 72, 73, 74, 75] I I19 → gr_fj [0, 1, 2, 3, 4, 5, 6, 42, 59, 64, 68, 69, 71, 72, 73, 74, 75, 76, 77, 78, 79, 99, 100, 101, 104, 106, 118, 119, 120, 122, 123] [1, 2, 3, 4, 5, 6, 7, 8, 9, 10, 11, 12, 13, 14, 15, 16, 17, 18, 19, 20, 21, 22, 23, 24, 25, 26, 27, 28, 29, 30, 31, 32, 33, 34, 35, 36, 37, 38, 39, 40, 41, 42, 43, 44, 45, 46, 47, 48, 49, 50, 51, 52, 53, 54, 55, 57, 59, 60, 61, 62, 63, 64, 65, 66, 67, 68, 69, 70, 71, 72, 73, 74, 75] J J20 → gr_TM I19 → gr_VF I19 → gr_LN B I19 → gr_RT8 I I19 → gr_GR I19 → gr_ST I9 I19 → gr_TO I19 → gr_FM I19 → gr_MQ I9 I19 → ((0 ≤ v1_21 ∧ v1_21 ≤ 1000) ∧ (I19 0 72 ≤ I19 0 69) ∧ (I19 0 72 ≤ I19 0 73) ∧ (I19 0 69 = I 0 68) ∧ (I19 0 68 = 0) ∧ (I19 0 100 = I 0 100) ∧ (v1_21 ≤ I19 0 72) ∧ (I 0 64 ≤ I19 0 64) ∧ (I19 0 99 ≤ I19 0 72) ∧ (I19 0 59 - I19 0 72 ≤ I 0 59) ∧ (I19 0 42 - I19 0 72 ≤ I 0 42) ∧ (I19 0 64 - I19 0 72 ≤ I 0 64) ∧ (I19 59 (Int.toNat 0) = I 0 1) ∧ (I19 59 (Int.toNat ((0 + 1))) = I 0 2) ∧ (I19 59 (Int.toNat (((0 + 1) + 1))) = I 0 3) ∧ (I19 59 (Int.toNat ((((0 + 1) + 1) + 1))) = I 0 4) ∧ (I19 59 (Int.toNat (((((0 + 1) + 1) + 1) + 1))) = I 0 5) ∧ (I19 59 (Int.toNat ((((((0 + 1) + 1) + 1) + 1) + 1))) = I 0 6) ∧ (I19 59 (Int.toNat (((((((0 + 1) + 1) + 1) + 1) + 1) + 1))) = I 0 42) ∧ (I19 59 (Int.toNat ((((((((0 + 1) + 1) + 1) + 1) + 1) + 1) + 1))) = I 0 59) ∧ (I19 59 (Int.toNat (((((((((0 + 1) + 1) + 1) + 1) + 1) + 1) + 1) + 1))) = I 0 64) ∧ (0 ≤ p_21)) → (gr_ATp β N9 p_21 I19 J20) → (gs_M0 β N9 v1_21 I J p_21 I19 J20) → gv_X (gr_E ws0 tb 100 (yX13_module, cX13_module, 2, (some .int)) kX13_module) (gv_Q cX13_module (some .int) (gr_sh ++ ext) (fun r h' => (∃ (I' : gr_I) (J' : gr_J), h' = gr_h I' J' ∧ gr_Inv I' ∧ gr_fr [0, 1, 2, 3, 4, 5, 6, 42, 59, 64, 68, 69, 71, 72, 73, 74, 75, 76, 77, 78, 79, 99, 100, 101, 104, 106, 118, 119, 120, 122, 123] [1, 2, 3, 4, 5, 6, 7, 8, 9, 10, 11, 12, 13, 14, 15, 16, 17, 18, 19, 20, 21, 22, 23, 24, 25, 26, 27, 28, 29, 30, 31, 32, 33, 34, 35, 36, 37, 38, 39, 40, 41, 42, 43, 44, 45, 46, 47, 48, 49, 50, 51, 52, 53, 54, 55, 57, 59, 60, 61, 62, 63, 64, 65, 66, 67, 68, 69, 70, 71, 72, 73, 74, 75] I I' ∧ gr_fj [0, 1, 2, 3, 4, 5, 6, 42, 59, 64, 68, 69, 71, 72, 73, 74, 75, 76, 77, 78, 79, 99, 100, 101, 104, 106, 118, 119, 120, 122, 123] [1, 2, 3, 4, 5, 6, 7, 8, 9, 10, 11, 12, 13, 14, 15, 16, 17, 18, 19, 20, 21, 22, 23, 24, 25, 26, 27, 28, 29, 30, 31, 32, 33, 34, 35, 36, 37, 38, 39, 40, 41, 42, 43, 44, 45, 46, 47, 48, 49, 50, 51, 52, 53, 54, 55, 57, 59, 60, 61, 62, 63, 64, 65, 66, 67, 68, 69, 70, 71, 72, 73, 74, 75] J J' ∧ gr_TM I' ∧ gr_VF I' ∧ gr_LE B I' ∧ gr_GR I' ∧ gr_TO I' ∧ gr_FM I' ∧ (∃ z : Int, r = some (.inl z) ∧ (-1002) ≤ z ∧ z ≤ 1000 ∧ (I' 0 59 ≤ I 0 59 + I 0 68) ∧ (I' 0 42 ≤ I 0 42 + I 0 68) ∧ (I' 0 64 ≤ I 0 64 + I 0 68) ∧ (I' 0 68 = 0) ∧ (I' 0 100 = I 0 100 + 1 ∨ (I' 0 100 = I 0 100 ∧ z < 0)) ∧ (gr_ST I I') ∧ (gs_MD β N9 z I J I' J'))))) (29, [(0, .inr (.inr (some 0))), (1, .inl v1_21)], [], gr_sh ++ ext, gr_h I19 J20) := by
    intro n
    induction n with
    | zero => intro I19 J20 v1_21 p_21 hn; exact gz_m 0 (by omega)
    | succ n ih29 =>
      intro I19 J20 v1_21 p_21 hn hI19 FI19 FJ20 KTM_I19 KVF_I19 KLN_I19 KRT_I19 KGR_I19 KST_I19 KTO_I19 KFM_I19 KMQ_I19 m_21 e21_21 e22_21
      obtain ⟨hv1_21, e0_21, e1_21, e2_21, e3_21, e4_21, e5_21, e6_21, e7_21, e8_21, e9_21, e10_21, e11_21, e12_21, e13_21, e14_21, e15_21, e16_21, e17_21, e18_21, e19_21, e20_21⟩ := m_21
      have f22 := (gr_b_0_71 hI19)
      have f23 := (gr_b_0_72 hI19)
      have f24 := (gr_b_0_73 hI19)
      have f25 := (gr_b_0_69 hI19)
      have f26 := (gr_b_0_68 hI19)
      have f27 := (gr_b_0_99 hI19)
      have f28 := (gr_b_0_100 hI19)
      have f29 := (gr_b_0_1 hI19)
      have f30 := (gr_b_0_2 hI19)
      have f31 := (gr_b_0_3 hI19)
      have f32 := (gr_b_0_4 hI19)
      have f33 := (gr_b_0_5 hI19)
      have f34 := (gr_b_0_6 hI19)
      have f35 := (gr_b_0_42 hI19)
      have f36 := (gr_b_0_59 hI19)
      have f37 := (gr_b_0_64 hI19)
      have f38 := (gr_b_0_3 hI19)
      have f39 := (gr_b_0_77 hI19)
      have t40 := gr_ATp_l e21_21
      have f41 := (gr_b_0_71 hI19)
      refine gv_run 2 true hD (pc' := 33) (lv' := [(0, .inr (.inr (some 0))), (1, .inl v1_21)]) (st' := [.inl (I19 0 71)]) (h' := gr_h I19 J20) (C := ((True ∧ True) ∧ True)) rfl ⟨⟨trivial, trivial⟩, trivial⟩ ?_
      refine gv_if_eq (t := 68) hD rfl rfl ⟨by exact gz_m 1 (by omega), by exact gz_m 2 (by omega)⟩ (fun c42 => ?_) (fun c42 => ?_)
      · have t43 := (gr_ATp_0 e21_21).mp (by exact gz_m 3 (by omega))
        refine gv_run 3 true hD (pc' := 73) (lv' := [(0, .inr (.inr (some 0))), (1, .inl v1_21)]) (st' := []) (h' := gz_up (gr_h I19 J20) 0 79 (.inl 0)) (C := (((True ∧ True) ∧ True) ∧ True)) rfl ⟨⟨⟨trivial, trivial⟩, trivial⟩, trivial⟩ ?_
        refine gr_st hI19 FI19 rfl rfl ⟨⟨by show 0 ≤ _; exact gz_m 4 (by omega), by show _ ≤ 6; exact gz_m 5 (by omega)⟩, trivial⟩ (fun I44 hI44 FI44 q45 p45 => ?_)
        have t46 := p45 0 71 (by decide)
        have t47 := p45 0 72 (by decide)
        have t48 := p45 0 73 (by decide)
        have t49 := p45 0 69 (by decide)
        have t50 := p45 0 68 (by decide)
        have t51 := p45 0 99 (by decide)
        have t52 := p45 0 100 (by decide)
        have t53 := p45 0 1 (by decide)
        have t54 := p45 0 2 (by decide)
        have t55 := p45 0 3 (by decide)
        have t56 := p45 0 4 (by decide)
        have t57 := p45 0 5 (by decide)
        have t58 := p45 0 6 (by decide)
        have t59 := p45 0 42 (by decide)
        have t60 := p45 0 59 (by decide)
        have t61 := p45 0 64 (by decide)
        have t62 := p45 0 3 (by decide)
        have t63 := p45 0 77 (by decide)
        have t64 := p45 59 (Int.toNat 0) (fun q => absurd q.1 (by decide))
        have t65 := p45 59 (Int.toNat ((0 + 1))) (fun q => absurd q.1 (by decide))
        have t66 := p45 59 (Int.toNat (((0 + 1) + 1))) (fun q => absurd q.1 (by decide))
        have t67 := p45 59 (Int.toNat ((((0 + 1) + 1) + 1))) (fun q => absurd q.1 (by decide))
        have t68 := p45 59 (Int.toNat (((((0 + 1) + 1) + 1) + 1))) (fun q => absurd q.1 (by decide))
        have t69 := p45 59 (Int.toNat ((((((0 + 1) + 1) + 1) + 1) + 1))) (fun q => absurd q.1 (by decide))
        have t70 := p45 59 (Int.toNat (((((((0 + 1) + 1) + 1) + 1) + 1) + 1))) (fun q => absurd q.1 (by decide))
        have t71 := p45 59 (Int.toNat ((((((((0 + 1) + 1) + 1) + 1) + 1) + 1) + 1))) (fun q => absurd q.1 (by decide))
        have t72 := p45 59 (Int.toNat (((((((((0 + 1) + 1) + 1) + 1) + 1) + 1) + 1) + 1))) (fun q => absurd q.1 (by decide))
        have f73 := (gr_b_0_71 hI44)
        have f74 := (gr_b_0_72 hI44)
        have f75 := (gr_b_0_73 hI44)
        have f76 := (gr_b_0_69 hI44)
        have f77 := (gr_b_0_68 hI44)
        have f78 := (gr_b_0_99 hI44)
        have f79 := (gr_b_0_100 hI44)
        have f80 := (gr_b_0_1 hI44)
        have f81 := (gr_b_0_2 hI44)
        have f82 := (gr_b_0_3 hI44)
        have f83 := (gr_b_0_4 hI44)
        have f84 := (gr_b_0_5 hI44)
        have f85 := (gr_b_0_6 hI44)
        have f86 := (gr_b_0_42 hI44)
        have f87 := (gr_b_0_59 hI44)
        have f88 := (gr_b_0_64 hI44)
        have f89 := (gr_b_0_3 hI44)
        have f90 := (gr_b_0_77 hI44)
        have KTM_I44 := gr_TM_fr KTM_I19 (fun k => p45 52 k (fun q => absurd q.1 (by decide))) (fun k => p45 53 k (fun q => absurd q.1 (by decide))) (fun k => p45 54 k (fun q => absurd q.1 (by decide))) (p45 0 64 (by decide))
        have KVF_I44 := gr_VF_fr KVF_I19 (fun k => p45 14 k (fun q => absurd q.1 (by decide))) (fun k => p45 13 k (fun q => absurd q.1 (by decide)))
        have KGR_I44 := gr_GR_fr KGR_I19 (fun k => p45 19 k (fun q => absurd q.1 (by decide))) (fun k => p45 18 k (fun q => absurd q.1 (by decide))) (fun k => p45 36 k (fun q => absurd q.1 (by decide))) (fun k => p45 41 k (fun q => absurd q.1 (by decide))) (fun k => p45 42 k (fun q => absurd q.1 (by decide))) (fun k => p45 43 k (fun q => absurd q.1 (by decide))) (fun k => p45 45 k (fun q => absurd q.1 (by decide))) (fun k => p45 46 k (fun q => absurd q.1 (by decide))) (fun k => p45 47 k (fun q => absurd q.1 (by decide))) (fun k => p45 6 k (fun q => absurd q.1 (by decide))) (fun k => p45 7 k (fun q => absurd q.1 (by decide))) (fun k => p45 8 k (fun q => absurd q.1 (by decide))) (p45 0 3 (by decide))
        have KTO_I44 := gr_TO_fr KTO_I19 (fun k => p45 52 k (fun q => absurd q.1 (by decide))) (fun k => p45 53 k (fun q => absurd q.1 (by decide))) (fun k => p45 54 k (fun q => absurd q.1 (by decide))) (fun k => p45 55 k (fun q => absurd q.1 (by decide))) (fun k => p45 6 k (fun q => absurd q.1 (by decide))) (p45 0 64 (by decide)) (p45 0 3 (by decide))
        have KFM_I44 := gr_FM_fr KFM_I19 (fun k => p45 10 k (fun q => absurd q.1 (by decide))) (fun k => p45 55 k (fun q => absurd q.1 (by decide))) (fun k => p45 52 k (fun q => absurd q.1 (by decide))) (fun k => p45 53 k (fun q => absurd q.1 (by decide))) (fun k => p45 54 k (fun q => absurd q.1 (by decide))) (p45 0 64 (by decide)) (p45 0 3 (by decide))
        have KLN_I44 := gr_LN_fr KLN_I19 (fun k => p45 19 k (fun q => absurd q.1 (by decide))) (by exact gz_m 6 (by omega)) (by exact gz_m 7 (by omega))
        have KRT_I44 := gr_RT8_fr KRT_I19 (fun k => p45 59 k (fun q => absurd q.1 (by decide)))
        have KST_I44 := gr_ST_fr KST_I19 (fun k => p45 6 k (fun q => absurd q.1 (by decide))) (fun k => p45 19 k (fun q => absurd q.1 (by decide))) (fun k => p45 18 k (fun q => absurd q.1 (by decide))) (fun k => p45 41 k (fun q => absurd q.1 (by decide))) (fun k => p45 36 k (fun q => absurd q.1 (by decide))) (p45 0 3 (by decide))
        have KMQ_I44 := gr_MQ_fr KMQ_I19 (fun k => p45 10 k (fun q => absurd q.1 (by decide))) (fun k => p45 55 k (fun q => absurd q.1 (by decide))) (fun k => p45 52 k (fun q => absurd q.1 (by decide))) (fun k => p45 53 k (fun q => absurd q.1 (by decide))) (fun k => p45 54 k (fun q => absurd q.1 (by decide))) (fun k => p45 60 k (fun q => absurd q.1 (by decide))) (p45 0 64 (by decide)) (p45 0 3 (by decide)) (p45 0 99 (by decide))
        have A91 := gr_ATp_sf e21_21 p45 rfl
        have f92 := (gr_b_0_100 hI44)
        refine gv_run 5 true hD (pc' := 80) (lv' := [(0, .inr (.inr (some 0))), (1, .inl v1_21)]) (st' := [.inl ((I44 0 100) + 1), .inr (.inr (some 0))]) (h' := gr_h I44 J20) (C := (((((True ∧ True) ∧ True) ∧ True) ∧ True) ∧ True)) rfl ⟨⟨⟨⟨⟨trivial, trivial⟩, trivial⟩, trivial⟩, trivial⟩, trivial⟩ ?_
        refine gv_run 1 true hD (pc' := 83) (lv' := [(0, .inr (.inr (some 0))), (1, .inl v1_21)]) (st' := []) (h' := gz_up (gr_h I44 J20) 0 100 (.inl (((I44 0 100) + 1)))) (C := (True ∧ True)) rfl ⟨trivial, trivial⟩ ?_
        refine gr_st hI44 FI44 rfl rfl ⟨⟨by show 0 ≤ _; exact gz_m 8 (by omega), by show _ ≤ 1000000; exact gz_m 9 (by omega)⟩, trivial⟩ (fun I93 hI93 FI93 q94 p94 => ?_)
        have t95 := p94 0 71 (by decide)
        have t96 := p94 0 72 (by decide)
        have t97 := p94 0 73 (by decide)
        have t98 := p94 0 69 (by decide)
        have t99 := p94 0 68 (by decide)
        have t100 := p94 0 99 (by decide)
        have t101 := p94 0 1 (by decide)
        have t102 := p94 0 2 (by decide)
        have t103 := p94 0 3 (by decide)
        have t104 := p94 0 4 (by decide)
        have t105 := p94 0 5 (by decide)
        have t106 := p94 0 6 (by decide)
        have t107 := p94 0 42 (by decide)
        have t108 := p94 0 59 (by decide)
        have t109 := p94 0 64 (by decide)
        have t110 := p94 0 3 (by decide)
        have t111 := p94 0 77 (by decide)
        have t112 := p94 59 (Int.toNat 0) (fun q => absurd q.1 (by decide))
        have t113 := p94 59 (Int.toNat ((0 + 1))) (fun q => absurd q.1 (by decide))
        have t114 := p94 59 (Int.toNat (((0 + 1) + 1))) (fun q => absurd q.1 (by decide))
        have t115 := p94 59 (Int.toNat ((((0 + 1) + 1) + 1))) (fun q => absurd q.1 (by decide))
        have t116 := p94 59 (Int.toNat (((((0 + 1) + 1) + 1) + 1))) (fun q => absurd q.1 (by decide))
        have t117 := p94 59 (Int.toNat ((((((0 + 1) + 1) + 1) + 1) + 1))) (fun q => absurd q.1 (by decide))
        have t118 := p94 59 (Int.toNat (((((((0 + 1) + 1) + 1) + 1) + 1) + 1))) (fun q => absurd q.1 (by decide))
        have t119 := p94 59 (Int.toNat ((((((((0 + 1) + 1) + 1) + 1) + 1) + 1) + 1))) (fun q => absurd q.1 (by decide))
        have t120 := p94 59 (Int.toNat (((((((((0 + 1) + 1) + 1) + 1) + 1) + 1) + 1) + 1))) (fun q => absurd q.1 (by decide))
        have f121 := (gr_b_0_71 hI93)
        have f122 := (gr_b_0_72 hI93)
        have f123 := (gr_b_0_73 hI93)
        have f124 := (gr_b_0_69 hI93)
        have f125 := (gr_b_0_68 hI93)
        have f126 := (gr_b_0_99 hI93)
        have f127 := (gr_b_0_100 hI93)
        have f128 := (gr_b_0_1 hI93)
        have f129 := (gr_b_0_2 hI93)
        have f130 := (gr_b_0_3 hI93)
        have f131 := (gr_b_0_4 hI93)
        have f132 := (gr_b_0_5 hI93)
        have f133 := (gr_b_0_6 hI93)
        have f134 := (gr_b_0_42 hI93)
        have f135 := (gr_b_0_59 hI93)
        have f136 := (gr_b_0_64 hI93)
        have f137 := (gr_b_0_3 hI93)
        have f138 := (gr_b_0_77 hI93)
        have KTM_I93 := gr_TM_fr KTM_I44 (fun k => p94 52 k (fun q => absurd q.1 (by decide))) (fun k => p94 53 k (fun q => absurd q.1 (by decide))) (fun k => p94 54 k (fun q => absurd q.1 (by decide))) (p94 0 64 (by decide))
        have KVF_I93 := gr_VF_fr KVF_I44 (fun k => p94 14 k (fun q => absurd q.1 (by decide))) (fun k => p94 13 k (fun q => absurd q.1 (by decide)))
        have KGR_I93 := gr_GR_fr KGR_I44 (fun k => p94 19 k (fun q => absurd q.1 (by decide))) (fun k => p94 18 k (fun q => absurd q.1 (by decide))) (fun k => p94 36 k (fun q => absurd q.1 (by decide))) (fun k => p94 41 k (fun q => absurd q.1 (by decide))) (fun k => p94 42 k (fun q => absurd q.1 (by decide))) (fun k => p94 43 k (fun q => absurd q.1 (by decide))) (fun k => p94 45 k (fun q => absurd q.1 (by decide))) (fun k => p94 46 k (fun q => absurd q.1 (by decide))) (fun k => p94 47 k (fun q => absurd q.1 (by decide))) (fun k => p94 6 k (fun q => absurd q.1 (by decide))) (fun k => p94 7 k (fun q => absurd q.1 (by decide))) (fun k => p94 8 k (fun q => absurd q.1 (by decide))) (p94 0 3 (by decide))
        have KTO_I93 := gr_TO_fr KTO_I44 (fun k => p94 52 k (fun q => absurd q.1 (by decide))) (fun k => p94 53 k (fun q => absurd q.1 (by decide))) (fun k => p94 54 k (fun q => absurd q.1 (by decide))) (fun k => p94 55 k (fun q => absurd q.1 (by decide))) (fun k => p94 6 k (fun q => absurd q.1 (by decide))) (p94 0 64 (by decide)) (p94 0 3 (by decide))
        have KFM_I93 := gr_FM_fr KFM_I44 (fun k => p94 10 k (fun q => absurd q.1 (by decide))) (fun k => p94 55 k (fun q => absurd q.1 (by decide))) (fun k => p94 52 k (fun q => absurd q.1 (by decide))) (fun k => p94 53 k (fun q => absurd q.1 (by decide))) (fun k => p94 54 k (fun q => absurd q.1 (by decide))) (p94 0 64 (by decide)) (p94 0 3 (by decide))
        have KLN_I93 := gr_LN_fr KLN_I44 (fun k => p94 19 k (fun q => absurd q.1 (by decide))) (by exact gz_m 10 (by omega)) (by exact gz_m 11 (by omega))
        have KRT_I93 := gr_RT8_fr KRT_I44 (fun k => p94 59 k (fun q => absurd q.1 (by decide)))
        have KST_I93 := gr_ST_fr KST_I44 (fun k => p94 6 k (fun q => absurd q.1 (by decide))) (fun k => p94 19 k (fun q => absurd q.1 (by decide))) (fun k => p94 18 k (fun q => absurd q.1 (by decide))) (fun k => p94 41 k (fun q => absurd q.1 (by decide))) (fun k => p94 36 k (fun q => absurd q.1 (by decide))) (p94 0 3 (by decide))
        have KMQ_I93 := gr_MQ_fr KMQ_I44 (fun k => p94 10 k (fun q => absurd q.1 (by decide))) (fun k => p94 55 k (fun q => absurd q.1 (by decide))) (fun k => p94 52 k (fun q => absurd q.1 (by decide))) (fun k => p94 53 k (fun q => absurd q.1 (by decide))) (fun k => p94 54 k (fun q => absurd q.1 (by decide))) (fun k => p94 60 k (fun q => absurd q.1 (by decide))) (p94 0 64 (by decide)) (p94 0 3 (by decide)) (p94 0 99 (by decide))
        have A139 := gr_ATp_sf A91 p94 rfl
        refine gv_run 1 true hD (pc' := 84) (lv' := [(0, .inr (.inr (some 0))), (1, .inl v1_21)]) (st' := [.inl v1_21]) (h' := gr_h I93 J20) (C := (True ∧ True)) rfl ⟨trivial, trivial⟩ ?_
        exact gv_iret hD rfl ⟨I93, J20, rfl, hI93, FI93, FJ20, KTM_I93, KVF_I93, gr_LE_of KLN_I93 (fun _ => rfl) (by exact gz_m 12 (by omega)) (by exact gz_m 13 (by omega)), KGR_I93, KTO_I93, KFM_I93, ⟨_, rfl, by exact gz_m 14 (by omega), by exact gz_m 15 (by omega), by exact gz_m 16 (by omega), by exact gz_m 17 (by omega), by exact gz_m 18 (by omega), by exact gz_m 19 (by omega), by exact gz_m 20 (by omega), (by rw [← hI9]; exact KST_I93), ⟨v1_21, p_21, I19, J20, by exact gz_m 21 (by omega), e22_21, Or.inl ⟨by exact gz_m 22 (by omega), rfl, (gs_Ts_tr (gs_Ts_tr gs_Ts_rf (gs_TsX_st p45 rfl)) (gs_TsX_st p94 rfl)), ⟨(gr_LKs_fr (gr_LKs_fr gr_LKs_rf (fun k => p45 51 k (fun q => absurd q.1 (by decide))) (p45 0 59 (by decide))) (fun k => p94 51 k (fun q => absurd q.1 (by decide))) (p94 0 59 (by decide))), (gr_PTs_fr (gr_PTs_fr gr_PTs_rf (fun k => p45 35 k (fun q => absurd q.1 (by decide))) (p45 0 42 (by decide))) (fun k => p94 35 k (fun q => absurd q.1 (by decide))) (p94 0 42 (by decide)))⟩⟩⟩⟩⟩
      · have t140 := gr_ATp_e0 e21_21 (by exact gz_m 23 (by omega))
        refine gv_run 1 true hD (pc' := 37) (lv' := [(0, .inr (.inr (some 0))), (1, .inl v1_21)]) (st' := [.inr (.inr (some 0))]) (h' := gr_h I19 J20) (C := (True ∧ True)) rfl ⟨trivial, trivial⟩ ?_
        obtain ⟨r141, h141, E141, P141⟩ := r_statement_p (ws0 := ws0) (tb := tb) hws htb ext B (by exact gz_m 24 (by omega)) I9 β N9 p_21 I19 J20 hI19   (gr_ATp_rr e21_21).1 (gr_ATp_rr e21_21).2.1 (gr_ATp_rr e21_21).2.2.1 (gr_ATp_rr e21_21).2.2.2.1 (gr_ATp_rr e21_21).2.2.2.2 (by exact gz_m 25 (by omega)) (by exact gz_m 26 (by omega)) (by exact gz_m 27 (by omega)) (by exact gz_m 28 (by omega)) (by rw [hI9]; exact gz_m 29 (by omega)) e21_21 (by exact gz_m 30 (by omega)) (fun k h1 h2 => (FJ20 0 k (gs_kwF h1 h2 rfl)).trans (KW k h1 h2)) (gs_PDa_M0 x7 e22_21) KTM_I19 KVF_I19 KLN_I19 KGR_I19 KST_I19 KTO_I19 KFM_I19 KMQ_I19
        obtain ⟨I142, J143, rfl, hI142, g141, k141, KTM_I142, KVF_I142, KLN_I142, KGR_I142, KST_I142, KTO_I142, KFM_I142, KMQ_I142, ⟨z141, rfl, q141⟩⟩ := P141
        have FI142 := gr_frt FI19 g141 rfl rfl
        have FJ143 := gr_fjt FJ20 k141 rfl rfl
        have t144 := g141 0 69 rfl
        have t145 := g141 0 68 rfl
        have t146 := g141 0 100 rfl
        have t147 := g141 59 (Int.toNat 0) rfl
        have t148 := g141 59 (Int.toNat ((0 + 1))) rfl
        have t149 := g141 59 (Int.toNat (((0 + 1) + 1))) rfl
        have t150 := g141 59 (Int.toNat ((((0 + 1) + 1) + 1))) rfl
        have t151 := g141 59 (Int.toNat (((((0 + 1) + 1) + 1) + 1))) rfl
        have t152 := g141 59 (Int.toNat ((((((0 + 1) + 1) + 1) + 1) + 1))) rfl
        have t153 := g141 59 (Int.toNat (((((((0 + 1) + 1) + 1) + 1) + 1) + 1))) rfl
        have t154 := g141 59 (Int.toNat ((((((((0 + 1) + 1) + 1) + 1) + 1) + 1) + 1))) rfl
        have t155 := g141 59 (Int.toNat (((((((((0 + 1) + 1) + 1) + 1) + 1) + 1) + 1) + 1))) rfl
        have f156 := (gr_b_0_71 hI142)
        have f157 := (gr_b_0_72 hI142)
        have f158 := (gr_b_0_73 hI142)
        have f159 := (gr_b_0_69 hI142)
        have f160 := (gr_b_0_68 hI142)
        have f161 := (gr_b_0_99 hI142)
        have f162 := (gr_b_0_100 hI142)
        have f163 := (gr_b_0_1 hI142)
        have f164 := (gr_b_0_2 hI142)
        have f165 := (gr_b_0_3 hI142)
        have f166 := (gr_b_0_4 hI142)
        have f167 := (gr_b_0_5 hI142)
        have f168 := (gr_b_0_6 hI142)
        have f169 := (gr_b_0_42 hI142)
        have f170 := (gr_b_0_59 hI142)
        have f171 := (gr_b_0_64 hI142)
        have f172 := (gr_b_0_3 hI142)
        have f173 := (gr_b_0_77 hI142)
        have KRT_I142 := gr_RT8_fr KRT_I19 (fun k => g141 59 k rfl)
        have l141 := q141.2.2.2.2.2.2.2.2.2.2.2.2.2.2.2.2.1
        have m141 := q141.2.2.2.2.2.2.2.2.2.2.2.2.2.2.2.2.2.1
        refine gv_callV hD rfl (As := []) (st := []) rfl (by decide) rfl rfl (gr_lV hws rfl) (Nat.le_of_ble_eq_true rfl) (gz_Ev_mono (d := 100) (by decide) E141) ?_
        show gv_X _ _ (40, [(0, .inr (.inr (some 0))), (1, .inl v1_21)], [.inl z141], gr_sh ++ ext, gr_h I142 J143)
        refine gv_if_ne (t := 62) hD rfl rfl ⟨by exact gz_m 31 (by omega), by exact gz_m 32 (by omega)⟩ (fun c174 => ?_) (fun c174 => ?_)
        · obtain ⟨y175, S175⟩ := gs_or1 q141.2.2.2.2.2.2.2.2.2.2.2.2.2.2.2.2.2.2 (by exact gz_m 33 (by omega))
          have S175_ := S175
          obtain ⟨_, _, _, _, w175, A175, _⟩ := S175_
          have t176 := gr_ATp_l A175
          have t177 := (q141.2.2.2.2.2.2.2.2.2.2.2.2.2.2.2.1).resolve_left (by exact gz_m 34 (by omega))
          obtain ⟨_, _, -, _, -, -, _, _, _, _, _, _, _, _, _, -, _, _, -⟩ := q141
          refine gv_run 2 true hD (pc' := 29) (lv' := [(1, .inl (v1_21 + 1)), (0, .inr (.inr (some 0)))]) (st' := []) (h' := gr_h I142 J143) (C := ((True ∧ True) ∧ True)) rfl ⟨⟨trivial, trivial⟩, trivial⟩ ?_
          refine gv_pick [1, 0] rfl ?_
          exact ih29 I142 J143 (v1_21 + 1) y175 (by exact gz_m 35 (by omega)) hI142 FI142 FJ143 KTM_I142 KVF_I142 KLN_I142 KRT_I142 KGR_I142 KST_I142 KTO_I142 KFM_I142 KMQ_I142 (by exact gz_m 36 (by omega)) A175 (gs_M0_s e22_21 (by exact gz_m 37 (by omega)) (by exact gz_m 38 (by omega)) S175)
        · have S178 := gs_or0 q141.2.2.2.2.2.2.2.2.2.2.2.2.2.2.2.2.2.2 (by exact gz_m 39 (by omega))
          refine gv_run 1 true hD (pc' := 44) (lv' := [(0, .inr (.inr (some 0))), (1, .inl v1_21)]) (st' := [.inr (.inr (some 0))]) (h' := gr_h I142 J143) (C := (True ∧ True)) rfl ⟨trivial, trivial⟩ ?_
          obtain ⟨r179, h179, E179, P179⟩ := r_forget_p (ws0 := ws0) (tb := tb) hws htb ext I142 J143 hI142   (by exact gz_m 40 (by omega)) (by exact gz_m 41 (by omega)) (by exact gz_m 42 (by omega)) (by exact gz_m 43 (by omega)) (by exact gz_m 44 (by omega)) (by exact gz_m 45 (by omega)) (by exact gz_m 46 (by omega)) (by exact gz_m 47 (by omega)) (by exact gz_m 48 (by omega)) (by exact gz_m 49 (by omega)) (gr_HT_of KRT_I142 hI) KTM_I142
          obtain ⟨I180, J181, rfl, hI180, g179, k179, KTM_I180, ⟨rfl, q179⟩⟩ := P179
          have FI180 := gr_frt FI142 g179 rfl rfl
          have FJ181 := gr_fjt FJ143 k179 rfl rfl
          have t182 := g179 0 71 rfl
          have t183 := g179 0 72 rfl
          have t184 := g179 0 73 rfl
          have t185 := g179 0 69 rfl
          have t186 := g179 0 68 rfl
          have t187 := g179 0 99 rfl
          have t188 := g179 0 100 rfl
          have t189 := g179 0 77 rfl
          have t190 := g179 59 (Int.toNat 0) rfl
          have t191 := g179 59 (Int.toNat ((0 + 1))) rfl
          have t192 := g179 59 (Int.toNat (((0 + 1) + 1))) rfl
          have t193 := g179 59 (Int.toNat ((((0 + 1) + 1) + 1))) rfl
          have t194 := g179 59 (Int.toNat (((((0 + 1) + 1) + 1) + 1))) rfl
          have t195 := g179 59 (Int.toNat ((((((0 + 1) + 1) + 1) + 1) + 1))) rfl
          have t196 := g179 59 (Int.toNat (((((((0 + 1) + 1) + 1) + 1) + 1) + 1))) rfl
          have t197 := g179 59 (Int.toNat ((((((((0 + 1) + 1) + 1) + 1) + 1) + 1) + 1))) rfl
          have t198 := g179 59 (Int.toNat (((((((((0 + 1) + 1) + 1) + 1) + 1) + 1) + 1) + 1))) rfl
          have f199 := (gr_b_0_71 hI180)
          have f200 := (gr_b_0_72 hI180)
          have f201 := (gr_b_0_73 hI180)
          have f202 := (gr_b_0_69 hI180)
          have f203 := (gr_b_0_68 hI180)
          have f204 := (gr_b_0_99 hI180)
          have f205 := (gr_b_0_100 hI180)
          have f206 := (gr_b_0_1 hI180)
          have f207 := (gr_b_0_2 hI180)
          have f208 := (gr_b_0_3 hI180)
          have f209 := (gr_b_0_4 hI180)
          have f210 := (gr_b_0_5 hI180)
          have f211 := (gr_b_0_6 hI180)
          have f212 := (gr_b_0_42 hI180)
          have f213 := (gr_b_0_59 hI180)
          have f214 := (gr_b_0_64 hI180)
          have f215 := (gr_b_0_3 hI180)
          have f216 := (gr_b_0_77 hI180)
          have KRT_I180 := gr_RT8_fr KRT_I142 (fun k => g179 59 k rfl)
          refine gv_callV hD rfl (As := []) (st := []) rfl (by decide) rfl rfl (gr_lV hws rfl) (Nat.le_of_ble_eq_true rfl) (gz_Ev_mono (d := 1) (by decide) E179) ?_
          show gv_X _ _ (47, [(0, .inr (.inr (some 0))), (1, .inl v1_21)], [], gr_sh ++ ext, gr_h I180 J181)
          have f217 := (gr_b_0_76 hI180)
          refine gv_run 3 true hD (pc' := 52) (lv' := [(0, .inr (.inr (some 0))), (1, .inl v1_21)]) (st' := [.inl (I180 0 76), .inr (.inr (some 0))]) (h' := gr_h I180 J181) (C := (((True ∧ True) ∧ True) ∧ True)) rfl ⟨⟨⟨trivial, trivial⟩, trivial⟩, trivial⟩ ?_
          refine gv_run 1 true hD (pc' := 55) (lv' := [(0, .inr (.inr (some 0))), (1, .inl v1_21)]) (st' := []) (h' := gz_up (gr_h I180 J181) 0 79 (.inl (I180 0 76))) (C := (True ∧ True)) rfl ⟨trivial, trivial⟩ ?_
          refine gr_st hI180 FI180 rfl rfl ⟨⟨by show 0 ≤ _; exact gz_m 50 (by omega), by show _ ≤ 6; exact gz_m 51 (by omega)⟩, trivial⟩ (fun I218 hI218 FI218 q219 p219 => ?_)
          have t220 := p219 0 71 (by decide)
          have t221 := p219 0 72 (by decide)
          have t222 := p219 0 73 (by decide)
          have t223 := p219 0 69 (by decide)
          have t224 := p219 0 68 (by decide)
          have t225 := p219 0 99 (by decide)
          have t226 := p219 0 100 (by decide)
          have t227 := p219 0 1 (by decide)
          have t228 := p219 0 2 (by decide)
          have t229 := p219 0 3 (by decide)
          have t230 := p219 0 4 (by decide)
          have t231 := p219 0 5 (by decide)
          have t232 := p219 0 6 (by decide)
          have t233 := p219 0 42 (by decide)
          have t234 := p219 0 59 (by decide)
          have t235 := p219 0 64 (by decide)
          have t236 := p219 0 3 (by decide)
          have t237 := p219 0 77 (by decide)
          have t238 := p219 59 (Int.toNat 0) (fun q => absurd q.1 (by decide))
          have t239 := p219 59 (Int.toNat ((0 + 1))) (fun q => absurd q.1 (by decide))
          have t240 := p219 59 (Int.toNat (((0 + 1) + 1))) (fun q => absurd q.1 (by decide))
          have t241 := p219 59 (Int.toNat ((((0 + 1) + 1) + 1))) (fun q => absurd q.1 (by decide))
          have t242 := p219 59 (Int.toNat (((((0 + 1) + 1) + 1) + 1))) (fun q => absurd q.1 (by decide))
          have t243 := p219 59 (Int.toNat ((((((0 + 1) + 1) + 1) + 1) + 1))) (fun q => absurd q.1 (by decide))
          have t244 := p219 59 (Int.toNat (((((((0 + 1) + 1) + 1) + 1) + 1) + 1))) (fun q => absurd q.1 (by decide))
          have t245 := p219 59 (Int.toNat ((((((((0 + 1) + 1) + 1) + 1) + 1) + 1) + 1))) (fun q => absurd q.1 (by decide))
          have t246 := p219 59 (Int.toNat (((((((((0 + 1) + 1) + 1) + 1) + 1) + 1) + 1) + 1))) (fun q => absurd q.1 (by decide))
          have f247 := (gr_b_0_71 hI218)
          have f248 := (gr_b_0_72 hI218)
          have f249 := (gr_b_0_73 hI218)
          have f250 := (gr_b_0_69 hI218)
          have f251 := (gr_b_0_68 hI218)
          have f252 := (gr_b_0_99 hI218)
          have f253 := (gr_b_0_100 hI218)
          have f254 := (gr_b_0_1 hI218)
          have f255 := (gr_b_0_2 hI218)
          have f256 := (gr_b_0_3 hI218)
          have f257 := (gr_b_0_4 hI218)
          have f258 := (gr_b_0_5 hI218)
          have f259 := (gr_b_0_6 hI218)
          have f260 := (gr_b_0_42 hI218)
          have f261 := (gr_b_0_59 hI218)
          have f262 := (gr_b_0_64 hI218)
          have f263 := (gr_b_0_3 hI218)
          have f264 := (gr_b_0_77 hI218)
          have KTM_I218 := gr_TM_fr KTM_I180 (fun k => p219 52 k (fun q => absurd q.1 (by decide))) (fun k => p219 53 k (fun q => absurd q.1 (by decide))) (fun k => p219 54 k (fun q => absurd q.1 (by decide))) (p219 0 64 (by decide))
          have KRT_I218 := gr_RT8_fr KRT_I180 (fun k => p219 59 k (fun q => absurd q.1 (by decide)))
          have f265 := (gr_b_0_77 hI218)
          refine gv_run 4 true hD (pc' := 61) (lv' := [(0, .inr (.inr (some 0))), (1, .inl v1_21)]) (st' := [.inl ((-1) - (I218 0 77))]) (h' := gr_h I218 J181) (C := ((((True ∧ True) ∧ True) ∧ True) ∧ True)) rfl ⟨⟨⟨⟨trivial, trivial⟩, trivial⟩, trivial⟩, trivial⟩ ?_
          exact gv_iret hD rfl ⟨I218, J181, rfl, hI218, FI218, FJ181, KTM_I218, (gr_VF_back KVF_I KRT_I142 q179.2.2.2.2.2.2.2.2.2.1 (fun a k h => by rw [p219 a k (fun q => h q.1)])), (gr_LE_back KLE_I KRT_I142 q179.2.2.2.2.2.2.2.2.2.1 (fun a k h => by rw [p219 a k (fun q => h q.1)]) (by exact gz_m 52 (by omega))), (gr_GR_back KGR_I KGR_I142 (by rw [← hI9]; exact KST_I142) KRT_I142 q179.2.2.2.2.2.2.2.2.2.1 (fun k => g179 36 k rfl) (fun k => g179 41 k rfl) (fun k => g179 42 k rfl) (fun k => g179 43 k rfl) (fun k => g179 45 k rfl) (fun k => g179 46 k rfl) (fun k => g179 47 k rfl) (fun k => g179 6 k rfl) (fun k => g179 7 k rfl) (fun k => g179 8 k rfl) (fun a k h => by rw [p219 a k (fun q => h q.1)]) (by exact gz_m 53 (by omega))).1, (gr_TO_back KTO_I KTM_I hI (show gr_TS9 I I142 from by rw [← hI9]; exact KMQ_I142.1.2) (fun k => (p219 55 k (fun q => absurd q.1 (by decide))).trans (g179 55 k rfl)) (fun k => (p219 52 k (fun q => absurd q.1 (by decide))).trans (g179 52 k rfl)) (fun k => (p219 53 k (fun q => absurd q.1 (by decide))).trans (g179 53 k rfl)) (fun k => (p219 54 k (fun q => absurd q.1 (by decide))).trans (g179 54 k rfl)) (gr_GR_back KGR_I KGR_I142 (by rw [← hI9]; exact KST_I142) KRT_I142 q179.2.2.2.2.2.2.2.2.2.1 (fun k => g179 36 k rfl) (fun k => g179 41 k rfl) (fun k => g179 42 k rfl) (fun k => g179 43 k rfl) (fun k => g179 45 k rfl) (fun k => g179 46 k rfl) (fun k => g179 47 k rfl) (fun k => g179 6 k rfl) (fun k => g179 7 k rfl) (fun k => g179 8 k rfl) (fun a k h => by rw [p219 a k (fun q => h q.1)]) (by exact gz_m 54 (by omega))).2.1.2 (by exact gz_m 55 (by omega)) (by exact gz_m 56 (by omega))), (gr_FM_back (I9 := I) KFM_I142 (by rw [← hI9]; exact KMQ_I142) q179.2.2.2.2.2.2.2.2.2.2 (fun k => p219 10 k (fun q => absurd q.1 (by decide))) (fun k => (p219 55 k (fun q => absurd q.1 (by decide))).trans (g179 55 k rfl)) (by exact gz_m 57 (by omega)) (by have h9 := KST_I142.1.1; rw [hI9] at h9; exact gz_m 58 (by omega))), ⟨_, rfl, by exact gz_m 59 (by omega), by exact gz_m 60 (by omega), by exact gz_m 61 (by omega), by exact gz_m 62 (by omega), by exact gz_m 63 (by omega), by exact gz_m 64 (by omega), (Or.inr ⟨by exact gz_m 65 (by omega), by obtain ⟨I3, J3, s1, s2, s3, s4, s5⟩ := S178; exact gz_m 66 (by omega)⟩), (gr_GR_back KGR_I KGR_I142 (by rw [← hI9]; exact KST_I142) KRT_I142 q179.2.2.2.2.2.2.2.2.2.1 (fun k => g179 36 k rfl) (fun k => g179 41 k rfl) (fun k => g179 42 k rfl) (fun k => g179 43 k rfl) (fun k => g179 45 k rfl) (fun k => g179 46 k rfl) (fun k => g179 47 k rfl) (fun k => g179 6 k rfl) (fun k => g179 7 k rfl) (fun k => g179 8 k rfl) (fun a k h => by rw [p219 a k (fun q => h q.1)]) (by exact gz_m 67 (by omega))).2, (by obtain ⟨I3, J3, s1, s2, s3, s4, s5⟩ := S178; exact ⟨_, p_21, I19, J20, by exact gz_m 68 (by omega), e22_21, Or.inr ⟨by exact gz_m 69 (by omega), I3, J3, I142, J143, s1, s2, by exact gz_m 70 (by omega), s4, s5, (gs_BK_mk (J3 := J143) ⟨by exact gz_m 71 (by omega), by exact gz_m 72 (by omega), by exact gz_m 73 (by omega), by exact gz_m 74 (by omega), by exact gz_m 75 (by omega), by exact gz_m 76 (by omega)⟩ KRT_I142 q179.2.2.2.2.2.2.2.2.2.1 q179.2.2.2.2.2.2.2.2.2.2 q179.1.2 (fun a j ha => by rw [p219 a j (fun q => ha q.1)]) (gs_Ts_tr (gs_TsX_fr (m := [101, 102, 103, 104, 105, 106, 13, 14, 15, 16, 17, 18, 19, 10]) g179 k179 rfl) (gs_TsX_st p219 rfl)) ⟨⟨by exact gz_m 77 (by omega), fun j => ((p219 51 j (fun q => absurd q.1 (by decide))).trans (g179 51 j rfl))⟩, ⟨by exact gz_m 78 (by omega), fun j => ((p219 35 j (fun q => absurd q.1 (by decide))).trans (g179 35 j rfl))⟩⟩)⟩⟩)⟩⟩
  refine gv_run 3 true hD (pc' := 5) (lv' := [(0, .inr (.inr (some 0)))]) (st' := []) (h' := gz_up (gr_h I J) 0 0 (.inl 0)) (C := (((True ∧ True) ∧ True) ∧ True)) rfl ⟨⟨⟨trivial, trivial⟩, trivial⟩, trivial⟩ ?_
  refine gr_st hI FI rfl rfl ⟨⟨by show 0 ≤ _; exact gz_m 79 (by omega), by show _ ≤ 2; exact gz_m 80 (by omega)⟩, trivial⟩ (fun I266 hI266 FI266 q267 p267 => ?_)
  have t268 := p267 0 71 (by decide)
  have t269 := p267 0 72 (by decide)
  have t270 := p267 0 73 (by decide)
  have t271 := p267 0 69 (by decide)
  have t272 := p267 0 68 (by decide)
  have t273 := p267 0 99 (by decide)
  have t274 := p267 0 100 (by decide)
  have t275 := p267 0 1 (by decide)
  have t276 := p267 0 2 (by decide)
  have t277 := p267 0 3 (by decide)
  have t278 := p267 0 4 (by decide)
  have t279 := p267 0 5 (by decide)
  have t280 := p267 0 6 (by decide)
  have t281 := p267 0 42 (by decide)
  have t282 := p267 0 59 (by decide)
  have t283 := p267 0 64 (by decide)
  have t284 := p267 0 3 (by decide)
  have t285 := p267 0 77 (by decide)
  have t286 := p267 59 (Int.toNat 0) (fun q => absurd q.1 (by decide))
  have t287 := p267 59 (Int.toNat ((0 + 1))) (fun q => absurd q.1 (by decide))
  have t288 := p267 59 (Int.toNat (((0 + 1) + 1))) (fun q => absurd q.1 (by decide))
  have t289 := p267 59 (Int.toNat ((((0 + 1) + 1) + 1))) (fun q => absurd q.1 (by decide))
  have t290 := p267 59 (Int.toNat (((((0 + 1) + 1) + 1) + 1))) (fun q => absurd q.1 (by decide))
  have t291 := p267 59 (Int.toNat ((((((0 + 1) + 1) + 1) + 1) + 1))) (fun q => absurd q.1 (by decide))
  have t292 := p267 59 (Int.toNat (((((((0 + 1) + 1) + 1) + 1) + 1) + 1))) (fun q => absurd q.1 (by decide))
  have t293 := p267 59 (Int.toNat ((((((((0 + 1) + 1) + 1) + 1) + 1) + 1) + 1))) (fun q => absurd q.1 (by decide))
  have t294 := p267 59 (Int.toNat (((((((((0 + 1) + 1) + 1) + 1) + 1) + 1) + 1) + 1))) (fun q => absurd q.1 (by decide))
  have f295 := (gr_b_0_71 hI266)
  have f296 := (gr_b_0_72 hI266)
  have f297 := (gr_b_0_73 hI266)
  have f298 := (gr_b_0_69 hI266)
  have f299 := (gr_b_0_68 hI266)
  have f300 := (gr_b_0_99 hI266)
  have f301 := (gr_b_0_100 hI266)
  have f302 := (gr_b_0_1 hI266)
  have f303 := (gr_b_0_2 hI266)
  have f304 := (gr_b_0_3 hI266)
  have f305 := (gr_b_0_4 hI266)
  have f306 := (gr_b_0_5 hI266)
  have f307 := (gr_b_0_6 hI266)
  have f308 := (gr_b_0_42 hI266)
  have f309 := (gr_b_0_59 hI266)
  have f310 := (gr_b_0_64 hI266)
  have f311 := (gr_b_0_3 hI266)
  have f312 := (gr_b_0_77 hI266)
  have KTM_I266 := gr_TM_fr KTM_I (fun k => p267 52 k (fun q => absurd q.1 (by decide))) (fun k => p267 53 k (fun q => absurd q.1 (by decide))) (fun k => p267 54 k (fun q => absurd q.1 (by decide))) (p267 0 64 (by decide))
  have KVF_I266 := gr_VF_fr KVF_I (fun k => p267 14 k (fun q => absurd q.1 (by decide))) (fun k => p267 13 k (fun q => absurd q.1 (by decide)))
  have KLE_I266 := gr_LE_fr KLE_I (fun k => p267 19 k (fun q => absurd q.1 (by decide))) (p267 0 68 (by decide))
  have KGR_I266 := gr_GR_fr KGR_I (fun k => p267 19 k (fun q => absurd q.1 (by decide))) (fun k => p267 18 k (fun q => absurd q.1 (by decide))) (fun k => p267 36 k (fun q => absurd q.1 (by decide))) (fun k => p267 41 k (fun q => absurd q.1 (by decide))) (fun k => p267 42 k (fun q => absurd q.1 (by decide))) (fun k => p267 43 k (fun q => absurd q.1 (by decide))) (fun k => p267 45 k (fun q => absurd q.1 (by decide))) (fun k => p267 46 k (fun q => absurd q.1 (by decide))) (fun k => p267 47 k (fun q => absurd q.1 (by decide))) (fun k => p267 6 k (fun q => absurd q.1 (by decide))) (fun k => p267 7 k (fun q => absurd q.1 (by decide))) (fun k => p267 8 k (fun q => absurd q.1 (by decide))) (p267 0 3 (by decide))
  have KTO_I266 := gr_TO_fr KTO_I (fun k => p267 52 k (fun q => absurd q.1 (by decide))) (fun k => p267 53 k (fun q => absurd q.1 (by decide))) (fun k => p267 54 k (fun q => absurd q.1 (by decide))) (fun k => p267 55 k (fun q => absurd q.1 (by decide))) (fun k => p267 6 k (fun q => absurd q.1 (by decide))) (p267 0 64 (by decide)) (p267 0 3 (by decide))
  have KFM_I266 := gr_FM_fr KFM_I (fun k => p267 10 k (fun q => absurd q.1 (by decide))) (fun k => p267 55 k (fun q => absurd q.1 (by decide))) (fun k => p267 52 k (fun q => absurd q.1 (by decide))) (fun k => p267 53 k (fun q => absurd q.1 (by decide))) (fun k => p267 54 k (fun q => absurd q.1 (by decide))) (p267 0 64 (by decide)) (p267 0 3 (by decide))
  refine gv_run 1 true hD (pc' := 6) (lv' := [(0, .inr (.inr (some 0)))]) (st' := [.inr (.inr (some 0))]) (h' := gr_h I266 J) (C := (True ∧ True)) rfl ⟨trivial, trivial⟩ ?_
  obtain ⟨r313, h313, E313, P313⟩ := r_reads_p (ws0 := ws0) (tb := tb) hws htb ext I266 J hI266   
  obtain ⟨I314, J315, rfl, hI314, g313, k313, ⟨rfl, q313⟩⟩ := P313
  have FI314 := gr_frt FI266 g313 rfl rfl
  have FJ315 := gr_fjt FJ k313 rfl rfl
  have t316 := g313 0 71 rfl
  have t317 := g313 0 72 rfl
  have t318 := g313 0 73 rfl
  have t319 := g313 0 99 rfl
  have t320 := g313 0 100 rfl
  have t321 := g313 0 1 rfl
  have t322 := g313 0 2 rfl
  have t323 := g313 0 3 rfl
  have t324 := g313 0 4 rfl
  have t325 := g313 0 5 rfl
  have t326 := g313 0 6 rfl
  have t327 := g313 0 42 rfl
  have t328 := g313 0 59 rfl
  have t329 := g313 0 64 rfl
  have t330 := g313 0 3 rfl
  have t331 := g313 0 77 rfl
  have t332 := g313 59 (Int.toNat 0) rfl
  have t333 := g313 59 (Int.toNat ((0 + 1))) rfl
  have t334 := g313 59 (Int.toNat (((0 + 1) + 1))) rfl
  have t335 := g313 59 (Int.toNat ((((0 + 1) + 1) + 1))) rfl
  have t336 := g313 59 (Int.toNat (((((0 + 1) + 1) + 1) + 1))) rfl
  have t337 := g313 59 (Int.toNat ((((((0 + 1) + 1) + 1) + 1) + 1))) rfl
  have t338 := g313 59 (Int.toNat (((((((0 + 1) + 1) + 1) + 1) + 1) + 1))) rfl
  have t339 := g313 59 (Int.toNat ((((((((0 + 1) + 1) + 1) + 1) + 1) + 1) + 1))) rfl
  have t340 := g313 59 (Int.toNat (((((((((0 + 1) + 1) + 1) + 1) + 1) + 1) + 1) + 1))) rfl
  have f341 := (gr_b_0_71 hI314)
  have f342 := (gr_b_0_72 hI314)
  have f343 := (gr_b_0_73 hI314)
  have f344 := (gr_b_0_69 hI314)
  have f345 := (gr_b_0_68 hI314)
  have f346 := (gr_b_0_99 hI314)
  have f347 := (gr_b_0_100 hI314)
  have f348 := (gr_b_0_1 hI314)
  have f349 := (gr_b_0_2 hI314)
  have f350 := (gr_b_0_3 hI314)
  have f351 := (gr_b_0_4 hI314)
  have f352 := (gr_b_0_5 hI314)
  have f353 := (gr_b_0_6 hI314)
  have f354 := (gr_b_0_42 hI314)
  have f355 := (gr_b_0_59 hI314)
  have f356 := (gr_b_0_64 hI314)
  have f357 := (gr_b_0_3 hI314)
  have f358 := (gr_b_0_77 hI314)
  have KTM_I314 := gr_TM_fr KTM_I266 (fun k => g313 52 k rfl) (fun k => g313 53 k rfl) (fun k => g313 54 k rfl) (g313 0 64 rfl)
  have KVF_I314 := gr_VF_fr KVF_I266 (fun k => g313 14 k rfl) (fun k => g313 13 k rfl)
  have KGR_I314 := gr_GR_fr KGR_I266 (fun k => g313 19 k rfl) (fun k => g313 18 k rfl) (fun k => g313 36 k rfl) (fun k => g313 41 k rfl) (fun k => g313 42 k rfl) (fun k => g313 43 k rfl) (fun k => g313 45 k rfl) (fun k => g313 46 k rfl) (fun k => g313 47 k rfl) (fun k => g313 6 k rfl) (fun k => g313 7 k rfl) (fun k => g313 8 k rfl) (g313 0 3 rfl)
  have KTO_I314 := gr_TO_fr KTO_I266 (fun k => g313 52 k rfl) (fun k => g313 53 k rfl) (fun k => g313 54 k rfl) (fun k => g313 55 k rfl) (fun k => g313 6 k rfl) (g313 0 64 rfl) (g313 0 3 rfl)
  have KFM_I314 := gr_FM_fr KFM_I266 (fun k => g313 10 k rfl) (fun k => g313 55 k rfl) (fun k => g313 52 k rfl) (fun k => g313 53 k rfl) (fun k => g313 54 k rfl) (g313 0 64 rfl) (g313 0 3 rfl)
  have KST_I314 : gr_ST I9 I314 := gr_ST_fr (by rw [hI9]; exact gr_ST_rf I) (fun k => (g313 6 k rfl).trans (p267 6 k (fun q => absurd q.1 (by decide)))) (fun k => (g313 19 k rfl).trans (p267 19 k (fun q => absurd q.1 (by decide)))) (fun k => (g313 18 k rfl).trans (p267 18 k (fun q => absurd q.1 (by decide)))) (fun k => (g313 41 k rfl).trans (p267 41 k (fun q => absurd q.1 (by decide)))) (fun k => (g313 36 k rfl).trans (p267 36 k (fun q => absurd q.1 (by decide)))) (by exact gz_m 81 (by omega))
  refine gv_callV hD rfl (As := []) (st := []) rfl (by decide) rfl rfl (gr_lV hws rfl) (Nat.le_of_ble_eq_true rfl) (gz_Ev_mono (d := 1) (by decide) E313) ?_
  show gv_X _ _ (9, [(0, .inr (.inr (some 0)))], [], gr_sh ++ ext, gr_h I314 J315)
  refine gv_run 1 true hD (pc' := 10) (lv' := [(0, .inr (.inr (some 0)))]) (st' := [.inr (.inr (some 0))]) (h' := gr_h I314 J315) (C := (True ∧ True)) rfl ⟨trivial, trivial⟩ ?_
  obtain ⟨r359, h359, E359, P359⟩ := r_remember (ws0 := ws0) (tb := tb) hws htb ext I314 J315 hI314   
  obtain ⟨I360, J361, rfl, hI360, g359, k359, ⟨rfl, q359⟩⟩ := P359
  have FI360 := gr_frt FI314 g359 rfl rfl
  have FJ361 := gr_fjt FJ315 k359 rfl rfl
  have t362 := g359 0 71 rfl
  have t363 := g359 0 72 rfl
  have t364 := g359 0 73 rfl
  have t365 := g359 0 69 rfl
  have t366 := g359 0 68 rfl
  have t367 := g359 0 100 rfl
  have t368 := g359 0 1 rfl
  have t369 := g359 0 2 rfl
  have t370 := g359 0 3 rfl
  have t371 := g359 0 4 rfl
  have t372 := g359 0 5 rfl
  have t373 := g359 0 6 rfl
  have t374 := g359 0 42 rfl
  have t375 := g359 0 59 rfl
  have t376 := g359 0 64 rfl
  have t377 := g359 0 3 rfl
  have t378 := g359 0 77 rfl
  have f379 := (gr_b_0_71 hI360)
  have f380 := (gr_b_0_72 hI360)
  have f381 := (gr_b_0_73 hI360)
  have f382 := (gr_b_0_69 hI360)
  have f383 := (gr_b_0_68 hI360)
  have f384 := (gr_b_0_99 hI360)
  have f385 := (gr_b_0_100 hI360)
  have f386 := (gr_b_0_1 hI360)
  have f387 := (gr_b_0_2 hI360)
  have f388 := (gr_b_0_3 hI360)
  have f389 := (gr_b_0_4 hI360)
  have f390 := (gr_b_0_5 hI360)
  have f391 := (gr_b_0_6 hI360)
  have f392 := (gr_b_0_42 hI360)
  have f393 := (gr_b_0_59 hI360)
  have f394 := (gr_b_0_64 hI360)
  have f395 := (gr_b_0_3 hI360)
  have f396 := (gr_b_0_77 hI360)
  have KTM_I360 := gr_TM_fr KTM_I314 (fun k => g359 52 k rfl) (fun k => g359 53 k rfl) (fun k => g359 54 k rfl) (g359 0 64 rfl)
  have KVF_I360 := gr_VF_fr KVF_I314 (fun k => g359 14 k rfl) (fun k => g359 13 k rfl)
  have KGR_I360 := gr_GR_fr KGR_I314 (fun k => g359 19 k rfl) (fun k => g359 18 k rfl) (fun k => g359 36 k rfl) (fun k => g359 41 k rfl) (fun k => g359 42 k rfl) (fun k => g359 43 k rfl) (fun k => g359 45 k rfl) (fun k => g359 46 k rfl) (fun k => g359 47 k rfl) (fun k => g359 6 k rfl) (fun k => g359 7 k rfl) (fun k => g359 8 k rfl) (g359 0 3 rfl)
  have KTO_I360 := gr_TO_fr KTO_I314 (fun k => g359 52 k rfl) (fun k => g359 53 k rfl) (fun k => g359 54 k rfl) (fun k => g359 55 k rfl) (fun k => g359 6 k rfl) (g359 0 64 rfl) (g359 0 3 rfl)
  have KFM_I360 := gr_FM_fr KFM_I314 (fun k => g359 10 k rfl) (fun k => g359 55 k rfl) (fun k => g359 52 k rfl) (fun k => g359 53 k rfl) (fun k => g359 54 k rfl) (g359 0 64 rfl) (g359 0 3 rfl)
  have KST_I360 := gr_ST_fr KST_I314 (fun k => g359 6 k rfl) (fun k => g359 19 k rfl) (fun k => g359 18 k rfl) (fun k => g359 41 k rfl) (fun k => g359 36 k rfl) (g359 0 3 rfl)
  have KRT_I360 : gr_RT8 I I360 := gr_RT8_l q359.2.2.2.2.2.2.2.2.2.2 (fun k => (g313 13 k rfl).trans (p267 13 k (fun q => absurd q.1 (by decide)))) (fun k => (g313 14 k rfl).trans (p267 14 k (fun q => absurd q.1 (by decide)))) (fun k => (g313 15 k rfl).trans (p267 15 k (fun q => absurd q.1 (by decide)))) (fun k => (g313 16 k rfl).trans (p267 16 k (fun q => absurd q.1 (by decide)))) (fun k => (g313 17 k rfl).trans (p267 17 k (fun q => absurd q.1 (by decide)))) (fun k => (g313 18 k rfl).trans (p267 18 k (fun q => absurd q.1 (by decide)))) (fun k => (g313 19 k rfl).trans (p267 19 k (fun q => absurd q.1 (by decide))))
  have KMQ_I360 : gr_MQ I9 I360 := gr_MQ_st KFM_I360 (by rw [hI9]; exact gr_TS9_fr (fun k => ((g359 55 k rfl).trans (g313 55 k rfl)).trans (p267 55 k (fun q => absurd q.1 (by decide)))) (fun k => ((g359 52 k rfl).trans (g313 52 k rfl)).trans (p267 52 k (fun q => absurd q.1 (by decide)))) (fun k => ((g359 53 k rfl).trans (g313 53 k rfl)).trans (p267 53 k (fun q => absurd q.1 (by decide)))) (fun k => ((g359 54 k rfl).trans (g313 54 k rfl)).trans (p267 54 k (fun q => absurd q.1 (by decide))))) (by rw [hI9]; exact gz_m 82 (by omega)) (by rw [hI9]; exact gz_m 83 (by omega))
  refine gv_callV hD rfl (As := []) (st := []) rfl (by decide) rfl rfl (gr_lV hws rfl) (Nat.le_of_ble_eq_true rfl) (gz_Ev_mono (d := 1) (by decide) E359) ?_
  show gv_X _ _ (13, [(0, .inr (.inr (some 0)))], [], gr_sh ++ ext, gr_h I360 J361)
  refine gv_run 3 true hD (pc' := 18) (lv' := [(0, .inr (.inr (some 0)))]) (st' := []) (h' := gz_up (gr_h I360 J361) 0 73 (.inl 0)) (C := (((True ∧ True) ∧ True) ∧ True)) rfl ⟨⟨⟨trivial, trivial⟩, trivial⟩, trivial⟩ ?_
  refine gr_st hI360 FI360 rfl rfl ⟨⟨by show 0 ≤ _; exact gz_m 84 (by omega), by show _ ≤ 1001; exact gz_m 85 (by omega)⟩, trivial⟩ (fun I397 hI397 FI397 q398 p398 => ?_)
  have t399 := p398 0 71 (by decide)
  have t400 := p398 0 72 (by decide)
  have t401 := p398 0 69 (by decide)
  have t402 := p398 0 68 (by decide)
  have t403 := p398 0 99 (by decide)
  have t404 := p398 0 100 (by decide)
  have t405 := p398 0 1 (by decide)
  have t406 := p398 0 2 (by decide)
  have t407 := p398 0 3 (by decide)
  have t408 := p398 0 4 (by decide)
  have t409 := p398 0 5 (by decide)
  have t410 := p398 0 6 (by decide)
  have t411 := p398 0 42 (by decide)
  have t412 := p398 0 59 (by decide)
  have t413 := p398 0 64 (by decide)
  have t414 := p398 0 3 (by decide)
  have t415 := p398 0 77 (by decide)
  have t416 := p398 59 (Int.toNat 0) (fun q => absurd q.1 (by decide))
  have t417 := p398 59 (Int.toNat ((0 + 1))) (fun q => absurd q.1 (by decide))
  have t418 := p398 59 (Int.toNat (((0 + 1) + 1))) (fun q => absurd q.1 (by decide))
  have t419 := p398 59 (Int.toNat ((((0 + 1) + 1) + 1))) (fun q => absurd q.1 (by decide))
  have t420 := p398 59 (Int.toNat (((((0 + 1) + 1) + 1) + 1))) (fun q => absurd q.1 (by decide))
  have t421 := p398 59 (Int.toNat ((((((0 + 1) + 1) + 1) + 1) + 1))) (fun q => absurd q.1 (by decide))
  have t422 := p398 59 (Int.toNat (((((((0 + 1) + 1) + 1) + 1) + 1) + 1))) (fun q => absurd q.1 (by decide))
  have t423 := p398 59 (Int.toNat ((((((((0 + 1) + 1) + 1) + 1) + 1) + 1) + 1))) (fun q => absurd q.1 (by decide))
  have t424 := p398 59 (Int.toNat (((((((((0 + 1) + 1) + 1) + 1) + 1) + 1) + 1) + 1))) (fun q => absurd q.1 (by decide))
  have f425 := (gr_b_0_71 hI397)
  have f426 := (gr_b_0_72 hI397)
  have f427 := (gr_b_0_73 hI397)
  have f428 := (gr_b_0_69 hI397)
  have f429 := (gr_b_0_68 hI397)
  have f430 := (gr_b_0_99 hI397)
  have f431 := (gr_b_0_100 hI397)
  have f432 := (gr_b_0_1 hI397)
  have f433 := (gr_b_0_2 hI397)
  have f434 := (gr_b_0_3 hI397)
  have f435 := (gr_b_0_4 hI397)
  have f436 := (gr_b_0_5 hI397)
  have f437 := (gr_b_0_6 hI397)
  have f438 := (gr_b_0_42 hI397)
  have f439 := (gr_b_0_59 hI397)
  have f440 := (gr_b_0_64 hI397)
  have f441 := (gr_b_0_3 hI397)
  have f442 := (gr_b_0_77 hI397)
  have KTM_I397 := gr_TM_fr KTM_I360 (fun k => p398 52 k (fun q => absurd q.1 (by decide))) (fun k => p398 53 k (fun q => absurd q.1 (by decide))) (fun k => p398 54 k (fun q => absurd q.1 (by decide))) (p398 0 64 (by decide))
  have KVF_I397 := gr_VF_fr KVF_I360 (fun k => p398 14 k (fun q => absurd q.1 (by decide))) (fun k => p398 13 k (fun q => absurd q.1 (by decide)))
  have KGR_I397 := gr_GR_fr KGR_I360 (fun k => p398 19 k (fun q => absurd q.1 (by decide))) (fun k => p398 18 k (fun q => absurd q.1 (by decide))) (fun k => p398 36 k (fun q => absurd q.1 (by decide))) (fun k => p398 41 k (fun q => absurd q.1 (by decide))) (fun k => p398 42 k (fun q => absurd q.1 (by decide))) (fun k => p398 43 k (fun q => absurd q.1 (by decide))) (fun k => p398 45 k (fun q => absurd q.1 (by decide))) (fun k => p398 46 k (fun q => absurd q.1 (by decide))) (fun k => p398 47 k (fun q => absurd q.1 (by decide))) (fun k => p398 6 k (fun q => absurd q.1 (by decide))) (fun k => p398 7 k (fun q => absurd q.1 (by decide))) (fun k => p398 8 k (fun q => absurd q.1 (by decide))) (p398 0 3 (by decide))
  have KTO_I397 := gr_TO_fr KTO_I360 (fun k => p398 52 k (fun q => absurd q.1 (by decide))) (fun k => p398 53 k (fun q => absurd q.1 (by decide))) (fun k => p398 54 k (fun q => absurd q.1 (by decide))) (fun k => p398 55 k (fun q => absurd q.1 (by decide))) (fun k => p398 6 k (fun q => absurd q.1 (by decide))) (p398 0 64 (by decide)) (p398 0 3 (by decide))
  have KFM_I397 := gr_FM_fr KFM_I360 (fun k => p398 10 k (fun q => absurd q.1 (by decide))) (fun k => p398 55 k (fun q => absurd q.1 (by decide))) (fun k => p398 52 k (fun q => absurd q.1 (by decide))) (fun k => p398 53 k (fun q => absurd q.1 (by decide))) (fun k => p398 54 k (fun q => absurd q.1 (by decide))) (p398 0 64 (by decide)) (p398 0 3 (by decide))
  have KRT_I397 := gr_RT8_fr KRT_I360 (fun k => p398 59 k (fun q => absurd q.1 (by decide)))
  have KST_I397 := gr_ST_fr KST_I360 (fun k => p398 6 k (fun q => absurd q.1 (by decide))) (fun k => p398 19 k (fun q => absurd q.1 (by decide))) (fun k => p398 18 k (fun q => absurd q.1 (by decide))) (fun k => p398 41 k (fun q => absurd q.1 (by decide))) (fun k => p398 36 k (fun q => absurd q.1 (by decide))) (p398 0 3 (by decide))
  have KMQ_I397 := gr_MQ_fr KMQ_I360 (fun k => p398 10 k (fun q => absurd q.1 (by decide))) (fun k => p398 55 k (fun q => absurd q.1 (by decide))) (fun k => p398 52 k (fun q => absurd q.1 (by decide))) (fun k => p398 53 k (fun q => absurd q.1 (by decide))) (fun k => p398 54 k (fun q => absurd q.1 (by decide))) (fun k => p398 60 k (fun q => absurd q.1 (by decide))) (p398 0 64 (by decide)) (p398 0 3 (by decide)) (p398 0 99 (by decide))
  refine gv_run 3 true hD (pc' := 23) (lv' := [(0, .inr (.inr (some 0)))]) (st' := []) (h' := gz_up (gr_h I397 J361) 0 76 (.inl 0)) (C := (((True ∧ True) ∧ True) ∧ True)) rfl ⟨⟨⟨trivial, trivial⟩, trivial⟩, trivial⟩ ?_
  refine gr_st hI397 FI397 rfl rfl ⟨⟨by show 0 ≤ _; exact gz_m 86 (by omega), by show _ ≤ 6; exact gz_m 87 (by omega)⟩, trivial⟩ (fun I443 hI443 FI443 q444 p444 => ?_)
  have t445 := p444 0 71 (by decide)
  have t446 := p444 0 72 (by decide)
  have t447 := p444 0 73 (by decide)
  have t448 := p444 0 69 (by decide)
  have t449 := p444 0 68 (by decide)
  have t450 := p444 0 99 (by decide)
  have t451 := p444 0 100 (by decide)
  have t452 := p444 0 1 (by decide)
  have t453 := p444 0 2 (by decide)
  have t454 := p444 0 3 (by decide)
  have t455 := p444 0 4 (by decide)
  have t456 := p444 0 5 (by decide)
  have t457 := p444 0 6 (by decide)
  have t458 := p444 0 42 (by decide)
  have t459 := p444 0 59 (by decide)
  have t460 := p444 0 64 (by decide)
  have t461 := p444 0 3 (by decide)
  have t462 := p444 0 77 (by decide)
  have t463 := p444 59 (Int.toNat 0) (fun q => absurd q.1 (by decide))
  have t464 := p444 59 (Int.toNat ((0 + 1))) (fun q => absurd q.1 (by decide))
  have t465 := p444 59 (Int.toNat (((0 + 1) + 1))) (fun q => absurd q.1 (by decide))
  have t466 := p444 59 (Int.toNat ((((0 + 1) + 1) + 1))) (fun q => absurd q.1 (by decide))
  have t467 := p444 59 (Int.toNat (((((0 + 1) + 1) + 1) + 1))) (fun q => absurd q.1 (by decide))
  have t468 := p444 59 (Int.toNat ((((((0 + 1) + 1) + 1) + 1) + 1))) (fun q => absurd q.1 (by decide))
  have t469 := p444 59 (Int.toNat (((((((0 + 1) + 1) + 1) + 1) + 1) + 1))) (fun q => absurd q.1 (by decide))
  have t470 := p444 59 (Int.toNat ((((((((0 + 1) + 1) + 1) + 1) + 1) + 1) + 1))) (fun q => absurd q.1 (by decide))
  have t471 := p444 59 (Int.toNat (((((((((0 + 1) + 1) + 1) + 1) + 1) + 1) + 1) + 1))) (fun q => absurd q.1 (by decide))
  have f472 := (gr_b_0_71 hI443)
  have f473 := (gr_b_0_72 hI443)
  have f474 := (gr_b_0_73 hI443)
  have f475 := (gr_b_0_69 hI443)
  have f476 := (gr_b_0_68 hI443)
  have f477 := (gr_b_0_99 hI443)
  have f478 := (gr_b_0_100 hI443)
  have f479 := (gr_b_0_1 hI443)
  have f480 := (gr_b_0_2 hI443)
  have f481 := (gr_b_0_3 hI443)
  have f482 := (gr_b_0_4 hI443)
  have f483 := (gr_b_0_5 hI443)
  have f484 := (gr_b_0_6 hI443)
  have f485 := (gr_b_0_42 hI443)
  have f486 := (gr_b_0_59 hI443)
  have f487 := (gr_b_0_64 hI443)
  have f488 := (gr_b_0_3 hI443)
  have f489 := (gr_b_0_77 hI443)
  have KTM_I443 := gr_TM_fr KTM_I397 (fun k => p444 52 k (fun q => absurd q.1 (by decide))) (fun k => p444 53 k (fun q => absurd q.1 (by decide))) (fun k => p444 54 k (fun q => absurd q.1 (by decide))) (p444 0 64 (by decide))
  have KVF_I443 := gr_VF_fr KVF_I397 (fun k => p444 14 k (fun q => absurd q.1 (by decide))) (fun k => p444 13 k (fun q => absurd q.1 (by decide)))
  have KGR_I443 := gr_GR_fr KGR_I397 (fun k => p444 19 k (fun q => absurd q.1 (by decide))) (fun k => p444 18 k (fun q => absurd q.1 (by decide))) (fun k => p444 36 k (fun q => absurd q.1 (by decide))) (fun k => p444 41 k (fun q => absurd q.1 (by decide))) (fun k => p444 42 k (fun q => absurd q.1 (by decide))) (fun k => p444 43 k (fun q => absurd q.1 (by decide))) (fun k => p444 45 k (fun q => absurd q.1 (by decide))) (fun k => p444 46 k (fun q => absurd q.1 (by decide))) (fun k => p444 47 k (fun q => absurd q.1 (by decide))) (fun k => p444 6 k (fun q => absurd q.1 (by decide))) (fun k => p444 7 k (fun q => absurd q.1 (by decide))) (fun k => p444 8 k (fun q => absurd q.1 (by decide))) (p444 0 3 (by decide))
  have KTO_I443 := gr_TO_fr KTO_I397 (fun k => p444 52 k (fun q => absurd q.1 (by decide))) (fun k => p444 53 k (fun q => absurd q.1 (by decide))) (fun k => p444 54 k (fun q => absurd q.1 (by decide))) (fun k => p444 55 k (fun q => absurd q.1 (by decide))) (fun k => p444 6 k (fun q => absurd q.1 (by decide))) (p444 0 64 (by decide)) (p444 0 3 (by decide))
  have KFM_I443 := gr_FM_fr KFM_I397 (fun k => p444 10 k (fun q => absurd q.1 (by decide))) (fun k => p444 55 k (fun q => absurd q.1 (by decide))) (fun k => p444 52 k (fun q => absurd q.1 (by decide))) (fun k => p444 53 k (fun q => absurd q.1 (by decide))) (fun k => p444 54 k (fun q => absurd q.1 (by decide))) (p444 0 64 (by decide)) (p444 0 3 (by decide))
  have KRT_I443 := gr_RT8_fr KRT_I397 (fun k => p444 59 k (fun q => absurd q.1 (by decide)))
  have KST_I443 := gr_ST_fr KST_I397 (fun k => p444 6 k (fun q => absurd q.1 (by decide))) (fun k => p444 19 k (fun q => absurd q.1 (by decide))) (fun k => p444 18 k (fun q => absurd q.1 (by decide))) (fun k => p444 41 k (fun q => absurd q.1 (by decide))) (fun k => p444 36 k (fun q => absurd q.1 (by decide))) (p444 0 3 (by decide))
  have KMQ_I443 := gr_MQ_fr KMQ_I397 (fun k => p444 10 k (fun q => absurd q.1 (by decide))) (fun k => p444 55 k (fun q => absurd q.1 (by decide))) (fun k => p444 52 k (fun q => absurd q.1 (by decide))) (fun k => p444 53 k (fun q => absurd q.1 (by decide))) (fun k => p444 54 k (fun q => absurd q.1 (by decide))) (fun k => p444 60 k (fun q => absurd q.1 (by decide))) (p444 0 64 (by decide)) (p444 0 3 (by decide)) (p444 0 99 (by decide))
  refine gv_run 1 true hD (pc' := 24) (lv' := [(0, .inr (.inr (some 0)))]) (st' := [.inr (.inr (some 0))]) (h' := gr_h I443 J361) (C := (True ∧ True)) rfl ⟨trivial, trivial⟩ ?_
  obtain ⟨r490, h490, E490, P490⟩ := r_next_p (ws0 := ws0) (tb := tb) hws htb ext β N9 I443 J361 hI443   (by exact gz_m 88 (by omega)) (gs_TX_cp x4 (fun j hj => ((((p444 57 j (fun q => absurd q.1 (by decide))).trans (p398 57 j (fun q => absurd q.1 (by decide)))).trans (g359 57 j rfl))).trans ((q313.1.2 j (by exact gz_m 89 (by omega))).trans (p267 56 j (fun q => absurd q.1 (by decide)))))) (by exact gz_m 90 (by omega))
  obtain ⟨I491, J492, rfl, hI491, g490, k490, ⟨rfl, q490⟩⟩ := P490
  have FI491 := gr_frt FI443 g490 rfl rfl
  have FJ492 := gr_fjt FJ361 k490 rfl rfl
  have t493 := g490 0 69 rfl
  have t494 := g490 0 68 rfl
  have t495 := g490 0 99 rfl
  have t496 := g490 0 100 rfl
  have t497 := g490 0 1 rfl
  have t498 := g490 0 2 rfl
  have t499 := g490 0 3 rfl
  have t500 := g490 0 4 rfl
  have t501 := g490 0 5 rfl
  have t502 := g490 0 6 rfl
  have t503 := g490 0 42 rfl
  have t504 := g490 0 59 rfl
  have t505 := g490 0 64 rfl
  have t506 := g490 0 3 rfl
  have t507 := g490 0 77 rfl
  have t508 := g490 59 (Int.toNat 0) rfl
  have t509 := g490 59 (Int.toNat ((0 + 1))) rfl
  have t510 := g490 59 (Int.toNat (((0 + 1) + 1))) rfl
  have t511 := g490 59 (Int.toNat ((((0 + 1) + 1) + 1))) rfl
  have t512 := g490 59 (Int.toNat (((((0 + 1) + 1) + 1) + 1))) rfl
  have t513 := g490 59 (Int.toNat ((((((0 + 1) + 1) + 1) + 1) + 1))) rfl
  have t514 := g490 59 (Int.toNat (((((((0 + 1) + 1) + 1) + 1) + 1) + 1))) rfl
  have t515 := g490 59 (Int.toNat ((((((((0 + 1) + 1) + 1) + 1) + 1) + 1) + 1))) rfl
  have t516 := g490 59 (Int.toNat (((((((((0 + 1) + 1) + 1) + 1) + 1) + 1) + 1) + 1))) rfl
  have f517 := (gr_b_0_71 hI491)
  have f518 := (gr_b_0_72 hI491)
  have f519 := (gr_b_0_73 hI491)
  have f520 := (gr_b_0_69 hI491)
  have f521 := (gr_b_0_68 hI491)
  have f522 := (gr_b_0_99 hI491)
  have f523 := (gr_b_0_100 hI491)
  have f524 := (gr_b_0_1 hI491)
  have f525 := (gr_b_0_2 hI491)
  have f526 := (gr_b_0_3 hI491)
  have f527 := (gr_b_0_4 hI491)
  have f528 := (gr_b_0_5 hI491)
  have f529 := (gr_b_0_6 hI491)
  have f530 := (gr_b_0_42 hI491)
  have f531 := (gr_b_0_59 hI491)
  have f532 := (gr_b_0_64 hI491)
  have f533 := (gr_b_0_3 hI491)
  have f534 := (gr_b_0_77 hI491)
  have KTM_I491 := gr_TM_fr KTM_I443 (fun k => g490 52 k rfl) (fun k => g490 53 k rfl) (fun k => g490 54 k rfl) (g490 0 64 rfl)
  have KVF_I491 := gr_VF_fr KVF_I443 (fun k => g490 14 k rfl) (fun k => g490 13 k rfl)
  have KGR_I491 := gr_GR_fr KGR_I443 (fun k => g490 19 k rfl) (fun k => g490 18 k rfl) (fun k => g490 36 k rfl) (fun k => g490 41 k rfl) (fun k => g490 42 k rfl) (fun k => g490 43 k rfl) (fun k => g490 45 k rfl) (fun k => g490 46 k rfl) (fun k => g490 47 k rfl) (fun k => g490 6 k rfl) (fun k => g490 7 k rfl) (fun k => g490 8 k rfl) (g490 0 3 rfl)
  have KTO_I491 := gr_TO_fr KTO_I443 (fun k => g490 52 k rfl) (fun k => g490 53 k rfl) (fun k => g490 54 k rfl) (fun k => g490 55 k rfl) (fun k => g490 6 k rfl) (g490 0 64 rfl) (g490 0 3 rfl)
  have KFM_I491 := gr_FM_fr KFM_I443 (fun k => g490 10 k rfl) (fun k => g490 55 k rfl) (fun k => g490 52 k rfl) (fun k => g490 53 k rfl) (fun k => g490 54 k rfl) (g490 0 64 rfl) (g490 0 3 rfl)
  have KRT_I491 := gr_RT8_fr KRT_I443 (fun k => g490 59 k rfl)
  have KST_I491 := gr_ST_fr KST_I443 (fun k => g490 6 k rfl) (fun k => g490 19 k rfl) (fun k => g490 18 k rfl) (fun k => g490 41 k rfl) (fun k => g490 36 k rfl) (g490 0 3 rfl)
  have KMQ_I491 := gr_MQ_fr KMQ_I443 (fun k => g490 10 k rfl) (fun k => g490 55 k rfl) (fun k => g490 52 k rfl) (fun k => g490 53 k rfl) (fun k => g490 54 k rfl) (fun k => g490 60 k rfl) (g490 0 64 rfl) (g490 0 3 rfl) (g490 0 99 rfl)
  have KLN_I491 : gr_LN B I491 := gr_LN_of KLE_I (fun k => (((((g490 19 k rfl).trans (p444 19 k (fun q => absurd q.1 (by decide)))).trans (p398 19 k (fun q => absurd q.1 (by decide)))).trans (g359 19 k rfl)).trans (g313 19 k rfl)).trans (p267 19 k (fun q => absurd q.1 (by decide)))) (by exact gz_m 91 (by omega)) (by exact gz_m 92 (by omega))
  have A535 := q490.2.2.2.2.2
  rw [show I443 0 73 = 0 from by exact gz_m 93 (by omega)] at A535
  have t536 := gr_ATp_l A535
  obtain ⟨_, _, -, -, -, -⟩ := q490
  refine gv_callV hD rfl (As := []) (st := []) rfl (by decide) rfl rfl (gr_lV hws rfl) (Nat.le_of_ble_eq_true rfl) (gz_Ev_mono (d := 10) (by decide) E490) ?_
  show gv_X _ _ (27, [(0, .inr (.inr (some 0)))], [], gr_sh ++ ext, gr_h I491 J492)
  refine gv_run 2 true hD (pc' := 29) (lv' := [(1, .inl 0), (0, .inr (.inr (some 0)))]) (st' := []) (h' := gr_h I491 J492) (C := ((True ∧ True) ∧ True)) rfl ⟨⟨trivial, trivial⟩, trivial⟩ ?_
  refine gv_pick [1, 0] rfl ?_
  exact L29 _ I491 J492 0 0 (Nat.lt_succ_self _) hI491 FI491 FJ492 KTM_I491 KVF_I491 KLN_I491 KRT_I491 KGR_I491 KST_I491 KTO_I491 KFM_I491 KMQ_I491 (by exact gz_m 94 (by omega)) A535 (gs_M0_0 (gs_Ts_tr (gs_Ts_tr (gs_Ts_tr (gs_Ts_tr (gs_Ts_tr (gs_Ts_tr gs_Ts_rf (gs_TsX_st p267 rfl)) (gs_TsX_fr (m := [199]) g313 k313 rfl)) (gs_TsX_fr (m := [199]) g359 k359 rfl)) (gs_TsX_st p398 rfl)) (gs_TsX_st p444 rfl)) (gs_TsX_fr (m := [199]) g490 k490 rfl)) ⟨(gr_LKs_fr (gr_LKs_fr (gr_LKs_fr (gr_LKs_fr (gr_LKs_fr (gr_LKs_fr gr_LKs_rf (fun k => p267 51 k (fun q => absurd q.1 (by decide))) (p267 0 59 (by decide))) (fun k => g313 51 k rfl) (g313 0 59 rfl)) (fun k => g359 51 k rfl) (g359 0 59 rfl)) (fun k => p398 51 k (fun q => absurd q.1 (by decide))) (p398 0 59 (by decide))) (fun k => p444 51 k (fun q => absurd q.1 (by decide))) (p444 0 59 (by decide))) (fun k => g490 51 k rfl) (g490 0 59 rfl)), (gr_PTs_fr (gr_PTs_fr (gr_PTs_fr (gr_PTs_fr (gr_PTs_fr (gr_PTs_fr gr_PTs_rf (fun k => p267 35 k (fun q => absurd q.1 (by decide))) (p267 0 42 (by decide))) (fun k => g313 35 k rfl) (g313 0 42 rfl)) (fun k => g359 35 k rfl) (g359 0 42 rfl)) (fun k => p398 35 k (fun q => absurd q.1 (by decide))) (p398 0 42 (by decide))) (fun k => p444 35 k (fun q => absurd q.1 (by decide))) (p444 0 42 (by decide))) (fun k => g490 35 k rfl) (g490 0 42 rfl))⟩ (by exact gz_m 95 (by omega)))
