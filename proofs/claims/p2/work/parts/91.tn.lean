set_option maxHeartbeats 4000000 in
set_option maxRecDepth 100000 in
theorem r_forget_v {ws0 : List Cond} {tb : String → gz_T} (hws : ∀ w ∈ gr_ws, w ∈ ws0) (htb : tb RX13 = gr_T) (ext : gz_Sh) (I : gr_I) (J : gr_J) (hI : gr_Inv I)   (x0 : 0 ≤ I 59 (Int.toNat 0) ∧ I 59 (Int.toNat 0) ≤ 8) (x1 : 0 ≤ I 59 (Int.toNat ((0 + 1))) ∧ I 59 (Int.toNat ((0 + 1))) ≤ 32) (x2 : 0 ≤ I 59 (Int.toNat (((0 + 1) + 1))) ∧ I 59 (Int.toNat (((0 + 1) + 1))) ≤ 96) (x3 : 0 ≤ I 59 (Int.toNat ((((0 + 1) + 1) + 1))) ∧ I 59 (Int.toNat ((((0 + 1) + 1) + 1))) ≤ 8) (x4 : 0 ≤ I 59 (Int.toNat (((((0 + 1) + 1) + 1) + 1))) ∧ I 59 (Int.toNat (((((0 + 1) + 1) + 1) + 1))) ≤ 64) (x5 : (-1) ≤ I 59 (Int.toNat ((((((0 + 1) + 1) + 1) + 1) + 1))) ∧ I 59 (Int.toNat ((((((0 + 1) + 1) + 1) + 1) + 1))) ≤ 7) (x6 : 0 ≤ I 59 (Int.toNat (((((((0 + 1) + 1) + 1) + 1) + 1) + 1))) ∧ I 59 (Int.toNat (((((((0 + 1) + 1) + 1) + 1) + 1) + 1))) ≤ 2000) (x7 : 0 ≤ I 59 (Int.toNat ((((((((0 + 1) + 1) + 1) + 1) + 1) + 1) + 1))) ∧ I 59 (Int.toNat ((((((((0 + 1) + 1) + 1) + 1) + 1) + 1) + 1))) ≤ 2000) (x8 : 0 ≤ I 59 (Int.toNat (((((((((0 + 1) + 1) + 1) + 1) + 1) + 1) + 1) + 1))) ∧ I 59 (Int.toNat (((((((((0 + 1) + 1) + 1) + 1) + 1) + 1) + 1) + 1))) ≤ 2000) (x9 : I 59 (Int.toNat (((((((((0 + 1) + 1) + 1) + 1) + 1) + 1) + 1) + 1))) ≤ I 0 64) (x10 : gr_HT I) (KTM_I : gr_TM I) : ∃ r h', gz_Ev ws0 tb 1 (yX13_forget, cX13_forget, 3, none) [.inr (.inr (some 0))] (gr_sh ++ ext) (gr_h I J) r (gr_sh ++ ext) h' 0 0 ∧ (∃ (I' : gr_I) (J' : gr_J), h' = gr_h I' J' ∧ gr_Inv I' ∧ gr_fr [1, 2, 3, 4, 5, 6, 42, 59, 64] [10, 13, 14, 15, 16, 17, 18, 19] I I' ∧ gr_fj [1, 2, 3, 4, 5, 6, 42, 59, 64] [10, 13, 14, 15, 16, 17, 18, 19] J J' ∧ gr_TM I' ∧ r = none ∧ (I' 0 1 = I 59 (Int.toNat 0)) ∧ (I' 0 2 = I 59 (Int.toNat ((0 + 1)))) ∧ (I' 0 3 = I 59 (Int.toNat (((0 + 1) + 1)))) ∧ (I' 0 4 = I 59 (Int.toNat ((((0 + 1) + 1) + 1)))) ∧ (I' 0 5 = I 59 (Int.toNat (((((0 + 1) + 1) + 1) + 1)))) ∧ (I' 0 6 = I 59 (Int.toNat ((((((0 + 1) + 1) + 1) + 1) + 1)))) ∧ (I' 0 42 = I 59 (Int.toNat (((((((0 + 1) + 1) + 1) + 1) + 1) + 1)))) ∧ (I' 0 59 = I 59 (Int.toNat ((((((((0 + 1) + 1) + 1) + 1) + 1) + 1) + 1)))) ∧ (I' 0 64 = I 59 (Int.toNat (((((((((0 + 1) + 1) + 1) + 1) + 1) + 1) + 1) + 1)))) ∧ (gr_FT I I' 8) ∧ (gr_FG I I' (I 0 99))) := by
  have FI : gr_fr [1, 2, 3, 4, 5, 6, 42, 59, 64] [10, 13, 14, 15, 16, 17, 18, 19] I I := fun _ _ _ => rfl
  have FJ : gr_fj [1, 2, 3, 4, 5, 6, 42, 59, 64] [10, 13, 14, 15, 16, 17, 18, 19] J J := fun _ _ _ => rfl
  have hD : gv_D (gr_E ws0 tb 0 (yX13_forget, cX13_forget, 3, none) kX13_forget) := gq_ok oX13_forget
  refine gr_ev (d := 0) (l := kX13_forget) (Po := fun r h' => (∃ (I' : gr_I) (J' : gr_J), h' = gr_h I' J' ∧ gr_Inv I' ∧ gr_fr [1, 2, 3, 4, 5, 6, 42, 59, 64] [10, 13, 14, 15, 16, 17, 18, 19] I I' ∧ gr_fj [1, 2, 3, 4, 5, 6, 42, 59, 64] [10, 13, 14, 15, 16, 17, 18, 19] J J' ∧ gr_TM I' ∧ r = none ∧ (I' 0 1 = I 59 (Int.toNat 0)) ∧ (I' 0 2 = I 59 (Int.toNat ((0 + 1)))) ∧ (I' 0 3 = I 59 (Int.toNat (((0 + 1) + 1)))) ∧ (I' 0 4 = I 59 (Int.toNat ((((0 + 1) + 1) + 1)))) ∧ (I' 0 5 = I 59 (Int.toNat (((((0 + 1) + 1) + 1) + 1)))) ∧ (I' 0 6 = I 59 (Int.toNat ((((((0 + 1) + 1) + 1) + 1) + 1)))) ∧ (I' 0 42 = I 59 (Int.toNat (((((((0 + 1) + 1) + 1) + 1) + 1) + 1)))) ∧ (I' 0 59 = I 59 (Int.toNat ((((((((0 + 1) + 1) + 1) + 1) + 1) + 1) + 1)))) ∧ (I' 0 64 = I 59 (Int.toNat (((((((((0 + 1) + 1) + 1) + 1) + 1) + 1) + 1) + 1)))) ∧ (gr_FT I I' 8) ∧ (gr_FG I I' (I 0 99)))) htb rfl (Nat.le_of_ble_eq_true rfl) ?_
  have f1 := (show 0 ≤ I 0 1 ∧ I 0 1 ≤ 8 from (hI 0 1).1)
  have f2 := (show 0 ≤ I 0 2 ∧ I 0 2 ≤ 32 from (hI 0 2).1)
  have f3 := (show 0 ≤ I 0 3 ∧ I 0 3 ≤ 96 from (hI 0 3).1)
  have f4 := (show 0 ≤ I 0 4 ∧ I 0 4 ≤ 8 from (hI 0 4).1)
  have f5 := (show 0 ≤ I 0 5 ∧ I 0 5 ≤ 64 from (hI 0 5).1)
  have f6 := (show (-1) ≤ I 0 6 ∧ I 0 6 ≤ 7 from (hI 0 6).1)
  have f7 := (show 0 ≤ I 0 42 ∧ I 0 42 ≤ 2000 from (hI 0 42).1)
  have f8 := (show 0 ≤ I 0 59 ∧ I 0 59 ≤ 2000 from (hI 0 59).1)
  have f9 := (show 0 ≤ I 0 64 ∧ I 0 64 ≤ 2000 from (hI 0 64).1)
  have L121 : ∀ (n : Nat) (I10 : gr_I) (J11 : gr_J) (v1_12 : Int) (v2_12 : Int), (66 - v1_12).toNat < n → gr_Inv I10 → gr_fr [1, 2, 3, 4, 5, 6, 42, 59, 64] [10, 13, 14, 15, 16, 17, 18, 19] I I10 → gr_fj [1, 2, 3, 4, 5, 6, 42, 59, 64] [10, 13, 14, 15, 16, 17, 18, 19] J J11 → gr_TM I10 → ((9 ≤ v1_12 ∧ v1_12 ≤ 65) ∧ (0 ≤ v2_12 ∧ v2_12 ≤ 8) ∧ (v1_12 = 9 + 7 * v2_12) ∧ (I10 0 1 = I 59 (Int.toNat 0)) ∧ (I10 0 2 = I 59 (Int.toNat ((0 + 1)))) ∧ (I10 0 3 = I 59 (Int.toNat (((0 + 1) + 1)))) ∧ (I10 0 4 = I 59 (Int.toNat ((((0 + 1) + 1) + 1)))) ∧ (I10 0 5 = I 59 (Int.toNat (((((0 + 1) + 1) + 1) + 1)))) ∧ (I10 0 6 = I 59 (Int.toNat ((((((0 + 1) + 1) + 1) + 1) + 1)))) ∧ (I10 0 42 = I 59 (Int.toNat (((((((0 + 1) + 1) + 1) + 1) + 1) + 1)))) ∧ (I10 0 59 = I 59 (Int.toNat ((((((((0 + 1) + 1) + 1) + 1) + 1) + 1) + 1)))) ∧ (I10 0 64 = I 59 (Int.toNat (((((((((0 + 1) + 1) + 1) + 1) + 1) + 1) + 1) + 1))))) → (gr_FT I I10 v2_12) → (gr_FQ I I10) → gv_X (gr_E ws0 tb 0 (yX13_forget, cX13_forget, 3, none) kX13_forget) (gv_Q cX13_forget none (gr_sh ++ ext) (fun r h' => (∃ (I' : gr_I) (J' : gr_J), h' = gr_h I' J' ∧ gr_Inv I' ∧ gr_fr [1, 2, 3, 4, 5, 6, 42, 59, 64] [10, 13, 14, 15, 16, 17, 18, 19] I I' ∧ gr_fj [1, 2, 3, 4, 5, 6, 42, 59, 64] [10, 13, 14, 15, 16, 17, 18, 19] J J' ∧ gr_TM I' ∧ r = none ∧ (I' 0 1 = I 59 (Int.toNat 0)) ∧ (I' 0 2 = I 59 (Int.toNat ((0 + 1)))) ∧ (I' 0 3 = I 59 (Int.toNat (((0 + 1) + 1)))) ∧ (I' 0 4 = I 59 (Int.toNat ((((0 + 1) + 1) + 1)))) ∧ (I' 0 5 = I 59 (Int.toNat (((((0 + 1) + 1) + 1) + 1)))) ∧ (I' 0 6 = I 59 (Int.toNat ((((((0 + 1) + 1) + 1) + 1) + 1)))) ∧ (I' 0 42 = I 59 (Int.toNat (((((((0 + 1) + 1) + 1) + 1) + 1) + 1)))) ∧ (I' 0 59 = I 59 (Int.toNat ((((((((0 + 1) + 1) + 1) + 1) + 1) + 1) + 1)))) ∧ (I' 0 64 = I 59 (Int.toNat (((((((((0 + 1) + 1) + 1) + 1) + 1) + 1) + 1) + 1)))) ∧ (gr_FT I I' 8) ∧ (gr_FG I I' (I 0 99))))) (121, [(0, .inr (.inr (some 0))), (1, .inl v1_12), (2, .inl v2_12)], [], gr_sh ++ ext, gr_h I10 J11) := by
    intro n
    induction n with
    | zero => intro I10 J11 v1_12 v2_12 hn; omega
    | succ n ih121 =>
      intro I10 J11 v1_12 v2_12 hn hI10 FI10 FJ11 KTM_I10 m_12 e10_12 e11_12
      obtain ⟨hv1_12, hv2_12, e0_12, e1_12, e2_12, e3_12, e4_12, e5_12, e6_12, e7_12, e8_12, e9_12⟩ := m_12
      have q9_12 := e0_12
      subst q9_12
      have f13 := (show 0 ≤ I10 0 1 ∧ I10 0 1 ≤ 8 from (hI10 0 1).1)
      have f14 := (show 0 ≤ I10 0 2 ∧ I10 0 2 ≤ 32 from (hI10 0 2).1)
      have f15 := (show 0 ≤ I10 0 3 ∧ I10 0 3 ≤ 96 from (hI10 0 3).1)
      have f16 := (show 0 ≤ I10 0 4 ∧ I10 0 4 ≤ 8 from (hI10 0 4).1)
      have f17 := (show 0 ≤ I10 0 5 ∧ I10 0 5 ≤ 64 from (hI10 0 5).1)
      have f18 := (show (-1) ≤ I10 0 6 ∧ I10 0 6 ≤ 7 from (hI10 0 6).1)
      have f19 := (show 0 ≤ I10 0 42 ∧ I10 0 42 ≤ 2000 from (hI10 0 42).1)
      have f20 := (show 0 ≤ I10 0 59 ∧ I10 0 59 ≤ 2000 from (hI10 0 59).1)
      have f21 := (show 0 ≤ I10 0 64 ∧ I10 0 64 ≤ 2000 from (hI10 0 64).1)
      have t22 := FI10 59 (Int.toNat (9 + 7 * v2_12)) rfl
      have t23 := FI10 59 (Int.toNat ((9 + 7 * v2_12) + 1)) rfl
      have t24 := FI10 59 (Int.toNat (((9 + 7 * v2_12) + 1) + 1)) rfl
      have t25 := FI10 59 (Int.toNat ((((9 + 7 * v2_12) + 1) + 1) + 1)) rfl
      have t26 := FI10 59 (Int.toNat (((((9 + 7 * v2_12) + 1) + 1) + 1) + 1)) rfl
      have t27 := FI10 59 (Int.toNat ((((((9 + 7 * v2_12) + 1) + 1) + 1) + 1) + 1)) rfl
      have t28 := FI10 59 (Int.toNat (((((((9 + 7 * v2_12) + 1) + 1) + 1) + 1) + 1) + 1)) rfl
      have L240 : ∀ (n : Nat) (I29 : gr_I) (J30 : gr_J) (v2_31 : Int), (1001 - v2_31).toNat < n → gr_Inv I29 → gr_fr [1, 2, 3, 4, 5, 6, 42, 59, 64] [10, 13, 14, 15, 16, 17, 18, 19] I I29 → gr_fj [1, 2, 3, 4, 5, 6, 42, 59, 64] [10, 13, 14, 15, 16, 17, 18, 19] J J30 → gr_TM I29 → ((0 ≤ v2_31 ∧ v2_31 ≤ 1000) ∧ (I29 0 1 = I 59 (Int.toNat 0)) ∧ (I29 0 2 = I 59 (Int.toNat ((0 + 1)))) ∧ (I29 0 3 = I 59 (Int.toNat (((0 + 1) + 1)))) ∧ (I29 0 4 = I 59 (Int.toNat ((((0 + 1) + 1) + 1)))) ∧ (I29 0 5 = I 59 (Int.toNat (((((0 + 1) + 1) + 1) + 1)))) ∧ (I29 0 6 = I 59 (Int.toNat ((((((0 + 1) + 1) + 1) + 1) + 1)))) ∧ (I29 0 42 = I 59 (Int.toNat (((((((0 + 1) + 1) + 1) + 1) + 1) + 1)))) ∧ (I29 0 59 = I 59 (Int.toNat ((((((((0 + 1) + 1) + 1) + 1) + 1) + 1) + 1)))) ∧ (I29 0 64 = I 59 (Int.toNat (((((((((0 + 1) + 1) + 1) + 1) + 1) + 1) + 1) + 1))))) → (gr_FT I I29 8) → (gr_FG I I29 v2_31) → gv_X (gr_E ws0 tb 0 (yX13_forget, cX13_forget, 3, none) kX13_forget) (gv_Q cX13_forget none (gr_sh ++ ext) (fun r h' => (∃ (I' : gr_I) (J' : gr_J), h' = gr_h I' J' ∧ gr_Inv I' ∧ gr_fr [1, 2, 3, 4, 5, 6, 42, 59, 64] [10, 13, 14, 15, 16, 17, 18, 19] I I' ∧ gr_fj [1, 2, 3, 4, 5, 6, 42, 59, 64] [10, 13, 14, 15, 16, 17, 18, 19] J J' ∧ gr_TM I' ∧ r = none ∧ (I' 0 1 = I 59 (Int.toNat 0)) ∧ (I' 0 2 = I 59 (Int.toNat ((0 + 1)))) ∧ (I' 0 3 = I 59 (Int.toNat (((0 + 1) + 1)))) ∧ (I' 0 4 = I 59 (Int.toNat ((((0 + 1) + 1) + 1)))) ∧ (I' 0 5 = I 59 (Int.toNat (((((0 + 1) + 1) + 1) + 1)))) ∧ (I' 0 6 = I 59 (Int.toNat ((((((0 + 1) + 1) + 1) + 1) + 1)))) ∧ (I' 0 42 = I 59 (Int.toNat (((((((0 + 1) + 1) + 1) + 1) + 1) + 1)))) ∧ (I' 0 59 = I 59 (Int.toNat ((((((((0 + 1) + 1) + 1) + 1) + 1) + 1) + 1)))) ∧ (I' 0 64 = I 59 (Int.toNat (((((((((0 + 1) + 1) + 1) + 1) + 1) + 1) + 1) + 1)))) ∧ (gr_FT I I' 8) ∧ (gr_FG I I' (I 0 99))))) (240, [(0, .inr (.inr (some 0))), (2, .inl v2_31)], [], gr_sh ++ ext, gr_h I29 J30) := by
        intro n
        induction n with
        | zero => intro I29 J30 v2_31 hn; omega
        | succ n ih240 =>
          intro I29 J30 v2_31 hn hI29 FI29 FJ30 KTM_I29 m_31 e9_31 e10_31
          clear hv1_12 hv2_12 e0_12 e1_12 e2_12 e3_12 e4_12 e5_12 e6_12 e7_12 e8_12 e9_12 f13 f14 f15 f16 f17 f18 f19 f20 f21 t22 t23 t24 t25 t26 t27 t28
          obtain ⟨hv2_31, e0_31, e1_31, e2_31, e3_31, e4_31, e5_31, e6_31, e7_31, e8_31⟩ := m_31
          have f32 := (show 0 ≤ I29 0 1 ∧ I29 0 1 ≤ 8 from (hI29 0 1).1)
          have f33 := (show 0 ≤ I29 0 2 ∧ I29 0 2 ≤ 32 from (hI29 0 2).1)
          have f34 := (show 0 ≤ I29 0 3 ∧ I29 0 3 ≤ 96 from (hI29 0 3).1)
          have f35 := (show 0 ≤ I29 0 4 ∧ I29 0 4 ≤ 8 from (hI29 0 4).1)
          have f36 := (show 0 ≤ I29 0 5 ∧ I29 0 5 ≤ 64 from (hI29 0 5).1)
          have f37 := (show (-1) ≤ I29 0 6 ∧ I29 0 6 ≤ 7 from (hI29 0 6).1)
          have f38 := (show 0 ≤ I29 0 42 ∧ I29 0 42 ≤ 2000 from (hI29 0 42).1)
          have f39 := (show 0 ≤ I29 0 59 ∧ I29 0 59 ≤ 2000 from (hI29 0 59).1)
          have f40 := (show 0 ≤ I29 0 64 ∧ I29 0 64 ≤ 2000 from (hI29 0 64).1)
          have f41 := (show 0 ≤ I29 0 99 ∧ I29 0 99 ≤ 1000 from (hI29 0 99).1)
          refine gv_run 3 true hD (pc' := 245) (lv' := [(0, .inr (.inr (some 0))), (2, .inl v2_31)]) (st' := [.inl (I29 0 99), .inl v2_31]) (h' := gr_h I29 J30) (C := (((True ∧ True) ∧ True) ∧ True)) rfl ⟨⟨⟨trivial, trivial⟩, trivial⟩, trivial⟩ ?_
          refine gv_icmp_ge (t := 266) hD rfl rfl ⟨⟨by omega, by omega⟩, ⟨by omega, by omega⟩⟩ (fun c42 => ?_) (fun c42 => ?_)
          · exact gv_vret hD rfl ⟨I29, J30, rfl, hI29, FI29, FJ30, KTM_I29, ⟨rfl, by omega, by omega, by omega, by omega, by omega, by omega, by omega, by omega, by omega, e9_31, (gr_FG_m e10_31 (by have e := FI29 0 99 rfl; omega))⟩⟩
          · have f43 := (show 0 ≤ I29 60 (Int.toNat v2_31) ∧ I29 60 (Int.toNat v2_31) ≤ 95 from (hI29 60 (Int.toNat v2_31)).1)
            refine gv_run 6 true hD (pc' := 258) (lv' := [(0, .inr (.inr (some 0))), (2, .inl v2_31)]) (st' := [.inl (I29 60 (Int.toNat v2_31)), .inr (.inr (some 10))]) (h' := gr_h I29 J30) (C := ((((((True ∧ True) ∧ True) ∧ True) ∧ True) ∧ True) ∧ (0 ≤ v2_31 ∧ v2_31 < ((1000 : Nat) : Int)))) rfl ⟨⟨⟨⟨⟨⟨trivial, trivial⟩, trivial⟩, trivial⟩, trivial⟩, trivial⟩, ⟨by omega, by omega⟩⟩ ?_
            refine gv_run 2 true hD (pc' := 260) (lv' := [(0, .inr (.inr (some 0))), (2, .inl v2_31)]) (st' := []) (h' := gz_up (gr_h I29 J30) 10 (Int.toNat ((I29 60 (Int.toNat v2_31)))) (.inl (-1))) (C := ((True ∧ True) ∧ (0 ≤ ((I29 60 (Int.toNat v2_31))) ∧ ((I29 60 (Int.toNat v2_31))) < ((96 : Nat) : Int)))) rfl ⟨⟨trivial, trivial⟩, ⟨by omega, by omega⟩⟩ ?_
            refine gr_st hI29 FI29 rfl rfl ⟨⟨by show (-1) ≤ _; omega, by show _ ≤ 1999; omega⟩, trivial⟩ (fun I44 hI44 FI44 q45 p45 => ?_)
            have t46 := p45 0 1 (fun q => absurd q.1 (by decide))
            have t47 := p45 0 2 (fun q => absurd q.1 (by decide))
            have t48 := p45 0 3 (fun q => absurd q.1 (by decide))
            have t49 := p45 0 4 (fun q => absurd q.1 (by decide))
            have t50 := p45 0 5 (fun q => absurd q.1 (by decide))
            have t51 := p45 0 6 (fun q => absurd q.1 (by decide))
            have t52 := p45 0 42 (fun q => absurd q.1 (by decide))
            have t53 := p45 0 59 (fun q => absurd q.1 (by decide))
            have t54 := p45 0 64 (fun q => absurd q.1 (by decide))
            have t55 := p45 59 (Int.toNat 0) (fun q => absurd q.1 (by decide))
            have t56 := p45 59 (Int.toNat ((0 + 1))) (fun q => absurd q.1 (by decide))
            have t57 := p45 59 (Int.toNat (((0 + 1) + 1))) (fun q => absurd q.1 (by decide))
            have t58 := p45 59 (Int.toNat ((((0 + 1) + 1) + 1))) (fun q => absurd q.1 (by decide))
            have t59 := p45 59 (Int.toNat (((((0 + 1) + 1) + 1) + 1))) (fun q => absurd q.1 (by decide))
            have t60 := p45 59 (Int.toNat ((((((0 + 1) + 1) + 1) + 1) + 1))) (fun q => absurd q.1 (by decide))
            have t61 := p45 59 (Int.toNat (((((((0 + 1) + 1) + 1) + 1) + 1) + 1))) (fun q => absurd q.1 (by decide))
            have t62 := p45 59 (Int.toNat ((((((((0 + 1) + 1) + 1) + 1) + 1) + 1) + 1))) (fun q => absurd q.1 (by decide))
            have t63 := p45 59 (Int.toNat (((((((((0 + 1) + 1) + 1) + 1) + 1) + 1) + 1) + 1))) (fun q => absurd q.1 (by decide))
            have f64 := (show 0 ≤ I44 0 1 ∧ I44 0 1 ≤ 8 from (hI44 0 1).1)
            have f65 := (show 0 ≤ I44 0 2 ∧ I44 0 2 ≤ 32 from (hI44 0 2).1)
            have f66 := (show 0 ≤ I44 0 3 ∧ I44 0 3 ≤ 96 from (hI44 0 3).1)
            have f67 := (show 0 ≤ I44 0 4 ∧ I44 0 4 ≤ 8 from (hI44 0 4).1)
            have f68 := (show 0 ≤ I44 0 5 ∧ I44 0 5 ≤ 64 from (hI44 0 5).1)
            have f69 := (show (-1) ≤ I44 0 6 ∧ I44 0 6 ≤ 7 from (hI44 0 6).1)
            have f70 := (show 0 ≤ I44 0 42 ∧ I44 0 42 ≤ 2000 from (hI44 0 42).1)
            have f71 := (show 0 ≤ I44 0 59 ∧ I44 0 59 ≤ 2000 from (hI44 0 59).1)
            have f72 := (show 0 ≤ I44 0 64 ∧ I44 0 64 ≤ 2000 from (hI44 0 64).1)
            have KTM_I44 := gr_TM_fr KTM_I29 (fun k => p45 52 k (fun q => absurd q.1 (by decide))) (fun k => p45 53 k (fun q => absurd q.1 (by decide))) (fun k => p45 54 k (fun q => absurd q.1 (by decide))) (p45 0 64 (fun q => absurd q.1 (by decide)))
            refine gv_run 2 true hD (pc' := 240) (lv' := [(2, .inl (v2_31 + 1)), (0, .inr (.inr (some 0)))]) (st' := []) (h' := gr_h I44 J30) (C := ((True ∧ True) ∧ True)) rfl ⟨⟨trivial, trivial⟩, trivial⟩ ?_
            refine gv_pick [1, 0] rfl ?_
            exact ih240 I44 J30 (v2_31 + 1) (by omega) hI44 FI44 FJ30 KTM_I44 (by omega) (gr_FT_fr e9_31 (fun a k h0 h1 => p45 a k (fun q => h1 q.1))) (gr_FG_nx e10_31 (by omega) p45 q45 (by rw [FI29 60 _ rfl]))
      refine gv_run 2 true hD (pc' := 124) (lv' := [(0, .inr (.inr (some 0))), (1, .inl (9 + 7 * v2_12)), (2, .inl v2_12)]) (st' := [.inl 8, .inl v2_12]) (h' := gr_h I10 J11) (C := ((True ∧ True) ∧ True)) rfl ⟨⟨trivial, trivial⟩, trivial⟩ ?_
      refine gv_icmp_ge (t := 238) hD rfl rfl ⟨⟨by omega, by omega⟩, ⟨by omega, by omega⟩⟩ (fun c73 => ?_) (fun c73 => ?_)
      · refine gv_run 2 true hD (pc' := 240) (lv' := [(2, .inl 0), (0, .inr (.inr (some 0))), (1, .inl (9 + 7 * v2_12))]) (st' := []) (h' := gr_h I10 J11) (C := ((True ∧ True) ∧ True)) rfl ⟨⟨trivial, trivial⟩, trivial⟩ ?_
        refine gv_pick [1, 0] rfl ?_
        exact L240 _ I10 J11 0 (Nat.lt_succ_self _) hI10 FI10 FJ11 KTM_I10 (by omega) (by have e9 : v2_12 = 8 := (by omega); subst e9; exact e10_12) (gr_FG_0 e11_12)
      · have t74 := x10 v2_12 (by omega) (by omega)
        refine gv_run 7 true hD (pc' := 140) (lv' := [(1, .inl ((9 + 7 * v2_12) + 1)), (0, .inr (.inr (some 0))), (2, .inl v2_12)]) (st' := [.inl (9 + 7 * v2_12), .inr (.inr (some 59)), .inl v2_12, .inr (.inr (some 13))]) (h' := gr_h I10 J11) (C := (((((((True ∧ True) ∧ True) ∧ True) ∧ True) ∧ True) ∧ True) ∧ True)) rfl ⟨⟨⟨⟨⟨⟨⟨trivial, trivial⟩, trivial⟩, trivial⟩, trivial⟩, trivial⟩, trivial⟩, trivial⟩ ?_
        have f75 := (show (-2147483648) ≤ I10 59 (Int.toNat ((9 + 7 * v2_12))) ∧ I10 59 (Int.toNat ((9 + 7 * v2_12))) ≤ 2147483647 from (hI10 59 (Int.toNat ((9 + 7 * v2_12)))).1)
        refine gv_run 1 true hD (pc' := 141) (lv' := [(1, .inl ((9 + 7 * v2_12) + 1)), (0, .inr (.inr (some 0))), (2, .inl v2_12)]) (st' := [.inl (I10 59 (Int.toNat ((9 + 7 * v2_12)))), .inl v2_12, .inr (.inr (some 13))]) (h' := gr_h I10 J11) (C := (True ∧ (0 ≤ (9 + 7 * v2_12) ∧ (9 + 7 * v2_12) < ((80 : Nat) : Int)))) rfl ⟨trivial, ⟨by omega, by omega⟩⟩ ?_
        refine gv_run 1 true hD (pc' := 142) (lv' := [(1, .inl ((9 + 7 * v2_12) + 1)), (0, .inr (.inr (some 0))), (2, .inl v2_12)]) (st' := []) (h' := gz_up (gr_h I10 J11) 13 (Int.toNat v2_12) (.inl ((I10 59 (Int.toNat ((9 + 7 * v2_12))))))) (C := (True ∧ (0 ≤ v2_12 ∧ v2_12 < ((8 : Nat) : Int)))) rfl ⟨trivial, ⟨by omega, by omega⟩⟩ ?_
        refine gr_st hI10 FI10 rfl rfl ⟨⟨by show 0 ≤ _; omega, by show _ ≤ 8; omega⟩, trivial⟩ (fun I76 hI76 FI76 q77 p77 => ?_)
        have t78 := p77 0 1 (fun q => absurd q.1 (by decide))
        have t79 := p77 0 2 (fun q => absurd q.1 (by decide))
        have t80 := p77 0 3 (fun q => absurd q.1 (by decide))
        have t81 := p77 0 4 (fun q => absurd q.1 (by decide))
        have t82 := p77 0 5 (fun q => absurd q.1 (by decide))
        have t83 := p77 0 6 (fun q => absurd q.1 (by decide))
        have t84 := p77 0 42 (fun q => absurd q.1 (by decide))
        have t85 := p77 0 59 (fun q => absurd q.1 (by decide))
        have t86 := p77 0 64 (fun q => absurd q.1 (by decide))
        have t87 := p77 59 (Int.toNat 0) (fun q => absurd q.1 (by decide))
        have t88 := p77 59 (Int.toNat ((0 + 1))) (fun q => absurd q.1 (by decide))
        have t89 := p77 59 (Int.toNat (((0 + 1) + 1))) (fun q => absurd q.1 (by decide))
        have t90 := p77 59 (Int.toNat ((((0 + 1) + 1) + 1))) (fun q => absurd q.1 (by decide))
        have t91 := p77 59 (Int.toNat (((((0 + 1) + 1) + 1) + 1))) (fun q => absurd q.1 (by decide))
        have t92 := p77 59 (Int.toNat ((((((0 + 1) + 1) + 1) + 1) + 1))) (fun q => absurd q.1 (by decide))
        have t93 := p77 59 (Int.toNat (((((((0 + 1) + 1) + 1) + 1) + 1) + 1))) (fun q => absurd q.1 (by decide))
        have t94 := p77 59 (Int.toNat ((((((((0 + 1) + 1) + 1) + 1) + 1) + 1) + 1))) (fun q => absurd q.1 (by decide))
        have t95 := p77 59 (Int.toNat (((((((((0 + 1) + 1) + 1) + 1) + 1) + 1) + 1) + 1))) (fun q => absurd q.1 (by decide))
        have f96 := (show 0 ≤ I76 0 1 ∧ I76 0 1 ≤ 8 from (hI76 0 1).1)
        have f97 := (show 0 ≤ I76 0 2 ∧ I76 0 2 ≤ 32 from (hI76 0 2).1)
        have f98 := (show 0 ≤ I76 0 3 ∧ I76 0 3 ≤ 96 from (hI76 0 3).1)
        have f99 := (show 0 ≤ I76 0 4 ∧ I76 0 4 ≤ 8 from (hI76 0 4).1)
        have f100 := (show 0 ≤ I76 0 5 ∧ I76 0 5 ≤ 64 from (hI76 0 5).1)
        have f101 := (show (-1) ≤ I76 0 6 ∧ I76 0 6 ≤ 7 from (hI76 0 6).1)
        have f102 := (show 0 ≤ I76 0 42 ∧ I76 0 42 ≤ 2000 from (hI76 0 42).1)
        have f103 := (show 0 ≤ I76 0 59 ∧ I76 0 59 ≤ 2000 from (hI76 0 59).1)
        have f104 := (show 0 ≤ I76 0 64 ∧ I76 0 64 ≤ 2000 from (hI76 0 64).1)
        have KTM_I76 := gr_TM_fr KTM_I10 (fun k => p77 52 k (fun q => absurd q.1 (by decide))) (fun k => p77 53 k (fun q => absurd q.1 (by decide))) (fun k => p77 54 k (fun q => absurd q.1 (by decide))) (p77 0 64 (fun q => absurd q.1 (by decide)))
        have t105 := FI76 59 (Int.toNat (9 + 7 * v2_12)) rfl
        have t106 := FI76 59 (Int.toNat ((9 + 7 * v2_12) + 1)) rfl
        have t107 := FI76 59 (Int.toNat (((9 + 7 * v2_12) + 1) + 1)) rfl
        have t108 := FI76 59 (Int.toNat ((((9 + 7 * v2_12) + 1) + 1) + 1)) rfl
        have t109 := FI76 59 (Int.toNat (((((9 + 7 * v2_12) + 1) + 1) + 1) + 1)) rfl
        have t110 := FI76 59 (Int.toNat ((((((9 + 7 * v2_12) + 1) + 1) + 1) + 1) + 1)) rfl
        have t111 := FI76 59 (Int.toNat (((((((9 + 7 * v2_12) + 1) + 1) + 1) + 1) + 1) + 1)) rfl
        refine gv_run 7 true hD (pc' := 155) (lv' := [(1, .inl (((9 + 7 * v2_12) + 1) + 1)), (0, .inr (.inr (some 0))), (2, .inl v2_12)]) (st' := [.inl ((9 + 7 * v2_12) + 1), .inr (.inr (some 59)), .inl v2_12, .inr (.inr (some 14))]) (h' := gr_h I76 J11) (C := (((((((True ∧ True) ∧ True) ∧ True) ∧ True) ∧ True) ∧ True) ∧ True)) rfl ⟨⟨⟨⟨⟨⟨⟨trivial, trivial⟩, trivial⟩, trivial⟩, trivial⟩, trivial⟩, trivial⟩, trivial⟩ ?_
        have f112 := (show (-2147483648) ≤ I76 59 (Int.toNat (((9 + 7 * v2_12) + 1))) ∧ I76 59 (Int.toNat (((9 + 7 * v2_12) + 1))) ≤ 2147483647 from (hI76 59 (Int.toNat (((9 + 7 * v2_12) + 1)))).1)
        refine gv_run 1 true hD (pc' := 156) (lv' := [(1, .inl (((9 + 7 * v2_12) + 1) + 1)), (0, .inr (.inr (some 0))), (2, .inl v2_12)]) (st' := [.inl (I76 59 (Int.toNat (((9 + 7 * v2_12) + 1)))), .inl v2_12, .inr (.inr (some 14))]) (h' := gr_h I76 J11) (C := (True ∧ (0 ≤ (((9 + 7 * v2_12) + 1)) ∧ (((9 + 7 * v2_12) + 1)) < ((80 : Nat) : Int)))) rfl ⟨trivial, ⟨by omega, by omega⟩⟩ ?_
        refine gv_run 1 true hD (pc' := 157) (lv' := [(1, .inl (((9 + 7 * v2_12) + 1) + 1)), (0, .inr (.inr (some 0))), (2, .inl v2_12)]) (st' := []) (h' := gz_up (gr_h I76 J11) 14 (Int.toNat v2_12) (.inl ((I76 59 (Int.toNat (((9 + 7 * v2_12) + 1))))))) (C := (True ∧ (0 ≤ v2_12 ∧ v2_12 < ((8 : Nat) : Int)))) rfl ⟨trivial, ⟨by omega, by omega⟩⟩ ?_
        refine gr_st hI76 FI76 rfl rfl ⟨⟨by show 0 ≤ _; omega, by show _ ≤ 48; omega⟩, trivial⟩ (fun I113 hI113 FI113 q114 p114 => ?_)
        have t115 := p114 0 1 (fun q => absurd q.1 (by decide))
        have t116 := p114 0 2 (fun q => absurd q.1 (by decide))
        have t117 := p114 0 3 (fun q => absurd q.1 (by decide))
        have t118 := p114 0 4 (fun q => absurd q.1 (by decide))
        have t119 := p114 0 5 (fun q => absurd q.1 (by decide))
        have t120 := p114 0 6 (fun q => absurd q.1 (by decide))
        have t121 := p114 0 42 (fun q => absurd q.1 (by decide))
        have t122 := p114 0 59 (fun q => absurd q.1 (by decide))
        have t123 := p114 0 64 (fun q => absurd q.1 (by decide))
        have t124 := p114 59 (Int.toNat 0) (fun q => absurd q.1 (by decide))
        have t125 := p114 59 (Int.toNat ((0 + 1))) (fun q => absurd q.1 (by decide))
        have t126 := p114 59 (Int.toNat (((0 + 1) + 1))) (fun q => absurd q.1 (by decide))
        have t127 := p114 59 (Int.toNat ((((0 + 1) + 1) + 1))) (fun q => absurd q.1 (by decide))
        have t128 := p114 59 (Int.toNat (((((0 + 1) + 1) + 1) + 1))) (fun q => absurd q.1 (by decide))
        have t129 := p114 59 (Int.toNat ((((((0 + 1) + 1) + 1) + 1) + 1))) (fun q => absurd q.1 (by decide))
        have t130 := p114 59 (Int.toNat (((((((0 + 1) + 1) + 1) + 1) + 1) + 1))) (fun q => absurd q.1 (by decide))
        have t131 := p114 59 (Int.toNat ((((((((0 + 1) + 1) + 1) + 1) + 1) + 1) + 1))) (fun q => absurd q.1 (by decide))
        have t132 := p114 59 (Int.toNat (((((((((0 + 1) + 1) + 1) + 1) + 1) + 1) + 1) + 1))) (fun q => absurd q.1 (by decide))
        have f133 := (show 0 ≤ I113 0 1 ∧ I113 0 1 ≤ 8 from (hI113 0 1).1)
        have f134 := (show 0 ≤ I113 0 2 ∧ I113 0 2 ≤ 32 from (hI113 0 2).1)
        have f135 := (show 0 ≤ I113 0 3 ∧ I113 0 3 ≤ 96 from (hI113 0 3).1)
        have f136 := (show 0 ≤ I113 0 4 ∧ I113 0 4 ≤ 8 from (hI113 0 4).1)
        have f137 := (show 0 ≤ I113 0 5 ∧ I113 0 5 ≤ 64 from (hI113 0 5).1)
        have f138 := (show (-1) ≤ I113 0 6 ∧ I113 0 6 ≤ 7 from (hI113 0 6).1)
        have f139 := (show 0 ≤ I113 0 42 ∧ I113 0 42 ≤ 2000 from (hI113 0 42).1)
        have f140 := (show 0 ≤ I113 0 59 ∧ I113 0 59 ≤ 2000 from (hI113 0 59).1)
        have f141 := (show 0 ≤ I113 0 64 ∧ I113 0 64 ≤ 2000 from (hI113 0 64).1)
        have KTM_I113 := gr_TM_fr KTM_I76 (fun k => p114 52 k (fun q => absurd q.1 (by decide))) (fun k => p114 53 k (fun q => absurd q.1 (by decide))) (fun k => p114 54 k (fun q => absurd q.1 (by decide))) (p114 0 64 (fun q => absurd q.1 (by decide)))
        have t142 := FI113 59 (Int.toNat (9 + 7 * v2_12)) rfl
        have t143 := FI113 59 (Int.toNat ((9 + 7 * v2_12) + 1)) rfl
        have t144 := FI113 59 (Int.toNat (((9 + 7 * v2_12) + 1) + 1)) rfl
        have t145 := FI113 59 (Int.toNat ((((9 + 7 * v2_12) + 1) + 1) + 1)) rfl
        have t146 := FI113 59 (Int.toNat (((((9 + 7 * v2_12) + 1) + 1) + 1) + 1)) rfl
        have t147 := FI113 59 (Int.toNat ((((((9 + 7 * v2_12) + 1) + 1) + 1) + 1) + 1)) rfl
        have t148 := FI113 59 (Int.toNat (((((((9 + 7 * v2_12) + 1) + 1) + 1) + 1) + 1) + 1)) rfl
        refine gv_run 7 true hD (pc' := 170) (lv' := [(1, .inl ((((9 + 7 * v2_12) + 1) + 1) + 1)), (0, .inr (.inr (some 0))), (2, .inl v2_12)]) (st' := [.inl (((9 + 7 * v2_12) + 1) + 1), .inr (.inr (some 59)), .inl v2_12, .inr (.inr (some 15))]) (h' := gr_h I113 J11) (C := (((((((True ∧ True) ∧ True) ∧ True) ∧ True) ∧ True) ∧ True) ∧ True)) rfl ⟨⟨⟨⟨⟨⟨⟨trivial, trivial⟩, trivial⟩, trivial⟩, trivial⟩, trivial⟩, trivial⟩, trivial⟩ ?_
        have f149 := (show (-2147483648) ≤ I113 59 (Int.toNat ((((9 + 7 * v2_12) + 1) + 1))) ∧ I113 59 (Int.toNat ((((9 + 7 * v2_12) + 1) + 1))) ≤ 2147483647 from (hI113 59 (Int.toNat ((((9 + 7 * v2_12) + 1) + 1)))).1)
        refine gv_run 1 true hD (pc' := 171) (lv' := [(1, .inl ((((9 + 7 * v2_12) + 1) + 1) + 1)), (0, .inr (.inr (some 0))), (2, .inl v2_12)]) (st' := [.inl (I113 59 (Int.toNat ((((9 + 7 * v2_12) + 1) + 1)))), .inl v2_12, .inr (.inr (some 15))]) (h' := gr_h I113 J11) (C := (True ∧ (0 ≤ ((((9 + 7 * v2_12) + 1) + 1)) ∧ ((((9 + 7 * v2_12) + 1) + 1)) < ((80 : Nat) : Int)))) rfl ⟨trivial, ⟨by omega, by omega⟩⟩ ?_
        refine gv_run 1 true hD (pc' := 172) (lv' := [(1, .inl ((((9 + 7 * v2_12) + 1) + 1) + 1)), (0, .inr (.inr (some 0))), (2, .inl v2_12)]) (st' := []) (h' := gz_up (gr_h I113 J11) 15 (Int.toNat v2_12) (.inl ((I113 59 (Int.toNat ((((9 + 7 * v2_12) + 1) + 1))))))) (C := (True ∧ (0 ≤ v2_12 ∧ v2_12 < ((8 : Nat) : Int)))) rfl ⟨trivial, ⟨by omega, by omega⟩⟩ ?_
        refine gr_st hI113 FI113 rfl rfl ⟨⟨by show 0 ≤ _; omega, by show _ ≤ 16; omega⟩, trivial⟩ (fun I150 hI150 FI150 q151 p151 => ?_)
        have t152 := p151 0 1 (fun q => absurd q.1 (by decide))
        have t153 := p151 0 2 (fun q => absurd q.1 (by decide))
        have t154 := p151 0 3 (fun q => absurd q.1 (by decide))
        have t155 := p151 0 4 (fun q => absurd q.1 (by decide))
        have t156 := p151 0 5 (fun q => absurd q.1 (by decide))
        have t157 := p151 0 6 (fun q => absurd q.1 (by decide))
        have t158 := p151 0 42 (fun q => absurd q.1 (by decide))
        have t159 := p151 0 59 (fun q => absurd q.1 (by decide))
        have t160 := p151 0 64 (fun q => absurd q.1 (by decide))
        have t161 := p151 59 (Int.toNat 0) (fun q => absurd q.1 (by decide))
        have t162 := p151 59 (Int.toNat ((0 + 1))) (fun q => absurd q.1 (by decide))
        have t163 := p151 59 (Int.toNat (((0 + 1) + 1))) (fun q => absurd q.1 (by decide))
        have t164 := p151 59 (Int.toNat ((((0 + 1) + 1) + 1))) (fun q => absurd q.1 (by decide))
        have t165 := p151 59 (Int.toNat (((((0 + 1) + 1) + 1) + 1))) (fun q => absurd q.1 (by decide))
        have t166 := p151 59 (Int.toNat ((((((0 + 1) + 1) + 1) + 1) + 1))) (fun q => absurd q.1 (by decide))
        have t167 := p151 59 (Int.toNat (((((((0 + 1) + 1) + 1) + 1) + 1) + 1))) (fun q => absurd q.1 (by decide))
        have t168 := p151 59 (Int.toNat ((((((((0 + 1) + 1) + 1) + 1) + 1) + 1) + 1))) (fun q => absurd q.1 (by decide))
        have t169 := p151 59 (Int.toNat (((((((((0 + 1) + 1) + 1) + 1) + 1) + 1) + 1) + 1))) (fun q => absurd q.1 (by decide))
        have f170 := (show 0 ≤ I150 0 1 ∧ I150 0 1 ≤ 8 from (hI150 0 1).1)
        have f171 := (show 0 ≤ I150 0 2 ∧ I150 0 2 ≤ 32 from (hI150 0 2).1)
        have f172 := (show 0 ≤ I150 0 3 ∧ I150 0 3 ≤ 96 from (hI150 0 3).1)
        have f173 := (show 0 ≤ I150 0 4 ∧ I150 0 4 ≤ 8 from (hI150 0 4).1)
        have f174 := (show 0 ≤ I150 0 5 ∧ I150 0 5 ≤ 64 from (hI150 0 5).1)
        have f175 := (show (-1) ≤ I150 0 6 ∧ I150 0 6 ≤ 7 from (hI150 0 6).1)
        have f176 := (show 0 ≤ I150 0 42 ∧ I150 0 42 ≤ 2000 from (hI150 0 42).1)
        have f177 := (show 0 ≤ I150 0 59 ∧ I150 0 59 ≤ 2000 from (hI150 0 59).1)
        have f178 := (show 0 ≤ I150 0 64 ∧ I150 0 64 ≤ 2000 from (hI150 0 64).1)
        have KTM_I150 := gr_TM_fr KTM_I113 (fun k => p151 52 k (fun q => absurd q.1 (by decide))) (fun k => p151 53 k (fun q => absurd q.1 (by decide))) (fun k => p151 54 k (fun q => absurd q.1 (by decide))) (p151 0 64 (fun q => absurd q.1 (by decide)))
        have t179 := FI150 59 (Int.toNat (9 + 7 * v2_12)) rfl
        have t180 := FI150 59 (Int.toNat ((9 + 7 * v2_12) + 1)) rfl
        have t181 := FI150 59 (Int.toNat (((9 + 7 * v2_12) + 1) + 1)) rfl
        have t182 := FI150 59 (Int.toNat ((((9 + 7 * v2_12) + 1) + 1) + 1)) rfl
        have t183 := FI150 59 (Int.toNat (((((9 + 7 * v2_12) + 1) + 1) + 1) + 1)) rfl
        have t184 := FI150 59 (Int.toNat ((((((9 + 7 * v2_12) + 1) + 1) + 1) + 1) + 1)) rfl
        have t185 := FI150 59 (Int.toNat (((((((9 + 7 * v2_12) + 1) + 1) + 1) + 1) + 1) + 1)) rfl
        refine gv_run 7 true hD (pc' := 185) (lv' := [(1, .inl (((((9 + 7 * v2_12) + 1) + 1) + 1) + 1)), (0, .inr (.inr (some 0))), (2, .inl v2_12)]) (st' := [.inl ((((9 + 7 * v2_12) + 1) + 1) + 1), .inr (.inr (some 59)), .inl v2_12, .inr (.inr (some 16))]) (h' := gr_h I150 J11) (C := (((((((True ∧ True) ∧ True) ∧ True) ∧ True) ∧ True) ∧ True) ∧ True)) rfl ⟨⟨⟨⟨⟨⟨⟨trivial, trivial⟩, trivial⟩, trivial⟩, trivial⟩, trivial⟩, trivial⟩, trivial⟩ ?_
        have f186 := (show (-2147483648) ≤ I150 59 (Int.toNat (((((9 + 7 * v2_12) + 1) + 1) + 1))) ∧ I150 59 (Int.toNat (((((9 + 7 * v2_12) + 1) + 1) + 1))) ≤ 2147483647 from (hI150 59 (Int.toNat (((((9 + 7 * v2_12) + 1) + 1) + 1)))).1)
        refine gv_run 1 true hD (pc' := 186) (lv' := [(1, .inl (((((9 + 7 * v2_12) + 1) + 1) + 1) + 1)), (0, .inr (.inr (some 0))), (2, .inl v2_12)]) (st' := [.inl (I150 59 (Int.toNat (((((9 + 7 * v2_12) + 1) + 1) + 1)))), .inl v2_12, .inr (.inr (some 16))]) (h' := gr_h I150 J11) (C := (True ∧ (0 ≤ (((((9 + 7 * v2_12) + 1) + 1) + 1)) ∧ (((((9 + 7 * v2_12) + 1) + 1) + 1)) < ((80 : Nat) : Int)))) rfl ⟨trivial, ⟨by omega, by omega⟩⟩ ?_
        refine gv_run 1 true hD (pc' := 187) (lv' := [(1, .inl (((((9 + 7 * v2_12) + 1) + 1) + 1) + 1)), (0, .inr (.inr (some 0))), (2, .inl v2_12)]) (st' := []) (h' := gz_up (gr_h I150 J11) 16 (Int.toNat v2_12) (.inl ((I150 59 (Int.toNat (((((9 + 7 * v2_12) + 1) + 1) + 1))))))) (C := (True ∧ (0 ≤ v2_12 ∧ v2_12 < ((8 : Nat) : Int)))) rfl ⟨trivial, ⟨by omega, by omega⟩⟩ ?_
        refine gr_st hI150 FI150 rfl rfl ⟨⟨by show 0 ≤ _; omega, by show _ ≤ 24; omega⟩, trivial⟩ (fun I187 hI187 FI187 q188 p188 => ?_)
        have t189 := p188 0 1 (fun q => absurd q.1 (by decide))
        have t190 := p188 0 2 (fun q => absurd q.1 (by decide))
        have t191 := p188 0 3 (fun q => absurd q.1 (by decide))
        have t192 := p188 0 4 (fun q => absurd q.1 (by decide))
        have t193 := p188 0 5 (fun q => absurd q.1 (by decide))
        have t194 := p188 0 6 (fun q => absurd q.1 (by decide))
        have t195 := p188 0 42 (fun q => absurd q.1 (by decide))
        have t196 := p188 0 59 (fun q => absurd q.1 (by decide))
        have t197 := p188 0 64 (fun q => absurd q.1 (by decide))
        have t198 := p188 59 (Int.toNat 0) (fun q => absurd q.1 (by decide))
        have t199 := p188 59 (Int.toNat ((0 + 1))) (fun q => absurd q.1 (by decide))
        have t200 := p188 59 (Int.toNat (((0 + 1) + 1))) (fun q => absurd q.1 (by decide))
        have t201 := p188 59 (Int.toNat ((((0 + 1) + 1) + 1))) (fun q => absurd q.1 (by decide))
        have t202 := p188 59 (Int.toNat (((((0 + 1) + 1) + 1) + 1))) (fun q => absurd q.1 (by decide))
        have t203 := p188 59 (Int.toNat ((((((0 + 1) + 1) + 1) + 1) + 1))) (fun q => absurd q.1 (by decide))
        have t204 := p188 59 (Int.toNat (((((((0 + 1) + 1) + 1) + 1) + 1) + 1))) (fun q => absurd q.1 (by decide))
        have t205 := p188 59 (Int.toNat ((((((((0 + 1) + 1) + 1) + 1) + 1) + 1) + 1))) (fun q => absurd q.1 (by decide))
        have t206 := p188 59 (Int.toNat (((((((((0 + 1) + 1) + 1) + 1) + 1) + 1) + 1) + 1))) (fun q => absurd q.1 (by decide))
        have f207 := (show 0 ≤ I187 0 1 ∧ I187 0 1 ≤ 8 from (hI187 0 1).1)
        have f208 := (show 0 ≤ I187 0 2 ∧ I187 0 2 ≤ 32 from (hI187 0 2).1)
        have f209 := (show 0 ≤ I187 0 3 ∧ I187 0 3 ≤ 96 from (hI187 0 3).1)
        have f210 := (show 0 ≤ I187 0 4 ∧ I187 0 4 ≤ 8 from (hI187 0 4).1)
        have f211 := (show 0 ≤ I187 0 5 ∧ I187 0 5 ≤ 64 from (hI187 0 5).1)
        have f212 := (show (-1) ≤ I187 0 6 ∧ I187 0 6 ≤ 7 from (hI187 0 6).1)
        have f213 := (show 0 ≤ I187 0 42 ∧ I187 0 42 ≤ 2000 from (hI187 0 42).1)
        have f214 := (show 0 ≤ I187 0 59 ∧ I187 0 59 ≤ 2000 from (hI187 0 59).1)
        have f215 := (show 0 ≤ I187 0 64 ∧ I187 0 64 ≤ 2000 from (hI187 0 64).1)
        have KTM_I187 := gr_TM_fr KTM_I150 (fun k => p188 52 k (fun q => absurd q.1 (by decide))) (fun k => p188 53 k (fun q => absurd q.1 (by decide))) (fun k => p188 54 k (fun q => absurd q.1 (by decide))) (p188 0 64 (fun q => absurd q.1 (by decide)))
        have t216 := FI187 59 (Int.toNat (9 + 7 * v2_12)) rfl
        have t217 := FI187 59 (Int.toNat ((9 + 7 * v2_12) + 1)) rfl
        have t218 := FI187 59 (Int.toNat (((9 + 7 * v2_12) + 1) + 1)) rfl
        have t219 := FI187 59 (Int.toNat ((((9 + 7 * v2_12) + 1) + 1) + 1)) rfl
        have t220 := FI187 59 (Int.toNat (((((9 + 7 * v2_12) + 1) + 1) + 1) + 1)) rfl
        have t221 := FI187 59 (Int.toNat ((((((9 + 7 * v2_12) + 1) + 1) + 1) + 1) + 1)) rfl
        have t222 := FI187 59 (Int.toNat (((((((9 + 7 * v2_12) + 1) + 1) + 1) + 1) + 1) + 1)) rfl
        refine gv_run 7 true hD (pc' := 200) (lv' := [(1, .inl ((((((9 + 7 * v2_12) + 1) + 1) + 1) + 1) + 1)), (0, .inr (.inr (some 0))), (2, .inl v2_12)]) (st' := [.inl (((((9 + 7 * v2_12) + 1) + 1) + 1) + 1), .inr (.inr (some 59)), .inl v2_12, .inr (.inr (some 17))]) (h' := gr_h I187 J11) (C := (((((((True ∧ True) ∧ True) ∧ True) ∧ True) ∧ True) ∧ True) ∧ True)) rfl ⟨⟨⟨⟨⟨⟨⟨trivial, trivial⟩, trivial⟩, trivial⟩, trivial⟩, trivial⟩, trivial⟩, trivial⟩ ?_
        have f223 := (show (-2147483648) ≤ I187 59 (Int.toNat ((((((9 + 7 * v2_12) + 1) + 1) + 1) + 1))) ∧ I187 59 (Int.toNat ((((((9 + 7 * v2_12) + 1) + 1) + 1) + 1))) ≤ 2147483647 from (hI187 59 (Int.toNat ((((((9 + 7 * v2_12) + 1) + 1) + 1) + 1)))).1)
        refine gv_run 1 true hD (pc' := 201) (lv' := [(1, .inl ((((((9 + 7 * v2_12) + 1) + 1) + 1) + 1) + 1)), (0, .inr (.inr (some 0))), (2, .inl v2_12)]) (st' := [.inl (I187 59 (Int.toNat ((((((9 + 7 * v2_12) + 1) + 1) + 1) + 1)))), .inl v2_12, .inr (.inr (some 17))]) (h' := gr_h I187 J11) (C := (True ∧ (0 ≤ ((((((9 + 7 * v2_12) + 1) + 1) + 1) + 1)) ∧ ((((((9 + 7 * v2_12) + 1) + 1) + 1) + 1)) < ((80 : Nat) : Int)))) rfl ⟨trivial, ⟨by omega, by omega⟩⟩ ?_
        refine gv_run 1 true hD (pc' := 202) (lv' := [(1, .inl ((((((9 + 7 * v2_12) + 1) + 1) + 1) + 1) + 1)), (0, .inr (.inr (some 0))), (2, .inl v2_12)]) (st' := []) (h' := gz_up (gr_h I187 J11) 17 (Int.toNat v2_12) (.inl ((I187 59 (Int.toNat ((((((9 + 7 * v2_12) + 1) + 1) + 1) + 1))))))) (C := (True ∧ (0 ≤ v2_12 ∧ v2_12 < ((8 : Nat) : Int)))) rfl ⟨trivial, ⟨by omega, by omega⟩⟩ ?_
        refine gr_st hI187 FI187 rfl rfl ⟨⟨by show 0 ≤ _; omega, by show _ ≤ 24; omega⟩, trivial⟩ (fun I224 hI224 FI224 q225 p225 => ?_)
        have t226 := p225 0 1 (fun q => absurd q.1 (by decide))
        have t227 := p225 0 2 (fun q => absurd q.1 (by decide))
        have t228 := p225 0 3 (fun q => absurd q.1 (by decide))
        have t229 := p225 0 4 (fun q => absurd q.1 (by decide))
        have t230 := p225 0 5 (fun q => absurd q.1 (by decide))
        have t231 := p225 0 6 (fun q => absurd q.1 (by decide))
        have t232 := p225 0 42 (fun q => absurd q.1 (by decide))
        have t233 := p225 0 59 (fun q => absurd q.1 (by decide))
        have t234 := p225 0 64 (fun q => absurd q.1 (by decide))
        have t235 := p225 59 (Int.toNat 0) (fun q => absurd q.1 (by decide))
        have t236 := p225 59 (Int.toNat ((0 + 1))) (fun q => absurd q.1 (by decide))
        have t237 := p225 59 (Int.toNat (((0 + 1) + 1))) (fun q => absurd q.1 (by decide))
        have t238 := p225 59 (Int.toNat ((((0 + 1) + 1) + 1))) (fun q => absurd q.1 (by decide))
        have t239 := p225 59 (Int.toNat (((((0 + 1) + 1) + 1) + 1))) (fun q => absurd q.1 (by decide))
        have t240 := p225 59 (Int.toNat ((((((0 + 1) + 1) + 1) + 1) + 1))) (fun q => absurd q.1 (by decide))
        have t241 := p225 59 (Int.toNat (((((((0 + 1) + 1) + 1) + 1) + 1) + 1))) (fun q => absurd q.1 (by decide))
        have t242 := p225 59 (Int.toNat ((((((((0 + 1) + 1) + 1) + 1) + 1) + 1) + 1))) (fun q => absurd q.1 (by decide))
        have t243 := p225 59 (Int.toNat (((((((((0 + 1) + 1) + 1) + 1) + 1) + 1) + 1) + 1))) (fun q => absurd q.1 (by decide))
        have f244 := (show 0 ≤ I224 0 1 ∧ I224 0 1 ≤ 8 from (hI224 0 1).1)
        have f245 := (show 0 ≤ I224 0 2 ∧ I224 0 2 ≤ 32 from (hI224 0 2).1)
        have f246 := (show 0 ≤ I224 0 3 ∧ I224 0 3 ≤ 96 from (hI224 0 3).1)
        have f247 := (show 0 ≤ I224 0 4 ∧ I224 0 4 ≤ 8 from (hI224 0 4).1)
        have f248 := (show 0 ≤ I224 0 5 ∧ I224 0 5 ≤ 64 from (hI224 0 5).1)
        have f249 := (show (-1) ≤ I224 0 6 ∧ I224 0 6 ≤ 7 from (hI224 0 6).1)
        have f250 := (show 0 ≤ I224 0 42 ∧ I224 0 42 ≤ 2000 from (hI224 0 42).1)
        have f251 := (show 0 ≤ I224 0 59 ∧ I224 0 59 ≤ 2000 from (hI224 0 59).1)
        have f252 := (show 0 ≤ I224 0 64 ∧ I224 0 64 ≤ 2000 from (hI224 0 64).1)
        have KTM_I224 := gr_TM_fr KTM_I187 (fun k => p225 52 k (fun q => absurd q.1 (by decide))) (fun k => p225 53 k (fun q => absurd q.1 (by decide))) (fun k => p225 54 k (fun q => absurd q.1 (by decide))) (p225 0 64 (fun q => absurd q.1 (by decide)))
        have t253 := FI224 59 (Int.toNat (9 + 7 * v2_12)) rfl
        have t254 := FI224 59 (Int.toNat ((9 + 7 * v2_12) + 1)) rfl
        have t255 := FI224 59 (Int.toNat (((9 + 7 * v2_12) + 1) + 1)) rfl
        have t256 := FI224 59 (Int.toNat ((((9 + 7 * v2_12) + 1) + 1) + 1)) rfl
        have t257 := FI224 59 (Int.toNat (((((9 + 7 * v2_12) + 1) + 1) + 1) + 1)) rfl
        have t258 := FI224 59 (Int.toNat ((((((9 + 7 * v2_12) + 1) + 1) + 1) + 1) + 1)) rfl
        have t259 := FI224 59 (Int.toNat (((((((9 + 7 * v2_12) + 1) + 1) + 1) + 1) + 1) + 1)) rfl
        refine gv_run 7 true hD (pc' := 215) (lv' := [(1, .inl (((((((9 + 7 * v2_12) + 1) + 1) + 1) + 1) + 1) + 1)), (0, .inr (.inr (some 0))), (2, .inl v2_12)]) (st' := [.inl ((((((9 + 7 * v2_12) + 1) + 1) + 1) + 1) + 1), .inr (.inr (some 59)), .inl v2_12, .inr (.inr (some 18))]) (h' := gr_h I224 J11) (C := (((((((True ∧ True) ∧ True) ∧ True) ∧ True) ∧ True) ∧ True) ∧ True)) rfl ⟨⟨⟨⟨⟨⟨⟨trivial, trivial⟩, trivial⟩, trivial⟩, trivial⟩, trivial⟩, trivial⟩, trivial⟩ ?_
        have f260 := (show (-2147483648) ≤ I224 59 (Int.toNat (((((((9 + 7 * v2_12) + 1) + 1) + 1) + 1) + 1))) ∧ I224 59 (Int.toNat (((((((9 + 7 * v2_12) + 1) + 1) + 1) + 1) + 1))) ≤ 2147483647 from (hI224 59 (Int.toNat (((((((9 + 7 * v2_12) + 1) + 1) + 1) + 1) + 1)))).1)
        refine gv_run 1 true hD (pc' := 216) (lv' := [(1, .inl (((((((9 + 7 * v2_12) + 1) + 1) + 1) + 1) + 1) + 1)), (0, .inr (.inr (some 0))), (2, .inl v2_12)]) (st' := [.inl (I224 59 (Int.toNat (((((((9 + 7 * v2_12) + 1) + 1) + 1) + 1) + 1)))), .inl v2_12, .inr (.inr (some 18))]) (h' := gr_h I224 J11) (C := (True ∧ (0 ≤ (((((((9 + 7 * v2_12) + 1) + 1) + 1) + 1) + 1)) ∧ (((((((9 + 7 * v2_12) + 1) + 1) + 1) + 1) + 1)) < ((80 : Nat) : Int)))) rfl ⟨trivial, ⟨by omega, by omega⟩⟩ ?_
        refine gv_run 1 true hD (pc' := 217) (lv' := [(1, .inl (((((((9 + 7 * v2_12) + 1) + 1) + 1) + 1) + 1) + 1)), (0, .inr (.inr (some 0))), (2, .inl v2_12)]) (st' := []) (h' := gz_up (gr_h I224 J11) 18 (Int.toNat v2_12) (.inl ((I224 59 (Int.toNat (((((((9 + 7 * v2_12) + 1) + 1) + 1) + 1) + 1))))))) (C := (True ∧ (0 ≤ v2_12 ∧ v2_12 < ((8 : Nat) : Int)))) rfl ⟨trivial, ⟨by omega, by omega⟩⟩ ?_
        refine gr_st hI224 FI224 rfl rfl ⟨⟨by show 0 ≤ _; omega, by show _ ≤ 64; omega⟩, trivial⟩ (fun I261 hI261 FI261 q262 p262 => ?_)
        have t263 := p262 0 1 (fun q => absurd q.1 (by decide))
        have t264 := p262 0 2 (fun q => absurd q.1 (by decide))
        have t265 := p262 0 3 (fun q => absurd q.1 (by decide))
        have t266 := p262 0 4 (fun q => absurd q.1 (by decide))
        have t267 := p262 0 5 (fun q => absurd q.1 (by decide))
        have t268 := p262 0 6 (fun q => absurd q.1 (by decide))
        have t269 := p262 0 42 (fun q => absurd q.1 (by decide))
        have t270 := p262 0 59 (fun q => absurd q.1 (by decide))
        have t271 := p262 0 64 (fun q => absurd q.1 (by decide))
        have t272 := p262 59 (Int.toNat 0) (fun q => absurd q.1 (by decide))
        have t273 := p262 59 (Int.toNat ((0 + 1))) (fun q => absurd q.1 (by decide))
        have t274 := p262 59 (Int.toNat (((0 + 1) + 1))) (fun q => absurd q.1 (by decide))
        have t275 := p262 59 (Int.toNat ((((0 + 1) + 1) + 1))) (fun q => absurd q.1 (by decide))
        have t276 := p262 59 (Int.toNat (((((0 + 1) + 1) + 1) + 1))) (fun q => absurd q.1 (by decide))
        have t277 := p262 59 (Int.toNat ((((((0 + 1) + 1) + 1) + 1) + 1))) (fun q => absurd q.1 (by decide))
        have t278 := p262 59 (Int.toNat (((((((0 + 1) + 1) + 1) + 1) + 1) + 1))) (fun q => absurd q.1 (by decide))
        have t279 := p262 59 (Int.toNat ((((((((0 + 1) + 1) + 1) + 1) + 1) + 1) + 1))) (fun q => absurd q.1 (by decide))
        have t280 := p262 59 (Int.toNat (((((((((0 + 1) + 1) + 1) + 1) + 1) + 1) + 1) + 1))) (fun q => absurd q.1 (by decide))
        have f281 := (show 0 ≤ I261 0 1 ∧ I261 0 1 ≤ 8 from (hI261 0 1).1)
        have f282 := (show 0 ≤ I261 0 2 ∧ I261 0 2 ≤ 32 from (hI261 0 2).1)
        have f283 := (show 0 ≤ I261 0 3 ∧ I261 0 3 ≤ 96 from (hI261 0 3).1)
        have f284 := (show 0 ≤ I261 0 4 ∧ I261 0 4 ≤ 8 from (hI261 0 4).1)
        have f285 := (show 0 ≤ I261 0 5 ∧ I261 0 5 ≤ 64 from (hI261 0 5).1)
        have f286 := (show (-1) ≤ I261 0 6 ∧ I261 0 6 ≤ 7 from (hI261 0 6).1)
        have f287 := (show 0 ≤ I261 0 42 ∧ I261 0 42 ≤ 2000 from (hI261 0 42).1)
        have f288 := (show 0 ≤ I261 0 59 ∧ I261 0 59 ≤ 2000 from (hI261 0 59).1)
        have f289 := (show 0 ≤ I261 0 64 ∧ I261 0 64 ≤ 2000 from (hI261 0 64).1)
        have KTM_I261 := gr_TM_fr KTM_I224 (fun k => p262 52 k (fun q => absurd q.1 (by decide))) (fun k => p262 53 k (fun q => absurd q.1 (by decide))) (fun k => p262 54 k (fun q => absurd q.1 (by decide))) (p262 0 64 (fun q => absurd q.1 (by decide)))
        have t290 := FI261 59 (Int.toNat (9 + 7 * v2_12)) rfl
        have t291 := FI261 59 (Int.toNat ((9 + 7 * v2_12) + 1)) rfl
        have t292 := FI261 59 (Int.toNat (((9 + 7 * v2_12) + 1) + 1)) rfl
        have t293 := FI261 59 (Int.toNat ((((9 + 7 * v2_12) + 1) + 1) + 1)) rfl
        have t294 := FI261 59 (Int.toNat (((((9 + 7 * v2_12) + 1) + 1) + 1) + 1)) rfl
        have t295 := FI261 59 (Int.toNat ((((((9 + 7 * v2_12) + 1) + 1) + 1) + 1) + 1)) rfl
        have t296 := FI261 59 (Int.toNat (((((((9 + 7 * v2_12) + 1) + 1) + 1) + 1) + 1) + 1)) rfl
        refine gv_run 7 true hD (pc' := 230) (lv' := [(1, .inl ((((((((9 + 7 * v2_12) + 1) + 1) + 1) + 1) + 1) + 1) + 1)), (0, .inr (.inr (some 0))), (2, .inl v2_12)]) (st' := [.inl (((((((9 + 7 * v2_12) + 1) + 1) + 1) + 1) + 1) + 1), .inr (.inr (some 59)), .inl v2_12, .inr (.inr (some 19))]) (h' := gr_h I261 J11) (C := (((((((True ∧ True) ∧ True) ∧ True) ∧ True) ∧ True) ∧ True) ∧ True)) rfl ⟨⟨⟨⟨⟨⟨⟨trivial, trivial⟩, trivial⟩, trivial⟩, trivial⟩, trivial⟩, trivial⟩, trivial⟩ ?_
        have f297 := (show (-2147483648) ≤ I261 59 (Int.toNat ((((((((9 + 7 * v2_12) + 1) + 1) + 1) + 1) + 1) + 1))) ∧ I261 59 (Int.toNat ((((((((9 + 7 * v2_12) + 1) + 1) + 1) + 1) + 1) + 1))) ≤ 2147483647 from (hI261 59 (Int.toNat ((((((((9 + 7 * v2_12) + 1) + 1) + 1) + 1) + 1) + 1)))).1)
        refine gv_run 1 true hD (pc' := 231) (lv' := [(1, .inl ((((((((9 + 7 * v2_12) + 1) + 1) + 1) + 1) + 1) + 1) + 1)), (0, .inr (.inr (some 0))), (2, .inl v2_12)]) (st' := [.inl (I261 59 (Int.toNat ((((((((9 + 7 * v2_12) + 1) + 1) + 1) + 1) + 1) + 1)))), .inl v2_12, .inr (.inr (some 19))]) (h' := gr_h I261 J11) (C := (True ∧ (0 ≤ ((((((((9 + 7 * v2_12) + 1) + 1) + 1) + 1) + 1) + 1)) ∧ ((((((((9 + 7 * v2_12) + 1) + 1) + 1) + 1) + 1) + 1)) < ((80 : Nat) : Int)))) rfl ⟨trivial, ⟨by omega, by omega⟩⟩ ?_
        refine gv_run 1 true hD (pc' := 232) (lv' := [(1, .inl ((((((((9 + 7 * v2_12) + 1) + 1) + 1) + 1) + 1) + 1) + 1)), (0, .inr (.inr (some 0))), (2, .inl v2_12)]) (st' := []) (h' := gz_up (gr_h I261 J11) 19 (Int.toNat v2_12) (.inl ((I261 59 (Int.toNat ((((((((9 + 7 * v2_12) + 1) + 1) + 1) + 1) + 1) + 1))))))) (C := (True ∧ (0 ≤ v2_12 ∧ v2_12 < ((8 : Nat) : Int)))) rfl ⟨trivial, ⟨by omega, by omega⟩⟩ ?_
        refine gr_st hI261 FI261 rfl rfl ⟨⟨by show 0 ≤ _; omega, by show _ ≤ 384; omega⟩, trivial⟩ (fun I298 hI298 FI298 q299 p299 => ?_)
        have t300 := p299 0 1 (fun q => absurd q.1 (by decide))
        have t301 := p299 0 2 (fun q => absurd q.1 (by decide))
        have t302 := p299 0 3 (fun q => absurd q.1 (by decide))
        have t303 := p299 0 4 (fun q => absurd q.1 (by decide))
        have t304 := p299 0 5 (fun q => absurd q.1 (by decide))
        have t305 := p299 0 6 (fun q => absurd q.1 (by decide))
        have t306 := p299 0 42 (fun q => absurd q.1 (by decide))
        have t307 := p299 0 59 (fun q => absurd q.1 (by decide))
        have t308 := p299 0 64 (fun q => absurd q.1 (by decide))
        have t309 := p299 59 (Int.toNat 0) (fun q => absurd q.1 (by decide))
        have t310 := p299 59 (Int.toNat ((0 + 1))) (fun q => absurd q.1 (by decide))
        have t311 := p299 59 (Int.toNat (((0 + 1) + 1))) (fun q => absurd q.1 (by decide))
        have t312 := p299 59 (Int.toNat ((((0 + 1) + 1) + 1))) (fun q => absurd q.1 (by decide))
        have t313 := p299 59 (Int.toNat (((((0 + 1) + 1) + 1) + 1))) (fun q => absurd q.1 (by decide))
        have t314 := p299 59 (Int.toNat ((((((0 + 1) + 1) + 1) + 1) + 1))) (fun q => absurd q.1 (by decide))
        have t315 := p299 59 (Int.toNat (((((((0 + 1) + 1) + 1) + 1) + 1) + 1))) (fun q => absurd q.1 (by decide))
        have t316 := p299 59 (Int.toNat ((((((((0 + 1) + 1) + 1) + 1) + 1) + 1) + 1))) (fun q => absurd q.1 (by decide))
        have t317 := p299 59 (Int.toNat (((((((((0 + 1) + 1) + 1) + 1) + 1) + 1) + 1) + 1))) (fun q => absurd q.1 (by decide))
        have f318 := (show 0 ≤ I298 0 1 ∧ I298 0 1 ≤ 8 from (hI298 0 1).1)
        have f319 := (show 0 ≤ I298 0 2 ∧ I298 0 2 ≤ 32 from (hI298 0 2).1)
        have f320 := (show 0 ≤ I298 0 3 ∧ I298 0 3 ≤ 96 from (hI298 0 3).1)
        have f321 := (show 0 ≤ I298 0 4 ∧ I298 0 4 ≤ 8 from (hI298 0 4).1)
        have f322 := (show 0 ≤ I298 0 5 ∧ I298 0 5 ≤ 64 from (hI298 0 5).1)
        have f323 := (show (-1) ≤ I298 0 6 ∧ I298 0 6 ≤ 7 from (hI298 0 6).1)
        have f324 := (show 0 ≤ I298 0 42 ∧ I298 0 42 ≤ 2000 from (hI298 0 42).1)
        have f325 := (show 0 ≤ I298 0 59 ∧ I298 0 59 ≤ 2000 from (hI298 0 59).1)
        have f326 := (show 0 ≤ I298 0 64 ∧ I298 0 64 ≤ 2000 from (hI298 0 64).1)
        have KTM_I298 := gr_TM_fr KTM_I261 (fun k => p299 52 k (fun q => absurd q.1 (by decide))) (fun k => p299 53 k (fun q => absurd q.1 (by decide))) (fun k => p299 54 k (fun q => absurd q.1 (by decide))) (p299 0 64 (fun q => absurd q.1 (by decide)))
        have t327 := FI298 59 (Int.toNat (9 + 7 * v2_12)) rfl
        have t328 := FI298 59 (Int.toNat ((9 + 7 * v2_12) + 1)) rfl
        have t329 := FI298 59 (Int.toNat (((9 + 7 * v2_12) + 1) + 1)) rfl
        have t330 := FI298 59 (Int.toNat ((((9 + 7 * v2_12) + 1) + 1) + 1)) rfl
        have t331 := FI298 59 (Int.toNat (((((9 + 7 * v2_12) + 1) + 1) + 1) + 1)) rfl
        have t332 := FI298 59 (Int.toNat ((((((9 + 7 * v2_12) + 1) + 1) + 1) + 1) + 1)) rfl
        have t333 := FI298 59 (Int.toNat (((((((9 + 7 * v2_12) + 1) + 1) + 1) + 1) + 1) + 1)) rfl
        refine gv_run 2 true hD (pc' := 121) (lv' := [(2, .inl (v2_12 + 1)), (1, .inl ((((((((9 + 7 * v2_12) + 1) + 1) + 1) + 1) + 1) + 1) + 1)), (0, .inr (.inr (some 0)))]) (st' := []) (h' := gr_h I298 J11) (C := ((True ∧ True) ∧ True)) rfl ⟨⟨trivial, trivial⟩, trivial⟩ ?_
        refine gv_pick [2, 1, 0] rfl ?_
        exact ih121 I298 J11 (((((((((9 + 7 * v2_12) + 1) + 1) + 1) + 1) + 1) + 1) + 1)) (v2_12 + 1) (by omega) hI298 FI298 FJ11 KTM_I298 (by omega) (gr_FT_nx e10_12 (by omega) (fun a j hj => by rw [p299 a j (fun q => by have := q.2; omega), p262 a j (fun q => by have := q.2; omega), p225 a j (fun q => by have := q.2; omega), p188 a j (fun q => by have := q.2; omega), p151 a j (fun q => by have := q.2; omega), p114 a j (fun q => by have := q.2; omega), p77 a j (fun q => by have := q.2; omega)]) ⟨(by rw [p299 13 (Int.toNat v2_12) (fun q => absurd q.1 (by decide)), p262 13 (Int.toNat v2_12) (fun q => absurd q.1 (by decide)), p225 13 (Int.toNat v2_12) (fun q => absurd q.1 (by decide)), p188 13 (Int.toNat v2_12) (fun q => absurd q.1 (by decide)), p151 13 (Int.toNat v2_12) (fun q => absurd q.1 (by decide)), p114 13 (Int.toNat v2_12) (fun q => absurd q.1 (by decide)), q77]; exact FI10 59 (Int.toNat (9 + 7 * v2_12)) rfl), (by rw [p299 14 (Int.toNat v2_12) (fun q => absurd q.1 (by decide)), p262 14 (Int.toNat v2_12) (fun q => absurd q.1 (by decide)), p225 14 (Int.toNat v2_12) (fun q => absurd q.1 (by decide)), p188 14 (Int.toNat v2_12) (fun q => absurd q.1 (by decide)), p151 14 (Int.toNat v2_12) (fun q => absurd q.1 (by decide)), q114]; exact FI76 59 (Int.toNat ((9 + 7 * v2_12) + 1)) rfl), (by rw [p299 15 (Int.toNat v2_12) (fun q => absurd q.1 (by decide)), p262 15 (Int.toNat v2_12) (fun q => absurd q.1 (by decide)), p225 15 (Int.toNat v2_12) (fun q => absurd q.1 (by decide)), p188 15 (Int.toNat v2_12) (fun q => absurd q.1 (by decide)), q151]; exact FI113 59 (Int.toNat (((9 + 7 * v2_12) + 1) + 1)) rfl), (by rw [p299 16 (Int.toNat v2_12) (fun q => absurd q.1 (by decide)), p262 16 (Int.toNat v2_12) (fun q => absurd q.1 (by decide)), p225 16 (Int.toNat v2_12) (fun q => absurd q.1 (by decide)), q188]; exact FI150 59 (Int.toNat ((((9 + 7 * v2_12) + 1) + 1) + 1)) rfl), (by rw [p299 17 (Int.toNat v2_12) (fun q => absurd q.1 (by decide)), p262 17 (Int.toNat v2_12) (fun q => absurd q.1 (by decide)), q225]; exact FI187 59 (Int.toNat (((((9 + 7 * v2_12) + 1) + 1) + 1) + 1)) rfl), (by rw [p299 18 (Int.toNat v2_12) (fun q => absurd q.1 (by decide)), q262]; exact FI224 59 (Int.toNat ((((((9 + 7 * v2_12) + 1) + 1) + 1) + 1) + 1)) rfl), (by rw [q299]; exact FI261 59 (Int.toNat (((((((9 + 7 * v2_12) + 1) + 1) + 1) + 1) + 1) + 1)) rfl)⟩) (fun f => by rw [p299 10 f (fun q => absurd q.1 (by decide)), p262 10 f (fun q => absurd q.1 (by decide)), p225 10 f (fun q => absurd q.1 (by decide)), p188 10 f (fun q => absurd q.1 (by decide)), p151 10 f (fun q => absurd q.1 (by decide)), p114 10 f (fun q => absurd q.1 (by decide)), p77 10 f (fun q => absurd q.1 (by decide))]; exact e11_12 f)
  refine gv_run 7 true hD (pc' := 11) (lv' := [(1, .inl (0 + 1)), (0, .inr (.inr (some 0)))]) (st' := [.inl 0, .inr (.inr (some 59)), .inr (.inr (some 0))]) (h' := gr_h I J) (C := (((((((True ∧ True) ∧ True) ∧ True) ∧ True) ∧ True) ∧ True) ∧ True)) rfl ⟨⟨⟨⟨⟨⟨⟨trivial, trivial⟩, trivial⟩, trivial⟩, trivial⟩, trivial⟩, trivial⟩, trivial⟩ ?_
  have f334 := (show (-2147483648) ≤ I 59 (Int.toNat 0) ∧ I 59 (Int.toNat 0) ≤ 2147483647 from (hI 59 (Int.toNat 0)).1)
  refine gv_run 1 true hD (pc' := 12) (lv' := [(1, .inl (0 + 1)), (0, .inr (.inr (some 0)))]) (st' := [.inl (I 59 (Int.toNat 0)), .inr (.inr (some 0))]) (h' := gr_h I J) (C := (True ∧ (0 ≤ 0 ∧ 0 < ((80 : Nat) : Int)))) rfl ⟨trivial, ⟨by omega, by omega⟩⟩ ?_
  refine gv_run 1 true hD (pc' := 15) (lv' := [(1, .inl (0 + 1)), (0, .inr (.inr (some 0)))]) (st' := []) (h' := gz_up (gr_h I J) 0 1 (.inl ((I 59 (Int.toNat 0))))) (C := (True ∧ True)) rfl ⟨trivial, trivial⟩ ?_
  refine gr_st hI FI rfl rfl ⟨⟨by show 0 ≤ _; omega, by show _ ≤ 8; omega⟩, trivial⟩ (fun I335 hI335 FI335 q336 p336 => ?_)
  have t337 := p336 0 2 (by decide)
  have t338 := p336 0 3 (by decide)
  have t339 := p336 0 4 (by decide)
  have t340 := p336 0 5 (by decide)
  have t341 := p336 0 6 (by decide)
  have t342 := p336 0 42 (by decide)
  have t343 := p336 0 59 (by decide)
  have t344 := p336 0 64 (by decide)
  have t345 := p336 59 (Int.toNat 0) (fun q => absurd q.1 (by decide))
  have t346 := p336 59 (Int.toNat ((0 + 1))) (fun q => absurd q.1 (by decide))
  have t347 := p336 59 (Int.toNat (((0 + 1) + 1))) (fun q => absurd q.1 (by decide))
  have t348 := p336 59 (Int.toNat ((((0 + 1) + 1) + 1))) (fun q => absurd q.1 (by decide))
  have t349 := p336 59 (Int.toNat (((((0 + 1) + 1) + 1) + 1))) (fun q => absurd q.1 (by decide))
  have t350 := p336 59 (Int.toNat ((((((0 + 1) + 1) + 1) + 1) + 1))) (fun q => absurd q.1 (by decide))
  have t351 := p336 59 (Int.toNat (((((((0 + 1) + 1) + 1) + 1) + 1) + 1))) (fun q => absurd q.1 (by decide))
  have t352 := p336 59 (Int.toNat ((((((((0 + 1) + 1) + 1) + 1) + 1) + 1) + 1))) (fun q => absurd q.1 (by decide))
  have t353 := p336 59 (Int.toNat (((((((((0 + 1) + 1) + 1) + 1) + 1) + 1) + 1) + 1))) (fun q => absurd q.1 (by decide))
  have f354 := (show 0 ≤ I335 0 1 ∧ I335 0 1 ≤ 8 from (hI335 0 1).1)
  have f355 := (show 0 ≤ I335 0 2 ∧ I335 0 2 ≤ 32 from (hI335 0 2).1)
  have f356 := (show 0 ≤ I335 0 3 ∧ I335 0 3 ≤ 96 from (hI335 0 3).1)
  have f357 := (show 0 ≤ I335 0 4 ∧ I335 0 4 ≤ 8 from (hI335 0 4).1)
  have f358 := (show 0 ≤ I335 0 5 ∧ I335 0 5 ≤ 64 from (hI335 0 5).1)
  have f359 := (show (-1) ≤ I335 0 6 ∧ I335 0 6 ≤ 7 from (hI335 0 6).1)
  have f360 := (show 0 ≤ I335 0 42 ∧ I335 0 42 ≤ 2000 from (hI335 0 42).1)
  have f361 := (show 0 ≤ I335 0 59 ∧ I335 0 59 ≤ 2000 from (hI335 0 59).1)
  have f362 := (show 0 ≤ I335 0 64 ∧ I335 0 64 ≤ 2000 from (hI335 0 64).1)
  have KTM_I335 := gr_TM_fr KTM_I (fun k => p336 52 k (fun q => absurd q.1 (by decide))) (fun k => p336 53 k (fun q => absurd q.1 (by decide))) (fun k => p336 54 k (fun q => absurd q.1 (by decide))) (p336 0 64 (by decide))
  have f363 := (show (-2147483648) ≤ I335 59 (Int.toNat ((0 + 1))) ∧ I335 59 (Int.toNat ((0 + 1))) ≤ 2147483647 from (hI335 59 (Int.toNat ((0 + 1)))).1)
  refine gv_run 6 true hD (pc' := 25) (lv' := [(1, .inl ((0 + 1) + 1)), (0, .inr (.inr (some 0)))]) (st' := [.inl (I335 59 (Int.toNat ((0 + 1)))), .inr (.inr (some 0))]) (h' := gr_h I335 J) (C := ((((((True ∧ True) ∧ True) ∧ True) ∧ True) ∧ True) ∧ (0 ≤ (0 + 1) ∧ (0 + 1) < ((80 : Nat) : Int)))) rfl ⟨⟨⟨⟨⟨⟨trivial, trivial⟩, trivial⟩, trivial⟩, trivial⟩, trivial⟩, ⟨by omega, by omega⟩⟩ ?_
  refine gv_run 1 true hD (pc' := 28) (lv' := [(1, .inl ((0 + 1) + 1)), (0, .inr (.inr (some 0)))]) (st' := []) (h' := gz_up (gr_h I335 J) 0 2 (.inl ((I335 59 (Int.toNat ((0 + 1))))))) (C := (True ∧ True)) rfl ⟨trivial, trivial⟩ ?_
  refine gr_st hI335 FI335 rfl rfl ⟨⟨by show 0 ≤ _; omega, by show _ ≤ 32; omega⟩, trivial⟩ (fun I364 hI364 FI364 q365 p365 => ?_)
  have t366 := p365 0 1 (by decide)
  have t367 := p365 0 3 (by decide)
  have t368 := p365 0 4 (by decide)
  have t369 := p365 0 5 (by decide)
  have t370 := p365 0 6 (by decide)
  have t371 := p365 0 42 (by decide)
  have t372 := p365 0 59 (by decide)
  have t373 := p365 0 64 (by decide)
  have t374 := p365 59 (Int.toNat 0) (fun q => absurd q.1 (by decide))
  have t375 := p365 59 (Int.toNat ((0 + 1))) (fun q => absurd q.1 (by decide))
  have t376 := p365 59 (Int.toNat (((0 + 1) + 1))) (fun q => absurd q.1 (by decide))
  have t377 := p365 59 (Int.toNat ((((0 + 1) + 1) + 1))) (fun q => absurd q.1 (by decide))
  have t378 := p365 59 (Int.toNat (((((0 + 1) + 1) + 1) + 1))) (fun q => absurd q.1 (by decide))
  have t379 := p365 59 (Int.toNat ((((((0 + 1) + 1) + 1) + 1) + 1))) (fun q => absurd q.1 (by decide))
  have t380 := p365 59 (Int.toNat (((((((0 + 1) + 1) + 1) + 1) + 1) + 1))) (fun q => absurd q.1 (by decide))
  have t381 := p365 59 (Int.toNat ((((((((0 + 1) + 1) + 1) + 1) + 1) + 1) + 1))) (fun q => absurd q.1 (by decide))
  have t382 := p365 59 (Int.toNat (((((((((0 + 1) + 1) + 1) + 1) + 1) + 1) + 1) + 1))) (fun q => absurd q.1 (by decide))
  have f383 := (show 0 ≤ I364 0 1 ∧ I364 0 1 ≤ 8 from (hI364 0 1).1)
  have f384 := (show 0 ≤ I364 0 2 ∧ I364 0 2 ≤ 32 from (hI364 0 2).1)
  have f385 := (show 0 ≤ I364 0 3 ∧ I364 0 3 ≤ 96 from (hI364 0 3).1)
  have f386 := (show 0 ≤ I364 0 4 ∧ I364 0 4 ≤ 8 from (hI364 0 4).1)
  have f387 := (show 0 ≤ I364 0 5 ∧ I364 0 5 ≤ 64 from (hI364 0 5).1)
  have f388 := (show (-1) ≤ I364 0 6 ∧ I364 0 6 ≤ 7 from (hI364 0 6).1)
  have f389 := (show 0 ≤ I364 0 42 ∧ I364 0 42 ≤ 2000 from (hI364 0 42).1)
  have f390 := (show 0 ≤ I364 0 59 ∧ I364 0 59 ≤ 2000 from (hI364 0 59).1)
  have f391 := (show 0 ≤ I364 0 64 ∧ I364 0 64 ≤ 2000 from (hI364 0 64).1)
  have KTM_I364 := gr_TM_fr KTM_I335 (fun k => p365 52 k (fun q => absurd q.1 (by decide))) (fun k => p365 53 k (fun q => absurd q.1 (by decide))) (fun k => p365 54 k (fun q => absurd q.1 (by decide))) (p365 0 64 (by decide))
  have f392 := (show (-2147483648) ≤ I364 59 (Int.toNat (((0 + 1) + 1))) ∧ I364 59 (Int.toNat (((0 + 1) + 1))) ≤ 2147483647 from (hI364 59 (Int.toNat (((0 + 1) + 1)))).1)
  refine gv_run 6 true hD (pc' := 38) (lv' := [(1, .inl (((0 + 1) + 1) + 1)), (0, .inr (.inr (some 0)))]) (st' := [.inl (I364 59 (Int.toNat (((0 + 1) + 1)))), .inr (.inr (some 0))]) (h' := gr_h I364 J) (C := ((((((True ∧ True) ∧ True) ∧ True) ∧ True) ∧ True) ∧ (0 ≤ (((0 + 1) + 1)) ∧ (((0 + 1) + 1)) < ((80 : Nat) : Int)))) rfl ⟨⟨⟨⟨⟨⟨trivial, trivial⟩, trivial⟩, trivial⟩, trivial⟩, trivial⟩, ⟨by omega, by omega⟩⟩ ?_
  refine gv_run 1 true hD (pc' := 41) (lv' := [(1, .inl (((0 + 1) + 1) + 1)), (0, .inr (.inr (some 0)))]) (st' := []) (h' := gz_up (gr_h I364 J) 0 3 (.inl ((I364 59 (Int.toNat (((0 + 1) + 1))))))) (C := (True ∧ True)) rfl ⟨trivial, trivial⟩ ?_
  refine gr_st hI364 FI364 rfl rfl ⟨⟨by show 0 ≤ _; omega, by show _ ≤ 96; omega⟩, trivial⟩ (fun I393 hI393 FI393 q394 p394 => ?_)
  have t395 := p394 0 1 (by decide)
  have t396 := p394 0 2 (by decide)
  have t397 := p394 0 4 (by decide)
  have t398 := p394 0 5 (by decide)
  have t399 := p394 0 6 (by decide)
  have t400 := p394 0 42 (by decide)
  have t401 := p394 0 59 (by decide)
  have t402 := p394 0 64 (by decide)
  have t403 := p394 59 (Int.toNat 0) (fun q => absurd q.1 (by decide))
  have t404 := p394 59 (Int.toNat ((0 + 1))) (fun q => absurd q.1 (by decide))
  have t405 := p394 59 (Int.toNat (((0 + 1) + 1))) (fun q => absurd q.1 (by decide))
  have t406 := p394 59 (Int.toNat ((((0 + 1) + 1) + 1))) (fun q => absurd q.1 (by decide))
  have t407 := p394 59 (Int.toNat (((((0 + 1) + 1) + 1) + 1))) (fun q => absurd q.1 (by decide))
  have t408 := p394 59 (Int.toNat ((((((0 + 1) + 1) + 1) + 1) + 1))) (fun q => absurd q.1 (by decide))
  have t409 := p394 59 (Int.toNat (((((((0 + 1) + 1) + 1) + 1) + 1) + 1))) (fun q => absurd q.1 (by decide))
  have t410 := p394 59 (Int.toNat ((((((((0 + 1) + 1) + 1) + 1) + 1) + 1) + 1))) (fun q => absurd q.1 (by decide))
  have t411 := p394 59 (Int.toNat (((((((((0 + 1) + 1) + 1) + 1) + 1) + 1) + 1) + 1))) (fun q => absurd q.1 (by decide))
  have f412 := (show 0 ≤ I393 0 1 ∧ I393 0 1 ≤ 8 from (hI393 0 1).1)
  have f413 := (show 0 ≤ I393 0 2 ∧ I393 0 2 ≤ 32 from (hI393 0 2).1)
  have f414 := (show 0 ≤ I393 0 3 ∧ I393 0 3 ≤ 96 from (hI393 0 3).1)
  have f415 := (show 0 ≤ I393 0 4 ∧ I393 0 4 ≤ 8 from (hI393 0 4).1)
  have f416 := (show 0 ≤ I393 0 5 ∧ I393 0 5 ≤ 64 from (hI393 0 5).1)
  have f417 := (show (-1) ≤ I393 0 6 ∧ I393 0 6 ≤ 7 from (hI393 0 6).1)
  have f418 := (show 0 ≤ I393 0 42 ∧ I393 0 42 ≤ 2000 from (hI393 0 42).1)
  have f419 := (show 0 ≤ I393 0 59 ∧ I393 0 59 ≤ 2000 from (hI393 0 59).1)
  have f420 := (show 0 ≤ I393 0 64 ∧ I393 0 64 ≤ 2000 from (hI393 0 64).1)
  have KTM_I393 := gr_TM_fr KTM_I364 (fun k => p394 52 k (fun q => absurd q.1 (by decide))) (fun k => p394 53 k (fun q => absurd q.1 (by decide))) (fun k => p394 54 k (fun q => absurd q.1 (by decide))) (p394 0 64 (by decide))
  have f421 := (show (-2147483648) ≤ I393 59 (Int.toNat ((((0 + 1) + 1) + 1))) ∧ I393 59 (Int.toNat ((((0 + 1) + 1) + 1))) ≤ 2147483647 from (hI393 59 (Int.toNat ((((0 + 1) + 1) + 1)))).1)
  refine gv_run 6 true hD (pc' := 51) (lv' := [(1, .inl ((((0 + 1) + 1) + 1) + 1)), (0, .inr (.inr (some 0)))]) (st' := [.inl (I393 59 (Int.toNat ((((0 + 1) + 1) + 1)))), .inr (.inr (some 0))]) (h' := gr_h I393 J) (C := ((((((True ∧ True) ∧ True) ∧ True) ∧ True) ∧ True) ∧ (0 ≤ ((((0 + 1) + 1) + 1)) ∧ ((((0 + 1) + 1) + 1)) < ((80 : Nat) : Int)))) rfl ⟨⟨⟨⟨⟨⟨trivial, trivial⟩, trivial⟩, trivial⟩, trivial⟩, trivial⟩, ⟨by omega, by omega⟩⟩ ?_
  refine gv_run 1 true hD (pc' := 54) (lv' := [(1, .inl ((((0 + 1) + 1) + 1) + 1)), (0, .inr (.inr (some 0)))]) (st' := []) (h' := gz_up (gr_h I393 J) 0 4 (.inl ((I393 59 (Int.toNat ((((0 + 1) + 1) + 1))))))) (C := (True ∧ True)) rfl ⟨trivial, trivial⟩ ?_
  refine gr_st hI393 FI393 rfl rfl ⟨⟨by show 0 ≤ _; omega, by show _ ≤ 8; omega⟩, trivial⟩ (fun I422 hI422 FI422 q423 p423 => ?_)
  have t424 := p423 0 1 (by decide)
  have t425 := p423 0 2 (by decide)
  have t426 := p423 0 3 (by decide)
  have t427 := p423 0 5 (by decide)
  have t428 := p423 0 6 (by decide)
  have t429 := p423 0 42 (by decide)
  have t430 := p423 0 59 (by decide)
  have t431 := p423 0 64 (by decide)
  have t432 := p423 59 (Int.toNat 0) (fun q => absurd q.1 (by decide))
  have t433 := p423 59 (Int.toNat ((0 + 1))) (fun q => absurd q.1 (by decide))
  have t434 := p423 59 (Int.toNat (((0 + 1) + 1))) (fun q => absurd q.1 (by decide))
  have t435 := p423 59 (Int.toNat ((((0 + 1) + 1) + 1))) (fun q => absurd q.1 (by decide))
  have t436 := p423 59 (Int.toNat (((((0 + 1) + 1) + 1) + 1))) (fun q => absurd q.1 (by decide))
  have t437 := p423 59 (Int.toNat ((((((0 + 1) + 1) + 1) + 1) + 1))) (fun q => absurd q.1 (by decide))
  have t438 := p423 59 (Int.toNat (((((((0 + 1) + 1) + 1) + 1) + 1) + 1))) (fun q => absurd q.1 (by decide))
  have t439 := p423 59 (Int.toNat ((((((((0 + 1) + 1) + 1) + 1) + 1) + 1) + 1))) (fun q => absurd q.1 (by decide))
  have t440 := p423 59 (Int.toNat (((((((((0 + 1) + 1) + 1) + 1) + 1) + 1) + 1) + 1))) (fun q => absurd q.1 (by decide))
  have f441 := (show 0 ≤ I422 0 1 ∧ I422 0 1 ≤ 8 from (hI422 0 1).1)
  have f442 := (show 0 ≤ I422 0 2 ∧ I422 0 2 ≤ 32 from (hI422 0 2).1)
  have f443 := (show 0 ≤ I422 0 3 ∧ I422 0 3 ≤ 96 from (hI422 0 3).1)
  have f444 := (show 0 ≤ I422 0 4 ∧ I422 0 4 ≤ 8 from (hI422 0 4).1)
  have f445 := (show 0 ≤ I422 0 5 ∧ I422 0 5 ≤ 64 from (hI422 0 5).1)
  have f446 := (show (-1) ≤ I422 0 6 ∧ I422 0 6 ≤ 7 from (hI422 0 6).1)
  have f447 := (show 0 ≤ I422 0 42 ∧ I422 0 42 ≤ 2000 from (hI422 0 42).1)
  have f448 := (show 0 ≤ I422 0 59 ∧ I422 0 59 ≤ 2000 from (hI422 0 59).1)
  have f449 := (show 0 ≤ I422 0 64 ∧ I422 0 64 ≤ 2000 from (hI422 0 64).1)
  have KTM_I422 := gr_TM_fr KTM_I393 (fun k => p423 52 k (fun q => absurd q.1 (by decide))) (fun k => p423 53 k (fun q => absurd q.1 (by decide))) (fun k => p423 54 k (fun q => absurd q.1 (by decide))) (p423 0 64 (by decide))
  have f450 := (show (-2147483648) ≤ I422 59 (Int.toNat (((((0 + 1) + 1) + 1) + 1))) ∧ I422 59 (Int.toNat (((((0 + 1) + 1) + 1) + 1))) ≤ 2147483647 from (hI422 59 (Int.toNat (((((0 + 1) + 1) + 1) + 1)))).1)
  refine gv_run 6 true hD (pc' := 64) (lv' := [(1, .inl (((((0 + 1) + 1) + 1) + 1) + 1)), (0, .inr (.inr (some 0)))]) (st' := [.inl (I422 59 (Int.toNat (((((0 + 1) + 1) + 1) + 1)))), .inr (.inr (some 0))]) (h' := gr_h I422 J) (C := ((((((True ∧ True) ∧ True) ∧ True) ∧ True) ∧ True) ∧ (0 ≤ (((((0 + 1) + 1) + 1) + 1)) ∧ (((((0 + 1) + 1) + 1) + 1)) < ((80 : Nat) : Int)))) rfl ⟨⟨⟨⟨⟨⟨trivial, trivial⟩, trivial⟩, trivial⟩, trivial⟩, trivial⟩, ⟨by omega, by omega⟩⟩ ?_
  refine gv_run 1 true hD (pc' := 67) (lv' := [(1, .inl (((((0 + 1) + 1) + 1) + 1) + 1)), (0, .inr (.inr (some 0)))]) (st' := []) (h' := gz_up (gr_h I422 J) 0 5 (.inl ((I422 59 (Int.toNat (((((0 + 1) + 1) + 1) + 1))))))) (C := (True ∧ True)) rfl ⟨trivial, trivial⟩ ?_
  refine gr_st hI422 FI422 rfl rfl ⟨⟨by show 0 ≤ _; omega, by show _ ≤ 64; omega⟩, trivial⟩ (fun I451 hI451 FI451 q452 p452 => ?_)
  have t453 := p452 0 1 (by decide)
  have t454 := p452 0 2 (by decide)
  have t455 := p452 0 3 (by decide)
  have t456 := p452 0 4 (by decide)
  have t457 := p452 0 6 (by decide)
  have t458 := p452 0 42 (by decide)
  have t459 := p452 0 59 (by decide)
  have t460 := p452 0 64 (by decide)
  have t461 := p452 59 (Int.toNat 0) (fun q => absurd q.1 (by decide))
  have t462 := p452 59 (Int.toNat ((0 + 1))) (fun q => absurd q.1 (by decide))
  have t463 := p452 59 (Int.toNat (((0 + 1) + 1))) (fun q => absurd q.1 (by decide))
  have t464 := p452 59 (Int.toNat ((((0 + 1) + 1) + 1))) (fun q => absurd q.1 (by decide))
  have t465 := p452 59 (Int.toNat (((((0 + 1) + 1) + 1) + 1))) (fun q => absurd q.1 (by decide))
  have t466 := p452 59 (Int.toNat ((((((0 + 1) + 1) + 1) + 1) + 1))) (fun q => absurd q.1 (by decide))
  have t467 := p452 59 (Int.toNat (((((((0 + 1) + 1) + 1) + 1) + 1) + 1))) (fun q => absurd q.1 (by decide))
  have t468 := p452 59 (Int.toNat ((((((((0 + 1) + 1) + 1) + 1) + 1) + 1) + 1))) (fun q => absurd q.1 (by decide))
  have t469 := p452 59 (Int.toNat (((((((((0 + 1) + 1) + 1) + 1) + 1) + 1) + 1) + 1))) (fun q => absurd q.1 (by decide))
  have f470 := (show 0 ≤ I451 0 1 ∧ I451 0 1 ≤ 8 from (hI451 0 1).1)
  have f471 := (show 0 ≤ I451 0 2 ∧ I451 0 2 ≤ 32 from (hI451 0 2).1)
  have f472 := (show 0 ≤ I451 0 3 ∧ I451 0 3 ≤ 96 from (hI451 0 3).1)
  have f473 := (show 0 ≤ I451 0 4 ∧ I451 0 4 ≤ 8 from (hI451 0 4).1)
  have f474 := (show 0 ≤ I451 0 5 ∧ I451 0 5 ≤ 64 from (hI451 0 5).1)
  have f475 := (show (-1) ≤ I451 0 6 ∧ I451 0 6 ≤ 7 from (hI451 0 6).1)
  have f476 := (show 0 ≤ I451 0 42 ∧ I451 0 42 ≤ 2000 from (hI451 0 42).1)
  have f477 := (show 0 ≤ I451 0 59 ∧ I451 0 59 ≤ 2000 from (hI451 0 59).1)
  have f478 := (show 0 ≤ I451 0 64 ∧ I451 0 64 ≤ 2000 from (hI451 0 64).1)
  have KTM_I451 := gr_TM_fr KTM_I422 (fun k => p452 52 k (fun q => absurd q.1 (by decide))) (fun k => p452 53 k (fun q => absurd q.1 (by decide))) (fun k => p452 54 k (fun q => absurd q.1 (by decide))) (p452 0 64 (by decide))
  have f479 := (show (-2147483648) ≤ I451 59 (Int.toNat ((((((0 + 1) + 1) + 1) + 1) + 1))) ∧ I451 59 (Int.toNat ((((((0 + 1) + 1) + 1) + 1) + 1))) ≤ 2147483647 from (hI451 59 (Int.toNat ((((((0 + 1) + 1) + 1) + 1) + 1)))).1)
  refine gv_run 6 true hD (pc' := 77) (lv' := [(1, .inl ((((((0 + 1) + 1) + 1) + 1) + 1) + 1)), (0, .inr (.inr (some 0)))]) (st' := [.inl (I451 59 (Int.toNat ((((((0 + 1) + 1) + 1) + 1) + 1)))), .inr (.inr (some 0))]) (h' := gr_h I451 J) (C := ((((((True ∧ True) ∧ True) ∧ True) ∧ True) ∧ True) ∧ (0 ≤ ((((((0 + 1) + 1) + 1) + 1) + 1)) ∧ ((((((0 + 1) + 1) + 1) + 1) + 1)) < ((80 : Nat) : Int)))) rfl ⟨⟨⟨⟨⟨⟨trivial, trivial⟩, trivial⟩, trivial⟩, trivial⟩, trivial⟩, ⟨by omega, by omega⟩⟩ ?_
  refine gv_run 1 true hD (pc' := 80) (lv' := [(1, .inl ((((((0 + 1) + 1) + 1) + 1) + 1) + 1)), (0, .inr (.inr (some 0)))]) (st' := []) (h' := gz_up (gr_h I451 J) 0 6 (.inl ((I451 59 (Int.toNat ((((((0 + 1) + 1) + 1) + 1) + 1))))))) (C := (True ∧ True)) rfl ⟨trivial, trivial⟩ ?_
  refine gr_st hI451 FI451 rfl rfl ⟨⟨by show (-1) ≤ _; omega, by show _ ≤ 7; omega⟩, trivial⟩ (fun I480 hI480 FI480 q481 p481 => ?_)
  have t482 := p481 0 1 (by decide)
  have t483 := p481 0 2 (by decide)
  have t484 := p481 0 3 (by decide)
  have t485 := p481 0 4 (by decide)
  have t486 := p481 0 5 (by decide)
  have t487 := p481 0 42 (by decide)
  have t488 := p481 0 59 (by decide)
  have t489 := p481 0 64 (by decide)
  have t490 := p481 59 (Int.toNat 0) (fun q => absurd q.1 (by decide))
  have t491 := p481 59 (Int.toNat ((0 + 1))) (fun q => absurd q.1 (by decide))
  have t492 := p481 59 (Int.toNat (((0 + 1) + 1))) (fun q => absurd q.1 (by decide))
  have t493 := p481 59 (Int.toNat ((((0 + 1) + 1) + 1))) (fun q => absurd q.1 (by decide))
  have t494 := p481 59 (Int.toNat (((((0 + 1) + 1) + 1) + 1))) (fun q => absurd q.1 (by decide))
  have t495 := p481 59 (Int.toNat ((((((0 + 1) + 1) + 1) + 1) + 1))) (fun q => absurd q.1 (by decide))
  have t496 := p481 59 (Int.toNat (((((((0 + 1) + 1) + 1) + 1) + 1) + 1))) (fun q => absurd q.1 (by decide))
  have t497 := p481 59 (Int.toNat ((((((((0 + 1) + 1) + 1) + 1) + 1) + 1) + 1))) (fun q => absurd q.1 (by decide))
  have t498 := p481 59 (Int.toNat (((((((((0 + 1) + 1) + 1) + 1) + 1) + 1) + 1) + 1))) (fun q => absurd q.1 (by decide))
  have f499 := (show 0 ≤ I480 0 1 ∧ I480 0 1 ≤ 8 from (hI480 0 1).1)
  have f500 := (show 0 ≤ I480 0 2 ∧ I480 0 2 ≤ 32 from (hI480 0 2).1)
  have f501 := (show 0 ≤ I480 0 3 ∧ I480 0 3 ≤ 96 from (hI480 0 3).1)
  have f502 := (show 0 ≤ I480 0 4 ∧ I480 0 4 ≤ 8 from (hI480 0 4).1)
  have f503 := (show 0 ≤ I480 0 5 ∧ I480 0 5 ≤ 64 from (hI480 0 5).1)
  have f504 := (show (-1) ≤ I480 0 6 ∧ I480 0 6 ≤ 7 from (hI480 0 6).1)
  have f505 := (show 0 ≤ I480 0 42 ∧ I480 0 42 ≤ 2000 from (hI480 0 42).1)
  have f506 := (show 0 ≤ I480 0 59 ∧ I480 0 59 ≤ 2000 from (hI480 0 59).1)
  have f507 := (show 0 ≤ I480 0 64 ∧ I480 0 64 ≤ 2000 from (hI480 0 64).1)
  have KTM_I480 := gr_TM_fr KTM_I451 (fun k => p481 52 k (fun q => absurd q.1 (by decide))) (fun k => p481 53 k (fun q => absurd q.1 (by decide))) (fun k => p481 54 k (fun q => absurd q.1 (by decide))) (p481 0 64 (by decide))
  have f508 := (show (-2147483648) ≤ I480 59 (Int.toNat (((((((0 + 1) + 1) + 1) + 1) + 1) + 1))) ∧ I480 59 (Int.toNat (((((((0 + 1) + 1) + 1) + 1) + 1) + 1))) ≤ 2147483647 from (hI480 59 (Int.toNat (((((((0 + 1) + 1) + 1) + 1) + 1) + 1)))).1)
  refine gv_run 6 true hD (pc' := 90) (lv' := [(1, .inl (((((((0 + 1) + 1) + 1) + 1) + 1) + 1) + 1)), (0, .inr (.inr (some 0)))]) (st' := [.inl (I480 59 (Int.toNat (((((((0 + 1) + 1) + 1) + 1) + 1) + 1)))), .inr (.inr (some 0))]) (h' := gr_h I480 J) (C := ((((((True ∧ True) ∧ True) ∧ True) ∧ True) ∧ True) ∧ (0 ≤ (((((((0 + 1) + 1) + 1) + 1) + 1) + 1)) ∧ (((((((0 + 1) + 1) + 1) + 1) + 1) + 1)) < ((80 : Nat) : Int)))) rfl ⟨⟨⟨⟨⟨⟨trivial, trivial⟩, trivial⟩, trivial⟩, trivial⟩, trivial⟩, ⟨by omega, by omega⟩⟩ ?_
  refine gv_run 1 true hD (pc' := 93) (lv' := [(1, .inl (((((((0 + 1) + 1) + 1) + 1) + 1) + 1) + 1)), (0, .inr (.inr (some 0)))]) (st' := []) (h' := gz_up (gr_h I480 J) 0 42 (.inl ((I480 59 (Int.toNat (((((((0 + 1) + 1) + 1) + 1) + 1) + 1))))))) (C := (True ∧ True)) rfl ⟨trivial, trivial⟩ ?_
  refine gr_st hI480 FI480 rfl rfl ⟨⟨by show 0 ≤ _; omega, by show _ ≤ 2000; omega⟩, trivial⟩ (fun I509 hI509 FI509 q510 p510 => ?_)
  have t511 := p510 0 1 (by decide)
  have t512 := p510 0 2 (by decide)
  have t513 := p510 0 3 (by decide)
  have t514 := p510 0 4 (by decide)
  have t515 := p510 0 5 (by decide)
  have t516 := p510 0 6 (by decide)
  have t517 := p510 0 59 (by decide)
  have t518 := p510 0 64 (by decide)
  have t519 := p510 59 (Int.toNat 0) (fun q => absurd q.1 (by decide))
  have t520 := p510 59 (Int.toNat ((0 + 1))) (fun q => absurd q.1 (by decide))
  have t521 := p510 59 (Int.toNat (((0 + 1) + 1))) (fun q => absurd q.1 (by decide))
  have t522 := p510 59 (Int.toNat ((((0 + 1) + 1) + 1))) (fun q => absurd q.1 (by decide))
  have t523 := p510 59 (Int.toNat (((((0 + 1) + 1) + 1) + 1))) (fun q => absurd q.1 (by decide))
  have t524 := p510 59 (Int.toNat ((((((0 + 1) + 1) + 1) + 1) + 1))) (fun q => absurd q.1 (by decide))
  have t525 := p510 59 (Int.toNat (((((((0 + 1) + 1) + 1) + 1) + 1) + 1))) (fun q => absurd q.1 (by decide))
  have t526 := p510 59 (Int.toNat ((((((((0 + 1) + 1) + 1) + 1) + 1) + 1) + 1))) (fun q => absurd q.1 (by decide))
  have t527 := p510 59 (Int.toNat (((((((((0 + 1) + 1) + 1) + 1) + 1) + 1) + 1) + 1))) (fun q => absurd q.1 (by decide))
  have f528 := (show 0 ≤ I509 0 1 ∧ I509 0 1 ≤ 8 from (hI509 0 1).1)
  have f529 := (show 0 ≤ I509 0 2 ∧ I509 0 2 ≤ 32 from (hI509 0 2).1)
  have f530 := (show 0 ≤ I509 0 3 ∧ I509 0 3 ≤ 96 from (hI509 0 3).1)
  have f531 := (show 0 ≤ I509 0 4 ∧ I509 0 4 ≤ 8 from (hI509 0 4).1)
  have f532 := (show 0 ≤ I509 0 5 ∧ I509 0 5 ≤ 64 from (hI509 0 5).1)
  have f533 := (show (-1) ≤ I509 0 6 ∧ I509 0 6 ≤ 7 from (hI509 0 6).1)
  have f534 := (show 0 ≤ I509 0 42 ∧ I509 0 42 ≤ 2000 from (hI509 0 42).1)
  have f535 := (show 0 ≤ I509 0 59 ∧ I509 0 59 ≤ 2000 from (hI509 0 59).1)
  have f536 := (show 0 ≤ I509 0 64 ∧ I509 0 64 ≤ 2000 from (hI509 0 64).1)
  have KTM_I509 := gr_TM_fr KTM_I480 (fun k => p510 52 k (fun q => absurd q.1 (by decide))) (fun k => p510 53 k (fun q => absurd q.1 (by decide))) (fun k => p510 54 k (fun q => absurd q.1 (by decide))) (p510 0 64 (by decide))
  have f537 := (show (-2147483648) ≤ I509 59 (Int.toNat ((((((((0 + 1) + 1) + 1) + 1) + 1) + 1) + 1))) ∧ I509 59 (Int.toNat ((((((((0 + 1) + 1) + 1) + 1) + 1) + 1) + 1))) ≤ 2147483647 from (hI509 59 (Int.toNat ((((((((0 + 1) + 1) + 1) + 1) + 1) + 1) + 1)))).1)
  refine gv_run 6 true hD (pc' := 103) (lv' := [(1, .inl ((((((((0 + 1) + 1) + 1) + 1) + 1) + 1) + 1) + 1)), (0, .inr (.inr (some 0)))]) (st' := [.inl (I509 59 (Int.toNat ((((((((0 + 1) + 1) + 1) + 1) + 1) + 1) + 1)))), .inr (.inr (some 0))]) (h' := gr_h I509 J) (C := ((((((True ∧ True) ∧ True) ∧ True) ∧ True) ∧ True) ∧ (0 ≤ ((((((((0 + 1) + 1) + 1) + 1) + 1) + 1) + 1)) ∧ ((((((((0 + 1) + 1) + 1) + 1) + 1) + 1) + 1)) < ((80 : Nat) : Int)))) rfl ⟨⟨⟨⟨⟨⟨trivial, trivial⟩, trivial⟩, trivial⟩, trivial⟩, trivial⟩, ⟨by omega, by omega⟩⟩ ?_
  refine gv_run 1 true hD (pc' := 106) (lv' := [(1, .inl ((((((((0 + 1) + 1) + 1) + 1) + 1) + 1) + 1) + 1)), (0, .inr (.inr (some 0)))]) (st' := []) (h' := gz_up (gr_h I509 J) 0 59 (.inl ((I509 59 (Int.toNat ((((((((0 + 1) + 1) + 1) + 1) + 1) + 1) + 1))))))) (C := (True ∧ True)) rfl ⟨trivial, trivial⟩ ?_
  refine gr_st hI509 FI509 rfl rfl ⟨⟨by show 0 ≤ _; omega, by show _ ≤ 2000; omega⟩, trivial⟩ (fun I538 hI538 FI538 q539 p539 => ?_)
  have t540 := p539 0 1 (by decide)
  have t541 := p539 0 2 (by decide)
  have t542 := p539 0 3 (by decide)
  have t543 := p539 0 4 (by decide)
  have t544 := p539 0 5 (by decide)
  have t545 := p539 0 6 (by decide)
  have t546 := p539 0 42 (by decide)
  have t547 := p539 0 64 (by decide)
  have t548 := p539 59 (Int.toNat 0) (fun q => absurd q.1 (by decide))
  have t549 := p539 59 (Int.toNat ((0 + 1))) (fun q => absurd q.1 (by decide))
  have t550 := p539 59 (Int.toNat (((0 + 1) + 1))) (fun q => absurd q.1 (by decide))
  have t551 := p539 59 (Int.toNat ((((0 + 1) + 1) + 1))) (fun q => absurd q.1 (by decide))
  have t552 := p539 59 (Int.toNat (((((0 + 1) + 1) + 1) + 1))) (fun q => absurd q.1 (by decide))
  have t553 := p539 59 (Int.toNat ((((((0 + 1) + 1) + 1) + 1) + 1))) (fun q => absurd q.1 (by decide))
  have t554 := p539 59 (Int.toNat (((((((0 + 1) + 1) + 1) + 1) + 1) + 1))) (fun q => absurd q.1 (by decide))
  have t555 := p539 59 (Int.toNat ((((((((0 + 1) + 1) + 1) + 1) + 1) + 1) + 1))) (fun q => absurd q.1 (by decide))
  have t556 := p539 59 (Int.toNat (((((((((0 + 1) + 1) + 1) + 1) + 1) + 1) + 1) + 1))) (fun q => absurd q.1 (by decide))
  have f557 := (show 0 ≤ I538 0 1 ∧ I538 0 1 ≤ 8 from (hI538 0 1).1)
  have f558 := (show 0 ≤ I538 0 2 ∧ I538 0 2 ≤ 32 from (hI538 0 2).1)
  have f559 := (show 0 ≤ I538 0 3 ∧ I538 0 3 ≤ 96 from (hI538 0 3).1)
  have f560 := (show 0 ≤ I538 0 4 ∧ I538 0 4 ≤ 8 from (hI538 0 4).1)
  have f561 := (show 0 ≤ I538 0 5 ∧ I538 0 5 ≤ 64 from (hI538 0 5).1)
  have f562 := (show (-1) ≤ I538 0 6 ∧ I538 0 6 ≤ 7 from (hI538 0 6).1)
  have f563 := (show 0 ≤ I538 0 42 ∧ I538 0 42 ≤ 2000 from (hI538 0 42).1)
  have f564 := (show 0 ≤ I538 0 59 ∧ I538 0 59 ≤ 2000 from (hI538 0 59).1)
  have f565 := (show 0 ≤ I538 0 64 ∧ I538 0 64 ≤ 2000 from (hI538 0 64).1)
  have KTM_I538 := gr_TM_fr KTM_I509 (fun k => p539 52 k (fun q => absurd q.1 (by decide))) (fun k => p539 53 k (fun q => absurd q.1 (by decide))) (fun k => p539 54 k (fun q => absurd q.1 (by decide))) (p539 0 64 (by decide))
  have f566 := (show (-2147483648) ≤ I538 59 (Int.toNat (((((((((0 + 1) + 1) + 1) + 1) + 1) + 1) + 1) + 1))) ∧ I538 59 (Int.toNat (((((((((0 + 1) + 1) + 1) + 1) + 1) + 1) + 1) + 1))) ≤ 2147483647 from (hI538 59 (Int.toNat (((((((((0 + 1) + 1) + 1) + 1) + 1) + 1) + 1) + 1)))).1)
  refine gv_run 6 true hD (pc' := 116) (lv' := [(1, .inl (((((((((0 + 1) + 1) + 1) + 1) + 1) + 1) + 1) + 1) + 1)), (0, .inr (.inr (some 0)))]) (st' := [.inl (I538 59 (Int.toNat (((((((((0 + 1) + 1) + 1) + 1) + 1) + 1) + 1) + 1)))), .inr (.inr (some 0))]) (h' := gr_h I538 J) (C := ((((((True ∧ True) ∧ True) ∧ True) ∧ True) ∧ True) ∧ (0 ≤ (((((((((0 + 1) + 1) + 1) + 1) + 1) + 1) + 1) + 1)) ∧ (((((((((0 + 1) + 1) + 1) + 1) + 1) + 1) + 1) + 1)) < ((80 : Nat) : Int)))) rfl ⟨⟨⟨⟨⟨⟨trivial, trivial⟩, trivial⟩, trivial⟩, trivial⟩, trivial⟩, ⟨by omega, by omega⟩⟩ ?_
  refine gv_run 1 true hD (pc' := 119) (lv' := [(1, .inl (((((((((0 + 1) + 1) + 1) + 1) + 1) + 1) + 1) + 1) + 1)), (0, .inr (.inr (some 0)))]) (st' := []) (h' := gz_up (gr_h I538 J) 0 64 (.inl ((I538 59 (Int.toNat (((((((((0 + 1) + 1) + 1) + 1) + 1) + 1) + 1) + 1))))))) (C := (True ∧ True)) rfl ⟨trivial, trivial⟩ ?_
  refine gr_st hI538 FI538 rfl rfl ⟨⟨by show 0 ≤ _; omega, by show _ ≤ 2000; omega⟩, trivial⟩ (fun I567 hI567 FI567 q568 p568 => ?_)
  have t569 := p568 0 1 (by decide)
  have t570 := p568 0 2 (by decide)
  have t571 := p568 0 3 (by decide)
  have t572 := p568 0 4 (by decide)
  have t573 := p568 0 5 (by decide)
  have t574 := p568 0 6 (by decide)
  have t575 := p568 0 42 (by decide)
  have t576 := p568 0 59 (by decide)
  have t577 := p568 59 (Int.toNat 0) (fun q => absurd q.1 (by decide))
  have t578 := p568 59 (Int.toNat ((0 + 1))) (fun q => absurd q.1 (by decide))
  have t579 := p568 59 (Int.toNat (((0 + 1) + 1))) (fun q => absurd q.1 (by decide))
  have t580 := p568 59 (Int.toNat ((((0 + 1) + 1) + 1))) (fun q => absurd q.1 (by decide))
  have t581 := p568 59 (Int.toNat (((((0 + 1) + 1) + 1) + 1))) (fun q => absurd q.1 (by decide))
  have t582 := p568 59 (Int.toNat ((((((0 + 1) + 1) + 1) + 1) + 1))) (fun q => absurd q.1 (by decide))
  have t583 := p568 59 (Int.toNat (((((((0 + 1) + 1) + 1) + 1) + 1) + 1))) (fun q => absurd q.1 (by decide))
  have t584 := p568 59 (Int.toNat ((((((((0 + 1) + 1) + 1) + 1) + 1) + 1) + 1))) (fun q => absurd q.1 (by decide))
  have t585 := p568 59 (Int.toNat (((((((((0 + 1) + 1) + 1) + 1) + 1) + 1) + 1) + 1))) (fun q => absurd q.1 (by decide))
  have f586 := (show 0 ≤ I567 0 1 ∧ I567 0 1 ≤ 8 from (hI567 0 1).1)
  have f587 := (show 0 ≤ I567 0 2 ∧ I567 0 2 ≤ 32 from (hI567 0 2).1)
  have f588 := (show 0 ≤ I567 0 3 ∧ I567 0 3 ≤ 96 from (hI567 0 3).1)
  have f589 := (show 0 ≤ I567 0 4 ∧ I567 0 4 ≤ 8 from (hI567 0 4).1)
  have f590 := (show 0 ≤ I567 0 5 ∧ I567 0 5 ≤ 64 from (hI567 0 5).1)
  have f591 := (show (-1) ≤ I567 0 6 ∧ I567 0 6 ≤ 7 from (hI567 0 6).1)
  have f592 := (show 0 ≤ I567 0 42 ∧ I567 0 42 ≤ 2000 from (hI567 0 42).1)
  have f593 := (show 0 ≤ I567 0 59 ∧ I567 0 59 ≤ 2000 from (hI567 0 59).1)
  have f594 := (show 0 ≤ I567 0 64 ∧ I567 0 64 ≤ 2000 from (hI567 0 64).1)
  have KTM_I567 := gr_TM_n (n := (Int.toNat (I 0 64))) KTM_I538 p568 (by omega)
  refine gv_run 2 true hD (pc' := 121) (lv' := [(2, .inl 0), (1, .inl (((((((((0 + 1) + 1) + 1) + 1) + 1) + 1) + 1) + 1) + 1)), (0, .inr (.inr (some 0)))]) (st' := []) (h' := gr_h I567 J) (C := ((True ∧ True) ∧ True)) rfl ⟨⟨trivial, trivial⟩, trivial⟩ ?_
  refine gv_pick [2, 1, 0] rfl ?_
  exact L121 _ I567 J ((((((((((0 + 1) + 1) + 1) + 1) + 1) + 1) + 1) + 1) + 1)) 0 (Nat.lt_succ_self _) hI567 FI567 FJ KTM_I567 (by omega) (fun t a b => by omega) (fun f => by rw [p568 10 f (fun q => absurd q.1 (by decide)), p539 10 f (fun q => absurd q.1 (by decide)), p510 10 f (fun q => absurd q.1 (by decide)), p481 10 f (fun q => absurd q.1 (by decide)), p452 10 f (fun q => absurd q.1 (by decide)), p423 10 f (fun q => absurd q.1 (by decide)), p394 10 f (fun q => absurd q.1 (by decide)), p365 10 f (fun q => absurd q.1 (by decide)), p336 10 f (fun q => absurd q.1 (by decide))])
set_option maxHeartbeats 4000000 in
set_option maxRecDepth 100000 in
theorem r_module_v {ws0 : List Cond} {tb : String → gz_T} (hws : ∀ w ∈ gr_ws, w ∈ ws0) (htb : tb RX13 = gr_T) (ext : gz_Sh) (B : Int) (hB : B ≤ 1500) (I : gr_I) (J : gr_J) (hI : gr_Inv I)   (x0 : I 0 59 + I 0 68 ≤ 1900) (x1 : I 0 42 + I 0 68 ≤ 1900) (x2 : I 0 64 + I 0 68 ≤ 1900) (x3 : I 0 100 ≤ 999999) (KTM_I : gr_TM I) (KVF_I : gr_VF I) (KLE_I : gr_LE B I) (KGR_I : gr_GR I) (KTO_I : gr_TO I) (KFM_I : gr_FM I) : ∃ r h', gz_Ev ws0 tb 101 (yX13_module, cX13_module, 2, (some .int)) [.inr (.inr (some 0))] (gr_sh ++ ext) (gr_h I J) r (gr_sh ++ ext) h' 0 0 ∧ (∃ (I' : gr_I) (J' : gr_J), h' = gr_h I' J' ∧ gr_Inv I' ∧ gr_fr [0, 1, 2, 3, 4, 5, 6, 42, 59, 64, 68, 69, 71, 72, 73, 74, 75, 76, 77, 78, 79, 99, 100, 101, 104, 106, 118, 119, 120, 122, 123] [1, 2, 3, 4, 5, 6, 7, 8, 9, 10, 11, 12, 13, 14, 15, 16, 17, 18, 19, 20, 21, 22, 23, 24, 25, 26, 27, 28, 29, 30, 31, 32, 33, 34, 35, 36, 37, 38, 39, 40, 41, 42, 43, 44, 45, 46, 47, 48, 49, 50, 51, 52, 53, 54, 55, 56, 57, 59, 60, 61, 62, 63, 64, 65, 66, 67, 68, 69, 70, 71, 72, 73, 74, 75] I I' ∧ gr_fj [0, 1, 2, 3, 4, 5, 6, 42, 59, 64, 68, 69, 71, 72, 73, 74, 75, 76, 77, 78, 79, 99, 100, 101, 104, 106, 118, 119, 120, 122, 123] [1, 2, 3, 4, 5, 6, 7, 8, 9, 10, 11, 12, 13, 14, 15, 16, 17, 18, 19, 20, 21, 22, 23, 24, 25, 26, 27, 28, 29, 30, 31, 32, 33, 34, 35, 36, 37, 38, 39, 40, 41, 42, 43, 44, 45, 46, 47, 48, 49, 50, 51, 52, 53, 54, 55, 56, 57, 59, 60, 61, 62, 63, 64, 65, 66, 67, 68, 69, 70, 71, 72, 73, 74, 75] J J' ∧ gr_TM I' ∧ gr_VF I' ∧ gr_LE B I' ∧ gr_GR I' ∧ gr_TO I' ∧ gr_FM I' ∧ (∃ z : Int, r = some (.inl z) ∧ (-1002) ≤ z ∧ z ≤ 1000 ∧ (I' 0 59 ≤ I 0 59 + I 0 68) ∧ (I' 0 42 ≤ I 0 42 + I 0 68) ∧ (I' 0 64 ≤ I 0 64 + I 0 68) ∧ (I' 0 68 = 0) ∧ (I' 0 100 ≤ I 0 100 + 1) ∧ (gr_ST I I'))) := by
  have FI : gr_fr [0, 1, 2, 3, 4, 5, 6, 42, 59, 64, 68, 69, 71, 72, 73, 74, 75, 76, 77, 78, 79, 99, 100, 101, 104, 106, 118, 119, 120, 122, 123] [1, 2, 3, 4, 5, 6, 7, 8, 9, 10, 11, 12, 13, 14, 15, 16, 17, 18, 19, 20, 21, 22, 23, 24, 25, 26, 27, 28, 29, 30, 31, 32, 33, 34, 35, 36, 37, 38, 39, 40, 41, 42, 43, 44, 45, 46, 47, 48, 49, 50, 51, 52, 53, 54, 55, 56, 57, 59, 60, 61, 62, 63, 64, 65, 66, 67, 68, 69, 70, 71, 72, 73, 74, 75] I I := fun _ _ _ => rfl
  have FJ : gr_fj [0, 1, 2, 3, 4, 5, 6, 42, 59, 64, 68, 69, 71, 72, 73, 74, 75, 76, 77, 78, 79, 99, 100, 101, 104, 106, 118, 119, 120, 122, 123] [1, 2, 3, 4, 5, 6, 7, 8, 9, 10, 11, 12, 13, 14, 15, 16, 17, 18, 19, 20, 21, 22, 23, 24, 25, 26, 27, 28, 29, 30, 31, 32, 33, 34, 35, 36, 37, 38, 39, 40, 41, 42, 43, 44, 45, 46, 47, 48, 49, 50, 51, 52, 53, 54, 55, 56, 57, 59, 60, 61, 62, 63, 64, 65, 66, 67, 68, 69, 70, 71, 72, 73, 74, 75] J J := fun _ _ _ => rfl
  have hD : gv_D (gr_E ws0 tb 100 (yX13_module, cX13_module, 2, (some .int)) kX13_module) := gq_ok oX13_module
  refine gr_ev (d := 100) (l := kX13_module) (Po := fun r h' => (∃ (I' : gr_I) (J' : gr_J), h' = gr_h I' J' ∧ gr_Inv I' ∧ gr_fr [0, 1, 2, 3, 4, 5, 6, 42, 59, 64, 68, 69, 71, 72, 73, 74, 75, 76, 77, 78, 79, 99, 100, 101, 104, 106, 118, 119, 120, 122, 123] [1, 2, 3, 4, 5, 6, 7, 8, 9, 10, 11, 12, 13, 14, 15, 16, 17, 18, 19, 20, 21, 22, 23, 24, 25, 26, 27, 28, 29, 30, 31, 32, 33, 34, 35, 36, 37, 38, 39, 40, 41, 42, 43, 44, 45, 46, 47, 48, 49, 50, 51, 52, 53, 54, 55, 56, 57, 59, 60, 61, 62, 63, 64, 65, 66, 67, 68, 69, 70, 71, 72, 73, 74, 75] I I' ∧ gr_fj [0, 1, 2, 3, 4, 5, 6, 42, 59, 64, 68, 69, 71, 72, 73, 74, 75, 76, 77, 78, 79, 99, 100, 101, 104, 106, 118, 119, 120, 122, 123] [1, 2, 3, 4, 5, 6, 7, 8, 9, 10, 11, 12, 13, 14, 15, 16, 17, 18, 19, 20, 21, 22, 23, 24, 25, 26, 27, 28, 29, 30, 31, 32, 33, 34, 35, 36, 37, 38, 39, 40, 41, 42, 43, 44, 45, 46, 47, 48, 49, 50, 51, 52, 53, 54, 55, 56, 57, 59, 60, 61, 62, 63, 64, 65, 66, 67, 68, 69, 70, 71, 72, 73, 74, 75] J J' ∧ gr_TM I' ∧ gr_VF I' ∧ gr_LE B I' ∧ gr_GR I' ∧ gr_TO I' ∧ gr_FM I' ∧ (∃ z : Int, r = some (.inl z) ∧ (-1002) ≤ z ∧ z ≤ 1000 ∧ (I' 0 59 ≤ I 0 59 + I 0 68) ∧ (I' 0 42 ≤ I 0 42 + I 0 68) ∧ (I' 0 64 ≤ I 0 64 + I 0 68) ∧ (I' 0 68 = 0) ∧ (I' 0 100 ≤ I 0 100 + 1) ∧ (gr_ST I I')))) htb rfl (Nat.le_of_ble_eq_true rfl) ?_
  obtain ⟨I9, hI9⟩ : ∃ I9 : gr_I, I9 = I := ⟨I, rfl⟩
  have f1 := (show 0 ≤ I 0 71 ∧ I 0 71 ≤ 5 from (hI 0 71).1)
  have f2 := (show 0 ≤ I 0 72 ∧ I 0 72 ≤ 1000 from (hI 0 72).1)
  have f3 := (show 0 ≤ I 0 73 ∧ I 0 73 ≤ 1001 from (hI 0 73).1)
  have f4 := (show 0 ≤ I 0 69 ∧ I 0 69 ≤ 1000 from (hI 0 69).1)
  have f5 := (show 0 ≤ I 0 68 ∧ I 0 68 ≤ 1000 from (hI 0 68).1)
  have f6 := (show 0 ≤ I 0 99 ∧ I 0 99 ≤ 1000 from (hI 0 99).1)
  have f7 := (show 0 ≤ I 0 100 ∧ I 0 100 ≤ 1000000 from (hI 0 100).1)
  have f8 := (show 0 ≤ I 0 1 ∧ I 0 1 ≤ 8 from (hI 0 1).1)
  have f9 := (show 0 ≤ I 0 2 ∧ I 0 2 ≤ 32 from (hI 0 2).1)
  have f10 := (show 0 ≤ I 0 3 ∧ I 0 3 ≤ 96 from (hI 0 3).1)
  have f11 := (show 0 ≤ I 0 4 ∧ I 0 4 ≤ 8 from (hI 0 4).1)
  have f12 := (show 0 ≤ I 0 5 ∧ I 0 5 ≤ 64 from (hI 0 5).1)
  have f13 := (show (-1) ≤ I 0 6 ∧ I 0 6 ≤ 7 from (hI 0 6).1)
  have f14 := (show 0 ≤ I 0 42 ∧ I 0 42 ≤ 2000 from (hI 0 42).1)
  have f15 := (show 0 ≤ I 0 59 ∧ I 0 59 ≤ 2000 from (hI 0 59).1)
  have f16 := (show 0 ≤ I 0 64 ∧ I 0 64 ≤ 2000 from (hI 0 64).1)
  have f17 := (show 0 ≤ I 0 3 ∧ I 0 3 ≤ 96 from (hI 0 3).1)
  have L29 : ∀ (n : Nat) (I18 : gr_I) (J19 : gr_J) (v1_20 : Int), (1001 - I18 0 72).toNat < n → gr_Inv I18 → gr_fr [0, 1, 2, 3, 4, 5, 6, 42, 59, 64, 68, 69, 71, 72, 73, 74, 75, 76, 77, 78, 79, 99, 100, 101, 104, 106, 118, 119, 120, 122, 123] [1, 2, 3, 4, 5, 6, 7, 8, 9, 10, 11, 12, 13, 14, 15, 16, 17, 18, 19, 20, 21, 22, 23, 24, 25, 26, 27, 28, 29, 30, 31, 32, 33, 34, 35, 36, 37, 38, 39, 40, 41, 42, 43, 44, 45, 46, 47, 48, 49, 50, 51, 52, 53, 54, 55, 56, 57, 59, 60, 61, 62, 63, 64, 65, 66, 67, 68, 69, 70, 71, 72, 73, 74, 75] I I18 → gr_fj [0, 1, 2, 3, 4, 5, 6, 42, 59, 64, 68, 69, 71, 72, 73, 74, 75, 76, 77, 78, 79, 99, 100, 101, 104, 106, 118, 119, 120, 122, 123] [1, 2, 3, 4, 5, 6, 7, 8, 9, 10, 11, 12, 13, 14, 15, 16, 17, 18, 19, 20, 21, 22, 23, 24, 25, 26, 27, 28, 29, 30, 31, 32, 33, 34, 35, 36, 37, 38, 39, 40, 41, 42, 43, 44, 45, 46, 47, 48, 49, 50, 51, 52, 53, 54, 55, 56, 57, 59, 60, 61, 62, 63, 64, 65, 66, 67, 68, 69, 70, 71, 72, 73, 74, 75] J J19 → gr_TM I18 → gr_VF I18 → gr_LN B I18 → gr_RT8 I I18 → gr_GR I18 → gr_ST I9 I18 → gr_TO I18 → gr_FM I18 → gr_MQ I9 I18 → ((0 ≤ v1_20 ∧ v1_20 ≤ 1000) ∧ (I18 0 71 = 5 ∨ I18 0 73 ≤ I18 0 69) ∧ (I18 0 72 ≤ I18 0 69) ∧ (I18 0 71 = 0 ∨ (I18 0 72 < I18 0 73 ∧ I18 0 72 < I18 0 69)) ∧ (I18 0 71 = 3 → 2 ≤ I18 0 73 - I18 0 72 ∧ I18 0 73 - I18 0 72 ≤ 14) ∧ (I18 0 72 ≤ I18 0 73) ∧ (I18 0 69 = I 0 68) ∧ (I18 0 68 = 0) ∧ (I18 0 100 = I 0 100) ∧ (v1_20 ≤ I18 0 72) ∧ (I 0 64 ≤ I18 0 64) ∧ (I18 0 99 ≤ I18 0 72) ∧ (I18 0 59 - I18 0 72 ≤ I 0 59) ∧ (I18 0 42 - I18 0 72 ≤ I 0 42) ∧ (I18 0 64 - I18 0 72 ≤ I 0 64) ∧ (I18 59 (Int.toNat 0) = I 0 1) ∧ (I18 59 (Int.toNat ((0 + 1))) = I 0 2) ∧ (I18 59 (Int.toNat (((0 + 1) + 1))) = I 0 3) ∧ (I18 59 (Int.toNat ((((0 + 1) + 1) + 1))) = I 0 4) ∧ (I18 59 (Int.toNat (((((0 + 1) + 1) + 1) + 1))) = I 0 5) ∧ (I18 59 (Int.toNat ((((((0 + 1) + 1) + 1) + 1) + 1))) = I 0 6) ∧ (I18 59 (Int.toNat (((((((0 + 1) + 1) + 1) + 1) + 1) + 1))) = I 0 42) ∧ (I18 59 (Int.toNat ((((((((0 + 1) + 1) + 1) + 1) + 1) + 1) + 1))) = I 0 59) ∧ (I18 59 (Int.toNat (((((((((0 + 1) + 1) + 1) + 1) + 1) + 1) + 1) + 1))) = I 0 64)) → gv_X (gr_E ws0 tb 100 (yX13_module, cX13_module, 2, (some .int)) kX13_module) (gv_Q cX13_module (some .int) (gr_sh ++ ext) (fun r h' => (∃ (I' : gr_I) (J' : gr_J), h' = gr_h I' J' ∧ gr_Inv I' ∧ gr_fr [0, 1, 2, 3, 4, 5, 6, 42, 59, 64, 68, 69, 71, 72, 73, 74, 75, 76, 77, 78, 79, 99, 100, 101, 104, 106, 118, 119, 120, 122, 123] [1, 2, 3, 4, 5, 6, 7, 8, 9, 10, 11, 12, 13, 14, 15, 16, 17, 18, 19, 20, 21, 22, 23, 24, 25, 26, 27, 28, 29, 30, 31, 32, 33, 34, 35, 36, 37, 38, 39, 40, 41, 42, 43, 44, 45, 46, 47, 48, 49, 50, 51, 52, 53, 54, 55, 56, 57, 59, 60, 61, 62, 63, 64, 65, 66, 67, 68, 69, 70, 71, 72, 73, 74, 75] I I' ∧ gr_fj [0, 1, 2, 3, 4, 5, 6, 42, 59, 64, 68, 69, 71, 72, 73, 74, 75, 76, 77, 78, 79, 99, 100, 101, 104, 106, 118, 119, 120, 122, 123] [1, 2, 3, 4, 5, 6, 7, 8, 9, 10, 11, 12, 13, 14, 15, 16, 17, 18, 19, 20, 21, 22, 23, 24, 25, 26, 27, 28, 29, 30, 31, 32, 33, 34, 35, 36, 37, 38, 39, 40, 41, 42, 43, 44, 45, 46, 47, 48, 49, 50, 51, 52, 53, 54, 55, 56, 57, 59, 60, 61, 62, 63, 64, 65, 66, 67, 68, 69, 70, 71, 72, 73, 74, 75] J J' ∧ gr_TM I' ∧ gr_VF I' ∧ gr_LE B I' ∧ gr_GR I' ∧ gr_TO I' ∧ gr_FM I' ∧ (∃ z : Int, r = some (.inl z) ∧ (-1002) ≤ z ∧ z ≤ 1000 ∧ (I' 0 59 ≤ I 0 59 + I 0 68) ∧ (I' 0 42 ≤ I 0 42 + I 0 68) ∧ (I' 0 64 ≤ I 0 64 + I 0 68) ∧ (I' 0 68 = 0) ∧ (I' 0 100 ≤ I 0 100 + 1) ∧ (gr_ST I I'))))) (29, [(0, .inr (.inr (some 0))), (1, .inl v1_20)], [], gr_sh ++ ext, gr_h I18 J19) := by
    intro n
    induction n with
    | zero => intro I18 J19 v1_20 hn; omega
    | succ n ih29 =>
      intro I18 J19 v1_20 hn hI18 FI18 FJ19 KTM_I18 KVF_I18 KLN_I18 KRT_I18 KGR_I18 KST_I18 KTO_I18 KFM_I18 KMQ_I18 m_20
      obtain ⟨hv1_20, e0_20, e1_20, e2_20, e3_20, e4_20, e5_20, e6_20, e7_20, e8_20, e9_20, e10_20, e11_20, e12_20, e13_20, e14_20, e15_20, e16_20, e17_20, e18_20, e19_20, e20_20, e21_20, e22_20⟩ := m_20
      have f21 := (show 0 ≤ I18 0 71 ∧ I18 0 71 ≤ 5 from (hI18 0 71).1)
      have f22 := (show 0 ≤ I18 0 72 ∧ I18 0 72 ≤ 1000 from (hI18 0 72).1)
      have f23 := (show 0 ≤ I18 0 73 ∧ I18 0 73 ≤ 1001 from (hI18 0 73).1)
      have f24 := (show 0 ≤ I18 0 69 ∧ I18 0 69 ≤ 1000 from (hI18 0 69).1)
      have f25 := (show 0 ≤ I18 0 68 ∧ I18 0 68 ≤ 1000 from (hI18 0 68).1)
      have f26 := (show 0 ≤ I18 0 99 ∧ I18 0 99 ≤ 1000 from (hI18 0 99).1)
      have f27 := (show 0 ≤ I18 0 100 ∧ I18 0 100 ≤ 1000000 from (hI18 0 100).1)
      have f28 := (show 0 ≤ I18 0 1 ∧ I18 0 1 ≤ 8 from (hI18 0 1).1)
      have f29 := (show 0 ≤ I18 0 2 ∧ I18 0 2 ≤ 32 from (hI18 0 2).1)
      have f30 := (show 0 ≤ I18 0 3 ∧ I18 0 3 ≤ 96 from (hI18 0 3).1)
      have f31 := (show 0 ≤ I18 0 4 ∧ I18 0 4 ≤ 8 from (hI18 0 4).1)
      have f32 := (show 0 ≤ I18 0 5 ∧ I18 0 5 ≤ 64 from (hI18 0 5).1)
      have f33 := (show (-1) ≤ I18 0 6 ∧ I18 0 6 ≤ 7 from (hI18 0 6).1)
      have f34 := (show 0 ≤ I18 0 42 ∧ I18 0 42 ≤ 2000 from (hI18 0 42).1)
      have f35 := (show 0 ≤ I18 0 59 ∧ I18 0 59 ≤ 2000 from (hI18 0 59).1)
      have f36 := (show 0 ≤ I18 0 64 ∧ I18 0 64 ≤ 2000 from (hI18 0 64).1)
      have f37 := (show 0 ≤ I18 0 3 ∧ I18 0 3 ≤ 96 from (hI18 0 3).1)
      have f38 := (show 0 ≤ I18 0 71 ∧ I18 0 71 ≤ 5 from (hI18 0 71).1)
      refine gv_run 2 true hD (pc' := 33) (lv' := [(0, .inr (.inr (some 0))), (1, .inl v1_20)]) (st' := [.inl (I18 0 71)]) (h' := gr_h I18 J19) (C := ((True ∧ True) ∧ True)) rfl ⟨⟨trivial, trivial⟩, trivial⟩ ?_
      refine gv_if_eq (t := 68) hD rfl rfl ⟨by omega, by omega⟩ (fun c39 => ?_) (fun c39 => ?_)
      · refine gv_run 3 true hD (pc' := 73) (lv' := [(0, .inr (.inr (some 0))), (1, .inl v1_20)]) (st' := []) (h' := gz_up (gr_h I18 J19) 0 79 (.inl 0)) (C := (((True ∧ True) ∧ True) ∧ True)) rfl ⟨⟨⟨trivial, trivial⟩, trivial⟩, trivial⟩ ?_
        refine gr_st hI18 FI18 rfl rfl ⟨⟨by show 0 ≤ _; omega, by show _ ≤ 6; omega⟩, trivial⟩ (fun I40 hI40 FI40 q41 p41 => ?_)
        have t42 := p41 0 71 (by decide)
        have t43 := p41 0 72 (by decide)
        have t44 := p41 0 73 (by decide)
        have t45 := p41 0 69 (by decide)
        have t46 := p41 0 68 (by decide)
        have t47 := p41 0 99 (by decide)
        have t48 := p41 0 100 (by decide)
        have t49 := p41 0 1 (by decide)
        have t50 := p41 0 2 (by decide)
        have t51 := p41 0 3 (by decide)
        have t52 := p41 0 4 (by decide)
        have t53 := p41 0 5 (by decide)
        have t54 := p41 0 6 (by decide)
        have t55 := p41 0 42 (by decide)
        have t56 := p41 0 59 (by decide)
        have t57 := p41 0 64 (by decide)
        have t58 := p41 0 3 (by decide)
        have t59 := p41 59 (Int.toNat 0) (fun q => absurd q.1 (by decide))
        have t60 := p41 59 (Int.toNat ((0 + 1))) (fun q => absurd q.1 (by decide))
        have t61 := p41 59 (Int.toNat (((0 + 1) + 1))) (fun q => absurd q.1 (by decide))
        have t62 := p41 59 (Int.toNat ((((0 + 1) + 1) + 1))) (fun q => absurd q.1 (by decide))
        have t63 := p41 59 (Int.toNat (((((0 + 1) + 1) + 1) + 1))) (fun q => absurd q.1 (by decide))
        have t64 := p41 59 (Int.toNat ((((((0 + 1) + 1) + 1) + 1) + 1))) (fun q => absurd q.1 (by decide))
        have t65 := p41 59 (Int.toNat (((((((0 + 1) + 1) + 1) + 1) + 1) + 1))) (fun q => absurd q.1 (by decide))
        have t66 := p41 59 (Int.toNat ((((((((0 + 1) + 1) + 1) + 1) + 1) + 1) + 1))) (fun q => absurd q.1 (by decide))
        have t67 := p41 59 (Int.toNat (((((((((0 + 1) + 1) + 1) + 1) + 1) + 1) + 1) + 1))) (fun q => absurd q.1 (by decide))
        have f68 := (show 0 ≤ I40 0 71 ∧ I40 0 71 ≤ 5 from (hI40 0 71).1)
        have f69 := (show 0 ≤ I40 0 72 ∧ I40 0 72 ≤ 1000 from (hI40 0 72).1)
        have f70 := (show 0 ≤ I40 0 73 ∧ I40 0 73 ≤ 1001 from (hI40 0 73).1)
        have f71 := (show 0 ≤ I40 0 69 ∧ I40 0 69 ≤ 1000 from (hI40 0 69).1)
        have f72 := (show 0 ≤ I40 0 68 ∧ I40 0 68 ≤ 1000 from (hI40 0 68).1)
        have f73 := (show 0 ≤ I40 0 99 ∧ I40 0 99 ≤ 1000 from (hI40 0 99).1)
        have f74 := (show 0 ≤ I40 0 100 ∧ I40 0 100 ≤ 1000000 from (hI40 0 100).1)
        have f75 := (show 0 ≤ I40 0 1 ∧ I40 0 1 ≤ 8 from (hI40 0 1).1)
        have f76 := (show 0 ≤ I40 0 2 ∧ I40 0 2 ≤ 32 from (hI40 0 2).1)
        have f77 := (show 0 ≤ I40 0 3 ∧ I40 0 3 ≤ 96 from (hI40 0 3).1)
        have f78 := (show 0 ≤ I40 0 4 ∧ I40 0 4 ≤ 8 from (hI40 0 4).1)
        have f79 := (show 0 ≤ I40 0 5 ∧ I40 0 5 ≤ 64 from (hI40 0 5).1)
        have f80 := (show (-1) ≤ I40 0 6 ∧ I40 0 6 ≤ 7 from (hI40 0 6).1)
        have f81 := (show 0 ≤ I40 0 42 ∧ I40 0 42 ≤ 2000 from (hI40 0 42).1)
        have f82 := (show 0 ≤ I40 0 59 ∧ I40 0 59 ≤ 2000 from (hI40 0 59).1)
        have f83 := (show 0 ≤ I40 0 64 ∧ I40 0 64 ≤ 2000 from (hI40 0 64).1)
        have f84 := (show 0 ≤ I40 0 3 ∧ I40 0 3 ≤ 96 from (hI40 0 3).1)
        have KTM_I40 := gr_TM_fr KTM_I18 (fun k => p41 52 k (fun q => absurd q.1 (by decide))) (fun k => p41 53 k (fun q => absurd q.1 (by decide))) (fun k => p41 54 k (fun q => absurd q.1 (by decide))) (p41 0 64 (by decide))
        have KVF_I40 := gr_VF_fr KVF_I18 (fun k => p41 14 k (fun q => absurd q.1 (by decide))) (fun k => p41 13 k (fun q => absurd q.1 (by decide)))
        have KGR_I40 := gr_GR_fr KGR_I18 (fun k => p41 19 k (fun q => absurd q.1 (by decide))) (fun k => p41 18 k (fun q => absurd q.1 (by decide))) (fun k => p41 36 k (fun q => absurd q.1 (by decide))) (fun k => p41 41 k (fun q => absurd q.1 (by decide))) (fun k => p41 42 k (fun q => absurd q.1 (by decide))) (fun k => p41 43 k (fun q => absurd q.1 (by decide))) (fun k => p41 45 k (fun q => absurd q.1 (by decide))) (fun k => p41 46 k (fun q => absurd q.1 (by decide))) (fun k => p41 47 k (fun q => absurd q.1 (by decide))) (fun k => p41 6 k (fun q => absurd q.1 (by decide))) (fun k => p41 7 k (fun q => absurd q.1 (by decide))) (fun k => p41 8 k (fun q => absurd q.1 (by decide))) (p41 0 3 (by decide))
        have KTO_I40 := gr_TO_fr KTO_I18 (fun k => p41 52 k (fun q => absurd q.1 (by decide))) (fun k => p41 53 k (fun q => absurd q.1 (by decide))) (fun k => p41 54 k (fun q => absurd q.1 (by decide))) (fun k => p41 55 k (fun q => absurd q.1 (by decide))) (fun k => p41 6 k (fun q => absurd q.1 (by decide))) (p41 0 64 (by decide)) (p41 0 3 (by decide))
        have KFM_I40 := gr_FM_fr KFM_I18 (fun k => p41 10 k (fun q => absurd q.1 (by decide))) (fun k => p41 55 k (fun q => absurd q.1 (by decide))) (fun k => p41 52 k (fun q => absurd q.1 (by decide))) (fun k => p41 53 k (fun q => absurd q.1 (by decide))) (fun k => p41 54 k (fun q => absurd q.1 (by decide))) (p41 0 64 (by decide)) (p41 0 3 (by decide))
        have KLN_I40 := gr_LN_fr KLN_I18 (fun k => p41 19 k (fun q => absurd q.1 (by decide))) (by omega) (by omega)
        have KRT_I40 := gr_RT8_fr KRT_I18 (fun k => p41 59 k (fun q => absurd q.1 (by decide)))
        have KST_I40 := gr_ST_fr KST_I18 (fun k => p41 6 k (fun q => absurd q.1 (by decide))) (fun k => p41 19 k (fun q => absurd q.1 (by decide))) (fun k => p41 18 k (fun q => absurd q.1 (by decide))) (fun k => p41 41 k (fun q => absurd q.1 (by decide))) (fun k => p41 36 k (fun q => absurd q.1 (by decide))) (p41 0 3 (by decide))
        have KMQ_I40 := gr_MQ_fr KMQ_I18 (fun k => p41 10 k (fun q => absurd q.1 (by decide))) (fun k => p41 55 k (fun q => absurd q.1 (by decide))) (fun k => p41 52 k (fun q => absurd q.1 (by decide))) (fun k => p41 53 k (fun q => absurd q.1 (by decide))) (fun k => p41 54 k (fun q => absurd q.1 (by decide))) (fun k => p41 60 k (fun q => absurd q.1 (by decide))) (p41 0 64 (by decide)) (p41 0 3 (by decide)) (p41 0 99 (by decide))
        have f85 := (show 0 ≤ I40 0 100 ∧ I40 0 100 ≤ 1000000 from (hI40 0 100).1)
        refine gv_run 5 true hD (pc' := 80) (lv' := [(0, .inr (.inr (some 0))), (1, .inl v1_20)]) (st' := [.inl ((I40 0 100) + 1), .inr (.inr (some 0))]) (h' := gr_h I40 J19) (C := (((((True ∧ True) ∧ True) ∧ True) ∧ True) ∧ True)) rfl ⟨⟨⟨⟨⟨trivial, trivial⟩, trivial⟩, trivial⟩, trivial⟩, trivial⟩ ?_
        refine gv_run 1 true hD (pc' := 83) (lv' := [(0, .inr (.inr (some 0))), (1, .inl v1_20)]) (st' := []) (h' := gz_up (gr_h I40 J19) 0 100 (.inl (((I40 0 100) + 1)))) (C := (True ∧ True)) rfl ⟨trivial, trivial⟩ ?_
        refine gr_st hI40 FI40 rfl rfl ⟨⟨by show 0 ≤ _; omega, by show _ ≤ 1000000; omega⟩, trivial⟩ (fun I86 hI86 FI86 q87 p87 => ?_)
        have t88 := p87 0 71 (by decide)
        have t89 := p87 0 72 (by decide)
        have t90 := p87 0 73 (by decide)
        have t91 := p87 0 69 (by decide)
        have t92 := p87 0 68 (by decide)
        have t93 := p87 0 99 (by decide)
        have t94 := p87 0 1 (by decide)
        have t95 := p87 0 2 (by decide)
        have t96 := p87 0 3 (by decide)
        have t97 := p87 0 4 (by decide)
        have t98 := p87 0 5 (by decide)
        have t99 := p87 0 6 (by decide)
        have t100 := p87 0 42 (by decide)
        have t101 := p87 0 59 (by decide)
        have t102 := p87 0 64 (by decide)
        have t103 := p87 0 3 (by decide)
        have t104 := p87 59 (Int.toNat 0) (fun q => absurd q.1 (by decide))
        have t105 := p87 59 (Int.toNat ((0 + 1))) (fun q => absurd q.1 (by decide))
        have t106 := p87 59 (Int.toNat (((0 + 1) + 1))) (fun q => absurd q.1 (by decide))
        have t107 := p87 59 (Int.toNat ((((0 + 1) + 1) + 1))) (fun q => absurd q.1 (by decide))
        have t108 := p87 59 (Int.toNat (((((0 + 1) + 1) + 1) + 1))) (fun q => absurd q.1 (by decide))
        have t109 := p87 59 (Int.toNat ((((((0 + 1) + 1) + 1) + 1) + 1))) (fun q => absurd q.1 (by decide))
        have t110 := p87 59 (Int.toNat (((((((0 + 1) + 1) + 1) + 1) + 1) + 1))) (fun q => absurd q.1 (by decide))
        have t111 := p87 59 (Int.toNat ((((((((0 + 1) + 1) + 1) + 1) + 1) + 1) + 1))) (fun q => absurd q.1 (by decide))
        have t112 := p87 59 (Int.toNat (((((((((0 + 1) + 1) + 1) + 1) + 1) + 1) + 1) + 1))) (fun q => absurd q.1 (by decide))
        have f113 := (show 0 ≤ I86 0 71 ∧ I86 0 71 ≤ 5 from (hI86 0 71).1)
        have f114 := (show 0 ≤ I86 0 72 ∧ I86 0 72 ≤ 1000 from (hI86 0 72).1)
        have f115 := (show 0 ≤ I86 0 73 ∧ I86 0 73 ≤ 1001 from (hI86 0 73).1)
        have f116 := (show 0 ≤ I86 0 69 ∧ I86 0 69 ≤ 1000 from (hI86 0 69).1)
        have f117 := (show 0 ≤ I86 0 68 ∧ I86 0 68 ≤ 1000 from (hI86 0 68).1)
        have f118 := (show 0 ≤ I86 0 99 ∧ I86 0 99 ≤ 1000 from (hI86 0 99).1)
        have f119 := (show 0 ≤ I86 0 100 ∧ I86 0 100 ≤ 1000000 from (hI86 0 100).1)
        have f120 := (show 0 ≤ I86 0 1 ∧ I86 0 1 ≤ 8 from (hI86 0 1).1)
        have f121 := (show 0 ≤ I86 0 2 ∧ I86 0 2 ≤ 32 from (hI86 0 2).1)
        have f122 := (show 0 ≤ I86 0 3 ∧ I86 0 3 ≤ 96 from (hI86 0 3).1)
        have f123 := (show 0 ≤ I86 0 4 ∧ I86 0 4 ≤ 8 from (hI86 0 4).1)
        have f124 := (show 0 ≤ I86 0 5 ∧ I86 0 5 ≤ 64 from (hI86 0 5).1)
        have f125 := (show (-1) ≤ I86 0 6 ∧ I86 0 6 ≤ 7 from (hI86 0 6).1)
        have f126 := (show 0 ≤ I86 0 42 ∧ I86 0 42 ≤ 2000 from (hI86 0 42).1)
        have f127 := (show 0 ≤ I86 0 59 ∧ I86 0 59 ≤ 2000 from (hI86 0 59).1)
        have f128 := (show 0 ≤ I86 0 64 ∧ I86 0 64 ≤ 2000 from (hI86 0 64).1)
        have f129 := (show 0 ≤ I86 0 3 ∧ I86 0 3 ≤ 96 from (hI86 0 3).1)
        have KTM_I86 := gr_TM_fr KTM_I40 (fun k => p87 52 k (fun q => absurd q.1 (by decide))) (fun k => p87 53 k (fun q => absurd q.1 (by decide))) (fun k => p87 54 k (fun q => absurd q.1 (by decide))) (p87 0 64 (by decide))
        have KVF_I86 := gr_VF_fr KVF_I40 (fun k => p87 14 k (fun q => absurd q.1 (by decide))) (fun k => p87 13 k (fun q => absurd q.1 (by decide)))
        have KGR_I86 := gr_GR_fr KGR_I40 (fun k => p87 19 k (fun q => absurd q.1 (by decide))) (fun k => p87 18 k (fun q => absurd q.1 (by decide))) (fun k => p87 36 k (fun q => absurd q.1 (by decide))) (fun k => p87 41 k (fun q => absurd q.1 (by decide))) (fun k => p87 42 k (fun q => absurd q.1 (by decide))) (fun k => p87 43 k (fun q => absurd q.1 (by decide))) (fun k => p87 45 k (fun q => absurd q.1 (by decide))) (fun k => p87 46 k (fun q => absurd q.1 (by decide))) (fun k => p87 47 k (fun q => absurd q.1 (by decide))) (fun k => p87 6 k (fun q => absurd q.1 (by decide))) (fun k => p87 7 k (fun q => absurd q.1 (by decide))) (fun k => p87 8 k (fun q => absurd q.1 (by decide))) (p87 0 3 (by decide))
        have KTO_I86 := gr_TO_fr KTO_I40 (fun k => p87 52 k (fun q => absurd q.1 (by decide))) (fun k => p87 53 k (fun q => absurd q.1 (by decide))) (fun k => p87 54 k (fun q => absurd q.1 (by decide))) (fun k => p87 55 k (fun q => absurd q.1 (by decide))) (fun k => p87 6 k (fun q => absurd q.1 (by decide))) (p87 0 64 (by decide)) (p87 0 3 (by decide))
        have KFM_I86 := gr_FM_fr KFM_I40 (fun k => p87 10 k (fun q => absurd q.1 (by decide))) (fun k => p87 55 k (fun q => absurd q.1 (by decide))) (fun k => p87 52 k (fun q => absurd q.1 (by decide))) (fun k => p87 53 k (fun q => absurd q.1 (by decide))) (fun k => p87 54 k (fun q => absurd q.1 (by decide))) (p87 0 64 (by decide)) (p87 0 3 (by decide))
        have KLN_I86 := gr_LN_fr KLN_I40 (fun k => p87 19 k (fun q => absurd q.1 (by decide))) (by omega) (by omega)
        have KRT_I86 := gr_RT8_fr KRT_I40 (fun k => p87 59 k (fun q => absurd q.1 (by decide)))
        have KST_I86 := gr_ST_fr KST_I40 (fun k => p87 6 k (fun q => absurd q.1 (by decide))) (fun k => p87 19 k (fun q => absurd q.1 (by decide))) (fun k => p87 18 k (fun q => absurd q.1 (by decide))) (fun k => p87 41 k (fun q => absurd q.1 (by decide))) (fun k => p87 36 k (fun q => absurd q.1 (by decide))) (p87 0 3 (by decide))
        have KMQ_I86 := gr_MQ_fr KMQ_I40 (fun k => p87 10 k (fun q => absurd q.1 (by decide))) (fun k => p87 55 k (fun q => absurd q.1 (by decide))) (fun k => p87 52 k (fun q => absurd q.1 (by decide))) (fun k => p87 53 k (fun q => absurd q.1 (by decide))) (fun k => p87 54 k (fun q => absurd q.1 (by decide))) (fun k => p87 60 k (fun q => absurd q.1 (by decide))) (p87 0 64 (by decide)) (p87 0 3 (by decide)) (p87 0 99 (by decide))
        refine gv_run 1 true hD (pc' := 84) (lv' := [(0, .inr (.inr (some 0))), (1, .inl v1_20)]) (st' := [.inl v1_20]) (h' := gr_h I86 J19) (C := (True ∧ True)) rfl ⟨trivial, trivial⟩ ?_
        exact gv_iret hD rfl ⟨I86, J19, rfl, hI86, FI86, FJ19, KTM_I86, KVF_I86, gr_LE_of KLN_I86 (fun _ => rfl) (by omega) (by omega), KGR_I86, KTO_I86, KFM_I86, ⟨_, rfl, by omega, by omega, by omega, by omega, by omega, by omega, by omega, (by rw [← hI9]; exact KST_I86)⟩⟩
      · refine gv_run 1 true hD (pc' := 37) (lv' := [(0, .inr (.inr (some 0))), (1, .inl v1_20)]) (st' := [.inr (.inr (some 0))]) (h' := gr_h I18 J19) (C := (True ∧ True)) rfl ⟨trivial, trivial⟩ ?_
        obtain ⟨r130, h130, E130, P130⟩ := r_statement_v (ws0 := ws0) (tb := tb) hws htb ext B (by omega) I9 I18 J19 hI18   (by omega) (by omega) (by omega) (by omega) (by omega) (by omega) (by omega) (by omega) (by omega) (by rw [hI9]; omega) KTM_I18 KVF_I18 KLN_I18 KGR_I18 KST_I18 KTO_I18 KFM_I18 KMQ_I18
        obtain ⟨I131, J132, rfl, hI131, g130, k130, KTM_I131, KVF_I131, KLN_I131, KGR_I131, KST_I131, KTO_I131, KFM_I131, KMQ_I131, ⟨z130, rfl, q130⟩⟩ := P130
        have FI131 := gr_frt FI18 g130 rfl rfl
        have FJ132 := gr_fjt FJ19 k130 rfl rfl
        have t133 := g130 0 69 rfl
        have t134 := g130 0 68 rfl
        have t135 := g130 0 100 rfl
        have t136 := g130 59 (Int.toNat 0) rfl
        have t137 := g130 59 (Int.toNat ((0 + 1))) rfl
        have t138 := g130 59 (Int.toNat (((0 + 1) + 1))) rfl
        have t139 := g130 59 (Int.toNat ((((0 + 1) + 1) + 1))) rfl
        have t140 := g130 59 (Int.toNat (((((0 + 1) + 1) + 1) + 1))) rfl
        have t141 := g130 59 (Int.toNat ((((((0 + 1) + 1) + 1) + 1) + 1))) rfl
        have t142 := g130 59 (Int.toNat (((((((0 + 1) + 1) + 1) + 1) + 1) + 1))) rfl
        have t143 := g130 59 (Int.toNat ((((((((0 + 1) + 1) + 1) + 1) + 1) + 1) + 1))) rfl
        have t144 := g130 59 (Int.toNat (((((((((0 + 1) + 1) + 1) + 1) + 1) + 1) + 1) + 1))) rfl
        have f145 := (show 0 ≤ I131 0 71 ∧ I131 0 71 ≤ 5 from (hI131 0 71).1)
        have f146 := (show 0 ≤ I131 0 72 ∧ I131 0 72 ≤ 1000 from (hI131 0 72).1)
        have f147 := (show 0 ≤ I131 0 73 ∧ I131 0 73 ≤ 1001 from (hI131 0 73).1)
        have f148 := (show 0 ≤ I131 0 69 ∧ I131 0 69 ≤ 1000 from (hI131 0 69).1)
        have f149 := (show 0 ≤ I131 0 68 ∧ I131 0 68 ≤ 1000 from (hI131 0 68).1)
        have f150 := (show 0 ≤ I131 0 99 ∧ I131 0 99 ≤ 1000 from (hI131 0 99).1)
        have f151 := (show 0 ≤ I131 0 100 ∧ I131 0 100 ≤ 1000000 from (hI131 0 100).1)
        have f152 := (show 0 ≤ I131 0 1 ∧ I131 0 1 ≤ 8 from (hI131 0 1).1)
        have f153 := (show 0 ≤ I131 0 2 ∧ I131 0 2 ≤ 32 from (hI131 0 2).1)
        have f154 := (show 0 ≤ I131 0 3 ∧ I131 0 3 ≤ 96 from (hI131 0 3).1)
        have f155 := (show 0 ≤ I131 0 4 ∧ I131 0 4 ≤ 8 from (hI131 0 4).1)
        have f156 := (show 0 ≤ I131 0 5 ∧ I131 0 5 ≤ 64 from (hI131 0 5).1)
        have f157 := (show (-1) ≤ I131 0 6 ∧ I131 0 6 ≤ 7 from (hI131 0 6).1)
        have f158 := (show 0 ≤ I131 0 42 ∧ I131 0 42 ≤ 2000 from (hI131 0 42).1)
        have f159 := (show 0 ≤ I131 0 59 ∧ I131 0 59 ≤ 2000 from (hI131 0 59).1)
        have f160 := (show 0 ≤ I131 0 64 ∧ I131 0 64 ≤ 2000 from (hI131 0 64).1)
        have f161 := (show 0 ≤ I131 0 3 ∧ I131 0 3 ≤ 96 from (hI131 0 3).1)
        have KRT_I131 := gr_RT8_fr KRT_I18 (fun k => g130 59 k rfl)
        refine gv_callV hD rfl (As := []) (st := []) rfl (by decide) rfl rfl (gr_lV hws rfl) (Nat.le_of_ble_eq_true rfl) (gz_Ev_mono (d := 100) (by decide) E130) ?_
        show gv_X _ _ (40, [(0, .inr (.inr (some 0))), (1, .inl v1_20)], [.inl z130], gr_sh ++ ext, gr_h I131 J132)
        refine gv_if_ne (t := 62) hD rfl rfl ⟨by omega, by omega⟩ (fun c162 => ?_) (fun c162 => ?_)
        · refine gv_run 2 true hD (pc' := 29) (lv' := [(1, .inl (v1_20 + 1)), (0, .inr (.inr (some 0)))]) (st' := []) (h' := gr_h I131 J132) (C := ((True ∧ True) ∧ True)) rfl ⟨⟨trivial, trivial⟩, trivial⟩ ?_
          refine gv_pick [1, 0] rfl ?_
          exact ih29 I131 J132 (v1_20 + 1) (by omega) hI131 FI131 FJ132 KTM_I131 KVF_I131 KLN_I131 KRT_I131 KGR_I131 KST_I131 KTO_I131 KFM_I131 KMQ_I131 (by omega)
        · refine gv_run 1 true hD (pc' := 44) (lv' := [(0, .inr (.inr (some 0))), (1, .inl v1_20)]) (st' := [.inr (.inr (some 0))]) (h' := gr_h I131 J132) (C := (True ∧ True)) rfl ⟨trivial, trivial⟩ ?_
          obtain ⟨r163, h163, E163, P163⟩ := r_forget_v (ws0 := ws0) (tb := tb) hws htb ext I131 J132 hI131   (by omega) (by omega) (by omega) (by omega) (by omega) (by omega) (by omega) (by omega) (by omega) (by omega) (gr_HT_of KRT_I131 hI) KTM_I131
          obtain ⟨I164, J165, rfl, hI164, g163, k163, KTM_I164, ⟨rfl, q163⟩⟩ := P163
          have FI164 := gr_frt FI131 g163 rfl rfl
          have FJ165 := gr_fjt FJ132 k163 rfl rfl
          have t166 := g163 0 71 rfl
          have t167 := g163 0 72 rfl
          have t168 := g163 0 73 rfl
          have t169 := g163 0 69 rfl
          have t170 := g163 0 68 rfl
          have t171 := g163 0 99 rfl
          have t172 := g163 0 100 rfl
          have t173 := g163 59 (Int.toNat 0) rfl
          have t174 := g163 59 (Int.toNat ((0 + 1))) rfl
          have t175 := g163 59 (Int.toNat (((0 + 1) + 1))) rfl
          have t176 := g163 59 (Int.toNat ((((0 + 1) + 1) + 1))) rfl
          have t177 := g163 59 (Int.toNat (((((0 + 1) + 1) + 1) + 1))) rfl
          have t178 := g163 59 (Int.toNat ((((((0 + 1) + 1) + 1) + 1) + 1))) rfl
          have t179 := g163 59 (Int.toNat (((((((0 + 1) + 1) + 1) + 1) + 1) + 1))) rfl
          have t180 := g163 59 (Int.toNat ((((((((0 + 1) + 1) + 1) + 1) + 1) + 1) + 1))) rfl
          have t181 := g163 59 (Int.toNat (((((((((0 + 1) + 1) + 1) + 1) + 1) + 1) + 1) + 1))) rfl
          have f182 := (show 0 ≤ I164 0 71 ∧ I164 0 71 ≤ 5 from (hI164 0 71).1)
          have f183 := (show 0 ≤ I164 0 72 ∧ I164 0 72 ≤ 1000 from (hI164 0 72).1)
          have f184 := (show 0 ≤ I164 0 73 ∧ I164 0 73 ≤ 1001 from (hI164 0 73).1)
          have f185 := (show 0 ≤ I164 0 69 ∧ I164 0 69 ≤ 1000 from (hI164 0 69).1)
          have f186 := (show 0 ≤ I164 0 68 ∧ I164 0 68 ≤ 1000 from (hI164 0 68).1)
          have f187 := (show 0 ≤ I164 0 99 ∧ I164 0 99 ≤ 1000 from (hI164 0 99).1)
          have f188 := (show 0 ≤ I164 0 100 ∧ I164 0 100 ≤ 1000000 from (hI164 0 100).1)
          have f189 := (show 0 ≤ I164 0 1 ∧ I164 0 1 ≤ 8 from (hI164 0 1).1)
          have f190 := (show 0 ≤ I164 0 2 ∧ I164 0 2 ≤ 32 from (hI164 0 2).1)
          have f191 := (show 0 ≤ I164 0 3 ∧ I164 0 3 ≤ 96 from (hI164 0 3).1)
          have f192 := (show 0 ≤ I164 0 4 ∧ I164 0 4 ≤ 8 from (hI164 0 4).1)
          have f193 := (show 0 ≤ I164 0 5 ∧ I164 0 5 ≤ 64 from (hI164 0 5).1)
          have f194 := (show (-1) ≤ I164 0 6 ∧ I164 0 6 ≤ 7 from (hI164 0 6).1)
          have f195 := (show 0 ≤ I164 0 42 ∧ I164 0 42 ≤ 2000 from (hI164 0 42).1)
          have f196 := (show 0 ≤ I164 0 59 ∧ I164 0 59 ≤ 2000 from (hI164 0 59).1)
          have f197 := (show 0 ≤ I164 0 64 ∧ I164 0 64 ≤ 2000 from (hI164 0 64).1)
          have f198 := (show 0 ≤ I164 0 3 ∧ I164 0 3 ≤ 96 from (hI164 0 3).1)
          have KRT_I164 := gr_RT8_fr KRT_I131 (fun k => g163 59 k rfl)
          refine gv_callV hD rfl (As := []) (st := []) rfl (by decide) rfl rfl (gr_lV hws rfl) (Nat.le_of_ble_eq_true rfl) (gz_Ev_mono (d := 1) (by decide) E163) ?_
          show gv_X _ _ (47, [(0, .inr (.inr (some 0))), (1, .inl v1_20)], [], gr_sh ++ ext, gr_h I164 J165)
          have f199 := (show 0 ≤ I164 0 76 ∧ I164 0 76 ≤ 6 from (hI164 0 76).1)
          refine gv_run 3 true hD (pc' := 52) (lv' := [(0, .inr (.inr (some 0))), (1, .inl v1_20)]) (st' := [.inl (I164 0 76), .inr (.inr (some 0))]) (h' := gr_h I164 J165) (C := (((True ∧ True) ∧ True) ∧ True)) rfl ⟨⟨⟨trivial, trivial⟩, trivial⟩, trivial⟩ ?_
          refine gv_run 1 true hD (pc' := 55) (lv' := [(0, .inr (.inr (some 0))), (1, .inl v1_20)]) (st' := []) (h' := gz_up (gr_h I164 J165) 0 79 (.inl (I164 0 76))) (C := (True ∧ True)) rfl ⟨trivial, trivial⟩ ?_
          refine gr_st hI164 FI164 rfl rfl ⟨⟨by show 0 ≤ _; omega, by show _ ≤ 6; omega⟩, trivial⟩ (fun I200 hI200 FI200 q201 p201 => ?_)
          have t202 := p201 0 71 (by decide)
          have t203 := p201 0 72 (by decide)
          have t204 := p201 0 73 (by decide)
          have t205 := p201 0 69 (by decide)
          have t206 := p201 0 68 (by decide)
          have t207 := p201 0 99 (by decide)
          have t208 := p201 0 100 (by decide)
          have t209 := p201 0 1 (by decide)
          have t210 := p201 0 2 (by decide)
          have t211 := p201 0 3 (by decide)
          have t212 := p201 0 4 (by decide)
          have t213 := p201 0 5 (by decide)
          have t214 := p201 0 6 (by decide)
          have t215 := p201 0 42 (by decide)
          have t216 := p201 0 59 (by decide)
          have t217 := p201 0 64 (by decide)
          have t218 := p201 0 3 (by decide)
          have t219 := p201 59 (Int.toNat 0) (fun q => absurd q.1 (by decide))
          have t220 := p201 59 (Int.toNat ((0 + 1))) (fun q => absurd q.1 (by decide))
          have t221 := p201 59 (Int.toNat (((0 + 1) + 1))) (fun q => absurd q.1 (by decide))
          have t222 := p201 59 (Int.toNat ((((0 + 1) + 1) + 1))) (fun q => absurd q.1 (by decide))
          have t223 := p201 59 (Int.toNat (((((0 + 1) + 1) + 1) + 1))) (fun q => absurd q.1 (by decide))
          have t224 := p201 59 (Int.toNat ((((((0 + 1) + 1) + 1) + 1) + 1))) (fun q => absurd q.1 (by decide))
          have t225 := p201 59 (Int.toNat (((((((0 + 1) + 1) + 1) + 1) + 1) + 1))) (fun q => absurd q.1 (by decide))
          have t226 := p201 59 (Int.toNat ((((((((0 + 1) + 1) + 1) + 1) + 1) + 1) + 1))) (fun q => absurd q.1 (by decide))
          have t227 := p201 59 (Int.toNat (((((((((0 + 1) + 1) + 1) + 1) + 1) + 1) + 1) + 1))) (fun q => absurd q.1 (by decide))
          have f228 := (show 0 ≤ I200 0 71 ∧ I200 0 71 ≤ 5 from (hI200 0 71).1)
          have f229 := (show 0 ≤ I200 0 72 ∧ I200 0 72 ≤ 1000 from (hI200 0 72).1)
          have f230 := (show 0 ≤ I200 0 73 ∧ I200 0 73 ≤ 1001 from (hI200 0 73).1)
          have f231 := (show 0 ≤ I200 0 69 ∧ I200 0 69 ≤ 1000 from (hI200 0 69).1)
          have f232 := (show 0 ≤ I200 0 68 ∧ I200 0 68 ≤ 1000 from (hI200 0 68).1)
          have f233 := (show 0 ≤ I200 0 99 ∧ I200 0 99 ≤ 1000 from (hI200 0 99).1)
          have f234 := (show 0 ≤ I200 0 100 ∧ I200 0 100 ≤ 1000000 from (hI200 0 100).1)
          have f235 := (show 0 ≤ I200 0 1 ∧ I200 0 1 ≤ 8 from (hI200 0 1).1)
          have f236 := (show 0 ≤ I200 0 2 ∧ I200 0 2 ≤ 32 from (hI200 0 2).1)
          have f237 := (show 0 ≤ I200 0 3 ∧ I200 0 3 ≤ 96 from (hI200 0 3).1)
          have f238 := (show 0 ≤ I200 0 4 ∧ I200 0 4 ≤ 8 from (hI200 0 4).1)
          have f239 := (show 0 ≤ I200 0 5 ∧ I200 0 5 ≤ 64 from (hI200 0 5).1)
          have f240 := (show (-1) ≤ I200 0 6 ∧ I200 0 6 ≤ 7 from (hI200 0 6).1)
          have f241 := (show 0 ≤ I200 0 42 ∧ I200 0 42 ≤ 2000 from (hI200 0 42).1)
          have f242 := (show 0 ≤ I200 0 59 ∧ I200 0 59 ≤ 2000 from (hI200 0 59).1)
          have f243 := (show 0 ≤ I200 0 64 ∧ I200 0 64 ≤ 2000 from (hI200 0 64).1)
          have f244 := (show 0 ≤ I200 0 3 ∧ I200 0 3 ≤ 96 from (hI200 0 3).1)
          have KTM_I200 := gr_TM_fr KTM_I164 (fun k => p201 52 k (fun q => absurd q.1 (by decide))) (fun k => p201 53 k (fun q => absurd q.1 (by decide))) (fun k => p201 54 k (fun q => absurd q.1 (by decide))) (p201 0 64 (by decide))
          have KRT_I200 := gr_RT8_fr KRT_I164 (fun k => p201 59 k (fun q => absurd q.1 (by decide)))
          have f245 := (show (-1) ≤ I200 0 77 ∧ I200 0 77 ≤ 1001 from (hI200 0 77).1)
          refine gv_run 4 true hD (pc' := 61) (lv' := [(0, .inr (.inr (some 0))), (1, .inl v1_20)]) (st' := [.inl ((-1) - (I200 0 77))]) (h' := gr_h I200 J165) (C := ((((True ∧ True) ∧ True) ∧ True) ∧ True)) rfl ⟨⟨⟨⟨trivial, trivial⟩, trivial⟩, trivial⟩, trivial⟩ ?_
          exact gv_iret hD rfl ⟨I200, J165, rfl, hI200, FI200, FJ165, KTM_I200, (gr_VF_back KVF_I KRT_I131 q163.2.2.2.2.2.2.2.2.2.1 (fun a k h => by rw [p201 a k (fun q => h q.1)])), (gr_LE_back KLE_I KRT_I131 q163.2.2.2.2.2.2.2.2.2.1 (fun a k h => by rw [p201 a k (fun q => h q.1)]) (by omega)), (gr_GR_back KGR_I KGR_I131 (by rw [← hI9]; exact KST_I131) KRT_I131 q163.2.2.2.2.2.2.2.2.2.1 (fun k => g163 36 k rfl) (fun k => g163 41 k rfl) (fun k => g163 42 k rfl) (fun k => g163 43 k rfl) (fun k => g163 45 k rfl) (fun k => g163 46 k rfl) (fun k => g163 47 k rfl) (fun k => g163 6 k rfl) (fun k => g163 7 k rfl) (fun k => g163 8 k rfl) (fun a k h => by rw [p201 a k (fun q => h q.1)]) (by omega)).1, (gr_TO_back KTO_I KTM_I hI (show gr_TS9 I I131 from by rw [← hI9]; exact KMQ_I131.1.2) (fun k => (p201 55 k (fun q => absurd q.1 (by decide))).trans (g163 55 k rfl)) (fun k => (p201 52 k (fun q => absurd q.1 (by decide))).trans (g163 52 k rfl)) (fun k => (p201 53 k (fun q => absurd q.1 (by decide))).trans (g163 53 k rfl)) (fun k => (p201 54 k (fun q => absurd q.1 (by decide))).trans (g163 54 k rfl)) (gr_GR_back KGR_I KGR_I131 (by rw [← hI9]; exact KST_I131) KRT_I131 q163.2.2.2.2.2.2.2.2.2.1 (fun k => g163 36 k rfl) (fun k => g163 41 k rfl) (fun k => g163 42 k rfl) (fun k => g163 43 k rfl) (fun k => g163 45 k rfl) (fun k => g163 46 k rfl) (fun k => g163 47 k rfl) (fun k => g163 6 k rfl) (fun k => g163 7 k rfl) (fun k => g163 8 k rfl) (fun a k h => by rw [p201 a k (fun q => h q.1)]) (by omega)).2.1.2 (by omega) (by omega)), (gr_FM_back (I9 := I) KFM_I131 (by rw [← hI9]; exact KMQ_I131) q163.2.2.2.2.2.2.2.2.2.2 (fun k => p201 10 k (fun q => absurd q.1 (by decide))) (fun k => (p201 55 k (fun q => absurd q.1 (by decide))).trans (g163 55 k rfl)) (by omega) (by have h9 := KST_I131.1.1; rw [hI9] at h9; omega)), ⟨_, rfl, by omega, by omega, by omega, by omega, by omega, by omega, by omega, (gr_GR_back KGR_I KGR_I131 (by rw [← hI9]; exact KST_I131) KRT_I131 q163.2.2.2.2.2.2.2.2.2.1 (fun k => g163 36 k rfl) (fun k => g163 41 k rfl) (fun k => g163 42 k rfl) (fun k => g163 43 k rfl) (fun k => g163 45 k rfl) (fun k => g163 46 k rfl) (fun k => g163 47 k rfl) (fun k => g163 6 k rfl) (fun k => g163 7 k rfl) (fun k => g163 8 k rfl) (fun a k h => by rw [p201 a k (fun q => h q.1)]) (by omega)).2⟩⟩
  refine gv_run 3 true hD (pc' := 5) (lv' := [(0, .inr (.inr (some 0)))]) (st' := []) (h' := gz_up (gr_h I J) 0 0 (.inl 0)) (C := (((True ∧ True) ∧ True) ∧ True)) rfl ⟨⟨⟨trivial, trivial⟩, trivial⟩, trivial⟩ ?_
  refine gr_st hI FI rfl rfl ⟨⟨by show 0 ≤ _; omega, by show _ ≤ 2; omega⟩, trivial⟩ (fun I246 hI246 FI246 q247 p247 => ?_)
  have t248 := p247 0 71 (by decide)
  have t249 := p247 0 72 (by decide)
  have t250 := p247 0 73 (by decide)
  have t251 := p247 0 69 (by decide)
  have t252 := p247 0 68 (by decide)
  have t253 := p247 0 99 (by decide)
  have t254 := p247 0 100 (by decide)
  have t255 := p247 0 1 (by decide)
  have t256 := p247 0 2 (by decide)
  have t257 := p247 0 3 (by decide)
  have t258 := p247 0 4 (by decide)
  have t259 := p247 0 5 (by decide)
  have t260 := p247 0 6 (by decide)
  have t261 := p247 0 42 (by decide)
  have t262 := p247 0 59 (by decide)
  have t263 := p247 0 64 (by decide)
  have t264 := p247 0 3 (by decide)
  have t265 := p247 59 (Int.toNat 0) (fun q => absurd q.1 (by decide))
  have t266 := p247 59 (Int.toNat ((0 + 1))) (fun q => absurd q.1 (by decide))
  have t267 := p247 59 (Int.toNat (((0 + 1) + 1))) (fun q => absurd q.1 (by decide))
  have t268 := p247 59 (Int.toNat ((((0 + 1) + 1) + 1))) (fun q => absurd q.1 (by decide))
  have t269 := p247 59 (Int.toNat (((((0 + 1) + 1) + 1) + 1))) (fun q => absurd q.1 (by decide))
  have t270 := p247 59 (Int.toNat ((((((0 + 1) + 1) + 1) + 1) + 1))) (fun q => absurd q.1 (by decide))
  have t271 := p247 59 (Int.toNat (((((((0 + 1) + 1) + 1) + 1) + 1) + 1))) (fun q => absurd q.1 (by decide))
  have t272 := p247 59 (Int.toNat ((((((((0 + 1) + 1) + 1) + 1) + 1) + 1) + 1))) (fun q => absurd q.1 (by decide))
  have t273 := p247 59 (Int.toNat (((((((((0 + 1) + 1) + 1) + 1) + 1) + 1) + 1) + 1))) (fun q => absurd q.1 (by decide))
  have f274 := (show 0 ≤ I246 0 71 ∧ I246 0 71 ≤ 5 from (hI246 0 71).1)
  have f275 := (show 0 ≤ I246 0 72 ∧ I246 0 72 ≤ 1000 from (hI246 0 72).1)
  have f276 := (show 0 ≤ I246 0 73 ∧ I246 0 73 ≤ 1001 from (hI246 0 73).1)
  have f277 := (show 0 ≤ I246 0 69 ∧ I246 0 69 ≤ 1000 from (hI246 0 69).1)
  have f278 := (show 0 ≤ I246 0 68 ∧ I246 0 68 ≤ 1000 from (hI246 0 68).1)
  have f279 := (show 0 ≤ I246 0 99 ∧ I246 0 99 ≤ 1000 from (hI246 0 99).1)
  have f280 := (show 0 ≤ I246 0 100 ∧ I246 0 100 ≤ 1000000 from (hI246 0 100).1)
  have f281 := (show 0 ≤ I246 0 1 ∧ I246 0 1 ≤ 8 from (hI246 0 1).1)
  have f282 := (show 0 ≤ I246 0 2 ∧ I246 0 2 ≤ 32 from (hI246 0 2).1)
  have f283 := (show 0 ≤ I246 0 3 ∧ I246 0 3 ≤ 96 from (hI246 0 3).1)
  have f284 := (show 0 ≤ I246 0 4 ∧ I246 0 4 ≤ 8 from (hI246 0 4).1)
  have f285 := (show 0 ≤ I246 0 5 ∧ I246 0 5 ≤ 64 from (hI246 0 5).1)
  have f286 := (show (-1) ≤ I246 0 6 ∧ I246 0 6 ≤ 7 from (hI246 0 6).1)
  have f287 := (show 0 ≤ I246 0 42 ∧ I246 0 42 ≤ 2000 from (hI246 0 42).1)
  have f288 := (show 0 ≤ I246 0 59 ∧ I246 0 59 ≤ 2000 from (hI246 0 59).1)
  have f289 := (show 0 ≤ I246 0 64 ∧ I246 0 64 ≤ 2000 from (hI246 0 64).1)
  have f290 := (show 0 ≤ I246 0 3 ∧ I246 0 3 ≤ 96 from (hI246 0 3).1)
  have KTM_I246 := gr_TM_fr KTM_I (fun k => p247 52 k (fun q => absurd q.1 (by decide))) (fun k => p247 53 k (fun q => absurd q.1 (by decide))) (fun k => p247 54 k (fun q => absurd q.1 (by decide))) (p247 0 64 (by decide))
  have KVF_I246 := gr_VF_fr KVF_I (fun k => p247 14 k (fun q => absurd q.1 (by decide))) (fun k => p247 13 k (fun q => absurd q.1 (by decide)))
  have KLE_I246 := gr_LE_fr KLE_I (fun k => p247 19 k (fun q => absurd q.1 (by decide))) (p247 0 68 (by decide))
  have KGR_I246 := gr_GR_fr KGR_I (fun k => p247 19 k (fun q => absurd q.1 (by decide))) (fun k => p247 18 k (fun q => absurd q.1 (by decide))) (fun k => p247 36 k (fun q => absurd q.1 (by decide))) (fun k => p247 41 k (fun q => absurd q.1 (by decide))) (fun k => p247 42 k (fun q => absurd q.1 (by decide))) (fun k => p247 43 k (fun q => absurd q.1 (by decide))) (fun k => p247 45 k (fun q => absurd q.1 (by decide))) (fun k => p247 46 k (fun q => absurd q.1 (by decide))) (fun k => p247 47 k (fun q => absurd q.1 (by decide))) (fun k => p247 6 k (fun q => absurd q.1 (by decide))) (fun k => p247 7 k (fun q => absurd q.1 (by decide))) (fun k => p247 8 k (fun q => absurd q.1 (by decide))) (p247 0 3 (by decide))
  have KTO_I246 := gr_TO_fr KTO_I (fun k => p247 52 k (fun q => absurd q.1 (by decide))) (fun k => p247 53 k (fun q => absurd q.1 (by decide))) (fun k => p247 54 k (fun q => absurd q.1 (by decide))) (fun k => p247 55 k (fun q => absurd q.1 (by decide))) (fun k => p247 6 k (fun q => absurd q.1 (by decide))) (p247 0 64 (by decide)) (p247 0 3 (by decide))
  have KFM_I246 := gr_FM_fr KFM_I (fun k => p247 10 k (fun q => absurd q.1 (by decide))) (fun k => p247 55 k (fun q => absurd q.1 (by decide))) (fun k => p247 52 k (fun q => absurd q.1 (by decide))) (fun k => p247 53 k (fun q => absurd q.1 (by decide))) (fun k => p247 54 k (fun q => absurd q.1 (by decide))) (p247 0 64 (by decide)) (p247 0 3 (by decide))
  refine gv_run 1 true hD (pc' := 6) (lv' := [(0, .inr (.inr (some 0)))]) (st' := [.inr (.inr (some 0))]) (h' := gr_h I246 J) (C := (True ∧ True)) rfl ⟨trivial, trivial⟩ ?_
  obtain ⟨r291, h291, E291, P291⟩ := r_reads (ws0 := ws0) (tb := tb) hws htb ext I246 J hI246   
  obtain ⟨I292, J293, rfl, hI292, g291, k291, ⟨rfl, q291⟩⟩ := P291
  have FI292 := gr_frt FI246 g291 rfl rfl
  have FJ293 := gr_fjt FJ k291 rfl rfl
  have t294 := g291 0 71 rfl
  have t295 := g291 0 72 rfl
  have t296 := g291 0 73 rfl
  have t297 := g291 0 99 rfl
  have t298 := g291 0 100 rfl
  have t299 := g291 0 1 rfl
  have t300 := g291 0 2 rfl
  have t301 := g291 0 3 rfl
  have t302 := g291 0 4 rfl
  have t303 := g291 0 5 rfl
  have t304 := g291 0 6 rfl
  have t305 := g291 0 42 rfl
  have t306 := g291 0 59 rfl
  have t307 := g291 0 64 rfl
  have t308 := g291 0 3 rfl
  have t309 := g291 59 (Int.toNat 0) rfl
  have t310 := g291 59 (Int.toNat ((0 + 1))) rfl
  have t311 := g291 59 (Int.toNat (((0 + 1) + 1))) rfl
  have t312 := g291 59 (Int.toNat ((((0 + 1) + 1) + 1))) rfl
  have t313 := g291 59 (Int.toNat (((((0 + 1) + 1) + 1) + 1))) rfl
  have t314 := g291 59 (Int.toNat ((((((0 + 1) + 1) + 1) + 1) + 1))) rfl
  have t315 := g291 59 (Int.toNat (((((((0 + 1) + 1) + 1) + 1) + 1) + 1))) rfl
  have t316 := g291 59 (Int.toNat ((((((((0 + 1) + 1) + 1) + 1) + 1) + 1) + 1))) rfl
  have t317 := g291 59 (Int.toNat (((((((((0 + 1) + 1) + 1) + 1) + 1) + 1) + 1) + 1))) rfl
  have f318 := (show 0 ≤ I292 0 71 ∧ I292 0 71 ≤ 5 from (hI292 0 71).1)
  have f319 := (show 0 ≤ I292 0 72 ∧ I292 0 72 ≤ 1000 from (hI292 0 72).1)
  have f320 := (show 0 ≤ I292 0 73 ∧ I292 0 73 ≤ 1001 from (hI292 0 73).1)
  have f321 := (show 0 ≤ I292 0 69 ∧ I292 0 69 ≤ 1000 from (hI292 0 69).1)
  have f322 := (show 0 ≤ I292 0 68 ∧ I292 0 68 ≤ 1000 from (hI292 0 68).1)
  have f323 := (show 0 ≤ I292 0 99 ∧ I292 0 99 ≤ 1000 from (hI292 0 99).1)
  have f324 := (show 0 ≤ I292 0 100 ∧ I292 0 100 ≤ 1000000 from (hI292 0 100).1)
  have f325 := (show 0 ≤ I292 0 1 ∧ I292 0 1 ≤ 8 from (hI292 0 1).1)
  have f326 := (show 0 ≤ I292 0 2 ∧ I292 0 2 ≤ 32 from (hI292 0 2).1)
  have f327 := (show 0 ≤ I292 0 3 ∧ I292 0 3 ≤ 96 from (hI292 0 3).1)
  have f328 := (show 0 ≤ I292 0 4 ∧ I292 0 4 ≤ 8 from (hI292 0 4).1)
  have f329 := (show 0 ≤ I292 0 5 ∧ I292 0 5 ≤ 64 from (hI292 0 5).1)
  have f330 := (show (-1) ≤ I292 0 6 ∧ I292 0 6 ≤ 7 from (hI292 0 6).1)
  have f331 := (show 0 ≤ I292 0 42 ∧ I292 0 42 ≤ 2000 from (hI292 0 42).1)
  have f332 := (show 0 ≤ I292 0 59 ∧ I292 0 59 ≤ 2000 from (hI292 0 59).1)
  have f333 := (show 0 ≤ I292 0 64 ∧ I292 0 64 ≤ 2000 from (hI292 0 64).1)
  have f334 := (show 0 ≤ I292 0 3 ∧ I292 0 3 ≤ 96 from (hI292 0 3).1)
  have KTM_I292 := gr_TM_fr KTM_I246 (fun k => g291 52 k rfl) (fun k => g291 53 k rfl) (fun k => g291 54 k rfl) (g291 0 64 rfl)
  have KVF_I292 := gr_VF_fr KVF_I246 (fun k => g291 14 k rfl) (fun k => g291 13 k rfl)
  have KGR_I292 := gr_GR_fr KGR_I246 (fun k => g291 19 k rfl) (fun k => g291 18 k rfl) (fun k => g291 36 k rfl) (fun k => g291 41 k rfl) (fun k => g291 42 k rfl) (fun k => g291 43 k rfl) (fun k => g291 45 k rfl) (fun k => g291 46 k rfl) (fun k => g291 47 k rfl) (fun k => g291 6 k rfl) (fun k => g291 7 k rfl) (fun k => g291 8 k rfl) (g291 0 3 rfl)
  have KTO_I292 := gr_TO_fr KTO_I246 (fun k => g291 52 k rfl) (fun k => g291 53 k rfl) (fun k => g291 54 k rfl) (fun k => g291 55 k rfl) (fun k => g291 6 k rfl) (g291 0 64 rfl) (g291 0 3 rfl)
  have KFM_I292 := gr_FM_fr KFM_I246 (fun k => g291 10 k rfl) (fun k => g291 55 k rfl) (fun k => g291 52 k rfl) (fun k => g291 53 k rfl) (fun k => g291 54 k rfl) (g291 0 64 rfl) (g291 0 3 rfl)
  have KST_I292 : gr_ST I9 I292 := gr_ST_fr (by rw [hI9]; exact gr_ST_rf I) (fun k => (g291 6 k rfl).trans (p247 6 k (fun q => absurd q.1 (by decide)))) (fun k => (g291 19 k rfl).trans (p247 19 k (fun q => absurd q.1 (by decide)))) (fun k => (g291 18 k rfl).trans (p247 18 k (fun q => absurd q.1 (by decide)))) (fun k => (g291 41 k rfl).trans (p247 41 k (fun q => absurd q.1 (by decide)))) (fun k => (g291 36 k rfl).trans (p247 36 k (fun q => absurd q.1 (by decide)))) (by omega)
  refine gv_callV hD rfl (As := []) (st := []) rfl (by decide) rfl rfl (gr_lV hws rfl) (Nat.le_of_ble_eq_true rfl) (gz_Ev_mono (d := 1) (by decide) E291) ?_
  show gv_X _ _ (9, [(0, .inr (.inr (some 0)))], [], gr_sh ++ ext, gr_h I292 J293)
  refine gv_run 1 true hD (pc' := 10) (lv' := [(0, .inr (.inr (some 0)))]) (st' := [.inr (.inr (some 0))]) (h' := gr_h I292 J293) (C := (True ∧ True)) rfl ⟨trivial, trivial⟩ ?_
  obtain ⟨r335, h335, E335, P335⟩ := r_remember (ws0 := ws0) (tb := tb) hws htb ext I292 J293 hI292   
  obtain ⟨I336, J337, rfl, hI336, g335, k335, ⟨rfl, q335⟩⟩ := P335
  have FI336 := gr_frt FI292 g335 rfl rfl
  have FJ337 := gr_fjt FJ293 k335 rfl rfl
  have t338 := g335 0 71 rfl
  have t339 := g335 0 72 rfl
  have t340 := g335 0 73 rfl
  have t341 := g335 0 69 rfl
  have t342 := g335 0 68 rfl
  have t343 := g335 0 100 rfl
  have t344 := g335 0 1 rfl
  have t345 := g335 0 2 rfl
  have t346 := g335 0 3 rfl
  have t347 := g335 0 4 rfl
  have t348 := g335 0 5 rfl
  have t349 := g335 0 6 rfl
  have t350 := g335 0 42 rfl
  have t351 := g335 0 59 rfl
  have t352 := g335 0 64 rfl
  have t353 := g335 0 3 rfl
  have f354 := (show 0 ≤ I336 0 71 ∧ I336 0 71 ≤ 5 from (hI336 0 71).1)
  have f355 := (show 0 ≤ I336 0 72 ∧ I336 0 72 ≤ 1000 from (hI336 0 72).1)
  have f356 := (show 0 ≤ I336 0 73 ∧ I336 0 73 ≤ 1001 from (hI336 0 73).1)
  have f357 := (show 0 ≤ I336 0 69 ∧ I336 0 69 ≤ 1000 from (hI336 0 69).1)
  have f358 := (show 0 ≤ I336 0 68 ∧ I336 0 68 ≤ 1000 from (hI336 0 68).1)
  have f359 := (show 0 ≤ I336 0 99 ∧ I336 0 99 ≤ 1000 from (hI336 0 99).1)
  have f360 := (show 0 ≤ I336 0 100 ∧ I336 0 100 ≤ 1000000 from (hI336 0 100).1)
  have f361 := (show 0 ≤ I336 0 1 ∧ I336 0 1 ≤ 8 from (hI336 0 1).1)
  have f362 := (show 0 ≤ I336 0 2 ∧ I336 0 2 ≤ 32 from (hI336 0 2).1)
  have f363 := (show 0 ≤ I336 0 3 ∧ I336 0 3 ≤ 96 from (hI336 0 3).1)
  have f364 := (show 0 ≤ I336 0 4 ∧ I336 0 4 ≤ 8 from (hI336 0 4).1)
  have f365 := (show 0 ≤ I336 0 5 ∧ I336 0 5 ≤ 64 from (hI336 0 5).1)
  have f366 := (show (-1) ≤ I336 0 6 ∧ I336 0 6 ≤ 7 from (hI336 0 6).1)
  have f367 := (show 0 ≤ I336 0 42 ∧ I336 0 42 ≤ 2000 from (hI336 0 42).1)
  have f368 := (show 0 ≤ I336 0 59 ∧ I336 0 59 ≤ 2000 from (hI336 0 59).1)
  have f369 := (show 0 ≤ I336 0 64 ∧ I336 0 64 ≤ 2000 from (hI336 0 64).1)
  have f370 := (show 0 ≤ I336 0 3 ∧ I336 0 3 ≤ 96 from (hI336 0 3).1)
  have KTM_I336 := gr_TM_fr KTM_I292 (fun k => g335 52 k rfl) (fun k => g335 53 k rfl) (fun k => g335 54 k rfl) (g335 0 64 rfl)
  have KVF_I336 := gr_VF_fr KVF_I292 (fun k => g335 14 k rfl) (fun k => g335 13 k rfl)
  have KGR_I336 := gr_GR_fr KGR_I292 (fun k => g335 19 k rfl) (fun k => g335 18 k rfl) (fun k => g335 36 k rfl) (fun k => g335 41 k rfl) (fun k => g335 42 k rfl) (fun k => g335 43 k rfl) (fun k => g335 45 k rfl) (fun k => g335 46 k rfl) (fun k => g335 47 k rfl) (fun k => g335 6 k rfl) (fun k => g335 7 k rfl) (fun k => g335 8 k rfl) (g335 0 3 rfl)
  have KTO_I336 := gr_TO_fr KTO_I292 (fun k => g335 52 k rfl) (fun k => g335 53 k rfl) (fun k => g335 54 k rfl) (fun k => g335 55 k rfl) (fun k => g335 6 k rfl) (g335 0 64 rfl) (g335 0 3 rfl)
  have KFM_I336 := gr_FM_fr KFM_I292 (fun k => g335 10 k rfl) (fun k => g335 55 k rfl) (fun k => g335 52 k rfl) (fun k => g335 53 k rfl) (fun k => g335 54 k rfl) (g335 0 64 rfl) (g335 0 3 rfl)
  have KST_I336 := gr_ST_fr KST_I292 (fun k => g335 6 k rfl) (fun k => g335 19 k rfl) (fun k => g335 18 k rfl) (fun k => g335 41 k rfl) (fun k => g335 36 k rfl) (g335 0 3 rfl)
  have KRT_I336 : gr_RT8 I I336 := gr_RT8_l q335.2.2.2.2.2.2.2.2.2.2 (fun k => (g291 13 k rfl).trans (p247 13 k (fun q => absurd q.1 (by decide)))) (fun k => (g291 14 k rfl).trans (p247 14 k (fun q => absurd q.1 (by decide)))) (fun k => (g291 15 k rfl).trans (p247 15 k (fun q => absurd q.1 (by decide)))) (fun k => (g291 16 k rfl).trans (p247 16 k (fun q => absurd q.1 (by decide)))) (fun k => (g291 17 k rfl).trans (p247 17 k (fun q => absurd q.1 (by decide)))) (fun k => (g291 18 k rfl).trans (p247 18 k (fun q => absurd q.1 (by decide)))) (fun k => (g291 19 k rfl).trans (p247 19 k (fun q => absurd q.1 (by decide))))
  have KMQ_I336 : gr_MQ I9 I336 := gr_MQ_st KFM_I336 (by rw [hI9]; exact gr_TS9_fr (fun k => ((g335 55 k rfl).trans (g291 55 k rfl)).trans (p247 55 k (fun q => absurd q.1 (by decide)))) (fun k => ((g335 52 k rfl).trans (g291 52 k rfl)).trans (p247 52 k (fun q => absurd q.1 (by decide)))) (fun k => ((g335 53 k rfl).trans (g291 53 k rfl)).trans (p247 53 k (fun q => absurd q.1 (by decide)))) (fun k => ((g335 54 k rfl).trans (g291 54 k rfl)).trans (p247 54 k (fun q => absurd q.1 (by decide))))) (by rw [hI9]; omega) (by rw [hI9]; omega)
  refine gv_callV hD rfl (As := []) (st := []) rfl (by decide) rfl rfl (gr_lV hws rfl) (Nat.le_of_ble_eq_true rfl) (gz_Ev_mono (d := 1) (by decide) E335) ?_
  show gv_X _ _ (13, [(0, .inr (.inr (some 0)))], [], gr_sh ++ ext, gr_h I336 J337)
  refine gv_run 3 true hD (pc' := 18) (lv' := [(0, .inr (.inr (some 0)))]) (st' := []) (h' := gz_up (gr_h I336 J337) 0 73 (.inl 0)) (C := (((True ∧ True) ∧ True) ∧ True)) rfl ⟨⟨⟨trivial, trivial⟩, trivial⟩, trivial⟩ ?_
  refine gr_st hI336 FI336 rfl rfl ⟨⟨by show 0 ≤ _; omega, by show _ ≤ 1001; omega⟩, trivial⟩ (fun I371 hI371 FI371 q372 p372 => ?_)
  have t373 := p372 0 71 (by decide)
  have t374 := p372 0 72 (by decide)
  have t375 := p372 0 69 (by decide)
  have t376 := p372 0 68 (by decide)
  have t377 := p372 0 99 (by decide)
  have t378 := p372 0 100 (by decide)
  have t379 := p372 0 1 (by decide)
  have t380 := p372 0 2 (by decide)
  have t381 := p372 0 3 (by decide)
  have t382 := p372 0 4 (by decide)
  have t383 := p372 0 5 (by decide)
  have t384 := p372 0 6 (by decide)
  have t385 := p372 0 42 (by decide)
  have t386 := p372 0 59 (by decide)
  have t387 := p372 0 64 (by decide)
  have t388 := p372 0 3 (by decide)
  have t389 := p372 59 (Int.toNat 0) (fun q => absurd q.1 (by decide))
  have t390 := p372 59 (Int.toNat ((0 + 1))) (fun q => absurd q.1 (by decide))
  have t391 := p372 59 (Int.toNat (((0 + 1) + 1))) (fun q => absurd q.1 (by decide))
  have t392 := p372 59 (Int.toNat ((((0 + 1) + 1) + 1))) (fun q => absurd q.1 (by decide))
  have t393 := p372 59 (Int.toNat (((((0 + 1) + 1) + 1) + 1))) (fun q => absurd q.1 (by decide))
  have t394 := p372 59 (Int.toNat ((((((0 + 1) + 1) + 1) + 1) + 1))) (fun q => absurd q.1 (by decide))
  have t395 := p372 59 (Int.toNat (((((((0 + 1) + 1) + 1) + 1) + 1) + 1))) (fun q => absurd q.1 (by decide))
  have t396 := p372 59 (Int.toNat ((((((((0 + 1) + 1) + 1) + 1) + 1) + 1) + 1))) (fun q => absurd q.1 (by decide))
  have t397 := p372 59 (Int.toNat (((((((((0 + 1) + 1) + 1) + 1) + 1) + 1) + 1) + 1))) (fun q => absurd q.1 (by decide))
  have f398 := (show 0 ≤ I371 0 71 ∧ I371 0 71 ≤ 5 from (hI371 0 71).1)
  have f399 := (show 0 ≤ I371 0 72 ∧ I371 0 72 ≤ 1000 from (hI371 0 72).1)
  have f400 := (show 0 ≤ I371 0 73 ∧ I371 0 73 ≤ 1001 from (hI371 0 73).1)
  have f401 := (show 0 ≤ I371 0 69 ∧ I371 0 69 ≤ 1000 from (hI371 0 69).1)
  have f402 := (show 0 ≤ I371 0 68 ∧ I371 0 68 ≤ 1000 from (hI371 0 68).1)
  have f403 := (show 0 ≤ I371 0 99 ∧ I371 0 99 ≤ 1000 from (hI371 0 99).1)
  have f404 := (show 0 ≤ I371 0 100 ∧ I371 0 100 ≤ 1000000 from (hI371 0 100).1)
  have f405 := (show 0 ≤ I371 0 1 ∧ I371 0 1 ≤ 8 from (hI371 0 1).1)
  have f406 := (show 0 ≤ I371 0 2 ∧ I371 0 2 ≤ 32 from (hI371 0 2).1)
  have f407 := (show 0 ≤ I371 0 3 ∧ I371 0 3 ≤ 96 from (hI371 0 3).1)
  have f408 := (show 0 ≤ I371 0 4 ∧ I371 0 4 ≤ 8 from (hI371 0 4).1)
  have f409 := (show 0 ≤ I371 0 5 ∧ I371 0 5 ≤ 64 from (hI371 0 5).1)
  have f410 := (show (-1) ≤ I371 0 6 ∧ I371 0 6 ≤ 7 from (hI371 0 6).1)
  have f411 := (show 0 ≤ I371 0 42 ∧ I371 0 42 ≤ 2000 from (hI371 0 42).1)
  have f412 := (show 0 ≤ I371 0 59 ∧ I371 0 59 ≤ 2000 from (hI371 0 59).1)
  have f413 := (show 0 ≤ I371 0 64 ∧ I371 0 64 ≤ 2000 from (hI371 0 64).1)
  have f414 := (show 0 ≤ I371 0 3 ∧ I371 0 3 ≤ 96 from (hI371 0 3).1)
  have KTM_I371 := gr_TM_fr KTM_I336 (fun k => p372 52 k (fun q => absurd q.1 (by decide))) (fun k => p372 53 k (fun q => absurd q.1 (by decide))) (fun k => p372 54 k (fun q => absurd q.1 (by decide))) (p372 0 64 (by decide))
  have KVF_I371 := gr_VF_fr KVF_I336 (fun k => p372 14 k (fun q => absurd q.1 (by decide))) (fun k => p372 13 k (fun q => absurd q.1 (by decide)))
  have KGR_I371 := gr_GR_fr KGR_I336 (fun k => p372 19 k (fun q => absurd q.1 (by decide))) (fun k => p372 18 k (fun q => absurd q.1 (by decide))) (fun k => p372 36 k (fun q => absurd q.1 (by decide))) (fun k => p372 41 k (fun q => absurd q.1 (by decide))) (fun k => p372 42 k (fun q => absurd q.1 (by decide))) (fun k => p372 43 k (fun q => absurd q.1 (by decide))) (fun k => p372 45 k (fun q => absurd q.1 (by decide))) (fun k => p372 46 k (fun q => absurd q.1 (by decide))) (fun k => p372 47 k (fun q => absurd q.1 (by decide))) (fun k => p372 6 k (fun q => absurd q.1 (by decide))) (fun k => p372 7 k (fun q => absurd q.1 (by decide))) (fun k => p372 8 k (fun q => absurd q.1 (by decide))) (p372 0 3 (by decide))
  have KTO_I371 := gr_TO_fr KTO_I336 (fun k => p372 52 k (fun q => absurd q.1 (by decide))) (fun k => p372 53 k (fun q => absurd q.1 (by decide))) (fun k => p372 54 k (fun q => absurd q.1 (by decide))) (fun k => p372 55 k (fun q => absurd q.1 (by decide))) (fun k => p372 6 k (fun q => absurd q.1 (by decide))) (p372 0 64 (by decide)) (p372 0 3 (by decide))
  have KFM_I371 := gr_FM_fr KFM_I336 (fun k => p372 10 k (fun q => absurd q.1 (by decide))) (fun k => p372 55 k (fun q => absurd q.1 (by decide))) (fun k => p372 52 k (fun q => absurd q.1 (by decide))) (fun k => p372 53 k (fun q => absurd q.1 (by decide))) (fun k => p372 54 k (fun q => absurd q.1 (by decide))) (p372 0 64 (by decide)) (p372 0 3 (by decide))
  have KRT_I371 := gr_RT8_fr KRT_I336 (fun k => p372 59 k (fun q => absurd q.1 (by decide)))
  have KST_I371 := gr_ST_fr KST_I336 (fun k => p372 6 k (fun q => absurd q.1 (by decide))) (fun k => p372 19 k (fun q => absurd q.1 (by decide))) (fun k => p372 18 k (fun q => absurd q.1 (by decide))) (fun k => p372 41 k (fun q => absurd q.1 (by decide))) (fun k => p372 36 k (fun q => absurd q.1 (by decide))) (p372 0 3 (by decide))
  have KMQ_I371 := gr_MQ_fr KMQ_I336 (fun k => p372 10 k (fun q => absurd q.1 (by decide))) (fun k => p372 55 k (fun q => absurd q.1 (by decide))) (fun k => p372 52 k (fun q => absurd q.1 (by decide))) (fun k => p372 53 k (fun q => absurd q.1 (by decide))) (fun k => p372 54 k (fun q => absurd q.1 (by decide))) (fun k => p372 60 k (fun q => absurd q.1 (by decide))) (p372 0 64 (by decide)) (p372 0 3 (by decide)) (p372 0 99 (by decide))
  refine gv_run 3 true hD (pc' := 23) (lv' := [(0, .inr (.inr (some 0)))]) (st' := []) (h' := gz_up (gr_h I371 J337) 0 76 (.inl 0)) (C := (((True ∧ True) ∧ True) ∧ True)) rfl ⟨⟨⟨trivial, trivial⟩, trivial⟩, trivial⟩ ?_
  refine gr_st hI371 FI371 rfl rfl ⟨⟨by show 0 ≤ _; omega, by show _ ≤ 6; omega⟩, trivial⟩ (fun I415 hI415 FI415 q416 p416 => ?_)
  have t417 := p416 0 71 (by decide)
  have t418 := p416 0 72 (by decide)
  have t419 := p416 0 73 (by decide)
  have t420 := p416 0 69 (by decide)
  have t421 := p416 0 68 (by decide)
  have t422 := p416 0 99 (by decide)
  have t423 := p416 0 100 (by decide)
  have t424 := p416 0 1 (by decide)
  have t425 := p416 0 2 (by decide)
  have t426 := p416 0 3 (by decide)
  have t427 := p416 0 4 (by decide)
  have t428 := p416 0 5 (by decide)
  have t429 := p416 0 6 (by decide)
  have t430 := p416 0 42 (by decide)
  have t431 := p416 0 59 (by decide)
  have t432 := p416 0 64 (by decide)
  have t433 := p416 0 3 (by decide)
  have t434 := p416 59 (Int.toNat 0) (fun q => absurd q.1 (by decide))
  have t435 := p416 59 (Int.toNat ((0 + 1))) (fun q => absurd q.1 (by decide))
  have t436 := p416 59 (Int.toNat (((0 + 1) + 1))) (fun q => absurd q.1 (by decide))
  have t437 := p416 59 (Int.toNat ((((0 + 1) + 1) + 1))) (fun q => absurd q.1 (by decide))
  have t438 := p416 59 (Int.toNat (((((0 + 1) + 1) + 1) + 1))) (fun q => absurd q.1 (by decide))
  have t439 := p416 59 (Int.toNat ((((((0 + 1) + 1) + 1) + 1) + 1))) (fun q => absurd q.1 (by decide))
  have t440 := p416 59 (Int.toNat (((((((0 + 1) + 1) + 1) + 1) + 1) + 1))) (fun q => absurd q.1 (by decide))
  have t441 := p416 59 (Int.toNat ((((((((0 + 1) + 1) + 1) + 1) + 1) + 1) + 1))) (fun q => absurd q.1 (by decide))
  have t442 := p416 59 (Int.toNat (((((((((0 + 1) + 1) + 1) + 1) + 1) + 1) + 1) + 1))) (fun q => absurd q.1 (by decide))
  have f443 := (show 0 ≤ I415 0 71 ∧ I415 0 71 ≤ 5 from (hI415 0 71).1)
  have f444 := (show 0 ≤ I415 0 72 ∧ I415 0 72 ≤ 1000 from (hI415 0 72).1)
  have f445 := (show 0 ≤ I415 0 73 ∧ I415 0 73 ≤ 1001 from (hI415 0 73).1)
  have f446 := (show 0 ≤ I415 0 69 ∧ I415 0 69 ≤ 1000 from (hI415 0 69).1)
  have f447 := (show 0 ≤ I415 0 68 ∧ I415 0 68 ≤ 1000 from (hI415 0 68).1)
  have f448 := (show 0 ≤ I415 0 99 ∧ I415 0 99 ≤ 1000 from (hI415 0 99).1)
  have f449 := (show 0 ≤ I415 0 100 ∧ I415 0 100 ≤ 1000000 from (hI415 0 100).1)
  have f450 := (show 0 ≤ I415 0 1 ∧ I415 0 1 ≤ 8 from (hI415 0 1).1)
  have f451 := (show 0 ≤ I415 0 2 ∧ I415 0 2 ≤ 32 from (hI415 0 2).1)
  have f452 := (show 0 ≤ I415 0 3 ∧ I415 0 3 ≤ 96 from (hI415 0 3).1)
  have f453 := (show 0 ≤ I415 0 4 ∧ I415 0 4 ≤ 8 from (hI415 0 4).1)
  have f454 := (show 0 ≤ I415 0 5 ∧ I415 0 5 ≤ 64 from (hI415 0 5).1)
  have f455 := (show (-1) ≤ I415 0 6 ∧ I415 0 6 ≤ 7 from (hI415 0 6).1)
  have f456 := (show 0 ≤ I415 0 42 ∧ I415 0 42 ≤ 2000 from (hI415 0 42).1)
  have f457 := (show 0 ≤ I415 0 59 ∧ I415 0 59 ≤ 2000 from (hI415 0 59).1)
  have f458 := (show 0 ≤ I415 0 64 ∧ I415 0 64 ≤ 2000 from (hI415 0 64).1)
  have f459 := (show 0 ≤ I415 0 3 ∧ I415 0 3 ≤ 96 from (hI415 0 3).1)
  have KTM_I415 := gr_TM_fr KTM_I371 (fun k => p416 52 k (fun q => absurd q.1 (by decide))) (fun k => p416 53 k (fun q => absurd q.1 (by decide))) (fun k => p416 54 k (fun q => absurd q.1 (by decide))) (p416 0 64 (by decide))
  have KVF_I415 := gr_VF_fr KVF_I371 (fun k => p416 14 k (fun q => absurd q.1 (by decide))) (fun k => p416 13 k (fun q => absurd q.1 (by decide)))
  have KGR_I415 := gr_GR_fr KGR_I371 (fun k => p416 19 k (fun q => absurd q.1 (by decide))) (fun k => p416 18 k (fun q => absurd q.1 (by decide))) (fun k => p416 36 k (fun q => absurd q.1 (by decide))) (fun k => p416 41 k (fun q => absurd q.1 (by decide))) (fun k => p416 42 k (fun q => absurd q.1 (by decide))) (fun k => p416 43 k (fun q => absurd q.1 (by decide))) (fun k => p416 45 k (fun q => absurd q.1 (by decide))) (fun k => p416 46 k (fun q => absurd q.1 (by decide))) (fun k => p416 47 k (fun q => absurd q.1 (by decide))) (fun k => p416 6 k (fun q => absurd q.1 (by decide))) (fun k => p416 7 k (fun q => absurd q.1 (by decide))) (fun k => p416 8 k (fun q => absurd q.1 (by decide))) (p416 0 3 (by decide))
  have KTO_I415 := gr_TO_fr KTO_I371 (fun k => p416 52 k (fun q => absurd q.1 (by decide))) (fun k => p416 53 k (fun q => absurd q.1 (by decide))) (fun k => p416 54 k (fun q => absurd q.1 (by decide))) (fun k => p416 55 k (fun q => absurd q.1 (by decide))) (fun k => p416 6 k (fun q => absurd q.1 (by decide))) (p416 0 64 (by decide)) (p416 0 3 (by decide))
  have KFM_I415 := gr_FM_fr KFM_I371 (fun k => p416 10 k (fun q => absurd q.1 (by decide))) (fun k => p416 55 k (fun q => absurd q.1 (by decide))) (fun k => p416 52 k (fun q => absurd q.1 (by decide))) (fun k => p416 53 k (fun q => absurd q.1 (by decide))) (fun k => p416 54 k (fun q => absurd q.1 (by decide))) (p416 0 64 (by decide)) (p416 0 3 (by decide))
  have KRT_I415 := gr_RT8_fr KRT_I371 (fun k => p416 59 k (fun q => absurd q.1 (by decide)))
  have KST_I415 := gr_ST_fr KST_I371 (fun k => p416 6 k (fun q => absurd q.1 (by decide))) (fun k => p416 19 k (fun q => absurd q.1 (by decide))) (fun k => p416 18 k (fun q => absurd q.1 (by decide))) (fun k => p416 41 k (fun q => absurd q.1 (by decide))) (fun k => p416 36 k (fun q => absurd q.1 (by decide))) (p416 0 3 (by decide))
  have KMQ_I415 := gr_MQ_fr KMQ_I371 (fun k => p416 10 k (fun q => absurd q.1 (by decide))) (fun k => p416 55 k (fun q => absurd q.1 (by decide))) (fun k => p416 52 k (fun q => absurd q.1 (by decide))) (fun k => p416 53 k (fun q => absurd q.1 (by decide))) (fun k => p416 54 k (fun q => absurd q.1 (by decide))) (fun k => p416 60 k (fun q => absurd q.1 (by decide))) (p416 0 64 (by decide)) (p416 0 3 (by decide)) (p416 0 99 (by decide))
  refine gv_run 1 true hD (pc' := 24) (lv' := [(0, .inr (.inr (some 0)))]) (st' := [.inr (.inr (some 0))]) (h' := gr_h I415 J337) (C := (True ∧ True)) rfl ⟨trivial, trivial⟩ ?_
  obtain ⟨r460, h460, E460, P460⟩ := r_next (ws0 := ws0) (tb := tb) hws htb ext I415 J337 hI415   (by omega)
  obtain ⟨I461, J462, rfl, hI461, g460, k460, ⟨rfl, q460⟩⟩ := P460
  have FI461 := gr_frt FI415 g460 rfl rfl
  have FJ462 := gr_fjt FJ337 k460 rfl rfl
  have t463 := g460 0 69 rfl
  have t464 := g460 0 68 rfl
  have t465 := g460 0 99 rfl
  have t466 := g460 0 100 rfl
  have t467 := g460 0 1 rfl
  have t468 := g460 0 2 rfl
  have t469 := g460 0 3 rfl
  have t470 := g460 0 4 rfl
  have t471 := g460 0 5 rfl
  have t472 := g460 0 6 rfl
  have t473 := g460 0 42 rfl
  have t474 := g460 0 59 rfl
  have t475 := g460 0 64 rfl
  have t476 := g460 0 3 rfl
  have t477 := g460 59 (Int.toNat 0) rfl
  have t478 := g460 59 (Int.toNat ((0 + 1))) rfl
  have t479 := g460 59 (Int.toNat (((0 + 1) + 1))) rfl
  have t480 := g460 59 (Int.toNat ((((0 + 1) + 1) + 1))) rfl
  have t481 := g460 59 (Int.toNat (((((0 + 1) + 1) + 1) + 1))) rfl
  have t482 := g460 59 (Int.toNat ((((((0 + 1) + 1) + 1) + 1) + 1))) rfl
  have t483 := g460 59 (Int.toNat (((((((0 + 1) + 1) + 1) + 1) + 1) + 1))) rfl
  have t484 := g460 59 (Int.toNat ((((((((0 + 1) + 1) + 1) + 1) + 1) + 1) + 1))) rfl
  have t485 := g460 59 (Int.toNat (((((((((0 + 1) + 1) + 1) + 1) + 1) + 1) + 1) + 1))) rfl
  have f486 := (show 0 ≤ I461 0 71 ∧ I461 0 71 ≤ 5 from (hI461 0 71).1)
  have f487 := (show 0 ≤ I461 0 72 ∧ I461 0 72 ≤ 1000 from (hI461 0 72).1)
  have f488 := (show 0 ≤ I461 0 73 ∧ I461 0 73 ≤ 1001 from (hI461 0 73).1)
  have f489 := (show 0 ≤ I461 0 69 ∧ I461 0 69 ≤ 1000 from (hI461 0 69).1)
  have f490 := (show 0 ≤ I461 0 68 ∧ I461 0 68 ≤ 1000 from (hI461 0 68).1)
  have f491 := (show 0 ≤ I461 0 99 ∧ I461 0 99 ≤ 1000 from (hI461 0 99).1)
  have f492 := (show 0 ≤ I461 0 100 ∧ I461 0 100 ≤ 1000000 from (hI461 0 100).1)
  have f493 := (show 0 ≤ I461 0 1 ∧ I461 0 1 ≤ 8 from (hI461 0 1).1)
  have f494 := (show 0 ≤ I461 0 2 ∧ I461 0 2 ≤ 32 from (hI461 0 2).1)
  have f495 := (show 0 ≤ I461 0 3 ∧ I461 0 3 ≤ 96 from (hI461 0 3).1)
  have f496 := (show 0 ≤ I461 0 4 ∧ I461 0 4 ≤ 8 from (hI461 0 4).1)
  have f497 := (show 0 ≤ I461 0 5 ∧ I461 0 5 ≤ 64 from (hI461 0 5).1)
  have f498 := (show (-1) ≤ I461 0 6 ∧ I461 0 6 ≤ 7 from (hI461 0 6).1)
  have f499 := (show 0 ≤ I461 0 42 ∧ I461 0 42 ≤ 2000 from (hI461 0 42).1)
  have f500 := (show 0 ≤ I461 0 59 ∧ I461 0 59 ≤ 2000 from (hI461 0 59).1)
  have f501 := (show 0 ≤ I461 0 64 ∧ I461 0 64 ≤ 2000 from (hI461 0 64).1)
  have f502 := (show 0 ≤ I461 0 3 ∧ I461 0 3 ≤ 96 from (hI461 0 3).1)
  have KTM_I461 := gr_TM_fr KTM_I415 (fun k => g460 52 k rfl) (fun k => g460 53 k rfl) (fun k => g460 54 k rfl) (g460 0 64 rfl)
  have KVF_I461 := gr_VF_fr KVF_I415 (fun k => g460 14 k rfl) (fun k => g460 13 k rfl)
  have KGR_I461 := gr_GR_fr KGR_I415 (fun k => g460 19 k rfl) (fun k => g460 18 k rfl) (fun k => g460 36 k rfl) (fun k => g460 41 k rfl) (fun k => g460 42 k rfl) (fun k => g460 43 k rfl) (fun k => g460 45 k rfl) (fun k => g460 46 k rfl) (fun k => g460 47 k rfl) (fun k => g460 6 k rfl) (fun k => g460 7 k rfl) (fun k => g460 8 k rfl) (g460 0 3 rfl)
  have KTO_I461 := gr_TO_fr KTO_I415 (fun k => g460 52 k rfl) (fun k => g460 53 k rfl) (fun k => g460 54 k rfl) (fun k => g460 55 k rfl) (fun k => g460 6 k rfl) (g460 0 64 rfl) (g460 0 3 rfl)
  have KFM_I461 := gr_FM_fr KFM_I415 (fun k => g460 10 k rfl) (fun k => g460 55 k rfl) (fun k => g460 52 k rfl) (fun k => g460 53 k rfl) (fun k => g460 54 k rfl) (g460 0 64 rfl) (g460 0 3 rfl)
  have KRT_I461 := gr_RT8_fr KRT_I415 (fun k => g460 59 k rfl)
  have KST_I461 := gr_ST_fr KST_I415 (fun k => g460 6 k rfl) (fun k => g460 19 k rfl) (fun k => g460 18 k rfl) (fun k => g460 41 k rfl) (fun k => g460 36 k rfl) (g460 0 3 rfl)
  have KMQ_I461 := gr_MQ_fr KMQ_I415 (fun k => g460 10 k rfl) (fun k => g460 55 k rfl) (fun k => g460 52 k rfl) (fun k => g460 53 k rfl) (fun k => g460 54 k rfl) (fun k => g460 60 k rfl) (g460 0 64 rfl) (g460 0 3 rfl) (g460 0 99 rfl)
  have KLN_I461 : gr_LN B I461 := gr_LN_of KLE_I (fun k => (((((g460 19 k rfl).trans (p416 19 k (fun q => absurd q.1 (by decide)))).trans (p372 19 k (fun q => absurd q.1 (by decide)))).trans (g335 19 k rfl)).trans (g291 19 k rfl)).trans (p247 19 k (fun q => absurd q.1 (by decide)))) (by omega) (by omega)
  refine gv_callV hD rfl (As := []) (st := []) rfl (by decide) rfl rfl (gr_lV hws rfl) (Nat.le_of_ble_eq_true rfl) (gz_Ev_mono (d := 10) (by decide) E460) ?_
  show gv_X _ _ (27, [(0, .inr (.inr (some 0)))], [], gr_sh ++ ext, gr_h I461 J462)
  refine gv_run 2 true hD (pc' := 29) (lv' := [(1, .inl 0), (0, .inr (.inr (some 0)))]) (st' := []) (h' := gr_h I461 J462) (C := ((True ∧ True) ∧ True)) rfl ⟨⟨trivial, trivial⟩, trivial⟩ ?_
  refine gv_pick [1, 0] rfl ?_
  exact L29 _ I461 J462 0 (Nat.lt_succ_self _) hI461 FI461 FJ462 KTM_I461 KVF_I461 KLN_I461 KRT_I461 KGR_I461 KST_I461 KTO_I461 KFM_I461 KMQ_I461 (by omega)
