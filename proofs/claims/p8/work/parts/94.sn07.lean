set_option maxHeartbeats 8000000 in
set_option maxRecDepth 100000 in
theorem r_lettersOf_p {ws0 : List Cond} {tb : String → gz_T} (hws : ∀ w ∈ gr_ws, w ∈ ws0) (htb : tb RX13 = gr_T) (ext : gz_Sh) (β : Int → Int) (N9 : Int) (p9 : Int) (I : gr_I) (J : gr_J) (hI : gr_Inv I)   (x0 : I 0 71 = 5 ∨ I 0 73 ≤ I 0 69) (x1 : I 0 72 ≤ I 0 69) (x2 : I 0 71 = 0 ∨ (I 0 72 < I 0 73 ∧ I 0 72 < I 0 69)) (x3 : I 0 71 = 3 → 2 ≤ I 0 73 - I 0 72 ∧ I 0 73 - I 0 72 ≤ 14) (x4 : I 0 72 ≤ I 0 73) (x5 : 0 ≤ I 0 6) (x6 : gr_ATp β N9 p9 I J) (x7 : 0 ≤ p9) : ∃ r h', gz_Ev ws0 tb 12 (yX13_lettersOf, cX13_lettersOf, 6, (some .boolean)) [.inr (.inr (some 0))] (gr_sh ++ ext) (gr_h I J) r (gr_sh ++ ext) h' 0 0 ∧ (∃ (I' : gr_I) (J' : gr_J), h' = gr_h I' J' ∧ gr_Inv I' ∧ gr_fr [71, 72, 73, 74, 75, 76, 77] [15, 22, 26] I I' ∧ gr_fj [71, 72, 73, 74, 75, 76, 77] [15, 22, 26] J J' ∧ (∃ z : Int, r = some (.inl z) ∧ 0 ≤ z ∧ z ≤ 1 ∧ (I' 0 71 = 5 ∨ I' 0 73 ≤ I' 0 69) ∧ (I' 0 72 ≤ I' 0 69) ∧ (I' 0 71 = 0 ∨ (I' 0 72 < I' 0 73 ∧ I' 0 72 < I' 0 69)) ∧ (I' 0 71 = 3 → 2 ≤ I' 0 73 - I' 0 72 ∧ I' 0 73 - I' 0 72 ≤ 14) ∧ (I' 0 72 ≤ I' 0 73) ∧ (I' 0 69 = I 0 69) ∧ (I 0 73 ≤ I' 0 73) ∧ (I 0 72 ≤ I' 0 72) ∧ (gs_Or z (0 ≤ (gs_let β N9 I J (I 0 78) p9) ∧ gr_ATp β N9 (gs_let β N9 I J (I 0 78) p9) I' J' ∧ gs_putT 22 15 16 (gs_rn β N9 p9) I J I' J' ∧ gs_Uml β N9 I p9 I') ((gs_let β N9 I J (I 0 78) p9) < 0 ∧ I' 0 77 = -1 - (gs_let β N9 I J (I 0 78) p9) ∧ gs_sameT 22 15 I J I' J' ∧ ∀ j, I' 26 j = I 26 j)))) := by
  have FI : gr_fr [71, 72, 73, 74, 75, 76, 77] [15, 22, 26] I I := fun _ _ _ => rfl
  have FJ : gr_fj [71, 72, 73, 74, 75, 76, 77] [15, 22, 26] J J := fun _ _ _ => rfl
  have hD : gv_D (gr_E ws0 tb 11 (yX13_lettersOf, cX13_lettersOf, 6, (some .boolean)) kX13_lettersOf) := gq_of oX13_lettersOf
  refine gr_ev (d := 11) (l := kX13_lettersOf) (Po := fun r h' => (∃ (I' : gr_I) (J' : gr_J), h' = gr_h I' J' ∧ gr_Inv I' ∧ gr_fr [71, 72, 73, 74, 75, 76, 77] [15, 22, 26] I I' ∧ gr_fj [71, 72, 73, 74, 75, 76, 77] [15, 22, 26] J J' ∧ (∃ z : Int, r = some (.inl z) ∧ 0 ≤ z ∧ z ≤ 1 ∧ (I' 0 71 = 5 ∨ I' 0 73 ≤ I' 0 69) ∧ (I' 0 72 ≤ I' 0 69) ∧ (I' 0 71 = 0 ∨ (I' 0 72 < I' 0 73 ∧ I' 0 72 < I' 0 69)) ∧ (I' 0 71 = 3 → 2 ≤ I' 0 73 - I' 0 72 ∧ I' 0 73 - I' 0 72 ≤ 14) ∧ (I' 0 72 ≤ I' 0 73) ∧ (I' 0 69 = I 0 69) ∧ (I 0 73 ≤ I' 0 73) ∧ (I 0 72 ≤ I' 0 72) ∧ (gs_Or z (0 ≤ (gs_let β N9 I J (I 0 78) p9) ∧ gr_ATp β N9 (gs_let β N9 I J (I 0 78) p9) I' J' ∧ gs_putT 22 15 16 (gs_rn β N9 p9) I J I' J' ∧ gs_Uml β N9 I p9 I') ((gs_let β N9 I J (I 0 78) p9) < 0 ∧ I' 0 77 = -1 - (gs_let β N9 I J (I 0 78) p9) ∧ gs_sameT 22 15 I J I' J' ∧ ∀ j, I' 26 j = I 26 j))))) htb rfl (Nat.le_of_ble_eq_true rfl) ?_
  have tAT := gr_ATp_l x6
  have f1 := (gr_b_0_71 hI)
  have f2 := (gr_b_0_72 hI)
  have f3 := (gr_b_0_73 hI)
  have f4 := (gr_b_0_69 hI)
  have f5 := (gr_b_0_6 hI)
  have L81 : ∀ (n : Nat) (I6 : gr_I) (J7 : gr_J) (v1_8 : Int) (v2_8 : Int64) (v4_8 : Int) (v5_8 : Int) (p_8 : Int), (13 - v5_8).toNat < n → gr_Inv I6 → gr_fr [71, 72, 73, 74, 75, 76, 77] [15, 22, 26] I I6 → gr_fj [71, 72, 73, 74, 75, 76, 77] [15, 22, 26] J J7 → ((0 ≤ v1_8 ∧ v1_8 ≤ 7) ∧ ((-2147483648) ≤ v4_8 ∧ v4_8 ≤ 2147483647) ∧ (0 ≤ v5_8 ∧ v5_8 ≤ 12) ∧ (I6 0 71 = 3) ∧ (v5_8 ≤ I6 0 73 - I6 0 72 - 2) ∧ (0 ≤ p_8) ∧ (I6 0 71 = 5 ∨ I6 0 73 ≤ I6 0 69) ∧ (I6 0 72 ≤ I6 0 69) ∧ (I6 0 71 = 0 ∨ (I6 0 72 < I6 0 73 ∧ I6 0 72 < I6 0 69)) ∧ (I6 0 71 = 3 → 2 ≤ I6 0 73 - I6 0 72 ∧ I6 0 73 - I6 0 72 ≤ 14) ∧ (I6 0 72 ≤ I6 0 73) ∧ (I6 0 69 = I 0 69) ∧ (I 0 73 ≤ I6 0 73) ∧ (I 0 72 ≤ I6 0 72)) → (gr_ATp β N9 p_8 I6 J7) → (v1_8 = I 0 6) → (v2_8 = (gs_rn β N9 p9)) → ((gs_let β N9 I J (I 0 78) p9) = gs_let1 β N9 I (I 0 78) p_8) → (gs_T β N9 p_8 = 3) → (v4_8 = gs_ms β (gs_A β N9 p_8) (Int.toNat v5_8)) → (p_8 = (gs_X β N9 (gs_X β N9 p9))) → ((∀ k, J7 22 k = J 22 k) ∧ (∀ k, I6 15 k = I 15 k) ∧ (∀ k, I6 26 k = I 26 k)) → gv_X (gr_E ws0 tb 11 (yX13_lettersOf, cX13_lettersOf, 6, (some .boolean)) kX13_lettersOf) (gv_Q cX13_lettersOf (some .boolean) (gr_sh ++ ext) (fun r h' => (∃ (I' : gr_I) (J' : gr_J), h' = gr_h I' J' ∧ gr_Inv I' ∧ gr_fr [71, 72, 73, 74, 75, 76, 77] [15, 22, 26] I I' ∧ gr_fj [71, 72, 73, 74, 75, 76, 77] [15, 22, 26] J J' ∧ (∃ z : Int, r = some (.inl z) ∧ 0 ≤ z ∧ z ≤ 1 ∧ (I' 0 71 = 5 ∨ I' 0 73 ≤ I' 0 69) ∧ (I' 0 72 ≤ I' 0 69) ∧ (I' 0 71 = 0 ∨ (I' 0 72 < I' 0 73 ∧ I' 0 72 < I' 0 69)) ∧ (I' 0 71 = 3 → 2 ≤ I' 0 73 - I' 0 72 ∧ I' 0 73 - I' 0 72 ≤ 14) ∧ (I' 0 72 ≤ I' 0 73) ∧ (I' 0 69 = I 0 69) ∧ (I 0 73 ≤ I' 0 73) ∧ (I 0 72 ≤ I' 0 72) ∧ (gs_Or z (0 ≤ (gs_let β N9 I J (I 0 78) p9) ∧ gr_ATp β N9 (gs_let β N9 I J (I 0 78) p9) I' J' ∧ gs_putT 22 15 16 (gs_rn β N9 p9) I J I' J' ∧ gs_Uml β N9 I p9 I') ((gs_let β N9 I J (I 0 78) p9) < 0 ∧ I' 0 77 = -1 - (gs_let β N9 I J (I 0 78) p9) ∧ gs_sameT 22 15 I J I' J' ∧ ∀ j, I' 26 j = I 26 j)))))) (81, [(0, .inr (.inr (some 0))), (1, .inl v1_8), (2, .inr (.inl v2_8)), (4, .inl v4_8), (5, .inl v5_8)], [], gr_sh ++ ext, gr_h I6 J7) := by
    intro n
    induction n with
    | zero => intro I6 J7 v1_8 v2_8 v4_8 v5_8 p_8 hn; exact gz_m 0 (by omega)
    | succ n ih81 =>
      intro I6 J7 v1_8 v2_8 v4_8 v5_8 p_8 hn hI6 FI6 FJ7 m_8 e3_8 e4_8 e5_8 e6_8 e7_8 e8_8 e9_8 e10_8
      obtain ⟨hv1_8, hv4_8, hv5_8, e0_8, e1_8, e2_8, e11_8, e12_8, e13_8, e14_8, e15_8, e16_8, e17_8, e18_8⟩ := m_8
      have q9_8 := e4_8
      subst q9_8
      have f9 := (gr_b_0_71 hI6)
      have f10 := (gr_b_0_72 hI6)
      have f11 := (gr_b_0_73 hI6)
      have f12 := (gr_b_0_69 hI6)
      have f13 := (gr_b_0_6 hI6)
      have t14 := gr_ATp_l e3_8
      refine gv_run 2 true hD (pc' := 84) (lv' := [(0, .inr (.inr (some 0))), (1, .inl (I 0 6)), (2, .inr (.inl v2_8)), (4, .inl v4_8), (5, .inl v5_8)]) (st' := [.inr (.inr (some 0)), .inl v5_8]) (h' := gr_h I6 J7) (C := ((True ∧ True) ∧ True)) rfl ⟨⟨trivial, trivial⟩, trivial⟩ ?_
      obtain ⟨r15, h15, E15, P15⟩ := r_size (ws0 := ws0) (tb := tb) hws htb ext I6 J7 hI6   
      obtain ⟨rfl, ⟨z15, rfl, q15⟩⟩ := P15
      refine gv_callV hD rfl (As := []) (st := [.inl v5_8]) rfl (by decide) rfl rfl (gr_lV hws rfl) (Nat.le_of_ble_eq_true rfl) (gz_Ev_mono (d := 1) (by decide) E15) ?_
      show gv_X _ _ (87, [(0, .inr (.inr (some 0))), (1, .inl (I 0 6)), (2, .inr (.inl v2_8)), (4, .inl v4_8), (5, .inl v5_8)], [.inl z15, .inl v5_8], gr_sh ++ ext, gr_h I6 J7)
      refine gv_icmp_ge (t := 120) hD rfl rfl ⟨⟨by exact gz_m 1 (by omega), by exact gz_m 2 (by omega)⟩, ⟨by exact gz_m 3 (by omega), by exact gz_m 4 (by omega)⟩⟩ (fun c16 => ?_) (fun c16 => ?_)
      · refine gv_run 1 true hD (pc' := 121) (lv' := [(0, .inr (.inr (some 0))), (1, .inl (I 0 6)), (2, .inr (.inl v2_8)), (4, .inl v4_8), (5, .inl v5_8)]) (st' := [.inr (.inr (some 0))]) (h' := gr_h I6 J7) (C := (True ∧ True)) rfl ⟨trivial, trivial⟩ ?_
        obtain ⟨r17, h17, E17, P17⟩ := r_next_p (ws0 := ws0) (tb := tb) hws htb ext β N9 I6 J7 hI6   (by exact gz_m 5 (by omega)) e3_8.1.1 e3_8.1.2
        obtain ⟨I18, J19, rfl, hI18, g17, k17, ⟨rfl, q17⟩⟩ := P17
        have FI18 := gr_frt FI6 g17 rfl rfl
        have FJ19 := gr_fjt FJ7 k17 rfl rfl
        have t20 := g17 0 69 rfl
        have t21 := g17 0 6 rfl
        have t22 := g17 15 (Int.toNat ((I 0 6))) rfl
        have f23 := (gr_b_0_71 hI18)
        have f24 := (gr_b_0_72 hI18)
        have f25 := (gr_b_0_73 hI18)
        have f26 := (gr_b_0_69 hI18)
        have f27 := (gr_b_0_6 hI18)
        have A28 := gr_ATp_nx e3_8 q17.2.2.2.2.2
        have t29 := gr_ATp_l A28
        refine gv_callV hD rfl (As := []) (st := []) rfl (by decide) rfl rfl (gr_lV hws rfl) (Nat.le_of_ble_eq_true rfl) (gz_Ev_mono (d := 10) (by decide) E17) ?_
        show gv_X _ _ (124, [(0, .inr (.inr (some 0))), (1, .inl (I 0 6)), (2, .inr (.inl v2_8)), (4, .inl v4_8), (5, .inl v5_8)], [], gr_sh ++ ext, gr_h I18 J19)
        have f30 := (gr_b_15 hI18 (Int.toNat ((I 0 6))))
        refine gv_run 5 true hD (pc' := 131) (lv' := [(0, .inr (.inr (some 0))), (1, .inl (I 0 6)), (2, .inr (.inl v2_8)), (4, .inl v4_8), (5, .inl v5_8)]) (st' := [.inl (I18 15 (Int.toNat ((I 0 6)))), .inr (.inr (some 0))]) (h' := gr_h I18 J19) (C := (((((True ∧ True) ∧ True) ∧ True) ∧ True) ∧ (0 ≤ (I 0 6) ∧ (I 0 6) < ((8 : Nat) : Int)))) rfl ⟨⟨⟨⟨⟨trivial, trivial⟩, trivial⟩, trivial⟩, trivial⟩, ⟨by exact gz_m 6 (by omega), by exact gz_m 7 (by omega)⟩⟩ ?_
        refine gv_run 1 true hD (pc' := 133) (lv' := [(0, .inr (.inr (some 0))), (1, .inl (I 0 6)), (2, .inr (.inl v2_8)), (4, .inl v4_8), (5, .inl v5_8)]) (st' := [.inl 16, .inl (I18 15 (Int.toNat ((I 0 6)))), .inr (.inr (some 0))]) (h' := gr_h I18 J19) (C := (True ∧ True)) rfl ⟨trivial, trivial⟩ ?_
        have t31 := (show I18 15 (Int.toNat (I 0 6)) = I 15 (Int.toNat (I 0 6)) from ((g17 15 _ rfl).trans (e10_8.2.1 _)))
        refine gv_icmp_ge (t := 140) hD rfl rfl ⟨⟨by exact gz_m 8 (by omega), by exact gz_m 9 (by omega)⟩, ⟨by exact gz_m 10 (by omega), by exact gz_m 11 (by omega)⟩⟩ (fun c32 => ?_) (fun c32 => ?_)
        · refine gv_run 1 true hD (pc' := 141) (lv' := [(0, .inr (.inr (some 0))), (1, .inl (I 0 6)), (2, .inr (.inl v2_8)), (4, .inl v4_8), (5, .inl v5_8)]) (st' := [.inl 0, .inr (.inr (some 0))]) (h' := gr_h I18 J19) (C := (True ∧ True)) rfl ⟨trivial, trivial⟩ ?_
          obtain ⟨r33, h33, E33, P33⟩ := r_done_p (ws0 := ws0) (tb := tb) hws htb ext β N9 (gs_X β N9 p_8) I18 J19 hI18 0 ⟨by exact gz_m 12 (by omega), by exact gz_m 13 (by omega)⟩ (by exact gz_m 14 (by omega)) (by exact gz_m 15 (by omega)) (by exact gz_m 16 (by omega)) (by exact gz_m 17 (by omega)) (by exact gz_m 18 (by omega)) A28 (by exact gz_m 19 (by omega))
          obtain ⟨I34, J35, rfl, hI34, g33, k33, ⟨z33, rfl, q33⟩⟩ := P33
          have FI34 := gr_frt FI18 g33 rfl rfl
          have FJ35 := gr_fjt FJ19 k33 rfl rfl
          have t36 := g33 0 69 rfl
          have t37 := g33 0 6 rfl
          have t38 := g33 15 (Int.toNat ((I 0 6))) rfl
          have f39 := (gr_b_0_71 hI34)
          have f40 := (gr_b_0_72 hI34)
          have f41 := (gr_b_0_73 hI34)
          have f42 := (gr_b_0_69 hI34)
          have f43 := (gr_b_0_6 hI34)
          refine gv_callV hD rfl (As := [.inl 0]) (st := []) rfl (by decide) rfl rfl (gr_lV hws rfl) (Nat.le_of_ble_eq_true rfl) (gz_Ev_mono (d := 11) (by decide) E33) ?_
          show gv_X _ _ (144, [(0, .inr (.inr (some 0))), (1, .inl (I 0 6)), (2, .inr (.inl v2_8)), (4, .inl v4_8), (5, .inl v5_8)], [.inl z33], gr_sh ++ ext, gr_h I34 J35)
          refine gv_if_ne (t := 149) hD rfl rfl ⟨by exact gz_m 20 (by omega), by exact gz_m 21 (by omega)⟩ (fun c44 => ?_) (fun c44 => ?_)
          · have Q45 := q33.2.2.2.2.2.2.2.2.2.2.2.2
            rw [FI18 0 78 rfl] at Q45
            obtain ⟨u45, A45⟩ := gs_or1 Q45 (by exact gz_m 22 (by omega))
            have t46 := gr_ATp_l A45
            refine gv_run 7 true hD (pc' := 161) (lv' := [(0, .inr (.inr (some 0))), (1, .inl (I 0 6)), (2, .inr (.inl v2_8)), (4, .inl v4_8), (5, .inl v5_8)]) (st' := [.inr (.inr (some 15)), .inl (16 * (I 0 6)), .inr (.inr (some 22))]) (h' := gr_h I34 J35) (C := (((((((True ∧ True) ∧ True) ∧ True) ∧ True) ∧ True) ∧ True) ∧ True)) rfl ⟨⟨⟨⟨⟨⟨⟨trivial, trivial⟩, trivial⟩, trivial⟩, trivial⟩, trivial⟩, trivial⟩, trivial⟩ ?_
            have f47 := (gr_b_15 hI34 (Int.toNat ((I 0 6))))
            refine gv_run 2 true hD (pc' := 163) (lv' := [(0, .inr (.inr (some 0))), (1, .inl (I 0 6)), (2, .inr (.inl v2_8)), (4, .inl v4_8), (5, .inl v5_8)]) (st' := [.inl (I34 15 (Int.toNat ((I 0 6)))), .inl (16 * (I 0 6)), .inr (.inr (some 22))]) (h' := gr_h I34 J35) (C := ((True ∧ True) ∧ (0 ≤ (I 0 6) ∧ (I 0 6) < ((8 : Nat) : Int)))) rfl ⟨⟨trivial, trivial⟩, ⟨by exact gz_m 23 (by omega), by exact gz_m 24 (by omega)⟩⟩ ?_
            refine gv_run 3 true hD (pc' := 166) (lv' := [(0, .inr (.inr (some 0))), (1, .inl (I 0 6)), (2, .inr (.inl v2_8)), (4, .inl v4_8), (5, .inl v5_8)]) (st' := []) (h' := gz_up (gr_h I34 J35) 22 (Int.toNat (((16 * (I 0 6)) + (I34 15 (Int.toNat ((I 0 6))))))) (.inr (.inl v2_8))) (C := (((True ∧ True) ∧ True) ∧ (0 ≤ (((16 * (I 0 6)) + (I34 15 (Int.toNat ((I 0 6)))))) ∧ (((16 * (I 0 6)) + (I34 15 (Int.toNat ((I 0 6)))))) < ((128 : Nat) : Int)))) rfl ⟨⟨⟨trivial, trivial⟩, trivial⟩, ⟨by exact gz_m 25 (by omega), by exact gz_m 26 (by omega)⟩⟩ ?_
            refine gr_stJq FJ35 rfl rfl (fun J48 FJ48 q49 p49 => ?_)
            have A50 := gr_ATp_sj' A45 p49 rfl
            refine gv_run 7 true hD (pc' := 178) (lv' := [(0, .inr (.inr (some 0))), (1, .inl (I 0 6)), (2, .inr (.inl v2_8)), (4, .inl v4_8), (5, .inl v5_8)]) (st' := [.inr (.inr (some 15)), .inl (16 * (I 0 6)), .inr (.inr (some 26))]) (h' := gr_h I34 J48) (C := (((((((True ∧ True) ∧ True) ∧ True) ∧ True) ∧ True) ∧ True) ∧ True)) rfl ⟨⟨⟨⟨⟨⟨⟨trivial, trivial⟩, trivial⟩, trivial⟩, trivial⟩, trivial⟩, trivial⟩, trivial⟩ ?_
            have f51 := (gr_b_15 hI34 (Int.toNat ((I 0 6))))
            refine gv_run 3 true hD (pc' := 181) (lv' := [(0, .inr (.inr (some 0))), (1, .inl (I 0 6)), (2, .inr (.inl v2_8)), (4, .inl v4_8), (5, .inl v5_8)]) (st' := [.inl (I34 15 (Int.toNat ((I 0 6)))), .inl (I 0 6), .inr (.inr (some 15)), .inl (16 * (I 0 6)), .inr (.inr (some 26))]) (h' := gr_h I34 J48) (C := (((True ∧ True) ∧ True) ∧ (0 ≤ (I 0 6) ∧ (I 0 6) < ((8 : Nat) : Int)))) rfl ⟨⟨⟨trivial, trivial⟩, trivial⟩, ⟨by exact gz_m 27 (by omega), by exact gz_m 28 (by omega)⟩⟩ ?_
            refine gv_run 3 true hD (pc' := 184) (lv' := [(0, .inr (.inr (some 0))), (1, .inl (I 0 6)), (2, .inr (.inl v2_8)), (4, .inl v4_8), (5, .inl v5_8)]) (st' := [.inl ((I34 15 (Int.toNat ((I 0 6)))) + 1), .inl (I 0 6), .inr (.inr (some 15)), .inl (I34 15 (Int.toNat ((I 0 6)))), .inl (16 * (I 0 6)), .inr (.inr (some 26))]) (h' := gr_h I34 J48) (C := (((True ∧ True) ∧ True) ∧ True)) rfl ⟨⟨⟨trivial, trivial⟩, trivial⟩, trivial⟩ ?_
            refine gv_run 1 true hD (pc' := 185) (lv' := [(0, .inr (.inr (some 0))), (1, .inl (I 0 6)), (2, .inr (.inl v2_8)), (4, .inl v4_8), (5, .inl v5_8)]) (st' := [.inl (I34 15 (Int.toNat ((I 0 6)))), .inl (16 * (I 0 6)), .inr (.inr (some 26))]) (h' := gz_up (gr_h I34 J48) 15 (Int.toNat ((I 0 6))) (.inl (((I34 15 (Int.toNat ((I 0 6)))) + 1)))) (C := (True ∧ (0 ≤ (I 0 6) ∧ (I 0 6) < ((8 : Nat) : Int)))) rfl ⟨trivial, ⟨by exact gz_m 29 (by omega), by exact gz_m 30 (by omega)⟩⟩ ?_
            refine gr_st hI34 FI34 rfl rfl ⟨⟨by show 0 ≤ _; exact gz_m 31 (by omega), by show _ ≤ 16; exact gz_m 32 (by omega)⟩, trivial⟩ (fun I52 hI52 FI52 q53 p53 => ?_)
            have t54 := p53 0 71 (fun q => absurd q.1 (by decide))
            have t55 := p53 0 72 (fun q => absurd q.1 (by decide))
            have t56 := p53 0 73 (fun q => absurd q.1 (by decide))
            have t57 := p53 0 69 (fun q => absurd q.1 (by decide))
            have t58 := p53 0 6 (fun q => absurd q.1 (by decide))
            have f59 := (gr_b_0_71 hI52)
            have f60 := (gr_b_0_72 hI52)
            have f61 := (gr_b_0_73 hI52)
            have f62 := (gr_b_0_69 hI52)
            have f63 := (gr_b_0_6 hI52)
            have A64 := gr_ATp_sr A50 p53 rfl
            refine gv_run 3 true hD (pc' := 189) (lv' := [(0, .inr (.inr (some 0))), (1, .inl (I 0 6)), (2, .inr (.inl v2_8)), (4, .inl v4_8), (5, .inl v5_8)]) (st' := []) (h' := gz_up (gr_h I52 J48) 26 (Int.toNat (((16 * (I 0 6)) + (I34 15 (Int.toNat ((I 0 6))))))) (.inl v4_8)) (C := (((True ∧ True) ∧ True) ∧ (0 ≤ (((16 * (I 0 6)) + (I34 15 (Int.toNat ((I 0 6)))))) ∧ (((16 * (I 0 6)) + (I34 15 (Int.toNat ((I 0 6)))))) < ((128 : Nat) : Int)))) rfl ⟨⟨⟨trivial, trivial⟩, trivial⟩, ⟨by exact gz_m 33 (by omega), by exact gz_m 34 (by omega)⟩⟩ ?_
            refine gr_st hI52 FI52 rfl rfl ⟨⟨by show (-2147483648) ≤ _; exact gz_m 35 (by omega), by show _ ≤ 2147483647; exact gz_m 36 (by omega)⟩, trivial⟩ (fun I65 hI65 FI65 q66 p66 => ?_)
            have t67 := p66 0 71 (fun q => absurd q.1 (by decide))
            have t68 := p66 0 72 (fun q => absurd q.1 (by decide))
            have t69 := p66 0 73 (fun q => absurd q.1 (by decide))
            have t70 := p66 0 69 (fun q => absurd q.1 (by decide))
            have t71 := p66 0 6 (fun q => absurd q.1 (by decide))
            have t72 := p66 15 (Int.toNat ((I 0 6))) (fun q => absurd q.1 (by decide))
            have f73 := (gr_b_0_71 hI65)
            have f74 := (gr_b_0_72 hI65)
            have f75 := (gr_b_0_73 hI65)
            have f76 := (gr_b_0_69 hI65)
            have f77 := (gr_b_0_6 hI65)
            have A78 := gr_ATp_sr A64 p66 rfl
            refine gv_run 1 true hD (pc' := 190) (lv' := [(0, .inr (.inr (some 0))), (1, .inl (I 0 6)), (2, .inr (.inl v2_8)), (4, .inl v4_8), (5, .inl v5_8)]) (st' := [.inl 1]) (h' := gr_h I65 J48) (C := (True ∧ True)) rfl ⟨trivial, trivial⟩ ?_
            have b79 : (I65 0 71 = 5 ∨ I65 0 73 ≤ I65 0 69) ∧ (I65 0 72 ≤ I65 0 69) ∧ (I65 0 71 = 0 ∨ (I65 0 72 < I65 0 73 ∧ I65 0 72 < I65 0 69)) ∧ (I65 0 71 = 3 → 2 ≤ I65 0 73 - I65 0 72 ∧ I65 0 73 - I65 0 72 ≤ 14) ∧ (I65 0 72 ≤ I65 0 73) ∧ (I65 0 69 = I 0 69) ∧ (I 0 73 ≤ I65 0 73) ∧ (I 0 72 ≤ I65 0 72) := by exact gz_m 37 (by omega)
            exact gv_zret hD rfl (by exact gz_m 38 (by omega)) ⟨I65, J48, rfl, hI65, FI65, FJ48, ⟨_, rfl, by exact gz_m 39 (by omega), by exact gz_m 40 (by omega), b79.1, b79.2.1, b79.2.2.1, b79.2.2.2.1, b79.2.2.2.2.1, b79.2.2.2.2.2.1, b79.2.2.2.2.2.2.1, b79.2.2.2.2.2.2.2, (Or.inl ⟨by exact gz_m 41 (by omega), by have e9 : (gs_let β N9 I J (I 0 78) p9) = (gs_done β N9 0 (I 0 78) (gs_X β N9 p_8)) := (by first | (exfalso; exact gz_m 42 (by omega)) | (rw [e6_8]; unfold gs_let1; (repeat first | rw [if_pos (by exact gz_m 43 (by omega))] | rw [if_neg (by exact gz_m 44 (by omega))]))); rw [e9]; exact ⟨by exact gz_m 45 (by omega), A78, (by have v9 : I34 15 (Int.toNat (I 0 6)) = I 15 (Int.toNat (I 0 6)) := (((g33 15 _ rfl).trans (g17 15 _ rfl)).trans (e10_8.2.1 _)); exact gs_putT_mk (fun j => (((g33 15 j rfl).trans (g17 15 j rfl)).trans (e10_8.2.1 j))) (fun j => (((k33 22 j rfl).trans (k17 22 j rfl)).trans (e10_8.1 j))) (by exact gz_m 46 (by omega)) p49 (q49.trans e5_8) (by exact gz_m 47 (by omega)) p53 (by exact gz_m 48 (by omega)) (fun j => p66 15 j (fun q => absurd q.1 (by decide)))), (by have v9 : I34 15 (Int.toNat (I 0 6)) = I 15 (Int.toNat (I 0 6)) := (((g33 15 _ rfl).trans (g17 15 _ rfl)).trans (e10_8.2.1 _)); exact gs_Uml_mk e8_8 e9_8 (by exact gz_m 49 (by omega)) (by exact gz_m 50 (by omega)) q66 (fun j hj => (p66 26 j (fun q => hj q.2)).trans ((((p53 26 j (fun q => absurd q.1 (by decide))).trans (g33 26 j rfl)).trans (g17 26 j rfl)).trans (e10_8.2.2 j))))⟩⟩)⟩⟩
          · have Q80 := q33.2.2.2.2.2.2.2.2.2.2.2.2
            rw [FI18 0 78 rfl] at Q80
            obtain ⟨u80, u80_⟩ := gs_or0 Q80 (by exact gz_m 51 (by omega))
            refine gv_run 1 true hD (pc' := 148) (lv' := [(0, .inr (.inr (some 0))), (1, .inl (I 0 6)), (2, .inr (.inl v2_8)), (4, .inl v4_8), (5, .inl v5_8)]) (st' := [.inl 0]) (h' := gr_h I34 J35) (C := (True ∧ True)) rfl ⟨trivial, trivial⟩ ?_
            have b81 : (I34 0 71 = 5 ∨ I34 0 73 ≤ I34 0 69) ∧ (I34 0 72 ≤ I34 0 69) ∧ (I34 0 71 = 0 ∨ (I34 0 72 < I34 0 73 ∧ I34 0 72 < I34 0 69)) ∧ (I34 0 71 = 3 → 2 ≤ I34 0 73 - I34 0 72 ∧ I34 0 73 - I34 0 72 ≤ 14) ∧ (I34 0 72 ≤ I34 0 73) ∧ (I34 0 69 = I 0 69) ∧ (I 0 73 ≤ I34 0 73) ∧ (I 0 72 ≤ I34 0 72) := by exact gz_m 52 (by omega)
            exact gv_zret hD rfl (by exact gz_m 53 (by omega)) ⟨I34, J35, rfl, hI34, FI34, FJ35, ⟨_, rfl, by exact gz_m 54 (by omega), by exact gz_m 55 (by omega), b81.1, b81.2.1, b81.2.2.1, b81.2.2.2.1, b81.2.2.2.2.1, b81.2.2.2.2.2.1, b81.2.2.2.2.2.2.1, b81.2.2.2.2.2.2.2, (Or.inr ⟨by exact gz_m 56 (by omega), by first | (exfalso; exact gz_m 57 (by omega)) | (rw [e6_8]; unfold gs_let1; (repeat first | rw [if_pos (by exact gz_m 58 (by omega))] | rw [if_neg (by exact gz_m 59 (by omega))]); exact ⟨by exact gz_m 60 (by omega), by exact gz_m 61 (by omega), ⟨(fun j => ⟨(((g33 15 j rfl).trans (g17 15 j rfl)).trans (e10_8.2.1 j)), (((k33 22 j rfl).trans (k17 22 j rfl)).trans (e10_8.1 j))⟩), fun j => (((g33 26 j rfl).trans (g17 26 j rfl)).trans (e10_8.2.2 j))⟩⟩)⟩)⟩⟩
        · refine gv_run 2 true hD (pc' := 141) (lv' := [(0, .inr (.inr (some 0))), (1, .inl (I 0 6)), (2, .inr (.inl v2_8)), (4, .inl v4_8), (5, .inl v5_8)]) (st' := [.inl 1, .inr (.inr (some 0))]) (h' := gr_h I18 J19) (C := ((True ∧ True) ∧ True)) rfl ⟨⟨trivial, trivial⟩, trivial⟩ ?_
          obtain ⟨r82, h82, E82, P82⟩ := r_done_p (ws0 := ws0) (tb := tb) hws htb ext β N9 (gs_X β N9 p_8) I18 J19 hI18 1 ⟨by exact gz_m 62 (by omega), by exact gz_m 63 (by omega)⟩ (by exact gz_m 64 (by omega)) (by exact gz_m 65 (by omega)) (by exact gz_m 66 (by omega)) (by exact gz_m 67 (by omega)) (by exact gz_m 68 (by omega)) A28 (by exact gz_m 69 (by omega))
          obtain ⟨I83, J84, rfl, hI83, g82, k82, ⟨z82, rfl, q82⟩⟩ := P82
          have FI83 := gr_frt FI18 g82 rfl rfl
          have FJ84 := gr_fjt FJ19 k82 rfl rfl
          have t85 := g82 0 69 rfl
          have t86 := g82 0 6 rfl
          have t87 := g82 15 (Int.toNat ((I 0 6))) rfl
          have f88 := (gr_b_0_71 hI83)
          have f89 := (gr_b_0_72 hI83)
          have f90 := (gr_b_0_73 hI83)
          have f91 := (gr_b_0_69 hI83)
          have f92 := (gr_b_0_6 hI83)
          refine gv_callV hD rfl (As := [.inl 1]) (st := []) rfl (by decide) rfl rfl (gr_lV hws rfl) (Nat.le_of_ble_eq_true rfl) (gz_Ev_mono (d := 11) (by decide) E82) ?_
          show gv_X _ _ (144, [(0, .inr (.inr (some 0))), (1, .inl (I 0 6)), (2, .inr (.inl v2_8)), (4, .inl v4_8), (5, .inl v5_8)], [.inl z82], gr_sh ++ ext, gr_h I83 J84)
          refine gv_if_ne (t := 149) hD rfl rfl ⟨by exact gz_m 70 (by omega), by exact gz_m 71 (by omega)⟩ (fun c93 => ?_) (fun c93 => ?_)
          · have Q94 := q82.2.2.2.2.2.2.2.2.2.2.2.2
            rw [FI18 0 78 rfl] at Q94
            obtain ⟨u94, A94⟩ := gs_or1 Q94 (by exact gz_m 72 (by omega))
            have t95 := gr_ATp_l A94
            refine gv_run 7 true hD (pc' := 161) (lv' := [(0, .inr (.inr (some 0))), (1, .inl (I 0 6)), (2, .inr (.inl v2_8)), (4, .inl v4_8), (5, .inl v5_8)]) (st' := [.inr (.inr (some 15)), .inl (16 * (I 0 6)), .inr (.inr (some 22))]) (h' := gr_h I83 J84) (C := (((((((True ∧ True) ∧ True) ∧ True) ∧ True) ∧ True) ∧ True) ∧ True)) rfl ⟨⟨⟨⟨⟨⟨⟨trivial, trivial⟩, trivial⟩, trivial⟩, trivial⟩, trivial⟩, trivial⟩, trivial⟩ ?_
            have f96 := (gr_b_15 hI83 (Int.toNat ((I 0 6))))
            refine gv_run 2 true hD (pc' := 163) (lv' := [(0, .inr (.inr (some 0))), (1, .inl (I 0 6)), (2, .inr (.inl v2_8)), (4, .inl v4_8), (5, .inl v5_8)]) (st' := [.inl (I83 15 (Int.toNat ((I 0 6)))), .inl (16 * (I 0 6)), .inr (.inr (some 22))]) (h' := gr_h I83 J84) (C := ((True ∧ True) ∧ (0 ≤ (I 0 6) ∧ (I 0 6) < ((8 : Nat) : Int)))) rfl ⟨⟨trivial, trivial⟩, ⟨by exact gz_m 73 (by omega), by exact gz_m 74 (by omega)⟩⟩ ?_
            refine gv_run 3 true hD (pc' := 166) (lv' := [(0, .inr (.inr (some 0))), (1, .inl (I 0 6)), (2, .inr (.inl v2_8)), (4, .inl v4_8), (5, .inl v5_8)]) (st' := []) (h' := gz_up (gr_h I83 J84) 22 (Int.toNat (((16 * (I 0 6)) + (I83 15 (Int.toNat ((I 0 6))))))) (.inr (.inl v2_8))) (C := (((True ∧ True) ∧ True) ∧ (0 ≤ (((16 * (I 0 6)) + (I83 15 (Int.toNat ((I 0 6)))))) ∧ (((16 * (I 0 6)) + (I83 15 (Int.toNat ((I 0 6)))))) < ((128 : Nat) : Int)))) rfl ⟨⟨⟨trivial, trivial⟩, trivial⟩, ⟨by exact gz_m 75 (by omega), by exact gz_m 76 (by omega)⟩⟩ ?_
            refine gr_stJq FJ84 rfl rfl (fun J97 FJ97 q98 p98 => ?_)
            have A99 := gr_ATp_sj' A94 p98 rfl
            refine gv_run 7 true hD (pc' := 178) (lv' := [(0, .inr (.inr (some 0))), (1, .inl (I 0 6)), (2, .inr (.inl v2_8)), (4, .inl v4_8), (5, .inl v5_8)]) (st' := [.inr (.inr (some 15)), .inl (16 * (I 0 6)), .inr (.inr (some 26))]) (h' := gr_h I83 J97) (C := (((((((True ∧ True) ∧ True) ∧ True) ∧ True) ∧ True) ∧ True) ∧ True)) rfl ⟨⟨⟨⟨⟨⟨⟨trivial, trivial⟩, trivial⟩, trivial⟩, trivial⟩, trivial⟩, trivial⟩, trivial⟩ ?_
            have f100 := (gr_b_15 hI83 (Int.toNat ((I 0 6))))
            refine gv_run 3 true hD (pc' := 181) (lv' := [(0, .inr (.inr (some 0))), (1, .inl (I 0 6)), (2, .inr (.inl v2_8)), (4, .inl v4_8), (5, .inl v5_8)]) (st' := [.inl (I83 15 (Int.toNat ((I 0 6)))), .inl (I 0 6), .inr (.inr (some 15)), .inl (16 * (I 0 6)), .inr (.inr (some 26))]) (h' := gr_h I83 J97) (C := (((True ∧ True) ∧ True) ∧ (0 ≤ (I 0 6) ∧ (I 0 6) < ((8 : Nat) : Int)))) rfl ⟨⟨⟨trivial, trivial⟩, trivial⟩, ⟨by exact gz_m 77 (by omega), by exact gz_m 78 (by omega)⟩⟩ ?_
            refine gv_run 3 true hD (pc' := 184) (lv' := [(0, .inr (.inr (some 0))), (1, .inl (I 0 6)), (2, .inr (.inl v2_8)), (4, .inl v4_8), (5, .inl v5_8)]) (st' := [.inl ((I83 15 (Int.toNat ((I 0 6)))) + 1), .inl (I 0 6), .inr (.inr (some 15)), .inl (I83 15 (Int.toNat ((I 0 6)))), .inl (16 * (I 0 6)), .inr (.inr (some 26))]) (h' := gr_h I83 J97) (C := (((True ∧ True) ∧ True) ∧ True)) rfl ⟨⟨⟨trivial, trivial⟩, trivial⟩, trivial⟩ ?_
            refine gv_run 1 true hD (pc' := 185) (lv' := [(0, .inr (.inr (some 0))), (1, .inl (I 0 6)), (2, .inr (.inl v2_8)), (4, .inl v4_8), (5, .inl v5_8)]) (st' := [.inl (I83 15 (Int.toNat ((I 0 6)))), .inl (16 * (I 0 6)), .inr (.inr (some 26))]) (h' := gz_up (gr_h I83 J97) 15 (Int.toNat ((I 0 6))) (.inl (((I83 15 (Int.toNat ((I 0 6)))) + 1)))) (C := (True ∧ (0 ≤ (I 0 6) ∧ (I 0 6) < ((8 : Nat) : Int)))) rfl ⟨trivial, ⟨by exact gz_m 79 (by omega), by exact gz_m 80 (by omega)⟩⟩ ?_
            refine gr_st hI83 FI83 rfl rfl ⟨⟨by show 0 ≤ _; exact gz_m 81 (by omega), by show _ ≤ 16; exact gz_m 82 (by omega)⟩, trivial⟩ (fun I101 hI101 FI101 q102 p102 => ?_)
            have t103 := p102 0 71 (fun q => absurd q.1 (by decide))
            have t104 := p102 0 72 (fun q => absurd q.1 (by decide))
            have t105 := p102 0 73 (fun q => absurd q.1 (by decide))
            have t106 := p102 0 69 (fun q => absurd q.1 (by decide))
            have t107 := p102 0 6 (fun q => absurd q.1 (by decide))
            have f108 := (gr_b_0_71 hI101)
            have f109 := (gr_b_0_72 hI101)
            have f110 := (gr_b_0_73 hI101)
            have f111 := (gr_b_0_69 hI101)
            have f112 := (gr_b_0_6 hI101)
            have A113 := gr_ATp_sr A99 p102 rfl
            refine gv_run 3 true hD (pc' := 189) (lv' := [(0, .inr (.inr (some 0))), (1, .inl (I 0 6)), (2, .inr (.inl v2_8)), (4, .inl v4_8), (5, .inl v5_8)]) (st' := []) (h' := gz_up (gr_h I101 J97) 26 (Int.toNat (((16 * (I 0 6)) + (I83 15 (Int.toNat ((I 0 6))))))) (.inl v4_8)) (C := (((True ∧ True) ∧ True) ∧ (0 ≤ (((16 * (I 0 6)) + (I83 15 (Int.toNat ((I 0 6)))))) ∧ (((16 * (I 0 6)) + (I83 15 (Int.toNat ((I 0 6)))))) < ((128 : Nat) : Int)))) rfl ⟨⟨⟨trivial, trivial⟩, trivial⟩, ⟨by exact gz_m 83 (by omega), by exact gz_m 84 (by omega)⟩⟩ ?_
            refine gr_st hI101 FI101 rfl rfl ⟨⟨by show (-2147483648) ≤ _; exact gz_m 85 (by omega), by show _ ≤ 2147483647; exact gz_m 86 (by omega)⟩, trivial⟩ (fun I114 hI114 FI114 q115 p115 => ?_)
            have t116 := p115 0 71 (fun q => absurd q.1 (by decide))
            have t117 := p115 0 72 (fun q => absurd q.1 (by decide))
            have t118 := p115 0 73 (fun q => absurd q.1 (by decide))
            have t119 := p115 0 69 (fun q => absurd q.1 (by decide))
            have t120 := p115 0 6 (fun q => absurd q.1 (by decide))
            have t121 := p115 15 (Int.toNat ((I 0 6))) (fun q => absurd q.1 (by decide))
            have f122 := (gr_b_0_71 hI114)
            have f123 := (gr_b_0_72 hI114)
            have f124 := (gr_b_0_73 hI114)
            have f125 := (gr_b_0_69 hI114)
            have f126 := (gr_b_0_6 hI114)
            have A127 := gr_ATp_sr A113 p115 rfl
            refine gv_run 1 true hD (pc' := 190) (lv' := [(0, .inr (.inr (some 0))), (1, .inl (I 0 6)), (2, .inr (.inl v2_8)), (4, .inl v4_8), (5, .inl v5_8)]) (st' := [.inl 1]) (h' := gr_h I114 J97) (C := (True ∧ True)) rfl ⟨trivial, trivial⟩ ?_
            have b128 : (I114 0 71 = 5 ∨ I114 0 73 ≤ I114 0 69) ∧ (I114 0 72 ≤ I114 0 69) ∧ (I114 0 71 = 0 ∨ (I114 0 72 < I114 0 73 ∧ I114 0 72 < I114 0 69)) ∧ (I114 0 71 = 3 → 2 ≤ I114 0 73 - I114 0 72 ∧ I114 0 73 - I114 0 72 ≤ 14) ∧ (I114 0 72 ≤ I114 0 73) ∧ (I114 0 69 = I 0 69) ∧ (I 0 73 ≤ I114 0 73) ∧ (I 0 72 ≤ I114 0 72) := by exact gz_m 87 (by omega)
            exact gv_zret hD rfl (by exact gz_m 88 (by omega)) ⟨I114, J97, rfl, hI114, FI114, FJ97, ⟨_, rfl, by exact gz_m 89 (by omega), by exact gz_m 90 (by omega), b128.1, b128.2.1, b128.2.2.1, b128.2.2.2.1, b128.2.2.2.2.1, b128.2.2.2.2.2.1, b128.2.2.2.2.2.2.1, b128.2.2.2.2.2.2.2, (Or.inl ⟨by exact gz_m 91 (by omega), by have e9 : (gs_let β N9 I J (I 0 78) p9) = (gs_done β N9 1 (I 0 78) (gs_X β N9 p_8)) := (by first | (exfalso; exact gz_m 92 (by omega)) | (rw [e6_8]; unfold gs_let1; (repeat first | rw [if_pos (by exact gz_m 93 (by omega))] | rw [if_neg (by exact gz_m 94 (by omega))]))); rw [e9]; exact ⟨by exact gz_m 95 (by omega), A127, (by have v9 : I83 15 (Int.toNat (I 0 6)) = I 15 (Int.toNat (I 0 6)) := (((g82 15 _ rfl).trans (g17 15 _ rfl)).trans (e10_8.2.1 _)); exact gs_putT_mk (fun j => (((g82 15 j rfl).trans (g17 15 j rfl)).trans (e10_8.2.1 j))) (fun j => (((k82 22 j rfl).trans (k17 22 j rfl)).trans (e10_8.1 j))) (by exact gz_m 96 (by omega)) p98 (q98.trans e5_8) (by exact gz_m 97 (by omega)) p102 (by exact gz_m 98 (by omega)) (fun j => p115 15 j (fun q => absurd q.1 (by decide)))), (by have v9 : I83 15 (Int.toNat (I 0 6)) = I 15 (Int.toNat (I 0 6)) := (((g82 15 _ rfl).trans (g17 15 _ rfl)).trans (e10_8.2.1 _)); exact gs_Uml_mk e8_8 e9_8 (by exact gz_m 99 (by omega)) (by exact gz_m 100 (by omega)) q115 (fun j hj => (p115 26 j (fun q => hj q.2)).trans ((((p102 26 j (fun q => absurd q.1 (by decide))).trans (g82 26 j rfl)).trans (g17 26 j rfl)).trans (e10_8.2.2 j))))⟩⟩)⟩⟩
          · have Q129 := q82.2.2.2.2.2.2.2.2.2.2.2.2
            rw [FI18 0 78 rfl] at Q129
            obtain ⟨u129, u129_⟩ := gs_or0 Q129 (by exact gz_m 101 (by omega))
            refine gv_run 1 true hD (pc' := 148) (lv' := [(0, .inr (.inr (some 0))), (1, .inl (I 0 6)), (2, .inr (.inl v2_8)), (4, .inl v4_8), (5, .inl v5_8)]) (st' := [.inl 0]) (h' := gr_h I83 J84) (C := (True ∧ True)) rfl ⟨trivial, trivial⟩ ?_
            have b130 : (I83 0 71 = 5 ∨ I83 0 73 ≤ I83 0 69) ∧ (I83 0 72 ≤ I83 0 69) ∧ (I83 0 71 = 0 ∨ (I83 0 72 < I83 0 73 ∧ I83 0 72 < I83 0 69)) ∧ (I83 0 71 = 3 → 2 ≤ I83 0 73 - I83 0 72 ∧ I83 0 73 - I83 0 72 ≤ 14) ∧ (I83 0 72 ≤ I83 0 73) ∧ (I83 0 69 = I 0 69) ∧ (I 0 73 ≤ I83 0 73) ∧ (I 0 72 ≤ I83 0 72) := by exact gz_m 102 (by omega)
            exact gv_zret hD rfl (by exact gz_m 103 (by omega)) ⟨I83, J84, rfl, hI83, FI83, FJ84, ⟨_, rfl, by exact gz_m 104 (by omega), by exact gz_m 105 (by omega), b130.1, b130.2.1, b130.2.2.1, b130.2.2.2.1, b130.2.2.2.2.1, b130.2.2.2.2.2.1, b130.2.2.2.2.2.2.1, b130.2.2.2.2.2.2.2, (Or.inr ⟨by exact gz_m 106 (by omega), by first | (exfalso; exact gz_m 107 (by omega)) | (rw [e6_8]; unfold gs_let1; (repeat first | rw [if_pos (by exact gz_m 108 (by omega))] | rw [if_neg (by exact gz_m 109 (by omega))]); exact ⟨by exact gz_m 110 (by omega), by exact gz_m 111 (by omega), ⟨(fun j => ⟨(((g82 15 j rfl).trans (g17 15 j rfl)).trans (e10_8.2.1 j)), (((k82 22 j rfl).trans (k17 22 j rfl)).trans (e10_8.1 j))⟩), fun j => (((g82 26 j rfl).trans (g17 26 j rfl)).trans (e10_8.2.2 j))⟩⟩)⟩)⟩⟩
      · have f131 := (gr_b_0_72 hI6)
        refine gv_run 7 true hD (pc' := 102) (lv' := [(0, .inr (.inr (some 0))), (1, .inl (I 0 6)), (2, .inr (.inl v2_8)), (4, .inl v4_8), (5, .inl v5_8)]) (st' := [.inl 1, .inl (I6 0 72), .inr (.inr (some 57)), .inl 1, .inl v4_8]) (h' := gr_h I6 J7) (C := (((((((True ∧ True) ∧ True) ∧ True) ∧ True) ∧ True) ∧ True) ∧ True)) rfl ⟨⟨⟨⟨⟨⟨⟨trivial, trivial⟩, trivial⟩, trivial⟩, trivial⟩, trivial⟩, trivial⟩, trivial⟩ ?_
        have f132 := (gr_b_57 hI6 (Int.toNat ((((I6 0 72) + 1) + v5_8))))
        refine gv_run 4 true hD (pc' := 107) (lv' := [(0, .inr (.inr (some 0))), (1, .inl (I 0 6)), (2, .inr (.inl v2_8)), (4, .inl v4_8), (5, .inl v5_8)]) (st' := [.inl (I6 57 (Int.toNat ((((I6 0 72) + 1) + v5_8)))), .inl 1, .inl v4_8]) (h' := gr_h I6 J7) (C := ((((True ∧ True) ∧ True) ∧ True) ∧ (0 ≤ ((((I6 0 72) + 1) + v5_8)) ∧ ((((I6 0 72) + 1) + v5_8)) < ((1000 : Nat) : Int)))) rfl ⟨⟨⟨⟨trivial, trivial⟩, trivial⟩, trivial⟩, ⟨by exact gz_m 112 (by omega), by exact gz_m 113 (by omega)⟩⟩ ?_
        have f133 := gw_any (Int32.ofInt 1 <<< (Int32.ofInt (((I6 57 (Int.toNat ((((I6 0 72) + 1) + v5_8)))) - 97)) &&& 31))
        have f134 := gw_any ((Int32.ofInt v4_8 ||| Int32.ofInt (((Int32.ofInt 1 <<< (Int32.ofInt (((I6 57 (Int.toNat ((((I6 0 72) + 1) + v5_8)))) - 97)) &&& 31)).toInt))))
        refine gv_run 7 true hD (pc' := 81) (lv' := [(5, .inl (v5_8 + 1)), (4, .inl ((Int32.ofInt v4_8 ||| Int32.ofInt (((Int32.ofInt 1 <<< (Int32.ofInt (((I6 57 (Int.toNat ((((I6 0 72) + 1) + v5_8)))) - 97)) &&& 31)).toInt))).toInt)), (0, .inr (.inr (some 0))), (1, .inl (I 0 6)), (2, .inr (.inl v2_8))]) (st' := []) (h' := gr_h I6 J7) (C := (((((((True ∧ True) ∧ True) ∧ True) ∧ True) ∧ True) ∧ True) ∧ True)) rfl ⟨⟨⟨⟨⟨⟨⟨trivial, trivial⟩, trivial⟩, trivial⟩, trivial⟩, trivial⟩, trivial⟩, trivial⟩ ?_
        refine gv_pick [2, 3, 4, 1, 0] rfl ?_
        exact ih81 I6 J7 (I 0 6) v2_8 (((Int32.ofInt v4_8 ||| Int32.ofInt (((Int32.ofInt 1 <<< (Int32.ofInt (((I6 57 (Int.toNat ((((I6 0 72) + 1) + v5_8)))) - 97)) &&& 31)).toInt))).toInt)) (v5_8 + 1) p_8 (by exact gz_m 114 (by omega)) hI6 FI6 FJ7 (by exact gz_m 115 (by omega)) e3_8 rfl e5_8 e6_8 (by exact gz_m 116 (by omega)) (gs_ms_s e8_8 (by exact gz_m 117 (by omega)) (gs_aty8 e3_8 (by exact gz_m 118 (by omega)) (by exact gz_m 119 (by omega)))) e9_8 ⟨(fun k => (e10_8.1 k)), (fun k => (e10_8.2.1 k)), (fun k => (e10_8.2.2 k))⟩
  have f135 := (gr_b_0_6 hI)
  refine gv_run 4 true hD (pc' := 6) (lv' := [(1, .inl (I 0 6)), (0, .inr (.inr (some 0)))]) (st' := [.inr (.inr (some 0))]) (h' := gr_h I J) (C := ((((True ∧ True) ∧ True) ∧ True) ∧ True)) rfl ⟨⟨⟨⟨trivial, trivial⟩, trivial⟩, trivial⟩, trivial⟩ ?_
  obtain ⟨r136, h136, E136, P136⟩ := r_name_p (ws0 := ws0) (tb := tb) hws htb ext β N9 p9 I J hI   x6 (by exact gz_m 120 (by omega))
  obtain ⟨I137, J138, rfl, hI137, g136, k136, ⟨z136, rfl, q136⟩⟩ := P136
  have FI137 := gr_frt FI g136 rfl rfl
  have FJ138 := gr_fjt FJ k136 rfl rfl
  have t139 := g136 0 71 rfl
  have t140 := g136 0 72 rfl
  have t141 := g136 0 73 rfl
  have t142 := g136 0 69 rfl
  have t143 := g136 0 6 rfl
  have t144 := g136 15 (Int.toNat ((I 0 6))) rfl
  have f145 := (gr_b_0_71 hI137)
  have f146 := (gr_b_0_72 hI137)
  have f147 := (gr_b_0_73 hI137)
  have f148 := (gr_b_0_69 hI137)
  have f149 := (gr_b_0_6 hI137)
  have A150 := gr_ATp_F x6 g136 k136 rfl
  have t151 := gr_ATp_l A150
  refine gv_callV hD rfl (As := []) (st := []) rfl (by decide) rfl rfl (gr_lV hws rfl) (Nat.le_of_ble_eq_true rfl) (gz_Ev_mono (d := 3) (by decide) E136) ?_
  show gv_X _ _ (9, [(1, .inl (I 0 6)), (0, .inr (.inr (some 0)))], [.inl z136], gr_sh ++ ext, gr_h I137 J138)
  refine gv_if_ne (t := 14) hD rfl rfl ⟨by exact gz_m 121 (by omega), by exact gz_m 122 (by omega)⟩ (fun c152 => ?_) (fun c152 => ?_)
  · refine gv_run 7 true hD (pc' := 26) (lv' := [(2, .inr (.inl (J138 0 75))), (1, .inl (I 0 6)), (0, .inr (.inr (some 0)))]) (st' := [.inl (I 0 6), .inl 16, .inr (.inr (some 22))]) (h' := gr_h I137 J138) (C := (((((((True ∧ True) ∧ True) ∧ True) ∧ True) ∧ True) ∧ True) ∧ True)) rfl ⟨⟨⟨⟨⟨⟨⟨trivial, trivial⟩, trivial⟩, trivial⟩, trivial⟩, trivial⟩, trivial⟩, trivial⟩ ?_
    have f153 := (gr_b_15 hI137 (Int.toNat ((I 0 6))))
    refine gv_run 5 true hD (pc' := 33) (lv' := [(2, .inr (.inl (J138 0 75))), (1, .inl (I 0 6)), (0, .inr (.inr (some 0)))]) (st' := [.inl (I137 15 (Int.toNat ((I 0 6)))), .inl (16 * (I 0 6)), .inr (.inr (some 22))]) (h' := gr_h I137 J138) (C := (((((True ∧ True) ∧ True) ∧ True) ∧ True) ∧ (0 ≤ (I 0 6) ∧ (I 0 6) < ((8 : Nat) : Int)))) rfl ⟨⟨⟨⟨⟨trivial, trivial⟩, trivial⟩, trivial⟩, trivial⟩, ⟨by exact gz_m 123 (by omega), by exact gz_m 124 (by omega)⟩⟩ ?_
    refine gv_run 1 true hD (pc' := 34) (lv' := [(2, .inr (.inl (J138 0 75))), (1, .inl (I 0 6)), (0, .inr (.inr (some 0)))]) (st' := [.inr (.inl (J138 0 75)), .inl (I137 15 (Int.toNat ((I 0 6)))), .inl (16 * (I 0 6)), .inr (.inr (some 22))]) (h' := gr_h I137 J138) (C := (True ∧ True)) rfl ⟨trivial, trivial⟩ ?_
    obtain ⟨r154, h154, E154, P154⟩ := r_find_22_p (ws0 := ws0) (tb := tb) hws htb ext I137 J138 hI137 ((16 * (I 0 6))) ((I137 15 (Int.toNat ((I 0 6))))) (J138 0 75) ⟨by exact gz_m 125 (by omega), by exact gz_m 126 (by omega)⟩ ⟨by exact gz_m 127 (by omega), by exact gz_m 128 (by omega)⟩ (by exact gz_m 129 (by omega))
    obtain ⟨rfl, ⟨z154, rfl, q154⟩⟩ := P154
    have t155 := q154.2.2.2.trans (gs_lt_eq (J := J) (row := 22) (o := 16 * I 0 6) (n := I 15 (Int.toNat (I 0 6))) (w := gs_rn β N9 p9) (fun k => (k136 22 k rfl)) (by exact gz_m 130 (by omega)) (by first | exact (g136 15 _ rfl) | (rw [show ((I 0 6)) = I 0 6 from by exact gz_m 131 (by omega)]; exact (g136 15 _ rfl))) (gr_ATp_w A150))
    refine gv_callS hD rfl (As := [.inr (.inr (some 22)), .inl (16 * (I 0 6)), .inl (I137 15 (Int.toNat ((I 0 6)))), .inr (.inl (J138 0 75))]) (st := []) rfl (gr_lS hws rfl) (Nat.le_of_ble_eq_true rfl) (gz_Ev_mono (d := 1) (by decide) E154) ?_
    show gv_X _ _ (37, [(2, .inr (.inl (J138 0 75))), (1, .inl (I 0 6)), (0, .inr (.inr (some 0)))], [.inl z154], gr_sh ++ ext, gr_h I137 J138)
    refine gv_if_lt (t := 46) hD rfl rfl ⟨by exact gz_m 132 (by omega), by exact gz_m 133 (by omega)⟩ (fun c156 => ?_) (fun c156 => ?_)
    · refine gv_run 1 true hD (pc' := 47) (lv' := [(2, .inr (.inl (J138 0 75))), (1, .inl (I 0 6)), (0, .inr (.inr (some 0)))]) (st' := [.inr (.inr (some 0))]) (h' := gr_h I137 J138) (C := (True ∧ True)) rfl ⟨trivial, trivial⟩ ?_
      obtain ⟨r157, h157, E157, P157⟩ := r_next_p (ws0 := ws0) (tb := tb) hws htb ext β N9 I137 J138 hI137   (by exact gz_m 134 (by omega)) A150.1.1 A150.1.2
      obtain ⟨I158, J159, rfl, hI158, g157, k157, ⟨rfl, q157⟩⟩ := P157
      have FI158 := gr_frt FI137 g157 rfl rfl
      have FJ159 := gr_fjt FJ138 k157 rfl rfl
      have t160 := g157 0 69 rfl
      have t161 := g157 0 6 rfl
      have t162 := g157 15 (Int.toNat ((I 0 6))) rfl
      have f163 := (gr_b_0_71 hI158)
      have f164 := (gr_b_0_72 hI158)
      have f165 := (gr_b_0_73 hI158)
      have f166 := (gr_b_0_69 hI158)
      have f167 := (gr_b_0_6 hI158)
      have A168 := gr_ATp_nx A150 q157.2.2.2.2.2
      have t169 := gr_ATp_l A168
      refine gv_callV hD rfl (As := []) (st := []) rfl (by decide) rfl rfl (gr_lV hws rfl) (Nat.le_of_ble_eq_true rfl) (gz_Ev_mono (d := 10) (by decide) E157) ?_
      show gv_X _ _ (50, [(2, .inr (.inl (J138 0 75))), (1, .inl (I 0 6)), (0, .inr (.inr (some 0)))], [], gr_sh ++ ext, gr_h I158 J159)
      refine gv_run 2 true hD (pc' := 53) (lv' := [(2, .inr (.inl (J138 0 75))), (1, .inl (I 0 6)), (0, .inr (.inr (some 0)))]) (st' := [.inl 61, .inr (.inr (some 0))]) (h' := gr_h I158 J159) (C := ((True ∧ True) ∧ True)) rfl ⟨⟨trivial, trivial⟩, trivial⟩ ?_
      obtain ⟨r170, h170, E170, P170⟩ := r_need_p (ws0 := ws0) (tb := tb) hws htb ext β N9 (gs_X β N9 p9) I158 J159 hI158 61 ⟨by exact gz_m 135 (by omega), by exact gz_m 136 (by omega)⟩ (by exact gz_m 137 (by omega)) (by exact gz_m 138 (by omega)) (by exact gz_m 139 (by omega)) (by exact gz_m 140 (by omega)) (by exact gz_m 141 (by omega)) A168 (by exact gz_m 142 (by omega))
      obtain ⟨I171, J172, rfl, hI171, g170, k170, ⟨z170, rfl, q170⟩⟩ := P170
      have FI171 := gr_frt FI158 g170 rfl rfl
      have FJ172 := gr_fjt FJ159 k170 rfl rfl
      have t173 := g170 0 69 rfl
      have t174 := g170 0 6 rfl
      have t175 := g170 15 (Int.toNat ((I 0 6))) rfl
      have f176 := (gr_b_0_71 hI171)
      have f177 := (gr_b_0_72 hI171)
      have f178 := (gr_b_0_73 hI171)
      have f179 := (gr_b_0_69 hI171)
      have f180 := (gr_b_0_6 hI171)
      refine gv_callV hD rfl (As := [.inl 61]) (st := []) rfl (by decide) rfl rfl (gr_lV hws rfl) (Nat.le_of_ble_eq_true rfl) (gz_Ev_mono (d := 11) (by decide) E170) ?_
      show gv_X _ _ (56, [(2, .inr (.inl (J138 0 75))), (1, .inl (I 0 6)), (0, .inr (.inr (some 0)))], [.inl z170], gr_sh ++ ext, gr_h I171 J172)
      refine gv_if_ne (t := 61) hD rfl rfl ⟨by exact gz_m 143 (by omega), by exact gz_m 144 (by omega)⟩ (fun c181 => ?_) (fun c181 => ?_)
      · obtain ⟨u182, A182⟩ := gs_or1 q170.2.2.2.2.2.2.2.2.2.2.2 (by exact gz_m 145 (by omega))
        have t183 := gr_ATp_l A182
        have f184 := (gr_b_0_71 hI171)
        refine gv_run 3 true hD (pc' := 66) (lv' := [(2, .inr (.inl (J138 0 75))), (1, .inl (I 0 6)), (0, .inr (.inr (some 0)))]) (st' := [.inl 3, .inl (I171 0 71)]) (h' := gr_h I171 J172) (C := (((True ∧ True) ∧ True) ∧ True)) rfl ⟨⟨⟨trivial, trivial⟩, trivial⟩, trivial⟩ ?_
        refine gv_icmp_eq (t := 75) hD rfl rfl ⟨⟨by exact gz_m 146 (by omega), by exact gz_m 147 (by omega)⟩, ⟨by exact gz_m 148 (by omega), by exact gz_m 149 (by omega)⟩⟩ (fun c185 => ?_) (fun c185 => ?_)
        · have t186 := gr_ATp_k A182 (c := 3) ⟨by exact gz_m 150 (by omega), by exact gz_m 151 (by omega)⟩
          refine gv_run 4 true hD (pc' := 81) (lv' := [(5, .inl 0), (4, .inl 0), (2, .inr (.inl (J138 0 75))), (1, .inl (I 0 6)), (0, .inr (.inr (some 0)))]) (st' := []) (h' := gr_h I171 J172) (C := ((((True ∧ True) ∧ True) ∧ True) ∧ True)) rfl ⟨⟨⟨⟨trivial, trivial⟩, trivial⟩, trivial⟩, trivial⟩ ?_
          refine gv_pick [4, 3, 2, 1, 0] rfl ?_
          exact L81 _ I171 J172 (I 0 6) (J138 0 75) 0 0 ((gs_need β N9 61 (gs_X β N9 p9))) (Nat.lt_succ_self _) hI171 FI171 FJ172 (by exact gz_m 152 (by omega)) A182 rfl (gr_ATp_w A150) (by unfold gs_let gs_let0; (repeat first | rw [if_pos (by exact gz_m 153 (by omega))] | rw [if_neg (by exact gz_m 154 (by omega))])) (by exact gz_m 155 (by omega)) rfl (gs_need_x (by exact gz_m 156 (by omega)) (by exact gz_m 157 (by omega))) ⟨(fun k => (((k170 22 k rfl).trans (k157 22 k rfl)).trans (k136 22 k rfl))), (fun k => (((g170 15 k rfl).trans (g157 15 k rfl)).trans (g136 15 k rfl))), (fun k => (((g170 26 k rfl).trans (g157 26 k rfl)).trans (g136 26 k rfl)))⟩
        · have t187 := gr_ATp_k A182 (c := 3) ⟨by exact gz_m 158 (by omega), by exact gz_m 159 (by omega)⟩
          refine gv_run 2 true hD (pc' := 71) (lv' := [(2, .inr (.inl (J138 0 75))), (1, .inl (I 0 6)), (0, .inr (.inr (some 0)))]) (st' := [.inl 1, .inr (.inr (some 0))]) (h' := gr_h I171 J172) (C := ((True ∧ True) ∧ True)) rfl ⟨⟨trivial, trivial⟩, trivial⟩ ?_
          obtain ⟨r188, h188, E188, P188⟩ := r_no__p (ws0 := ws0) (tb := tb) hws htb ext β N9 ((gs_need β N9 61 (gs_X β N9 p9))) I171 J172 hI171 1 ⟨by exact gz_m 160 (by omega), by exact gz_m 161 (by omega)⟩ A182 (by exact gz_m 162 (by omega))
          obtain ⟨I189, J190, rfl, hI189, g188, k188, ⟨z188, rfl, q188⟩⟩ := P188
          have FI189 := gr_frt FI171 g188 rfl rfl
          have FJ190 := gr_fjt FJ172 k188 rfl rfl
          have t191 := g188 0 71 rfl
          have t192 := g188 0 72 rfl
          have t193 := g188 0 73 rfl
          have t194 := g188 0 69 rfl
          have t195 := g188 0 6 rfl
          have t196 := g188 15 (Int.toNat ((I 0 6))) rfl
          have f197 := (gr_b_0_71 hI189)
          have f198 := (gr_b_0_72 hI189)
          have f199 := (gr_b_0_73 hI189)
          have f200 := (gr_b_0_69 hI189)
          have f201 := (gr_b_0_6 hI189)
          have A202 := gr_ATp_F A182 g188 k188 rfl
          have t203 := gr_ATp_l A202
          refine gv_callV hD rfl (As := [.inl 1]) (st := []) rfl (by decide) rfl rfl (gr_lV hws rfl) (Nat.le_of_ble_eq_true rfl) (gz_Ev_mono (d := 2) (by decide) E188) ?_
          show gv_X _ _ (74, [(2, .inr (.inl (J138 0 75))), (1, .inl (I 0 6)), (0, .inr (.inr (some 0)))], [.inl z188], gr_sh ++ ext, gr_h I189 J190)
          have b204 : (I189 0 71 = 5 ∨ I189 0 73 ≤ I189 0 69) ∧ (I189 0 72 ≤ I189 0 69) ∧ (I189 0 71 = 0 ∨ (I189 0 72 < I189 0 73 ∧ I189 0 72 < I189 0 69)) ∧ (I189 0 71 = 3 → 2 ≤ I189 0 73 - I189 0 72 ∧ I189 0 73 - I189 0 72 ≤ 14) ∧ (I189 0 72 ≤ I189 0 73) ∧ (I189 0 69 = I 0 69) ∧ (I 0 73 ≤ I189 0 73) ∧ (I 0 72 ≤ I189 0 72) := by exact gz_m 163 (by omega)
          exact gv_zret hD rfl (by exact gz_m 164 (by omega)) ⟨I189, J190, rfl, hI189, FI189, FJ190, ⟨_, rfl, by exact gz_m 165 (by omega), by exact gz_m 166 (by omega), b204.1, b204.2.1, b204.2.2.1, b204.2.2.2.1, b204.2.2.2.2.1, b204.2.2.2.2.2.1, b204.2.2.2.2.2.2.1, b204.2.2.2.2.2.2.2, (Or.inr ⟨by exact gz_m 167 (by omega), by unfold gs_let gs_let0 gs_let1; (repeat first | rw [if_pos (by exact gz_m 168 (by omega))] | rw [if_neg (by exact gz_m 169 (by omega))]); exact ⟨by exact gz_m 170 (by omega), by exact gz_m 171 (by omega), ⟨(fun j => ⟨((((g188 15 j rfl).trans (g170 15 j rfl)).trans (g157 15 j rfl)).trans (g136 15 j rfl)), ((((k188 22 j rfl).trans (k170 22 j rfl)).trans (k157 22 j rfl)).trans (k136 22 j rfl))⟩), fun j => ((((g188 26 j rfl).trans (g170 26 j rfl)).trans (g157 26 j rfl)).trans (g136 26 j rfl))⟩⟩⟩)⟩⟩
      · obtain ⟨u205, u205_⟩ := gs_or0 q170.2.2.2.2.2.2.2.2.2.2.2 (by exact gz_m 172 (by omega))
        refine gv_run 1 true hD (pc' := 60) (lv' := [(2, .inr (.inl (J138 0 75))), (1, .inl (I 0 6)), (0, .inr (.inr (some 0)))]) (st' := [.inl 0]) (h' := gr_h I171 J172) (C := (True ∧ True)) rfl ⟨trivial, trivial⟩ ?_
        have b206 : (I171 0 71 = 5 ∨ I171 0 73 ≤ I171 0 69) ∧ (I171 0 72 ≤ I171 0 69) ∧ (I171 0 71 = 0 ∨ (I171 0 72 < I171 0 73 ∧ I171 0 72 < I171 0 69)) ∧ (I171 0 71 = 3 → 2 ≤ I171 0 73 - I171 0 72 ∧ I171 0 73 - I171 0 72 ≤ 14) ∧ (I171 0 72 ≤ I171 0 73) ∧ (I171 0 69 = I 0 69) ∧ (I 0 73 ≤ I171 0 73) ∧ (I 0 72 ≤ I171 0 72) := by exact gz_m 173 (by omega)
        exact gv_zret hD rfl (by exact gz_m 174 (by omega)) ⟨I171, J172, rfl, hI171, FI171, FJ172, ⟨_, rfl, by exact gz_m 175 (by omega), by exact gz_m 176 (by omega), b206.1, b206.2.1, b206.2.2.1, b206.2.2.2.1, b206.2.2.2.2.1, b206.2.2.2.2.2.1, b206.2.2.2.2.2.2.1, b206.2.2.2.2.2.2.2, (Or.inr ⟨by exact gz_m 177 (by omega), by unfold gs_let gs_let0 gs_let1; (repeat first | rw [if_pos (by exact gz_m 178 (by omega))] | rw [if_neg (by exact gz_m 179 (by omega))]); exact ⟨by exact gz_m 180 (by omega), by exact gz_m 181 (by omega), ⟨(fun j => ⟨(((g170 15 j rfl).trans (g157 15 j rfl)).trans (g136 15 j rfl)), (((k170 22 j rfl).trans (k157 22 j rfl)).trans (k136 22 j rfl))⟩), fun j => (((g170 26 j rfl).trans (g157 26 j rfl)).trans (g136 26 j rfl))⟩⟩⟩)⟩⟩
    · refine gv_run 2 true hD (pc' := 42) (lv' := [(2, .inr (.inl (J138 0 75))), (1, .inl (I 0 6)), (0, .inr (.inr (some 0)))]) (st' := [.inl 4, .inr (.inr (some 0))]) (h' := gr_h I137 J138) (C := ((True ∧ True) ∧ True)) rfl ⟨⟨trivial, trivial⟩, trivial⟩ ?_
      obtain ⟨r207, h207, E207, P207⟩ := r_no__p (ws0 := ws0) (tb := tb) hws htb ext β N9 p9 I137 J138 hI137 4 ⟨by exact gz_m 182 (by omega), by exact gz_m 183 (by omega)⟩ A150 (by exact gz_m 184 (by omega))
      obtain ⟨I208, J209, rfl, hI208, g207, k207, ⟨z207, rfl, q207⟩⟩ := P207
      have FI208 := gr_frt FI137 g207 rfl rfl
      have FJ209 := gr_fjt FJ138 k207 rfl rfl
      have t210 := g207 0 71 rfl
      have t211 := g207 0 72 rfl
      have t212 := g207 0 73 rfl
      have t213 := g207 0 69 rfl
      have t214 := g207 0 6 rfl
      have t215 := g207 15 (Int.toNat ((I 0 6))) rfl
      have f216 := (gr_b_0_71 hI208)
      have f217 := (gr_b_0_72 hI208)
      have f218 := (gr_b_0_73 hI208)
      have f219 := (gr_b_0_69 hI208)
      have f220 := (gr_b_0_6 hI208)
      have A221 := gr_ATp_F A150 g207 k207 rfl
      have t222 := gr_ATp_l A221
      refine gv_callV hD rfl (As := [.inl 4]) (st := []) rfl (by decide) rfl rfl (gr_lV hws rfl) (Nat.le_of_ble_eq_true rfl) (gz_Ev_mono (d := 2) (by decide) E207) ?_
      show gv_X _ _ (45, [(2, .inr (.inl (J138 0 75))), (1, .inl (I 0 6)), (0, .inr (.inr (some 0)))], [.inl z207], gr_sh ++ ext, gr_h I208 J209)
      have b223 : (I208 0 71 = 5 ∨ I208 0 73 ≤ I208 0 69) ∧ (I208 0 72 ≤ I208 0 69) ∧ (I208 0 71 = 0 ∨ (I208 0 72 < I208 0 73 ∧ I208 0 72 < I208 0 69)) ∧ (I208 0 71 = 3 → 2 ≤ I208 0 73 - I208 0 72 ∧ I208 0 73 - I208 0 72 ≤ 14) ∧ (I208 0 72 ≤ I208 0 73) ∧ (I208 0 69 = I 0 69) ∧ (I 0 73 ≤ I208 0 73) ∧ (I 0 72 ≤ I208 0 72) := by exact gz_m 185 (by omega)
      exact gv_zret hD rfl (by exact gz_m 186 (by omega)) ⟨I208, J209, rfl, hI208, FI208, FJ209, ⟨_, rfl, by exact gz_m 187 (by omega), by exact gz_m 188 (by omega), b223.1, b223.2.1, b223.2.2.1, b223.2.2.2.1, b223.2.2.2.2.1, b223.2.2.2.2.2.1, b223.2.2.2.2.2.2.1, b223.2.2.2.2.2.2.2, (Or.inr ⟨by exact gz_m 189 (by omega), by unfold gs_let gs_let0 gs_let1; (repeat first | rw [if_pos (by exact gz_m 190 (by omega))] | rw [if_neg (by exact gz_m 191 (by omega))]); exact ⟨by exact gz_m 192 (by omega), by exact gz_m 193 (by omega), ⟨(fun j => ⟨((g207 15 j rfl).trans (g136 15 j rfl)), ((k207 22 j rfl).trans (k136 22 j rfl))⟩), fun j => ((g207 26 j rfl).trans (g136 26 j rfl))⟩⟩⟩)⟩⟩
  · refine gv_run 1 true hD (pc' := 13) (lv' := [(1, .inl (I 0 6)), (0, .inr (.inr (some 0)))]) (st' := [.inl 0]) (h' := gr_h I137 J138) (C := (True ∧ True)) rfl ⟨trivial, trivial⟩ ?_
    have b224 : (I137 0 71 = 5 ∨ I137 0 73 ≤ I137 0 69) ∧ (I137 0 72 ≤ I137 0 69) ∧ (I137 0 71 = 0 ∨ (I137 0 72 < I137 0 73 ∧ I137 0 72 < I137 0 69)) ∧ (I137 0 71 = 3 → 2 ≤ I137 0 73 - I137 0 72 ∧ I137 0 73 - I137 0 72 ≤ 14) ∧ (I137 0 72 ≤ I137 0 73) ∧ (I137 0 69 = I 0 69) ∧ (I 0 73 ≤ I137 0 73) ∧ (I 0 72 ≤ I137 0 72) := by exact gz_m 194 (by omega)
    exact gv_zret hD rfl (by exact gz_m 195 (by omega)) ⟨I137, J138, rfl, hI137, FI137, FJ138, ⟨_, rfl, by exact gz_m 196 (by omega), by exact gz_m 197 (by omega), b224.1, b224.2.1, b224.2.2.1, b224.2.2.2.1, b224.2.2.2.2.1, b224.2.2.2.2.2.1, b224.2.2.2.2.2.2.1, b224.2.2.2.2.2.2.2, (Or.inr ⟨by exact gz_m 198 (by omega), by unfold gs_let gs_let0 gs_let1; (repeat first | rw [if_pos (by exact gz_m 199 (by omega))] | rw [if_neg (by exact gz_m 200 (by omega))]); exact ⟨by exact gz_m 201 (by omega), by exact gz_m 202 (by omega), ⟨(fun j => ⟨(g136 15 j rfl), (k136 22 j rfl)⟩), fun j => (g136 26 j rfl)⟩⟩⟩)⟩⟩
