/-! THE CHART. -/
def gr_SZ (i j k : Int) (I : gr_I) : Prop := ∀ a b c : Nat, (a : Int) ≤ I 0 143 → (b : Int) ≤ I 0 143 → c < 32 → ((a : Int) < i ∨ ((a : Int) = i ∧ ((b : Int) < j ∨ ((b : Int) = j ∧ (c : Int) < k)))) → I 93 ((25 * a + b) * 32 + c) = -1
theorem gr_SZ_st {i j k : Int} {I I' : gr_I} {z : Nat} (h : gr_SZ i j k I) (hz : (z : Int) = (25 * i + j) * 32 + k) (p : ∀ b j, ¬ (b = 93 ∧ j = z) → I' b j = I b j) (q : I' 93 z = -1) : gr_SZ i j (k + 1) I' := fun a b c ha hb hc hq => by
  have e := p 0 143 (fun q => absurd q.1 (by decide))
  by_cases y : (25 * a + b) * 32 + c = z
  · rw [y]
    exact q
  · rw [p _ _ (fun q => y q.2)]
    refine h a b c (by omega) (by omega) hc ?_
    rcases hq with hq | ⟨h1, h2 | ⟨h3, h4⟩⟩
    · exact Or.inl hq
    · exact Or.inr ⟨h1, Or.inl h2⟩
    · exact Or.inr ⟨h1, Or.inr ⟨h3, by omega⟩⟩
theorem gr_SZ_j {i j k : Int} {I : gr_I} (h : gr_SZ i j k I) (hk : 32 ≤ k) : gr_SZ i (j + 1) 0 I := fun a b c ha hb hc hq => by
  refine h a b c ha hb hc ?_
  rcases hq with hq | ⟨h1, h2 | ⟨h3, h4⟩⟩
  · exact Or.inl hq
  · by_cases e : (b : Int) < j
    · exact Or.inr ⟨h1, Or.inl e⟩
    · exact Or.inr ⟨h1, Or.inr ⟨by omega, by omega⟩⟩
  · omega
theorem gr_SZ_i {i j k : Int} {I : gr_I} (h : gr_SZ i j k I) (hj : I 0 143 < j) : gr_SZ (i + 1) 0 0 I := fun a b c ha hb hc hq => by
  refine h a b c ha hb hc ?_
  rcases hq with hq | ⟨h1, h2 | ⟨h3, h4⟩⟩
  · by_cases e : (a : Int) < i
    · exact Or.inl e
    · exact Or.inr ⟨by omega, Or.inl (by omega)⟩
  · omega
  · omega
theorem gr_SZ_0 (I : gr_I) : gr_SZ 0 0 0 I := fun a b c _ _ _ hq => by omega
theorem gr_FO_0 {t o i : Int} {I : gr_I} (h : gr_SZ i 0 0 I) (hi : I 0 143 < i) (hN : I 0 157 = 0) (hY : I 0 158 = 0) : gr_FO t o I := by
  have sp : ∀ a b c : Nat, (a : Int) ≤ I 0 143 → (b : Int) ≤ I 0 143 → c < 32 → I 93 ((25 * a + b) * 32 + c) = -1 := fun a b c ha hb hc => h a b c ha hb hc (Or.inl (by omega))
  refine ⟨⟨fun _ => 0, fun x hx => by omega⟩, fun a b c ha hb hc => by rw [sp a b c ha hb hc]; omega, ⟨fun y hy => by omega, fun x hx => by omega⟩, ⟨fun x hx => by omega, fun x hx => by omega, fun a b c ha hb hc => Or.inl (by rw [sp a b c ha hb hc]; omega)⟩, fun x y _ hy => by omega, fun x hx => by omega, fun y hy => by omega⟩
theorem gr_FO_w {t o o' : Int} {I : gr_I} (h : gr_FO t o I) (ho : o ≤ o') : gr_FO t o' I := ⟨h.1, h.2.1, h.2.2.1, h.2.2.2.1, h.2.2.2.2.1, fun x hx => Int.le_trans (h.2.2.2.2.2.1 x hx) ho, h.2.2.2.2.2.2⟩
/-- a forest that is ready to be counted and read -/
def gr_CH (t : Int) (I : gr_I) : Prop := gr_NX I ∧ gr_SB I ∧ gr_LS I ∧ gr_MO I ∧ gr_OR I ∧ gr_FW t (I 0 158) I ∧ ∀ y : Nat, (y : Int) < I 0 158 → 0 ≤ I 94 y ∧ I 94 y < I 0 157
theorem gr_CH_of {t o : Int} {I I' : gr_I} (h : gr_FO t o I) (hI : gr_Inv I) (ho : gr_OR I') (h1 : ∀ k, I' 87 k = I 87 k) (h2 : ∀ k, I' 88 k = I 88 k) (h3 : ∀ k, I' 104 k = I 104 k) (h4 : ∀ k, I' 90 k = I 90 k) (h5 : ∀ k, I' 93 k = I 93 k) (h7 : ∀ k, I' 94 k = I 94 k) (h8 : ∀ k, I' 95 k = I 95 k) (h9 : ∀ k, I' 97 k = I 97 k) (h10 : ∀ k, I' 98 k = I 98 k) (h11 : ∀ k, I' 19 k = I 19 k) (h12 : ∀ k, I' 18 k = I 18 k) (h13 : ∀ k, I' 41 k = I 41 k) (h14 : ∀ k, I' 6 k = I 6 k) (hN : I' 0 157 = I 0 157) (hY : I' 0 158 = I 0 158) (hW : I' 0 143 = I 0 143) : gr_CH t I' :=
  ⟨gr_NX_fr h.1 h4 hN, gr_SB_fr h.2.1 h5 (by omega) hW, gr_LS_fr h.2.2.2.1 h1 h2 h3 h4 h5 hN hW, gr_MO_fr h.2.2.2.2.1 h1 h2 h3 hN, ho, by rw [hY]; exact gr_FW_x h.2.2.2.2.2.2 (Int.le_refl _) h.2.2.1 (gr_XT_sm h1 h2 h3 h7 h8 h9 h10 hN hY) hI ⟨h11 _, h12 _, h13, h14⟩, fun y hy => by rw [h7, hN]; exact h.2.2.1.1 y (by omega)⟩
set_option maxHeartbeats 4000000 in
set_option maxRecDepth 100000 in
theorem r_forms_w {ws0 : List Cond} {tb : String → gz_T} (hws : ∀ w ∈ gr_ws, w ∈ ws0) (htb : tb RX13 = gr_T) (ext : gz_Sh) (I : gr_I) (J : gr_J) (hI : gr_Inv I) (a1 : Int) (ha1 : 0 ≤ a1 ∧ a1 ≤ 7)  : ∃ r h', gz_Ev ws0 tb 6 (yX13_forms, cX13_forms, 6, none) [.inr (.inr (some 0)), .inl a1] (gr_sh ++ ext) (gr_h I J) r (gr_sh ++ ext) h' 0 0 ∧ (∃ (I' : gr_I) (J' : gr_J), h' = gr_h I' J' ∧ gr_Inv I' ∧ gr_fr [126, 127, 128] [51, 76, 77, 78, 79] I I' ∧ gr_fj [126, 127, 128] [51, 76, 77, 78, 79] J J' ∧ r = none) := by
  have FI : gr_fr [126, 127, 128] [51, 76, 77, 78, 79] I I := fun _ _ _ => rfl
  have FJ : gr_fj [126, 127, 128] [51, 76, 77, 78, 79] J J := fun _ _ _ => rfl
  have hD : gv_D (gr_E ws0 tb 5 (yX13_forms, cX13_forms, 6, none) kX13_forms) := gq_ok oX13_forms
  refine gr_ev (d := 5) (l := kX13_forms) (Po := fun r h' => (∃ (I' : gr_I) (J' : gr_J), h' = gr_h I' J' ∧ gr_Inv I' ∧ gr_fr [126, 127, 128] [51, 76, 77, 78, 79] I I' ∧ gr_fj [126, 127, 128] [51, 76, 77, 78, 79] J J' ∧ r = none)) htb rfl (Nat.le_of_ble_eq_true rfl) ?_
  have L20 : ((0 ≤ a1 ∧ a1 ≤ 7)) → gv_X (gr_E ws0 tb 5 (yX13_forms, cX13_forms, 6, none) kX13_forms) (gv_Q cX13_forms none (gr_sh ++ ext) (fun r h' => (∃ (I' : gr_I) (J' : gr_J), h' = gr_h I' J' ∧ gr_Inv I' ∧ gr_fr [126, 127, 128] [51, 76, 77, 78, 79] I I' ∧ gr_fj [126, 127, 128] [51, 76, 77, 78, 79] J J' ∧ r = none))) (20, [(0, .inr (.inr (some 0))), (1, .inl a1)], [], gr_sh ++ ext, gr_h I J) := by
    intro m_1
    have ha1_1 := m_1
    have L35 : ∀ (n : Nat) (I2 : gr_I) (J3 : gr_J) (v2_4 : Int), (65 - v2_4).toNat < n → gr_Inv I2 → gr_fr [126, 127, 128] [51, 76, 77, 78, 79] I I2 → gr_fj [126, 127, 128] [51, 76, 77, 78, 79] J J3 → ((0 ≤ a1 ∧ a1 ≤ 7) ∧ (0 ≤ v2_4 ∧ v2_4 ≤ 64)) → gv_X (gr_E ws0 tb 5 (yX13_forms, cX13_forms, 6, none) kX13_forms) (gv_Q cX13_forms none (gr_sh ++ ext) (fun r h' => (∃ (I' : gr_I) (J' : gr_J), h' = gr_h I' J' ∧ gr_Inv I' ∧ gr_fr [126, 127, 128] [51, 76, 77, 78, 79] I I' ∧ gr_fj [126, 127, 128] [51, 76, 77, 78, 79] J J' ∧ r = none))) (35, [(0, .inr (.inr (some 0))), (1, .inl a1), (2, .inl v2_4)], [], gr_sh ++ ext, gr_h I2 J3) := by
      intro n
      induction n with
      | zero => intro I2 J3 v2_4 hn; omega
      | succ n ih35 =>
        intro I2 J3 v2_4 hn hI2 FI2 FJ3 m_4
        clear ha1_1
        obtain ⟨ha1_4, hv2_4⟩ := m_4
        have L47 : ∀ (n : Nat) (I5 : gr_I) (J6 : gr_J) (v3_7 : Int), (25 - v3_7).toNat < n → gr_Inv I5 → gr_fr [126, 127, 128] [51, 76, 77, 78, 79] I I5 → gr_fj [126, 127, 128] [51, 76, 77, 78, 79] J J6 → ((0 ≤ a1 ∧ a1 ≤ 7) ∧ (0 ≤ v2_4 ∧ v2_4 ≤ 63) ∧ (0 ≤ v3_7 ∧ v3_7 ≤ 24)) → gv_X (gr_E ws0 tb 5 (yX13_forms, cX13_forms, 6, none) kX13_forms) (gv_Q cX13_forms none (gr_sh ++ ext) (fun r h' => (∃ (I' : gr_I) (J' : gr_J), h' = gr_h I' J' ∧ gr_Inv I' ∧ gr_fr [126, 127, 128] [51, 76, 77, 78, 79] I I' ∧ gr_fj [126, 127, 128] [51, 76, 77, 78, 79] J J' ∧ r = none))) (47, [(0, .inr (.inr (some 0))), (1, .inl a1), (2, .inl v2_4), (3, .inl v3_7)], [], gr_sh ++ ext, gr_h I5 J6) := by
          intro n
          induction n with
          | zero => intro I5 J6 v3_7 hn; omega
          | succ n ih47 =>
            intro I5 J6 v3_7 hn hI5 FI5 FJ6 m_7
            clear ha1_4 hv2_4
            obtain ⟨ha1_7, hv2_4_7, hv3_7⟩ := m_7
            have L82 : ∀ (n : Nat) (I8 : gr_I) (J9 : gr_J) (v4_10 : Int) (v5_10 : Int), (25 - v5_10).toNat < n → gr_Inv I8 → gr_fr [126, 127, 128] [51, 76, 77, 78, 79] I I8 → gr_fj [126, 127, 128] [51, 76, 77, 78, 79] J J9 → ((0 ≤ a1 ∧ a1 ≤ 7) ∧ (0 ≤ v2_4 ∧ v2_4 ≤ 63) ∧ (0 ≤ v3_7 ∧ v3_7 ≤ 23) ∧ (0 ≤ v4_10 ∧ v4_10 ≤ 1535) ∧ (0 ≤ v5_10 ∧ v5_10 ≤ 24)) → gv_X (gr_E ws0 tb 5 (yX13_forms, cX13_forms, 6, none) kX13_forms) (gv_Q cX13_forms none (gr_sh ++ ext) (fun r h' => (∃ (I' : gr_I) (J' : gr_J), h' = gr_h I' J' ∧ gr_Inv I' ∧ gr_fr [126, 127, 128] [51, 76, 77, 78, 79] I I' ∧ gr_fj [126, 127, 128] [51, 76, 77, 78, 79] J J' ∧ r = none))) (82, [(0, .inr (.inr (some 0))), (1, .inl a1), (2, .inl v2_4), (3, .inl v3_7), (4, .inl v4_10), (5, .inl v5_10)], [], gr_sh ++ ext, gr_h I8 J9) := by
              intro n
              induction n with
              | zero => intro I8 J9 v4_10 v5_10 hn; omega
              | succ n ih82 =>
                intro I8 J9 v4_10 v5_10 hn hI8 FI8 FJ9 m_10
                clear ha1_7 hv2_4_7 hv3_7
                obtain ⟨ha1_10, hv2_4_10, hv3_7_10, hv4_10, hv5_10⟩ := m_10
                have f11 := (show (-1) ≤ I8 79 (Int.toNat v4_10) ∧ I8 79 (Int.toNat v4_10) ≤ 24 from (hI8 79 (Int.toNat v4_10)).1)
                refine gv_run 5 true hD (pc' := 91) (lv' := [(0, .inr (.inr (some 0))), (1, .inl a1), (2, .inl v2_4), (3, .inl v3_7), (4, .inl v4_10), (5, .inl v5_10)]) (st' := [.inl (I8 79 (Int.toNat v4_10)), .inl v5_10]) (h' := gr_h I8 J9) (C := (((((True ∧ True) ∧ True) ∧ True) ∧ True) ∧ (0 ≤ v4_10 ∧ v4_10 < ((1536 : Nat) : Int)))) rfl ⟨⟨⟨⟨⟨trivial, trivial⟩, trivial⟩, trivial⟩, trivial⟩, ⟨by omega, by omega⟩⟩ ?_
                refine gv_icmp_ge (t := 120) hD rfl rfl ⟨⟨by omega, by omega⟩, ⟨by omega, by omega⟩⟩ (fun c12 => ?_) (fun c12 => ?_)
                · refine gv_run 2 true hD (pc' := 47) (lv' := [(3, .inl (v3_7 + 1)), (0, .inr (.inr (some 0))), (1, .inl a1), (2, .inl v2_4), (4, .inl v4_10), (5, .inl v5_10)]) (st' := []) (h' := gr_h I8 J9) (C := ((True ∧ True) ∧ True)) rfl ⟨⟨trivial, trivial⟩, trivial⟩ ?_
                  refine gv_pick [1, 2, 3, 0] rfl ?_
                  exact ih47 I8 J9 (v3_7 + 1) (by omega) hI8 FI8 FJ9 (by omega)
                · refine gv_run 7 true hD (pc' := 106) (lv' := [(0, .inr (.inr (some 0))), (1, .inl a1), (2, .inl v2_4), (3, .inl v3_7), (4, .inl v4_10), (5, .inl v5_10)]) (st' := [.inl ((24 * v4_10) + v5_10), .inr (.inr (some 78))]) (h' := gr_h I8 J9) (C := (((((((True ∧ True) ∧ True) ∧ True) ∧ True) ∧ True) ∧ True) ∧ True)) rfl ⟨⟨⟨⟨⟨⟨⟨trivial, trivial⟩, trivial⟩, trivial⟩, trivial⟩, trivial⟩, trivial⟩, trivial⟩ ?_
                  have f13 := (show (-128) ≤ I8 76 (Int.toNat v5_10) ∧ I8 76 (Int.toNat v5_10) ≤ 127 from (hI8 76 (Int.toNat v5_10)).1)
                  refine gv_run 4 true hD (pc' := 113) (lv' := [(0, .inr (.inr (some 0))), (1, .inl a1), (2, .inl v2_4), (3, .inl v3_7), (4, .inl v4_10), (5, .inl v5_10)]) (st' := [.inl (I8 76 (Int.toNat v5_10)), .inl ((24 * v4_10) + v5_10), .inr (.inr (some 78))]) (h' := gr_h I8 J9) (C := ((((True ∧ True) ∧ True) ∧ True) ∧ (0 ≤ v5_10 ∧ v5_10 < ((64 : Nat) : Int)))) rfl ⟨⟨⟨⟨trivial, trivial⟩, trivial⟩, trivial⟩, ⟨by omega, by omega⟩⟩ ?_
                  have f14 := gw_nar_byte (x := ((I8 76 (Int.toNat v5_10))))
                  refine gv_run 1 true hD (pc' := 114) (lv' := [(0, .inr (.inr (some 0))), (1, .inl a1), (2, .inl v2_4), (3, .inl v3_7), (4, .inl v4_10), (5, .inl v5_10)]) (st' := []) (h' := gz_up (gr_h I8 J9) 78 (Int.toNat (((24 * v4_10) + v5_10))) (.inl (((vp_nar .byte (Int32.ofInt ((I8 76 (Int.toNat v5_10))))).toInt)))) (C := (True ∧ (0 ≤ (((24 * v4_10) + v5_10)) ∧ (((24 * v4_10) + v5_10)) < ((36864 : Nat) : Int)))) rfl ⟨trivial, ⟨by omega, by omega⟩⟩ ?_
                  refine gr_st hI8 FI8 rfl rfl ⟨⟨by show (-128) ≤ _; omega, by show _ ≤ 127; omega⟩, trivial⟩ (fun I15 hI15 FI15 q16 p16 => ?_)
                  refine gv_run 2 true hD (pc' := 82) (lv' := [(5, .inl (v5_10 + 1)), (0, .inr (.inr (some 0))), (1, .inl a1), (2, .inl v2_4), (3, .inl v3_7), (4, .inl v4_10)]) (st' := []) (h' := gr_h I15 J9) (C := ((True ∧ True) ∧ True)) rfl ⟨⟨trivial, trivial⟩, trivial⟩ ?_
                  refine gv_pick [1, 2, 3, 4, 5, 0] rfl ?_
                  exact ih82 I15 J9 v4_10 (v5_10 + 1) (by omega) hI15 FI15 FJ9 (by omega)
            refine gv_run 4 true hD (pc' := 51) (lv' := [(0, .inr (.inr (some 0))), (1, .inl a1), (2, .inl v2_4), (3, .inl v3_7)]) (st' := [.inl v2_4, .inl a1, .inr (.inr (some 0)), .inl v3_7]) (h' := gr_h I5 J6) (C := ((((True ∧ True) ∧ True) ∧ True) ∧ True)) rfl ⟨⟨⟨⟨trivial, trivial⟩, trivial⟩, trivial⟩, trivial⟩ ?_
            obtain ⟨r17, h17, E17, P17⟩ := r_cellsOf (ws0 := ws0) (tb := tb) hws htb ext I5 J6 hI5 a1 v2_4 ⟨by omega, by omega⟩ ⟨by omega, by omega⟩ 
            obtain ⟨rfl, ⟨z17, rfl, q17⟩⟩ := P17
            refine gv_callV hD rfl (As := [.inl a1, .inl v2_4]) (st := [.inl v3_7]) rfl (by decide) rfl rfl (gr_lV hws rfl) (Nat.le_of_ble_eq_true rfl) (gz_Ev_mono (d := 1) (by decide) E17) ?_
            show gv_X _ _ (54, [(0, .inr (.inr (some 0))), (1, .inl a1), (2, .inl v2_4), (3, .inl v3_7)], [.inl z17, .inl v3_7], gr_sh ++ ext, gr_h I5 J6)
            refine gv_icmp_ge (t := 126) hD rfl rfl ⟨⟨by omega, by omega⟩, ⟨by omega, by omega⟩⟩ (fun c18 => ?_) (fun c18 => ?_)
            · refine gv_run 2 true hD (pc' := 35) (lv' := [(2, .inl (v2_4 + 1)), (0, .inr (.inr (some 0))), (1, .inl a1), (3, .inl v3_7)]) (st' := []) (h' := gr_h I5 J6) (C := ((True ∧ True) ∧ True)) rfl ⟨⟨trivial, trivial⟩, trivial⟩ ?_
              refine gv_pick [1, 2, 0] rfl ?_
              exact ih35 I5 J6 (v2_4 + 1) (by omega) hI5 FI5 FJ6 (by omega)
            · refine gv_run 7 true hD (pc' := 66) (lv' := [(4, .inl ((24 * v2_4) + v3_7)), (0, .inr (.inr (some 0))), (1, .inl a1), (2, .inl v2_4), (3, .inl v3_7)]) (st' := [.inr (.inr (some 0))]) (h' := gr_h I5 J6) (C := (((((((True ∧ True) ∧ True) ∧ True) ∧ True) ∧ True) ∧ True) ∧ True)) rfl ⟨⟨⟨⟨⟨⟨⟨trivial, trivial⟩, trivial⟩, trivial⟩, trivial⟩, trivial⟩, trivial⟩, trivial⟩ ?_
              refine gv_run 6 true hD (pc' := 75) (lv' := [(4, .inl ((24 * v2_4) + v3_7)), (0, .inr (.inr (some 0))), (1, .inl a1), (2, .inl v2_4), (3, .inl v3_7)]) (st' := [.inl v3_7, .inl v2_4, .inl a1, .inr (.inr (some 0)), .inl ((24 * v2_4) + v3_7), .inr (.inr (some 79))]) (h' := gr_h I5 J6) (C := ((((((True ∧ True) ∧ True) ∧ True) ∧ True) ∧ True) ∧ True)) rfl ⟨⟨⟨⟨⟨⟨trivial, trivial⟩, trivial⟩, trivial⟩, trivial⟩, trivial⟩, trivial⟩ ?_
              obtain ⟨r19, h19, E19, P19⟩ := r_joined (ws0 := ws0) (tb := tb) hws htb ext I5 J6 hI5 a1 v2_4 v3_7 ⟨by omega, by omega⟩ ⟨by omega, by omega⟩ ⟨by omega, by omega⟩ 
              obtain ⟨I20, J21, rfl, hI20, g19, k19, ⟨z19, rfl, q19⟩⟩ := P19
              have FI20 := gr_frt FI5 g19 rfl rfl
              have FJ21 := gr_fjt FJ6 k19 rfl rfl
              refine gv_callV hD rfl (As := [.inl a1, .inl v2_4, .inl v3_7]) (st := [.inl ((24 * v2_4) + v3_7), .inr (.inr (some 79))]) rfl (by decide) rfl rfl (gr_lV hws rfl) (Nat.le_of_ble_eq_true rfl) (gz_Ev_mono (d := 5) (by decide) E19) ?_
              show gv_X _ _ (78, [(4, .inl ((24 * v2_4) + v3_7)), (0, .inr (.inr (some 0))), (1, .inl a1), (2, .inl v2_4), (3, .inl v3_7)], [.inl z19, .inl ((24 * v2_4) + v3_7), .inr (.inr (some 79))], gr_sh ++ ext, gr_h I20 J21)
              refine gv_run 1 true hD (pc' := 79) (lv' := [(4, .inl ((24 * v2_4) + v3_7)), (0, .inr (.inr (some 0))), (1, .inl a1), (2, .inl v2_4), (3, .inl v3_7)]) (st' := []) (h' := gz_up (gr_h I20 J21) 79 (Int.toNat (((24 * v2_4) + v3_7))) (.inl z19)) (C := (True ∧ (0 ≤ (((24 * v2_4) + v3_7)) ∧ (((24 * v2_4) + v3_7)) < ((1536 : Nat) : Int)))) rfl ⟨trivial, ⟨by omega, by omega⟩⟩ ?_
              refine gr_st hI20 FI20 rfl rfl ⟨⟨by show (-1) ≤ _; omega, by show _ ≤ 24; omega⟩, trivial⟩ (fun I22 hI22 FI22 q23 p23 => ?_)
              refine gv_run 2 true hD (pc' := 82) (lv' := [(5, .inl 0), (4, .inl ((24 * v2_4) + v3_7)), (0, .inr (.inr (some 0))), (1, .inl a1), (2, .inl v2_4), (3, .inl v3_7)]) (st' := []) (h' := gr_h I22 J21) (C := ((True ∧ True) ∧ True)) rfl ⟨⟨trivial, trivial⟩, trivial⟩ ?_
              refine gv_pick [2, 3, 4, 5, 1, 0] rfl ?_
              exact L82 _ I22 J21 (((24 * v2_4) + v3_7)) 0 (Nat.lt_succ_self _) hI22 FI22 FJ21 (by omega)
        have f24 := (show 0 ≤ I2 18 (Int.toNat a1) ∧ I2 18 (Int.toNat a1) ≤ 64 from (hI2 18 (Int.toNat a1)).1)
        refine gv_run 5 true hD (pc' := 42) (lv' := [(0, .inr (.inr (some 0))), (1, .inl a1), (2, .inl v2_4)]) (st' := [.inl (I2 18 (Int.toNat a1)), .inl v2_4]) (h' := gr_h I2 J3) (C := (((((True ∧ True) ∧ True) ∧ True) ∧ True) ∧ (0 ≤ a1 ∧ a1 < ((8 : Nat) : Int)))) rfl ⟨⟨⟨⟨⟨trivial, trivial⟩, trivial⟩, trivial⟩, trivial⟩, ⟨by omega, by omega⟩⟩ ?_
        refine gv_icmp_ge (t := 132) hD rfl rfl ⟨⟨by omega, by omega⟩, ⟨by omega, by omega⟩⟩ (fun c25 => ?_) (fun c25 => ?_)
        · exact gv_vret hD rfl ⟨I2, J3, rfl, hI2, FI2, FJ3, rfl⟩
        · refine gv_run 2 true hD (pc' := 47) (lv' := [(3, .inl 0), (0, .inr (.inr (some 0))), (1, .inl a1), (2, .inl v2_4)]) (st' := []) (h' := gr_h I2 J3) (C := ((True ∧ True) ∧ True)) rfl ⟨⟨trivial, trivial⟩, trivial⟩ ?_
          refine gv_pick [1, 2, 3, 0] rfl ?_
          exact L47 _ I2 J3 0 (Nat.lt_succ_self _) hI2 FI2 FJ3 (by omega)
    refine gv_run 3 true hD (pc' := 25) (lv' := [(0, .inr (.inr (some 0))), (1, .inl a1)]) (st' := []) (h' := gz_up (gr_h I J) 0 127 (.inl a1)) (C := (((True ∧ True) ∧ True) ∧ True)) rfl ⟨⟨⟨trivial, trivial⟩, trivial⟩, trivial⟩ ?_
    refine gr_st hI FI rfl rfl ⟨⟨by show (-1) ≤ _; omega, by show _ ≤ 7; omega⟩, trivial⟩ (fun I26 hI26 FI26 q27 p27 => ?_)
    have f28 := (show 0 ≤ I26 0 100 ∧ I26 0 100 ≤ 1000000 from (hI26 0 100).1)
    refine gv_run 3 true hD (pc' := 30) (lv' := [(0, .inr (.inr (some 0))), (1, .inl a1)]) (st' := [.inl (I26 0 100), .inr (.inr (some 0))]) (h' := gr_h I26 J) (C := (((True ∧ True) ∧ True) ∧ True)) rfl ⟨⟨⟨trivial, trivial⟩, trivial⟩, trivial⟩ ?_
    refine gv_run 1 true hD (pc' := 33) (lv' := [(0, .inr (.inr (some 0))), (1, .inl a1)]) (st' := []) (h' := gz_up (gr_h I26 J) 0 128 (.inl (I26 0 100))) (C := (True ∧ True)) rfl ⟨trivial, trivial⟩ ?_
    refine gr_st hI26 FI26 rfl rfl ⟨⟨by show (-1) ≤ _; omega, by show _ ≤ 1000000; omega⟩, trivial⟩ (fun I29 hI29 FI29 q30 p30 => ?_)
    refine gv_run 2 true hD (pc' := 35) (lv' := [(2, .inl 0), (0, .inr (.inr (some 0))), (1, .inl a1)]) (st' := []) (h' := gr_h I29 J) (C := ((True ∧ True) ∧ True)) rfl ⟨⟨trivial, trivial⟩, trivial⟩ ?_
    refine gv_pick [1, 2, 0] rfl ?_
    exact L35 _ I29 J 0 (Nat.lt_succ_self _) hI29 FI29 FJ (by omega)
  have f31 := (show (-1) ≤ I 0 127 ∧ I 0 127 ≤ 7 from (hI 0 127).1)
  refine gv_run 3 true hD (pc' := 5) (lv' := [(0, .inr (.inr (some 0))), (1, .inl a1)]) (st' := [.inl a1, .inl (I 0 127)]) (h' := gr_h I J) (C := (((True ∧ True) ∧ True) ∧ True)) rfl ⟨⟨⟨trivial, trivial⟩, trivial⟩, trivial⟩ ?_
  refine gv_icmp_ne (t := 20) hD rfl rfl ⟨⟨by omega, by omega⟩, ⟨by omega, by omega⟩⟩ (fun c32 => ?_) (fun c32 => ?_)
  · exact L20 (by omega)
  · have f33 := (show (-1) ≤ I 0 128 ∧ I 0 128 ≤ 1000000 from (hI 0 128).1)
    have f34 := (show 0 ≤ I 0 100 ∧ I 0 100 ≤ 1000000 from (hI 0 100).1)
    refine gv_run 4 true hD (pc' := 16) (lv' := [(0, .inr (.inr (some 0))), (1, .inl a1)]) (st' := [.inl (I 0 100), .inl (I 0 128)]) (h' := gr_h I J) (C := ((((True ∧ True) ∧ True) ∧ True) ∧ True)) rfl ⟨⟨⟨⟨trivial, trivial⟩, trivial⟩, trivial⟩, trivial⟩ ?_
    refine gv_icmp_ne (t := 20) hD rfl rfl ⟨⟨by omega, by omega⟩, ⟨by omega, by omega⟩⟩ (fun c35 => ?_) (fun c35 => ?_)
    · exact L20 (by omega)
    · exact gv_vret hD rfl ⟨I, J, rfl, hI, FI, FJ, rfl⟩
set_option maxHeartbeats 4000000 in
set_option maxRecDepth 100000 in
theorem r_chart {ws0 : List Cond} {tb : String → gz_T} (hws : ∀ w ∈ gr_ws, w ∈ ws0) (htb : tb RX13 = gr_T) (ext : gz_Sh) (I : gr_I) (J : gr_J) (hI : gr_Inv I) (a1 : Int) (ha1 : 0 ≤ a1 ∧ a1 ≤ 7) (x0 : gr_GR I) : ∃ r h', gz_Ev ws0 tb 11 (yX13_chart, cX13_chart, 7, (some .boolean)) [.inr (.inr (some 0)), .inl a1] (gr_sh ++ ext) (gr_h I J) r (gr_sh ++ ext) h' 0 0 ∧ (∃ (I' : gr_I) (J' : gr_J), h' = gr_h I' J' ∧ gr_Inv I' ∧ gr_fr [126, 127, 128, 157, 158, 160, 161, 166, 167, 168, 169, 170] [51, 76, 77, 78, 79, 87, 88, 89, 90, 91, 92, 93, 94, 95, 96, 97, 98, 99, 100, 101, 103, 104] I I' ∧ gr_fj [126, 127, 128, 157, 158, 160, 161, 166, 167, 168, 169, 170] [51, 76, 77, 78, 79, 87, 88, 89, 90, 91, 92, 93, 94, 95, 96, 97, 98, 99, 100, 101, 103, 104] J J' ∧ (∃ z : Int, r = some (.inl z) ∧ 0 ≤ z ∧ z ≤ 1 ∧ (gr_o (z = 0) (gr_CH a1 I')))) := by
  have FI : gr_fr [126, 127, 128, 157, 158, 160, 161, 166, 167, 168, 169, 170] [51, 76, 77, 78, 79, 87, 88, 89, 90, 91, 92, 93, 94, 95, 96, 97, 98, 99, 100, 101, 103, 104] I I := fun _ _ _ => rfl
  have FJ : gr_fj [126, 127, 128, 157, 158, 160, 161, 166, 167, 168, 169, 170] [51, 76, 77, 78, 79, 87, 88, 89, 90, 91, 92, 93, 94, 95, 96, 97, 98, 99, 100, 101, 103, 104] J J := fun _ _ _ => rfl
  have hD : gv_D (gr_E ws0 tb 10 (yX13_chart, cX13_chart, 7, (some .boolean)) kX13_chart) := gq_ok oX13_chart
  refine gr_ev (d := 10) (l := kX13_chart) (Po := fun r h' => (∃ (I' : gr_I) (J' : gr_J), h' = gr_h I' J' ∧ gr_Inv I' ∧ gr_fr [126, 127, 128, 157, 158, 160, 161, 166, 167, 168, 169, 170] [51, 76, 77, 78, 79, 87, 88, 89, 90, 91, 92, 93, 94, 95, 96, 97, 98, 99, 100, 101, 103, 104] I I' ∧ gr_fj [126, 127, 128, 157, 158, 160, 161, 166, 167, 168, 169, 170] [51, 76, 77, 78, 79, 87, 88, 89, 90, 91, 92, 93, 94, 95, 96, 97, 98, 99, 100, 101, 103, 104] J J' ∧ (∃ z : Int, r = some (.inl z) ∧ 0 ≤ z ∧ z ≤ 1 ∧ (gr_o (z = 0) (gr_CH a1 I'))))) htb rfl (Nat.le_of_ble_eq_true rfl) ?_
  have f1 := (show 0 ≤ I 0 157 ∧ I 0 157 ≤ 3000 from (hI 0 157).1)
  have f2 := (show 0 ≤ I 0 143 ∧ I 0 143 ≤ 24 from (hI 0 143).1)
  have f3 := (show 0 ≤ I 0 158 ∧ I 0 158 ≤ 9000 from (hI 0 158).1)
  have f4 := (show 0 ≤ I 0 161 ∧ I 0 161 ≤ 400001 from (hI 0 161).1)
  have f5 := (show 0 ≤ I 0 160 ∧ I 0 160 ≤ 1 from (hI 0 160).1)
  have f6 := (show 0 ≤ I 0 167 ∧ I 0 167 ≤ 3071 from (hI 0 167).1)
  have f7 := (show 0 ≤ I 0 168 ∧ I 0 168 ≤ 24 from (hI 0 168).1)
  have f8 := (show 0 ≤ I 0 169 ∧ I 0 169 ≤ 24 from (hI 0 169).1)
  have f9 := (show 0 ≤ I 0 170 ∧ I 0 170 ≤ 384 from (hI 0 170).1)
  have f10 := (show 0 ≤ I 0 2 ∧ I 0 2 ≤ 32 from (hI 0 2).1)
  have L39 : ∀ (n : Nat) (I11 : gr_I) (J12 : gr_J) (v2_13 : Int), (26 - v2_13).toNat < n → gr_Inv I11 → gr_fr [126, 127, 128, 157, 158, 160, 161, 166, 167, 168, 169, 170] [51, 76, 77, 78, 79, 87, 88, 89, 90, 91, 92, 93, 94, 95, 96, 97, 98, 99, 100, 101, 103, 104] I I11 → gr_fj [126, 127, 128, 157, 158, 160, 161, 166, 167, 168, 169, 170] [51, 76, 77, 78, 79, 87, 88, 89, 90, 91, 92, 93, 94, 95, 96, 97, 98, 99, 100, 101, 103, 104] J J12 → ((0 ≤ a1 ∧ a1 ≤ 7) ∧ (0 ≤ v2_13 ∧ v2_13 ≤ 25) ∧ (I11 0 161 ≤ 400000) ∧ (I11 0 157 = 0) ∧ (I11 0 158 = 0) ∧ (v2_13 ≤ I 0 143 + 1)) → (gr_SZ v2_13 0 0 I11) → gv_X (gr_E ws0 tb 10 (yX13_chart, cX13_chart, 7, (some .boolean)) kX13_chart) (gv_Q cX13_chart (some .boolean) (gr_sh ++ ext) (fun r h' => (∃ (I' : gr_I) (J' : gr_J), h' = gr_h I' J' ∧ gr_Inv I' ∧ gr_fr [126, 127, 128, 157, 158, 160, 161, 166, 167, 168, 169, 170] [51, 76, 77, 78, 79, 87, 88, 89, 90, 91, 92, 93, 94, 95, 96, 97, 98, 99, 100, 101, 103, 104] I I' ∧ gr_fj [126, 127, 128, 157, 158, 160, 161, 166, 167, 168, 169, 170] [51, 76, 77, 78, 79, 87, 88, 89, 90, 91, 92, 93, 94, 95, 96, 97, 98, 99, 100, 101, 103, 104] J J' ∧ (∃ z : Int, r = some (.inl z) ∧ 0 ≤ z ∧ z ≤ 1 ∧ (gr_o (z = 0) (gr_CH a1 I')))))) (39, [(0, .inr (.inr (some 0))), (1, .inl a1), (2, .inl v2_13)], [], gr_sh ++ ext, gr_h I11 J12) := by
    intro n
    induction n with
    | zero => intro I11 J12 v2_13 hn; omega
    | succ n ih39 =>
      intro I11 J12 v2_13 hn hI11 FI11 FJ12 m_13 e0_13
      obtain ⟨ha1_13, hv2_13, e1_13, e2_13, e3_13, e4_13⟩ := m_13
      have f14 := (show 0 ≤ I11 0 157 ∧ I11 0 157 ≤ 3000 from (hI11 0 157).1)
      have f15 := (show 0 ≤ I11 0 143 ∧ I11 0 143 ≤ 24 from (hI11 0 143).1)
      have f16 := (show 0 ≤ I11 0 158 ∧ I11 0 158 ≤ 9000 from (hI11 0 158).1)
      have f17 := (show 0 ≤ I11 0 161 ∧ I11 0 161 ≤ 400001 from (hI11 0 161).1)
      have f18 := (show 0 ≤ I11 0 160 ∧ I11 0 160 ≤ 1 from (hI11 0 160).1)
      have f19 := (show 0 ≤ I11 0 167 ∧ I11 0 167 ≤ 3071 from (hI11 0 167).1)
      have f20 := (show 0 ≤ I11 0 168 ∧ I11 0 168 ≤ 24 from (hI11 0 168).1)
      have f21 := (show 0 ≤ I11 0 169 ∧ I11 0 169 ≤ 24 from (hI11 0 169).1)
      have f22 := (show 0 ≤ I11 0 170 ∧ I11 0 170 ≤ 384 from (hI11 0 170).1)
      have f23 := (show 0 ≤ I11 0 2 ∧ I11 0 2 ≤ 32 from (hI11 0 2).1)
      have t24 := (show 0 ≤ I 19 (Int.toNat a1) ∧ I 19 (Int.toNat a1) ≤ 384 from (hI 19 _).1)
      have t25 := FI11 0 143 rfl
      have t26 := FI11 19 (Int.toNat a1) rfl
      have L49 : ∀ (n : Nat) (I27 : gr_I) (J28 : gr_J) (v3_29 : Int), (26 - v3_29).toNat < n → gr_Inv I27 → gr_fr [126, 127, 128, 157, 158, 160, 161, 166, 167, 168, 169, 170] [51, 76, 77, 78, 79, 87, 88, 89, 90, 91, 92, 93, 94, 95, 96, 97, 98, 99, 100, 101, 103, 104] I I27 → gr_fj [126, 127, 128, 157, 158, 160, 161, 166, 167, 168, 169, 170] [51, 76, 77, 78, 79, 87, 88, 89, 90, 91, 92, 93, 94, 95, 96, 97, 98, 99, 100, 101, 103, 104] J J28 → ((0 ≤ a1 ∧ a1 ≤ 7) ∧ (0 ≤ v2_13 ∧ v2_13 ≤ 24) ∧ (0 ≤ v3_29 ∧ v3_29 ≤ 25) ∧ (I27 0 161 ≤ 400000) ∧ (I27 0 157 = 0) ∧ (I27 0 158 = 0) ∧ (v2_13 ≤ I 0 143)) → (gr_SZ v2_13 v3_29 0 I27) → gv_X (gr_E ws0 tb 10 (yX13_chart, cX13_chart, 7, (some .boolean)) kX13_chart) (gv_Q cX13_chart (some .boolean) (gr_sh ++ ext) (fun r h' => (∃ (I' : gr_I) (J' : gr_J), h' = gr_h I' J' ∧ gr_Inv I' ∧ gr_fr [126, 127, 128, 157, 158, 160, 161, 166, 167, 168, 169, 170] [51, 76, 77, 78, 79, 87, 88, 89, 90, 91, 92, 93, 94, 95, 96, 97, 98, 99, 100, 101, 103, 104] I I' ∧ gr_fj [126, 127, 128, 157, 158, 160, 161, 166, 167, 168, 169, 170] [51, 76, 77, 78, 79, 87, 88, 89, 90, 91, 92, 93, 94, 95, 96, 97, 98, 99, 100, 101, 103, 104] J J' ∧ (∃ z : Int, r = some (.inl z) ∧ 0 ≤ z ∧ z ≤ 1 ∧ (gr_o (z = 0) (gr_CH a1 I')))))) (49, [(0, .inr (.inr (some 0))), (1, .inl a1), (2, .inl v2_13), (3, .inl v3_29)], [], gr_sh ++ ext, gr_h I27 J28) := by
        intro n
        induction n with
        | zero => intro I27 J28 v3_29 hn; omega
        | succ n ih49 =>
          intro I27 J28 v3_29 hn hI27 FI27 FJ28 m_29 e0_29
          clear ha1_13 hv2_13 e1_13 e2_13 e3_13 e4_13 f14 f15 f16 f17 f18 f19 f20 f21 f22 f23 t24 t25 t26
          obtain ⟨ha1_29, hv2_13_29, hv3_29, e1_29, e2_29, e3_29, e4_29⟩ := m_29
          have f30 := (show 0 ≤ I27 0 157 ∧ I27 0 157 ≤ 3000 from (hI27 0 157).1)
          have f31 := (show 0 ≤ I27 0 143 ∧ I27 0 143 ≤ 24 from (hI27 0 143).1)
          have f32 := (show 0 ≤ I27 0 158 ∧ I27 0 158 ≤ 9000 from (hI27 0 158).1)
          have f33 := (show 0 ≤ I27 0 161 ∧ I27 0 161 ≤ 400001 from (hI27 0 161).1)
          have f34 := (show 0 ≤ I27 0 160 ∧ I27 0 160 ≤ 1 from (hI27 0 160).1)
          have f35 := (show 0 ≤ I27 0 167 ∧ I27 0 167 ≤ 3071 from (hI27 0 167).1)
          have f36 := (show 0 ≤ I27 0 168 ∧ I27 0 168 ≤ 24 from (hI27 0 168).1)
          have f37 := (show 0 ≤ I27 0 169 ∧ I27 0 169 ≤ 24 from (hI27 0 169).1)
          have f38 := (show 0 ≤ I27 0 170 ∧ I27 0 170 ≤ 384 from (hI27 0 170).1)
          have f39 := (show 0 ≤ I27 0 2 ∧ I27 0 2 ≤ 32 from (hI27 0 2).1)
          have t40 := (show 0 ≤ I 19 (Int.toNat a1) ∧ I 19 (Int.toNat a1) ≤ 384 from (hI 19 _).1)
          have t41 := FI27 0 143 rfl
          have t42 := FI27 19 (Int.toNat a1) rfl
          have L60 : ∀ (n : Nat) (I43 : gr_I) (J44 : gr_J) (v4_45 : Int), (33 - v4_45).toNat < n → gr_Inv I43 → gr_fr [126, 127, 128, 157, 158, 160, 161, 166, 167, 168, 169, 170] [51, 76, 77, 78, 79, 87, 88, 89, 90, 91, 92, 93, 94, 95, 96, 97, 98, 99, 100, 101, 103, 104] I I43 → gr_fj [126, 127, 128, 157, 158, 160, 161, 166, 167, 168, 169, 170] [51, 76, 77, 78, 79, 87, 88, 89, 90, 91, 92, 93, 94, 95, 96, 97, 98, 99, 100, 101, 103, 104] J J44 → ((0 ≤ a1 ∧ a1 ≤ 7) ∧ (0 ≤ v2_13 ∧ v2_13 ≤ 24) ∧ (0 ≤ v3_29 ∧ v3_29 ≤ 24) ∧ (0 ≤ v4_45 ∧ v4_45 ≤ 32) ∧ (I43 0 161 ≤ 400000) ∧ (I43 0 157 = 0) ∧ (I43 0 158 = 0) ∧ (v2_13 ≤ I 0 143) ∧ (v3_29 ≤ I 0 143)) → (gr_SZ v2_13 v3_29 v4_45 I43) → gv_X (gr_E ws0 tb 10 (yX13_chart, cX13_chart, 7, (some .boolean)) kX13_chart) (gv_Q cX13_chart (some .boolean) (gr_sh ++ ext) (fun r h' => (∃ (I' : gr_I) (J' : gr_J), h' = gr_h I' J' ∧ gr_Inv I' ∧ gr_fr [126, 127, 128, 157, 158, 160, 161, 166, 167, 168, 169, 170] [51, 76, 77, 78, 79, 87, 88, 89, 90, 91, 92, 93, 94, 95, 96, 97, 98, 99, 100, 101, 103, 104] I I' ∧ gr_fj [126, 127, 128, 157, 158, 160, 161, 166, 167, 168, 169, 170] [51, 76, 77, 78, 79, 87, 88, 89, 90, 91, 92, 93, 94, 95, 96, 97, 98, 99, 100, 101, 103, 104] J J' ∧ (∃ z : Int, r = some (.inl z) ∧ 0 ≤ z ∧ z ≤ 1 ∧ (gr_o (z = 0) (gr_CH a1 I')))))) (60, [(0, .inr (.inr (some 0))), (1, .inl a1), (2, .inl v2_13), (3, .inl v3_29), (4, .inl v4_45)], [], gr_sh ++ ext, gr_h I43 J44) := by
            intro n
            induction n with
            | zero => intro I43 J44 v4_45 hn; omega
            | succ n ih60 =>
              intro I43 J44 v4_45 hn hI43 FI43 FJ44 m_45 e0_45
              clear ha1_29 hv2_13_29 hv3_29 e1_29 e2_29 e3_29 e4_29 f30 f31 f32 f33 f34 f35 f36 f37 f38 f39 t40 t41 t42
              obtain ⟨ha1_45, hv2_13_45, hv3_29_45, hv4_45, e1_45, e2_45, e3_45, e4_45, e5_45⟩ := m_45
              have f46 := (show 0 ≤ I43 0 157 ∧ I43 0 157 ≤ 3000 from (hI43 0 157).1)
              have f47 := (show 0 ≤ I43 0 143 ∧ I43 0 143 ≤ 24 from (hI43 0 143).1)
              have f48 := (show 0 ≤ I43 0 158 ∧ I43 0 158 ≤ 9000 from (hI43 0 158).1)
              have f49 := (show 0 ≤ I43 0 161 ∧ I43 0 161 ≤ 400001 from (hI43 0 161).1)
              have f50 := (show 0 ≤ I43 0 160 ∧ I43 0 160 ≤ 1 from (hI43 0 160).1)
              have f51 := (show 0 ≤ I43 0 167 ∧ I43 0 167 ≤ 3071 from (hI43 0 167).1)
              have f52 := (show 0 ≤ I43 0 168 ∧ I43 0 168 ≤ 24 from (hI43 0 168).1)
              have f53 := (show 0 ≤ I43 0 169 ∧ I43 0 169 ≤ 24 from (hI43 0 169).1)
              have f54 := (show 0 ≤ I43 0 170 ∧ I43 0 170 ≤ 384 from (hI43 0 170).1)
              have f55 := (show 0 ≤ I43 0 2 ∧ I43 0 2 ≤ 32 from (hI43 0 2).1)
              have t56 := (show 0 ≤ I 19 (Int.toNat a1) ∧ I 19 (Int.toNat a1) ≤ 384 from (hI 19 _).1)
              have t57 := FI43 0 143 rfl
              have t58 := FI43 19 (Int.toNat a1) rfl
              refine gv_run 2 true hD (pc' := 64) (lv' := [(0, .inr (.inr (some 0))), (1, .inl a1), (2, .inl v2_13), (3, .inl v3_29), (4, .inl v4_45)]) (st' := [.inl 32, .inl v4_45]) (h' := gr_h I43 J44) (C := ((True ∧ True) ∧ True)) rfl ⟨⟨trivial, trivial⟩, trivial⟩ ?_
              refine gv_icmp_ge (t := 91) hD rfl rfl ⟨⟨by omega, by omega⟩, ⟨by omega, by omega⟩⟩ (fun c59 => ?_) (fun c59 => ?_)
              · refine gv_run 2 true hD (pc' := 49) (lv' := [(3, .inl (v3_29 + 1)), (0, .inr (.inr (some 0))), (1, .inl a1), (2, .inl v2_13), (4, .inl v4_45)]) (st' := []) (h' := gr_h I43 J44) (C := ((True ∧ True) ∧ True)) rfl ⟨⟨trivial, trivial⟩, trivial⟩ ?_
                refine gv_pick [1, 2, 3, 0] rfl ?_
                exact ih49 I43 J44 (v3_29 + 1) (by omega) hI43 FI43 FJ44 (by omega) (gr_SZ_j e0_45 (by omega))
              · refine gv_run 7 true hD (pc' := 77) (lv' := [(0, .inr (.inr (some 0))), (1, .inl a1), (2, .inl v2_13), (3, .inl v3_29), (4, .inl v4_45)]) (st' := [.inl ((25 * v2_13) + v3_29), .inr (.inr (some 93))]) (h' := gr_h I43 J44) (C := (((((((True ∧ True) ∧ True) ∧ True) ∧ True) ∧ True) ∧ True) ∧ True)) rfl ⟨⟨⟨⟨⟨⟨⟨trivial, trivial⟩, trivial⟩, trivial⟩, trivial⟩, trivial⟩, trivial⟩, trivial⟩ ?_
                refine gv_run 5 true hD (pc' := 84) (lv' := [(0, .inr (.inr (some 0))), (1, .inl a1), (2, .inl v2_13), (3, .inl v3_29), (4, .inl v4_45)]) (st' := [.inl (-1), .inl ((((25 * v2_13) + v3_29) * 32) + v4_45), .inr (.inr (some 93))]) (h' := gr_h I43 J44) (C := (((((True ∧ True) ∧ True) ∧ True) ∧ True) ∧ True)) rfl ⟨⟨⟨⟨⟨trivial, trivial⟩, trivial⟩, trivial⟩, trivial⟩, trivial⟩ ?_
                refine gv_run 1 true hD (pc' := 85) (lv' := [(0, .inr (.inr (some 0))), (1, .inl a1), (2, .inl v2_13), (3, .inl v3_29), (4, .inl v4_45)]) (st' := []) (h' := gz_up (gr_h I43 J44) 93 (Int.toNat (((((25 * v2_13) + v3_29) * 32) + v4_45))) (.inl (-1))) (C := (True ∧ (0 ≤ (((((25 * v2_13) + v3_29) * 32) + v4_45)) ∧ (((((25 * v2_13) + v3_29) * 32) + v4_45)) < ((20000 : Nat) : Int)))) rfl ⟨trivial, ⟨by omega, by omega⟩⟩ ?_
                refine gr_st hI43 FI43 rfl rfl ⟨⟨by show (-1) ≤ _; omega, by show _ ≤ 2999; omega⟩, trivial⟩ (fun I60 hI60 FI60 q61 p61 => ?_)
                have t62 := p61 0 157 (fun q => absurd q.1 (by decide))
                have t63 := p61 0 143 (fun q => absurd q.1 (by decide))
                have t64 := p61 0 158 (fun q => absurd q.1 (by decide))
                have t65 := p61 0 161 (fun q => absurd q.1 (by decide))
                have t66 := p61 0 160 (fun q => absurd q.1 (by decide))
                have t67 := p61 0 167 (fun q => absurd q.1 (by decide))
                have t68 := p61 0 168 (fun q => absurd q.1 (by decide))
                have t69 := p61 0 169 (fun q => absurd q.1 (by decide))
                have t70 := p61 0 170 (fun q => absurd q.1 (by decide))
                have t71 := p61 0 2 (fun q => absurd q.1 (by decide))
                have f72 := (show 0 ≤ I60 0 157 ∧ I60 0 157 ≤ 3000 from (hI60 0 157).1)
                have f73 := (show 0 ≤ I60 0 143 ∧ I60 0 143 ≤ 24 from (hI60 0 143).1)
                have f74 := (show 0 ≤ I60 0 158 ∧ I60 0 158 ≤ 9000 from (hI60 0 158).1)
                have f75 := (show 0 ≤ I60 0 161 ∧ I60 0 161 ≤ 400001 from (hI60 0 161).1)
                have f76 := (show 0 ≤ I60 0 160 ∧ I60 0 160 ≤ 1 from (hI60 0 160).1)
                have f77 := (show 0 ≤ I60 0 167 ∧ I60 0 167 ≤ 3071 from (hI60 0 167).1)
                have f78 := (show 0 ≤ I60 0 168 ∧ I60 0 168 ≤ 24 from (hI60 0 168).1)
                have f79 := (show 0 ≤ I60 0 169 ∧ I60 0 169 ≤ 24 from (hI60 0 169).1)
                have f80 := (show 0 ≤ I60 0 170 ∧ I60 0 170 ≤ 384 from (hI60 0 170).1)
                have f81 := (show 0 ≤ I60 0 2 ∧ I60 0 2 ≤ 32 from (hI60 0 2).1)
                have t82 := (show 0 ≤ I 19 (Int.toNat a1) ∧ I 19 (Int.toNat a1) ≤ 384 from (hI 19 _).1)
                have t83 := FI60 0 143 rfl
                have t84 := FI60 19 (Int.toNat a1) rfl
                refine gv_run 2 true hD (pc' := 60) (lv' := [(4, .inl (v4_45 + 1)), (0, .inr (.inr (some 0))), (1, .inl a1), (2, .inl v2_13), (3, .inl v3_29)]) (st' := []) (h' := gr_h I60 J44) (C := ((True ∧ True) ∧ True)) rfl ⟨⟨trivial, trivial⟩, trivial⟩ ?_
                refine gv_pick [1, 2, 3, 4, 0] rfl ?_
                exact ih60 I60 J44 (v4_45 + 1) (by omega) hI60 FI60 FJ44 (by omega) (gr_SZ_st e0_45 (by omega) p61 q61)
          have f85 := (show 0 ≤ I27 0 143 ∧ I27 0 143 ≤ 24 from (hI27 0 143).1)
          refine gv_run 3 true hD (pc' := 54) (lv' := [(0, .inr (.inr (some 0))), (1, .inl a1), (2, .inl v2_13), (3, .inl v3_29)]) (st' := [.inl (I27 0 143), .inl v3_29]) (h' := gr_h I27 J28) (C := (((True ∧ True) ∧ True) ∧ True)) rfl ⟨⟨⟨trivial, trivial⟩, trivial⟩, trivial⟩ ?_
          refine gv_icmp_gt (t := 97) hD rfl rfl ⟨⟨by omega, by omega⟩, ⟨by omega, by omega⟩⟩ (fun c86 => ?_) (fun c86 => ?_)
          · refine gv_run 2 true hD (pc' := 39) (lv' := [(2, .inl (v2_13 + 1)), (0, .inr (.inr (some 0))), (1, .inl a1), (3, .inl v3_29)]) (st' := []) (h' := gr_h I27 J28) (C := ((True ∧ True) ∧ True)) rfl ⟨⟨trivial, trivial⟩, trivial⟩ ?_
            refine gv_pick [1, 2, 0] rfl ?_
            exact ih39 I27 J28 (v2_13 + 1) (by omega) hI27 FI27 FJ28 (by omega) (gr_SZ_i e0_29 (by omega))
          · refine gv_run 2 true hD (pc' := 60) (lv' := [(4, .inl 0), (0, .inr (.inr (some 0))), (1, .inl a1), (2, .inl v2_13), (3, .inl v3_29)]) (st' := []) (h' := gr_h I27 J28) (C := ((True ∧ True) ∧ True)) rfl ⟨⟨trivial, trivial⟩, trivial⟩ ?_
            refine gv_pick [1, 2, 3, 4, 0] rfl ?_
            exact L60 _ I27 J28 0 (Nat.lt_succ_self _) hI27 FI27 FJ28 (by omega) e0_29
      have L105 : ∀ (n : Nat) (I87 : gr_I) (J88 : gr_J) (v2_89 : Int), (26 - v2_89).toNat < n → gr_Inv I87 → gr_fr [126, 127, 128, 157, 158, 160, 161, 166, 167, 168, 169, 170] [51, 76, 77, 78, 79, 87, 88, 89, 90, 91, 92, 93, 94, 95, 96, 97, 98, 99, 100, 101, 103, 104] I I87 → gr_fj [126, 127, 128, 157, 158, 160, 161, 166, 167, 168, 169, 170] [51, 76, 77, 78, 79, 87, 88, 89, 90, 91, 92, 93, 94, 95, 96, 97, 98, 99, 100, 101, 103, 104] J J88 → ((0 ≤ a1 ∧ a1 ≤ 7) ∧ (1 ≤ v2_89 ∧ v2_89 ≤ 25) ∧ (I87 0 160 = 0 → I87 0 161 ≤ 400000) ∧ (1 ≤ v2_89)) → (gr_FO a1 (v2_89 * 25 * 32 - 1) I87) → gv_X (gr_E ws0 tb 10 (yX13_chart, cX13_chart, 7, (some .boolean)) kX13_chart) (gv_Q cX13_chart (some .boolean) (gr_sh ++ ext) (fun r h' => (∃ (I' : gr_I) (J' : gr_J), h' = gr_h I' J' ∧ gr_Inv I' ∧ gr_fr [126, 127, 128, 157, 158, 160, 161, 166, 167, 168, 169, 170] [51, 76, 77, 78, 79, 87, 88, 89, 90, 91, 92, 93, 94, 95, 96, 97, 98, 99, 100, 101, 103, 104] I I' ∧ gr_fj [126, 127, 128, 157, 158, 160, 161, 166, 167, 168, 169, 170] [51, 76, 77, 78, 79, 87, 88, 89, 90, 91, 92, 93, 94, 95, 96, 97, 98, 99, 100, 101, 103, 104] J J' ∧ (∃ z : Int, r = some (.inl z) ∧ 0 ≤ z ∧ z ≤ 1 ∧ (gr_o (z = 0) (gr_CH a1 I')))))) (105, [(0, .inr (.inr (some 0))), (1, .inl a1), (2, .inl v2_89)], [], gr_sh ++ ext, gr_h I87 J88) := by
        intro n
        induction n with
        | zero => intro I87 J88 v2_89 hn; omega
        | succ n ih105 =>
          intro I87 J88 v2_89 hn hI87 FI87 FJ88 m_89 e0_89
          clear ha1_13 hv2_13 e1_13 e2_13 e3_13 e4_13 f14 f15 f16 f17 f18 f19 f20 f21 f22 f23 t24 t25 t26
          obtain ⟨ha1_89, hv2_89, e1_89, e2_89⟩ := m_89
          have f90 := (show 0 ≤ I87 0 157 ∧ I87 0 157 ≤ 3000 from (hI87 0 157).1)
          have f91 := (show 0 ≤ I87 0 143 ∧ I87 0 143 ≤ 24 from (hI87 0 143).1)
          have f92 := (show 0 ≤ I87 0 158 ∧ I87 0 158 ≤ 9000 from (hI87 0 158).1)
          have f93 := (show 0 ≤ I87 0 161 ∧ I87 0 161 ≤ 400001 from (hI87 0 161).1)
          have f94 := (show 0 ≤ I87 0 160 ∧ I87 0 160 ≤ 1 from (hI87 0 160).1)
          have f95 := (show 0 ≤ I87 0 167 ∧ I87 0 167 ≤ 3071 from (hI87 0 167).1)
          have f96 := (show 0 ≤ I87 0 168 ∧ I87 0 168 ≤ 24 from (hI87 0 168).1)
          have f97 := (show 0 ≤ I87 0 169 ∧ I87 0 169 ≤ 24 from (hI87 0 169).1)
          have f98 := (show 0 ≤ I87 0 170 ∧ I87 0 170 ≤ 384 from (hI87 0 170).1)
          have f99 := (show 0 ≤ I87 0 2 ∧ I87 0 2 ≤ 32 from (hI87 0 2).1)
          have t100 := (show 0 ≤ I 19 (Int.toNat a1) ∧ I 19 (Int.toNat a1) ≤ 384 from (hI 19 _).1)
          have t101 := FI87 0 143 rfl
          have t102 := FI87 19 (Int.toNat a1) rfl
          have L115 : ∀ (n : Nat) (I103 : gr_I) (J104 : gr_J) (v3_105 : Int), (25 - v3_105).toNat < n → gr_Inv I103 → gr_fr [126, 127, 128, 157, 158, 160, 161, 166, 167, 168, 169, 170] [51, 76, 77, 78, 79, 87, 88, 89, 90, 91, 92, 93, 94, 95, 96, 97, 98, 99, 100, 101, 103, 104] I I103 → gr_fj [126, 127, 128, 157, 158, 160, 161, 166, 167, 168, 169, 170] [51, 76, 77, 78, 79, 87, 88, 89, 90, 91, 92, 93, 94, 95, 96, 97, 98, 99, 100, 101, 103, 104] J J104 → ((0 ≤ a1 ∧ a1 ≤ 7) ∧ (1 ≤ v2_89 ∧ v2_89 ≤ 24) ∧ (0 ≤ v3_105 ∧ v3_105 ≤ 24) ∧ (I103 0 160 = 0 → I103 0 161 ≤ 400000) ∧ (1 ≤ v2_89)) → (gr_FO a1 ((v2_89 * 25 + v3_105) * 32 - 1) I103) → gv_X (gr_E ws0 tb 10 (yX13_chart, cX13_chart, 7, (some .boolean)) kX13_chart) (gv_Q cX13_chart (some .boolean) (gr_sh ++ ext) (fun r h' => (∃ (I' : gr_I) (J' : gr_J), h' = gr_h I' J' ∧ gr_Inv I' ∧ gr_fr [126, 127, 128, 157, 158, 160, 161, 166, 167, 168, 169, 170] [51, 76, 77, 78, 79, 87, 88, 89, 90, 91, 92, 93, 94, 95, 96, 97, 98, 99, 100, 101, 103, 104] I I' ∧ gr_fj [126, 127, 128, 157, 158, 160, 161, 166, 167, 168, 169, 170] [51, 76, 77, 78, 79, 87, 88, 89, 90, 91, 92, 93, 94, 95, 96, 97, 98, 99, 100, 101, 103, 104] J J' ∧ (∃ z : Int, r = some (.inl z) ∧ 0 ≤ z ∧ z ≤ 1 ∧ (gr_o (z = 0) (gr_CH a1 I')))))) (115, [(0, .inr (.inr (some 0))), (1, .inl a1), (2, .inl v2_89), (3, .inl v3_105)], [], gr_sh ++ ext, gr_h I103 J104) := by
            intro n
            induction n with
            | zero => intro I103 J104 v3_105 hn; omega
            | succ n ih115 =>
              intro I103 J104 v3_105 hn hI103 FI103 FJ104 m_105 e0_105
              clear ha1_89 hv2_89 e1_89 e2_89 f90 f91 f92 f93 f94 f95 f96 f97 f98 f99 t100 t101 t102
              obtain ⟨ha1_105, hv2_89_105, hv3_105, e1_105, e2_105⟩ := m_105
              have f106 := (show 0 ≤ I103 0 157 ∧ I103 0 157 ≤ 3000 from (hI103 0 157).1)
              have f107 := (show 0 ≤ I103 0 143 ∧ I103 0 143 ≤ 24 from (hI103 0 143).1)
              have f108 := (show 0 ≤ I103 0 158 ∧ I103 0 158 ≤ 9000 from (hI103 0 158).1)
              have f109 := (show 0 ≤ I103 0 161 ∧ I103 0 161 ≤ 400001 from (hI103 0 161).1)
              have f110 := (show 0 ≤ I103 0 160 ∧ I103 0 160 ≤ 1 from (hI103 0 160).1)
              have f111 := (show 0 ≤ I103 0 167 ∧ I103 0 167 ≤ 3071 from (hI103 0 167).1)
              have f112 := (show 0 ≤ I103 0 168 ∧ I103 0 168 ≤ 24 from (hI103 0 168).1)
              have f113 := (show 0 ≤ I103 0 169 ∧ I103 0 169 ≤ 24 from (hI103 0 169).1)
              have f114 := (show 0 ≤ I103 0 170 ∧ I103 0 170 ≤ 384 from (hI103 0 170).1)
              have f115 := (show 0 ≤ I103 0 2 ∧ I103 0 2 ≤ 32 from (hI103 0 2).1)
              have t116 := (show 0 ≤ I 19 (Int.toNat a1) ∧ I 19 (Int.toNat a1) ≤ 384 from (hI 19 _).1)
              have t117 := FI103 0 143 rfl
              have t118 := FI103 19 (Int.toNat a1) rfl
              have L128 : ∀ (n : Nat) (I119 : gr_I) (J120 : gr_J) (v4_121 : Int), (33 - v4_121).toNat < n → gr_Inv I119 → gr_fr [126, 127, 128, 157, 158, 160, 161, 166, 167, 168, 169, 170] [51, 76, 77, 78, 79, 87, 88, 89, 90, 91, 92, 93, 94, 95, 96, 97, 98, 99, 100, 101, 103, 104] I I119 → gr_fj [126, 127, 128, 157, 158, 160, 161, 166, 167, 168, 169, 170] [51, 76, 77, 78, 79, 87, 88, 89, 90, 91, 92, 93, 94, 95, 96, 97, 98, 99, 100, 101, 103, 104] J J120 → ((0 ≤ a1 ∧ a1 ≤ 7) ∧ (1 ≤ v2_89 ∧ v2_89 ≤ 24) ∧ (0 ≤ v3_105 ∧ v3_105 ≤ 23) ∧ (0 ≤ v4_121 ∧ v4_121 ≤ 32) ∧ (I119 0 160 = 0 → I119 0 161 ≤ 400000) ∧ (1 ≤ v2_89) ∧ (v3_105 + v2_89 ≤ I 0 143)) → (gr_FO a1 ((v2_89 * 25 + v3_105) * 32 + v4_121 - 1) I119) → gv_X (gr_E ws0 tb 10 (yX13_chart, cX13_chart, 7, (some .boolean)) kX13_chart) (gv_Q cX13_chart (some .boolean) (gr_sh ++ ext) (fun r h' => (∃ (I' : gr_I) (J' : gr_J), h' = gr_h I' J' ∧ gr_Inv I' ∧ gr_fr [126, 127, 128, 157, 158, 160, 161, 166, 167, 168, 169, 170] [51, 76, 77, 78, 79, 87, 88, 89, 90, 91, 92, 93, 94, 95, 96, 97, 98, 99, 100, 101, 103, 104] I I' ∧ gr_fj [126, 127, 128, 157, 158, 160, 161, 166, 167, 168, 169, 170] [51, 76, 77, 78, 79, 87, 88, 89, 90, 91, 92, 93, 94, 95, 96, 97, 98, 99, 100, 101, 103, 104] J J' ∧ (∃ z : Int, r = some (.inl z) ∧ 0 ≤ z ∧ z ≤ 1 ∧ (gr_o (z = 0) (gr_CH a1 I')))))) (128, [(0, .inr (.inr (some 0))), (1, .inl a1), (2, .inl v2_89), (3, .inl v3_105), (4, .inl v4_121)], [], gr_sh ++ ext, gr_h I119 J120) := by
                intro n
                induction n with
                | zero => intro I119 J120 v4_121 hn; omega
                | succ n ih128 =>
                  intro I119 J120 v4_121 hn hI119 FI119 FJ120 m_121 e0_121
                  clear ha1_105 hv2_89_105 hv3_105 e1_105 e2_105 f106 f107 f108 f109 f110 f111 f112 f113 f114 f115 t116 t117 t118
                  obtain ⟨ha1_121, hv2_89_121, hv3_105_121, hv4_121, e1_121, e2_121, e3_121⟩ := m_121
                  have f122 := (show 0 ≤ I119 0 157 ∧ I119 0 157 ≤ 3000 from (hI119 0 157).1)
                  have f123 := (show 0 ≤ I119 0 143 ∧ I119 0 143 ≤ 24 from (hI119 0 143).1)
                  have f124 := (show 0 ≤ I119 0 158 ∧ I119 0 158 ≤ 9000 from (hI119 0 158).1)
                  have f125 := (show 0 ≤ I119 0 161 ∧ I119 0 161 ≤ 400001 from (hI119 0 161).1)
                  have f126 := (show 0 ≤ I119 0 160 ∧ I119 0 160 ≤ 1 from (hI119 0 160).1)
                  have f127 := (show 0 ≤ I119 0 167 ∧ I119 0 167 ≤ 3071 from (hI119 0 167).1)
                  have f128 := (show 0 ≤ I119 0 168 ∧ I119 0 168 ≤ 24 from (hI119 0 168).1)
                  have f129 := (show 0 ≤ I119 0 169 ∧ I119 0 169 ≤ 24 from (hI119 0 169).1)
                  have f130 := (show 0 ≤ I119 0 170 ∧ I119 0 170 ≤ 384 from (hI119 0 170).1)
                  have f131 := (show 0 ≤ I119 0 2 ∧ I119 0 2 ≤ 32 from (hI119 0 2).1)
                  have t132 := (show 0 ≤ I 19 (Int.toNat a1) ∧ I 19 (Int.toNat a1) ≤ 384 from (hI 19 _).1)
                  have t133 := FI119 0 143 rfl
                  have t134 := FI119 19 (Int.toNat a1) rfl
                  have L157 : ∀ (I135 : gr_I) (J136 : gr_J) , gr_Inv I135 → gr_fr [126, 127, 128, 157, 158, 160, 161, 166, 167, 168, 169, 170] [51, 76, 77, 78, 79, 87, 88, 89, 90, 91, 92, 93, 94, 95, 96, 97, 98, 99, 100, 101, 103, 104] I I135 → gr_fj [126, 127, 128, 157, 158, 160, 161, 166, 167, 168, 169, 170] [51, 76, 77, 78, 79, 87, 88, 89, 90, 91, 92, 93, 94, 95, 96, 97, 98, 99, 100, 101, 103, 104] J J136 → ((0 ≤ a1 ∧ a1 ≤ 7) ∧ (1 ≤ v2_89 ∧ v2_89 ≤ 24) ∧ (0 ≤ v3_105 ∧ v3_105 ≤ 23) ∧ (0 ≤ v4_121 ∧ v4_121 ≤ 31) ∧ (I135 0 160 = 0 → I135 0 161 ≤ 400000) ∧ (1 ≤ v2_89) ∧ (v3_105 + v2_89 ≤ I 0 143)) → (gr_FO a1 ((v2_89 * 25 + v3_105) * 32 + v4_121) I135) → gv_X (gr_E ws0 tb 10 (yX13_chart, cX13_chart, 7, (some .boolean)) kX13_chart) (gv_Q cX13_chart (some .boolean) (gr_sh ++ ext) (fun r h' => (∃ (I' : gr_I) (J' : gr_J), h' = gr_h I' J' ∧ gr_Inv I' ∧ gr_fr [126, 127, 128, 157, 158, 160, 161, 166, 167, 168, 169, 170] [51, 76, 77, 78, 79, 87, 88, 89, 90, 91, 92, 93, 94, 95, 96, 97, 98, 99, 100, 101, 103, 104] I I' ∧ gr_fj [126, 127, 128, 157, 158, 160, 161, 166, 167, 168, 169, 170] [51, 76, 77, 78, 79, 87, 88, 89, 90, 91, 92, 93, 94, 95, 96, 97, 98, 99, 100, 101, 103, 104] J J' ∧ (∃ z : Int, r = some (.inl z) ∧ 0 ≤ z ∧ z ≤ 1 ∧ (gr_o (z = 0) (gr_CH a1 I')))))) (157, [(0, .inr (.inr (some 0))), (1, .inl a1), (2, .inl v2_89), (3, .inl v3_105), (4, .inl v4_121)], [], gr_sh ++ ext, gr_h I135 J136) := by
                    intro I135 J136 hI135 FI135 FJ136 m_137 e0_137
                    clear ha1_121 hv2_89_121 hv3_105_121 hv4_121 e1_121 e2_121 e3_121 f122 f123 f124 f125 f126 f127 f128 f129 f130 f131 t132 t133 t134
                    obtain ⟨ha1_137, hv2_89_137, hv3_105_137, hv4_121_137, e1_137, e2_137, e3_137⟩ := m_137
                    have f138 := (show 0 ≤ I135 0 157 ∧ I135 0 157 ≤ 3000 from (hI135 0 157).1)
                    have f139 := (show 0 ≤ I135 0 143 ∧ I135 0 143 ≤ 24 from (hI135 0 143).1)
                    have f140 := (show 0 ≤ I135 0 158 ∧ I135 0 158 ≤ 9000 from (hI135 0 158).1)
                    have f141 := (show 0 ≤ I135 0 161 ∧ I135 0 161 ≤ 400001 from (hI135 0 161).1)
                    have f142 := (show 0 ≤ I135 0 160 ∧ I135 0 160 ≤ 1 from (hI135 0 160).1)
                    have f143 := (show 0 ≤ I135 0 167 ∧ I135 0 167 ≤ 3071 from (hI135 0 167).1)
                    have f144 := (show 0 ≤ I135 0 168 ∧ I135 0 168 ≤ 24 from (hI135 0 168).1)
                    have f145 := (show 0 ≤ I135 0 169 ∧ I135 0 169 ≤ 24 from (hI135 0 169).1)
                    have f146 := (show 0 ≤ I135 0 170 ∧ I135 0 170 ≤ 384 from (hI135 0 170).1)
                    have f147 := (show 0 ≤ I135 0 2 ∧ I135 0 2 ≤ 32 from (hI135 0 2).1)
                    have t148 := (show 0 ≤ I 19 (Int.toNat a1) ∧ I 19 (Int.toNat a1) ≤ 384 from (hI 19 _).1)
                    have t149 := FI135 0 143 rfl
                    have t150 := FI135 19 (Int.toNat a1) rfl
                    have L164 : ∀ (n : Nat) (I151 : gr_I) (J152 : gr_J) (v5_153 : Int), (3073 - v5_153).toNat < n → gr_Inv I151 → gr_fr [126, 127, 128, 157, 158, 160, 161, 166, 167, 168, 169, 170] [51, 76, 77, 78, 79, 87, 88, 89, 90, 91, 92, 93, 94, 95, 96, 97, 98, 99, 100, 101, 103, 104] I I151 → gr_fj [126, 127, 128, 157, 158, 160, 161, 166, 167, 168, 169, 170] [51, 76, 77, 78, 79, 87, 88, 89, 90, 91, 92, 93, 94, 95, 96, 97, 98, 99, 100, 101, 103, 104] J J152 → ((0 ≤ a1 ∧ a1 ≤ 7) ∧ (1 ≤ v2_89 ∧ v2_89 ≤ 24) ∧ (0 ≤ v3_105 ∧ v3_105 ≤ 23) ∧ (0 ≤ v4_121 ∧ v4_121 ≤ 31) ∧ (0 ≤ v5_153 ∧ v5_153 ≤ 3072) ∧ (I151 0 160 = 0 → I151 0 161 ≤ 400000) ∧ (1 ≤ v2_89) ∧ (v3_105 + v2_89 ≤ I 0 143) ∧ (384 * a1 ≤ v5_153)) → (gr_FO a1 ((v2_89 * 25 + v3_105) * 32 + v4_121) I151) → gv_X (gr_E ws0 tb 10 (yX13_chart, cX13_chart, 7, (some .boolean)) kX13_chart) (gv_Q cX13_chart (some .boolean) (gr_sh ++ ext) (fun r h' => (∃ (I' : gr_I) (J' : gr_J), h' = gr_h I' J' ∧ gr_Inv I' ∧ gr_fr [126, 127, 128, 157, 158, 160, 161, 166, 167, 168, 169, 170] [51, 76, 77, 78, 79, 87, 88, 89, 90, 91, 92, 93, 94, 95, 96, 97, 98, 99, 100, 101, 103, 104] I I' ∧ gr_fj [126, 127, 128, 157, 158, 160, 161, 166, 167, 168, 169, 170] [51, 76, 77, 78, 79, 87, 88, 89, 90, 91, 92, 93, 94, 95, 96, 97, 98, 99, 100, 101, 103, 104] J J' ∧ (∃ z : Int, r = some (.inl z) ∧ 0 ≤ z ∧ z ≤ 1 ∧ (gr_o (z = 0) (gr_CH a1 I')))))) (164, [(0, .inr (.inr (some 0))), (1, .inl a1), (2, .inl v2_89), (3, .inl v3_105), (4, .inl v4_121), (5, .inl v5_153)], [], gr_sh ++ ext, gr_h I151 J152) := by
                      intro n
                      induction n with
                      | zero => intro I151 J152 v5_153 hn; omega
                      | succ n ih164 =>
                        intro I151 J152 v5_153 hn hI151 FI151 FJ152 m_153 e0_153
                        clear ha1_137 hv2_89_137 hv3_105_137 hv4_121_137 e1_137 e2_137 e3_137 f138 f139 f140 f141 f142 f143 f144 f145 f146 f147 t148 t149 t150
                        obtain ⟨ha1_153, hv2_89_153, hv3_105_153, hv4_121_153, hv5_153, e1_153, e2_153, e3_153, e4_153⟩ := m_153
                        have f154 := (show 0 ≤ I151 0 157 ∧ I151 0 157 ≤ 3000 from (hI151 0 157).1)
                        have f155 := (show 0 ≤ I151 0 143 ∧ I151 0 143 ≤ 24 from (hI151 0 143).1)
                        have f156 := (show 0 ≤ I151 0 158 ∧ I151 0 158 ≤ 9000 from (hI151 0 158).1)
                        have f157 := (show 0 ≤ I151 0 161 ∧ I151 0 161 ≤ 400001 from (hI151 0 161).1)
                        have f158 := (show 0 ≤ I151 0 160 ∧ I151 0 160 ≤ 1 from (hI151 0 160).1)
                        have f159 := (show 0 ≤ I151 0 167 ∧ I151 0 167 ≤ 3071 from (hI151 0 167).1)
                        have f160 := (show 0 ≤ I151 0 168 ∧ I151 0 168 ≤ 24 from (hI151 0 168).1)
                        have f161 := (show 0 ≤ I151 0 169 ∧ I151 0 169 ≤ 24 from (hI151 0 169).1)
                        have f162 := (show 0 ≤ I151 0 170 ∧ I151 0 170 ≤ 384 from (hI151 0 170).1)
                        have f163 := (show 0 ≤ I151 0 2 ∧ I151 0 2 ≤ 32 from (hI151 0 2).1)
                        have t164 := (show 0 ≤ I 19 (Int.toNat a1) ∧ I 19 (Int.toNat a1) ≤ 384 from (hI 19 _).1)
                        have t165 := FI151 0 143 rfl
                        have t166 := FI151 19 (Int.toNat a1) rfl
                        have L295 : ∀ (I167 : gr_I) (J168 : gr_J) , gr_Inv I167 → gr_fr [126, 127, 128, 157, 158, 160, 161, 166, 167, 168, 169, 170] [51, 76, 77, 78, 79, 87, 88, 89, 90, 91, 92, 93, 94, 95, 96, 97, 98, 99, 100, 101, 103, 104] I I167 → gr_fj [126, 127, 128, 157, 158, 160, 161, 166, 167, 168, 169, 170] [51, 76, 77, 78, 79, 87, 88, 89, 90, 91, 92, 93, 94, 95, 96, 97, 98, 99, 100, 101, 103, 104] J J168 → ((0 ≤ a1 ∧ a1 ≤ 7) ∧ (1 ≤ v2_89 ∧ v2_89 ≤ 24) ∧ (0 ≤ v3_105 ∧ v3_105 ≤ 23) ∧ (0 ≤ v4_121 ∧ v4_121 ≤ 31) ∧ (0 ≤ v5_153 ∧ v5_153 ≤ 3071) ∧ (I167 0 160 = 0 → I167 0 161 ≤ 400000) ∧ (1 ≤ v2_89) ∧ (v3_105 + v2_89 ≤ I 0 143) ∧ (384 * a1 ≤ v5_153)) → (gr_FO a1 ((v2_89 * 25 + v3_105) * 32 + v4_121) I167) → gv_X (gr_E ws0 tb 10 (yX13_chart, cX13_chart, 7, (some .boolean)) kX13_chart) (gv_Q cX13_chart (some .boolean) (gr_sh ++ ext) (fun r h' => (∃ (I' : gr_I) (J' : gr_J), h' = gr_h I' J' ∧ gr_Inv I' ∧ gr_fr [126, 127, 128, 157, 158, 160, 161, 166, 167, 168, 169, 170] [51, 76, 77, 78, 79, 87, 88, 89, 90, 91, 92, 93, 94, 95, 96, 97, 98, 99, 100, 101, 103, 104] I I' ∧ gr_fj [126, 127, 128, 157, 158, 160, 161, 166, 167, 168, 169, 170] [51, 76, 77, 78, 79, 87, 88, 89, 90, 91, 92, 93, 94, 95, 96, 97, 98, 99, 100, 101, 103, 104] J J' ∧ (∃ z : Int, r = some (.inl z) ∧ 0 ≤ z ∧ z ≤ 1 ∧ (gr_o (z = 0) (gr_CH a1 I')))))) (295, [(0, .inr (.inr (some 0))), (1, .inl a1), (2, .inl v2_89), (3, .inl v3_105), (4, .inl v4_121), (5, .inl v5_153)], [], gr_sh ++ ext, gr_h I167 J168) := by
                          intro I167 J168 hI167 FI167 FJ168 m_169 e0_169
                          clear ha1_153 hv2_89_153 hv3_105_153 hv4_121_153 hv5_153 e1_153 e2_153 e3_153 e4_153 f154 f155 f156 f157 f158 f159 f160 f161 f162 f163 t164 t165 t166
                          obtain ⟨ha1_169, hv2_89_169, hv3_105_169, hv4_121_169, hv5_153_169, e1_169, e2_169, e3_169, e4_169⟩ := m_169
                          have f170 := (show 0 ≤ I167 0 157 ∧ I167 0 157 ≤ 3000 from (hI167 0 157).1)
                          have f171 := (show 0 ≤ I167 0 143 ∧ I167 0 143 ≤ 24 from (hI167 0 143).1)
                          have f172 := (show 0 ≤ I167 0 158 ∧ I167 0 158 ≤ 9000 from (hI167 0 158).1)
                          have f173 := (show 0 ≤ I167 0 161 ∧ I167 0 161 ≤ 400001 from (hI167 0 161).1)
                          have f174 := (show 0 ≤ I167 0 160 ∧ I167 0 160 ≤ 1 from (hI167 0 160).1)
                          have f175 := (show 0 ≤ I167 0 167 ∧ I167 0 167 ≤ 3071 from (hI167 0 167).1)
                          have f176 := (show 0 ≤ I167 0 168 ∧ I167 0 168 ≤ 24 from (hI167 0 168).1)
                          have f177 := (show 0 ≤ I167 0 169 ∧ I167 0 169 ≤ 24 from (hI167 0 169).1)
                          have f178 := (show 0 ≤ I167 0 170 ∧ I167 0 170 ≤ 384 from (hI167 0 170).1)
                          have f179 := (show 0 ≤ I167 0 2 ∧ I167 0 2 ≤ 32 from (hI167 0 2).1)
                          have t180 := (show 0 ≤ I 19 (Int.toNat a1) ∧ I 19 (Int.toNat a1) ≤ 384 from (hI 19 _).1)
                          have t181 := FI167 0 143 rfl
                          have t182 := FI167 19 (Int.toNat a1) rfl
                          refine gv_run 2 true hD (pc' := 164) (lv' := [(5, .inl (v5_153 + 1)), (0, .inr (.inr (some 0))), (1, .inl a1), (2, .inl v2_89), (3, .inl v3_105), (4, .inl v4_121)]) (st' := []) (h' := gr_h I167 J168) (C := ((True ∧ True) ∧ True)) rfl ⟨⟨trivial, trivial⟩, trivial⟩ ?_
                          refine gv_pick [1, 2, 3, 4, 5, 0] rfl ?_
                          exact ih164 I167 J168 (v5_153 + 1) (by omega) hI167 FI167 FJ168 (by omega) (gr_FO_w e0_169 (by omega))
                        have L249 : ∀ (n : Nat) (I183 : gr_I) (J184 : gr_J) (v6_185 : Int), (3072 - v6_185).toNat < n → gr_Inv I183 → gr_fr [126, 127, 128, 157, 158, 160, 161, 166, 167, 168, 169, 170] [51, 76, 77, 78, 79, 87, 88, 89, 90, 91, 92, 93, 94, 95, 96, 97, 98, 99, 100, 101, 103, 104] I I183 → gr_fj [126, 127, 128, 157, 158, 160, 161, 166, 167, 168, 169, 170] [51, 76, 77, 78, 79, 87, 88, 89, 90, 91, 92, 93, 94, 95, 96, 97, 98, 99, 100, 101, 103, 104] J J184 → ((0 ≤ a1 ∧ a1 ≤ 7) ∧ (1 ≤ v2_89 ∧ v2_89 ≤ 24) ∧ (0 ≤ v3_105 ∧ v3_105 ≤ 23) ∧ (0 ≤ v4_121 ∧ v4_121 ≤ 31) ∧ (0 ≤ v5_153 ∧ v5_153 ≤ 3071) ∧ (0 ≤ v6_185 ∧ v6_185 ≤ 3071) ∧ (I183 0 161 ≤ 400000) ∧ (1 ≤ v2_89) ∧ (v3_105 + v2_89 ≤ I 0 143) ∧ (384 * a1 ≤ v5_153) ∧ (v5_153 < 384 * a1 + I 19 (Int.toNat a1)) ∧ (I 8 (Int.toNat (I 41 (Int.toNat v5_153))) = v4_121) ∧ (I183 0 167 = v5_153) ∧ (I183 0 168 = v3_105) ∧ (I183 0 169 = v3_105 + v2_89) ∧ (384 * a1 ≤ v6_185) ∧ (I183 0 170 ≤ v6_185 - 384 * a1)) → (gr_FO a1 ((v2_89 * 25 + v3_105) * 32 + v4_121) I183) → gv_X (gr_E ws0 tb 10 (yX13_chart, cX13_chart, 7, (some .boolean)) kX13_chart) (gv_Q cX13_chart (some .boolean) (gr_sh ++ ext) (fun r h' => (∃ (I' : gr_I) (J' : gr_J), h' = gr_h I' J' ∧ gr_Inv I' ∧ gr_fr [126, 127, 128, 157, 158, 160, 161, 166, 167, 168, 169, 170] [51, 76, 77, 78, 79, 87, 88, 89, 90, 91, 92, 93, 94, 95, 96, 97, 98, 99, 100, 101, 103, 104] I I' ∧ gr_fj [126, 127, 128, 157, 158, 160, 161, 166, 167, 168, 169, 170] [51, 76, 77, 78, 79, 87, 88, 89, 90, 91, 92, 93, 94, 95, 96, 97, 98, 99, 100, 101, 103, 104] J J' ∧ (∃ z : Int, r = some (.inl z) ∧ 0 ≤ z ∧ z ≤ 1 ∧ (gr_o (z = 0) (gr_CH a1 I')))))) (249, [(0, .inr (.inr (some 0))), (1, .inl a1), (2, .inl v2_89), (3, .inl v3_105), (4, .inl v4_121), (5, .inl v5_153), (6, .inl v6_185)], [], gr_sh ++ ext, gr_h I183 J184) := by
                          intro n
                          induction n with
                          | zero => intro I183 J184 v6_185 hn; omega
                          | succ n ih249 =>
                            intro I183 J184 v6_185 hn hI183 FI183 FJ184 m_185 e0_185
                            clear ha1_153 hv2_89_153 hv3_105_153 hv4_121_153 hv5_153 e1_153 e2_153 e3_153 e4_153 f154 f155 f156 f157 f158 f159 f160 f161 f162 f163 t164 t165 t166
                            obtain ⟨ha1_185, hv2_89_185, hv3_105_185, hv4_121_185, hv5_153_185, hv6_185, e1_185, e2_185, e3_185, e4_185, e5_185, e6_185, e7_185, e8_185, e9_185, e10_185, e11_185⟩ := m_185
                            have f186 := (show 0 ≤ I183 0 157 ∧ I183 0 157 ≤ 3000 from (hI183 0 157).1)
                            have f187 := (show 0 ≤ I183 0 143 ∧ I183 0 143 ≤ 24 from (hI183 0 143).1)
                            have f188 := (show 0 ≤ I183 0 158 ∧ I183 0 158 ≤ 9000 from (hI183 0 158).1)
                            have f189 := (show 0 ≤ I183 0 161 ∧ I183 0 161 ≤ 400001 from (hI183 0 161).1)
                            have f190 := (show 0 ≤ I183 0 160 ∧ I183 0 160 ≤ 1 from (hI183 0 160).1)
                            have f191 := (show 0 ≤ I183 0 167 ∧ I183 0 167 ≤ 3071 from (hI183 0 167).1)
                            have f192 := (show 0 ≤ I183 0 168 ∧ I183 0 168 ≤ 24 from (hI183 0 168).1)
                            have f193 := (show 0 ≤ I183 0 169 ∧ I183 0 169 ≤ 24 from (hI183 0 169).1)
                            have f194 := (show 0 ≤ I183 0 170 ∧ I183 0 170 ≤ 384 from (hI183 0 170).1)
                            have f195 := (show 0 ≤ I183 0 2 ∧ I183 0 2 ≤ 32 from (hI183 0 2).1)
                            have t196 := (show 0 ≤ I 19 (Int.toNat a1) ∧ I 19 (Int.toNat a1) ≤ 384 from (hI 19 _).1)
                            have t197 := FI183 0 143 rfl
                            have t198 := FI183 19 (Int.toNat a1) rfl
                            have L283 : ∀ (I199 : gr_I) (J200 : gr_J) , gr_Inv I199 → gr_fr [126, 127, 128, 157, 158, 160, 161, 166, 167, 168, 169, 170] [51, 76, 77, 78, 79, 87, 88, 89, 90, 91, 92, 93, 94, 95, 96, 97, 98, 99, 100, 101, 103, 104] I I199 → gr_fj [126, 127, 128, 157, 158, 160, 161, 166, 167, 168, 169, 170] [51, 76, 77, 78, 79, 87, 88, 89, 90, 91, 92, 93, 94, 95, 96, 97, 98, 99, 100, 101, 103, 104] J J200 → ((0 ≤ a1 ∧ a1 ≤ 7) ∧ (1 ≤ v2_89 ∧ v2_89 ≤ 24) ∧ (0 ≤ v3_105 ∧ v3_105 ≤ 23) ∧ (0 ≤ v4_121 ∧ v4_121 ≤ 31) ∧ (1 ≤ v5_153 ∧ v5_153 ≤ 3071) ∧ (0 ≤ v6_185 ∧ v6_185 ≤ 3070) ∧ (I199 0 161 ≤ 400000) ∧ (1 ≤ v2_89) ∧ (v3_105 + v2_89 ≤ I 0 143) ∧ (384 * a1 ≤ v5_153) ∧ (v5_153 < 384 * a1 + I 19 (Int.toNat a1)) ∧ (I 8 (Int.toNat (I 41 (Int.toNat v5_153))) = v4_121) ∧ (I199 0 167 = v5_153) ∧ (I199 0 168 = v3_105) ∧ (I199 0 169 = v3_105 + v2_89) ∧ (384 * a1 ≤ v6_185) ∧ (I199 0 170 ≤ v6_185 + 1 - 384 * a1) ∧ (v6_185 < v5_153)) → (gr_FO a1 ((v2_89 * 25 + v3_105) * 32 + v4_121) I199) → gv_X (gr_E ws0 tb 10 (yX13_chart, cX13_chart, 7, (some .boolean)) kX13_chart) (gv_Q cX13_chart (some .boolean) (gr_sh ++ ext) (fun r h' => (∃ (I' : gr_I) (J' : gr_J), h' = gr_h I' J' ∧ gr_Inv I' ∧ gr_fr [126, 127, 128, 157, 158, 160, 161, 166, 167, 168, 169, 170] [51, 76, 77, 78, 79, 87, 88, 89, 90, 91, 92, 93, 94, 95, 96, 97, 98, 99, 100, 101, 103, 104] I I' ∧ gr_fj [126, 127, 128, 157, 158, 160, 161, 166, 167, 168, 169, 170] [51, 76, 77, 78, 79, 87, 88, 89, 90, 91, 92, 93, 94, 95, 96, 97, 98, 99, 100, 101, 103, 104] J J' ∧ (∃ z : Int, r = some (.inl z) ∧ 0 ≤ z ∧ z ≤ 1 ∧ (gr_o (z = 0) (gr_CH a1 I')))))) (283, [(0, .inr (.inr (some 0))), (1, .inl a1), (2, .inl v2_89), (3, .inl v3_105), (4, .inl v4_121), (5, .inl v5_153), (6, .inl v6_185)], [], gr_sh ++ ext, gr_h I199 J200) := by
                              intro I199 J200 hI199 FI199 FJ200 m_201 e0_201
                              clear ha1_185 hv2_89_185 hv3_105_185 hv4_121_185 hv5_153_185 hv6_185 e1_185 e2_185 e3_185 e4_185 e5_185 e6_185 e7_185 e8_185 e9_185 e10_185 e11_185 f186 f187 f188 f189 f190 f191 f192 f193 f194 f195 t196 t197 t198
                              obtain ⟨ha1_201, hv2_89_201, hv3_105_201, hv4_121_201, hv5_153_201, hv6_185_201, e1_201, e2_201, e3_201, e4_201, e5_201, e6_201, e7_201, e8_201, e9_201, e10_201, e11_201, e12_201⟩ := m_201
                              have f202 := (show 0 ≤ I199 0 157 ∧ I199 0 157 ≤ 3000 from (hI199 0 157).1)
                              have f203 := (show 0 ≤ I199 0 143 ∧ I199 0 143 ≤ 24 from (hI199 0 143).1)
                              have f204 := (show 0 ≤ I199 0 158 ∧ I199 0 158 ≤ 9000 from (hI199 0 158).1)
                              have f205 := (show 0 ≤ I199 0 161 ∧ I199 0 161 ≤ 400001 from (hI199 0 161).1)
                              have f206 := (show 0 ≤ I199 0 160 ∧ I199 0 160 ≤ 1 from (hI199 0 160).1)
                              have f207 := (show 0 ≤ I199 0 167 ∧ I199 0 167 ≤ 3071 from (hI199 0 167).1)
                              have f208 := (show 0 ≤ I199 0 168 ∧ I199 0 168 ≤ 24 from (hI199 0 168).1)
                              have f209 := (show 0 ≤ I199 0 169 ∧ I199 0 169 ≤ 24 from (hI199 0 169).1)
                              have f210 := (show 0 ≤ I199 0 170 ∧ I199 0 170 ≤ 384 from (hI199 0 170).1)
                              have f211 := (show 0 ≤ I199 0 2 ∧ I199 0 2 ≤ 32 from (hI199 0 2).1)
                              have t212 := (show 0 ≤ I 19 (Int.toNat a1) ∧ I 19 (Int.toNat a1) ≤ 384 from (hI 19 _).1)
                              have t213 := FI199 0 143 rfl
                              have t214 := FI199 19 (Int.toNat a1) rfl
                              refine gv_run 2 true hD (pc' := 249) (lv' := [(6, .inl (v6_185 + 1)), (0, .inr (.inr (some 0))), (1, .inl a1), (2, .inl v2_89), (3, .inl v3_105), (4, .inl v4_121), (5, .inl v5_153)]) (st' := []) (h' := gr_h I199 J200) (C := ((True ∧ True) ∧ True)) rfl ⟨⟨trivial, trivial⟩, trivial⟩ ?_
                              refine gv_pick [1, 2, 3, 4, 5, 6, 0] rfl ?_
                              exact ih249 I199 J200 (v6_185 + 1) (by omega) hI199 FI199 FJ200 (by omega) (gr_FO_w e0_201 (by omega))
                            refine gv_run 2 true hD (pc' := 253) (lv' := [(0, .inr (.inr (some 0))), (1, .inl a1), (2, .inl v2_89), (3, .inl v3_105), (4, .inl v4_121), (5, .inl v5_153), (6, .inl v6_185)]) (st' := [.inl v5_153, .inl v6_185]) (h' := gr_h I183 J184) (C := ((True ∧ True) ∧ True)) rfl ⟨⟨trivial, trivial⟩, trivial⟩ ?_
                            refine gv_icmp_ge (t := 289) hD rfl rfl ⟨⟨by omega, by omega⟩, ⟨by omega, by omega⟩⟩ (fun c215 => ?_) (fun c215 => ?_)
                            · refine gv_run 3 true hD (pc' := 292) (lv' := [(0, .inr (.inr (some 0))), (1, .inl a1), (2, .inl v2_89), (3, .inl v3_105), (4, .inl v4_121), (5, .inl v5_153), (6, .inl v6_185)]) (st' := [.inl v3_105, .inl 0, .inr (.inr (some 0))]) (h' := gr_h I183 J184) (C := (((True ∧ True) ∧ True) ∧ True)) rfl ⟨⟨⟨trivial, trivial⟩, trivial⟩, trivial⟩ ?_
                              obtain ⟨r216, h216, E216, P216⟩ := r_match (ws0 := ws0) (tb := tb) hws htb ext a1 ((v2_89 * 25 + v3_105) * 32 + v4_121) 7 I183 J184 hI183 0 v3_105 ⟨by omega, by omega⟩ ⟨by omega, by omega⟩ (gr_GR_F x0 FI183) e0_185 ⟨by omega, fun k hk => absurd hk (by omega)⟩ (by have u1 : I183 0 167 = v5_153 := (by omega); rw [u1, FI183 41 _ rfl, FI183 8 _ rfl]; omega) (by omega) (by omega) (by omega) (by omega) (by omega) (show 0 ≤ I183 42 (Int.toNat (I183 0 167)) ∧ I183 42 (Int.toNat (I183 0 167)) ≤ 6 from (hI183 42 _).1).1 (by omega) (by omega) (by omega)
                              obtain ⟨I217, J218, rfl, hI217, g216, k216, ⟨rfl, q216⟩⟩ := P216
                              have FI217 := gr_frt FI183 g216 rfl rfl
                              have FJ218 := gr_fjt FJ184 k216 rfl rfl
                              have t219 := g216 0 143 rfl
                              have t220 := g216 0 167 rfl
                              have t221 := g216 0 168 rfl
                              have t222 := g216 0 169 rfl
                              have t223 := g216 0 170 rfl
                              have t224 := g216 0 2 rfl
                              have f225 := (show 0 ≤ I217 0 157 ∧ I217 0 157 ≤ 3000 from (hI217 0 157).1)
                              have f226 := (show 0 ≤ I217 0 143 ∧ I217 0 143 ≤ 24 from (hI217 0 143).1)
                              have f227 := (show 0 ≤ I217 0 158 ∧ I217 0 158 ≤ 9000 from (hI217 0 158).1)
                              have f228 := (show 0 ≤ I217 0 161 ∧ I217 0 161 ≤ 400001 from (hI217 0 161).1)
                              have f229 := (show 0 ≤ I217 0 160 ∧ I217 0 160 ≤ 1 from (hI217 0 160).1)
                              have f230 := (show 0 ≤ I217 0 167 ∧ I217 0 167 ≤ 3071 from (hI217 0 167).1)
                              have f231 := (show 0 ≤ I217 0 168 ∧ I217 0 168 ≤ 24 from (hI217 0 168).1)
                              have f232 := (show 0 ≤ I217 0 169 ∧ I217 0 169 ≤ 24 from (hI217 0 169).1)
                              have f233 := (show 0 ≤ I217 0 170 ∧ I217 0 170 ≤ 384 from (hI217 0 170).1)
                              have f234 := (show 0 ≤ I217 0 2 ∧ I217 0 2 ≤ 32 from (hI217 0 2).1)
                              have t235 := q216.2.1.1
                              refine gv_callV hD rfl (As := [.inl 0, .inl v3_105]) (st := []) rfl (by decide) rfl rfl (gr_lV hws rfl) (Nat.le_of_ble_eq_true rfl) (gz_Ev_mono (d := 10) (by decide) E216) ?_
                              show gv_X _ _ (295, [(0, .inr (.inr (some 0))), (1, .inl a1), (2, .inl v2_89), (3, .inl v3_105), (4, .inl v4_121), (5, .inl v5_153), (6, .inl v6_185)], [], gr_sh ++ ext, gr_h I217 J218)
                              refine gv_pick [0, 1, 2, 3, 4, 5] rfl ?_
                              exact L295 I217 J218 hI217 FI217 FJ218 (by omega) (gr_FO_w q216.1 (by omega))
                            · have f236 := (show 0 ≤ I183 41 (Int.toNat v6_185) ∧ I183 41 (Int.toNat v6_185) ≤ 95 from (hI183 41 (Int.toNat v6_185)).1)
                              refine gv_run 4 true hD (pc' := 263) (lv' := [(0, .inr (.inr (some 0))), (1, .inl a1), (2, .inl v2_89), (3, .inl v3_105), (4, .inl v4_121), (5, .inl v5_153), (6, .inl v6_185)]) (st' := [.inl (I183 41 (Int.toNat v6_185))]) (h' := gr_h I183 J184) (C := ((((True ∧ True) ∧ True) ∧ True) ∧ (0 ≤ v6_185 ∧ v6_185 < ((3072 : Nat) : Int)))) rfl ⟨⟨⟨⟨trivial, trivial⟩, trivial⟩, trivial⟩, ⟨by omega, by omega⟩⟩ ?_
                              have f237 := (show 0 ≤ I183 41 (Int.toNat v5_153) ∧ I183 41 (Int.toNat v5_153) ≤ 95 from (hI183 41 (Int.toNat v5_153)).1)
                              refine gv_run 4 true hD (pc' := 270) (lv' := [(0, .inr (.inr (some 0))), (1, .inl a1), (2, .inl v2_89), (3, .inl v3_105), (4, .inl v4_121), (5, .inl v5_153), (6, .inl v6_185)]) (st' := [.inl (I183 41 (Int.toNat v5_153)), .inl (I183 41 (Int.toNat v6_185))]) (h' := gr_h I183 J184) (C := ((((True ∧ True) ∧ True) ∧ True) ∧ (0 ≤ v5_153 ∧ v5_153 < ((3072 : Nat) : Int)))) rfl ⟨⟨⟨⟨trivial, trivial⟩, trivial⟩, trivial⟩, ⟨by omega, by omega⟩⟩ ?_
                              refine gv_icmp_ne (t := 283) hD rfl rfl ⟨⟨by omega, by omega⟩, ⟨by omega, by omega⟩⟩ (fun c238 => ?_) (fun c238 => ?_)
                              · exact L283 I183 J184 hI183 FI183 FJ184 (by omega) (gr_FO_w e0_185 (by omega))
                              · have f239 := (show 0 ≤ I183 0 170 ∧ I183 0 170 ≤ 384 from (hI183 0 170).1)
                                refine gv_run 5 true hD (pc' := 280) (lv' := [(0, .inr (.inr (some 0))), (1, .inl a1), (2, .inl v2_89), (3, .inl v3_105), (4, .inl v4_121), (5, .inl v5_153), (6, .inl v6_185)]) (st' := [.inl ((I183 0 170) + 1), .inr (.inr (some 0))]) (h' := gr_h I183 J184) (C := (((((True ∧ True) ∧ True) ∧ True) ∧ True) ∧ True)) rfl ⟨⟨⟨⟨⟨trivial, trivial⟩, trivial⟩, trivial⟩, trivial⟩, trivial⟩ ?_
                                refine gv_run 1 true hD (pc' := 283) (lv' := [(0, .inr (.inr (some 0))), (1, .inl a1), (2, .inl v2_89), (3, .inl v3_105), (4, .inl v4_121), (5, .inl v5_153), (6, .inl v6_185)]) (st' := []) (h' := gz_up (gr_h I183 J184) 0 170 (.inl (((I183 0 170) + 1)))) (C := (True ∧ True)) rfl ⟨trivial, trivial⟩ ?_
                                refine gr_st hI183 FI183 rfl rfl ⟨⟨by show 0 ≤ _; omega, by show _ ≤ 384; omega⟩, trivial⟩ (fun I240 hI240 FI240 q241 p241 => ?_)
                                have t242 := p241 0 157 (by decide)
                                have t243 := p241 0 143 (by decide)
                                have t244 := p241 0 158 (by decide)
                                have t245 := p241 0 161 (by decide)
                                have t246 := p241 0 160 (by decide)
                                have t247 := p241 0 167 (by decide)
                                have t248 := p241 0 168 (by decide)
                                have t249 := p241 0 169 (by decide)
                                have t250 := p241 0 2 (by decide)
                                have f251 := (show 0 ≤ I240 0 157 ∧ I240 0 157 ≤ 3000 from (hI240 0 157).1)
                                have f252 := (show 0 ≤ I240 0 143 ∧ I240 0 143 ≤ 24 from (hI240 0 143).1)
                                have f253 := (show 0 ≤ I240 0 158 ∧ I240 0 158 ≤ 9000 from (hI240 0 158).1)
                                have f254 := (show 0 ≤ I240 0 161 ∧ I240 0 161 ≤ 400001 from (hI240 0 161).1)
                                have f255 := (show 0 ≤ I240 0 160 ∧ I240 0 160 ≤ 1 from (hI240 0 160).1)
                                have f256 := (show 0 ≤ I240 0 167 ∧ I240 0 167 ≤ 3071 from (hI240 0 167).1)
                                have f257 := (show 0 ≤ I240 0 168 ∧ I240 0 168 ≤ 24 from (hI240 0 168).1)
                                have f258 := (show 0 ≤ I240 0 169 ∧ I240 0 169 ≤ 24 from (hI240 0 169).1)
                                have f259 := (show 0 ≤ I240 0 170 ∧ I240 0 170 ≤ 384 from (hI240 0 170).1)
                                have f260 := (show 0 ≤ I240 0 2 ∧ I240 0 2 ≤ 32 from (hI240 0 2).1)
                                have t261 := (show 0 ≤ I 19 (Int.toNat a1) ∧ I 19 (Int.toNat a1) ≤ 384 from (hI 19 _).1)
                                have t262 := FI240 0 143 rfl
                                have t263 := FI240 19 (Int.toNat a1) rfl
                                exact L283 I240 J184 hI240 FI240 FJ184 (by omega) (gr_FO_w (gr_FO_fr e0_185 hI183 (fun k => p241 87 k (fun q => absurd q.1 (by decide))) (fun k => p241 88 k (fun q => absurd q.1 (by decide))) (fun k => p241 104 k (fun q => absurd q.1 (by decide))) (fun k => p241 90 k (fun q => absurd q.1 (by decide))) (fun k => p241 93 k (fun q => absurd q.1 (by decide))) (fun k => p241 92 k (fun q => absurd q.1 (by decide))) (fun k => p241 94 k (fun q => absurd q.1 (by decide))) (fun k => p241 95 k (fun q => absurd q.1 (by decide))) (fun k => p241 97 k (fun q => absurd q.1 (by decide))) (fun k => p241 98 k (fun q => absurd q.1 (by decide))) (fun k => p241 19 k (fun q => absurd q.1 (by decide))) (fun k => p241 18 k (fun q => absurd q.1 (by decide))) (fun k => p241 41 k (fun q => absurd q.1 (by decide))) (fun k => p241 6 k (fun q => absurd q.1 (by decide))) (by omega) (by omega) (by omega)) (by omega))
                        have L301 : ((0 ≤ a1 ∧ a1 ≤ 7) ∧ (1 ≤ v2_89 ∧ v2_89 ≤ 24) ∧ (0 ≤ v3_105 ∧ v3_105 ≤ 23) ∧ (0 ≤ v4_121 ∧ v4_121 ≤ 31) ∧ (I151 0 160 = 0 → I151 0 161 ≤ 400000) ∧ (1 ≤ v2_89) ∧ (v3_105 + v2_89 ≤ I 0 143)) → (gr_FO a1 ((v2_89 * 25 + v3_105) * 32 + v4_121) I151) → gv_X (gr_E ws0 tb 10 (yX13_chart, cX13_chart, 7, (some .boolean)) kX13_chart) (gv_Q cX13_chart (some .boolean) (gr_sh ++ ext) (fun r h' => (∃ (I' : gr_I) (J' : gr_J), h' = gr_h I' J' ∧ gr_Inv I' ∧ gr_fr [126, 127, 128, 157, 158, 160, 161, 166, 167, 168, 169, 170] [51, 76, 77, 78, 79, 87, 88, 89, 90, 91, 92, 93, 94, 95, 96, 97, 98, 99, 100, 101, 103, 104] I I' ∧ gr_fj [126, 127, 128, 157, 158, 160, 161, 166, 167, 168, 169, 170] [51, 76, 77, 78, 79, 87, 88, 89, 90, 91, 92, 93, 94, 95, 96, 97, 98, 99, 100, 101, 103, 104] J J' ∧ (∃ z : Int, r = some (.inl z) ∧ 0 ≤ z ∧ z ≤ 1 ∧ (gr_o (z = 0) (gr_CH a1 I')))))) (301, [(0, .inr (.inr (some 0))), (1, .inl a1), (2, .inl v2_89), (3, .inl v3_105), (4, .inl v4_121)], [], gr_sh ++ ext, gr_h I151 J152) := by
                          intro m_264 e0_264
                          obtain ⟨ha1_264, hv2_89_264, hv3_105_264, hv4_121_264, e1_264, e2_264, e3_264⟩ := m_264
                          have f265 := (show 0 ≤ I151 0 157 ∧ I151 0 157 ≤ 3000 from (hI151 0 157).1)
                          have f266 := (show 0 ≤ I151 0 143 ∧ I151 0 143 ≤ 24 from (hI151 0 143).1)
                          have f267 := (show 0 ≤ I151 0 158 ∧ I151 0 158 ≤ 9000 from (hI151 0 158).1)
                          have f268 := (show 0 ≤ I151 0 161 ∧ I151 0 161 ≤ 400001 from (hI151 0 161).1)
                          have f269 := (show 0 ≤ I151 0 160 ∧ I151 0 160 ≤ 1 from (hI151 0 160).1)
                          have f270 := (show 0 ≤ I151 0 167 ∧ I151 0 167 ≤ 3071 from (hI151 0 167).1)
                          have f271 := (show 0 ≤ I151 0 168 ∧ I151 0 168 ≤ 24 from (hI151 0 168).1)
                          have f272 := (show 0 ≤ I151 0 169 ∧ I151 0 169 ≤ 24 from (hI151 0 169).1)
                          have f273 := (show 0 ≤ I151 0 170 ∧ I151 0 170 ≤ 384 from (hI151 0 170).1)
                          have f274 := (show 0 ≤ I151 0 2 ∧ I151 0 2 ≤ 32 from (hI151 0 2).1)
                          have t275 := (show 0 ≤ I 19 (Int.toNat a1) ∧ I 19 (Int.toNat a1) ≤ 384 from (hI 19 _).1)
                          have t276 := FI151 0 143 rfl
                          have t277 := FI151 19 (Int.toNat a1) rfl
                          refine gv_run 2 true hD (pc' := 128) (lv' := [(4, .inl (v4_121 + 1)), (0, .inr (.inr (some 0))), (1, .inl a1), (2, .inl v2_89), (3, .inl v3_105)]) (st' := []) (h' := gr_h I151 J152) (C := ((True ∧ True) ∧ True)) rfl ⟨⟨trivial, trivial⟩, trivial⟩ ?_
                          refine gv_pick [1, 2, 3, 4, 0] rfl ?_
                          exact ih128 I151 J152 (v4_121 + 1) (by omega) hI151 FI151 FJ152 (by omega) (gr_FO_w e0_264 (by omega))
                        refine gv_run 7 true hD (pc' := 176) (lv' := [(0, .inr (.inr (some 0))), (1, .inl a1), (2, .inl v2_89), (3, .inl v3_105), (4, .inl v4_121), (5, .inl v5_153)]) (st' := [.inl a1, .inr (.inr (some 19)), .inl (384 * a1), .inl v5_153]) (h' := gr_h I151 J152) (C := (((((((True ∧ True) ∧ True) ∧ True) ∧ True) ∧ True) ∧ True) ∧ True)) rfl ⟨⟨⟨⟨⟨⟨⟨trivial, trivial⟩, trivial⟩, trivial⟩, trivial⟩, trivial⟩, trivial⟩, trivial⟩ ?_
                        have f278 := (show 0 ≤ I151 19 (Int.toNat a1) ∧ I151 19 (Int.toNat a1) ≤ 384 from (hI151 19 (Int.toNat a1)).1)
                        refine gv_run 1 true hD (pc' := 177) (lv' := [(0, .inr (.inr (some 0))), (1, .inl a1), (2, .inl v2_89), (3, .inl v3_105), (4, .inl v4_121), (5, .inl v5_153)]) (st' := [.inl (I151 19 (Int.toNat a1)), .inl (384 * a1), .inl v5_153]) (h' := gr_h I151 J152) (C := (True ∧ (0 ≤ a1 ∧ a1 < ((8 : Nat) : Int)))) rfl ⟨trivial, ⟨by omega, by omega⟩⟩ ?_
                        refine gv_run 1 true hD (pc' := 178) (lv' := [(0, .inr (.inr (some 0))), (1, .inl a1), (2, .inl v2_89), (3, .inl v3_105), (4, .inl v4_121), (5, .inl v5_153)]) (st' := [.inl ((384 * a1) + (I151 19 (Int.toNat a1))), .inl v5_153]) (h' := gr_h I151 J152) (C := (True ∧ True)) rfl ⟨trivial, trivial⟩ ?_
                        refine gv_icmp_ge (t := 301) hD rfl rfl ⟨⟨by omega, by omega⟩, ⟨by omega, by omega⟩⟩ (fun c279 => ?_) (fun c279 => ?_)
                        · refine gv_pick [0, 1, 2, 3, 4] rfl ?_
                          exact L301 (by omega) (gr_FO_w e0_153 (by omega))
                        · have f280 := (show 0 ≤ I151 0 160 ∧ I151 0 160 ≤ 1 from (hI151 0 160).1)
                          refine gv_run 2 true hD (pc' := 185) (lv' := [(0, .inr (.inr (some 0))), (1, .inl a1), (2, .inl v2_89), (3, .inl v3_105), (4, .inl v4_121), (5, .inl v5_153)]) (st' := [.inl (I151 0 160)]) (h' := gr_h I151 J152) (C := ((True ∧ True) ∧ True)) rfl ⟨⟨trivial, trivial⟩, trivial⟩ ?_
                          refine gv_if_ne (t := 301) hD rfl rfl ⟨by omega, by omega⟩ (fun c281 => ?_) (fun c281 => ?_)
                          · refine gv_pick [0, 1, 2, 3, 4] rfl ?_
                            exact L301 (by omega) (gr_FO_w e0_153 (by omega))
                          · have f282 := (show 0 ≤ I151 41 (Int.toNat v5_153) ∧ I151 41 (Int.toNat v5_153) ≤ 95 from (hI151 41 (Int.toNat v5_153)).1)
                            refine gv_run 6 true hD (pc' := 199) (lv' := [(0, .inr (.inr (some 0))), (1, .inl a1), (2, .inl v2_89), (3, .inl v3_105), (4, .inl v4_121), (5, .inl v5_153)]) (st' := [.inl (I151 41 (Int.toNat v5_153)), .inr (.inr (some 8))]) (h' := gr_h I151 J152) (C := ((((((True ∧ True) ∧ True) ∧ True) ∧ True) ∧ True) ∧ (0 ≤ v5_153 ∧ v5_153 < ((3072 : Nat) : Int)))) rfl ⟨⟨⟨⟨⟨⟨trivial, trivial⟩, trivial⟩, trivial⟩, trivial⟩, trivial⟩, ⟨by omega, by omega⟩⟩ ?_
                            have f283 := (show 0 ≤ I151 8 (Int.toNat ((I151 41 (Int.toNat v5_153)))) ∧ I151 8 (Int.toNat ((I151 41 (Int.toNat v5_153)))) ≤ 31 from (hI151 8 (Int.toNat ((I151 41 (Int.toNat v5_153))))).1)
                            refine gv_run 1 true hD (pc' := 200) (lv' := [(0, .inr (.inr (some 0))), (1, .inl a1), (2, .inl v2_89), (3, .inl v3_105), (4, .inl v4_121), (5, .inl v5_153)]) (st' := [.inl (I151 8 (Int.toNat ((I151 41 (Int.toNat v5_153)))))]) (h' := gr_h I151 J152) (C := (True ∧ (0 ≤ ((I151 41 (Int.toNat v5_153))) ∧ ((I151 41 (Int.toNat v5_153))) < ((96 : Nat) : Int)))) rfl ⟨trivial, ⟨by omega, by omega⟩⟩ ?_
                            refine gv_run 1 true hD (pc' := 202) (lv' := [(0, .inr (.inr (some 0))), (1, .inl a1), (2, .inl v2_89), (3, .inl v3_105), (4, .inl v4_121), (5, .inl v5_153)]) (st' := [.inl v4_121, .inl (I151 8 (Int.toNat ((I151 41 (Int.toNat v5_153)))))]) (h' := gr_h I151 J152) (C := (True ∧ True)) rfl ⟨trivial, trivial⟩ ?_
                            have t284 := (show I151 8 (Int.toNat (I151 41 (Int.toNat v5_153))) = I 8 (Int.toNat (I 41 (Int.toNat v5_153))) from by rw [FI151 41 _ rfl, FI151 8 _ rfl])
                            refine gv_icmp_ne (t := 295) hD rfl rfl ⟨⟨by omega, by omega⟩, ⟨by omega, by omega⟩⟩ (fun c285 => ?_) (fun c285 => ?_)
                            · exact L295 I151 J152 hI151 FI151 FJ152 (by omega) (gr_FO_w e0_153 (by omega))
                            · have f286 := (show 0 ≤ I151 42 (Int.toNat v5_153) ∧ I151 42 (Int.toNat v5_153) ≤ 6 from (hI151 42 (Int.toNat v5_153)).1)
                              refine gv_run 4 true hD (pc' := 212) (lv' := [(0, .inr (.inr (some 0))), (1, .inl a1), (2, .inl v2_89), (3, .inl v3_105), (4, .inl v4_121), (5, .inl v5_153)]) (st' := [.inl (I151 42 (Int.toNat v5_153))]) (h' := gr_h I151 J152) (C := ((((True ∧ True) ∧ True) ∧ True) ∧ (0 ≤ v5_153 ∧ v5_153 < ((3072 : Nat) : Int)))) rfl ⟨⟨⟨⟨trivial, trivial⟩, trivial⟩, trivial⟩, ⟨by omega, by omega⟩⟩ ?_
                              refine gv_run 1 true hD (pc' := 213) (lv' := [(0, .inr (.inr (some 0))), (1, .inl a1), (2, .inl v2_89), (3, .inl v3_105), (4, .inl v4_121), (5, .inl v5_153)]) (st' := [.inl v2_89, .inl (I151 42 (Int.toNat v5_153))]) (h' := gr_h I151 J152) (C := (True ∧ True)) rfl ⟨trivial, trivial⟩ ?_
                              refine gv_icmp_le (t := 219) hD rfl rfl ⟨⟨by omega, by omega⟩, ⟨by omega, by omega⟩⟩ (fun c287 => ?_) (fun c287 => ?_)
                              · refine gv_run 3 true hD (pc' := 225) (lv' := [(0, .inr (.inr (some 0))), (1, .inl a1), (2, .inl v2_89), (3, .inl v3_105), (4, .inl v4_121), (5, .inl v5_153)]) (st' := []) (h' := gz_up (gr_h I151 J152) 0 167 (.inl v5_153)) (C := (((True ∧ True) ∧ True) ∧ True)) rfl ⟨⟨⟨trivial, trivial⟩, trivial⟩, trivial⟩ ?_
                                refine gr_st hI151 FI151 rfl rfl ⟨⟨by show 0 ≤ _; omega, by show _ ≤ 3071; omega⟩, trivial⟩ (fun I288 hI288 FI288 q289 p289 => ?_)
                                have t290 := p289 0 157 (by decide)
                                have t291 := p289 0 143 (by decide)
                                have t292 := p289 0 158 (by decide)
                                have t293 := p289 0 161 (by decide)
                                have t294 := p289 0 160 (by decide)
                                have t295 := p289 0 168 (by decide)
                                have t296 := p289 0 169 (by decide)
                                have t297 := p289 0 170 (by decide)
                                have t298 := p289 0 2 (by decide)
                                have f299 := (show 0 ≤ I288 0 157 ∧ I288 0 157 ≤ 3000 from (hI288 0 157).1)
                                have f300 := (show 0 ≤ I288 0 143 ∧ I288 0 143 ≤ 24 from (hI288 0 143).1)
                                have f301 := (show 0 ≤ I288 0 158 ∧ I288 0 158 ≤ 9000 from (hI288 0 158).1)
                                have f302 := (show 0 ≤ I288 0 161 ∧ I288 0 161 ≤ 400001 from (hI288 0 161).1)
                                have f303 := (show 0 ≤ I288 0 160 ∧ I288 0 160 ≤ 1 from (hI288 0 160).1)
                                have f304 := (show 0 ≤ I288 0 167 ∧ I288 0 167 ≤ 3071 from (hI288 0 167).1)
                                have f305 := (show 0 ≤ I288 0 168 ∧ I288 0 168 ≤ 24 from (hI288 0 168).1)
                                have f306 := (show 0 ≤ I288 0 169 ∧ I288 0 169 ≤ 24 from (hI288 0 169).1)
                                have f307 := (show 0 ≤ I288 0 170 ∧ I288 0 170 ≤ 384 from (hI288 0 170).1)
                                have f308 := (show 0 ≤ I288 0 2 ∧ I288 0 2 ≤ 32 from (hI288 0 2).1)
                                have t309 := (show 0 ≤ I 19 (Int.toNat a1) ∧ I 19 (Int.toNat a1) ≤ 384 from (hI 19 _).1)
                                have t310 := FI288 0 143 rfl
                                have t311 := FI288 19 (Int.toNat a1) rfl
                                refine gv_run 3 true hD (pc' := 230) (lv' := [(0, .inr (.inr (some 0))), (1, .inl a1), (2, .inl v2_89), (3, .inl v3_105), (4, .inl v4_121), (5, .inl v5_153)]) (st' := []) (h' := gz_up (gr_h I288 J152) 0 168 (.inl v3_105)) (C := (((True ∧ True) ∧ True) ∧ True)) rfl ⟨⟨⟨trivial, trivial⟩, trivial⟩, trivial⟩ ?_
                                refine gr_st hI288 FI288 rfl rfl ⟨⟨by show 0 ≤ _; omega, by show _ ≤ 24; omega⟩, trivial⟩ (fun I312 hI312 FI312 q313 p313 => ?_)
                                have t314 := p313 0 157 (by decide)
                                have t315 := p313 0 143 (by decide)
                                have t316 := p313 0 158 (by decide)
                                have t317 := p313 0 161 (by decide)
                                have t318 := p313 0 160 (by decide)
                                have t319 := p313 0 167 (by decide)
                                have t320 := p313 0 169 (by decide)
                                have t321 := p313 0 170 (by decide)
                                have t322 := p313 0 2 (by decide)
                                have f323 := (show 0 ≤ I312 0 157 ∧ I312 0 157 ≤ 3000 from (hI312 0 157).1)
                                have f324 := (show 0 ≤ I312 0 143 ∧ I312 0 143 ≤ 24 from (hI312 0 143).1)
                                have f325 := (show 0 ≤ I312 0 158 ∧ I312 0 158 ≤ 9000 from (hI312 0 158).1)
                                have f326 := (show 0 ≤ I312 0 161 ∧ I312 0 161 ≤ 400001 from (hI312 0 161).1)
                                have f327 := (show 0 ≤ I312 0 160 ∧ I312 0 160 ≤ 1 from (hI312 0 160).1)
                                have f328 := (show 0 ≤ I312 0 167 ∧ I312 0 167 ≤ 3071 from (hI312 0 167).1)
                                have f329 := (show 0 ≤ I312 0 168 ∧ I312 0 168 ≤ 24 from (hI312 0 168).1)
                                have f330 := (show 0 ≤ I312 0 169 ∧ I312 0 169 ≤ 24 from (hI312 0 169).1)
                                have f331 := (show 0 ≤ I312 0 170 ∧ I312 0 170 ≤ 384 from (hI312 0 170).1)
                                have f332 := (show 0 ≤ I312 0 2 ∧ I312 0 2 ≤ 32 from (hI312 0 2).1)
                                have t333 := (show 0 ≤ I 19 (Int.toNat a1) ∧ I 19 (Int.toNat a1) ≤ 384 from (hI 19 _).1)
                                have t334 := FI312 0 143 rfl
                                have t335 := FI312 19 (Int.toNat a1) rfl
                                refine gv_run 4 true hD (pc' := 234) (lv' := [(0, .inr (.inr (some 0))), (1, .inl a1), (2, .inl v2_89), (3, .inl v3_105), (4, .inl v4_121), (5, .inl v5_153)]) (st' := [.inl (v3_105 + v2_89), .inr (.inr (some 0))]) (h' := gr_h I312 J152) (C := ((((True ∧ True) ∧ True) ∧ True) ∧ True)) rfl ⟨⟨⟨⟨trivial, trivial⟩, trivial⟩, trivial⟩, trivial⟩ ?_
                                refine gv_run 1 true hD (pc' := 237) (lv' := [(0, .inr (.inr (some 0))), (1, .inl a1), (2, .inl v2_89), (3, .inl v3_105), (4, .inl v4_121), (5, .inl v5_153)]) (st' := []) (h' := gz_up (gr_h I312 J152) 0 169 (.inl (v3_105 + v2_89))) (C := (True ∧ True)) rfl ⟨trivial, trivial⟩ ?_
                                refine gr_st hI312 FI312 rfl rfl ⟨⟨by show 0 ≤ _; omega, by show _ ≤ 24; omega⟩, trivial⟩ (fun I336 hI336 FI336 q337 p337 => ?_)
                                have t338 := p337 0 157 (by decide)
                                have t339 := p337 0 143 (by decide)
                                have t340 := p337 0 158 (by decide)
                                have t341 := p337 0 161 (by decide)
                                have t342 := p337 0 160 (by decide)
                                have t343 := p337 0 167 (by decide)
                                have t344 := p337 0 168 (by decide)
                                have t345 := p337 0 170 (by decide)
                                have t346 := p337 0 2 (by decide)
                                have f347 := (show 0 ≤ I336 0 157 ∧ I336 0 157 ≤ 3000 from (hI336 0 157).1)
                                have f348 := (show 0 ≤ I336 0 143 ∧ I336 0 143 ≤ 24 from (hI336 0 143).1)
                                have f349 := (show 0 ≤ I336 0 158 ∧ I336 0 158 ≤ 9000 from (hI336 0 158).1)
                                have f350 := (show 0 ≤ I336 0 161 ∧ I336 0 161 ≤ 400001 from (hI336 0 161).1)
                                have f351 := (show 0 ≤ I336 0 160 ∧ I336 0 160 ≤ 1 from (hI336 0 160).1)
                                have f352 := (show 0 ≤ I336 0 167 ∧ I336 0 167 ≤ 3071 from (hI336 0 167).1)
                                have f353 := (show 0 ≤ I336 0 168 ∧ I336 0 168 ≤ 24 from (hI336 0 168).1)
                                have f354 := (show 0 ≤ I336 0 169 ∧ I336 0 169 ≤ 24 from (hI336 0 169).1)
                                have f355 := (show 0 ≤ I336 0 170 ∧ I336 0 170 ≤ 384 from (hI336 0 170).1)
                                have f356 := (show 0 ≤ I336 0 2 ∧ I336 0 2 ≤ 32 from (hI336 0 2).1)
                                have t357 := (show 0 ≤ I 19 (Int.toNat a1) ∧ I 19 (Int.toNat a1) ≤ 384 from (hI 19 _).1)
                                have t358 := FI336 0 143 rfl
                                have t359 := FI336 19 (Int.toNat a1) rfl
                                refine gv_run 3 true hD (pc' := 242) (lv' := [(0, .inr (.inr (some 0))), (1, .inl a1), (2, .inl v2_89), (3, .inl v3_105), (4, .inl v4_121), (5, .inl v5_153)]) (st' := []) (h' := gz_up (gr_h I336 J152) 0 170 (.inl 0)) (C := (((True ∧ True) ∧ True) ∧ True)) rfl ⟨⟨⟨trivial, trivial⟩, trivial⟩, trivial⟩ ?_
                                refine gr_st hI336 FI336 rfl rfl ⟨⟨by show 0 ≤ _; omega, by show _ ≤ 384; omega⟩, trivial⟩ (fun I360 hI360 FI360 q361 p361 => ?_)
                                have t362 := p361 0 157 (by decide)
                                have t363 := p361 0 143 (by decide)
                                have t364 := p361 0 158 (by decide)
                                have t365 := p361 0 161 (by decide)
                                have t366 := p361 0 160 (by decide)
                                have t367 := p361 0 167 (by decide)
                                have t368 := p361 0 168 (by decide)
                                have t369 := p361 0 169 (by decide)
                                have t370 := p361 0 2 (by decide)
                                have f371 := (show 0 ≤ I360 0 157 ∧ I360 0 157 ≤ 3000 from (hI360 0 157).1)
                                have f372 := (show 0 ≤ I360 0 143 ∧ I360 0 143 ≤ 24 from (hI360 0 143).1)
                                have f373 := (show 0 ≤ I360 0 158 ∧ I360 0 158 ≤ 9000 from (hI360 0 158).1)
                                have f374 := (show 0 ≤ I360 0 161 ∧ I360 0 161 ≤ 400001 from (hI360 0 161).1)
                                have f375 := (show 0 ≤ I360 0 160 ∧ I360 0 160 ≤ 1 from (hI360 0 160).1)
                                have f376 := (show 0 ≤ I360 0 167 ∧ I360 0 167 ≤ 3071 from (hI360 0 167).1)
                                have f377 := (show 0 ≤ I360 0 168 ∧ I360 0 168 ≤ 24 from (hI360 0 168).1)
                                have f378 := (show 0 ≤ I360 0 169 ∧ I360 0 169 ≤ 24 from (hI360 0 169).1)
                                have f379 := (show 0 ≤ I360 0 170 ∧ I360 0 170 ≤ 384 from (hI360 0 170).1)
                                have f380 := (show 0 ≤ I360 0 2 ∧ I360 0 2 ≤ 32 from (hI360 0 2).1)
                                have t381 := (show 0 ≤ I 19 (Int.toNat a1) ∧ I 19 (Int.toNat a1) ≤ 384 from (hI 19 _).1)
                                have t382 := FI360 0 143 rfl
                                have t383 := FI360 19 (Int.toNat a1) rfl
                                refine gv_run 4 true hD (pc' := 249) (lv' := [(6, .inl (384 * a1)), (0, .inr (.inr (some 0))), (1, .inl a1), (2, .inl v2_89), (3, .inl v3_105), (4, .inl v4_121), (5, .inl v5_153)]) (st' := []) (h' := gr_h I360 J152) (C := ((((True ∧ True) ∧ True) ∧ True) ∧ True)) rfl ⟨⟨⟨⟨trivial, trivial⟩, trivial⟩, trivial⟩, trivial⟩ ?_
                                refine gv_pick [1, 2, 3, 4, 5, 6, 0] rfl ?_
                                exact L249 _ I360 J152 (384 * a1) (Nat.lt_succ_self _) hI360 FI360 FJ152 (by omega) (gr_FO_w (gr_FO_fr (gr_FO_fr (gr_FO_fr (gr_FO_fr e0_153 hI151 (fun k => p289 87 k (fun q => absurd q.1 (by decide))) (fun k => p289 88 k (fun q => absurd q.1 (by decide))) (fun k => p289 104 k (fun q => absurd q.1 (by decide))) (fun k => p289 90 k (fun q => absurd q.1 (by decide))) (fun k => p289 93 k (fun q => absurd q.1 (by decide))) (fun k => p289 92 k (fun q => absurd q.1 (by decide))) (fun k => p289 94 k (fun q => absurd q.1 (by decide))) (fun k => p289 95 k (fun q => absurd q.1 (by decide))) (fun k => p289 97 k (fun q => absurd q.1 (by decide))) (fun k => p289 98 k (fun q => absurd q.1 (by decide))) (fun k => p289 19 k (fun q => absurd q.1 (by decide))) (fun k => p289 18 k (fun q => absurd q.1 (by decide))) (fun k => p289 41 k (fun q => absurd q.1 (by decide))) (fun k => p289 6 k (fun q => absurd q.1 (by decide))) (by omega) (by omega) (by omega)) hI288 (fun k => p313 87 k (fun q => absurd q.1 (by decide))) (fun k => p313 88 k (fun q => absurd q.1 (by decide))) (fun k => p313 104 k (fun q => absurd q.1 (by decide))) (fun k => p313 90 k (fun q => absurd q.1 (by decide))) (fun k => p313 93 k (fun q => absurd q.1 (by decide))) (fun k => p313 92 k (fun q => absurd q.1 (by decide))) (fun k => p313 94 k (fun q => absurd q.1 (by decide))) (fun k => p313 95 k (fun q => absurd q.1 (by decide))) (fun k => p313 97 k (fun q => absurd q.1 (by decide))) (fun k => p313 98 k (fun q => absurd q.1 (by decide))) (fun k => p313 19 k (fun q => absurd q.1 (by decide))) (fun k => p313 18 k (fun q => absurd q.1 (by decide))) (fun k => p313 41 k (fun q => absurd q.1 (by decide))) (fun k => p313 6 k (fun q => absurd q.1 (by decide))) (by omega) (by omega) (by omega)) hI312 (fun k => p337 87 k (fun q => absurd q.1 (by decide))) (fun k => p337 88 k (fun q => absurd q.1 (by decide))) (fun k => p337 104 k (fun q => absurd q.1 (by decide))) (fun k => p337 90 k (fun q => absurd q.1 (by decide))) (fun k => p337 93 k (fun q => absurd q.1 (by decide))) (fun k => p337 92 k (fun q => absurd q.1 (by decide))) (fun k => p337 94 k (fun q => absurd q.1 (by decide))) (fun k => p337 95 k (fun q => absurd q.1 (by decide))) (fun k => p337 97 k (fun q => absurd q.1 (by decide))) (fun k => p337 98 k (fun q => absurd q.1 (by decide))) (fun k => p337 19 k (fun q => absurd q.1 (by decide))) (fun k => p337 18 k (fun q => absurd q.1 (by decide))) (fun k => p337 41 k (fun q => absurd q.1 (by decide))) (fun k => p337 6 k (fun q => absurd q.1 (by decide))) (by omega) (by omega) (by omega)) hI336 (fun k => p361 87 k (fun q => absurd q.1 (by decide))) (fun k => p361 88 k (fun q => absurd q.1 (by decide))) (fun k => p361 104 k (fun q => absurd q.1 (by decide))) (fun k => p361 90 k (fun q => absurd q.1 (by decide))) (fun k => p361 93 k (fun q => absurd q.1 (by decide))) (fun k => p361 92 k (fun q => absurd q.1 (by decide))) (fun k => p361 94 k (fun q => absurd q.1 (by decide))) (fun k => p361 95 k (fun q => absurd q.1 (by decide))) (fun k => p361 97 k (fun q => absurd q.1 (by decide))) (fun k => p361 98 k (fun q => absurd q.1 (by decide))) (fun k => p361 19 k (fun q => absurd q.1 (by decide))) (fun k => p361 18 k (fun q => absurd q.1 (by decide))) (fun k => p361 41 k (fun q => absurd q.1 (by decide))) (fun k => p361 6 k (fun q => absurd q.1 (by decide))) (by omega) (by omega) (by omega)) (by omega))
                              · refine gv_run 1 true hD (pc' := 295) (lv' := [(0, .inr (.inr (some 0))), (1, .inl a1), (2, .inl v2_89), (3, .inl v3_105), (4, .inl v4_121), (5, .inl v5_153)]) (st' := []) (h' := gr_h I151 J152) (C := (True ∧ True)) rfl ⟨trivial, trivial⟩ ?_
                                exact L295 I151 J152 hI151 FI151 FJ152 (by omega) (gr_FO_w e0_153 (by omega))
                    refine gv_run 4 true hD (pc' := 164) (lv' := [(5, .inl (384 * a1)), (0, .inr (.inr (some 0))), (1, .inl a1), (2, .inl v2_89), (3, .inl v3_105), (4, .inl v4_121)]) (st' := []) (h' := gr_h I135 J136) (C := ((((True ∧ True) ∧ True) ∧ True) ∧ True)) rfl ⟨⟨⟨⟨trivial, trivial⟩, trivial⟩, trivial⟩, trivial⟩ ?_
                    refine gv_pick [1, 2, 3, 4, 5, 0] rfl ?_
                    exact L164 _ I135 J136 (384 * a1) (Nat.lt_succ_self _) hI135 FI135 FJ136 (by omega) (gr_FO_w e0_137 (by omega))
                  have L307 : ((0 ≤ a1 ∧ a1 ≤ 7) ∧ (1 ≤ v2_89 ∧ v2_89 ≤ 24) ∧ (0 ≤ v3_105 ∧ v3_105 ≤ 23) ∧ (I119 0 160 = 0 → I119 0 161 ≤ 400000) ∧ (1 ≤ v2_89) ∧ (v3_105 + v2_89 ≤ I 0 143)) → (gr_FO a1 ((v2_89 * 25 + v3_105) * 32 + 31) I119) → gv_X (gr_E ws0 tb 10 (yX13_chart, cX13_chart, 7, (some .boolean)) kX13_chart) (gv_Q cX13_chart (some .boolean) (gr_sh ++ ext) (fun r h' => (∃ (I' : gr_I) (J' : gr_J), h' = gr_h I' J' ∧ gr_Inv I' ∧ gr_fr [126, 127, 128, 157, 158, 160, 161, 166, 167, 168, 169, 170] [51, 76, 77, 78, 79, 87, 88, 89, 90, 91, 92, 93, 94, 95, 96, 97, 98, 99, 100, 101, 103, 104] I I' ∧ gr_fj [126, 127, 128, 157, 158, 160, 161, 166, 167, 168, 169, 170] [51, 76, 77, 78, 79, 87, 88, 89, 90, 91, 92, 93, 94, 95, 96, 97, 98, 99, 100, 101, 103, 104] J J' ∧ (∃ z : Int, r = some (.inl z) ∧ 0 ≤ z ∧ z ≤ 1 ∧ (gr_o (z = 0) (gr_CH a1 I')))))) (307, [(0, .inr (.inr (some 0))), (1, .inl a1), (2, .inl v2_89), (3, .inl v3_105)], [], gr_sh ++ ext, gr_h I119 J120) := by
                    intro m_384 e0_384
                    obtain ⟨ha1_384, hv2_89_384, hv3_105_384, e1_384, e2_384, e3_384⟩ := m_384
                    have f385 := (show 0 ≤ I119 0 157 ∧ I119 0 157 ≤ 3000 from (hI119 0 157).1)
                    have f386 := (show 0 ≤ I119 0 143 ∧ I119 0 143 ≤ 24 from (hI119 0 143).1)
                    have f387 := (show 0 ≤ I119 0 158 ∧ I119 0 158 ≤ 9000 from (hI119 0 158).1)
                    have f388 := (show 0 ≤ I119 0 161 ∧ I119 0 161 ≤ 400001 from (hI119 0 161).1)
                    have f389 := (show 0 ≤ I119 0 160 ∧ I119 0 160 ≤ 1 from (hI119 0 160).1)
                    have f390 := (show 0 ≤ I119 0 167 ∧ I119 0 167 ≤ 3071 from (hI119 0 167).1)
                    have f391 := (show 0 ≤ I119 0 168 ∧ I119 0 168 ≤ 24 from (hI119 0 168).1)
                    have f392 := (show 0 ≤ I119 0 169 ∧ I119 0 169 ≤ 24 from (hI119 0 169).1)
                    have f393 := (show 0 ≤ I119 0 170 ∧ I119 0 170 ≤ 384 from (hI119 0 170).1)
                    have f394 := (show 0 ≤ I119 0 2 ∧ I119 0 2 ≤ 32 from (hI119 0 2).1)
                    have t395 := (show 0 ≤ I 19 (Int.toNat a1) ∧ I 19 (Int.toNat a1) ≤ 384 from (hI 19 _).1)
                    have t396 := FI119 0 143 rfl
                    have t397 := FI119 19 (Int.toNat a1) rfl
                    have f398 := (show 0 ≤ I119 0 160 ∧ I119 0 160 ≤ 1 from (hI119 0 160).1)
                    refine gv_run 2 true hD (pc' := 311) (lv' := [(0, .inr (.inr (some 0))), (1, .inl a1), (2, .inl v2_89), (3, .inl v3_105)]) (st' := [.inl (I119 0 160)]) (h' := gr_h I119 J120) (C := ((True ∧ True) ∧ True)) rfl ⟨⟨trivial, trivial⟩, trivial⟩ ?_
                    refine gv_if_eq (t := 316) hD rfl rfl ⟨by omega, by omega⟩ (fun c399 => ?_) (fun c399 => ?_)
                    · refine gv_run 2 true hD (pc' := 115) (lv' := [(3, .inl (v3_105 + 1)), (0, .inr (.inr (some 0))), (1, .inl a1), (2, .inl v2_89)]) (st' := []) (h' := gr_h I119 J120) (C := ((True ∧ True) ∧ True)) rfl ⟨⟨trivial, trivial⟩, trivial⟩ ?_
                      refine gv_pick [1, 2, 3, 0] rfl ?_
                      exact ih115 I119 J120 (v3_105 + 1) (by omega) hI119 FI119 FJ120 (by omega) (gr_FO_w e0_384 (by omega))
                    · refine gv_run 1 true hD (pc' := 315) (lv' := [(0, .inr (.inr (some 0))), (1, .inl a1), (2, .inl v2_89), (3, .inl v3_105)]) (st' := [.inl 0]) (h' := gr_h I119 J120) (C := (True ∧ True)) rfl ⟨trivial, trivial⟩ ?_
                      exact gv_zret hD rfl (by omega) ⟨I119, J120, rfl, hI119, FI119, FJ120, ⟨_, rfl, by omega, by omega, (gr_o_a (by omega))⟩⟩
                  have f400 := (show 0 ≤ I119 0 2 ∧ I119 0 2 ≤ 32 from (hI119 0 2).1)
                  refine gv_run 3 true hD (pc' := 134) (lv' := [(0, .inr (.inr (some 0))), (1, .inl a1), (2, .inl v2_89), (3, .inl v3_105), (4, .inl v4_121)]) (st' := [.inl (I119 0 2), .inl v4_121]) (h' := gr_h I119 J120) (C := (((True ∧ True) ∧ True) ∧ True)) rfl ⟨⟨⟨trivial, trivial⟩, trivial⟩, trivial⟩ ?_
                  refine gv_icmp_ge (t := 307) hD rfl rfl ⟨⟨by omega, by omega⟩, ⟨by omega, by omega⟩⟩ (fun c401 => ?_) (fun c401 => ?_)
                  · refine gv_pick [0, 1, 2, 3] rfl ?_
                    exact L307 (by omega) (gr_FO_w e0_121 (by omega))
                  · have f402 := (show 0 ≤ I119 0 160 ∧ I119 0 160 ≤ 1 from (hI119 0 160).1)
                    refine gv_run 2 true hD (pc' := 141) (lv' := [(0, .inr (.inr (some 0))), (1, .inl a1), (2, .inl v2_89), (3, .inl v3_105), (4, .inl v4_121)]) (st' := [.inl (I119 0 160)]) (h' := gr_h I119 J120) (C := ((True ∧ True) ∧ True)) rfl ⟨⟨trivial, trivial⟩, trivial⟩ ?_
                    refine gv_if_ne (t := 307) hD rfl rfl ⟨by omega, by omega⟩ (fun c403 => ?_) (fun c403 => ?_)
                    · refine gv_pick [0, 1, 2, 3] rfl ?_
                      exact L307 (by omega) (gr_FO_w e0_121 (by omega))
                    · refine gv_run 2 true hD (pc' := 146) (lv' := [(0, .inr (.inr (some 0))), (1, .inl a1), (2, .inl v2_89), (3, .inl v3_105), (4, .inl v4_121)]) (st' := [.inl 1, .inl v2_89]) (h' := gr_h I119 J120) (C := ((True ∧ True) ∧ True)) rfl ⟨⟨trivial, trivial⟩, trivial⟩ ?_
                      refine gv_icmp_ne (t := 157) hD rfl rfl ⟨⟨by omega, by omega⟩, ⟨by omega, by omega⟩⟩ (fun c404 => ?_) (fun c404 => ?_)
                      · exact L157 I119 J120 hI119 FI119 FJ120 (by omega) (gr_FO_w e0_121 (by omega))
                      · refine gv_run 4 true hD (pc' := 154) (lv' := [(0, .inr (.inr (some 0))), (1, .inl a1), (2, .inl v2_89), (3, .inl v3_105), (4, .inl v4_121)]) (st' := [.inl v3_105, .inl v4_121, .inl a1, .inr (.inr (some 0))]) (h' := gr_h I119 J120) (C := ((((True ∧ True) ∧ True) ∧ True) ∧ True)) rfl ⟨⟨⟨⟨trivial, trivial⟩, trivial⟩, trivial⟩, trivial⟩ ?_
                        obtain ⟨r405, h405, E405, P405⟩ := r_leaves_f (ws0 := ws0) (tb := tb) hws htb ext I119 J120 hI119 a1 v4_121 v3_105 ⟨by omega, by omega⟩ ⟨by omega, by omega⟩ ⟨by omega, by omega⟩ (gr_FO_w e0_121 (by omega)) (by omega)
                        obtain ⟨I406, J407, rfl, hI406, g405, k405, ⟨rfl, q405⟩⟩ := P405
                        have FI406 := gr_frt FI119 g405 rfl rfl
                        have FJ407 := gr_fjt FJ120 k405 rfl rfl
                        have t408 := g405 0 143 rfl
                        have t409 := g405 0 161 rfl
                        have t410 := g405 0 167 rfl
                        have t411 := g405 0 168 rfl
                        have t412 := g405 0 169 rfl
                        have t413 := g405 0 170 rfl
                        have t414 := g405 0 2 rfl
                        have f415 := (show 0 ≤ I406 0 157 ∧ I406 0 157 ≤ 3000 from (hI406 0 157).1)
                        have f416 := (show 0 ≤ I406 0 143 ∧ I406 0 143 ≤ 24 from (hI406 0 143).1)
                        have f417 := (show 0 ≤ I406 0 158 ∧ I406 0 158 ≤ 9000 from (hI406 0 158).1)
                        have f418 := (show 0 ≤ I406 0 161 ∧ I406 0 161 ≤ 400001 from (hI406 0 161).1)
                        have f419 := (show 0 ≤ I406 0 160 ∧ I406 0 160 ≤ 1 from (hI406 0 160).1)
                        have f420 := (show 0 ≤ I406 0 167 ∧ I406 0 167 ≤ 3071 from (hI406 0 167).1)
                        have f421 := (show 0 ≤ I406 0 168 ∧ I406 0 168 ≤ 24 from (hI406 0 168).1)
                        have f422 := (show 0 ≤ I406 0 169 ∧ I406 0 169 ≤ 24 from (hI406 0 169).1)
                        have f423 := (show 0 ≤ I406 0 170 ∧ I406 0 170 ≤ 384 from (hI406 0 170).1)
                        have f424 := (show 0 ≤ I406 0 2 ∧ I406 0 2 ≤ 32 from (hI406 0 2).1)
                        refine gv_callV hD rfl (As := [.inl a1, .inl v4_121, .inl v3_105]) (st := []) rfl (by decide) rfl rfl (gr_lV hws rfl) (Nat.le_of_ble_eq_true rfl) (gz_Ev_mono (d := 3) (by decide) E405) ?_
                        show gv_X _ _ (157, [(0, .inr (.inr (some 0))), (1, .inl a1), (2, .inl v2_89), (3, .inl v3_105), (4, .inl v4_121)], [], gr_sh ++ ext, gr_h I406 J407)
                        exact L157 I406 J407 hI406 FI406 FJ407 (by omega) (gr_FO_w q405.1 (by omega))
              have f425 := (show 0 ≤ I103 0 143 ∧ I103 0 143 ≤ 24 from (hI103 0 143).1)
              refine gv_run 5 true hD (pc' := 122) (lv' := [(0, .inr (.inr (some 0))), (1, .inl a1), (2, .inl v2_89), (3, .inl v3_105)]) (st' := [.inl (I103 0 143), .inl (v3_105 + v2_89)]) (h' := gr_h I103 J104) (C := (((((True ∧ True) ∧ True) ∧ True) ∧ True) ∧ True)) rfl ⟨⟨⟨⟨⟨trivial, trivial⟩, trivial⟩, trivial⟩, trivial⟩, trivial⟩ ?_
              refine gv_icmp_gt (t := 322) hD rfl rfl ⟨⟨by omega, by omega⟩, ⟨by omega, by omega⟩⟩ (fun c426 => ?_) (fun c426 => ?_)
              · refine gv_run 2 true hD (pc' := 105) (lv' := [(2, .inl (v2_89 + 1)), (0, .inr (.inr (some 0))), (1, .inl a1), (3, .inl v3_105)]) (st' := []) (h' := gr_h I103 J104) (C := ((True ∧ True) ∧ True)) rfl ⟨⟨trivial, trivial⟩, trivial⟩ ?_
                refine gv_pick [1, 2, 0] rfl ?_
                exact ih105 I103 J104 (v2_89 + 1) (by omega) hI103 FI103 FJ104 (by omega) (gr_FO_w e0_105 (by omega))
              · refine gv_run 2 true hD (pc' := 128) (lv' := [(4, .inl 0), (0, .inr (.inr (some 0))), (1, .inl a1), (2, .inl v2_89), (3, .inl v3_105)]) (st' := []) (h' := gr_h I103 J104) (C := ((True ∧ True) ∧ True)) rfl ⟨⟨trivial, trivial⟩, trivial⟩ ?_
                refine gv_pick [1, 2, 3, 4, 0] rfl ?_
                exact L128 _ I103 J104 0 (Nat.lt_succ_self _) hI103 FI103 FJ104 (by omega) (gr_FO_w e0_105 (by omega))
          have f427 := (show 0 ≤ I87 0 143 ∧ I87 0 143 ≤ 24 from (hI87 0 143).1)
          refine gv_run 3 true hD (pc' := 110) (lv' := [(0, .inr (.inr (some 0))), (1, .inl a1), (2, .inl v2_89)]) (st' := [.inl (I87 0 143), .inl v2_89]) (h' := gr_h I87 J88) (C := (((True ∧ True) ∧ True) ∧ True)) rfl ⟨⟨⟨trivial, trivial⟩, trivial⟩, trivial⟩ ?_
          refine gv_icmp_gt (t := 328) hD rfl rfl ⟨⟨by omega, by omega⟩, ⟨by omega, by omega⟩⟩ (fun c428 => ?_) (fun c428 => ?_)
          · refine gv_run 1 true hD (pc' := 329) (lv' := [(0, .inr (.inr (some 0))), (1, .inl a1), (2, .inl v2_89)]) (st' := [.inr (.inr (some 0))]) (h' := gr_h I87 J88) (C := (True ∧ True)) rfl ⟨trivial, trivial⟩ ?_
            obtain ⟨r429, h429, E429, P429⟩ := r_orderWays (ws0 := ws0) (tb := tb) hws htb ext I87 J88 hI87   e0_89.2.2.1
            obtain ⟨I430, J431, rfl, hI430, g429, k429, ⟨rfl, q429⟩⟩ := P429
            have FI430 := gr_frt FI87 g429 rfl rfl
            have FJ431 := gr_fjt FJ88 k429 rfl rfl
            have t432 := g429 0 157 rfl
            have t433 := g429 0 143 rfl
            have t434 := g429 0 158 rfl
            have t435 := g429 0 161 rfl
            have t436 := g429 0 160 rfl
            have t437 := g429 0 167 rfl
            have t438 := g429 0 168 rfl
            have t439 := g429 0 169 rfl
            have t440 := g429 0 170 rfl
            have t441 := g429 0 2 rfl
            have f442 := (show 0 ≤ I430 0 157 ∧ I430 0 157 ≤ 3000 from (hI430 0 157).1)
            have f443 := (show 0 ≤ I430 0 143 ∧ I430 0 143 ≤ 24 from (hI430 0 143).1)
            have f444 := (show 0 ≤ I430 0 158 ∧ I430 0 158 ≤ 9000 from (hI430 0 158).1)
            have f445 := (show 0 ≤ I430 0 161 ∧ I430 0 161 ≤ 400001 from (hI430 0 161).1)
            have f446 := (show 0 ≤ I430 0 160 ∧ I430 0 160 ≤ 1 from (hI430 0 160).1)
            have f447 := (show 0 ≤ I430 0 167 ∧ I430 0 167 ≤ 3071 from (hI430 0 167).1)
            have f448 := (show 0 ≤ I430 0 168 ∧ I430 0 168 ≤ 24 from (hI430 0 168).1)
            have f449 := (show 0 ≤ I430 0 169 ∧ I430 0 169 ≤ 24 from (hI430 0 169).1)
            have f450 := (show 0 ≤ I430 0 170 ∧ I430 0 170 ≤ 384 from (hI430 0 170).1)
            have f451 := (show 0 ≤ I430 0 2 ∧ I430 0 2 ≤ 32 from (hI430 0 2).1)
            refine gv_callV hD rfl (As := []) (st := []) rfl (by decide) rfl rfl (gr_lV hws rfl) (Nat.le_of_ble_eq_true rfl) (gz_Ev_mono (d := 3) (by decide) E429) ?_
            show gv_X _ _ (332, [(0, .inr (.inr (some 0))), (1, .inl a1), (2, .inl v2_89)], [], gr_sh ++ ext, gr_h I430 J431)
            refine gv_run 1 true hD (pc' := 333) (lv' := [(0, .inr (.inr (some 0))), (1, .inl a1), (2, .inl v2_89)]) (st' := [.inl 1]) (h' := gr_h I430 J431) (C := (True ∧ True)) rfl ⟨trivial, trivial⟩ ?_
            exact gv_zret hD rfl (by omega) ⟨I430, J431, rfl, hI430, FI430, FJ431, ⟨_, rfl, by omega, by omega, (gr_o_b (gr_CH_of e0_89 hI87 q429 (fun k => g429 87 k rfl) (fun k => g429 88 k rfl) (fun k => g429 104 k rfl) (fun k => g429 90 k rfl) (fun k => g429 93 k rfl) (fun k => g429 94 k rfl) (fun k => g429 95 k rfl) (fun k => g429 97 k rfl) (fun k => g429 98 k rfl) (fun k => g429 19 k rfl) (fun k => g429 18 k rfl) (fun k => g429 41 k rfl) (fun k => g429 6 k rfl) (by omega) (by omega) (by omega)))⟩⟩
          · refine gv_run 2 true hD (pc' := 115) (lv' := [(3, .inl 0), (0, .inr (.inr (some 0))), (1, .inl a1), (2, .inl v2_89)]) (st' := []) (h' := gr_h I87 J88) (C := ((True ∧ True) ∧ True)) rfl ⟨⟨trivial, trivial⟩, trivial⟩ ?_
            refine gv_pick [1, 2, 3, 0] rfl ?_
            exact L115 _ I87 J88 0 (Nat.lt_succ_self _) hI87 FI87 FJ88 (by omega) (gr_FO_w e0_89 (by omega))
      have f452 := (show 0 ≤ I11 0 143 ∧ I11 0 143 ≤ 24 from (hI11 0 143).1)
      refine gv_run 3 true hD (pc' := 44) (lv' := [(0, .inr (.inr (some 0))), (1, .inl a1), (2, .inl v2_13)]) (st' := [.inl (I11 0 143), .inl v2_13]) (h' := gr_h I11 J12) (C := (((True ∧ True) ∧ True) ∧ True)) rfl ⟨⟨⟨trivial, trivial⟩, trivial⟩, trivial⟩ ?_
      refine gv_icmp_gt (t := 103) hD rfl rfl ⟨⟨by omega, by omega⟩, ⟨by omega, by omega⟩⟩ (fun c453 => ?_) (fun c453 => ?_)
      · refine gv_run 2 true hD (pc' := 105) (lv' := [(2, .inl 1), (0, .inr (.inr (some 0))), (1, .inl a1)]) (st' := []) (h' := gr_h I11 J12) (C := ((True ∧ True) ∧ True)) rfl ⟨⟨trivial, trivial⟩, trivial⟩ ?_
        refine gv_pick [1, 2, 0] rfl ?_
        exact L105 _ I11 J12 1 (Nat.lt_succ_self _) hI11 FI11 FJ12 (by omega) (gr_FO_0 e0_13 (by omega) (by omega) (by omega))
      · refine gv_run 2 true hD (pc' := 49) (lv' := [(3, .inl 0), (0, .inr (.inr (some 0))), (1, .inl a1), (2, .inl v2_13)]) (st' := []) (h' := gr_h I11 J12) (C := ((True ∧ True) ∧ True)) rfl ⟨⟨trivial, trivial⟩, trivial⟩ ?_
        refine gv_pick [1, 2, 3, 0] rfl ?_
        exact L49 _ I11 J12 0 (Nat.lt_succ_self _) hI11 FI11 FJ12 (by omega) e0_13
  refine gv_run 2 true hD (pc' := 2) (lv' := [(0, .inr (.inr (some 0))), (1, .inl a1)]) (st' := [.inl a1, .inr (.inr (some 0))]) (h' := gr_h I J) (C := ((True ∧ True) ∧ True)) rfl ⟨⟨trivial, trivial⟩, trivial⟩ ?_
  obtain ⟨r454, h454, E454, P454⟩ := r_forms_w (ws0 := ws0) (tb := tb) hws htb ext I J hI a1 ⟨by omega, by omega⟩ 
  obtain ⟨I455, J456, rfl, hI455, g454, k454, rfl⟩ := P454
  have FI455 := gr_frt FI g454 rfl rfl
  have FJ456 := gr_fjt FJ k454 rfl rfl
  have t457 := g454 0 157 rfl
  have t458 := g454 0 143 rfl
  have t459 := g454 0 158 rfl
  have t460 := g454 0 161 rfl
  have t461 := g454 0 160 rfl
  have t462 := g454 0 167 rfl
  have t463 := g454 0 168 rfl
  have t464 := g454 0 169 rfl
  have t465 := g454 0 170 rfl
  have t466 := g454 0 2 rfl
  have f467 := (show 0 ≤ I455 0 157 ∧ I455 0 157 ≤ 3000 from (hI455 0 157).1)
  have f468 := (show 0 ≤ I455 0 143 ∧ I455 0 143 ≤ 24 from (hI455 0 143).1)
  have f469 := (show 0 ≤ I455 0 158 ∧ I455 0 158 ≤ 9000 from (hI455 0 158).1)
  have f470 := (show 0 ≤ I455 0 161 ∧ I455 0 161 ≤ 400001 from (hI455 0 161).1)
  have f471 := (show 0 ≤ I455 0 160 ∧ I455 0 160 ≤ 1 from (hI455 0 160).1)
  have f472 := (show 0 ≤ I455 0 167 ∧ I455 0 167 ≤ 3071 from (hI455 0 167).1)
  have f473 := (show 0 ≤ I455 0 168 ∧ I455 0 168 ≤ 24 from (hI455 0 168).1)
  have f474 := (show 0 ≤ I455 0 169 ∧ I455 0 169 ≤ 24 from (hI455 0 169).1)
  have f475 := (show 0 ≤ I455 0 170 ∧ I455 0 170 ≤ 384 from (hI455 0 170).1)
  have f476 := (show 0 ≤ I455 0 2 ∧ I455 0 2 ≤ 32 from (hI455 0 2).1)
  refine gv_callV hD rfl (As := [.inl a1]) (st := []) rfl (by decide) rfl rfl (gr_lV hws rfl) (Nat.le_of_ble_eq_true rfl) (gz_Ev_mono (d := 6) (by decide) E454) ?_
  show gv_X _ _ (5, [(0, .inr (.inr (some 0))), (1, .inl a1)], [], gr_sh ++ ext, gr_h I455 J456)
  refine gv_run 3 true hD (pc' := 10) (lv' := [(0, .inr (.inr (some 0))), (1, .inl a1)]) (st' := []) (h' := gz_up (gr_h I455 J456) 0 166 (.inl a1)) (C := (((True ∧ True) ∧ True) ∧ True)) rfl ⟨⟨⟨trivial, trivial⟩, trivial⟩, trivial⟩ ?_
  refine gr_st hI455 FI455 rfl rfl ⟨⟨by show 0 ≤ _; omega, by show _ ≤ 7; omega⟩, trivial⟩ (fun I477 hI477 FI477 q478 p478 => ?_)
  have t479 := p478 0 157 (by decide)
  have t480 := p478 0 143 (by decide)
  have t481 := p478 0 158 (by decide)
  have t482 := p478 0 161 (by decide)
  have t483 := p478 0 160 (by decide)
  have t484 := p478 0 167 (by decide)
  have t485 := p478 0 168 (by decide)
  have t486 := p478 0 169 (by decide)
  have t487 := p478 0 170 (by decide)
  have t488 := p478 0 2 (by decide)
  have f489 := (show 0 ≤ I477 0 157 ∧ I477 0 157 ≤ 3000 from (hI477 0 157).1)
  have f490 := (show 0 ≤ I477 0 143 ∧ I477 0 143 ≤ 24 from (hI477 0 143).1)
  have f491 := (show 0 ≤ I477 0 158 ∧ I477 0 158 ≤ 9000 from (hI477 0 158).1)
  have f492 := (show 0 ≤ I477 0 161 ∧ I477 0 161 ≤ 400001 from (hI477 0 161).1)
  have f493 := (show 0 ≤ I477 0 160 ∧ I477 0 160 ≤ 1 from (hI477 0 160).1)
  have f494 := (show 0 ≤ I477 0 167 ∧ I477 0 167 ≤ 3071 from (hI477 0 167).1)
  have f495 := (show 0 ≤ I477 0 168 ∧ I477 0 168 ≤ 24 from (hI477 0 168).1)
  have f496 := (show 0 ≤ I477 0 169 ∧ I477 0 169 ≤ 24 from (hI477 0 169).1)
  have f497 := (show 0 ≤ I477 0 170 ∧ I477 0 170 ≤ 384 from (hI477 0 170).1)
  have f498 := (show 0 ≤ I477 0 2 ∧ I477 0 2 ≤ 32 from (hI477 0 2).1)
  have t499 := (show 0 ≤ I 19 (Int.toNat a1) ∧ I 19 (Int.toNat a1) ≤ 384 from (hI 19 _).1)
  have t500 := FI477 0 143 rfl
  have t501 := FI477 19 (Int.toNat a1) rfl
  refine gv_run 3 true hD (pc' := 15) (lv' := [(0, .inr (.inr (some 0))), (1, .inl a1)]) (st' := []) (h' := gz_up (gr_h I477 J456) 0 157 (.inl 0)) (C := (((True ∧ True) ∧ True) ∧ True)) rfl ⟨⟨⟨trivial, trivial⟩, trivial⟩, trivial⟩ ?_
  refine gr_st hI477 FI477 rfl rfl ⟨⟨by show 0 ≤ _; omega, by show _ ≤ 3000; omega⟩, trivial⟩ (fun I502 hI502 FI502 q503 p503 => ?_)
  have t504 := p503 0 143 (by decide)
  have t505 := p503 0 158 (by decide)
  have t506 := p503 0 161 (by decide)
  have t507 := p503 0 160 (by decide)
  have t508 := p503 0 167 (by decide)
  have t509 := p503 0 168 (by decide)
  have t510 := p503 0 169 (by decide)
  have t511 := p503 0 170 (by decide)
  have t512 := p503 0 2 (by decide)
  have f513 := (show 0 ≤ I502 0 157 ∧ I502 0 157 ≤ 3000 from (hI502 0 157).1)
  have f514 := (show 0 ≤ I502 0 143 ∧ I502 0 143 ≤ 24 from (hI502 0 143).1)
  have f515 := (show 0 ≤ I502 0 158 ∧ I502 0 158 ≤ 9000 from (hI502 0 158).1)
  have f516 := (show 0 ≤ I502 0 161 ∧ I502 0 161 ≤ 400001 from (hI502 0 161).1)
  have f517 := (show 0 ≤ I502 0 160 ∧ I502 0 160 ≤ 1 from (hI502 0 160).1)
  have f518 := (show 0 ≤ I502 0 167 ∧ I502 0 167 ≤ 3071 from (hI502 0 167).1)
  have f519 := (show 0 ≤ I502 0 168 ∧ I502 0 168 ≤ 24 from (hI502 0 168).1)
  have f520 := (show 0 ≤ I502 0 169 ∧ I502 0 169 ≤ 24 from (hI502 0 169).1)
  have f521 := (show 0 ≤ I502 0 170 ∧ I502 0 170 ≤ 384 from (hI502 0 170).1)
  have f522 := (show 0 ≤ I502 0 2 ∧ I502 0 2 ≤ 32 from (hI502 0 2).1)
  have t523 := (show 0 ≤ I 19 (Int.toNat a1) ∧ I 19 (Int.toNat a1) ≤ 384 from (hI 19 _).1)
  have t524 := FI502 0 143 rfl
  have t525 := FI502 19 (Int.toNat a1) rfl
  refine gv_run 3 true hD (pc' := 20) (lv' := [(0, .inr (.inr (some 0))), (1, .inl a1)]) (st' := []) (h' := gz_up (gr_h I502 J456) 0 158 (.inl 0)) (C := (((True ∧ True) ∧ True) ∧ True)) rfl ⟨⟨⟨trivial, trivial⟩, trivial⟩, trivial⟩ ?_
  refine gr_st hI502 FI502 rfl rfl ⟨⟨by show 0 ≤ _; omega, by show _ ≤ 9000; omega⟩, trivial⟩ (fun I526 hI526 FI526 q527 p527 => ?_)
  have t528 := p527 0 157 (by decide)
  have t529 := p527 0 143 (by decide)
  have t530 := p527 0 161 (by decide)
  have t531 := p527 0 160 (by decide)
  have t532 := p527 0 167 (by decide)
  have t533 := p527 0 168 (by decide)
  have t534 := p527 0 169 (by decide)
  have t535 := p527 0 170 (by decide)
  have t536 := p527 0 2 (by decide)
  have f537 := (show 0 ≤ I526 0 157 ∧ I526 0 157 ≤ 3000 from (hI526 0 157).1)
  have f538 := (show 0 ≤ I526 0 143 ∧ I526 0 143 ≤ 24 from (hI526 0 143).1)
  have f539 := (show 0 ≤ I526 0 158 ∧ I526 0 158 ≤ 9000 from (hI526 0 158).1)
  have f540 := (show 0 ≤ I526 0 161 ∧ I526 0 161 ≤ 400001 from (hI526 0 161).1)
  have f541 := (show 0 ≤ I526 0 160 ∧ I526 0 160 ≤ 1 from (hI526 0 160).1)
  have f542 := (show 0 ≤ I526 0 167 ∧ I526 0 167 ≤ 3071 from (hI526 0 167).1)
  have f543 := (show 0 ≤ I526 0 168 ∧ I526 0 168 ≤ 24 from (hI526 0 168).1)
  have f544 := (show 0 ≤ I526 0 169 ∧ I526 0 169 ≤ 24 from (hI526 0 169).1)
  have f545 := (show 0 ≤ I526 0 170 ∧ I526 0 170 ≤ 384 from (hI526 0 170).1)
  have f546 := (show 0 ≤ I526 0 2 ∧ I526 0 2 ≤ 32 from (hI526 0 2).1)
  have t547 := (show 0 ≤ I 19 (Int.toNat a1) ∧ I 19 (Int.toNat a1) ≤ 384 from (hI 19 _).1)
  have t548 := FI526 0 143 rfl
  have t549 := FI526 19 (Int.toNat a1) rfl
  refine gv_run 3 true hD (pc' := 25) (lv' := [(0, .inr (.inr (some 0))), (1, .inl a1)]) (st' := []) (h' := gz_up (gr_h I526 J456) 0 160 (.inl 0)) (C := (((True ∧ True) ∧ True) ∧ (0 = 0 ∨ 0 = 1))) rfl ⟨⟨⟨trivial, trivial⟩, trivial⟩, (by omega)⟩ ?_
  refine gr_st hI526 FI526 rfl rfl ⟨⟨by show 0 ≤ _; omega, by show _ ≤ 1; omega⟩, trivial⟩ (fun I550 hI550 FI550 q551 p551 => ?_)
  have t552 := p551 0 157 (by decide)
  have t553 := p551 0 143 (by decide)
  have t554 := p551 0 158 (by decide)
  have t555 := p551 0 161 (by decide)
  have t556 := p551 0 167 (by decide)
  have t557 := p551 0 168 (by decide)
  have t558 := p551 0 169 (by decide)
  have t559 := p551 0 170 (by decide)
  have t560 := p551 0 2 (by decide)
  have f561 := (show 0 ≤ I550 0 157 ∧ I550 0 157 ≤ 3000 from (hI550 0 157).1)
  have f562 := (show 0 ≤ I550 0 143 ∧ I550 0 143 ≤ 24 from (hI550 0 143).1)
  have f563 := (show 0 ≤ I550 0 158 ∧ I550 0 158 ≤ 9000 from (hI550 0 158).1)
  have f564 := (show 0 ≤ I550 0 161 ∧ I550 0 161 ≤ 400001 from (hI550 0 161).1)
  have f565 := (show 0 ≤ I550 0 160 ∧ I550 0 160 ≤ 1 from (hI550 0 160).1)
  have f566 := (show 0 ≤ I550 0 167 ∧ I550 0 167 ≤ 3071 from (hI550 0 167).1)
  have f567 := (show 0 ≤ I550 0 168 ∧ I550 0 168 ≤ 24 from (hI550 0 168).1)
  have f568 := (show 0 ≤ I550 0 169 ∧ I550 0 169 ≤ 24 from (hI550 0 169).1)
  have f569 := (show 0 ≤ I550 0 170 ∧ I550 0 170 ≤ 384 from (hI550 0 170).1)
  have f570 := (show 0 ≤ I550 0 2 ∧ I550 0 2 ≤ 32 from (hI550 0 2).1)
  have t571 := (show 0 ≤ I 19 (Int.toNat a1) ∧ I 19 (Int.toNat a1) ≤ 384 from (hI 19 _).1)
  have t572 := FI550 0 143 rfl
  have t573 := FI550 19 (Int.toNat a1) rfl
  have f574 := (show 0 ≤ I550 0 161 ∧ I550 0 161 ≤ 400001 from (hI550 0 161).1)
  refine gv_run 3 true hD (pc' := 32) (lv' := [(0, .inr (.inr (some 0))), (1, .inl a1)]) (st' := [.inl 400000, .inl (I550 0 161)]) (h' := gr_h I550 J456) (C := (((True ∧ True) ∧ True) ∧ True)) rfl ⟨⟨⟨trivial, trivial⟩, trivial⟩, trivial⟩ ?_
  refine gv_icmp_le (t := 37) hD rfl rfl ⟨⟨by omega, by omega⟩, ⟨by omega, by omega⟩⟩ (fun c575 => ?_) (fun c575 => ?_)
  · refine gv_run 2 true hD (pc' := 39) (lv' := [(2, .inl 0), (0, .inr (.inr (some 0))), (1, .inl a1)]) (st' := []) (h' := gr_h I550 J456) (C := ((True ∧ True) ∧ True)) rfl ⟨⟨trivial, trivial⟩, trivial⟩ ?_
    refine gv_pick [1, 2, 0] rfl ?_
    exact L39 _ I550 J456 0 (Nat.lt_succ_self _) hI550 FI550 FJ456 (by omega) (gr_SZ_0 _)
  · refine gv_run 1 true hD (pc' := 36) (lv' := [(0, .inr (.inr (some 0))), (1, .inl a1)]) (st' := [.inl 0]) (h' := gr_h I550 J456) (C := (True ∧ True)) rfl ⟨trivial, trivial⟩ ?_
    exact gv_zret hD rfl (by omega) ⟨I550, J456, rfl, hI550, FI550, FJ456, ⟨_, rfl, by omega, by omega, (gr_o_a (by omega))⟩⟩
