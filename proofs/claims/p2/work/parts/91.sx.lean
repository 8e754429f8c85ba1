set_option maxHeartbeats 4000000 in
set_option maxRecDepth 100000 in
theorem r_sounds_w {ws0 : List Cond} {tb : String → gz_T} (hws : ∀ w ∈ gr_ws, w ∈ ws0) (htb : tb RX13 = gr_T) (ext : gz_Sh) (I : gr_I) (J : gr_J) (hI : gr_Inv I) (a1 : Int) (ha1 : (-2147483648) ≤ a1 ∧ a1 ≤ 2147483647)  : ∃ r h', gz_Ev ws0 tb 5 (yX13_sounds, cX13_sounds, 3, (some .int)) [.inr (.inr (some 0)), .inl a1] (gr_sh ++ ext) (gr_h I J) r (gr_sh ++ ext) h' 0 0 ∧ (∃ (I' : gr_I) (J' : gr_J), h' = gr_h I' J' ∧ gr_Inv I' ∧ gr_fr [0, 68, 69, 70, 126] [51, 56, 57, 58, 76, 77] I I' ∧ gr_fj [0, 68, 69, 70, 126] [51, 56, 57, 58, 76, 77] J J' ∧ (∃ z : Int, r = some (.inl z) ∧ (-3) ≤ z ∧ z ≤ 24)) := by
  have FI : gr_fr [0, 68, 69, 70, 126] [51, 56, 57, 58, 76, 77] I I := fun _ _ _ => rfl
  have FJ : gr_fj [0, 68, 69, 70, 126] [51, 56, 57, 58, 76, 77] J J := fun _ _ _ => rfl
  have hD : gv_D (gr_E ws0 tb 4 (yX13_sounds, cX13_sounds, 3, (some .int)) kX13_sounds) := gq_ok oX13_sounds
  refine gr_ev (d := 4) (l := kX13_sounds) (Po := fun r h' => (∃ (I' : gr_I) (J' : gr_J), h' = gr_h I' J' ∧ gr_Inv I' ∧ gr_fr [0, 68, 69, 70, 126] [51, 56, 57, 58, 76, 77] I I' ∧ gr_fj [0, 68, 69, 70, 126] [51, 56, 57, 58, 76, 77] J J' ∧ (∃ z : Int, r = some (.inl z) ∧ (-3) ≤ z ∧ z ≤ 24))) htb rfl (Nat.le_of_ble_eq_true rfl) ?_
  have L39 : ∀ (I1 : gr_I) (J2 : gr_J) (v2_3 : Int), gr_Inv I1 → gr_fr [0, 68, 69, 70, 126] [51, 56, 57, 58, 76, 77] I I1 → gr_fj [0, 68, 69, 70, 126] [51, 56, 57, 58, 76, 77] J J2 → (((-1) ≤ v2_3 ∧ v2_3 ≤ 24)) → gv_X (gr_E ws0 tb 4 (yX13_sounds, cX13_sounds, 3, (some .int)) kX13_sounds) (gv_Q cX13_sounds (some .int) (gr_sh ++ ext) (fun r h' => (∃ (I' : gr_I) (J' : gr_J), h' = gr_h I' J' ∧ gr_Inv I' ∧ gr_fr [0, 68, 69, 70, 126] [51, 56, 57, 58, 76, 77] I I' ∧ gr_fj [0, 68, 69, 70, 126] [51, 56, 57, 58, 76, 77] J J' ∧ (∃ z : Int, r = some (.inl z) ∧ (-3) ≤ z ∧ z ≤ 24)))) (39, [(2, .inl v2_3)], [], gr_sh ++ ext, gr_h I1 J2) := by
    intro I1 J2 v2_3 hI1 FI1 FJ2 m_3
    have hv2_3 := m_3
    refine gv_run 1 true hD (pc' := 40) (lv' := [(2, .inl v2_3)]) (st' := [.inl v2_3]) (h' := gr_h I1 J2) (C := (True ∧ True)) rfl ⟨trivial, trivial⟩ ?_
    exact gv_iret hD rfl ⟨I1, J2, rfl, hI1, FI1, FJ2, ⟨_, rfl, by omega⟩⟩
  refine gv_run 2 true hD (pc' := 2) (lv' := [(0, .inr (.inr (some 0))), (1, .inl a1)]) (st' := [.inl a1, .inr (.inr (some 0))]) (h' := gr_h I J) (C := ((True ∧ True) ∧ True)) rfl ⟨⟨trivial, trivial⟩, trivial⟩ ?_
  obtain ⟨r4, h4, E4, P4⟩ := r_noTongue (ws0 := ws0) (tb := tb) hws htb ext I J hI a1 ⟨by omega, by omega⟩ 
  obtain ⟨I5, J6, rfl, hI5, g4, k4, ⟨z4, rfl, q4⟩⟩ := P4
  have FI5 := gr_frt FI g4 rfl rfl
  have FJ6 := gr_fjt FJ k4 rfl rfl
  refine gv_callV hD rfl (As := [.inl a1]) (st := []) rfl (by decide) rfl rfl (gr_lV hws rfl) (Nat.le_of_ble_eq_true rfl) (gz_Ev_mono (d := 1) (by decide) E4) ?_
  show gv_X _ _ (5, [(0, .inr (.inr (some 0))), (1, .inl a1)], [.inl z4], gr_sh ++ ext, gr_h I5 J6)
  refine gv_if_eq (t := 10) hD rfl rfl ⟨by omega, by omega⟩ (fun c7 => ?_) (fun c7 => ?_)
  · refine gv_run 3 true hD (pc' := 15) (lv' := [(0, .inr (.inr (some 0))), (1, .inl a1)]) (st' := []) (h' := gz_up (gr_h I5 J6) 0 70 (.inl 0)) (C := (((True ∧ True) ∧ True) ∧ True)) rfl ⟨⟨⟨trivial, trivial⟩, trivial⟩, trivial⟩ ?_
    refine gr_st hI5 FI5 rfl rfl ⟨⟨by show 0 ≤ _; omega, by show _ ≤ 1000; omega⟩, trivial⟩ (fun I8 hI8 FI8 q9 p9 => ?_)
    refine gv_run 1 true hD (pc' := 16) (lv' := [(0, .inr (.inr (some 0))), (1, .inl a1)]) (st' := [.inr (.inr (some 0))]) (h' := gr_h I8 J6) (C := (True ∧ True)) rfl ⟨trivial, trivial⟩ ?_
    obtain ⟨r10, h10, E10, P10⟩ := r_oneWord (ws0 := ws0) (tb := tb) hws htb ext I8 J6 hI8   
    obtain ⟨I11, J12, rfl, hI11, g10, k10, ⟨z10, rfl, q10⟩⟩ := P10
    have FI11 := gr_frt FI8 g10 rfl rfl
    have FJ12 := gr_fjt FJ6 k10 rfl rfl
    refine gv_callV hD rfl (As := []) (st := []) rfl (by decide) rfl rfl (gr_lV hws rfl) (Nat.le_of_ble_eq_true rfl) (gz_Ev_mono (d := 2) (by decide) E10) ?_
    show gv_X _ _ (19, [(0, .inr (.inr (some 0))), (1, .inl a1)], [.inl z10], gr_sh ++ ext, gr_h I11 J12)
    refine gv_if_ne (t := 25) hD rfl rfl ⟨by omega, by omega⟩ (fun c13 => ?_) (fun c13 => ?_)
    · refine gv_run 2 true hD (pc' := 27) (lv' := [(0, .inr (.inr (some 0))), (1, .inl a1)]) (st' := [.inl a1, .inr (.inr (some 0))]) (h' := gr_h I11 J12) (C := ((True ∧ True) ∧ True)) rfl ⟨⟨trivial, trivial⟩, trivial⟩ ?_
      obtain ⟨r14, h14, E14, P14⟩ := r_sounded (ws0 := ws0) (tb := tb) hws htb ext I11 J12 hI11 a1 ⟨by omega, by omega⟩ 
      obtain ⟨I15, J16, rfl, hI15, g14, k14, ⟨z14, rfl, q14⟩⟩ := P14
      have FI15 := gr_frt FI11 g14 rfl rfl
      have FJ16 := gr_fjt FJ12 k14 rfl rfl
      refine gv_callV hD rfl (As := [.inl a1]) (st := []) rfl (by decide) rfl rfl (gr_lV hws rfl) (Nat.le_of_ble_eq_true rfl) (gz_Ev_mono (d := 4) (by decide) E14) ?_
      show gv_X _ _ (30, [(0, .inr (.inr (some 0))), (1, .inl a1)], [.inl z14], gr_sh ++ ext, gr_h I15 J16)
      refine gv_run 2 true hD (pc' := 32) (lv' := [(2, .inl z14), (0, .inr (.inr (some 0))), (1, .inl a1)]) (st' := [.inl z14]) (h' := gr_h I15 J16) (C := ((True ∧ True) ∧ True)) rfl ⟨⟨trivial, trivial⟩, trivial⟩ ?_
      refine gv_if_lt (t := 39) hD rfl rfl ⟨by omega, by omega⟩ (fun c17 => ?_) (fun c17 => ?_)
      · refine gv_pick [0] rfl ?_
        exact L39 I15 J16 z14 hI15 FI15 FJ16 (by omega)
      · refine gv_run 1 true hD (pc' := 36) (lv' := [(2, .inl z14), (0, .inr (.inr (some 0))), (1, .inl a1)]) (st' := [.inr (.inr (some 0))]) (h' := gr_h I15 J16) (C := (True ∧ True)) rfl ⟨trivial, trivial⟩ ?_
        obtain ⟨r18, h18, E18, P18⟩ := r_outBuf (ws0 := ws0) (tb := tb) hws htb ext I15 J16 hI15   
        obtain ⟨I19, J20, rfl, hI19, g18, k18, rfl⟩ := P18
        have FI19 := gr_frt FI15 g18 rfl rfl
        have FJ20 := gr_fjt FJ16 k18 rfl rfl
        refine gv_callV hD rfl (As := []) (st := []) rfl (by decide) rfl rfl (gr_lV hws rfl) (Nat.le_of_ble_eq_true rfl) (gz_Ev_mono (d := 2) (by decide) E18) ?_
        show gv_X _ _ (39, [(2, .inl z14), (0, .inr (.inr (some 0))), (1, .inl a1)], [], gr_sh ++ ext, gr_h I19 J20)
        refine gv_pick [0] rfl ?_
        exact L39 I19 J20 z14 hI19 FI19 FJ20 (by omega)
    · refine gv_run 1 true hD (pc' := 24) (lv' := [(0, .inr (.inr (some 0))), (1, .inl a1)]) (st' := [.inl (-3)]) (h' := gr_h I11 J12) (C := (True ∧ True)) rfl ⟨trivial, trivial⟩ ?_
      exact gv_iret hD rfl ⟨I11, J12, rfl, hI11, FI11, FJ12, ⟨_, rfl, by omega⟩⟩
  · refine gv_run 1 true hD (pc' := 9) (lv' := [(0, .inr (.inr (some 0))), (1, .inl a1)]) (st' := [.inl 0]) (h' := gr_h I5 J6) (C := (True ∧ True)) rfl ⟨trivial, trivial⟩ ?_
    exact gv_iret hD rfl ⟨I5, J6, rfl, hI5, FI5, FJ6, ⟨_, rfl, by omega⟩⟩
set_option maxHeartbeats 4000000 in
set_option maxRecDepth 100000 in
theorem r_analyse_w {ws0 : List Cond} {tb : String → gz_T} (hws : ∀ w ∈ gr_ws, w ∈ ws0) (htb : tb RX13 = gr_T) (ext : gz_Sh) (I : gr_I) (J : gr_J) (hI : gr_Inv I) (a1 : Int) (ha1 : (-2147483648) ≤ a1 ∧ a1 ≤ 2147483647)  : ∃ r h', gz_Ev ws0 tb 7 (yX13_analyse, cX13_analyse, 5, (some .int)) [.inr (.inr (some 0)), .inl a1] (gr_sh ++ ext) (gr_h I J) r (gr_sh ++ ext) h' 0 0 ∧ (∃ (I' : gr_I) (J' : gr_J), h' = gr_h I' J' ∧ gr_Inv I' ∧ gr_fr [0, 68, 69, 126, 127, 128, 132, 133] [51, 56, 57, 76, 77, 78, 79, 80] I I' ∧ gr_fj [0, 68, 69, 126, 127, 128, 132, 133] [51, 56, 57, 76, 77, 78, 79, 80] J J' ∧ (∃ z : Int, r = some (.inl z) ∧ (-3) ≤ z ∧ z ≤ 1536)) := by
  have FI : gr_fr [0, 68, 69, 126, 127, 128, 132, 133] [51, 56, 57, 76, 77, 78, 79, 80] I I := fun _ _ _ => rfl
  have FJ : gr_fj [0, 68, 69, 126, 127, 128, 132, 133] [51, 56, 57, 76, 77, 78, 79, 80] J J := fun _ _ _ => rfl
  have hD : gv_D (gr_E ws0 tb 6 (yX13_analyse, cX13_analyse, 5, (some .int)) kX13_analyse) := gq_ok oX13_analyse
  refine gr_ev (d := 6) (l := kX13_analyse) (Po := fun r h' => (∃ (I' : gr_I) (J' : gr_J), h' = gr_h I' J' ∧ gr_Inv I' ∧ gr_fr [0, 68, 69, 126, 127, 128, 132, 133] [51, 56, 57, 76, 77, 78, 79, 80] I I' ∧ gr_fj [0, 68, 69, 126, 127, 128, 132, 133] [51, 56, 57, 76, 77, 78, 79, 80] J J' ∧ (∃ z : Int, r = some (.inl z) ∧ (-3) ≤ z ∧ z ≤ 1536))) htb rfl (Nat.le_of_ble_eq_true rfl) ?_
  have f1 := (show 0 ≤ I 0 132 ∧ I 0 132 ≤ 1536 from (hI 0 132).1)
  have L32 : ∀ (n : Nat) (I2 : gr_I) (J3 : gr_J) (v2_4 : Int) (v3_4 : Int), (25 - v3_4).toNat < n → gr_Inv I2 → gr_fr [0, 68, 69, 126, 127, 128, 132, 133] [51, 56, 57, 76, 77, 78, 79, 80] I I2 → gr_fj [0, 68, 69, 126, 127, 128, 132, 133] [51, 56, 57, 76, 77, 78, 79, 80] J J3 → ((0 ≤ a1 ∧ a1 ≤ 7) ∧ (0 ≤ v2_4 ∧ v2_4 ≤ 24) ∧ (0 ≤ v3_4 ∧ v3_4 ≤ 24) ∧ (I2 0 132 = 0)) → gv_X (gr_E ws0 tb 6 (yX13_analyse, cX13_analyse, 5, (some .int)) kX13_analyse) (gv_Q cX13_analyse (some .int) (gr_sh ++ ext) (fun r h' => (∃ (I' : gr_I) (J' : gr_J), h' = gr_h I' J' ∧ gr_Inv I' ∧ gr_fr [0, 68, 69, 126, 127, 128, 132, 133] [51, 56, 57, 76, 77, 78, 79, 80] I I' ∧ gr_fj [0, 68, 69, 126, 127, 128, 132, 133] [51, 56, 57, 76, 77, 78, 79, 80] J J' ∧ (∃ z : Int, r = some (.inl z) ∧ (-3) ≤ z ∧ z ≤ 1536)))) (32, [(0, .inr (.inr (some 0))), (1, .inl a1), (2, .inl v2_4), (3, .inl v3_4)], [], gr_sh ++ ext, gr_h I2 J3) := by
    intro n
    induction n with
    | zero => intro I2 J3 v2_4 v3_4 hn; omega
    | succ n ih32 =>
      intro I2 J3 v2_4 v3_4 hn hI2 FI2 FJ3 m_4
      obtain ⟨ha1_4, hv2_4, hv3_4, e0_4⟩ := m_4
      have f5 := (show 0 ≤ I2 0 132 ∧ I2 0 132 ≤ 1536 from (hI2 0 132).1)
      have L67 : ∀ (n : Nat) (I6 : gr_I) (J7 : gr_J) (v3_8 : Int), (65 - v3_8).toNat < n → gr_Inv I6 → gr_fr [0, 68, 69, 126, 127, 128, 132, 133] [51, 56, 57, 76, 77, 78, 79, 80] I I6 → gr_fj [0, 68, 69, 126, 127, 128, 132, 133] [51, 56, 57, 76, 77, 78, 79, 80] J J7 → ((0 ≤ a1 ∧ a1 ≤ 7) ∧ (0 ≤ v2_4 ∧ v2_4 ≤ 24) ∧ (0 ≤ v3_8 ∧ v3_8 ≤ 64) ∧ (I6 0 132 ≤ 24 * v3_8)) → gv_X (gr_E ws0 tb 6 (yX13_analyse, cX13_analyse, 5, (some .int)) kX13_analyse) (gv_Q cX13_analyse (some .int) (gr_sh ++ ext) (fun r h' => (∃ (I' : gr_I) (J' : gr_J), h' = gr_h I' J' ∧ gr_Inv I' ∧ gr_fr [0, 68, 69, 126, 127, 128, 132, 133] [51, 56, 57, 76, 77, 78, 79, 80] I I' ∧ gr_fj [0, 68, 69, 126, 127, 128, 132, 133] [51, 56, 57, 76, 77, 78, 79, 80] J J' ∧ (∃ z : Int, r = some (.inl z) ∧ (-3) ≤ z ∧ z ≤ 1536)))) (67, [(0, .inr (.inr (some 0))), (1, .inl a1), (2, .inl v2_4), (3, .inl v3_8)], [], gr_sh ++ ext, gr_h I6 J7) := by
        intro n
        induction n with
        | zero => intro I6 J7 v3_8 hn; omega
        | succ n ih67 =>
          intro I6 J7 v3_8 hn hI6 FI6 FJ7 m_8
          clear ha1_4 hv2_4 hv3_4 e0_4 f5
          obtain ⟨ha1_8, hv2_4_8, hv3_8, e0_8⟩ := m_8
          have f9 := (show 0 ≤ I6 0 132 ∧ I6 0 132 ≤ 1536 from (hI6 0 132).1)
          have L80 : ∀ (n : Nat) (I10 : gr_I) (J11 : gr_J) (v4_12 : Int), (25 - v4_12).toNat < n → gr_Inv I10 → gr_fr [0, 68, 69, 126, 127, 128, 132, 133] [51, 56, 57, 76, 77, 78, 79, 80] I I10 → gr_fj [0, 68, 69, 126, 127, 128, 132, 133] [51, 56, 57, 76, 77, 78, 79, 80] J J11 → ((0 ≤ a1 ∧ a1 ≤ 7) ∧ (0 ≤ v2_4 ∧ v2_4 ≤ 24) ∧ (0 ≤ v3_8 ∧ v3_8 ≤ 63) ∧ (0 ≤ v4_12 ∧ v4_12 ≤ 24) ∧ (I10 0 132 ≤ 24 * v3_8 + v4_12)) → gv_X (gr_E ws0 tb 6 (yX13_analyse, cX13_analyse, 5, (some .int)) kX13_analyse) (gv_Q cX13_analyse (some .int) (gr_sh ++ ext) (fun r h' => (∃ (I' : gr_I) (J' : gr_J), h' = gr_h I' J' ∧ gr_Inv I' ∧ gr_fr [0, 68, 69, 126, 127, 128, 132, 133] [51, 56, 57, 76, 77, 78, 79, 80] I I' ∧ gr_fj [0, 68, 69, 126, 127, 128, 132, 133] [51, 56, 57, 76, 77, 78, 79, 80] J J' ∧ (∃ z : Int, r = some (.inl z) ∧ (-3) ≤ z ∧ z ≤ 1536)))) (80, [(0, .inr (.inr (some 0))), (1, .inl a1), (2, .inl v2_4), (3, .inl v3_8), (4, .inl v4_12)], [], gr_sh ++ ext, gr_h I10 J11) := by
            intro n
            induction n with
            | zero => intro I10 J11 v4_12 hn; omega
            | succ n ih80 =>
              intro I10 J11 v4_12 hn hI10 FI10 FJ11 m_12
              clear ha1_8 hv2_4_8 hv3_8 e0_8 f9
              obtain ⟨ha1_12, hv2_4_12, hv3_8_12, hv4_12, e0_12⟩ := m_12
              have f13 := (show 0 ≤ I10 0 132 ∧ I10 0 132 ≤ 1536 from (hI10 0 132).1)
              have L134 : ∀ (I14 : gr_I) (J15 : gr_J) , gr_Inv I14 → gr_fr [0, 68, 69, 126, 127, 128, 132, 133] [51, 56, 57, 76, 77, 78, 79, 80] I I14 → gr_fj [0, 68, 69, 126, 127, 128, 132, 133] [51, 56, 57, 76, 77, 78, 79, 80] J J15 → ((0 ≤ a1 ∧ a1 ≤ 7) ∧ (0 ≤ v2_4 ∧ v2_4 ≤ 24) ∧ (0 ≤ v3_8 ∧ v3_8 ≤ 63) ∧ (0 ≤ v4_12 ∧ v4_12 ≤ 23) ∧ (I14 0 132 ≤ 24 * v3_8 + v4_12 + 1)) → gv_X (gr_E ws0 tb 6 (yX13_analyse, cX13_analyse, 5, (some .int)) kX13_analyse) (gv_Q cX13_analyse (some .int) (gr_sh ++ ext) (fun r h' => (∃ (I' : gr_I) (J' : gr_J), h' = gr_h I' J' ∧ gr_Inv I' ∧ gr_fr [0, 68, 69, 126, 127, 128, 132, 133] [51, 56, 57, 76, 77, 78, 79, 80] I I' ∧ gr_fj [0, 68, 69, 126, 127, 128, 132, 133] [51, 56, 57, 76, 77, 78, 79, 80] J J' ∧ (∃ z : Int, r = some (.inl z) ∧ (-3) ≤ z ∧ z ≤ 1536)))) (134, [(0, .inr (.inr (some 0))), (1, .inl a1), (2, .inl v2_4), (3, .inl v3_8), (4, .inl v4_12)], [], gr_sh ++ ext, gr_h I14 J15) := by
                intro I14 J15 hI14 FI14 FJ15 m_16
                clear ha1_12 hv2_4_12 hv3_8_12 hv4_12 e0_12 f13
                obtain ⟨ha1_16, hv2_4_16, hv3_8_16, hv4_12_16, e0_16⟩ := m_16
                have f17 := (show 0 ≤ I14 0 132 ∧ I14 0 132 ≤ 1536 from (hI14 0 132).1)
                refine gv_run 2 true hD (pc' := 80) (lv' := [(4, .inl (v4_12 + 1)), (0, .inr (.inr (some 0))), (1, .inl a1), (2, .inl v2_4), (3, .inl v3_8)]) (st' := []) (h' := gr_h I14 J15) (C := ((True ∧ True) ∧ True)) rfl ⟨⟨trivial, trivial⟩, trivial⟩ ?_
                refine gv_pick [1, 2, 3, 4, 0] rfl ?_
                exact ih80 I14 J15 (v4_12 + 1) (by omega) hI14 FI14 FJ15 (by omega)
              refine gv_run 4 true hD (pc' := 85) (lv' := [(0, .inr (.inr (some 0))), (1, .inl a1), (2, .inl v2_4), (3, .inl v3_8), (4, .inl v4_12)]) (st' := [.inl v3_8, .inl a1, .inr (.inr (some 0)), .inl v4_12]) (h' := gr_h I10 J11) (C := ((((True ∧ True) ∧ True) ∧ True) ∧ True)) rfl ⟨⟨⟨⟨trivial, trivial⟩, trivial⟩, trivial⟩, trivial⟩ ?_
              obtain ⟨r18, h18, E18, P18⟩ := r_cellsOf (ws0 := ws0) (tb := tb) hws htb ext I10 J11 hI10 a1 v3_8 ⟨by omega, by omega⟩ ⟨by omega, by omega⟩ 
              obtain ⟨rfl, ⟨z18, rfl, q18⟩⟩ := P18
              refine gv_callV hD rfl (As := [.inl a1, .inl v3_8]) (st := [.inl v4_12]) rfl (by decide) rfl rfl (gr_lV hws rfl) (Nat.le_of_ble_eq_true rfl) (gz_Ev_mono (d := 1) (by decide) E18) ?_
              show gv_X _ _ (88, [(0, .inr (.inr (some 0))), (1, .inl a1), (2, .inl v2_4), (3, .inl v3_8), (4, .inl v4_12)], [.inl z18, .inl v4_12], gr_sh ++ ext, gr_h I10 J11)
              refine gv_icmp_ge (t := 140) hD rfl rfl ⟨⟨by omega, by omega⟩, ⟨by omega, by omega⟩⟩ (fun c19 => ?_) (fun c19 => ?_)
              · refine gv_run 2 true hD (pc' := 67) (lv' := [(3, .inl (v3_8 + 1)), (0, .inr (.inr (some 0))), (1, .inl a1), (2, .inl v2_4), (4, .inl v4_12)]) (st' := []) (h' := gr_h I10 J11) (C := ((True ∧ True) ∧ True)) rfl ⟨⟨trivial, trivial⟩, trivial⟩ ?_
                refine gv_pick [1, 2, 3, 0] rfl ?_
                exact ih67 I10 J11 (v3_8 + 1) (by omega) hI10 FI10 FJ11 (by omega)
              · refine gv_run 7 true hD (pc' := 100) (lv' := [(0, .inr (.inr (some 0))), (1, .inl a1), (2, .inl v2_4), (3, .inl v3_8), (4, .inl v4_12)]) (st' := [.inr (.inr (some 0)), .inl ((24 * v3_8) + v4_12), .inr (.inr (some 0))]) (h' := gr_h I10 J11) (C := (((((((True ∧ True) ∧ True) ∧ True) ∧ True) ∧ True) ∧ True) ∧ True)) rfl ⟨⟨⟨⟨⟨⟨⟨trivial, trivial⟩, trivial⟩, trivial⟩, trivial⟩, trivial⟩, trivial⟩, trivial⟩ ?_
                refine gv_run 3 true hD (pc' := 105) (lv' := [(0, .inr (.inr (some 0))), (1, .inl a1), (2, .inl v2_4), (3, .inl v3_8), (4, .inl v4_12)]) (st' := [.inl v2_4, .inl 0, .inr (.inr (some 57)), .inl ((24 * v3_8) + v4_12), .inr (.inr (some 0))]) (h' := gr_h I10 J11) (C := (((True ∧ True) ∧ True) ∧ True)) rfl ⟨⟨⟨trivial, trivial⟩, trivial⟩, trivial⟩ ?_
                obtain ⟨r20, h20, E20, P20⟩ := r_isForm_57 (ws0 := ws0) (tb := tb) hws htb ext I10 J11 hI10 (((24 * v3_8) + v4_12)) 0 v2_4 ⟨by omega, by omega⟩ ⟨by omega, by omega⟩ ⟨by omega, by omega⟩ (by omega)
                obtain ⟨rfl, ⟨z20, rfl, q20⟩⟩ := P20
                refine gv_callV hD rfl (As := [.inl ((24 * v3_8) + v4_12), .inr (.inr (some 57)), .inl 0, .inl v2_4]) (st := []) rfl (by decide) rfl rfl (gr_lV hws rfl) (Nat.le_of_ble_eq_true rfl) (gz_Ev_mono (d := 1) (by decide) E20) ?_
                show gv_X _ _ (108, [(0, .inr (.inr (some 0))), (1, .inl a1), (2, .inl v2_4), (3, .inl v3_8), (4, .inl v4_12)], [.inl z20], gr_sh ++ ext, gr_h I10 J11)
                refine gv_if_eq (t := 134) hD rfl rfl ⟨by omega, by omega⟩ (fun c21 => ?_) (fun c21 => ?_)
                · exact L134 I10 J11 hI10 FI10 FJ11 (by omega)
                · have f22 := (show 0 ≤ I10 0 132 ∧ I10 0 132 ≤ 1536 from (hI10 0 132).1)
                  refine gv_run 7 true hD (pc' := 122) (lv' := [(0, .inr (.inr (some 0))), (1, .inl a1), (2, .inl v2_4), (3, .inl v3_8), (4, .inl v4_12)]) (st' := [.inl 1, .inl (I10 0 132), .inr (.inr (some 0)), .inl (I10 0 132), .inr (.inr (some 80))]) (h' := gr_h I10 J11) (C := (((((((True ∧ True) ∧ True) ∧ True) ∧ True) ∧ True) ∧ True) ∧ True)) rfl ⟨⟨⟨⟨⟨⟨⟨trivial, trivial⟩, trivial⟩, trivial⟩, trivial⟩, trivial⟩, trivial⟩, trivial⟩ ?_
                  refine gv_run 2 true hD (pc' := 126) (lv' := [(0, .inr (.inr (some 0))), (1, .inl a1), (2, .inl v2_4), (3, .inl v3_8), (4, .inl v4_12)]) (st' := [.inl (I10 0 132), .inr (.inr (some 80))]) (h' := gz_up (gr_h I10 J11) 0 132 (.inl (((I10 0 132) + 1)))) (C := ((True ∧ True) ∧ True)) rfl ⟨⟨trivial, trivial⟩, trivial⟩ ?_
                  refine gr_st hI10 FI10 rfl rfl ⟨⟨by show 0 ≤ _; omega, by show _ ≤ 1536; omega⟩, trivial⟩ (fun I23 hI23 FI23 q24 p24 => ?_)
                  have f25 := (show 0 ≤ I23 0 132 ∧ I23 0 132 ≤ 1536 from (hI23 0 132).1)
                  refine gv_run 5 true hD (pc' := 133) (lv' := [(0, .inr (.inr (some 0))), (1, .inl a1), (2, .inl v2_4), (3, .inl v3_8), (4, .inl v4_12)]) (st' := [.inl ((24 * v3_8) + v4_12), .inl (I10 0 132), .inr (.inr (some 80))]) (h' := gr_h I23 J11) (C := (((((True ∧ True) ∧ True) ∧ True) ∧ True) ∧ True)) rfl ⟨⟨⟨⟨⟨trivial, trivial⟩, trivial⟩, trivial⟩, trivial⟩, trivial⟩ ?_
                  refine gv_run 1 true hD (pc' := 134) (lv' := [(0, .inr (.inr (some 0))), (1, .inl a1), (2, .inl v2_4), (3, .inl v3_8), (4, .inl v4_12)]) (st' := []) (h' := gz_up (gr_h I23 J11) 80 (Int.toNat ((I10 0 132))) (.inl (((24 * v3_8) + v4_12)))) (C := (True ∧ (0 ≤ (I10 0 132) ∧ (I10 0 132) < ((1536 : Nat) : Int)))) rfl ⟨trivial, ⟨by omega, by omega⟩⟩ ?_
                  refine gr_st hI23 FI23 rfl rfl ⟨⟨by show 0 ≤ _; omega, by show _ ≤ 1535; omega⟩, trivial⟩ (fun I26 hI26 FI26 q27 p27 => ?_)
                  have t28 := p27 0 132 (fun q => absurd q.1 (by decide))
                  have f29 := (show 0 ≤ I26 0 132 ∧ I26 0 132 ≤ 1536 from (hI26 0 132).1)
                  exact L134 I26 J11 hI26 FI26 FJ11 (by omega)
          have f30 := (show 0 ≤ I6 18 (Int.toNat a1) ∧ I6 18 (Int.toNat a1) ≤ 64 from (hI6 18 (Int.toNat a1)).1)
          refine gv_run 5 true hD (pc' := 74) (lv' := [(0, .inr (.inr (some 0))), (1, .inl a1), (2, .inl v2_4), (3, .inl v3_8)]) (st' := [.inl (I6 18 (Int.toNat a1)), .inl v3_8]) (h' := gr_h I6 J7) (C := (((((True ∧ True) ∧ True) ∧ True) ∧ True) ∧ (0 ≤ a1 ∧ a1 < ((8 : Nat) : Int)))) rfl ⟨⟨⟨⟨⟨trivial, trivial⟩, trivial⟩, trivial⟩, trivial⟩, ⟨by omega, by omega⟩⟩ ?_
          refine gv_icmp_ge (t := 146) hD rfl rfl ⟨⟨by omega, by omega⟩, ⟨by omega, by omega⟩⟩ (fun c31 => ?_) (fun c31 => ?_)
          · have f32 := (show 0 ≤ I6 0 132 ∧ I6 0 132 ≤ 1536 from (hI6 0 132).1)
            refine gv_run 2 true hD (pc' := 150) (lv' := [(0, .inr (.inr (some 0))), (1, .inl a1), (2, .inl v2_4), (3, .inl v3_8)]) (st' := [.inl (I6 0 132)]) (h' := gr_h I6 J7) (C := ((True ∧ True) ∧ True)) rfl ⟨⟨trivial, trivial⟩, trivial⟩ ?_
            exact gv_iret hD rfl ⟨I6, J7, rfl, hI6, FI6, FJ7, ⟨_, rfl, by omega⟩⟩
          · refine gv_run 2 true hD (pc' := 80) (lv' := [(4, .inl 0), (0, .inr (.inr (some 0))), (1, .inl a1), (2, .inl v2_4), (3, .inl v3_8)]) (st' := []) (h' := gr_h I6 J7) (C := ((True ∧ True) ∧ True)) rfl ⟨⟨trivial, trivial⟩, trivial⟩ ?_
            refine gv_pick [1, 2, 3, 4, 0] rfl ?_
            exact L80 _ I6 J7 0 (Nat.lt_succ_self _) hI6 FI6 FJ7 (by omega)
      refine gv_run 2 true hD (pc' := 34) (lv' := [(0, .inr (.inr (some 0))), (1, .inl a1), (2, .inl v2_4), (3, .inl v3_4)]) (st' := [.inl v2_4, .inl v3_4]) (h' := gr_h I2 J3) (C := ((True ∧ True) ∧ True)) rfl ⟨⟨trivial, trivial⟩, trivial⟩ ?_
      refine gv_icmp_ge (t := 55) hD rfl rfl ⟨⟨by omega, by omega⟩, ⟨by omega, by omega⟩⟩ (fun c33 => ?_) (fun c33 => ?_)
      · refine gv_run 2 true hD (pc' := 57) (lv' := [(0, .inr (.inr (some 0))), (1, .inl a1), (2, .inl v2_4), (3, .inl v3_4)]) (st' := [.inl a1, .inr (.inr (some 0))]) (h' := gr_h I2 J3) (C := ((True ∧ True) ∧ True)) rfl ⟨⟨trivial, trivial⟩, trivial⟩ ?_
        obtain ⟨r34, h34, E34, P34⟩ := r_forms_w (ws0 := ws0) (tb := tb) hws htb ext I2 J3 hI2 a1 ⟨by omega, by omega⟩ 
        obtain ⟨I35, J36, rfl, hI35, g34, k34, rfl⟩ := P34
        have FI35 := gr_frt FI2 g34 rfl rfl
        have FJ36 := gr_fjt FJ3 k34 rfl rfl
        have t37 := g34 0 132 rfl
        have f38 := (show 0 ≤ I35 0 132 ∧ I35 0 132 ≤ 1536 from (hI35 0 132).1)
        refine gv_callV hD rfl (As := [.inl a1]) (st := []) rfl (by decide) rfl rfl (gr_lV hws rfl) (Nat.le_of_ble_eq_true rfl) (gz_Ev_mono (d := 6) (by decide) E34) ?_
        show gv_X _ _ (60, [(0, .inr (.inr (some 0))), (1, .inl a1), (2, .inl v2_4), (3, .inl v3_4)], [], gr_sh ++ ext, gr_h I35 J36)
        refine gv_run 3 true hD (pc' := 65) (lv' := [(0, .inr (.inr (some 0))), (1, .inl a1), (2, .inl v2_4), (3, .inl v3_4)]) (st' := []) (h' := gz_up (gr_h I35 J36) 0 133 (.inl a1)) (C := (((True ∧ True) ∧ True) ∧ True)) rfl ⟨⟨⟨trivial, trivial⟩, trivial⟩, trivial⟩ ?_
        refine gr_st hI35 FI35 rfl rfl ⟨⟨by show 0 ≤ _; omega, by show _ ≤ 7; omega⟩, trivial⟩ (fun I39 hI39 FI39 q40 p40 => ?_)
        have t41 := p40 0 132 (by decide)
        have f42 := (show 0 ≤ I39 0 132 ∧ I39 0 132 ≤ 1536 from (hI39 0 132).1)
        refine gv_run 2 true hD (pc' := 67) (lv' := [(3, .inl 0), (0, .inr (.inr (some 0))), (1, .inl a1), (2, .inl v2_4)]) (st' := []) (h' := gr_h I39 J36) (C := ((True ∧ True) ∧ True)) rfl ⟨⟨trivial, trivial⟩, trivial⟩ ?_
        refine gv_pick [1, 2, 3, 0] rfl ?_
        exact L67 _ I39 J36 0 (Nat.lt_succ_self _) hI39 FI39 FJ36 (by omega)
      · have f43 := (show (-128) ≤ I2 76 (Int.toNat v3_4) ∧ I2 76 (Int.toNat v3_4) ≤ 127 from (hI2 76 (Int.toNat v3_4)).1)
        refine gv_run 7 true hD (pc' := 48) (lv' := [(0, .inr (.inr (some 0))), (1, .inl a1), (2, .inl v2_4), (3, .inl v3_4)]) (st' := [.inl (I2 76 (Int.toNat v3_4)), .inl v3_4, .inr (.inr (some 57))]) (h' := gr_h I2 J3) (C := (((((((True ∧ True) ∧ True) ∧ True) ∧ True) ∧ True) ∧ True) ∧ (0 ≤ v3_4 ∧ v3_4 < ((64 : Nat) : Int)))) rfl ⟨⟨⟨⟨⟨⟨⟨trivial, trivial⟩, trivial⟩, trivial⟩, trivial⟩, trivial⟩, trivial⟩, ⟨by omega, by omega⟩⟩ ?_
        have f44 := gw_nar_byte (x := ((I2 76 (Int.toNat v3_4))))
        refine gv_run 1 true hD (pc' := 49) (lv' := [(0, .inr (.inr (some 0))), (1, .inl a1), (2, .inl v2_4), (3, .inl v3_4)]) (st' := []) (h' := gz_up (gr_h I2 J3) 57 (Int.toNat v3_4) (.inl (((vp_nar .byte (Int32.ofInt ((I2 76 (Int.toNat v3_4))))).toInt)))) (C := (True ∧ (0 ≤ v3_4 ∧ v3_4 < ((1000 : Nat) : Int)))) rfl ⟨trivial, ⟨by omega, by omega⟩⟩ ?_
        refine gr_st hI2 FI2 rfl rfl ⟨⟨by show (-128) ≤ _; omega, by show _ ≤ 127; omega⟩, trivial⟩ (fun I45 hI45 FI45 q46 p46 => ?_)
        have t47 := p46 0 132 (fun q => absurd q.1 (by decide))
        have f48 := (show 0 ≤ I45 0 132 ∧ I45 0 132 ≤ 1536 from (hI45 0 132).1)
        refine gv_run 2 true hD (pc' := 32) (lv' := [(3, .inl (v3_4 + 1)), (0, .inr (.inr (some 0))), (1, .inl a1), (2, .inl v2_4)]) (st' := []) (h' := gr_h I45 J3) (C := ((True ∧ True) ∧ True)) rfl ⟨⟨trivial, trivial⟩, trivial⟩ ?_
        refine gv_pick [1, 2, 3, 0] rfl ?_
        exact ih32 I45 J3 v2_4 (v3_4 + 1) (by omega) hI45 FI45 FJ3 (by omega)
  refine gv_run 2 true hD (pc' := 2) (lv' := [(0, .inr (.inr (some 0))), (1, .inl a1)]) (st' := [.inl a1, .inr (.inr (some 0))]) (h' := gr_h I J) (C := ((True ∧ True) ∧ True)) rfl ⟨⟨trivial, trivial⟩, trivial⟩ ?_
  obtain ⟨r49, h49, E49, P49⟩ := r_noTongue (ws0 := ws0) (tb := tb) hws htb ext I J hI a1 ⟨by omega, by omega⟩ 
  obtain ⟨I50, J51, rfl, hI50, g49, k49, ⟨z49, rfl, q49⟩⟩ := P49
  have FI50 := gr_frt FI g49 rfl rfl
  have FJ51 := gr_fjt FJ k49 rfl rfl
  have t52 := g49 0 132 rfl
  have f53 := (show 0 ≤ I50 0 132 ∧ I50 0 132 ≤ 1536 from (hI50 0 132).1)
  refine gv_callV hD rfl (As := [.inl a1]) (st := []) rfl (by decide) rfl rfl (gr_lV hws rfl) (Nat.le_of_ble_eq_true rfl) (gz_Ev_mono (d := 1) (by decide) E49) ?_
  show gv_X _ _ (5, [(0, .inr (.inr (some 0))), (1, .inl a1)], [.inl z49], gr_sh ++ ext, gr_h I50 J51)
  refine gv_if_eq (t := 10) hD rfl rfl ⟨by omega, by omega⟩ (fun c54 => ?_) (fun c54 => ?_)
  · refine gv_run 3 true hD (pc' := 15) (lv' := [(0, .inr (.inr (some 0))), (1, .inl a1)]) (st' := []) (h' := gz_up (gr_h I50 J51) 0 132 (.inl 0)) (C := (((True ∧ True) ∧ True) ∧ True)) rfl ⟨⟨⟨trivial, trivial⟩, trivial⟩, trivial⟩ ?_
    refine gr_st hI50 FI50 rfl rfl ⟨⟨by show 0 ≤ _; omega, by show _ ≤ 1536; omega⟩, trivial⟩ (fun I55 hI55 FI55 q56 p56 => ?_)
    have f57 := (show 0 ≤ I55 0 132 ∧ I55 0 132 ≤ 1536 from (hI55 0 132).1)
    refine gv_run 1 true hD (pc' := 16) (lv' := [(0, .inr (.inr (some 0))), (1, .inl a1)]) (st' := [.inr (.inr (some 0))]) (h' := gr_h I55 J51) (C := (True ∧ True)) rfl ⟨trivial, trivial⟩ ?_
    obtain ⟨r58, h58, E58, P58⟩ := r_oneWord (ws0 := ws0) (tb := tb) hws htb ext I55 J51 hI55   
    obtain ⟨I59, J60, rfl, hI59, g58, k58, ⟨z58, rfl, q58⟩⟩ := P58
    have FI59 := gr_frt FI55 g58 rfl rfl
    have FJ60 := gr_fjt FJ51 k58 rfl rfl
    have t61 := g58 0 132 rfl
    have f62 := (show 0 ≤ I59 0 132 ∧ I59 0 132 ≤ 1536 from (hI59 0 132).1)
    refine gv_callV hD rfl (As := []) (st := []) rfl (by decide) rfl rfl (gr_lV hws rfl) (Nat.le_of_ble_eq_true rfl) (gz_Ev_mono (d := 2) (by decide) E58) ?_
    show gv_X _ _ (19, [(0, .inr (.inr (some 0))), (1, .inl a1)], [.inl z58], gr_sh ++ ext, gr_h I59 J60)
    refine gv_if_ne (t := 25) hD rfl rfl ⟨by omega, by omega⟩ (fun c63 => ?_) (fun c63 => ?_)
    · have f64 := (show 0 ≤ I59 0 126 ∧ I59 0 126 ≤ 24 from (hI59 0 126).1)
      refine gv_run 5 true hD (pc' := 32) (lv' := [(3, .inl 0), (2, .inl (I59 0 126)), (0, .inr (.inr (some 0))), (1, .inl a1)]) (st' := []) (h' := gr_h I59 J60) (C := (((((True ∧ True) ∧ True) ∧ True) ∧ True) ∧ True)) rfl ⟨⟨⟨⟨⟨trivial, trivial⟩, trivial⟩, trivial⟩, trivial⟩, trivial⟩ ?_
      refine gv_pick [2, 3, 1, 0] rfl ?_
      exact L32 _ I59 J60 (I59 0 126) 0 (Nat.lt_succ_self _) hI59 FI59 FJ60 (by omega)
    · refine gv_run 1 true hD (pc' := 24) (lv' := [(0, .inr (.inr (some 0))), (1, .inl a1)]) (st' := [.inl (-3)]) (h' := gr_h I59 J60) (C := (True ∧ True)) rfl ⟨trivial, trivial⟩ ?_
      exact gv_iret hD rfl ⟨I59, J60, rfl, hI59, FI59, FJ60, ⟨_, rfl, by omega⟩⟩
  · refine gv_run 1 true hD (pc' := 9) (lv' := [(0, .inr (.inr (some 0))), (1, .inl a1)]) (st' := [.inl 0]) (h' := gr_h I50 J51) (C := (True ∧ True)) rfl ⟨trivial, trivial⟩ ?_
    exact gv_iret hD rfl ⟨I50, J51, rfl, hI50, FI50, FJ51, ⟨_, rfl, by omega⟩⟩
set_option maxHeartbeats 4000000 in
set_option maxRecDepth 100000 in
theorem r_guess_w {ws0 : List Cond} {tb : String → gz_T} (hws : ∀ w ∈ gr_ws, w ∈ ws0) (htb : tb RX13 = gr_T) (ext : gz_Sh) (I : gr_I) (J : gr_J) (hI : gr_Inv I) (a1 : Int) (ha1 : (-2147483648) ≤ a1 ∧ a1 ≤ 2147483647)  : ∃ r h', gz_Ev ws0 tb 7 (yX13_guess, cX13_guess, 8, (some .int)) [.inr (.inr (some 0)), .inl a1] (gr_sh ++ ext) (gr_h I J) r (gr_sh ++ ext) h' 0 0 ∧ (∃ (I' : gr_I) (J' : gr_J), h' = gr_h I' J' ∧ gr_Inv I' ∧ gr_fr [0, 68, 69, 126, 127, 128, 136, 137, 138] [51, 56, 57, 76, 77, 78, 79, 81, 82] I I' ∧ gr_fj [0, 68, 69, 126, 127, 128, 136, 137, 138] [51, 56, 57, 76, 77, 78, 79, 81, 82] J J' ∧ (∃ z : Int, r = some (.inl z) ∧ (-3) ≤ z ∧ z ≤ 24)) := by
  have FI : gr_fr [0, 68, 69, 126, 127, 128, 136, 137, 138] [51, 56, 57, 76, 77, 78, 79, 81, 82] I I := fun _ _ _ => rfl
  have FJ : gr_fj [0, 68, 69, 126, 127, 128, 136, 137, 138] [51, 56, 57, 76, 77, 78, 79, 81, 82] J J := fun _ _ _ => rfl
  have hD : gv_D (gr_E ws0 tb 6 (yX13_guess, cX13_guess, 8, (some .int)) kX13_guess) := gq_ok oX13_guess
  refine gr_ev (d := 6) (l := kX13_guess) (Po := fun r h' => (∃ (I' : gr_I) (J' : gr_J), h' = gr_h I' J' ∧ gr_Inv I' ∧ gr_fr [0, 68, 69, 126, 127, 128, 136, 137, 138] [51, 56, 57, 76, 77, 78, 79, 81, 82] I I' ∧ gr_fj [0, 68, 69, 126, 127, 128, 136, 137, 138] [51, 56, 57, 76, 77, 78, 79, 81, 82] J J' ∧ (∃ z : Int, r = some (.inl z) ∧ (-3) ≤ z ∧ z ≤ 24))) htb rfl (Nat.le_of_ble_eq_true rfl) ?_
  have f1 := (show 0 ≤ I 0 136 ∧ I 0 136 ≤ 24 from (hI 0 136).1)
  have f2 := (show 0 ≤ I 0 137 ∧ I 0 137 ≤ 40000 from (hI 0 137).1)
  have L32 : ∀ (n : Nat) (I3 : gr_I) (J4 : gr_J) (v2_5 : Int) (v3_5 : Int), (25 - v3_5).toNat < n → gr_Inv I3 → gr_fr [0, 68, 69, 126, 127, 128, 136, 137, 138] [51, 56, 57, 76, 77, 78, 79, 81, 82] I I3 → gr_fj [0, 68, 69, 126, 127, 128, 136, 137, 138] [51, 56, 57, 76, 77, 78, 79, 81, 82] J J4 → ((0 ≤ a1 ∧ a1 ≤ 7) ∧ (0 ≤ v2_5 ∧ v2_5 ≤ 24) ∧ (0 ≤ v3_5 ∧ v3_5 ≤ 24)) → gv_X (gr_E ws0 tb 6 (yX13_guess, cX13_guess, 8, (some .int)) kX13_guess) (gv_Q cX13_guess (some .int) (gr_sh ++ ext) (fun r h' => (∃ (I' : gr_I) (J' : gr_J), h' = gr_h I' J' ∧ gr_Inv I' ∧ gr_fr [0, 68, 69, 126, 127, 128, 136, 137, 138] [51, 56, 57, 76, 77, 78, 79, 81, 82] I I' ∧ gr_fj [0, 68, 69, 126, 127, 128, 136, 137, 138] [51, 56, 57, 76, 77, 78, 79, 81, 82] J J' ∧ (∃ z : Int, r = some (.inl z) ∧ (-3) ≤ z ∧ z ≤ 24)))) (32, [(0, .inr (.inr (some 0))), (1, .inl a1), (2, .inl v2_5), (3, .inl v3_5)], [], gr_sh ++ ext, gr_h I3 J4) := by
    intro n
    induction n with
    | zero => intro I3 J4 v2_5 v3_5 hn; omega
    | succ n ih32 =>
      intro I3 J4 v2_5 v3_5 hn hI3 FI3 FJ4 m_5
      obtain ⟨ha1_5, hv2_5, hv3_5⟩ := m_5
      have f6 := (show 0 ≤ I3 0 136 ∧ I3 0 136 ≤ 24 from (hI3 0 136).1)
      have f7 := (show 0 ≤ I3 0 137 ∧ I3 0 137 ≤ 40000 from (hI3 0 137).1)
      have L66 : ∀ (n : Nat) (I8 : gr_I) (J9 : gr_J) (v3_10 : Int), (v3_10 - (-1)).toNat < n → gr_Inv I8 → gr_fr [0, 68, 69, 126, 127, 128, 136, 137, 138] [51, 56, 57, 76, 77, 78, 79, 81, 82] I I8 → gr_fj [0, 68, 69, 126, 127, 128, 136, 137, 138] [51, 56, 57, 76, 77, 78, 79, 81, 82] J J9 → ((0 ≤ a1 ∧ a1 ≤ 7) ∧ (0 ≤ v2_5 ∧ v2_5 ≤ 24) ∧ (0 ≤ v3_10 ∧ v3_10 ≤ 4) ∧ (v3_10 ≤ v2_5)) → gv_X (gr_E ws0 tb 6 (yX13_guess, cX13_guess, 8, (some .int)) kX13_guess) (gv_Q cX13_guess (some .int) (gr_sh ++ ext) (fun r h' => (∃ (I' : gr_I) (J' : gr_J), h' = gr_h I' J' ∧ gr_Inv I' ∧ gr_fr [0, 68, 69, 126, 127, 128, 136, 137, 138] [51, 56, 57, 76, 77, 78, 79, 81, 82] I I' ∧ gr_fj [0, 68, 69, 126, 127, 128, 136, 137, 138] [51, 56, 57, 76, 77, 78, 79, 81, 82] J J' ∧ (∃ z : Int, r = some (.inl z) ∧ (-3) ≤ z ∧ z ≤ 24)))) (66, [(0, .inr (.inr (some 0))), (1, .inl a1), (2, .inl v2_5), (3, .inl v3_10)], [], gr_sh ++ ext, gr_h I8 J9) := by
        intro n
        induction n with
        | zero => intro I8 J9 v3_10 hn; omega
        | succ n ih66 =>
          intro I8 J9 v3_10 hn hI8 FI8 FJ9 m_10
          clear ha1_5 hv2_5 hv3_5 f6 f7
          obtain ⟨ha1_10, hv2_5_10, hv3_10, e0_10⟩ := m_10
          have f11 := (show 0 ≤ I8 0 136 ∧ I8 0 136 ≤ 24 from (hI8 0 136).1)
          have f12 := (show 0 ≤ I8 0 137 ∧ I8 0 137 ≤ 40000 from (hI8 0 137).1)
          have L90 : ∀ (n : Nat) (I13 : gr_I) (J14 : gr_J) (v4_15 : Int), (25 - v4_15).toNat < n → gr_Inv I13 → gr_fr [0, 68, 69, 126, 127, 128, 136, 137, 138] [51, 56, 57, 76, 77, 78, 79, 81, 82] I I13 → gr_fj [0, 68, 69, 126, 127, 128, 136, 137, 138] [51, 56, 57, 76, 77, 78, 79, 81, 82] J J14 → ((0 ≤ a1 ∧ a1 ≤ 7) ∧ (1 ≤ v2_5 ∧ v2_5 ≤ 24) ∧ (1 ≤ v3_10 ∧ v3_10 ≤ 4) ∧ (0 ≤ v4_15 ∧ v4_15 ≤ 24) ∧ (v3_10 ≤ v2_5) ∧ (I13 0 136 ≤ v4_15) ∧ (I13 0 137 ≤ 1536 * v4_15)) → gv_X (gr_E ws0 tb 6 (yX13_guess, cX13_guess, 8, (some .int)) kX13_guess) (gv_Q cX13_guess (some .int) (gr_sh ++ ext) (fun r h' => (∃ (I' : gr_I) (J' : gr_J), h' = gr_h I' J' ∧ gr_Inv I' ∧ gr_fr [0, 68, 69, 126, 127, 128, 136, 137, 138] [51, 56, 57, 76, 77, 78, 79, 81, 82] I I' ∧ gr_fj [0, 68, 69, 126, 127, 128, 136, 137, 138] [51, 56, 57, 76, 77, 78, 79, 81, 82] J J' ∧ (∃ z : Int, r = some (.inl z) ∧ (-3) ≤ z ∧ z ≤ 24)))) (90, [(0, .inr (.inr (some 0))), (1, .inl a1), (2, .inl v2_5), (3, .inl v3_10), (4, .inl v4_15)], [], gr_sh ++ ext, gr_h I13 J14) := by
            intro n
            induction n with
            | zero => intro I13 J14 v4_15 hn; omega
            | succ n ih90 =>
              intro I13 J14 v4_15 hn hI13 FI13 FJ14 m_15
              clear ha1_10 hv2_5_10 hv3_10 e0_10 f11 f12
              obtain ⟨ha1_15, hv2_5_15, hv3_10_15, hv4_15, e0_15, e1_15, e2_15⟩ := m_15
              have f16 := (show 0 ≤ I13 0 136 ∧ I13 0 136 ≤ 24 from (hI13 0 136).1)
              have f17 := (show 0 ≤ I13 0 137 ∧ I13 0 137 ≤ 40000 from (hI13 0 137).1)
              have L107 : ∀ (n : Nat) (v5_18 : Int) (v6_18 : Int), (65 - v6_18).toNat < n → ((0 ≤ a1 ∧ a1 ≤ 7) ∧ (1 ≤ v2_5 ∧ v2_5 ≤ 24) ∧ (1 ≤ v3_10 ∧ v3_10 ≤ 4) ∧ (0 ≤ v4_15 ∧ v4_15 ≤ 23) ∧ (0 ≤ v5_18 ∧ v5_18 ≤ 1536) ∧ (0 ≤ v6_18 ∧ v6_18 ≤ 64) ∧ (v3_10 ≤ v2_5) ∧ (v5_18 ≤ 24 * v6_18)) → gv_X (gr_E ws0 tb 6 (yX13_guess, cX13_guess, 8, (some .int)) kX13_guess) (gv_Q cX13_guess (some .int) (gr_sh ++ ext) (fun r h' => (∃ (I' : gr_I) (J' : gr_J), h' = gr_h I' J' ∧ gr_Inv I' ∧ gr_fr [0, 68, 69, 126, 127, 128, 136, 137, 138] [51, 56, 57, 76, 77, 78, 79, 81, 82] I I' ∧ gr_fj [0, 68, 69, 126, 127, 128, 136, 137, 138] [51, 56, 57, 76, 77, 78, 79, 81, 82] J J' ∧ (∃ z : Int, r = some (.inl z) ∧ (-3) ≤ z ∧ z ≤ 24)))) (107, [(0, .inr (.inr (some 0))), (1, .inl a1), (2, .inl v2_5), (3, .inl v3_10), (4, .inl v4_15), (5, .inl v5_18), (6, .inl v6_18)], [], gr_sh ++ ext, gr_h I13 J14) := by
                intro n
                induction n with
                | zero => intro v5_18 v6_18 hn; omega
                | succ n ih107 =>
                  intro v5_18 v6_18 hn m_18
                  obtain ⟨ha1_18, hv2_5_18, hv3_10_18, hv4_15_18, hv5_18, hv6_18, e0_18, e1_18⟩ := m_18
                  have f19 := (show 0 ≤ I13 0 136 ∧ I13 0 136 ≤ 24 from (hI13 0 136).1)
                  have f20 := (show 0 ≤ I13 0 137 ∧ I13 0 137 ≤ 40000 from (hI13 0 137).1)
                  have L179 : ∀ (v5_21 : Int), ((0 ≤ a1 ∧ a1 ≤ 7) ∧ (1 ≤ v2_5 ∧ v2_5 ≤ 24) ∧ (1 ≤ v3_10 ∧ v3_10 ≤ 4) ∧ (0 ≤ v4_15 ∧ v4_15 ≤ 23) ∧ (0 ≤ v5_21 ∧ v5_21 ≤ 1536) ∧ (0 ≤ v6_18 ∧ v6_18 ≤ 63) ∧ (v3_10 ≤ v2_5) ∧ (v5_21 ≤ 24 * v6_18 + 24)) → gv_X (gr_E ws0 tb 6 (yX13_guess, cX13_guess, 8, (some .int)) kX13_guess) (gv_Q cX13_guess (some .int) (gr_sh ++ ext) (fun r h' => (∃ (I' : gr_I) (J' : gr_J), h' = gr_h I' J' ∧ gr_Inv I' ∧ gr_fr [0, 68, 69, 126, 127, 128, 136, 137, 138] [51, 56, 57, 76, 77, 78, 79, 81, 82] I I' ∧ gr_fj [0, 68, 69, 126, 127, 128, 136, 137, 138] [51, 56, 57, 76, 77, 78, 79, 81, 82] J J' ∧ (∃ z : Int, r = some (.inl z) ∧ (-3) ≤ z ∧ z ≤ 24)))) (179, [(0, .inr (.inr (some 0))), (1, .inl a1), (2, .inl v2_5), (3, .inl v3_10), (4, .inl v4_15), (5, .inl v5_21), (6, .inl v6_18)], [], gr_sh ++ ext, gr_h I13 J14) := by
                    intro v5_21 m_21
                    obtain ⟨ha1_21, hv2_5_21, hv3_10_21, hv4_15_21, hv5_21, hv6_18_21, e0_21, e1_21⟩ := m_21
                    have f22 := (show 0 ≤ I13 0 136 ∧ I13 0 136 ≤ 24 from (hI13 0 136).1)
                    have f23 := (show 0 ≤ I13 0 137 ∧ I13 0 137 ≤ 40000 from (hI13 0 137).1)
                    refine gv_run 2 true hD (pc' := 107) (lv' := [(6, .inl (v6_18 + 1)), (0, .inr (.inr (some 0))), (1, .inl a1), (2, .inl v2_5), (3, .inl v3_10), (4, .inl v4_15), (5, .inl v5_21)]) (st' := []) (h' := gr_h I13 J14) (C := ((True ∧ True) ∧ True)) rfl ⟨⟨trivial, trivial⟩, trivial⟩ ?_
                    refine gv_pick [1, 2, 3, 4, 5, 6, 0] rfl ?_
                    exact ih107 v5_21 (v6_18 + 1) (by omega) (by omega)
                  have L141 : ∀ (n : Nat) (v5_24 : Int) (v7_24 : Int), (25 - v7_24).toNat < n → ((0 ≤ a1 ∧ a1 ≤ 7) ∧ (1 ≤ v2_5 ∧ v2_5 ≤ 24) ∧ (1 ≤ v3_10 ∧ v3_10 ≤ 4) ∧ (0 ≤ v4_15 ∧ v4_15 ≤ 23) ∧ (0 ≤ v5_24 ∧ v5_24 ≤ 1536) ∧ (0 ≤ v6_18 ∧ v6_18 ≤ 63) ∧ (0 ≤ v7_24 ∧ v7_24 ≤ 24) ∧ (v3_10 ≤ v2_5) ∧ (v5_24 ≤ 24 * v6_18 + v7_24)) → gv_X (gr_E ws0 tb 6 (yX13_guess, cX13_guess, 8, (some .int)) kX13_guess) (gv_Q cX13_guess (some .int) (gr_sh ++ ext) (fun r h' => (∃ (I' : gr_I) (J' : gr_J), h' = gr_h I' J' ∧ gr_Inv I' ∧ gr_fr [0, 68, 69, 126, 127, 128, 136, 137, 138] [51, 56, 57, 76, 77, 78, 79, 81, 82] I I' ∧ gr_fj [0, 68, 69, 126, 127, 128, 136, 137, 138] [51, 56, 57, 76, 77, 78, 79, 81, 82] J J' ∧ (∃ z : Int, r = some (.inl z) ∧ (-3) ≤ z ∧ z ≤ 24)))) (141, [(0, .inr (.inr (some 0))), (1, .inl a1), (2, .inl v2_5), (3, .inl v3_10), (4, .inl v4_15), (5, .inl v5_24), (6, .inl v6_18), (7, .inl v7_24)], [], gr_sh ++ ext, gr_h I13 J14) := by
                    intro n
                    induction n with
                    | zero => intro v5_24 v7_24 hn; omega
                    | succ n ih141 =>
                      intro v5_24 v7_24 hn m_24
                      obtain ⟨ha1_24, hv2_5_24, hv3_10_24, hv4_15_24, hv5_24, hv6_18_24, hv7_24, e0_24, e1_24⟩ := m_24
                      have f25 := (show 0 ≤ I13 0 136 ∧ I13 0 136 ≤ 24 from (hI13 0 136).1)
                      have f26 := (show 0 ≤ I13 0 137 ∧ I13 0 137 ≤ 40000 from (hI13 0 137).1)
                      have L173 : ∀ (v5_27 : Int), ((0 ≤ a1 ∧ a1 ≤ 7) ∧ (1 ≤ v2_5 ∧ v2_5 ≤ 24) ∧ (1 ≤ v3_10 ∧ v3_10 ≤ 4) ∧ (0 ≤ v4_15 ∧ v4_15 ≤ 23) ∧ (0 ≤ v5_27 ∧ v5_27 ≤ 1536) ∧ (0 ≤ v6_18 ∧ v6_18 ≤ 63) ∧ (0 ≤ v7_24 ∧ v7_24 ≤ 23) ∧ (v3_10 ≤ v2_5) ∧ (v5_27 ≤ 24 * v6_18 + v7_24 + 1)) → gv_X (gr_E ws0 tb 6 (yX13_guess, cX13_guess, 8, (some .int)) kX13_guess) (gv_Q cX13_guess (some .int) (gr_sh ++ ext) (fun r h' => (∃ (I' : gr_I) (J' : gr_J), h' = gr_h I' J' ∧ gr_Inv I' ∧ gr_fr [0, 68, 69, 126, 127, 128, 136, 137, 138] [51, 56, 57, 76, 77, 78, 79, 81, 82] I I' ∧ gr_fj [0, 68, 69, 126, 127, 128, 136, 137, 138] [51, 56, 57, 76, 77, 78, 79, 81, 82] J J' ∧ (∃ z : Int, r = some (.inl z) ∧ (-3) ≤ z ∧ z ≤ 24)))) (173, [(0, .inr (.inr (some 0))), (1, .inl a1), (2, .inl v2_5), (3, .inl v3_10), (4, .inl v4_15), (5, .inl v5_27), (6, .inl v6_18), (7, .inl v7_24)], [], gr_sh ++ ext, gr_h I13 J14) := by
                        intro v5_27 m_27
                        obtain ⟨ha1_27, hv2_5_27, hv3_10_27, hv4_15_27, hv5_27, hv6_18_27, hv7_24_27, e0_27, e1_27⟩ := m_27
                        have f28 := (show 0 ≤ I13 0 136 ∧ I13 0 136 ≤ 24 from (hI13 0 136).1)
                        have f29 := (show 0 ≤ I13 0 137 ∧ I13 0 137 ≤ 40000 from (hI13 0 137).1)
                        refine gv_run 2 true hD (pc' := 141) (lv' := [(7, .inl (v7_24 + 1)), (0, .inr (.inr (some 0))), (1, .inl a1), (2, .inl v2_5), (3, .inl v3_10), (4, .inl v4_15), (5, .inl v5_27), (6, .inl v6_18)]) (st' := []) (h' := gr_h I13 J14) (C := ((True ∧ True) ∧ True)) rfl ⟨⟨trivial, trivial⟩, trivial⟩ ?_
                        refine gv_pick [1, 2, 3, 4, 5, 6, 7, 0] rfl ?_
                        exact ih141 v5_27 (v7_24 + 1) (by omega) (by omega)
                      refine gv_run 4 true hD (pc' := 147) (lv' := [(0, .inr (.inr (some 0))), (1, .inl a1), (2, .inl v2_5), (3, .inl v3_10), (4, .inl v4_15), (5, .inl v5_24), (6, .inl v6_18), (7, .inl v7_24)]) (st' := [.inl v6_18, .inl a1, .inr (.inr (some 0)), .inl v7_24]) (h' := gr_h I13 J14) (C := ((((True ∧ True) ∧ True) ∧ True) ∧ True)) rfl ⟨⟨⟨⟨trivial, trivial⟩, trivial⟩, trivial⟩, trivial⟩ ?_
                      obtain ⟨r30, h30, E30, P30⟩ := r_cellsOf (ws0 := ws0) (tb := tb) hws htb ext I13 J14 hI13 a1 v6_18 ⟨by omega, by omega⟩ ⟨by omega, by omega⟩ 
                      obtain ⟨rfl, ⟨z30, rfl, q30⟩⟩ := P30
                      refine gv_callV hD rfl (As := [.inl a1, .inl v6_18]) (st := [.inl v7_24]) rfl (by decide) rfl rfl (gr_lV hws rfl) (Nat.le_of_ble_eq_true rfl) (gz_Ev_mono (d := 1) (by decide) E30) ?_
                      show gv_X _ _ (150, [(0, .inr (.inr (some 0))), (1, .inl a1), (2, .inl v2_5), (3, .inl v3_10), (4, .inl v4_15), (5, .inl v5_24), (6, .inl v6_18), (7, .inl v7_24)], [.inl z30, .inl v7_24], gr_sh ++ ext, gr_h I13 J14)
                      refine gv_icmp_ge (t := 179) hD rfl rfl ⟨⟨by omega, by omega⟩, ⟨by omega, by omega⟩⟩ (fun c31 => ?_) (fun c31 => ?_)
                      · refine gv_pick [0, 1, 2, 3, 4, 5, 6] rfl ?_
                        exact L179 v5_24 (by omega)
                      · refine gv_run 7 true hD (pc' := 163) (lv' := [(0, .inr (.inr (some 0))), (1, .inl a1), (2, .inl v2_5), (3, .inl v3_10), (4, .inl v4_15), (5, .inl v5_24), (6, .inl v6_18), (7, .inl v7_24)]) (st' := [.inl v2_5, .inl ((24 * v6_18) + v7_24), .inr (.inr (some 0))]) (h' := gr_h I13 J14) (C := (((((((True ∧ True) ∧ True) ∧ True) ∧ True) ∧ True) ∧ True) ∧ True)) rfl ⟨⟨⟨⟨⟨⟨⟨trivial, trivial⟩, trivial⟩, trivial⟩, trivial⟩, trivial⟩, trivial⟩, trivial⟩ ?_
                        refine gv_run 1 true hD (pc' := 164) (lv' := [(0, .inr (.inr (some 0))), (1, .inl a1), (2, .inl v2_5), (3, .inl v3_10), (4, .inl v4_15), (5, .inl v5_24), (6, .inl v6_18), (7, .inl v7_24)]) (st' := [.inl v3_10, .inl v2_5, .inl ((24 * v6_18) + v7_24), .inr (.inr (some 0))]) (h' := gr_h I13 J14) (C := (True ∧ True)) rfl ⟨trivial, trivial⟩ ?_
                        obtain ⟨r32, h32, E32, P32⟩ := r_endsSo (ws0 := ws0) (tb := tb) hws htb ext I13 J14 hI13 (((24 * v6_18) + v7_24)) v2_5 v3_10 ⟨by omega, by omega⟩ ⟨by omega, by omega⟩ ⟨by omega, by omega⟩ (by omega)
                        obtain ⟨rfl, ⟨z32, rfl, q32⟩⟩ := P32
                        refine gv_callV hD rfl (As := [.inl ((24 * v6_18) + v7_24), .inl v2_5, .inl v3_10]) (st := []) rfl (by decide) rfl rfl (gr_lV hws rfl) (Nat.le_of_ble_eq_true rfl) (gz_Ev_mono (d := 1) (by decide) E32) ?_
                        show gv_X _ _ (167, [(0, .inr (.inr (some 0))), (1, .inl a1), (2, .inl v2_5), (3, .inl v3_10), (4, .inl v4_15), (5, .inl v5_24), (6, .inl v6_18), (7, .inl v7_24)], [.inl z32], gr_sh ++ ext, gr_h I13 J14)
                        refine gv_if_eq (t := 173) hD rfl rfl ⟨by omega, by omega⟩ (fun c33 => ?_) (fun c33 => ?_)
                        · exact L173 v5_24 (by omega)
                        · refine gv_run 1 true hD (pc' := 173) (lv' := [(5, .inl (v5_24 + 1)), (0, .inr (.inr (some 0))), (1, .inl a1), (2, .inl v2_5), (3, .inl v3_10), (4, .inl v4_15), (6, .inl v6_18), (7, .inl v7_24)]) (st' := []) (h' := gr_h I13 J14) (C := (True ∧ True)) rfl ⟨trivial, trivial⟩ ?_
                          refine gv_pick [1, 2, 3, 4, 5, 0, 6, 7] rfl ?_
                          exact L173 (v5_24 + 1) (by omega)
                  have L233 : ∀ (I34 : gr_I) (J35 : gr_J) , gr_Inv I34 → gr_fr [0, 68, 69, 126, 127, 128, 136, 137, 138] [51, 56, 57, 76, 77, 78, 79, 81, 82] I I34 → gr_fj [0, 68, 69, 126, 127, 128, 136, 137, 138] [51, 56, 57, 76, 77, 78, 79, 81, 82] J J35 → ((0 ≤ a1 ∧ a1 ≤ 7) ∧ (1 ≤ v2_5 ∧ v2_5 ≤ 24) ∧ (1 ≤ v3_10 ∧ v3_10 ≤ 4) ∧ (0 ≤ v4_15 ∧ v4_15 ≤ 23) ∧ (v3_10 ≤ v2_5) ∧ (I34 0 136 ≤ v4_15 + 1) ∧ (I34 0 137 ≤ 1536 * v4_15 + 1536)) → gv_X (gr_E ws0 tb 6 (yX13_guess, cX13_guess, 8, (some .int)) kX13_guess) (gv_Q cX13_guess (some .int) (gr_sh ++ ext) (fun r h' => (∃ (I' : gr_I) (J' : gr_J), h' = gr_h I' J' ∧ gr_Inv I' ∧ gr_fr [0, 68, 69, 126, 127, 128, 136, 137, 138] [51, 56, 57, 76, 77, 78, 79, 81, 82] I I' ∧ gr_fj [0, 68, 69, 126, 127, 128, 136, 137, 138] [51, 56, 57, 76, 77, 78, 79, 81, 82] J J' ∧ (∃ z : Int, r = some (.inl z) ∧ (-3) ≤ z ∧ z ≤ 24)))) (233, [(0, .inr (.inr (some 0))), (1, .inl a1), (2, .inl v2_5), (3, .inl v3_10), (4, .inl v4_15)], [], gr_sh ++ ext, gr_h I34 J35) := by
                    intro I34 J35 hI34 FI34 FJ35 m_36
                    clear ha1_18 hv2_5_18 hv3_10_18 hv4_15_18 hv5_18 hv6_18 e0_18 e1_18 f19 f20 ha1_15 hv2_5_15 hv3_10_15 hv4_15 e0_15 e1_15 e2_15 f16 f17
                    obtain ⟨ha1_36, hv2_5_36, hv3_10_36, hv4_15_36, e0_36, e1_36, e2_36⟩ := m_36
                    have f37 := (show 0 ≤ I34 0 136 ∧ I34 0 136 ≤ 24 from (hI34 0 136).1)
                    have f38 := (show 0 ≤ I34 0 137 ∧ I34 0 137 ≤ 40000 from (hI34 0 137).1)
                    refine gv_run 2 true hD (pc' := 90) (lv' := [(4, .inl (v4_15 + 1)), (0, .inr (.inr (some 0))), (1, .inl a1), (2, .inl v2_5), (3, .inl v3_10)]) (st' := []) (h' := gr_h I34 J35) (C := ((True ∧ True) ∧ True)) rfl ⟨⟨trivial, trivial⟩, trivial⟩ ?_
                    refine gv_pick [1, 2, 3, 4, 0] rfl ?_
                    exact ih90 I34 J35 (v4_15 + 1) (by omega) hI34 FI34 FJ35 (by omega)
                  have f39 := (show 0 ≤ I13 18 (Int.toNat a1) ∧ I13 18 (Int.toNat a1) ≤ 64 from (hI13 18 (Int.toNat a1)).1)
                  refine gv_run 5 true hD (pc' := 115) (lv' := [(0, .inr (.inr (some 0))), (1, .inl a1), (2, .inl v2_5), (3, .inl v3_10), (4, .inl v4_15), (5, .inl v5_18), (6, .inl v6_18)]) (st' := [.inl (I13 18 (Int.toNat a1)), .inl v6_18]) (h' := gr_h I13 J14) (C := (((((True ∧ True) ∧ True) ∧ True) ∧ True) ∧ (0 ≤ a1 ∧ a1 < ((8 : Nat) : Int)))) rfl ⟨⟨⟨⟨⟨trivial, trivial⟩, trivial⟩, trivial⟩, trivial⟩, ⟨by omega, by omega⟩⟩ ?_
                  refine gv_icmp_ge (t := 185) hD rfl rfl ⟨⟨by omega, by omega⟩, ⟨by omega, by omega⟩⟩ (fun c40 => ?_) (fun c40 => ?_)
                  · refine gv_run 1 true hD (pc' := 187) (lv' := [(0, .inr (.inr (some 0))), (1, .inl a1), (2, .inl v2_5), (3, .inl v3_10), (4, .inl v4_15), (5, .inl v5_18), (6, .inl v6_18)]) (st' := [.inl v5_18]) (h' := gr_h I13 J14) (C := (True ∧ True)) rfl ⟨trivial, trivial⟩ ?_
                    refine gv_if_ne (t := 193) hD rfl rfl ⟨by omega, by omega⟩ (fun c41 => ?_) (fun c41 => ?_)
                    · have f42 := (show 0 ≤ I13 0 137 ∧ I13 0 137 ≤ 40000 from (hI13 0 137).1)
                      refine gv_run 5 true hD (pc' := 201) (lv' := [(0, .inr (.inr (some 0))), (1, .inl a1), (2, .inl v2_5), (3, .inl v3_10), (4, .inl v4_15), (5, .inl v5_18), (6, .inl v6_18)]) (st' := [.inl ((I13 0 137) + v5_18), .inr (.inr (some 0))]) (h' := gr_h I13 J14) (C := (((((True ∧ True) ∧ True) ∧ True) ∧ True) ∧ True)) rfl ⟨⟨⟨⟨⟨trivial, trivial⟩, trivial⟩, trivial⟩, trivial⟩, trivial⟩ ?_
                      refine gv_run 1 true hD (pc' := 204) (lv' := [(0, .inr (.inr (some 0))), (1, .inl a1), (2, .inl v2_5), (3, .inl v3_10), (4, .inl v4_15), (5, .inl v5_18), (6, .inl v6_18)]) (st' := []) (h' := gz_up (gr_h I13 J14) 0 137 (.inl (((I13 0 137) + v5_18)))) (C := (True ∧ True)) rfl ⟨trivial, trivial⟩ ?_
                      refine gr_st hI13 FI13 rfl rfl ⟨⟨by show 0 ≤ _; omega, by show _ ≤ 40000; omega⟩, trivial⟩ (fun I43 hI43 FI43 q44 p44 => ?_)
                      have t45 := p44 0 136 (by decide)
                      have f46 := (show 0 ≤ I43 0 136 ∧ I43 0 136 ≤ 24 from (hI43 0 136).1)
                      have f47 := (show 0 ≤ I43 0 137 ∧ I43 0 137 ≤ 40000 from (hI43 0 137).1)
                      have f48 := (show 0 ≤ I43 0 136 ∧ I43 0 136 ≤ 24 from (hI43 0 136).1)
                      refine gv_run 5 true hD (pc' := 214) (lv' := [(0, .inr (.inr (some 0))), (1, .inl a1), (2, .inl v2_5), (3, .inl v3_10), (4, .inl v4_15), (5, .inl v5_18), (6, .inl v6_18)]) (st' := [.inl v4_15, .inl (I43 0 136), .inr (.inr (some 81))]) (h' := gr_h I43 J14) (C := (((((True ∧ True) ∧ True) ∧ True) ∧ True) ∧ True)) rfl ⟨⟨⟨⟨⟨trivial, trivial⟩, trivial⟩, trivial⟩, trivial⟩, trivial⟩ ?_
                      refine gv_run 1 true hD (pc' := 215) (lv' := [(0, .inr (.inr (some 0))), (1, .inl a1), (2, .inl v2_5), (3, .inl v3_10), (4, .inl v4_15), (5, .inl v5_18), (6, .inl v6_18)]) (st' := []) (h' := gz_up (gr_h I43 J14) 81 (Int.toNat ((I43 0 136))) (.inl v4_15)) (C := (True ∧ (0 ≤ (I43 0 136) ∧ (I43 0 136) < ((24 : Nat) : Int)))) rfl ⟨trivial, ⟨by omega, by omega⟩⟩ ?_
                      refine gr_st hI43 FI43 rfl rfl ⟨⟨by show 0 ≤ _; omega, by show _ ≤ 23; omega⟩, trivial⟩ (fun I49 hI49 FI49 q50 p50 => ?_)
                      have t51 := p50 0 136 (fun q => absurd q.1 (by decide))
                      have t52 := p50 0 137 (fun q => absurd q.1 (by decide))
                      have f53 := (show 0 ≤ I49 0 136 ∧ I49 0 136 ≤ 24 from (hI49 0 136).1)
                      have f54 := (show 0 ≤ I49 0 137 ∧ I49 0 137 ≤ 40000 from (hI49 0 137).1)
                      have f55 := (show 0 ≤ I49 0 136 ∧ I49 0 136 ≤ 24 from (hI49 0 136).1)
                      refine gv_run 7 true hD (pc' := 226) (lv' := [(0, .inr (.inr (some 0))), (1, .inl a1), (2, .inl v2_5), (3, .inl v3_10), (4, .inl v4_15), (5, .inl v5_18), (6, .inl v6_18)]) (st' := [.inl 1, .inl (I49 0 136), .inr (.inr (some 0)), .inl (I49 0 136), .inr (.inr (some 82))]) (h' := gr_h I49 J14) (C := (((((((True ∧ True) ∧ True) ∧ True) ∧ True) ∧ True) ∧ True) ∧ True)) rfl ⟨⟨⟨⟨⟨⟨⟨trivial, trivial⟩, trivial⟩, trivial⟩, trivial⟩, trivial⟩, trivial⟩, trivial⟩ ?_
                      refine gv_run 2 true hD (pc' := 230) (lv' := [(0, .inr (.inr (some 0))), (1, .inl a1), (2, .inl v2_5), (3, .inl v3_10), (4, .inl v4_15), (5, .inl v5_18), (6, .inl v6_18)]) (st' := [.inl (I49 0 136), .inr (.inr (some 82))]) (h' := gz_up (gr_h I49 J14) 0 136 (.inl (((I49 0 136) + 1)))) (C := ((True ∧ True) ∧ True)) rfl ⟨⟨trivial, trivial⟩, trivial⟩ ?_
                      refine gr_st hI49 FI49 rfl rfl ⟨⟨by show 0 ≤ _; omega, by show _ ≤ 24; omega⟩, trivial⟩ (fun I56 hI56 FI56 q57 p57 => ?_)
                      have t58 := p57 0 137 (by decide)
                      have f59 := (show 0 ≤ I56 0 136 ∧ I56 0 136 ≤ 24 from (hI56 0 136).1)
                      have f60 := (show 0 ≤ I56 0 137 ∧ I56 0 137 ≤ 40000 from (hI56 0 137).1)
                      refine gv_run 2 true hD (pc' := 233) (lv' := [(0, .inr (.inr (some 0))), (1, .inl a1), (2, .inl v2_5), (3, .inl v3_10), (4, .inl v4_15), (5, .inl v5_18), (6, .inl v6_18)]) (st' := []) (h' := gz_up (gr_h I56 J14) 82 (Int.toNat ((I49 0 136))) (.inl v5_18)) (C := ((True ∧ True) ∧ (0 ≤ (I49 0 136) ∧ (I49 0 136) < ((24 : Nat) : Int)))) rfl ⟨⟨trivial, trivial⟩, ⟨by omega, by omega⟩⟩ ?_
                      refine gr_st hI56 FI56 rfl rfl ⟨⟨by show 0 ≤ _; omega, by show _ ≤ 1536; omega⟩, trivial⟩ (fun I61 hI61 FI61 q62 p62 => ?_)
                      have t63 := p62 0 136 (fun q => absurd q.1 (by decide))
                      have t64 := p62 0 137 (fun q => absurd q.1 (by decide))
                      have f65 := (show 0 ≤ I61 0 136 ∧ I61 0 136 ≤ 24 from (hI61 0 136).1)
                      have f66 := (show 0 ≤ I61 0 137 ∧ I61 0 137 ≤ 40000 from (hI61 0 137).1)
                      refine gv_pick [0, 1, 2, 3, 4] rfl ?_
                      exact L233 I61 J14 hI61 FI61 FJ14 (by omega)
                    · refine gv_run 1 true hD (pc' := 233) (lv' := [(0, .inr (.inr (some 0))), (1, .inl a1), (2, .inl v2_5), (3, .inl v3_10), (4, .inl v4_15), (5, .inl v5_18), (6, .inl v6_18)]) (st' := []) (h' := gr_h I13 J14) (C := (True ∧ True)) rfl ⟨trivial, trivial⟩ ?_
                      refine gv_pick [0, 1, 2, 3, 4] rfl ?_
                      exact L233 I13 J14 hI13 FI13 FJ14 (by omega)
                  · refine gv_run 7 true hD (pc' := 129) (lv' := [(0, .inr (.inr (some 0))), (1, .inl a1), (2, .inl v2_5), (3, .inl v3_10), (4, .inl v4_15), (5, .inl v5_18), (6, .inl v6_18)]) (st' := [.inl ((64 * a1) + v6_18), .inr (.inr (some 37))]) (h' := gr_h I13 J14) (C := (((((((True ∧ True) ∧ True) ∧ True) ∧ True) ∧ True) ∧ True) ∧ True)) rfl ⟨⟨⟨⟨⟨⟨⟨trivial, trivial⟩, trivial⟩, trivial⟩, trivial⟩, trivial⟩, trivial⟩, trivial⟩ ?_
                    have f67 := (show 0 ≤ I13 37 (Int.toNat (((64 * a1) + v6_18))) ∧ I13 37 (Int.toNat (((64 * a1) + v6_18))) ≤ 23 from (hI13 37 (Int.toNat (((64 * a1) + v6_18)))).1)
                    refine gv_run 1 true hD (pc' := 130) (lv' := [(0, .inr (.inr (some 0))), (1, .inl a1), (2, .inl v2_5), (3, .inl v3_10), (4, .inl v4_15), (5, .inl v5_18), (6, .inl v6_18)]) (st' := [.inl (I13 37 (Int.toNat (((64 * a1) + v6_18))))]) (h' := gr_h I13 J14) (C := (True ∧ (0 ≤ (((64 * a1) + v6_18)) ∧ (((64 * a1) + v6_18)) < ((512 : Nat) : Int)))) rfl ⟨trivial, ⟨by omega, by omega⟩⟩ ?_
                    refine gv_run 1 true hD (pc' := 132) (lv' := [(0, .inr (.inr (some 0))), (1, .inl a1), (2, .inl v2_5), (3, .inl v3_10), (4, .inl v4_15), (5, .inl v5_18), (6, .inl v6_18)]) (st' := [.inl v4_15, .inl (I13 37 (Int.toNat (((64 * a1) + v6_18))))]) (h' := gr_h I13 J14) (C := (True ∧ True)) rfl ⟨trivial, trivial⟩ ?_
                    refine gv_icmp_eq (t := 138) hD rfl rfl ⟨⟨by omega, by omega⟩, ⟨by omega, by omega⟩⟩ (fun c68 => ?_) (fun c68 => ?_)
                    · refine gv_run 2 true hD (pc' := 141) (lv' := [(7, .inl 0), (0, .inr (.inr (some 0))), (1, .inl a1), (2, .inl v2_5), (3, .inl v3_10), (4, .inl v4_15), (5, .inl v5_18), (6, .inl v6_18)]) (st' := []) (h' := gr_h I13 J14) (C := ((True ∧ True) ∧ True)) rfl ⟨⟨trivial, trivial⟩, trivial⟩ ?_
                      refine gv_pick [1, 2, 3, 4, 5, 6, 7, 0] rfl ?_
                      exact L141 _ v5_18 0 (Nat.lt_succ_self _) (by omega)
                    · refine gv_run 1 true hD (pc' := 179) (lv' := [(0, .inr (.inr (some 0))), (1, .inl a1), (2, .inl v2_5), (3, .inl v3_10), (4, .inl v4_15), (5, .inl v5_18), (6, .inl v6_18)]) (st' := []) (h' := gr_h I13 J14) (C := (True ∧ True)) rfl ⟨trivial, trivial⟩ ?_
                      exact L179 v5_18 (by omega)
              have f69 := (show 0 ≤ I13 17 (Int.toNat a1) ∧ I13 17 (Int.toNat a1) ≤ 24 from (hI13 17 (Int.toNat a1)).1)
              refine gv_run 5 true hD (pc' := 98) (lv' := [(0, .inr (.inr (some 0))), (1, .inl a1), (2, .inl v2_5), (3, .inl v3_10), (4, .inl v4_15)]) (st' := [.inl (I13 17 (Int.toNat a1)), .inl v4_15]) (h' := gr_h I13 J14) (C := (((((True ∧ True) ∧ True) ∧ True) ∧ True) ∧ (0 ≤ a1 ∧ a1 < ((8 : Nat) : Int)))) rfl ⟨⟨⟨⟨⟨trivial, trivial⟩, trivial⟩, trivial⟩, trivial⟩, ⟨by omega, by omega⟩⟩ ?_
              refine gv_icmp_ge (t := 239) hD rfl rfl ⟨⟨by omega, by omega⟩, ⟨by omega, by omega⟩⟩ (fun c70 => ?_) (fun c70 => ?_)
              · refine gv_run 2 true hD (pc' := 66) (lv' := [(3, .inl (v3_10 + (-1))), (0, .inr (.inr (some 0))), (1, .inl a1), (2, .inl v2_5), (4, .inl v4_15)]) (st' := []) (h' := gr_h I13 J14) (C := ((True ∧ True) ∧ True)) rfl ⟨⟨trivial, trivial⟩, trivial⟩ ?_
                refine gv_pick [1, 2, 3, 0] rfl ?_
                exact ih66 I13 J14 ((v3_10 + (-1))) (by omega) hI13 FI13 FJ14 (by omega)
              · refine gv_run 4 true hD (pc' := 107) (lv' := [(6, .inl 0), (5, .inl 0), (0, .inr (.inr (some 0))), (1, .inl a1), (2, .inl v2_5), (3, .inl v3_10), (4, .inl v4_15)]) (st' := []) (h' := gr_h I13 J14) (C := ((((True ∧ True) ∧ True) ∧ True) ∧ True)) rfl ⟨⟨⟨⟨trivial, trivial⟩, trivial⟩, trivial⟩, trivial⟩ ?_
                refine gv_pick [2, 3, 4, 5, 6, 1, 0] rfl ?_
                exact L107 _ 0 0 (Nat.lt_succ_self _) (by omega)
          have L245 : gv_X (gr_E ws0 tb 6 (yX13_guess, cX13_guess, 8, (some .int)) kX13_guess) (gv_Q cX13_guess (some .int) (gr_sh ++ ext) (fun r h' => (∃ (I' : gr_I) (J' : gr_J), h' = gr_h I' J' ∧ gr_Inv I' ∧ gr_fr [0, 68, 69, 126, 127, 128, 136, 137, 138] [51, 56, 57, 76, 77, 78, 79, 81, 82] I I' ∧ gr_fj [0, 68, 69, 126, 127, 128, 136, 137, 138] [51, 56, 57, 76, 77, 78, 79, 81, 82] J J' ∧ (∃ z : Int, r = some (.inl z) ∧ (-3) ≤ z ∧ z ≤ 24)))) (245, [(0, .inr (.inr (some 0)))], [], gr_sh ++ ext, gr_h I8 J9) := by
            have f72 := (show 0 ≤ I8 0 136 ∧ I8 0 136 ≤ 24 from (hI8 0 136).1)
            have f73 := (show 0 ≤ I8 0 137 ∧ I8 0 137 ≤ 40000 from (hI8 0 137).1)
            have f74 := (show 0 ≤ I8 0 136 ∧ I8 0 136 ≤ 24 from (hI8 0 136).1)
            refine gv_run 2 true hD (pc' := 249) (lv' := [(0, .inr (.inr (some 0)))]) (st' := [.inl (I8 0 136)]) (h' := gr_h I8 J9) (C := ((True ∧ True) ∧ True)) rfl ⟨⟨trivial, trivial⟩, trivial⟩ ?_
            exact gv_iret hD rfl ⟨I8, J9, rfl, hI8, FI8, FJ9, ⟨_, rfl, by omega⟩⟩
          refine gv_run 1 true hD (pc' := 67) (lv' := [(0, .inr (.inr (some 0))), (1, .inl a1), (2, .inl v2_5), (3, .inl v3_10)]) (st' := [.inl v3_10]) (h' := gr_h I8 J9) (C := (True ∧ True)) rfl ⟨trivial, trivial⟩ ?_
          refine gv_if_le (t := 245) hD rfl rfl ⟨by omega, by omega⟩ (fun c75 => ?_) (fun c75 => ?_)
          · refine gv_pick [0] rfl ?_
            exact L245 
          · have f76 := (show 0 ≤ I8 0 136 ∧ I8 0 136 ≤ 24 from (hI8 0 136).1)
            refine gv_run 2 true hD (pc' := 74) (lv' := [(0, .inr (.inr (some 0))), (1, .inl a1), (2, .inl v2_5), (3, .inl v3_10)]) (st' := [.inl (I8 0 136)]) (h' := gr_h I8 J9) (C := ((True ∧ True) ∧ True)) rfl ⟨⟨trivial, trivial⟩, trivial⟩ ?_
            refine gv_if_ne (t := 245) hD rfl rfl ⟨by omega, by omega⟩ (fun c77 => ?_) (fun c77 => ?_)
            · refine gv_pick [0] rfl ?_
              exact L245 
            · refine gv_run 3 true hD (pc' := 82) (lv' := [(0, .inr (.inr (some 0))), (1, .inl a1), (2, .inl v2_5), (3, .inl v3_10)]) (st' := []) (h' := gz_up (gr_h I8 J9) 0 137 (.inl 0)) (C := (((True ∧ True) ∧ True) ∧ True)) rfl ⟨⟨⟨trivial, trivial⟩, trivial⟩, trivial⟩ ?_
              refine gr_st hI8 FI8 rfl rfl ⟨⟨by show 0 ≤ _; omega, by show _ ≤ 40000; omega⟩, trivial⟩ (fun I78 hI78 FI78 q79 p79 => ?_)
              have t80 := p79 0 136 (by decide)
              have f81 := (show 0 ≤ I78 0 136 ∧ I78 0 136 ≤ 24 from (hI78 0 136).1)
              have f82 := (show 0 ≤ I78 0 137 ∧ I78 0 137 ≤ 40000 from (hI78 0 137).1)
              refine gv_run 3 true hD (pc' := 87) (lv' := [(0, .inr (.inr (some 0))), (1, .inl a1), (2, .inl v2_5), (3, .inl v3_10)]) (st' := []) (h' := gz_up (gr_h I78 J9) 0 138 (.inl v3_10)) (C := (((True ∧ True) ∧ True) ∧ True)) rfl ⟨⟨⟨trivial, trivial⟩, trivial⟩, trivial⟩ ?_
              refine gr_st hI78 FI78 rfl rfl ⟨⟨by show 0 ≤ _; omega, by show _ ≤ 4; omega⟩, trivial⟩ (fun I83 hI83 FI83 q84 p84 => ?_)
              have t85 := p84 0 136 (by decide)
              have t86 := p84 0 137 (by decide)
              have f87 := (show 0 ≤ I83 0 136 ∧ I83 0 136 ≤ 24 from (hI83 0 136).1)
              have f88 := (show 0 ≤ I83 0 137 ∧ I83 0 137 ≤ 40000 from (hI83 0 137).1)
              refine gv_run 2 true hD (pc' := 90) (lv' := [(4, .inl 0), (0, .inr (.inr (some 0))), (1, .inl a1), (2, .inl v2_5), (3, .inl v3_10)]) (st' := []) (h' := gr_h I83 J9) (C := ((True ∧ True) ∧ True)) rfl ⟨⟨trivial, trivial⟩, trivial⟩ ?_
              refine gv_pick [1, 2, 3, 4, 0] rfl ?_
              exact L90 _ I83 J9 0 (Nat.lt_succ_self _) hI83 FI83 FJ9 (by omega)
      refine gv_run 2 true hD (pc' := 34) (lv' := [(0, .inr (.inr (some 0))), (1, .inl a1), (2, .inl v2_5), (3, .inl v3_5)]) (st' := [.inl v2_5, .inl v3_5]) (h' := gr_h I3 J4) (C := ((True ∧ True) ∧ True)) rfl ⟨⟨trivial, trivial⟩, trivial⟩ ?_
      refine gv_icmp_ge (t := 55) hD rfl rfl ⟨⟨by omega, by omega⟩, ⟨by omega, by omega⟩⟩ (fun c89 => ?_) (fun c89 => ?_)
      · refine gv_run 2 true hD (pc' := 57) (lv' := [(0, .inr (.inr (some 0))), (1, .inl a1), (2, .inl v2_5), (3, .inl v3_5)]) (st' := [.inl a1, .inr (.inr (some 0))]) (h' := gr_h I3 J4) (C := ((True ∧ True) ∧ True)) rfl ⟨⟨trivial, trivial⟩, trivial⟩ ?_
        obtain ⟨r90, h90, E90, P90⟩ := r_forms_w (ws0 := ws0) (tb := tb) hws htb ext I3 J4 hI3 a1 ⟨by omega, by omega⟩ 
        obtain ⟨I91, J92, rfl, hI91, g90, k90, rfl⟩ := P90
        have FI91 := gr_frt FI3 g90 rfl rfl
        have FJ92 := gr_fjt FJ4 k90 rfl rfl
        have t93 := g90 0 136 rfl
        have t94 := g90 0 137 rfl
        have f95 := (show 0 ≤ I91 0 136 ∧ I91 0 136 ≤ 24 from (hI91 0 136).1)
        have f96 := (show 0 ≤ I91 0 137 ∧ I91 0 137 ≤ 40000 from (hI91 0 137).1)
        refine gv_callV hD rfl (As := [.inl a1]) (st := []) rfl (by decide) rfl rfl (gr_lV hws rfl) (Nat.le_of_ble_eq_true rfl) (gz_Ev_mono (d := 6) (by decide) E90) ?_
        show gv_X _ _ (60, [(0, .inr (.inr (some 0))), (1, .inl a1), (2, .inl v2_5), (3, .inl v3_5)], [], gr_sh ++ ext, gr_h I91 J92)
        refine gv_run 2 true hD (pc' := 62) (lv' := [(0, .inr (.inr (some 0))), (1, .inl a1), (2, .inl v2_5), (3, .inl v3_5)]) (st' := [.inl v2_5, .inl 4]) (h' := gr_h I91 J92) (C := ((True ∧ True) ∧ True)) rfl ⟨⟨trivial, trivial⟩, trivial⟩ ?_
        obtain ⟨z97, E97, q97⟩ := gj_min (ws0 := ws0) (tb := tb) (sh := gr_sh ++ ext) (h := gr_h I91 J92) 4 v2_5 ⟨by omega, by omega⟩ ⟨by omega, by omega⟩
        refine gv_callS hD rfl (As := [.inl 4, .inl v2_5]) (st := []) rfl (gr_lMi hws) (Nat.le_of_ble_eq_true rfl) (gz_Ev_mono (d := 1) (by decide) E97) ?_
        show gv_X _ _ (65, [(0, .inr (.inr (some 0))), (1, .inl a1), (2, .inl v2_5), (3, .inl v3_5)], [.inl z97], gr_sh ++ ext, gr_h I91 J92)
        refine gv_run 1 true hD (pc' := 66) (lv' := [(3, .inl z97), (0, .inr (.inr (some 0))), (1, .inl a1), (2, .inl v2_5)]) (st' := []) (h' := gr_h I91 J92) (C := (True ∧ True)) rfl ⟨trivial, trivial⟩ ?_
        refine gv_pick [1, 2, 3, 0] rfl ?_
        exact L66 _ I91 J92 z97 (Nat.lt_succ_self _) hI91 FI91 FJ92 (by omega)
      · have f98 := (show (-128) ≤ I3 76 (Int.toNat v3_5) ∧ I3 76 (Int.toNat v3_5) ≤ 127 from (hI3 76 (Int.toNat v3_5)).1)
        refine gv_run 7 true hD (pc' := 48) (lv' := [(0, .inr (.inr (some 0))), (1, .inl a1), (2, .inl v2_5), (3, .inl v3_5)]) (st' := [.inl (I3 76 (Int.toNat v3_5)), .inl v3_5, .inr (.inr (some 57))]) (h' := gr_h I3 J4) (C := (((((((True ∧ True) ∧ True) ∧ True) ∧ True) ∧ True) ∧ True) ∧ (0 ≤ v3_5 ∧ v3_5 < ((64 : Nat) : Int)))) rfl ⟨⟨⟨⟨⟨⟨⟨trivial, trivial⟩, trivial⟩, trivial⟩, trivial⟩, trivial⟩, trivial⟩, ⟨by omega, by omega⟩⟩ ?_
        have f99 := gw_nar_byte (x := ((I3 76 (Int.toNat v3_5))))
        refine gv_run 1 true hD (pc' := 49) (lv' := [(0, .inr (.inr (some 0))), (1, .inl a1), (2, .inl v2_5), (3, .inl v3_5)]) (st' := []) (h' := gz_up (gr_h I3 J4) 57 (Int.toNat v3_5) (.inl (((vp_nar .byte (Int32.ofInt ((I3 76 (Int.toNat v3_5))))).toInt)))) (C := (True ∧ (0 ≤ v3_5 ∧ v3_5 < ((1000 : Nat) : Int)))) rfl ⟨trivial, ⟨by omega, by omega⟩⟩ ?_
        refine gr_st hI3 FI3 rfl rfl ⟨⟨by show (-128) ≤ _; omega, by show _ ≤ 127; omega⟩, trivial⟩ (fun I100 hI100 FI100 q101 p101 => ?_)
        have t102 := p101 0 136 (fun q => absurd q.1 (by decide))
        have t103 := p101 0 137 (fun q => absurd q.1 (by decide))
        have f104 := (show 0 ≤ I100 0 136 ∧ I100 0 136 ≤ 24 from (hI100 0 136).1)
        have f105 := (show 0 ≤ I100 0 137 ∧ I100 0 137 ≤ 40000 from (hI100 0 137).1)
        refine gv_run 2 true hD (pc' := 32) (lv' := [(3, .inl (v3_5 + 1)), (0, .inr (.inr (some 0))), (1, .inl a1), (2, .inl v2_5)]) (st' := []) (h' := gr_h I100 J4) (C := ((True ∧ True) ∧ True)) rfl ⟨⟨trivial, trivial⟩, trivial⟩ ?_
        refine gv_pick [1, 2, 3, 0] rfl ?_
        exact ih32 I100 J4 v2_5 (v3_5 + 1) (by omega) hI100 FI100 FJ4 (by omega)
  refine gv_run 2 true hD (pc' := 2) (lv' := [(0, .inr (.inr (some 0))), (1, .inl a1)]) (st' := [.inl a1, .inr (.inr (some 0))]) (h' := gr_h I J) (C := ((True ∧ True) ∧ True)) rfl ⟨⟨trivial, trivial⟩, trivial⟩ ?_
  obtain ⟨r106, h106, E106, P106⟩ := r_noTongue (ws0 := ws0) (tb := tb) hws htb ext I J hI a1 ⟨by omega, by omega⟩ 
  obtain ⟨I107, J108, rfl, hI107, g106, k106, ⟨z106, rfl, q106⟩⟩ := P106
  have FI107 := gr_frt FI g106 rfl rfl
  have FJ108 := gr_fjt FJ k106 rfl rfl
  have t109 := g106 0 136 rfl
  have t110 := g106 0 137 rfl
  have f111 := (show 0 ≤ I107 0 136 ∧ I107 0 136 ≤ 24 from (hI107 0 136).1)
  have f112 := (show 0 ≤ I107 0 137 ∧ I107 0 137 ≤ 40000 from (hI107 0 137).1)
  refine gv_callV hD rfl (As := [.inl a1]) (st := []) rfl (by decide) rfl rfl (gr_lV hws rfl) (Nat.le_of_ble_eq_true rfl) (gz_Ev_mono (d := 1) (by decide) E106) ?_
  show gv_X _ _ (5, [(0, .inr (.inr (some 0))), (1, .inl a1)], [.inl z106], gr_sh ++ ext, gr_h I107 J108)
  refine gv_if_eq (t := 10) hD rfl rfl ⟨by omega, by omega⟩ (fun c113 => ?_) (fun c113 => ?_)
  · refine gv_run 3 true hD (pc' := 15) (lv' := [(0, .inr (.inr (some 0))), (1, .inl a1)]) (st' := []) (h' := gz_up (gr_h I107 J108) 0 136 (.inl 0)) (C := (((True ∧ True) ∧ True) ∧ True)) rfl ⟨⟨⟨trivial, trivial⟩, trivial⟩, trivial⟩ ?_
    refine gr_st hI107 FI107 rfl rfl ⟨⟨by show 0 ≤ _; omega, by show _ ≤ 24; omega⟩, trivial⟩ (fun I114 hI114 FI114 q115 p115 => ?_)
    have t116 := p115 0 137 (by decide)
    have f117 := (show 0 ≤ I114 0 136 ∧ I114 0 136 ≤ 24 from (hI114 0 136).1)
    have f118 := (show 0 ≤ I114 0 137 ∧ I114 0 137 ≤ 40000 from (hI114 0 137).1)
    refine gv_run 1 true hD (pc' := 16) (lv' := [(0, .inr (.inr (some 0))), (1, .inl a1)]) (st' := [.inr (.inr (some 0))]) (h' := gr_h I114 J108) (C := (True ∧ True)) rfl ⟨trivial, trivial⟩ ?_
    obtain ⟨r119, h119, E119, P119⟩ := r_oneWord (ws0 := ws0) (tb := tb) hws htb ext I114 J108 hI114   
    obtain ⟨I120, J121, rfl, hI120, g119, k119, ⟨z119, rfl, q119⟩⟩ := P119
    have FI120 := gr_frt FI114 g119 rfl rfl
    have FJ121 := gr_fjt FJ108 k119 rfl rfl
    have t122 := g119 0 136 rfl
    have t123 := g119 0 137 rfl
    have f124 := (show 0 ≤ I120 0 136 ∧ I120 0 136 ≤ 24 from (hI120 0 136).1)
    have f125 := (show 0 ≤ I120 0 137 ∧ I120 0 137 ≤ 40000 from (hI120 0 137).1)
    refine gv_callV hD rfl (As := []) (st := []) rfl (by decide) rfl rfl (gr_lV hws rfl) (Nat.le_of_ble_eq_true rfl) (gz_Ev_mono (d := 2) (by decide) E119) ?_
    show gv_X _ _ (19, [(0, .inr (.inr (some 0))), (1, .inl a1)], [.inl z119], gr_sh ++ ext, gr_h I120 J121)
    refine gv_if_ne (t := 25) hD rfl rfl ⟨by omega, by omega⟩ (fun c126 => ?_) (fun c126 => ?_)
    · have f127 := (show 0 ≤ I120 0 126 ∧ I120 0 126 ≤ 24 from (hI120 0 126).1)
      refine gv_run 5 true hD (pc' := 32) (lv' := [(3, .inl 0), (2, .inl (I120 0 126)), (0, .inr (.inr (some 0))), (1, .inl a1)]) (st' := []) (h' := gr_h I120 J121) (C := (((((True ∧ True) ∧ True) ∧ True) ∧ True) ∧ True)) rfl ⟨⟨⟨⟨⟨trivial, trivial⟩, trivial⟩, trivial⟩, trivial⟩, trivial⟩ ?_
      refine gv_pick [2, 3, 1, 0] rfl ?_
      exact L32 _ I120 J121 (I120 0 126) 0 (Nat.lt_succ_self _) hI120 FI120 FJ121 (by omega)
    · refine gv_run 1 true hD (pc' := 24) (lv' := [(0, .inr (.inr (some 0))), (1, .inl a1)]) (st' := [.inl (-3)]) (h' := gr_h I120 J121) (C := (True ∧ True)) rfl ⟨trivial, trivial⟩ ?_
      exact gv_iret hD rfl ⟨I120, J121, rfl, hI120, FI120, FJ121, ⟨_, rfl, by omega⟩⟩
  · refine gv_run 1 true hD (pc' := 9) (lv' := [(0, .inr (.inr (some 0))), (1, .inl a1)]) (st' := [.inl 0]) (h' := gr_h I107 J108) (C := (True ∧ True)) rfl ⟨trivial, trivial⟩ ?_
    exact gv_iret hD rfl ⟨I107, J108, rfl, hI107, FI107, FJ108, ⟨_, rfl, by omega⟩⟩
set_option maxHeartbeats 4000000 in
set_option maxRecDepth 100000 in
theorem r_ask_w {ws0 : List Cond} {tb : String → gz_T} (hws : ∀ w ∈ gr_ws, w ∈ ws0) (htb : tb RX13 = gr_T) (ext : gz_Sh) (I : gr_I) (J : gr_J) (hI : gr_Inv I) (a1 : Int) (ha1 : (-2147483648) ≤ a1 ∧ a1 ≤ 2147483647)  : ∃ r h', gz_Ev ws0 tb 11 (yX13_ask, cX13_ask, 7, (some .int)) [.inr (.inr (some 0)), .inl a1] (gr_sh ++ ext) (gr_h I J) r (gr_sh ++ ext) h' 0 0 ∧ (∃ (I' : gr_I) (J' : gr_J), h' = gr_h I' J' ∧ gr_Inv I' ∧ gr_fr [0, 68, 69, 71, 72, 73, 74, 75, 126, 127, 128, 211] [51, 56, 57, 76, 77, 78, 79, 130, 131, 132, 133] I I' ∧ gr_fj [0, 68, 69, 71, 72, 73, 74, 75, 126, 127, 128, 211] [51, 56, 57, 76, 77, 78, 79, 130, 131, 132, 133] J J' ∧ (∃ z : Int, r = some (.inl z) ∧ (-3) ≤ z ∧ z ≤ 2400)) := by
  have FI : gr_fr [0, 68, 69, 71, 72, 73, 74, 75, 126, 127, 128, 211] [51, 56, 57, 76, 77, 78, 79, 130, 131, 132, 133] I I := fun _ _ _ => rfl
  have FJ : gr_fj [0, 68, 69, 71, 72, 73, 74, 75, 126, 127, 128, 211] [51, 56, 57, 76, 77, 78, 79, 130, 131, 132, 133] J J := fun _ _ _ => rfl
  have hD : gv_D (gr_E ws0 tb 10 (yX13_ask, cX13_ask, 7, (some .int)) kX13_ask) := gq_ok oX13_ask
  refine gr_ev (d := 10) (l := kX13_ask) (Po := fun r h' => (∃ (I' : gr_I) (J' : gr_J), h' = gr_h I' J' ∧ gr_Inv I' ∧ gr_fr [0, 68, 69, 71, 72, 73, 74, 75, 126, 127, 128, 211] [51, 56, 57, 76, 77, 78, 79, 130, 131, 132, 133] I I' ∧ gr_fj [0, 68, 69, 71, 72, 73, 74, 75, 126, 127, 128, 211] [51, 56, 57, 76, 77, 78, 79, 130, 131, 132, 133] J J' ∧ (∃ z : Int, r = some (.inl z) ∧ (-3) ≤ z ∧ z ≤ 2400))) htb rfl (Nat.le_of_ble_eq_true rfl) ?_
  have f1 := (show 0 ≤ I 0 71 ∧ I 0 71 ≤ 5 from (hI 0 71).1)
  have f2 := (show 0 ≤ I 0 72 ∧ I 0 72 ≤ 1000 from (hI 0 72).1)
  have f3 := (show 0 ≤ I 0 73 ∧ I 0 73 ≤ 1001 from (hI 0 73).1)
  have f4 := (show 0 ≤ I 0 69 ∧ I 0 69 ≤ 1000 from (hI 0 69).1)
  have f5 := (show 0 ≤ I 0 211 ∧ I 0 211 ≤ 2400 from (hI 0 211).1)
  have f6 := (show 0 ≤ I 0 206 ∧ I 0 206 ≤ 100 from (hI 0 206).1)
  have L30 : ∀ (n : Nat) (I7 : gr_I) (J8 : gr_J) (v2_9 : Int), (1001 - I7 0 72).toNat < n → gr_Inv I7 → gr_fr [0, 68, 69, 71, 72, 73, 74, 75, 126, 127, 128, 211] [51, 56, 57, 76, 77, 78, 79, 130, 131, 132, 133] I I7 → gr_fj [0, 68, 69, 71, 72, 73, 74, 75, 126, 127, 128, 211] [51, 56, 57, 76, 77, 78, 79, 130, 131, 132, 133] J J8 → ((0 ≤ a1 ∧ a1 ≤ 7) ∧ (0 ≤ v2_9 ∧ v2_9 ≤ 8) ∧ (I7 0 71 = 5 ∨ I7 0 73 ≤ I7 0 69) ∧ (I7 0 72 ≤ I7 0 69) ∧ (I7 0 71 = 0 ∨ (I7 0 72 < I7 0 73 ∧ I7 0 72 < I7 0 69)) ∧ (I7 0 71 = 3 → 2 ≤ I7 0 73 - I7 0 72 ∧ I7 0 73 - I7 0 72 ≤ 14) ∧ (I7 0 72 ≤ I7 0 73) ∧ (I7 0 211 ≤ 0)) → (gr_AS I7 v2_9) → gv_X (gr_E ws0 tb 10 (yX13_ask, cX13_ask, 7, (some .int)) kX13_ask) (gv_Q cX13_ask (some .int) (gr_sh ++ ext) (fun r h' => (∃ (I' : gr_I) (J' : gr_J), h' = gr_h I' J' ∧ gr_Inv I' ∧ gr_fr [0, 68, 69, 71, 72, 73, 74, 75, 126, 127, 128, 211] [51, 56, 57, 76, 77, 78, 79, 130, 131, 132, 133] I I' ∧ gr_fj [0, 68, 69, 71, 72, 73, 74, 75, 126, 127, 128, 211] [51, 56, 57, 76, 77, 78, 79, 130, 131, 132, 133] J J' ∧ (∃ z : Int, r = some (.inl z) ∧ (-3) ≤ z ∧ z ≤ 2400)))) (30, [(0, .inr (.inr (some 0))), (1, .inl a1), (2, .inl v2_9)], [], gr_sh ++ ext, gr_h I7 J8) := by
    intro n
    induction n with
    | zero => intro I7 J8 v2_9 hn; omega
    | succ n ih30 =>
      intro I7 J8 v2_9 hn hI7 FI7 FJ8 m_9 e5_9
      obtain ⟨ha1_9, hv2_9, e0_9, e1_9, e2_9, e3_9, e4_9, e6_9⟩ := m_9
      have f10 := (show 0 ≤ I7 0 71 ∧ I7 0 71 ≤ 5 from (hI7 0 71).1)
      have f11 := (show 0 ≤ I7 0 72 ∧ I7 0 72 ≤ 1000 from (hI7 0 72).1)
      have f12 := (show 0 ≤ I7 0 73 ∧ I7 0 73 ≤ 1001 from (hI7 0 73).1)
      have f13 := (show 0 ≤ I7 0 69 ∧ I7 0 69 ≤ 1000 from (hI7 0 69).1)
      have f14 := (show 0 ≤ I7 0 211 ∧ I7 0 211 ≤ 2400 from (hI7 0 211).1)
      have f15 := (show 0 ≤ I7 0 206 ∧ I7 0 206 ≤ 100 from (hI7 0 206).1)
      have L154 : ∀ (I16 : gr_I) (J17 : gr_J) , gr_Inv I16 → gr_fr [0, 68, 69, 71, 72, 73, 74, 75, 126, 127, 128, 211] [51, 56, 57, 76, 77, 78, 79, 130, 131, 132, 133] I I16 → gr_fj [0, 68, 69, 71, 72, 73, 74, 75, 126, 127, 128, 211] [51, 56, 57, 76, 77, 78, 79, 130, 131, 132, 133] J J17 → ((0 ≤ a1 ∧ a1 ≤ 7) ∧ (0 ≤ v2_9 ∧ v2_9 ≤ 7) ∧ (I16 0 71 = 5 ∨ I16 0 73 ≤ I16 0 69) ∧ (I16 0 72 ≤ I16 0 69) ∧ (I16 0 71 = 0 ∨ (I16 0 72 < I16 0 73 ∧ I16 0 72 < I16 0 69)) ∧ (I16 0 71 = 3 → 2 ≤ I16 0 73 - I16 0 72 ∧ I16 0 73 - I16 0 72 ≤ 14) ∧ (I16 0 72 ≤ I16 0 73) ∧ (I16 0 211 ≤ 0) ∧ (¬ I16 0 71 = 0) ∧ (¬ I16 0 71 = 5) ∧ (I7 0 72 = I16 0 72)) → (gr_AS I16 (v2_9 + 1)) → gv_X (gr_E ws0 tb 10 (yX13_ask, cX13_ask, 7, (some .int)) kX13_ask) (gv_Q cX13_ask (some .int) (gr_sh ++ ext) (fun r h' => (∃ (I' : gr_I) (J' : gr_J), h' = gr_h I' J' ∧ gr_Inv I' ∧ gr_fr [0, 68, 69, 71, 72, 73, 74, 75, 126, 127, 128, 211] [51, 56, 57, 76, 77, 78, 79, 130, 131, 132, 133] I I' ∧ gr_fj [0, 68, 69, 71, 72, 73, 74, 75, 126, 127, 128, 211] [51, 56, 57, 76, 77, 78, 79, 130, 131, 132, 133] J J' ∧ (∃ z : Int, r = some (.inl z) ∧ (-3) ≤ z ∧ z ≤ 2400)))) (154, [(0, .inr (.inr (some 0))), (1, .inl a1), (2, .inl v2_9)], [], gr_sh ++ ext, gr_h I16 J17) := by
        intro I16 J17 hI16 FI16 FJ17 m_18 e5_18
        clear ha1_9 hv2_9 e0_9 e1_9 e2_9 e3_9 e4_9 e6_9 f10 f11 f12 f13 f14 f15
        obtain ⟨ha1_18, hv2_9_18, e0_18, e1_18, e2_18, e3_18, e4_18, e6_18, e7_18, e8_18, e9_18⟩ := m_18
        have f19 := (show 0 ≤ I16 0 71 ∧ I16 0 71 ≤ 5 from (hI16 0 71).1)
        have f20 := (show 0 ≤ I16 0 72 ∧ I16 0 72 ≤ 1000 from (hI16 0 72).1)
        have f21 := (show 0 ≤ I16 0 73 ∧ I16 0 73 ≤ 1001 from (hI16 0 73).1)
        have f22 := (show 0 ≤ I16 0 69 ∧ I16 0 69 ≤ 1000 from (hI16 0 69).1)
        have f23 := (show 0 ≤ I16 0 211 ∧ I16 0 211 ≤ 2400 from (hI16 0 211).1)
        have f24 := (show 0 ≤ I16 0 206 ∧ I16 0 206 ≤ 100 from (hI16 0 206).1)
        refine gv_run 2 true hD (pc' := 158) (lv' := [(2, .inl (v2_9 + 1)), (0, .inr (.inr (some 0))), (1, .inl a1)]) (st' := [.inr (.inr (some 0))]) (h' := gr_h I16 J17) (C := ((True ∧ True) ∧ True)) rfl ⟨⟨trivial, trivial⟩, trivial⟩ ?_
        obtain ⟨r25, h25, E25, P25⟩ := r_next (ws0 := ws0) (tb := tb) hws htb ext I16 J17 hI16   (by omega)
        obtain ⟨I26, J27, rfl, hI26, g25, k25, ⟨rfl, q25⟩⟩ := P25
        have FI26 := gr_frt FI16 g25 rfl rfl
        have FJ27 := gr_fjt FJ17 k25 rfl rfl
        have t28 := g25 0 69 rfl
        have t29 := g25 0 211 rfl
        have t30 := g25 0 206 rfl
        have t31 := g25 130 (Int.toNat ((v2_9 + 1))) rfl
        have t32 := g25 131 (Int.toNat ((v2_9 + 1))) rfl
        have f33 := (show 0 ≤ I26 0 71 ∧ I26 0 71 ≤ 5 from (hI26 0 71).1)
        have f34 := (show 0 ≤ I26 0 72 ∧ I26 0 72 ≤ 1000 from (hI26 0 72).1)
        have f35 := (show 0 ≤ I26 0 73 ∧ I26 0 73 ≤ 1001 from (hI26 0 73).1)
        have f36 := (show 0 ≤ I26 0 69 ∧ I26 0 69 ≤ 1000 from (hI26 0 69).1)
        have f37 := (show 0 ≤ I26 0 211 ∧ I26 0 211 ≤ 2400 from (hI26 0 211).1)
        have f38 := (show 0 ≤ I26 0 206 ∧ I26 0 206 ≤ 100 from (hI26 0 206).1)
        refine gv_callV hD rfl (As := []) (st := []) rfl (by decide) rfl rfl (gr_lV hws rfl) (Nat.le_of_ble_eq_true rfl) (gz_Ev_mono (d := 10) (by decide) E25) ?_
        show gv_X _ _ (161, [(2, .inl (v2_9 + 1)), (0, .inr (.inr (some 0))), (1, .inl a1)], [], gr_sh ++ ext, gr_h I26 J27)
        refine gv_run 1 true hD (pc' := 30) (lv' := [(2, .inl (v2_9 + 1)), (0, .inr (.inr (some 0))), (1, .inl a1)]) (st' := []) (h' := gr_h I26 J27) (C := (True ∧ True)) rfl ⟨trivial, trivial⟩ ?_
        refine gv_pick [1, 2, 0] rfl ?_
        exact ih30 I26 J27 (v2_9 + 1) (by omega) hI26 FI26 FJ27 (by omega) (gr_AS_fr e5_18 (fun k => g25 130 k rfl) (fun k => g25 131 k rfl))
      have L178 : ∀ (n : Nat) (I39 : gr_I) (J40 : gr_J) (v3_41 : Int), (101 - v3_41).toNat < n → gr_Inv I39 → gr_fr [0, 68, 69, 71, 72, 73, 74, 75, 126, 127, 128, 211] [51, 56, 57, 76, 77, 78, 79, 130, 131, 132, 133] I I39 → gr_fj [0, 68, 69, 71, 72, 73, 74, 75, 126, 127, 128, 211] [51, 56, 57, 76, 77, 78, 79, 130, 131, 132, 133] J J40 → ((0 ≤ a1 ∧ a1 ≤ 7) ∧ (1 ≤ v2_9 ∧ v2_9 ≤ 8) ∧ (0 ≤ v3_41 ∧ v3_41 ≤ 100) ∧ (I39 0 211 ≤ 24 * v3_41)) → (gr_AS I39 v2_9) → gv_X (gr_E ws0 tb 10 (yX13_ask, cX13_ask, 7, (some .int)) kX13_ask) (gv_Q cX13_ask (some .int) (gr_sh ++ ext) (fun r h' => (∃ (I' : gr_I) (J' : gr_J), h' = gr_h I' J' ∧ gr_Inv I' ∧ gr_fr [0, 68, 69, 71, 72, 73, 74, 75, 126, 127, 128, 211] [51, 56, 57, 76, 77, 78, 79, 130, 131, 132, 133] I I' ∧ gr_fj [0, 68, 69, 71, 72, 73, 74, 75, 126, 127, 128, 211] [51, 56, 57, 76, 77, 78, 79, 130, 131, 132, 133] J J' ∧ (∃ z : Int, r = some (.inl z) ∧ (-3) ≤ z ∧ z ≤ 2400)))) (178, [(0, .inr (.inr (some 0))), (1, .inl a1), (2, .inl v2_9), (3, .inl v3_41)], [], gr_sh ++ ext, gr_h I39 J40) := by
        intro n
        induction n with
        | zero => intro I39 J40 v3_41 hn; omega
        | succ n ih178 =>
          intro I39 J40 v3_41 hn hI39 FI39 FJ40 m_41 e1_41
          clear ha1_9 hv2_9 e0_9 e1_9 e2_9 e3_9 e4_9 e6_9 f10 f11 f12 f13 f14 f15
          obtain ⟨ha1_41, hv2_9_41, hv3_41, e0_41⟩ := m_41
          have f42 := (show 0 ≤ I39 0 71 ∧ I39 0 71 ≤ 5 from (hI39 0 71).1)
          have f43 := (show 0 ≤ I39 0 72 ∧ I39 0 72 ≤ 1000 from (hI39 0 72).1)
          have f44 := (show 0 ≤ I39 0 73 ∧ I39 0 73 ≤ 1001 from (hI39 0 73).1)
          have f45 := (show 0 ≤ I39 0 69 ∧ I39 0 69 ≤ 1000 from (hI39 0 69).1)
          have f46 := (show 0 ≤ I39 0 211 ∧ I39 0 211 ≤ 2400 from (hI39 0 211).1)
          have f47 := (show 0 ≤ I39 0 206 ∧ I39 0 206 ≤ 100 from (hI39 0 206).1)
          have L299 : ∀ (I48 : gr_I) (J49 : gr_J) , gr_Inv I48 → gr_fr [0, 68, 69, 71, 72, 73, 74, 75, 126, 127, 128, 211] [51, 56, 57, 76, 77, 78, 79, 130, 131, 132, 133] I I48 → gr_fj [0, 68, 69, 71, 72, 73, 74, 75, 126, 127, 128, 211] [51, 56, 57, 76, 77, 78, 79, 130, 131, 132, 133] J J49 → ((0 ≤ a1 ∧ a1 ≤ 7) ∧ (1 ≤ v2_9 ∧ v2_9 ≤ 8) ∧ (0 ≤ v3_41 ∧ v3_41 ≤ 99) ∧ (I48 0 211 ≤ 24 * v3_41 + 24)) → (gr_AS I48 v2_9) → gv_X (gr_E ws0 tb 10 (yX13_ask, cX13_ask, 7, (some .int)) kX13_ask) (gv_Q cX13_ask (some .int) (gr_sh ++ ext) (fun r h' => (∃ (I' : gr_I) (J' : gr_J), h' = gr_h I' J' ∧ gr_Inv I' ∧ gr_fr [0, 68, 69, 71, 72, 73, 74, 75, 126, 127, 128, 211] [51, 56, 57, 76, 77, 78, 79, 130, 131, 132, 133] I I' ∧ gr_fj [0, 68, 69, 71, 72, 73, 74, 75, 126, 127, 128, 211] [51, 56, 57, 76, 77, 78, 79, 130, 131, 132, 133] J J' ∧ (∃ z : Int, r = some (.inl z) ∧ (-3) ≤ z ∧ z ≤ 2400)))) (299, [(0, .inr (.inr (some 0))), (1, .inl a1), (2, .inl v2_9), (3, .inl v3_41)], [], gr_sh ++ ext, gr_h I48 J49) := by
            intro I48 J49 hI48 FI48 FJ49 m_50 e1_50
            clear ha1_41 hv2_9_41 hv3_41 e0_41 f42 f43 f44 f45 f46 f47
            obtain ⟨ha1_50, hv2_9_50, hv3_41_50, e0_50⟩ := m_50
            have f51 := (show 0 ≤ I48 0 71 ∧ I48 0 71 ≤ 5 from (hI48 0 71).1)
            have f52 := (show 0 ≤ I48 0 72 ∧ I48 0 72 ≤ 1000 from (hI48 0 72).1)
            have f53 := (show 0 ≤ I48 0 73 ∧ I48 0 73 ≤ 1001 from (hI48 0 73).1)
            have f54 := (show 0 ≤ I48 0 69 ∧ I48 0 69 ≤ 1000 from (hI48 0 69).1)
            have f55 := (show 0 ≤ I48 0 211 ∧ I48 0 211 ≤ 2400 from (hI48 0 211).1)
            have f56 := (show 0 ≤ I48 0 206 ∧ I48 0 206 ≤ 100 from (hI48 0 206).1)
            refine gv_run 2 true hD (pc' := 178) (lv' := [(3, .inl (v3_41 + 1)), (0, .inr (.inr (some 0))), (1, .inl a1), (2, .inl v2_9)]) (st' := []) (h' := gr_h I48 J49) (C := ((True ∧ True) ∧ True)) rfl ⟨⟨trivial, trivial⟩, trivial⟩ ?_
            refine gv_pick [1, 2, 3, 0] rfl ?_
            exact ih178 I48 J49 (v3_41 + 1) (by omega) hI48 FI48 FJ49 (by omega) e1_50
          have L202 : ∀ (n : Nat) (I57 : gr_I) (J58 : gr_J) (v4_59 : Int), (25 - v4_59).toNat < n → gr_Inv I57 → gr_fr [0, 68, 69, 71, 72, 73, 74, 75, 126, 127, 128, 211] [51, 56, 57, 76, 77, 78, 79, 130, 131, 132, 133] I I57 → gr_fj [0, 68, 69, 71, 72, 73, 74, 75, 126, 127, 128, 211] [51, 56, 57, 76, 77, 78, 79, 130, 131, 132, 133] J J58 → ((0 ≤ a1 ∧ a1 ≤ 7) ∧ (1 ≤ v2_9 ∧ v2_9 ≤ 8) ∧ (0 ≤ v3_41 ∧ v3_41 ≤ 99) ∧ (0 ≤ v4_59 ∧ v4_59 ≤ 24) ∧ (I57 0 211 ≤ 24 * v3_41 + v4_59)) → (gr_AS I57 v2_9) → gv_X (gr_E ws0 tb 10 (yX13_ask, cX13_ask, 7, (some .int)) kX13_ask) (gv_Q cX13_ask (some .int) (gr_sh ++ ext) (fun r h' => (∃ (I' : gr_I) (J' : gr_J), h' = gr_h I' J' ∧ gr_Inv I' ∧ gr_fr [0, 68, 69, 71, 72, 73, 74, 75, 126, 127, 128, 211] [51, 56, 57, 76, 77, 78, 79, 130, 131, 132, 133] I I' ∧ gr_fj [0, 68, 69, 71, 72, 73, 74, 75, 126, 127, 128, 211] [51, 56, 57, 76, 77, 78, 79, 130, 131, 132, 133] J J' ∧ (∃ z : Int, r = some (.inl z) ∧ (-3) ≤ z ∧ z ≤ 2400)))) (202, [(0, .inr (.inr (some 0))), (1, .inl a1), (2, .inl v2_9), (3, .inl v3_41), (4, .inl v4_59)], [], gr_sh ++ ext, gr_h I57 J58) := by
            intro n
            induction n with
            | zero => intro I57 J58 v4_59 hn; omega
            | succ n ih202 =>
              intro I57 J58 v4_59 hn hI57 FI57 FJ58 m_59 e1_59
              clear ha1_41 hv2_9_41 hv3_41 e0_41 f42 f43 f44 f45 f46 f47
              obtain ⟨ha1_59, hv2_9_59, hv3_41_59, hv4_59, e0_59⟩ := m_59
              have f60 := (show 0 ≤ I57 0 71 ∧ I57 0 71 ≤ 5 from (hI57 0 71).1)
              have f61 := (show 0 ≤ I57 0 72 ∧ I57 0 72 ≤ 1000 from (hI57 0 72).1)
              have f62 := (show 0 ≤ I57 0 73 ∧ I57 0 73 ≤ 1001 from (hI57 0 73).1)
              have f63 := (show 0 ≤ I57 0 69 ∧ I57 0 69 ≤ 1000 from (hI57 0 69).1)
              have f64 := (show 0 ≤ I57 0 211 ∧ I57 0 211 ≤ 2400 from (hI57 0 211).1)
              have f65 := (show 0 ≤ I57 0 206 ∧ I57 0 206 ≤ 100 from (hI57 0 206).1)
              have L221 : ∀ (n : Nat) (v5_66 : Int) (v6_66 : Int), (9 - v6_66).toNat < n → ((0 ≤ a1 ∧ a1 ≤ 7) ∧ (1 ≤ v2_9 ∧ v2_9 ≤ 8) ∧ (0 ≤ v3_41 ∧ v3_41 ≤ 99) ∧ (0 ≤ v4_59 ∧ v4_59 ≤ 23) ∧ (0 ≤ v5_66 ∧ v5_66 ≤ 1) ∧ (0 ≤ v6_66 ∧ v6_66 ≤ 8) ∧ (v4_59 + v2_9 ≤ 24) ∧ (I57 0 211 ≤ 24 * v3_41 + v4_59)) → (gr_AS I57 v2_9) → gv_X (gr_E ws0 tb 10 (yX13_ask, cX13_ask, 7, (some .int)) kX13_ask) (gv_Q cX13_ask (some .int) (gr_sh ++ ext) (fun r h' => (∃ (I' : gr_I) (J' : gr_J), h' = gr_h I' J' ∧ gr_Inv I' ∧ gr_fr [0, 68, 69, 71, 72, 73, 74, 75, 126, 127, 128, 211] [51, 56, 57, 76, 77, 78, 79, 130, 131, 132, 133] I I' ∧ gr_fj [0, 68, 69, 71, 72, 73, 74, 75, 126, 127, 128, 211] [51, 56, 57, 76, 77, 78, 79, 130, 131, 132, 133] J J' ∧ (∃ z : Int, r = some (.inl z) ∧ (-3) ≤ z ∧ z ≤ 2400)))) (221, [(0, .inr (.inr (some 0))), (1, .inl a1), (2, .inl v2_9), (3, .inl v3_41), (4, .inl v4_59), (5, .inl v5_66), (6, .inl v6_66)], [], gr_sh ++ ext, gr_h I57 J58) := by
                intro n
                induction n with
                | zero => intro v5_66 v6_66 hn; omega
                | succ n ih221 =>
                  intro v5_66 v6_66 hn m_66 e1_66
                  obtain ⟨ha1_66, hv2_9_66, hv3_41_66, hv4_59_66, hv5_66, hv6_66, e0_66, e2_66⟩ := m_66
                  have f67 := (show 0 ≤ I57 0 71 ∧ I57 0 71 ≤ 5 from (hI57 0 71).1)
                  have f68 := (show 0 ≤ I57 0 72 ∧ I57 0 72 ≤ 1000 from (hI57 0 72).1)
                  have f69 := (show 0 ≤ I57 0 73 ∧ I57 0 73 ≤ 1001 from (hI57 0 73).1)
                  have f70 := (show 0 ≤ I57 0 69 ∧ I57 0 69 ≤ 1000 from (hI57 0 69).1)
                  have f71 := (show 0 ≤ I57 0 211 ∧ I57 0 211 ≤ 2400 from (hI57 0 211).1)
                  have f72 := (show 0 ≤ I57 0 206 ∧ I57 0 206 ≤ 100 from (hI57 0 206).1)
                  have L257 : ((0 ≤ a1 ∧ a1 ≤ 7) ∧ (1 ≤ v2_9 ∧ v2_9 ≤ 8) ∧ (0 ≤ v3_41 ∧ v3_41 ≤ 99) ∧ (0 ≤ v4_59 ∧ v4_59 ≤ 23) ∧ (0 ≤ v5_66 ∧ v5_66 ≤ 1) ∧ (v4_59 + v2_9 ≤ 24) ∧ (I57 0 211 ≤ 24 * v3_41 + v4_59)) → (gr_AS I57 v2_9) → gv_X (gr_E ws0 tb 10 (yX13_ask, cX13_ask, 7, (some .int)) kX13_ask) (gv_Q cX13_ask (some .int) (gr_sh ++ ext) (fun r h' => (∃ (I' : gr_I) (J' : gr_J), h' = gr_h I' J' ∧ gr_Inv I' ∧ gr_fr [0, 68, 69, 71, 72, 73, 74, 75, 126, 127, 128, 211] [51, 56, 57, 76, 77, 78, 79, 130, 131, 132, 133] I I' ∧ gr_fj [0, 68, 69, 71, 72, 73, 74, 75, 126, 127, 128, 211] [51, 56, 57, 76, 77, 78, 79, 130, 131, 132, 133] J J' ∧ (∃ z : Int, r = some (.inl z) ∧ (-3) ≤ z ∧ z ≤ 2400)))) (257, [(0, .inr (.inr (some 0))), (1, .inl a1), (2, .inl v2_9), (3, .inl v3_41), (4, .inl v4_59), (5, .inl v5_66)], [], gr_sh ++ ext, gr_h I57 J58) := by
                    intro m_73 e1_73
                    obtain ⟨ha1_73, hv2_9_73, hv3_41_73, hv4_59_73, hv5_66_73, e0_73, e2_73⟩ := m_73
                    have f74 := (show 0 ≤ I57 0 71 ∧ I57 0 71 ≤ 5 from (hI57 0 71).1)
                    have f75 := (show 0 ≤ I57 0 72 ∧ I57 0 72 ≤ 1000 from (hI57 0 72).1)
                    have f76 := (show 0 ≤ I57 0 73 ∧ I57 0 73 ≤ 1001 from (hI57 0 73).1)
                    have f77 := (show 0 ≤ I57 0 69 ∧ I57 0 69 ≤ 1000 from (hI57 0 69).1)
                    have f78 := (show 0 ≤ I57 0 211 ∧ I57 0 211 ≤ 2400 from (hI57 0 211).1)
                    have f79 := (show 0 ≤ I57 0 206 ∧ I57 0 206 ≤ 100 from (hI57 0 206).1)
                    have L293 : ∀ (I80 : gr_I) (J81 : gr_J) , gr_Inv I80 → gr_fr [0, 68, 69, 71, 72, 73, 74, 75, 126, 127, 128, 211] [51, 56, 57, 76, 77, 78, 79, 130, 131, 132, 133] I I80 → gr_fj [0, 68, 69, 71, 72, 73, 74, 75, 126, 127, 128, 211] [51, 56, 57, 76, 77, 78, 79, 130, 131, 132, 133] J J81 → ((0 ≤ a1 ∧ a1 ≤ 7) ∧ (1 ≤ v2_9 ∧ v2_9 ≤ 8) ∧ (0 ≤ v3_41 ∧ v3_41 ≤ 99) ∧ (0 ≤ v4_59 ∧ v4_59 ≤ 23) ∧ (I80 0 211 ≤ 24 * v3_41 + v4_59 + 1)) → (gr_AS I80 v2_9) → gv_X (gr_E ws0 tb 10 (yX13_ask, cX13_ask, 7, (some .int)) kX13_ask) (gv_Q cX13_ask (some .int) (gr_sh ++ ext) (fun r h' => (∃ (I' : gr_I) (J' : gr_J), h' = gr_h I' J' ∧ gr_Inv I' ∧ gr_fr [0, 68, 69, 71, 72, 73, 74, 75, 126, 127, 128, 211] [51, 56, 57, 76, 77, 78, 79, 130, 131, 132, 133] I I' ∧ gr_fj [0, 68, 69, 71, 72, 73, 74, 75, 126, 127, 128, 211] [51, 56, 57, 76, 77, 78, 79, 130, 131, 132, 133] J J' ∧ (∃ z : Int, r = some (.inl z) ∧ (-3) ≤ z ∧ z ≤ 2400)))) (293, [(0, .inr (.inr (some 0))), (1, .inl a1), (2, .inl v2_9), (3, .inl v3_41), (4, .inl v4_59)], [], gr_sh ++ ext, gr_h I80 J81) := by
                      intro I80 J81 hI80 FI80 FJ81 m_82 e1_82
                      clear ha1_73 hv2_9_73 hv3_41_73 hv4_59_73 hv5_66_73 e0_73 e2_73 f74 f75 f76 f77 f78 f79 ha1_66 hv2_9_66 hv3_41_66 hv4_59_66 hv5_66 hv6_66 e0_66 e2_66 f67 f68 f69 f70 f71 f72 ha1_59 hv2_9_59 hv3_41_59 hv4_59 e0_59 f60 f61 f62 f63 f64 f65
                      obtain ⟨ha1_82, hv2_9_82, hv3_41_82, hv4_59_82, e0_82⟩ := m_82
                      have f83 := (show 0 ≤ I80 0 71 ∧ I80 0 71 ≤ 5 from (hI80 0 71).1)
                      have f84 := (show 0 ≤ I80 0 72 ∧ I80 0 72 ≤ 1000 from (hI80 0 72).1)
                      have f85 := (show 0 ≤ I80 0 73 ∧ I80 0 73 ≤ 1001 from (hI80 0 73).1)
                      have f86 := (show 0 ≤ I80 0 69 ∧ I80 0 69 ≤ 1000 from (hI80 0 69).1)
                      have f87 := (show 0 ≤ I80 0 211 ∧ I80 0 211 ≤ 2400 from (hI80 0 211).1)
                      have f88 := (show 0 ≤ I80 0 206 ∧ I80 0 206 ≤ 100 from (hI80 0 206).1)
                      refine gv_run 2 true hD (pc' := 202) (lv' := [(4, .inl (v4_59 + 1)), (0, .inr (.inr (some 0))), (1, .inl a1), (2, .inl v2_9), (3, .inl v3_41)]) (st' := []) (h' := gr_h I80 J81) (C := ((True ∧ True) ∧ True)) rfl ⟨⟨trivial, trivial⟩, trivial⟩ ?_
                      refine gv_pick [1, 2, 3, 4, 0] rfl ?_
                      exact ih202 I80 J81 (v4_59 + 1) (by omega) hI80 FI80 FJ81 (by omega) e1_82
                    refine gv_run 1 true hD (pc' := 259) (lv' := [(0, .inr (.inr (some 0))), (1, .inl a1), (2, .inl v2_9), (3, .inl v3_41), (4, .inl v4_59), (5, .inl v5_66)]) (st' := [.inl v5_66]) (h' := gr_h I57 J58) (C := (True ∧ True)) rfl ⟨trivial, trivial⟩ ?_
                    refine gv_if_ne (t := 265) hD rfl rfl ⟨by omega, by omega⟩ (fun c89 => ?_) (fun c89 => ?_)
                    · have f90 := (show 0 ≤ I57 0 211 ∧ I57 0 211 ≤ 2400 from (hI57 0 211).1)
                      refine gv_run 5 true hD (pc' := 274) (lv' := [(0, .inr (.inr (some 0))), (1, .inl a1), (2, .inl v2_9), (3, .inl v3_41), (4, .inl v4_59), (5, .inl v5_66)]) (st' := [.inl v3_41, .inl (I57 0 211), .inr (.inr (some 132))]) (h' := gr_h I57 J58) (C := (((((True ∧ True) ∧ True) ∧ True) ∧ True) ∧ True)) rfl ⟨⟨⟨⟨⟨trivial, trivial⟩, trivial⟩, trivial⟩, trivial⟩, trivial⟩ ?_
                      refine gv_run 1 true hD (pc' := 275) (lv' := [(0, .inr (.inr (some 0))), (1, .inl a1), (2, .inl v2_9), (3, .inl v3_41), (4, .inl v4_59), (5, .inl v5_66)]) (st' := []) (h' := gz_up (gr_h I57 J58) 132 (Int.toNat ((I57 0 211))) (.inl v3_41)) (C := (True ∧ (0 ≤ (I57 0 211) ∧ (I57 0 211) < ((2400 : Nat) : Int)))) rfl ⟨trivial, ⟨by omega, by omega⟩⟩ ?_
                      refine gr_st hI57 FI57 rfl rfl ⟨⟨by show 0 ≤ _; omega, by show _ ≤ 99; omega⟩, trivial⟩ (fun I91 hI91 FI91 q92 p92 => ?_)
                      have t93 := p92 0 71 (fun q => absurd q.1 (by decide))
                      have t94 := p92 0 72 (fun q => absurd q.1 (by decide))
                      have t95 := p92 0 73 (fun q => absurd q.1 (by decide))
                      have t96 := p92 0 69 (fun q => absurd q.1 (by decide))
                      have t97 := p92 0 211 (fun q => absurd q.1 (by decide))
                      have t98 := p92 0 206 (fun q => absurd q.1 (by decide))
                      have t99 := p92 130 (Int.toNat v2_9) (fun q => absurd q.1 (by decide))
                      have t100 := p92 131 (Int.toNat v2_9) (fun q => absurd q.1 (by decide))
                      have f101 := (show 0 ≤ I91 0 71 ∧ I91 0 71 ≤ 5 from (hI91 0 71).1)
                      have f102 := (show 0 ≤ I91 0 72 ∧ I91 0 72 ≤ 1000 from (hI91 0 72).1)
                      have f103 := (show 0 ≤ I91 0 73 ∧ I91 0 73 ≤ 1001 from (hI91 0 73).1)
                      have f104 := (show 0 ≤ I91 0 69 ∧ I91 0 69 ≤ 1000 from (hI91 0 69).1)
                      have f105 := (show 0 ≤ I91 0 211 ∧ I91 0 211 ≤ 2400 from (hI91 0 211).1)
                      have f106 := (show 0 ≤ I91 0 206 ∧ I91 0 206 ≤ 100 from (hI91 0 206).1)
                      have f107 := (show 0 ≤ I91 0 211 ∧ I91 0 211 ≤ 2400 from (hI91 0 211).1)
                      refine gv_run 7 true hD (pc' := 286) (lv' := [(0, .inr (.inr (some 0))), (1, .inl a1), (2, .inl v2_9), (3, .inl v3_41), (4, .inl v4_59), (5, .inl v5_66)]) (st' := [.inl 1, .inl (I91 0 211), .inr (.inr (some 0)), .inl (I91 0 211), .inr (.inr (some 133))]) (h' := gr_h I91 J58) (C := (((((((True ∧ True) ∧ True) ∧ True) ∧ True) ∧ True) ∧ True) ∧ True)) rfl ⟨⟨⟨⟨⟨⟨⟨trivial, trivial⟩, trivial⟩, trivial⟩, trivial⟩, trivial⟩, trivial⟩, trivial⟩ ?_
                      refine gv_run 2 true hD (pc' := 290) (lv' := [(0, .inr (.inr (some 0))), (1, .inl a1), (2, .inl v2_9), (3, .inl v3_41), (4, .inl v4_59), (5, .inl v5_66)]) (st' := [.inl (I91 0 211), .inr (.inr (some 133))]) (h' := gz_up (gr_h I91 J58) 0 211 (.inl (((I91 0 211) + 1)))) (C := ((True ∧ True) ∧ True)) rfl ⟨⟨trivial, trivial⟩, trivial⟩ ?_
                      refine gr_st hI91 FI91 rfl rfl ⟨⟨by show 0 ≤ _; omega, by show _ ≤ 2400; omega⟩, trivial⟩ (fun I108 hI108 FI108 q109 p109 => ?_)
                      have t110 := p109 0 71 (by decide)
                      have t111 := p109 0 72 (by decide)
                      have t112 := p109 0 73 (by decide)
                      have t113 := p109 0 69 (by decide)
                      have t114 := p109 0 206 (by decide)
                      have t115 := p109 130 (Int.toNat v2_9) (fun q => absurd q.1 (by decide))
                      have t116 := p109 131 (Int.toNat v2_9) (fun q => absurd q.1 (by decide))
                      have f117 := (show 0 ≤ I108 0 71 ∧ I108 0 71 ≤ 5 from (hI108 0 71).1)
                      have f118 := (show 0 ≤ I108 0 72 ∧ I108 0 72 ≤ 1000 from (hI108 0 72).1)
                      have f119 := (show 0 ≤ I108 0 73 ∧ I108 0 73 ≤ 1001 from (hI108 0 73).1)
                      have f120 := (show 0 ≤ I108 0 69 ∧ I108 0 69 ≤ 1000 from (hI108 0 69).1)
                      have f121 := (show 0 ≤ I108 0 211 ∧ I108 0 211 ≤ 2400 from (hI108 0 211).1)
                      have f122 := (show 0 ≤ I108 0 206 ∧ I108 0 206 ≤ 100 from (hI108 0 206).1)
                      refine gv_run 2 true hD (pc' := 293) (lv' := [(0, .inr (.inr (some 0))), (1, .inl a1), (2, .inl v2_9), (3, .inl v3_41), (4, .inl v4_59), (5, .inl v5_66)]) (st' := []) (h' := gz_up (gr_h I108 J58) 133 (Int.toNat ((I91 0 211))) (.inl v4_59)) (C := ((True ∧ True) ∧ (0 ≤ (I91 0 211) ∧ (I91 0 211) < ((2400 : Nat) : Int)))) rfl ⟨⟨trivial, trivial⟩, ⟨by omega, by omega⟩⟩ ?_
                      refine gr_st hI108 FI108 rfl rfl ⟨⟨by show 0 ≤ _; omega, by show _ ≤ 23; omega⟩, trivial⟩ (fun I123 hI123 FI123 q124 p124 => ?_)
                      have t125 := p124 0 71 (fun q => absurd q.1 (by decide))
                      have t126 := p124 0 72 (fun q => absurd q.1 (by decide))
                      have t127 := p124 0 73 (fun q => absurd q.1 (by decide))
                      have t128 := p124 0 69 (fun q => absurd q.1 (by decide))
                      have t129 := p124 0 211 (fun q => absurd q.1 (by decide))
                      have t130 := p124 0 206 (fun q => absurd q.1 (by decide))
                      have t131 := p124 130 (Int.toNat v2_9) (fun q => absurd q.1 (by decide))
                      have t132 := p124 131 (Int.toNat v2_9) (fun q => absurd q.1 (by decide))
                      have f133 := (show 0 ≤ I123 0 71 ∧ I123 0 71 ≤ 5 from (hI123 0 71).1)
                      have f134 := (show 0 ≤ I123 0 72 ∧ I123 0 72 ≤ 1000 from (hI123 0 72).1)
                      have f135 := (show 0 ≤ I123 0 73 ∧ I123 0 73 ≤ 1001 from (hI123 0 73).1)
                      have f136 := (show 0 ≤ I123 0 69 ∧ I123 0 69 ≤ 1000 from (hI123 0 69).1)
                      have f137 := (show 0 ≤ I123 0 211 ∧ I123 0 211 ≤ 2400 from (hI123 0 211).1)
                      have f138 := (show 0 ≤ I123 0 206 ∧ I123 0 206 ≤ 100 from (hI123 0 206).1)
                      refine gv_pick [0, 1, 2, 3, 4] rfl ?_
                      exact L293 I123 J58 hI123 FI123 FJ58 (by omega) (gr_AS_fr (gr_AS_fr (gr_AS_fr e1_73 (fun k => p92 130 k (fun q => absurd q.1 (by decide))) (fun k => p92 131 k (fun q => absurd q.1 (by decide)))) (fun k => p109 130 k (fun q => absurd q.1 (by decide))) (fun k => p109 131 k (fun q => absurd q.1 (by decide)))) (fun k => p124 130 k (fun q => absurd q.1 (by decide))) (fun k => p124 131 k (fun q => absurd q.1 (by decide))))
                    · refine gv_run 1 true hD (pc' := 293) (lv' := [(0, .inr (.inr (some 0))), (1, .inl a1), (2, .inl v2_9), (3, .inl v3_41), (4, .inl v4_59), (5, .inl v5_66)]) (st' := []) (h' := gr_h I57 J58) (C := (True ∧ True)) rfl ⟨trivial, trivial⟩ ?_
                      refine gv_pick [0, 1, 2, 3, 4] rfl ?_
                      exact L293 I57 J58 hI57 FI57 FJ58 (by omega) e1_73
                  refine gv_run 2 true hD (pc' := 224) (lv' := [(0, .inr (.inr (some 0))), (1, .inl a1), (2, .inl v2_9), (3, .inl v3_41), (4, .inl v4_59), (5, .inl v5_66), (6, .inl v6_66)]) (st' := [.inl v2_9, .inl v6_66]) (h' := gr_h I57 J58) (C := ((True ∧ True) ∧ True)) rfl ⟨⟨trivial, trivial⟩, trivial⟩ ?_
                  refine gv_icmp_ge (t := 257) hD rfl rfl ⟨⟨by omega, by omega⟩, ⟨by omega, by omega⟩⟩ (fun c139 => ?_) (fun c139 => ?_)
                  · refine gv_pick [0, 1, 2, 3, 4, 5] rfl ?_
                    exact L257 (by omega) e1_66
                  · refine gv_run 1 true hD (pc' := 229) (lv' := [(0, .inr (.inr (some 0))), (1, .inl a1), (2, .inl v2_9), (3, .inl v3_41), (4, .inl v4_59), (5, .inl v5_66), (6, .inl v6_66)]) (st' := [.inl v5_66]) (h' := gr_h I57 J58) (C := (True ∧ True)) rfl ⟨trivial, trivial⟩ ?_
                    refine gv_if_eq (t := 257) hD rfl rfl ⟨by omega, by omega⟩ (fun c140 => ?_) (fun c140 => ?_)
                    · refine gv_pick [0, 1, 2, 3, 4, 5] rfl ?_
                      exact L257 (by omega) e1_66
                    · refine gv_run 7 true hD (pc' := 242) (lv' := [(0, .inr (.inr (some 0))), (1, .inl a1), (2, .inl v2_9), (3, .inl v3_41), (4, .inl v4_59), (5, .inl v5_66), (6, .inl v6_66)]) (st' := [.inl v4_59, .inl (24 * v3_41), .inl v6_66, .inl a1, .inr (.inr (some 0))]) (h' := gr_h I57 J58) (C := (((((((True ∧ True) ∧ True) ∧ True) ∧ True) ∧ True) ∧ True) ∧ True)) rfl ⟨⟨⟨⟨⟨⟨⟨trivial, trivial⟩, trivial⟩, trivial⟩, trivial⟩, trivial⟩, trivial⟩, trivial⟩ ?_
                      refine gv_run 3 true hD (pc' := 246) (lv' := [(0, .inr (.inr (some 0))), (1, .inl a1), (2, .inl v2_9), (3, .inl v3_41), (4, .inl v4_59), (5, .inl v5_66), (6, .inl v6_66)]) (st' := [.inl (((24 * v3_41) + v4_59) + v6_66), .inl v6_66, .inl a1, .inr (.inr (some 0))]) (h' := gr_h I57 J58) (C := (((True ∧ True) ∧ True) ∧ True)) rfl ⟨⟨⟨trivial, trivial⟩, trivial⟩, trivial⟩ ?_
                      have t141 := e1_66 v6_66 (by omega) (by omega)
                      obtain ⟨r142, h142, E142, P142⟩ := r_hitsWord (ws0 := ws0) (tb := tb) hws htb ext I57 J58 hI57 a1 v6_66 ((((24 * v3_41) + v4_59) + v6_66)) ⟨by omega, by omega⟩ ⟨by omega, by omega⟩ ⟨by omega, by omega⟩ (by omega) (by omega)
                      obtain ⟨rfl, ⟨z142, rfl, q142⟩⟩ := P142
                      refine gv_callV hD rfl (As := [.inl a1, .inl v6_66, .inl (((24 * v3_41) + v4_59) + v6_66)]) (st := []) rfl (by decide) rfl rfl (gr_lV hws rfl) (Nat.le_of_ble_eq_true rfl) (gz_Ev_mono (d := 2) (by decide) E142) ?_
                      show gv_X _ _ (249, [(0, .inr (.inr (some 0))), (1, .inl a1), (2, .inl v2_9), (3, .inl v3_41), (4, .inl v4_59), (5, .inl v5_66), (6, .inl v6_66)], [.inl z142], gr_sh ++ ext, gr_h I57 J58)
                      refine gv_run 3 true hD (pc' := 221) (lv' := [(6, .inl (v6_66 + 1)), (5, .inl z142), (0, .inr (.inr (some 0))), (1, .inl a1), (2, .inl v2_9), (3, .inl v3_41), (4, .inl v4_59)]) (st' := []) (h' := gr_h I57 J58) (C := (((True ∧ True) ∧ True) ∧ True)) rfl ⟨⟨⟨trivial, trivial⟩, trivial⟩, trivial⟩ ?_
                      refine gv_pick [2, 3, 4, 5, 6, 1, 0] rfl ?_
                      exact ih221 z142 (v6_66 + 1) (by omega) (by omega) e1_66
              have f143 := (show 0 ≤ I57 127 (Int.toNat v3_41) ∧ I57 127 (Int.toNat v3_41) ≤ 24 from (hI57 127 (Int.toNat v3_41)).1)
              refine gv_run 7 true hD (pc' := 212) (lv' := [(0, .inr (.inr (some 0))), (1, .inl a1), (2, .inl v2_9), (3, .inl v3_41), (4, .inl v4_59)]) (st' := [.inl (I57 127 (Int.toNat v3_41)), .inl (v4_59 + v2_9)]) (h' := gr_h I57 J58) (C := (((((((True ∧ True) ∧ True) ∧ True) ∧ True) ∧ True) ∧ True) ∧ (0 ≤ v3_41 ∧ v3_41 < ((100 : Nat) : Int)))) rfl ⟨⟨⟨⟨⟨⟨⟨trivial, trivial⟩, trivial⟩, trivial⟩, trivial⟩, trivial⟩, trivial⟩, ⟨by omega, by omega⟩⟩ ?_
              refine gv_icmp_gt (t := 299) hD rfl rfl ⟨⟨by omega, by omega⟩, ⟨by omega, by omega⟩⟩ (fun c144 => ?_) (fun c144 => ?_)
              · refine gv_pick [0, 1, 2, 3] rfl ?_
                exact L299 I57 J58 hI57 FI57 FJ58 (by omega) e1_59
              · refine gv_run 4 true hD (pc' := 221) (lv' := [(6, .inl 0), (5, .inl 1), (0, .inr (.inr (some 0))), (1, .inl a1), (2, .inl v2_9), (3, .inl v3_41), (4, .inl v4_59)]) (st' := []) (h' := gr_h I57 J58) (C := ((((True ∧ True) ∧ True) ∧ True) ∧ True)) rfl ⟨⟨⟨⟨trivial, trivial⟩, trivial⟩, trivial⟩, trivial⟩ ?_
                refine gv_pick [2, 3, 4, 5, 6, 1, 0] rfl ?_
                exact L221 _ 1 0 (Nat.lt_succ_self _) (by omega) e1_59
          have f145 := (show 0 ≤ I39 0 206 ∧ I39 0 206 ≤ 100 from (hI39 0 206).1)
          refine gv_run 3 true hD (pc' := 183) (lv' := [(0, .inr (.inr (some 0))), (1, .inl a1), (2, .inl v2_9), (3, .inl v3_41)]) (st' := [.inl (I39 0 206), .inl v3_41]) (h' := gr_h I39 J40) (C := (((True ∧ True) ∧ True) ∧ True)) rfl ⟨⟨⟨trivial, trivial⟩, trivial⟩, trivial⟩ ?_
          refine gv_icmp_ge (t := 305) hD rfl rfl ⟨⟨by omega, by omega⟩, ⟨by omega, by omega⟩⟩ (fun c146 => ?_) (fun c146 => ?_)
          · have f147 := (show 0 ≤ I39 0 211 ∧ I39 0 211 ≤ 2400 from (hI39 0 211).1)
            refine gv_run 2 true hD (pc' := 309) (lv' := [(0, .inr (.inr (some 0))), (1, .inl a1), (2, .inl v2_9), (3, .inl v3_41)]) (st' := [.inl (I39 0 211)]) (h' := gr_h I39 J40) (C := ((True ∧ True) ∧ True)) rfl ⟨⟨trivial, trivial⟩, trivial⟩ ?_
            exact gv_iret hD rfl ⟨I39, J40, rfl, hI39, FI39, FJ40, ⟨_, rfl, by omega⟩⟩
          · have f148 := (show 0 ≤ I39 128 (Int.toNat v3_41) ∧ I39 128 (Int.toNat v3_41) ≤ 7 from (hI39 128 (Int.toNat v3_41)).1)
            refine gv_run 4 true hD (pc' := 192) (lv' := [(0, .inr (.inr (some 0))), (1, .inl a1), (2, .inl v2_9), (3, .inl v3_41)]) (st' := [.inl (I39 128 (Int.toNat v3_41))]) (h' := gr_h I39 J40) (C := ((((True ∧ True) ∧ True) ∧ True) ∧ (0 ≤ v3_41 ∧ v3_41 < ((100 : Nat) : Int)))) rfl ⟨⟨⟨⟨trivial, trivial⟩, trivial⟩, trivial⟩, ⟨by omega, by omega⟩⟩ ?_
            refine gv_run 1 true hD (pc' := 193) (lv' := [(0, .inr (.inr (some 0))), (1, .inl a1), (2, .inl v2_9), (3, .inl v3_41)]) (st' := [.inl a1, .inl (I39 128 (Int.toNat v3_41))]) (h' := gr_h I39 J40) (C := (True ∧ True)) rfl ⟨trivial, trivial⟩ ?_
            refine gv_icmp_eq (t := 199) hD rfl rfl ⟨⟨by omega, by omega⟩, ⟨by omega, by omega⟩⟩ (fun c149 => ?_) (fun c149 => ?_)
            · refine gv_run 2 true hD (pc' := 202) (lv' := [(4, .inl 0), (0, .inr (.inr (some 0))), (1, .inl a1), (2, .inl v2_9), (3, .inl v3_41)]) (st' := []) (h' := gr_h I39 J40) (C := ((True ∧ True) ∧ True)) rfl ⟨⟨trivial, trivial⟩, trivial⟩ ?_
              refine gv_pick [1, 2, 3, 4, 0] rfl ?_
              exact L202 _ I39 J40 0 (Nat.lt_succ_self _) hI39 FI39 FJ40 (by omega) e1_41
            · refine gv_run 1 true hD (pc' := 299) (lv' := [(0, .inr (.inr (some 0))), (1, .inl a1), (2, .inl v2_9), (3, .inl v3_41)]) (st' := []) (h' := gr_h I39 J40) (C := (True ∧ True)) rfl ⟨trivial, trivial⟩ ?_
              exact L299 I39 J40 hI39 FI39 FJ40 (by omega) e1_41
      have f150 := (show 0 ≤ I7 0 71 ∧ I7 0 71 ≤ 5 from (hI7 0 71).1)
      refine gv_run 2 true hD (pc' := 34) (lv' := [(0, .inr (.inr (some 0))), (1, .inl a1), (2, .inl v2_9)]) (st' := [.inl (I7 0 71)]) (h' := gr_h I7 J8) (C := ((True ∧ True) ∧ True)) rfl ⟨⟨trivial, trivial⟩, trivial⟩ ?_
      refine gv_if_eq (t := 164) hD rfl rfl ⟨by omega, by omega⟩ (fun c151 => ?_) (fun c151 => ?_)
      · refine gv_run 1 true hD (pc' := 165) (lv' := [(0, .inr (.inr (some 0))), (1, .inl a1), (2, .inl v2_9)]) (st' := [.inl v2_9]) (h' := gr_h I7 J8) (C := (True ∧ True)) rfl ⟨trivial, trivial⟩ ?_
        refine gv_if_ne (t := 171) hD rfl rfl ⟨by omega, by omega⟩ (fun c152 => ?_) (fun c152 => ?_)
        · refine gv_run 2 true hD (pc' := 173) (lv' := [(0, .inr (.inr (some 0))), (1, .inl a1), (2, .inl v2_9)]) (st' := [.inl a1, .inr (.inr (some 0))]) (h' := gr_h I7 J8) (C := ((True ∧ True) ∧ True)) rfl ⟨⟨trivial, trivial⟩, trivial⟩ ?_
          obtain ⟨r153, h153, E153, P153⟩ := r_forms_w (ws0 := ws0) (tb := tb) hws htb ext I7 J8 hI7 a1 ⟨by omega, by omega⟩ 
          obtain ⟨I154, J155, rfl, hI154, g153, k153, rfl⟩ := P153
          have FI154 := gr_frt FI7 g153 rfl rfl
          have FJ155 := gr_fjt FJ8 k153 rfl rfl
          have t156 := g153 0 71 rfl
          have t157 := g153 0 72 rfl
          have t158 := g153 0 73 rfl
          have t159 := g153 0 69 rfl
          have t160 := g153 0 211 rfl
          have t161 := g153 0 206 rfl
          have t162 := g153 130 (Int.toNat v2_9) rfl
          have t163 := g153 131 (Int.toNat v2_9) rfl
          have f164 := (show 0 ≤ I154 0 71 ∧ I154 0 71 ≤ 5 from (hI154 0 71).1)
          have f165 := (show 0 ≤ I154 0 72 ∧ I154 0 72 ≤ 1000 from (hI154 0 72).1)
          have f166 := (show 0 ≤ I154 0 73 ∧ I154 0 73 ≤ 1001 from (hI154 0 73).1)
          have f167 := (show 0 ≤ I154 0 69 ∧ I154 0 69 ≤ 1000 from (hI154 0 69).1)
          have f168 := (show 0 ≤ I154 0 211 ∧ I154 0 211 ≤ 2400 from (hI154 0 211).1)
          have f169 := (show 0 ≤ I154 0 206 ∧ I154 0 206 ≤ 100 from (hI154 0 206).1)
          refine gv_callV hD rfl (As := [.inl a1]) (st := []) rfl (by decide) rfl rfl (gr_lV hws rfl) (Nat.le_of_ble_eq_true rfl) (gz_Ev_mono (d := 6) (by decide) E153) ?_
          show gv_X _ _ (176, [(0, .inr (.inr (some 0))), (1, .inl a1), (2, .inl v2_9)], [], gr_sh ++ ext, gr_h I154 J155)
          refine gv_run 2 true hD (pc' := 178) (lv' := [(3, .inl 0), (0, .inr (.inr (some 0))), (1, .inl a1), (2, .inl v2_9)]) (st' := []) (h' := gr_h I154 J155) (C := ((True ∧ True) ∧ True)) rfl ⟨⟨trivial, trivial⟩, trivial⟩ ?_
          refine gv_pick [1, 2, 3, 0] rfl ?_
          exact L178 _ I154 J155 0 (Nat.lt_succ_self _) hI154 FI154 FJ155 (by omega) (gr_AS_fr e5_9 (fun k => g153 130 k rfl) (fun k => g153 131 k rfl))
        · refine gv_run 1 true hD (pc' := 170) (lv' := [(0, .inr (.inr (some 0))), (1, .inl a1), (2, .inl v2_9)]) (st' := [.inl (-3)]) (h' := gr_h I7 J8) (C := (True ∧ True)) rfl ⟨trivial, trivial⟩ ?_
          exact gv_iret hD rfl ⟨I7, J8, rfl, hI7, FI7, FJ8, ⟨_, rfl, by omega⟩⟩
      · refine gv_run 2 true hD (pc' := 40) (lv' := [(0, .inr (.inr (some 0))), (1, .inl a1), (2, .inl v2_9)]) (st' := [.inl 8, .inl v2_9]) (h' := gr_h I7 J8) (C := ((True ∧ True) ∧ True)) rfl ⟨⟨trivial, trivial⟩, trivial⟩ ?_
        refine gv_icmp_ne (t := 46) hD rfl rfl ⟨⟨by omega, by omega⟩, ⟨by omega, by omega⟩⟩ (fun c170 => ?_) (fun c170 => ?_)
        · have f171 := (show 0 ≤ I7 0 71 ∧ I7 0 71 ≤ 5 from (hI7 0 71).1)
          refine gv_run 3 true hD (pc' := 51) (lv' := [(0, .inr (.inr (some 0))), (1, .inl a1), (2, .inl v2_9)]) (st' := [.inl 3, .inl (I7 0 71)]) (h' := gr_h I7 J8) (C := (((True ∧ True) ∧ True) ∧ True)) rfl ⟨⟨⟨trivial, trivial⟩, trivial⟩, trivial⟩ ?_
          refine gv_icmp_ne (t := 79) hD rfl rfl ⟨⟨by omega, by omega⟩, ⟨by omega, by omega⟩⟩ (fun c172 => ?_) (fun c172 => ?_)
          · have f173 := (show 0 ≤ I7 0 71 ∧ I7 0 71 ≤ 5 from (hI7 0 71).1)
            refine gv_run 3 true hD (pc' := 84) (lv' := [(0, .inr (.inr (some 0))), (1, .inl a1), (2, .inl v2_9)]) (st' := [.inl 1, .inl (I7 0 71)]) (h' := gr_h I7 J8) (C := (((True ∧ True) ∧ True) ∧ True)) rfl ⟨⟨⟨trivial, trivial⟩, trivial⟩, trivial⟩ ?_
            refine gv_icmp_ne (t := 131) hD rfl rfl ⟨⟨by omega, by omega⟩, ⟨by omega, by omega⟩⟩ (fun c174 => ?_) (fun c174 => ?_)
            · refine gv_run 2 true hD (pc' := 134) (lv' := [(0, .inr (.inr (some 0))), (1, .inl a1), (2, .inl v2_9)]) (st' := [.inl 42, .inr (.inr (some 0))]) (h' := gr_h I7 J8) (C := ((True ∧ True) ∧ True)) rfl ⟨⟨trivial, trivial⟩, trivial⟩ ?_
              obtain ⟨r175, h175, E175, P175⟩ := r_sign (ws0 := ws0) (tb := tb) hws htb ext I7 J8 hI7 42 ⟨by omega, by omega⟩ (by omega)
              obtain ⟨rfl, ⟨z175, rfl, q175⟩⟩ := P175
              refine gv_callV hD rfl (As := [.inl 42]) (st := []) rfl (by decide) rfl rfl (gr_lV hws rfl) (Nat.le_of_ble_eq_true rfl) (gz_Ev_mono (d := 1) (by decide) E175) ?_
              show gv_X _ _ (137, [(0, .inr (.inr (some 0))), (1, .inl a1), (2, .inl v2_9)], [.inl z175], gr_sh ++ ext, gr_h I7 J8)
              refine gv_if_eq (t := 151) hD rfl rfl ⟨by omega, by omega⟩ (fun c176 => ?_) (fun c176 => ?_)
              · refine gv_run 1 true hD (pc' := 153) (lv' := [(0, .inr (.inr (some 0))), (1, .inl a1), (2, .inl v2_9)]) (st' := [.inl (-3)]) (h' := gr_h I7 J8) (C := (True ∧ True)) rfl ⟨trivial, trivial⟩ ?_
                exact gv_iret hD rfl ⟨I7, J8, rfl, hI7, FI7, FJ8, ⟨_, rfl, by omega⟩⟩
              · refine gv_run 4 true hD (pc' := 147) (lv' := [(0, .inr (.inr (some 0))), (1, .inl a1), (2, .inl v2_9)]) (st' := [.inl (-2), .inl v2_9, .inr (.inr (some 131))]) (h' := gr_h I7 J8) (C := ((((True ∧ True) ∧ True) ∧ True) ∧ True)) rfl ⟨⟨⟨⟨trivial, trivial⟩, trivial⟩, trivial⟩, trivial⟩ ?_
                refine gv_run 1 true hD (pc' := 148) (lv' := [(0, .inr (.inr (some 0))), (1, .inl a1), (2, .inl v2_9)]) (st' := []) (h' := gz_up (gr_h I7 J8) 131 (Int.toNat v2_9) (.inl (-2))) (C := (True ∧ (0 ≤ v2_9 ∧ v2_9 < ((8 : Nat) : Int)))) rfl ⟨trivial, ⟨by omega, by omega⟩⟩ ?_
                refine gr_st hI7 FI7 rfl rfl ⟨⟨by show (-2) ≤ _; omega, by show _ ≤ 12; omega⟩, trivial⟩ (fun I177 hI177 FI177 q178 p178 => ?_)
                have t179 := p178 0 71 (fun q => absurd q.1 (by decide))
                have t180 := p178 0 72 (fun q => absurd q.1 (by decide))
                have t181 := p178 0 73 (fun q => absurd q.1 (by decide))
                have t182 := p178 0 69 (fun q => absurd q.1 (by decide))
                have t183 := p178 0 211 (fun q => absurd q.1 (by decide))
                have t184 := p178 0 206 (fun q => absurd q.1 (by decide))
                have t185 := p178 130 (Int.toNat v2_9) (fun q => absurd q.1 (by decide))
                have f186 := (show 0 ≤ I177 0 71 ∧ I177 0 71 ≤ 5 from (hI177 0 71).1)
                have f187 := (show 0 ≤ I177 0 72 ∧ I177 0 72 ≤ 1000 from (hI177 0 72).1)
                have f188 := (show 0 ≤ I177 0 73 ∧ I177 0 73 ≤ 1001 from (hI177 0 73).1)
                have f189 := (show 0 ≤ I177 0 69 ∧ I177 0 69 ≤ 1000 from (hI177 0 69).1)
                have f190 := (show 0 ≤ I177 0 211 ∧ I177 0 211 ≤ 2400 from (hI177 0 211).1)
                have f191 := (show 0 ≤ I177 0 206 ∧ I177 0 206 ≤ 100 from (hI177 0 206).1)
                refine gv_run 1 true hD (pc' := 154) (lv' := [(0, .inr (.inr (some 0))), (1, .inl a1), (2, .inl v2_9)]) (st' := []) (h' := gr_h I177 J8) (C := (True ∧ True)) rfl ⟨trivial, trivial⟩ ?_
                exact L154 I177 J8 hI177 FI177 FJ8 (by omega) (gr_AS_nx e5_9 (by omega) (fun a j hj => by rw [p178 a j (fun q => by have := q.2; omega)]) (by have h9 : (-1 : Int) ≤ I177 130 (Int.toNat v2_9) ∧ I177 130 (Int.toNat v2_9) ≤ 1001 := (hI177 130 (Int.toNat v2_9)).1; omega))
            · refine gv_run 7 true hD (pc' := 98) (lv' := [(0, .inr (.inr (some 0))), (1, .inl a1), (2, .inl v2_9)]) (st' := [.inr (.inr (some 0)), .inl 0, .inr (.inr (some 2)), .inl v2_9, .inr (.inr (some 130))]) (h' := gr_h I7 J8) (C := (((((((True ∧ True) ∧ True) ∧ True) ∧ True) ∧ True) ∧ True) ∧ True)) rfl ⟨⟨⟨⟨⟨⟨⟨trivial, trivial⟩, trivial⟩, trivial⟩, trivial⟩, trivial⟩, trivial⟩, trivial⟩ ?_
              have f192 := (show 0 ≤ I7 0 2 ∧ I7 0 2 ≤ 32 from (hI7 0 2).1)
              refine gv_run 3 true hD (pc' := 105) (lv' := [(0, .inr (.inr (some 0))), (1, .inl a1), (2, .inl v2_9)]) (st' := [.inr (.inl (J8 0 75)), .inl (I7 0 2), .inl 0, .inr (.inr (some 2)), .inl v2_9, .inr (.inr (some 130))]) (h' := gr_h I7 J8) (C := (((True ∧ True) ∧ True) ∧ True)) rfl ⟨⟨⟨trivial, trivial⟩, trivial⟩, trivial⟩ ?_
              obtain ⟨r193, h193, E193, P193⟩ := r_find_2 (ws0 := ws0) (tb := tb) hws htb ext I7 J8 hI7 0 (I7 0 2) (J8 0 75) ⟨by omega, by omega⟩ ⟨by omega, by omega⟩ (by omega)
              obtain ⟨rfl, ⟨z193, rfl, q193⟩⟩ := P193
              refine gv_callS hD rfl (As := [.inr (.inr (some 2)), .inl 0, .inl (I7 0 2), .inr (.inl (J8 0 75))]) (st := [.inl v2_9, .inr (.inr (some 130))]) rfl (gr_lS hws rfl) (Nat.le_of_ble_eq_true rfl) (gz_Ev_mono (d := 1) (by decide) E193) ?_
              show gv_X _ _ (108, [(0, .inr (.inr (some 0))), (1, .inl a1), (2, .inl v2_9)], [.inl z193, .inl v2_9, .inr (.inr (some 130))], gr_sh ++ ext, gr_h I7 J8)
              refine gv_run 1 true hD (pc' := 109) (lv' := [(0, .inr (.inr (some 0))), (1, .inl a1), (2, .inl v2_9)]) (st' := []) (h' := gz_up (gr_h I7 J8) 130 (Int.toNat v2_9) (.inl z193)) (C := (True ∧ (0 ≤ v2_9 ∧ v2_9 < ((8 : Nat) : Int)))) rfl ⟨trivial, ⟨by omega, by omega⟩⟩ ?_
              refine gr_st hI7 FI7 rfl rfl ⟨⟨by show (-1) ≤ _; omega, by show _ ≤ 1001; omega⟩, trivial⟩ (fun I194 hI194 FI194 q195 p195 => ?_)
              have t196 := p195 0 71 (fun q => absurd q.1 (by decide))
              have t197 := p195 0 72 (fun q => absurd q.1 (by decide))
              have t198 := p195 0 73 (fun q => absurd q.1 (by decide))
              have t199 := p195 0 69 (fun q => absurd q.1 (by decide))
              have t200 := p195 0 211 (fun q => absurd q.1 (by decide))
              have t201 := p195 0 206 (fun q => absurd q.1 (by decide))
              have t202 := p195 131 (Int.toNat v2_9) (fun q => absurd q.1 (by decide))
              have f203 := (show 0 ≤ I194 0 71 ∧ I194 0 71 ≤ 5 from (hI194 0 71).1)
              have f204 := (show 0 ≤ I194 0 72 ∧ I194 0 72 ≤ 1000 from (hI194 0 72).1)
              have f205 := (show 0 ≤ I194 0 73 ∧ I194 0 73 ≤ 1001 from (hI194 0 73).1)
              have f206 := (show 0 ≤ I194 0 69 ∧ I194 0 69 ≤ 1000 from (hI194 0 69).1)
              have f207 := (show 0 ≤ I194 0 211 ∧ I194 0 211 ≤ 2400 from (hI194 0 211).1)
              have f208 := (show 0 ≤ I194 0 206 ∧ I194 0 206 ≤ 100 from (hI194 0 206).1)
              have f209 := (show (-1) ≤ I194 130 (Int.toNat v2_9) ∧ I194 130 (Int.toNat v2_9) ≤ 1001 from (hI194 130 (Int.toNat v2_9)).1)
              refine gv_run 4 true hD (pc' := 115) (lv' := [(0, .inr (.inr (some 0))), (1, .inl a1), (2, .inl v2_9)]) (st' := [.inl (I194 130 (Int.toNat v2_9))]) (h' := gr_h I194 J8) (C := ((((True ∧ True) ∧ True) ∧ True) ∧ (0 ≤ v2_9 ∧ v2_9 < ((8 : Nat) : Int)))) rfl ⟨⟨⟨⟨trivial, trivial⟩, trivial⟩, trivial⟩, ⟨by omega, by omega⟩⟩ ?_
              refine gv_if_ge (t := 121) hD rfl rfl ⟨by omega, by omega⟩ (fun c210 => ?_) (fun c210 => ?_)
              · refine gv_run 4 true hD (pc' := 127) (lv' := [(0, .inr (.inr (some 0))), (1, .inl a1), (2, .inl v2_9)]) (st' := [.inl (-1), .inl v2_9, .inr (.inr (some 131))]) (h' := gr_h I194 J8) (C := ((((True ∧ True) ∧ True) ∧ True) ∧ True)) rfl ⟨⟨⟨⟨trivial, trivial⟩, trivial⟩, trivial⟩, trivial⟩ ?_
                refine gv_run 1 true hD (pc' := 128) (lv' := [(0, .inr (.inr (some 0))), (1, .inl a1), (2, .inl v2_9)]) (st' := []) (h' := gz_up (gr_h I194 J8) 131 (Int.toNat v2_9) (.inl (-1))) (C := (True ∧ (0 ≤ v2_9 ∧ v2_9 < ((8 : Nat) : Int)))) rfl ⟨trivial, ⟨by omega, by omega⟩⟩ ?_
                refine gr_st hI194 FI194 rfl rfl ⟨⟨by show (-2) ≤ _; omega, by show _ ≤ 12; omega⟩, trivial⟩ (fun I211 hI211 FI211 q212 p212 => ?_)
                have t213 := p212 0 71 (fun q => absurd q.1 (by decide))
                have t214 := p212 0 72 (fun q => absurd q.1 (by decide))
                have t215 := p212 0 73 (fun q => absurd q.1 (by decide))
                have t216 := p212 0 69 (fun q => absurd q.1 (by decide))
                have t217 := p212 0 211 (fun q => absurd q.1 (by decide))
                have t218 := p212 0 206 (fun q => absurd q.1 (by decide))
                have t219 := p212 130 (Int.toNat v2_9) (fun q => absurd q.1 (by decide))
                have f220 := (show 0 ≤ I211 0 71 ∧ I211 0 71 ≤ 5 from (hI211 0 71).1)
                have f221 := (show 0 ≤ I211 0 72 ∧ I211 0 72 ≤ 1000 from (hI211 0 72).1)
                have f222 := (show 0 ≤ I211 0 73 ∧ I211 0 73 ≤ 1001 from (hI211 0 73).1)
                have f223 := (show 0 ≤ I211 0 69 ∧ I211 0 69 ≤ 1000 from (hI211 0 69).1)
                have f224 := (show 0 ≤ I211 0 211 ∧ I211 0 211 ≤ 2400 from (hI211 0 211).1)
                have f225 := (show 0 ≤ I211 0 206 ∧ I211 0 206 ≤ 100 from (hI211 0 206).1)
                refine gv_run 1 true hD (pc' := 154) (lv' := [(0, .inr (.inr (some 0))), (1, .inl a1), (2, .inl v2_9)]) (st' := []) (h' := gr_h I211 J8) (C := (True ∧ True)) rfl ⟨trivial, trivial⟩ ?_
                exact L154 I211 J8 hI211 FI211 FJ8 (by omega) (gr_AS_nx e5_9 (by omega) (fun a j hj => by rw [p212 a j (fun q => by have := q.2; omega), p195 a j (fun q => by have := q.2; omega)]) (by have h9 : (-1 : Int) ≤ I211 130 (Int.toNat v2_9) ∧ I211 130 (Int.toNat v2_9) ≤ 1001 := (hI211 130 (Int.toNat v2_9)).1; omega))
              · refine gv_run 1 true hD (pc' := 120) (lv' := [(0, .inr (.inr (some 0))), (1, .inl a1), (2, .inl v2_9)]) (st' := [.inl (-3)]) (h' := gr_h I194 J8) (C := (True ∧ True)) rfl ⟨trivial, trivial⟩ ?_
                exact gv_iret hD rfl ⟨I194, J8, rfl, hI194, FI194, FJ8, ⟨_, rfl, by omega⟩⟩
          · have f226 := (show 0 ≤ I7 0 72 ∧ I7 0 72 ≤ 1000 from (hI7 0 72).1)
            refine gv_run 7 true hD (pc' := 65) (lv' := [(0, .inr (.inr (some 0))), (1, .inl a1), (2, .inl v2_9)]) (st' := [.inl ((I7 0 72) + 1), .inl v2_9, .inr (.inr (some 130))]) (h' := gr_h I7 J8) (C := (((((((True ∧ True) ∧ True) ∧ True) ∧ True) ∧ True) ∧ True) ∧ True)) rfl ⟨⟨⟨⟨⟨⟨⟨trivial, trivial⟩, trivial⟩, trivial⟩, trivial⟩, trivial⟩, trivial⟩, trivial⟩ ?_
            refine gv_run 1 true hD (pc' := 66) (lv' := [(0, .inr (.inr (some 0))), (1, .inl a1), (2, .inl v2_9)]) (st' := []) (h' := gz_up (gr_h I7 J8) 130 (Int.toNat v2_9) (.inl (((I7 0 72) + 1)))) (C := (True ∧ (0 ≤ v2_9 ∧ v2_9 < ((8 : Nat) : Int)))) rfl ⟨trivial, ⟨by omega, by omega⟩⟩ ?_
            refine gr_st hI7 FI7 rfl rfl ⟨⟨by show (-1) ≤ _; omega, by show _ ≤ 1001; omega⟩, trivial⟩ (fun I227 hI227 FI227 q228 p228 => ?_)
            have t229 := p228 0 71 (fun q => absurd q.1 (by decide))
            have t230 := p228 0 72 (fun q => absurd q.1 (by decide))
            have t231 := p228 0 73 (fun q => absurd q.1 (by decide))
            have t232 := p228 0 69 (fun q => absurd q.1 (by decide))
            have t233 := p228 0 211 (fun q => absurd q.1 (by decide))
            have t234 := p228 0 206 (fun q => absurd q.1 (by decide))
            have t235 := p228 131 (Int.toNat v2_9) (fun q => absurd q.1 (by decide))
            have f236 := (show 0 ≤ I227 0 71 ∧ I227 0 71 ≤ 5 from (hI227 0 71).1)
            have f237 := (show 0 ≤ I227 0 72 ∧ I227 0 72 ≤ 1000 from (hI227 0 72).1)
            have f238 := (show 0 ≤ I227 0 73 ∧ I227 0 73 ≤ 1001 from (hI227 0 73).1)
            have f239 := (show 0 ≤ I227 0 69 ∧ I227 0 69 ≤ 1000 from (hI227 0 69).1)
            have f240 := (show 0 ≤ I227 0 211 ∧ I227 0 211 ≤ 2400 from (hI227 0 211).1)
            have f241 := (show 0 ≤ I227 0 206 ∧ I227 0 206 ≤ 100 from (hI227 0 206).1)
            refine gv_run 4 true hD (pc' := 72) (lv' := [(0, .inr (.inr (some 0))), (1, .inl a1), (2, .inl v2_9)]) (st' := [.inr (.inr (some 0)), .inl v2_9, .inr (.inr (some 131))]) (h' := gr_h I227 J8) (C := ((((True ∧ True) ∧ True) ∧ True) ∧ True)) rfl ⟨⟨⟨⟨trivial, trivial⟩, trivial⟩, trivial⟩, trivial⟩ ?_
            obtain ⟨r242, h242, E242, P242⟩ := r_size (ws0 := ws0) (tb := tb) hws htb ext I227 J8 hI227   
            obtain ⟨rfl, ⟨z242, rfl, q242⟩⟩ := P242
            refine gv_callV hD rfl (As := []) (st := [.inl v2_9, .inr (.inr (some 131))]) rfl (by decide) rfl rfl (gr_lV hws rfl) (Nat.le_of_ble_eq_true rfl) (gz_Ev_mono (d := 1) (by decide) E242) ?_
            show gv_X _ _ (75, [(0, .inr (.inr (some 0))), (1, .inl a1), (2, .inl v2_9)], [.inl z242, .inl v2_9, .inr (.inr (some 131))], gr_sh ++ ext, gr_h I227 J8)
            refine gv_run 1 true hD (pc' := 76) (lv' := [(0, .inr (.inr (some 0))), (1, .inl a1), (2, .inl v2_9)]) (st' := []) (h' := gz_up (gr_h I227 J8) 131 (Int.toNat v2_9) (.inl z242)) (C := (True ∧ (0 ≤ v2_9 ∧ v2_9 < ((8 : Nat) : Int)))) rfl ⟨trivial, ⟨by omega, by omega⟩⟩ ?_
            refine gr_st hI227 FI227 rfl rfl ⟨⟨by show (-2) ≤ _; omega, by show _ ≤ 12; omega⟩, trivial⟩ (fun I243 hI243 FI243 q244 p244 => ?_)
            have t245 := p244 0 71 (fun q => absurd q.1 (by decide))
            have t246 := p244 0 72 (fun q => absurd q.1 (by decide))
            have t247 := p244 0 73 (fun q => absurd q.1 (by decide))
            have t248 := p244 0 69 (fun q => absurd q.1 (by decide))
            have t249 := p244 0 211 (fun q => absurd q.1 (by decide))
            have t250 := p244 0 206 (fun q => absurd q.1 (by decide))
            have t251 := p244 130 (Int.toNat v2_9) (fun q => absurd q.1 (by decide))
            have f252 := (show 0 ≤ I243 0 71 ∧ I243 0 71 ≤ 5 from (hI243 0 71).1)
            have f253 := (show 0 ≤ I243 0 72 ∧ I243 0 72 ≤ 1000 from (hI243 0 72).1)
            have f254 := (show 0 ≤ I243 0 73 ∧ I243 0 73 ≤ 1001 from (hI243 0 73).1)
            have f255 := (show 0 ≤ I243 0 69 ∧ I243 0 69 ≤ 1000 from (hI243 0 69).1)
            have f256 := (show 0 ≤ I243 0 211 ∧ I243 0 211 ≤ 2400 from (hI243 0 211).1)
            have f257 := (show 0 ≤ I243 0 206 ∧ I243 0 206 ≤ 100 from (hI243 0 206).1)
            refine gv_run 1 true hD (pc' := 154) (lv' := [(0, .inr (.inr (some 0))), (1, .inl a1), (2, .inl v2_9)]) (st' := []) (h' := gr_h I243 J8) (C := (True ∧ True)) rfl ⟨trivial, trivial⟩ ?_
            exact L154 I243 J8 hI243 FI243 FJ8 (by omega) (gr_AS_nx e5_9 (by omega) (fun a j hj => by rw [p244 a j (fun q => by have := q.2; omega), p228 a j (fun q => by have := q.2; omega)]) (by have h9 : (-1 : Int) ≤ I243 130 (Int.toNat v2_9) ∧ I243 130 (Int.toNat v2_9) ≤ 1001 := (hI243 130 (Int.toNat v2_9)).1; omega))
        · refine gv_run 1 true hD (pc' := 45) (lv' := [(0, .inr (.inr (some 0))), (1, .inl a1), (2, .inl v2_9)]) (st' := [.inl (-3)]) (h' := gr_h I7 J8) (C := (True ∧ True)) rfl ⟨trivial, trivial⟩ ?_
          exact gv_iret hD rfl ⟨I7, J8, rfl, hI7, FI7, FJ8, ⟨_, rfl, by omega⟩⟩
  refine gv_run 2 true hD (pc' := 2) (lv' := [(0, .inr (.inr (some 0))), (1, .inl a1)]) (st' := [.inl a1, .inr (.inr (some 0))]) (h' := gr_h I J) (C := ((True ∧ True) ∧ True)) rfl ⟨⟨trivial, trivial⟩, trivial⟩ ?_
  obtain ⟨r258, h258, E258, P258⟩ := r_noTongue (ws0 := ws0) (tb := tb) hws htb ext I J hI a1 ⟨by omega, by omega⟩ 
  obtain ⟨I259, J260, rfl, hI259, g258, k258, ⟨z258, rfl, q258⟩⟩ := P258
  have FI259 := gr_frt FI g258 rfl rfl
  have FJ260 := gr_fjt FJ k258 rfl rfl
  have t261 := g258 0 71 rfl
  have t262 := g258 0 72 rfl
  have t263 := g258 0 73 rfl
  have t264 := g258 0 69 rfl
  have t265 := g258 0 211 rfl
  have t266 := g258 0 206 rfl
  have f267 := (show 0 ≤ I259 0 71 ∧ I259 0 71 ≤ 5 from (hI259 0 71).1)
  have f268 := (show 0 ≤ I259 0 72 ∧ I259 0 72 ≤ 1000 from (hI259 0 72).1)
  have f269 := (show 0 ≤ I259 0 73 ∧ I259 0 73 ≤ 1001 from (hI259 0 73).1)
  have f270 := (show 0 ≤ I259 0 69 ∧ I259 0 69 ≤ 1000 from (hI259 0 69).1)
  have f271 := (show 0 ≤ I259 0 211 ∧ I259 0 211 ≤ 2400 from (hI259 0 211).1)
  have f272 := (show 0 ≤ I259 0 206 ∧ I259 0 206 ≤ 100 from (hI259 0 206).1)
  refine gv_callV hD rfl (As := [.inl a1]) (st := []) rfl (by decide) rfl rfl (gr_lV hws rfl) (Nat.le_of_ble_eq_true rfl) (gz_Ev_mono (d := 1) (by decide) E258) ?_
  show gv_X _ _ (5, [(0, .inr (.inr (some 0))), (1, .inl a1)], [.inl z258], gr_sh ++ ext, gr_h I259 J260)
  refine gv_if_eq (t := 10) hD rfl rfl ⟨by omega, by omega⟩ (fun c273 => ?_) (fun c273 => ?_)
  · refine gv_run 1 true hD (pc' := 11) (lv' := [(0, .inr (.inr (some 0))), (1, .inl a1)]) (st' := [.inr (.inr (some 0))]) (h' := gr_h I259 J260) (C := (True ∧ True)) rfl ⟨trivial, trivial⟩ ?_
    obtain ⟨r274, h274, E274, P274⟩ := r_reads (ws0 := ws0) (tb := tb) hws htb ext I259 J260 hI259   
    obtain ⟨I275, J276, rfl, hI275, g274, k274, ⟨rfl, q274⟩⟩ := P274
    have FI275 := gr_frt FI259 g274 rfl rfl
    have FJ276 := gr_fjt FJ260 k274 rfl rfl
    have t277 := g274 0 71 rfl
    have t278 := g274 0 72 rfl
    have t279 := g274 0 73 rfl
    have t280 := g274 0 211 rfl
    have t281 := g274 0 206 rfl
    have f282 := (show 0 ≤ I275 0 71 ∧ I275 0 71 ≤ 5 from (hI275 0 71).1)
    have f283 := (show 0 ≤ I275 0 72 ∧ I275 0 72 ≤ 1000 from (hI275 0 72).1)
    have f284 := (show 0 ≤ I275 0 73 ∧ I275 0 73 ≤ 1001 from (hI275 0 73).1)
    have f285 := (show 0 ≤ I275 0 69 ∧ I275 0 69 ≤ 1000 from (hI275 0 69).1)
    have f286 := (show 0 ≤ I275 0 211 ∧ I275 0 211 ≤ 2400 from (hI275 0 211).1)
    have f287 := (show 0 ≤ I275 0 206 ∧ I275 0 206 ≤ 100 from (hI275 0 206).1)
    refine gv_callV hD rfl (As := []) (st := []) rfl (by decide) rfl rfl (gr_lV hws rfl) (Nat.le_of_ble_eq_true rfl) (gz_Ev_mono (d := 1) (by decide) E274) ?_
    show gv_X _ _ (14, [(0, .inr (.inr (some 0))), (1, .inl a1)], [], gr_sh ++ ext, gr_h I275 J276)
    refine gv_run 3 true hD (pc' := 19) (lv' := [(0, .inr (.inr (some 0))), (1, .inl a1)]) (st' := []) (h' := gz_up (gr_h I275 J276) 0 73 (.inl 0)) (C := (((True ∧ True) ∧ True) ∧ True)) rfl ⟨⟨⟨trivial, trivial⟩, trivial⟩, trivial⟩ ?_
    refine gr_st hI275 FI275 rfl rfl ⟨⟨by show 0 ≤ _; omega, by show _ ≤ 1001; omega⟩, trivial⟩ (fun I288 hI288 FI288 q289 p289 => ?_)
    have t290 := p289 0 71 (by decide)
    have t291 := p289 0 72 (by decide)
    have t292 := p289 0 69 (by decide)
    have t293 := p289 0 211 (by decide)
    have t294 := p289 0 206 (by decide)
    have f295 := (show 0 ≤ I288 0 71 ∧ I288 0 71 ≤ 5 from (hI288 0 71).1)
    have f296 := (show 0 ≤ I288 0 72 ∧ I288 0 72 ≤ 1000 from (hI288 0 72).1)
    have f297 := (show 0 ≤ I288 0 73 ∧ I288 0 73 ≤ 1001 from (hI288 0 73).1)
    have f298 := (show 0 ≤ I288 0 69 ∧ I288 0 69 ≤ 1000 from (hI288 0 69).1)
    have f299 := (show 0 ≤ I288 0 211 ∧ I288 0 211 ≤ 2400 from (hI288 0 211).1)
    have f300 := (show 0 ≤ I288 0 206 ∧ I288 0 206 ≤ 100 from (hI288 0 206).1)
    refine gv_run 1 true hD (pc' := 20) (lv' := [(0, .inr (.inr (some 0))), (1, .inl a1)]) (st' := [.inr (.inr (some 0))]) (h' := gr_h I288 J276) (C := (True ∧ True)) rfl ⟨trivial, trivial⟩ ?_
    obtain ⟨r301, h301, E301, P301⟩ := r_next (ws0 := ws0) (tb := tb) hws htb ext I288 J276 hI288   (by omega)
    obtain ⟨I302, J303, rfl, hI302, g301, k301, ⟨rfl, q301⟩⟩ := P301
    have FI302 := gr_frt FI288 g301 rfl rfl
    have FJ303 := gr_fjt FJ276 k301 rfl rfl
    have t304 := g301 0 69 rfl
    have t305 := g301 0 211 rfl
    have t306 := g301 0 206 rfl
    have f307 := (show 0 ≤ I302 0 71 ∧ I302 0 71 ≤ 5 from (hI302 0 71).1)
    have f308 := (show 0 ≤ I302 0 72 ∧ I302 0 72 ≤ 1000 from (hI302 0 72).1)
    have f309 := (show 0 ≤ I302 0 73 ∧ I302 0 73 ≤ 1001 from (hI302 0 73).1)
    have f310 := (show 0 ≤ I302 0 69 ∧ I302 0 69 ≤ 1000 from (hI302 0 69).1)
    have f311 := (show 0 ≤ I302 0 211 ∧ I302 0 211 ≤ 2400 from (hI302 0 211).1)
    have f312 := (show 0 ≤ I302 0 206 ∧ I302 0 206 ≤ 100 from (hI302 0 206).1)
    refine gv_callV hD rfl (As := []) (st := []) rfl (by decide) rfl rfl (gr_lV hws rfl) (Nat.le_of_ble_eq_true rfl) (gz_Ev_mono (d := 10) (by decide) E301) ?_
    show gv_X _ _ (23, [(0, .inr (.inr (some 0))), (1, .inl a1)], [], gr_sh ++ ext, gr_h I302 J303)
    refine gv_run 3 true hD (pc' := 28) (lv' := [(0, .inr (.inr (some 0))), (1, .inl a1)]) (st' := []) (h' := gz_up (gr_h I302 J303) 0 211 (.inl 0)) (C := (((True ∧ True) ∧ True) ∧ True)) rfl ⟨⟨⟨trivial, trivial⟩, trivial⟩, trivial⟩ ?_
    refine gr_st hI302 FI302 rfl rfl ⟨⟨by show 0 ≤ _; omega, by show _ ≤ 2400; omega⟩, trivial⟩ (fun I313 hI313 FI313 q314 p314 => ?_)
    have t315 := p314 0 71 (by decide)
    have t316 := p314 0 72 (by decide)
    have t317 := p314 0 73 (by decide)
    have t318 := p314 0 69 (by decide)
    have t319 := p314 0 206 (by decide)
    have f320 := (show 0 ≤ I313 0 71 ∧ I313 0 71 ≤ 5 from (hI313 0 71).1)
    have f321 := (show 0 ≤ I313 0 72 ∧ I313 0 72 ≤ 1000 from (hI313 0 72).1)
    have f322 := (show 0 ≤ I313 0 73 ∧ I313 0 73 ≤ 1001 from (hI313 0 73).1)
    have f323 := (show 0 ≤ I313 0 69 ∧ I313 0 69 ≤ 1000 from (hI313 0 69).1)
    have f324 := (show 0 ≤ I313 0 211 ∧ I313 0 211 ≤ 2400 from (hI313 0 211).1)
    have f325 := (show 0 ≤ I313 0 206 ∧ I313 0 206 ≤ 100 from (hI313 0 206).1)
    refine gv_run 2 true hD (pc' := 30) (lv' := [(2, .inl 0), (0, .inr (.inr (some 0))), (1, .inl a1)]) (st' := []) (h' := gr_h I313 J303) (C := ((True ∧ True) ∧ True)) rfl ⟨⟨trivial, trivial⟩, trivial⟩ ?_
    refine gv_pick [1, 2, 0] rfl ?_
    exact L30 _ I313 J303 0 (Nat.lt_succ_self _) hI313 FI313 FJ303 (by omega) (fun k a b => by omega)
  · refine gv_run 1 true hD (pc' := 9) (lv' := [(0, .inr (.inr (some 0))), (1, .inl a1)]) (st' := [.inl 0]) (h' := gr_h I259 J260) (C := (True ∧ True)) rfl ⟨trivial, trivial⟩ ?_
    exact gv_iret hD rfl ⟨I259, J260, rfl, hI259, FI259, FJ260, ⟨_, rfl, by omega⟩⟩
