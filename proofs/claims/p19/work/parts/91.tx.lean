set_option maxHeartbeats 4000000 in
set_option maxRecDepth 100000 in
theorem r_sounds_t {ws0 : List Cond} {tb : String → gz_T} (hws : ∀ w ∈ gr_ws, w ∈ ws0) (htb : tb RX13 = gr_T) (ext : gz_Sh) (I : gr_I) (J : gr_J) (hI : gr_Inv I) (a1 : Int) (ha1 : (-2147483648) ≤ a1 ∧ a1 ≤ 2147483647)  : ∃ r h', gz_Ev ws0 tb 5 (yX13_sounds, cX13_sounds, 3, (some .int)) [.inr (.inr (some 0)), .inl a1] (gr_sh ++ ext) (gr_h I J) r (gr_sh ++ ext) h' 0 0 ∧ (∃ (I' : gr_I) (J' : gr_J), h' = gr_h I' J' ∧ gr_Inv I' ∧ gr_fr [0, 68, 69, 70, 126] [51, 57, 58, 76, 77] I I' ∧ gr_fj [0, 68, 69, 70, 126] [51, 57, 58, 76, 77] J J' ∧ (∃ z : Int, r = some (.inl z) ∧ (-3) ≤ z ∧ z ≤ 24 ∧ ((0 ≤ a1 ∧ a1 < I 0 1) → I' 0 68 = 0) ∧ (¬ (0 ≤ a1 ∧ a1 < I 0 1) → I' 0 68 = I 0 68))) := by
  have FI : gr_fr [0, 68, 69, 70, 126] [51, 57, 58, 76, 77] I I := fun _ _ _ => rfl
  have FJ : gr_fj [0, 68, 69, 70, 126] [51, 57, 58, 76, 77] J J := fun _ _ _ => rfl
  have hD : gv_D (gr_E ws0 tb 4 (yX13_sounds, cX13_sounds, 3, (some .int)) kX13_sounds) := gq_ok oX13_sounds
  refine gr_ev (d := 4) (l := kX13_sounds) (Po := fun r h' => (∃ (I' : gr_I) (J' : gr_J), h' = gr_h I' J' ∧ gr_Inv I' ∧ gr_fr [0, 68, 69, 70, 126] [51, 57, 58, 76, 77] I I' ∧ gr_fj [0, 68, 69, 70, 126] [51, 57, 58, 76, 77] J J' ∧ (∃ z : Int, r = some (.inl z) ∧ (-3) ≤ z ∧ z ≤ 24 ∧ ((0 ≤ a1 ∧ a1 < I 0 1) → I' 0 68 = 0) ∧ (¬ (0 ≤ a1 ∧ a1 < I 0 1) → I' 0 68 = I 0 68)))) htb rfl (Nat.le_of_ble_eq_true rfl) ?_
  have f1 := (show 0 ≤ I 0 68 ∧ I 0 68 ≤ 1000 from (hI 0 68).1)
  have f2 := (show 0 ≤ I 0 1 ∧ I 0 1 ≤ 8 from (hI 0 1).1)
  have f3 := (show 0 ≤ I 0 2 ∧ I 0 2 ≤ 32 from (hI 0 2).1)
  have L39 : ∀ (I4 : gr_I) (J5 : gr_J) (v2_6 : Int), gr_Inv I4 → gr_fr [0, 68, 69, 70, 126] [51, 57, 58, 76, 77] I I4 → gr_fj [0, 68, 69, 70, 126] [51, 57, 58, 76, 77] J J5 → (((-1) ≤ v2_6 ∧ v2_6 ≤ 24) ∧ (I4 0 68 = 0) ∧ ((0 ≤ a1 ∧ a1 < I 0 1))) → gv_X (gr_E ws0 tb 4 (yX13_sounds, cX13_sounds, 3, (some .int)) kX13_sounds) (gv_Q cX13_sounds (some .int) (gr_sh ++ ext) (fun r h' => (∃ (I' : gr_I) (J' : gr_J), h' = gr_h I' J' ∧ gr_Inv I' ∧ gr_fr [0, 68, 69, 70, 126] [51, 57, 58, 76, 77] I I' ∧ gr_fj [0, 68, 69, 70, 126] [51, 57, 58, 76, 77] J J' ∧ (∃ z : Int, r = some (.inl z) ∧ (-3) ≤ z ∧ z ≤ 24 ∧ ((0 ≤ a1 ∧ a1 < I 0 1) → I' 0 68 = 0) ∧ (¬ (0 ≤ a1 ∧ a1 < I 0 1) → I' 0 68 = I 0 68))))) (39, [(2, .inl v2_6)], [], gr_sh ++ ext, gr_h I4 J5) := by
    intro I4 J5 v2_6 hI4 FI4 FJ5 m_6
    obtain ⟨hv2_6, e0_6, e1_6⟩ := m_6
    have f7 := (show 0 ≤ I4 0 68 ∧ I4 0 68 ≤ 1000 from (hI4 0 68).1)
    have f8 := (show 0 ≤ I4 0 1 ∧ I4 0 1 ≤ 8 from (hI4 0 1).1)
    have f9 := (show 0 ≤ I4 0 2 ∧ I4 0 2 ≤ 32 from (hI4 0 2).1)
    refine gv_run 1 true hD (pc' := 40) (lv' := [(2, .inl v2_6)]) (st' := [.inl v2_6]) (h' := gr_h I4 J5) (C := (True ∧ True)) rfl ⟨trivial, trivial⟩ ?_
    exact gv_iret hD rfl ⟨I4, J5, rfl, hI4, FI4, FJ5, ⟨_, rfl, by omega⟩⟩
  refine gv_run 2 true hD (pc' := 2) (lv' := [(0, .inr (.inr (some 0))), (1, .inl a1)]) (st' := [.inl a1, .inr (.inr (some 0))]) (h' := gr_h I J) (C := ((True ∧ True) ∧ True)) rfl ⟨⟨trivial, trivial⟩, trivial⟩ ?_
  obtain ⟨r10, h10, E10, P10⟩ := r_noTongue_t (ws0 := ws0) (tb := tb) hws htb ext I J hI a1 ⟨by omega, by omega⟩ 
  obtain ⟨I11, J12, rfl, hI11, g10, k10, ⟨z10, rfl, q10⟩⟩ := P10
  have FI11 := gr_frt FI g10 rfl rfl
  have FJ12 := gr_fjt FJ k10 rfl rfl
  have t13 := g10 0 68 rfl
  have t14 := g10 0 1 rfl
  have t15 := g10 0 2 rfl
  have f16 := (show 0 ≤ I11 0 68 ∧ I11 0 68 ≤ 1000 from (hI11 0 68).1)
  have f17 := (show 0 ≤ I11 0 1 ∧ I11 0 1 ≤ 8 from (hI11 0 1).1)
  have f18 := (show 0 ≤ I11 0 2 ∧ I11 0 2 ≤ 32 from (hI11 0 2).1)
  refine gv_callV hD rfl (As := [.inl a1]) (st := []) rfl (by decide) rfl rfl (gr_lV hws rfl) (Nat.le_of_ble_eq_true rfl) (gz_Ev_mono (d := 1) (by decide) E10) ?_
  show gv_X _ _ (5, [(0, .inr (.inr (some 0))), (1, .inl a1)], [.inl z10], gr_sh ++ ext, gr_h I11 J12)
  refine gv_if_eq (t := 10) hD rfl rfl ⟨by omega, by omega⟩ (fun c19 => ?_) (fun c19 => ?_)
  · refine gv_run 3 true hD (pc' := 15) (lv' := [(0, .inr (.inr (some 0))), (1, .inl a1)]) (st' := []) (h' := gz_up (gr_h I11 J12) 0 70 (.inl 0)) (C := (((True ∧ True) ∧ True) ∧ True)) rfl ⟨⟨⟨trivial, trivial⟩, trivial⟩, trivial⟩ ?_
    refine gr_st hI11 FI11 rfl rfl ⟨⟨by show 0 ≤ _; omega, by show _ ≤ 1000; omega⟩, trivial⟩ (fun I20 hI20 FI20 q21 p21 => ?_)
    have t22 := p21 0 68 (by decide)
    have t23 := p21 0 1 (by decide)
    have t24 := p21 0 2 (by decide)
    have f25 := (show 0 ≤ I20 0 68 ∧ I20 0 68 ≤ 1000 from (hI20 0 68).1)
    have f26 := (show 0 ≤ I20 0 1 ∧ I20 0 1 ≤ 8 from (hI20 0 1).1)
    have f27 := (show 0 ≤ I20 0 2 ∧ I20 0 2 ≤ 32 from (hI20 0 2).1)
    refine gv_run 1 true hD (pc' := 16) (lv' := [(0, .inr (.inr (some 0))), (1, .inl a1)]) (st' := [.inr (.inr (some 0))]) (h' := gr_h I20 J12) (C := (True ∧ True)) rfl ⟨trivial, trivial⟩ ?_
    obtain ⟨r28, h28, E28, P28⟩ := r_oneWord_t (ws0 := ws0) (tb := tb) hws htb ext I20 J12 hI20   
    obtain ⟨I29, J30, rfl, hI29, g28, k28, ⟨z28, rfl, q28⟩⟩ := P28
    have FI29 := gr_frt FI20 g28 rfl rfl
    have FJ30 := gr_fjt FJ12 k28 rfl rfl
    have t31 := g28 0 1 rfl
    have t32 := g28 0 2 rfl
    have f33 := (show 0 ≤ I29 0 68 ∧ I29 0 68 ≤ 1000 from (hI29 0 68).1)
    have f34 := (show 0 ≤ I29 0 1 ∧ I29 0 1 ≤ 8 from (hI29 0 1).1)
    have f35 := (show 0 ≤ I29 0 2 ∧ I29 0 2 ≤ 32 from (hI29 0 2).1)
    refine gv_callV hD rfl (As := []) (st := []) rfl (by decide) rfl rfl (gr_lV hws rfl) (Nat.le_of_ble_eq_true rfl) (gz_Ev_mono (d := 2) (by decide) E28) ?_
    show gv_X _ _ (19, [(0, .inr (.inr (some 0))), (1, .inl a1)], [.inl z28], gr_sh ++ ext, gr_h I29 J30)
    refine gv_if_ne (t := 25) hD rfl rfl ⟨by omega, by omega⟩ (fun c36 => ?_) (fun c36 => ?_)
    · refine gv_run 2 true hD (pc' := 27) (lv' := [(0, .inr (.inr (some 0))), (1, .inl a1)]) (st' := [.inl a1, .inr (.inr (some 0))]) (h' := gr_h I29 J30) (C := ((True ∧ True) ∧ True)) rfl ⟨⟨trivial, trivial⟩, trivial⟩ ?_
      obtain ⟨r37, h37, E37, P37⟩ := r_sounded (ws0 := ws0) (tb := tb) hws htb ext I29 J30 hI29 a1 ⟨by omega, by omega⟩ 
      obtain ⟨I38, J39, rfl, hI38, g37, k37, ⟨z37, rfl, q37⟩⟩ := P37
      have FI38 := gr_frt FI29 g37 rfl rfl
      have FJ39 := gr_fjt FJ30 k37 rfl rfl
      have t40 := g37 0 68 rfl
      have t41 := g37 0 1 rfl
      have t42 := g37 0 2 rfl
      have f43 := (show 0 ≤ I38 0 68 ∧ I38 0 68 ≤ 1000 from (hI38 0 68).1)
      have f44 := (show 0 ≤ I38 0 1 ∧ I38 0 1 ≤ 8 from (hI38 0 1).1)
      have f45 := (show 0 ≤ I38 0 2 ∧ I38 0 2 ≤ 32 from (hI38 0 2).1)
      refine gv_callV hD rfl (As := [.inl a1]) (st := []) rfl (by decide) rfl rfl (gr_lV hws rfl) (Nat.le_of_ble_eq_true rfl) (gz_Ev_mono (d := 4) (by decide) E37) ?_
      show gv_X _ _ (30, [(0, .inr (.inr (some 0))), (1, .inl a1)], [.inl z37], gr_sh ++ ext, gr_h I38 J39)
      refine gv_run 2 true hD (pc' := 32) (lv' := [(2, .inl z37), (0, .inr (.inr (some 0))), (1, .inl a1)]) (st' := [.inl z37]) (h' := gr_h I38 J39) (C := ((True ∧ True) ∧ True)) rfl ⟨⟨trivial, trivial⟩, trivial⟩ ?_
      refine gv_if_lt (t := 39) hD rfl rfl ⟨by omega, by omega⟩ (fun c46 => ?_) (fun c46 => ?_)
      · refine gv_pick [0] rfl ?_
        exact L39 I38 J39 z37 hI38 FI38 FJ39 (by omega)
      · refine gv_run 1 true hD (pc' := 36) (lv' := [(2, .inl z37), (0, .inr (.inr (some 0))), (1, .inl a1)]) (st' := [.inr (.inr (some 0))]) (h' := gr_h I38 J39) (C := (True ∧ True)) rfl ⟨trivial, trivial⟩ ?_
        obtain ⟨r47, h47, E47, P47⟩ := r_outBuf (ws0 := ws0) (tb := tb) hws htb ext I38 J39 hI38   
        obtain ⟨I48, J49, rfl, hI48, g47, k47, rfl⟩ := P47
        have FI48 := gr_frt FI38 g47 rfl rfl
        have FJ49 := gr_fjt FJ39 k47 rfl rfl
        have t50 := g47 0 68 rfl
        have t51 := g47 0 1 rfl
        have t52 := g47 0 2 rfl
        have f53 := (show 0 ≤ I48 0 68 ∧ I48 0 68 ≤ 1000 from (hI48 0 68).1)
        have f54 := (show 0 ≤ I48 0 1 ∧ I48 0 1 ≤ 8 from (hI48 0 1).1)
        have f55 := (show 0 ≤ I48 0 2 ∧ I48 0 2 ≤ 32 from (hI48 0 2).1)
        refine gv_callV hD rfl (As := []) (st := []) rfl (by decide) rfl rfl (gr_lV hws rfl) (Nat.le_of_ble_eq_true rfl) (gz_Ev_mono (d := 2) (by decide) E47) ?_
        show gv_X _ _ (39, [(2, .inl z37), (0, .inr (.inr (some 0))), (1, .inl a1)], [], gr_sh ++ ext, gr_h I48 J49)
        refine gv_pick [0] rfl ?_
        exact L39 I48 J49 z37 hI48 FI48 FJ49 (by omega)
    · refine gv_run 1 true hD (pc' := 24) (lv' := [(0, .inr (.inr (some 0))), (1, .inl a1)]) (st' := [.inl (-3)]) (h' := gr_h I29 J30) (C := (True ∧ True)) rfl ⟨trivial, trivial⟩ ?_
      exact gv_iret hD rfl ⟨I29, J30, rfl, hI29, FI29, FJ30, ⟨_, rfl, by omega⟩⟩
  · refine gv_run 1 true hD (pc' := 9) (lv' := [(0, .inr (.inr (some 0))), (1, .inl a1)]) (st' := [.inl 0]) (h' := gr_h I11 J12) (C := (True ∧ True)) rfl ⟨trivial, trivial⟩ ?_
    exact gv_iret hD rfl ⟨I11, J12, rfl, hI11, FI11, FJ12, ⟨_, rfl, by omega⟩⟩
set_option maxHeartbeats 4000000 in
set_option maxRecDepth 100000 in
theorem r_analyse_t {ws0 : List Cond} {tb : String → gz_T} (hws : ∀ w ∈ gr_ws, w ∈ ws0) (htb : tb RX13 = gr_T) (ext : gz_Sh) (I : gr_I) (J : gr_J) (hI : gr_Inv I) (a1 : Int) (ha1 : (-2147483648) ≤ a1 ∧ a1 ≤ 2147483647)  : ∃ r h', gz_Ev ws0 tb 7 (yX13_analyse, cX13_analyse, 5, (some .int)) [.inr (.inr (some 0)), .inl a1] (gr_sh ++ ext) (gr_h I J) r (gr_sh ++ ext) h' 0 0 ∧ (∃ (I' : gr_I) (J' : gr_J), h' = gr_h I' J' ∧ gr_Inv I' ∧ gr_fr [0, 68, 69, 126, 127, 128, 132, 133] [51, 57, 76, 77, 78, 79, 80] I I' ∧ gr_fj [0, 68, 69, 126, 127, 128, 132, 133] [51, 57, 76, 77, 78, 79, 80] J J' ∧ (∃ z : Int, r = some (.inl z) ∧ (-3) ≤ z ∧ z ≤ 1536 ∧ ((0 ≤ a1 ∧ a1 < I 0 1) → I' 0 68 = 0) ∧ (¬ (0 ≤ a1 ∧ a1 < I 0 1) → I' 0 68 = I 0 68))) := by
  have FI : gr_fr [0, 68, 69, 126, 127, 128, 132, 133] [51, 57, 76, 77, 78, 79, 80] I I := fun _ _ _ => rfl
  have FJ : gr_fj [0, 68, 69, 126, 127, 128, 132, 133] [51, 57, 76, 77, 78, 79, 80] J J := fun _ _ _ => rfl
  have hD : gv_D (gr_E ws0 tb 6 (yX13_analyse, cX13_analyse, 5, (some .int)) kX13_analyse) := gq_ok oX13_analyse
  refine gr_ev (d := 6) (l := kX13_analyse) (Po := fun r h' => (∃ (I' : gr_I) (J' : gr_J), h' = gr_h I' J' ∧ gr_Inv I' ∧ gr_fr [0, 68, 69, 126, 127, 128, 132, 133] [51, 57, 76, 77, 78, 79, 80] I I' ∧ gr_fj [0, 68, 69, 126, 127, 128, 132, 133] [51, 57, 76, 77, 78, 79, 80] J J' ∧ (∃ z : Int, r = some (.inl z) ∧ (-3) ≤ z ∧ z ≤ 1536 ∧ ((0 ≤ a1 ∧ a1 < I 0 1) → I' 0 68 = 0) ∧ (¬ (0 ≤ a1 ∧ a1 < I 0 1) → I' 0 68 = I 0 68)))) htb rfl (Nat.le_of_ble_eq_true rfl) ?_
  have f1 := (show 0 ≤ I 0 132 ∧ I 0 132 ≤ 1536 from (hI 0 132).1)
  have f2 := (show 0 ≤ I 0 68 ∧ I 0 68 ≤ 1000 from (hI 0 68).1)
  have f3 := (show 0 ≤ I 0 1 ∧ I 0 1 ≤ 8 from (hI 0 1).1)
  have f4 := (show 0 ≤ I 0 2 ∧ I 0 2 ≤ 32 from (hI 0 2).1)
  have L32 : ∀ (n : Nat) (I5 : gr_I) (J6 : gr_J) (v2_7 : Int) (v3_7 : Int), (25 - v3_7).toNat < n → gr_Inv I5 → gr_fr [0, 68, 69, 126, 127, 128, 132, 133] [51, 57, 76, 77, 78, 79, 80] I I5 → gr_fj [0, 68, 69, 126, 127, 128, 132, 133] [51, 57, 76, 77, 78, 79, 80] J J6 → ((0 ≤ a1 ∧ a1 ≤ 7) ∧ (0 ≤ v2_7 ∧ v2_7 ≤ 24) ∧ (0 ≤ v3_7 ∧ v3_7 ≤ 24) ∧ (I5 0 132 = 0) ∧ (I5 0 68 = 0) ∧ ((0 ≤ a1 ∧ a1 < I 0 1))) → gv_X (gr_E ws0 tb 6 (yX13_analyse, cX13_analyse, 5, (some .int)) kX13_analyse) (gv_Q cX13_analyse (some .int) (gr_sh ++ ext) (fun r h' => (∃ (I' : gr_I) (J' : gr_J), h' = gr_h I' J' ∧ gr_Inv I' ∧ gr_fr [0, 68, 69, 126, 127, 128, 132, 133] [51, 57, 76, 77, 78, 79, 80] I I' ∧ gr_fj [0, 68, 69, 126, 127, 128, 132, 133] [51, 57, 76, 77, 78, 79, 80] J J' ∧ (∃ z : Int, r = some (.inl z) ∧ (-3) ≤ z ∧ z ≤ 1536 ∧ ((0 ≤ a1 ∧ a1 < I 0 1) → I' 0 68 = 0) ∧ (¬ (0 ≤ a1 ∧ a1 < I 0 1) → I' 0 68 = I 0 68))))) (32, [(0, .inr (.inr (some 0))), (1, .inl a1), (2, .inl v2_7), (3, .inl v3_7)], [], gr_sh ++ ext, gr_h I5 J6) := by
    intro n
    induction n with
    | zero => intro I5 J6 v2_7 v3_7 hn; omega
    | succ n ih32 =>
      intro I5 J6 v2_7 v3_7 hn hI5 FI5 FJ6 m_7
      obtain ⟨ha1_7, hv2_7, hv3_7, e0_7, e1_7, e2_7⟩ := m_7
      have f8 := (show 0 ≤ I5 0 132 ∧ I5 0 132 ≤ 1536 from (hI5 0 132).1)
      have f9 := (show 0 ≤ I5 0 68 ∧ I5 0 68 ≤ 1000 from (hI5 0 68).1)
      have f10 := (show 0 ≤ I5 0 1 ∧ I5 0 1 ≤ 8 from (hI5 0 1).1)
      have f11 := (show 0 ≤ I5 0 2 ∧ I5 0 2 ≤ 32 from (hI5 0 2).1)
      have L67 : ∀ (n : Nat) (I12 : gr_I) (J13 : gr_J) (v3_14 : Int), (65 - v3_14).toNat < n → gr_Inv I12 → gr_fr [0, 68, 69, 126, 127, 128, 132, 133] [51, 57, 76, 77, 78, 79, 80] I I12 → gr_fj [0, 68, 69, 126, 127, 128, 132, 133] [51, 57, 76, 77, 78, 79, 80] J J13 → ((0 ≤ a1 ∧ a1 ≤ 7) ∧ (0 ≤ v2_7 ∧ v2_7 ≤ 24) ∧ (0 ≤ v3_14 ∧ v3_14 ≤ 64) ∧ (I12 0 132 ≤ 24 * v3_14) ∧ (I12 0 68 = 0) ∧ ((0 ≤ a1 ∧ a1 < I 0 1))) → gv_X (gr_E ws0 tb 6 (yX13_analyse, cX13_analyse, 5, (some .int)) kX13_analyse) (gv_Q cX13_analyse (some .int) (gr_sh ++ ext) (fun r h' => (∃ (I' : gr_I) (J' : gr_J), h' = gr_h I' J' ∧ gr_Inv I' ∧ gr_fr [0, 68, 69, 126, 127, 128, 132, 133] [51, 57, 76, 77, 78, 79, 80] I I' ∧ gr_fj [0, 68, 69, 126, 127, 128, 132, 133] [51, 57, 76, 77, 78, 79, 80] J J' ∧ (∃ z : Int, r = some (.inl z) ∧ (-3) ≤ z ∧ z ≤ 1536 ∧ ((0 ≤ a1 ∧ a1 < I 0 1) → I' 0 68 = 0) ∧ (¬ (0 ≤ a1 ∧ a1 < I 0 1) → I' 0 68 = I 0 68))))) (67, [(0, .inr (.inr (some 0))), (1, .inl a1), (2, .inl v2_7), (3, .inl v3_14)], [], gr_sh ++ ext, gr_h I12 J13) := by
        intro n
        induction n with
        | zero => intro I12 J13 v3_14 hn; omega
        | succ n ih67 =>
          intro I12 J13 v3_14 hn hI12 FI12 FJ13 m_14
          clear ha1_7 hv2_7 hv3_7 e0_7 e1_7 e2_7 f8 f9 f10 f11
          obtain ⟨ha1_14, hv2_7_14, hv3_14, e0_14, e1_14, e2_14⟩ := m_14
          have f15 := (show 0 ≤ I12 0 132 ∧ I12 0 132 ≤ 1536 from (hI12 0 132).1)
          have f16 := (show 0 ≤ I12 0 68 ∧ I12 0 68 ≤ 1000 from (hI12 0 68).1)
          have f17 := (show 0 ≤ I12 0 1 ∧ I12 0 1 ≤ 8 from (hI12 0 1).1)
          have f18 := (show 0 ≤ I12 0 2 ∧ I12 0 2 ≤ 32 from (hI12 0 2).1)
          have L80 : ∀ (n : Nat) (I19 : gr_I) (J20 : gr_J) (v4_21 : Int), (25 - v4_21).toNat < n → gr_Inv I19 → gr_fr [0, 68, 69, 126, 127, 128, 132, 133] [51, 57, 76, 77, 78, 79, 80] I I19 → gr_fj [0, 68, 69, 126, 127, 128, 132, 133] [51, 57, 76, 77, 78, 79, 80] J J20 → ((0 ≤ a1 ∧ a1 ≤ 7) ∧ (0 ≤ v2_7 ∧ v2_7 ≤ 24) ∧ (0 ≤ v3_14 ∧ v3_14 ≤ 63) ∧ (0 ≤ v4_21 ∧ v4_21 ≤ 24) ∧ (I19 0 132 ≤ 24 * v3_14 + v4_21) ∧ (I19 0 68 = 0) ∧ ((0 ≤ a1 ∧ a1 < I 0 1))) → gv_X (gr_E ws0 tb 6 (yX13_analyse, cX13_analyse, 5, (some .int)) kX13_analyse) (gv_Q cX13_analyse (some .int) (gr_sh ++ ext) (fun r h' => (∃ (I' : gr_I) (J' : gr_J), h' = gr_h I' J' ∧ gr_Inv I' ∧ gr_fr [0, 68, 69, 126, 127, 128, 132, 133] [51, 57, 76, 77, 78, 79, 80] I I' ∧ gr_fj [0, 68, 69, 126, 127, 128, 132, 133] [51, 57, 76, 77, 78, 79, 80] J J' ∧ (∃ z : Int, r = some (.inl z) ∧ (-3) ≤ z ∧ z ≤ 1536 ∧ ((0 ≤ a1 ∧ a1 < I 0 1) → I' 0 68 = 0) ∧ (¬ (0 ≤ a1 ∧ a1 < I 0 1) → I' 0 68 = I 0 68))))) (80, [(0, .inr (.inr (some 0))), (1, .inl a1), (2, .inl v2_7), (3, .inl v3_14), (4, .inl v4_21)], [], gr_sh ++ ext, gr_h I19 J20) := by
            intro n
            induction n with
            | zero => intro I19 J20 v4_21 hn; omega
            | succ n ih80 =>
              intro I19 J20 v4_21 hn hI19 FI19 FJ20 m_21
              clear ha1_14 hv2_7_14 hv3_14 e0_14 e1_14 e2_14 f15 f16 f17 f18
              obtain ⟨ha1_21, hv2_7_21, hv3_14_21, hv4_21, e0_21, e1_21, e2_21⟩ := m_21
              have f22 := (show 0 ≤ I19 0 132 ∧ I19 0 132 ≤ 1536 from (hI19 0 132).1)
              have f23 := (show 0 ≤ I19 0 68 ∧ I19 0 68 ≤ 1000 from (hI19 0 68).1)
              have f24 := (show 0 ≤ I19 0 1 ∧ I19 0 1 ≤ 8 from (hI19 0 1).1)
              have f25 := (show 0 ≤ I19 0 2 ∧ I19 0 2 ≤ 32 from (hI19 0 2).1)
              have L134 : ∀ (I26 : gr_I) (J27 : gr_J) , gr_Inv I26 → gr_fr [0, 68, 69, 126, 127, 128, 132, 133] [51, 57, 76, 77, 78, 79, 80] I I26 → gr_fj [0, 68, 69, 126, 127, 128, 132, 133] [51, 57, 76, 77, 78, 79, 80] J J27 → ((0 ≤ a1 ∧ a1 ≤ 7) ∧ (0 ≤ v2_7 ∧ v2_7 ≤ 24) ∧ (0 ≤ v3_14 ∧ v3_14 ≤ 63) ∧ (0 ≤ v4_21 ∧ v4_21 ≤ 23) ∧ (I26 0 132 ≤ 24 * v3_14 + v4_21 + 1) ∧ (I26 0 68 = 0) ∧ ((0 ≤ a1 ∧ a1 < I 0 1))) → gv_X (gr_E ws0 tb 6 (yX13_analyse, cX13_analyse, 5, (some .int)) kX13_analyse) (gv_Q cX13_analyse (some .int) (gr_sh ++ ext) (fun r h' => (∃ (I' : gr_I) (J' : gr_J), h' = gr_h I' J' ∧ gr_Inv I' ∧ gr_fr [0, 68, 69, 126, 127, 128, 132, 133] [51, 57, 76, 77, 78, 79, 80] I I' ∧ gr_fj [0, 68, 69, 126, 127, 128, 132, 133] [51, 57, 76, 77, 78, 79, 80] J J' ∧ (∃ z : Int, r = some (.inl z) ∧ (-3) ≤ z ∧ z ≤ 1536 ∧ ((0 ≤ a1 ∧ a1 < I 0 1) → I' 0 68 = 0) ∧ (¬ (0 ≤ a1 ∧ a1 < I 0 1) → I' 0 68 = I 0 68))))) (134, [(0, .inr (.inr (some 0))), (1, .inl a1), (2, .inl v2_7), (3, .inl v3_14), (4, .inl v4_21)], [], gr_sh ++ ext, gr_h I26 J27) := by
                intro I26 J27 hI26 FI26 FJ27 m_28
                clear ha1_21 hv2_7_21 hv3_14_21 hv4_21 e0_21 e1_21 e2_21 f22 f23 f24 f25
                obtain ⟨ha1_28, hv2_7_28, hv3_14_28, hv4_21_28, e0_28, e1_28, e2_28⟩ := m_28
                have f29 := (show 0 ≤ I26 0 132 ∧ I26 0 132 ≤ 1536 from (hI26 0 132).1)
                have f30 := (show 0 ≤ I26 0 68 ∧ I26 0 68 ≤ 1000 from (hI26 0 68).1)
                have f31 := (show 0 ≤ I26 0 1 ∧ I26 0 1 ≤ 8 from (hI26 0 1).1)
                have f32 := (show 0 ≤ I26 0 2 ∧ I26 0 2 ≤ 32 from (hI26 0 2).1)
                refine gv_run 2 true hD (pc' := 80) (lv' := [(4, .inl (v4_21 + 1)), (0, .inr (.inr (some 0))), (1, .inl a1), (2, .inl v2_7), (3, .inl v3_14)]) (st' := []) (h' := gr_h I26 J27) (C := ((True ∧ True) ∧ True)) rfl ⟨⟨trivial, trivial⟩, trivial⟩ ?_
                refine gv_pick [1, 2, 3, 4, 0] rfl ?_
                exact ih80 I26 J27 (v4_21 + 1) (by omega) hI26 FI26 FJ27 (by omega)
              refine gv_run 4 true hD (pc' := 85) (lv' := [(0, .inr (.inr (some 0))), (1, .inl a1), (2, .inl v2_7), (3, .inl v3_14), (4, .inl v4_21)]) (st' := [.inl v3_14, .inl a1, .inr (.inr (some 0)), .inl v4_21]) (h' := gr_h I19 J20) (C := ((((True ∧ True) ∧ True) ∧ True) ∧ True)) rfl ⟨⟨⟨⟨trivial, trivial⟩, trivial⟩, trivial⟩, trivial⟩ ?_
              obtain ⟨r33, h33, E33, P33⟩ := r_cellsOf (ws0 := ws0) (tb := tb) hws htb ext I19 J20 hI19 a1 v3_14 ⟨by omega, by omega⟩ ⟨by omega, by omega⟩ 
              obtain ⟨rfl, ⟨z33, rfl, q33⟩⟩ := P33
              refine gv_callV hD rfl (As := [.inl a1, .inl v3_14]) (st := [.inl v4_21]) rfl (by decide) rfl rfl (gr_lV hws rfl) (Nat.le_of_ble_eq_true rfl) (gz_Ev_mono (d := 1) (by decide) E33) ?_
              show gv_X _ _ (88, [(0, .inr (.inr (some 0))), (1, .inl a1), (2, .inl v2_7), (3, .inl v3_14), (4, .inl v4_21)], [.inl z33, .inl v4_21], gr_sh ++ ext, gr_h I19 J20)
              refine gv_icmp_ge (t := 140) hD rfl rfl ⟨⟨by omega, by omega⟩, ⟨by omega, by omega⟩⟩ (fun c34 => ?_) (fun c34 => ?_)
              · refine gv_run 2 true hD (pc' := 67) (lv' := [(3, .inl (v3_14 + 1)), (0, .inr (.inr (some 0))), (1, .inl a1), (2, .inl v2_7), (4, .inl v4_21)]) (st' := []) (h' := gr_h I19 J20) (C := ((True ∧ True) ∧ True)) rfl ⟨⟨trivial, trivial⟩, trivial⟩ ?_
                refine gv_pick [1, 2, 3, 0] rfl ?_
                exact ih67 I19 J20 (v3_14 + 1) (by omega) hI19 FI19 FJ20 (by omega)
              · refine gv_run 7 true hD (pc' := 100) (lv' := [(0, .inr (.inr (some 0))), (1, .inl a1), (2, .inl v2_7), (3, .inl v3_14), (4, .inl v4_21)]) (st' := [.inr (.inr (some 0)), .inl ((24 * v3_14) + v4_21), .inr (.inr (some 0))]) (h' := gr_h I19 J20) (C := (((((((True ∧ True) ∧ True) ∧ True) ∧ True) ∧ True) ∧ True) ∧ True)) rfl ⟨⟨⟨⟨⟨⟨⟨trivial, trivial⟩, trivial⟩, trivial⟩, trivial⟩, trivial⟩, trivial⟩, trivial⟩ ?_
                refine gv_run 3 true hD (pc' := 105) (lv' := [(0, .inr (.inr (some 0))), (1, .inl a1), (2, .inl v2_7), (3, .inl v3_14), (4, .inl v4_21)]) (st' := [.inl v2_7, .inl 0, .inr (.inr (some 57)), .inl ((24 * v3_14) + v4_21), .inr (.inr (some 0))]) (h' := gr_h I19 J20) (C := (((True ∧ True) ∧ True) ∧ True)) rfl ⟨⟨⟨trivial, trivial⟩, trivial⟩, trivial⟩ ?_
                obtain ⟨r35, h35, E35, P35⟩ := r_isForm_57 (ws0 := ws0) (tb := tb) hws htb ext I19 J20 hI19 (((24 * v3_14) + v4_21)) 0 v2_7 ⟨by omega, by omega⟩ ⟨by omega, by omega⟩ ⟨by omega, by omega⟩ (by omega)
                obtain ⟨rfl, ⟨z35, rfl, q35⟩⟩ := P35
                refine gv_callV hD rfl (As := [.inl ((24 * v3_14) + v4_21), .inr (.inr (some 57)), .inl 0, .inl v2_7]) (st := []) rfl (by decide) rfl rfl (gr_lV hws rfl) (Nat.le_of_ble_eq_true rfl) (gz_Ev_mono (d := 1) (by decide) E35) ?_
                show gv_X _ _ (108, [(0, .inr (.inr (some 0))), (1, .inl a1), (2, .inl v2_7), (3, .inl v3_14), (4, .inl v4_21)], [.inl z35], gr_sh ++ ext, gr_h I19 J20)
                refine gv_if_eq (t := 134) hD rfl rfl ⟨by omega, by omega⟩ (fun c36 => ?_) (fun c36 => ?_)
                · exact L134 I19 J20 hI19 FI19 FJ20 (by omega)
                · have f37 := (show 0 ≤ I19 0 132 ∧ I19 0 132 ≤ 1536 from (hI19 0 132).1)
                  refine gv_run 7 true hD (pc' := 122) (lv' := [(0, .inr (.inr (some 0))), (1, .inl a1), (2, .inl v2_7), (3, .inl v3_14), (4, .inl v4_21)]) (st' := [.inl 1, .inl (I19 0 132), .inr (.inr (some 0)), .inl (I19 0 132), .inr (.inr (some 80))]) (h' := gr_h I19 J20) (C := (((((((True ∧ True) ∧ True) ∧ True) ∧ True) ∧ True) ∧ True) ∧ True)) rfl ⟨⟨⟨⟨⟨⟨⟨trivial, trivial⟩, trivial⟩, trivial⟩, trivial⟩, trivial⟩, trivial⟩, trivial⟩ ?_
                  refine gv_run 2 true hD (pc' := 126) (lv' := [(0, .inr (.inr (some 0))), (1, .inl a1), (2, .inl v2_7), (3, .inl v3_14), (4, .inl v4_21)]) (st' := [.inl (I19 0 132), .inr (.inr (some 80))]) (h' := gz_up (gr_h I19 J20) 0 132 (.inl (((I19 0 132) + 1)))) (C := ((True ∧ True) ∧ True)) rfl ⟨⟨trivial, trivial⟩, trivial⟩ ?_
                  refine gr_st hI19 FI19 rfl rfl ⟨⟨by show 0 ≤ _; omega, by show _ ≤ 1536; omega⟩, trivial⟩ (fun I38 hI38 FI38 q39 p39 => ?_)
                  have t40 := p39 0 68 (by decide)
                  have t41 := p39 0 1 (by decide)
                  have t42 := p39 0 2 (by decide)
                  have f43 := (show 0 ≤ I38 0 132 ∧ I38 0 132 ≤ 1536 from (hI38 0 132).1)
                  have f44 := (show 0 ≤ I38 0 68 ∧ I38 0 68 ≤ 1000 from (hI38 0 68).1)
                  have f45 := (show 0 ≤ I38 0 1 ∧ I38 0 1 ≤ 8 from (hI38 0 1).1)
                  have f46 := (show 0 ≤ I38 0 2 ∧ I38 0 2 ≤ 32 from (hI38 0 2).1)
                  refine gv_run 5 true hD (pc' := 133) (lv' := [(0, .inr (.inr (some 0))), (1, .inl a1), (2, .inl v2_7), (3, .inl v3_14), (4, .inl v4_21)]) (st' := [.inl ((24 * v3_14) + v4_21), .inl (I19 0 132), .inr (.inr (some 80))]) (h' := gr_h I38 J20) (C := (((((True ∧ True) ∧ True) ∧ True) ∧ True) ∧ True)) rfl ⟨⟨⟨⟨⟨trivial, trivial⟩, trivial⟩, trivial⟩, trivial⟩, trivial⟩ ?_
                  refine gv_run 1 true hD (pc' := 134) (lv' := [(0, .inr (.inr (some 0))), (1, .inl a1), (2, .inl v2_7), (3, .inl v3_14), (4, .inl v4_21)]) (st' := []) (h' := gz_up (gr_h I38 J20) 80 (Int.toNat ((I19 0 132))) (.inl (((24 * v3_14) + v4_21)))) (C := (True ∧ (0 ≤ (I19 0 132) ∧ (I19 0 132) < ((1536 : Nat) : Int)))) rfl ⟨trivial, ⟨by omega, by omega⟩⟩ ?_
                  refine gr_st hI38 FI38 rfl rfl ⟨⟨by show 0 ≤ _; omega, by show _ ≤ 1535; omega⟩, trivial⟩ (fun I47 hI47 FI47 q48 p48 => ?_)
                  have t49 := p48 0 132 (fun q => absurd q.1 (by decide))
                  have t50 := p48 0 68 (fun q => absurd q.1 (by decide))
                  have t51 := p48 0 1 (fun q => absurd q.1 (by decide))
                  have t52 := p48 0 2 (fun q => absurd q.1 (by decide))
                  have f53 := (show 0 ≤ I47 0 132 ∧ I47 0 132 ≤ 1536 from (hI47 0 132).1)
                  have f54 := (show 0 ≤ I47 0 68 ∧ I47 0 68 ≤ 1000 from (hI47 0 68).1)
                  have f55 := (show 0 ≤ I47 0 1 ∧ I47 0 1 ≤ 8 from (hI47 0 1).1)
                  have f56 := (show 0 ≤ I47 0 2 ∧ I47 0 2 ≤ 32 from (hI47 0 2).1)
                  exact L134 I47 J20 hI47 FI47 FJ20 (by omega)
          have f57 := (show 0 ≤ I12 18 (Int.toNat a1) ∧ I12 18 (Int.toNat a1) ≤ 64 from (hI12 18 (Int.toNat a1)).1)
          refine gv_run 5 true hD (pc' := 74) (lv' := [(0, .inr (.inr (some 0))), (1, .inl a1), (2, .inl v2_7), (3, .inl v3_14)]) (st' := [.inl (I12 18 (Int.toNat a1)), .inl v3_14]) (h' := gr_h I12 J13) (C := (((((True ∧ True) ∧ True) ∧ True) ∧ True) ∧ (0 ≤ a1 ∧ a1 < ((8 : Nat) : Int)))) rfl ⟨⟨⟨⟨⟨trivial, trivial⟩, trivial⟩, trivial⟩, trivial⟩, ⟨by omega, by omega⟩⟩ ?_
          refine gv_icmp_ge (t := 146) hD rfl rfl ⟨⟨by omega, by omega⟩, ⟨by omega, by omega⟩⟩ (fun c58 => ?_) (fun c58 => ?_)
          · have f59 := (show 0 ≤ I12 0 132 ∧ I12 0 132 ≤ 1536 from (hI12 0 132).1)
            refine gv_run 2 true hD (pc' := 150) (lv' := [(0, .inr (.inr (some 0))), (1, .inl a1), (2, .inl v2_7), (3, .inl v3_14)]) (st' := [.inl (I12 0 132)]) (h' := gr_h I12 J13) (C := ((True ∧ True) ∧ True)) rfl ⟨⟨trivial, trivial⟩, trivial⟩ ?_
            exact gv_iret hD rfl ⟨I12, J13, rfl, hI12, FI12, FJ13, ⟨_, rfl, by omega⟩⟩
          · refine gv_run 2 true hD (pc' := 80) (lv' := [(4, .inl 0), (0, .inr (.inr (some 0))), (1, .inl a1), (2, .inl v2_7), (3, .inl v3_14)]) (st' := []) (h' := gr_h I12 J13) (C := ((True ∧ True) ∧ True)) rfl ⟨⟨trivial, trivial⟩, trivial⟩ ?_
            refine gv_pick [1, 2, 3, 4, 0] rfl ?_
            exact L80 _ I12 J13 0 (Nat.lt_succ_self _) hI12 FI12 FJ13 (by omega)
      refine gv_run 2 true hD (pc' := 34) (lv' := [(0, .inr (.inr (some 0))), (1, .inl a1), (2, .inl v2_7), (3, .inl v3_7)]) (st' := [.inl v2_7, .inl v3_7]) (h' := gr_h I5 J6) (C := ((True ∧ True) ∧ True)) rfl ⟨⟨trivial, trivial⟩, trivial⟩ ?_
      refine gv_icmp_ge (t := 55) hD rfl rfl ⟨⟨by omega, by omega⟩, ⟨by omega, by omega⟩⟩ (fun c60 => ?_) (fun c60 => ?_)
      · refine gv_run 2 true hD (pc' := 57) (lv' := [(0, .inr (.inr (some 0))), (1, .inl a1), (2, .inl v2_7), (3, .inl v3_7)]) (st' := [.inl a1, .inr (.inr (some 0))]) (h' := gr_h I5 J6) (C := ((True ∧ True) ∧ True)) rfl ⟨⟨trivial, trivial⟩, trivial⟩ ?_
        obtain ⟨r61, h61, E61, P61⟩ := r_forms_w (ws0 := ws0) (tb := tb) hws htb ext I5 J6 hI5 a1 ⟨by omega, by omega⟩ 
        obtain ⟨I62, J63, rfl, hI62, g61, k61, rfl⟩ := P61
        have FI62 := gr_frt FI5 g61 rfl rfl
        have FJ63 := gr_fjt FJ6 k61 rfl rfl
        have t64 := g61 0 132 rfl
        have t65 := g61 0 68 rfl
        have t66 := g61 0 1 rfl
        have t67 := g61 0 2 rfl
        have f68 := (show 0 ≤ I62 0 132 ∧ I62 0 132 ≤ 1536 from (hI62 0 132).1)
        have f69 := (show 0 ≤ I62 0 68 ∧ I62 0 68 ≤ 1000 from (hI62 0 68).1)
        have f70 := (show 0 ≤ I62 0 1 ∧ I62 0 1 ≤ 8 from (hI62 0 1).1)
        have f71 := (show 0 ≤ I62 0 2 ∧ I62 0 2 ≤ 32 from (hI62 0 2).1)
        refine gv_callV hD rfl (As := [.inl a1]) (st := []) rfl (by decide) rfl rfl (gr_lV hws rfl) (Nat.le_of_ble_eq_true rfl) (gz_Ev_mono (d := 6) (by decide) E61) ?_
        show gv_X _ _ (60, [(0, .inr (.inr (some 0))), (1, .inl a1), (2, .inl v2_7), (3, .inl v3_7)], [], gr_sh ++ ext, gr_h I62 J63)
        refine gv_run 3 true hD (pc' := 65) (lv' := [(0, .inr (.inr (some 0))), (1, .inl a1), (2, .inl v2_7), (3, .inl v3_7)]) (st' := []) (h' := gz_up (gr_h I62 J63) 0 133 (.inl a1)) (C := (((True ∧ True) ∧ True) ∧ True)) rfl ⟨⟨⟨trivial, trivial⟩, trivial⟩, trivial⟩ ?_
        refine gr_st hI62 FI62 rfl rfl ⟨⟨by show 0 ≤ _; omega, by show _ ≤ 7; omega⟩, trivial⟩ (fun I72 hI72 FI72 q73 p73 => ?_)
        have t74 := p73 0 132 (by decide)
        have t75 := p73 0 68 (by decide)
        have t76 := p73 0 1 (by decide)
        have t77 := p73 0 2 (by decide)
        have f78 := (show 0 ≤ I72 0 132 ∧ I72 0 132 ≤ 1536 from (hI72 0 132).1)
        have f79 := (show 0 ≤ I72 0 68 ∧ I72 0 68 ≤ 1000 from (hI72 0 68).1)
        have f80 := (show 0 ≤ I72 0 1 ∧ I72 0 1 ≤ 8 from (hI72 0 1).1)
        have f81 := (show 0 ≤ I72 0 2 ∧ I72 0 2 ≤ 32 from (hI72 0 2).1)
        refine gv_run 2 true hD (pc' := 67) (lv' := [(3, .inl 0), (0, .inr (.inr (some 0))), (1, .inl a1), (2, .inl v2_7)]) (st' := []) (h' := gr_h I72 J63) (C := ((True ∧ True) ∧ True)) rfl ⟨⟨trivial, trivial⟩, trivial⟩ ?_
        refine gv_pick [1, 2, 3, 0] rfl ?_
        exact L67 _ I72 J63 0 (Nat.lt_succ_self _) hI72 FI72 FJ63 (by omega)
      · have f82 := (show (-128) ≤ I5 76 (Int.toNat v3_7) ∧ I5 76 (Int.toNat v3_7) ≤ 127 from (hI5 76 (Int.toNat v3_7)).1)
        refine gv_run 7 true hD (pc' := 48) (lv' := [(0, .inr (.inr (some 0))), (1, .inl a1), (2, .inl v2_7), (3, .inl v3_7)]) (st' := [.inl (I5 76 (Int.toNat v3_7)), .inl v3_7, .inr (.inr (some 57))]) (h' := gr_h I5 J6) (C := (((((((True ∧ True) ∧ True) ∧ True) ∧ True) ∧ True) ∧ True) ∧ (0 ≤ v3_7 ∧ v3_7 < ((64 : Nat) : Int)))) rfl ⟨⟨⟨⟨⟨⟨⟨trivial, trivial⟩, trivial⟩, trivial⟩, trivial⟩, trivial⟩, trivial⟩, ⟨by omega, by omega⟩⟩ ?_
        have f83 := gw_nar_byte (x := ((I5 76 (Int.toNat v3_7))))
        refine gv_run 1 true hD (pc' := 49) (lv' := [(0, .inr (.inr (some 0))), (1, .inl a1), (2, .inl v2_7), (3, .inl v3_7)]) (st' := []) (h' := gz_up (gr_h I5 J6) 57 (Int.toNat v3_7) (.inl (((vp_nar .byte (Int32.ofInt ((I5 76 (Int.toNat v3_7))))).toInt)))) (C := (True ∧ (0 ≤ v3_7 ∧ v3_7 < ((1000 : Nat) : Int)))) rfl ⟨trivial, ⟨by omega, by omega⟩⟩ ?_
        refine gr_st hI5 FI5 rfl rfl ⟨⟨by show (-128) ≤ _; omega, by show _ ≤ 127; omega⟩, trivial⟩ (fun I84 hI84 FI84 q85 p85 => ?_)
        have t86 := p85 0 132 (fun q => absurd q.1 (by decide))
        have t87 := p85 0 68 (fun q => absurd q.1 (by decide))
        have t88 := p85 0 1 (fun q => absurd q.1 (by decide))
        have t89 := p85 0 2 (fun q => absurd q.1 (by decide))
        have f90 := (show 0 ≤ I84 0 132 ∧ I84 0 132 ≤ 1536 from (hI84 0 132).1)
        have f91 := (show 0 ≤ I84 0 68 ∧ I84 0 68 ≤ 1000 from (hI84 0 68).1)
        have f92 := (show 0 ≤ I84 0 1 ∧ I84 0 1 ≤ 8 from (hI84 0 1).1)
        have f93 := (show 0 ≤ I84 0 2 ∧ I84 0 2 ≤ 32 from (hI84 0 2).1)
        refine gv_run 2 true hD (pc' := 32) (lv' := [(3, .inl (v3_7 + 1)), (0, .inr (.inr (some 0))), (1, .inl a1), (2, .inl v2_7)]) (st' := []) (h' := gr_h I84 J6) (C := ((True ∧ True) ∧ True)) rfl ⟨⟨trivial, trivial⟩, trivial⟩ ?_
        refine gv_pick [1, 2, 3, 0] rfl ?_
        exact ih32 I84 J6 v2_7 (v3_7 + 1) (by omega) hI84 FI84 FJ6 (by omega)
  refine gv_run 2 true hD (pc' := 2) (lv' := [(0, .inr (.inr (some 0))), (1, .inl a1)]) (st' := [.inl a1, .inr (.inr (some 0))]) (h' := gr_h I J) (C := ((True ∧ True) ∧ True)) rfl ⟨⟨trivial, trivial⟩, trivial⟩ ?_
  obtain ⟨r94, h94, E94, P94⟩ := r_noTongue_t (ws0 := ws0) (tb := tb) hws htb ext I J hI a1 ⟨by omega, by omega⟩ 
  obtain ⟨I95, J96, rfl, hI95, g94, k94, ⟨z94, rfl, q94⟩⟩ := P94
  have FI95 := gr_frt FI g94 rfl rfl
  have FJ96 := gr_fjt FJ k94 rfl rfl
  have t97 := g94 0 132 rfl
  have t98 := g94 0 68 rfl
  have t99 := g94 0 1 rfl
  have t100 := g94 0 2 rfl
  have f101 := (show 0 ≤ I95 0 132 ∧ I95 0 132 ≤ 1536 from (hI95 0 132).1)
  have f102 := (show 0 ≤ I95 0 68 ∧ I95 0 68 ≤ 1000 from (hI95 0 68).1)
  have f103 := (show 0 ≤ I95 0 1 ∧ I95 0 1 ≤ 8 from (hI95 0 1).1)
  have f104 := (show 0 ≤ I95 0 2 ∧ I95 0 2 ≤ 32 from (hI95 0 2).1)
  refine gv_callV hD rfl (As := [.inl a1]) (st := []) rfl (by decide) rfl rfl (gr_lV hws rfl) (Nat.le_of_ble_eq_true rfl) (gz_Ev_mono (d := 1) (by decide) E94) ?_
  show gv_X _ _ (5, [(0, .inr (.inr (some 0))), (1, .inl a1)], [.inl z94], gr_sh ++ ext, gr_h I95 J96)
  refine gv_if_eq (t := 10) hD rfl rfl ⟨by omega, by omega⟩ (fun c105 => ?_) (fun c105 => ?_)
  · refine gv_run 3 true hD (pc' := 15) (lv' := [(0, .inr (.inr (some 0))), (1, .inl a1)]) (st' := []) (h' := gz_up (gr_h I95 J96) 0 132 (.inl 0)) (C := (((True ∧ True) ∧ True) ∧ True)) rfl ⟨⟨⟨trivial, trivial⟩, trivial⟩, trivial⟩ ?_
    refine gr_st hI95 FI95 rfl rfl ⟨⟨by show 0 ≤ _; omega, by show _ ≤ 1536; omega⟩, trivial⟩ (fun I106 hI106 FI106 q107 p107 => ?_)
    have t108 := p107 0 68 (by decide)
    have t109 := p107 0 1 (by decide)
    have t110 := p107 0 2 (by decide)
    have f111 := (show 0 ≤ I106 0 132 ∧ I106 0 132 ≤ 1536 from (hI106 0 132).1)
    have f112 := (show 0 ≤ I106 0 68 ∧ I106 0 68 ≤ 1000 from (hI106 0 68).1)
    have f113 := (show 0 ≤ I106 0 1 ∧ I106 0 1 ≤ 8 from (hI106 0 1).1)
    have f114 := (show 0 ≤ I106 0 2 ∧ I106 0 2 ≤ 32 from (hI106 0 2).1)
    refine gv_run 1 true hD (pc' := 16) (lv' := [(0, .inr (.inr (some 0))), (1, .inl a1)]) (st' := [.inr (.inr (some 0))]) (h' := gr_h I106 J96) (C := (True ∧ True)) rfl ⟨trivial, trivial⟩ ?_
    obtain ⟨r115, h115, E115, P115⟩ := r_oneWord_t (ws0 := ws0) (tb := tb) hws htb ext I106 J96 hI106   
    obtain ⟨I116, J117, rfl, hI116, g115, k115, ⟨z115, rfl, q115⟩⟩ := P115
    have FI116 := gr_frt FI106 g115 rfl rfl
    have FJ117 := gr_fjt FJ96 k115 rfl rfl
    have t118 := g115 0 132 rfl
    have t119 := g115 0 1 rfl
    have t120 := g115 0 2 rfl
    have f121 := (show 0 ≤ I116 0 132 ∧ I116 0 132 ≤ 1536 from (hI116 0 132).1)
    have f122 := (show 0 ≤ I116 0 68 ∧ I116 0 68 ≤ 1000 from (hI116 0 68).1)
    have f123 := (show 0 ≤ I116 0 1 ∧ I116 0 1 ≤ 8 from (hI116 0 1).1)
    have f124 := (show 0 ≤ I116 0 2 ∧ I116 0 2 ≤ 32 from (hI116 0 2).1)
    refine gv_callV hD rfl (As := []) (st := []) rfl (by decide) rfl rfl (gr_lV hws rfl) (Nat.le_of_ble_eq_true rfl) (gz_Ev_mono (d := 2) (by decide) E115) ?_
    show gv_X _ _ (19, [(0, .inr (.inr (some 0))), (1, .inl a1)], [.inl z115], gr_sh ++ ext, gr_h I116 J117)
    refine gv_if_ne (t := 25) hD rfl rfl ⟨by omega, by omega⟩ (fun c125 => ?_) (fun c125 => ?_)
    · have f126 := (show 0 ≤ I116 0 126 ∧ I116 0 126 ≤ 24 from (hI116 0 126).1)
      refine gv_run 5 true hD (pc' := 32) (lv' := [(3, .inl 0), (2, .inl (I116 0 126)), (0, .inr (.inr (some 0))), (1, .inl a1)]) (st' := []) (h' := gr_h I116 J117) (C := (((((True ∧ True) ∧ True) ∧ True) ∧ True) ∧ True)) rfl ⟨⟨⟨⟨⟨trivial, trivial⟩, trivial⟩, trivial⟩, trivial⟩, trivial⟩ ?_
      refine gv_pick [2, 3, 1, 0] rfl ?_
      exact L32 _ I116 J117 (I116 0 126) 0 (Nat.lt_succ_self _) hI116 FI116 FJ117 (by omega)
    · refine gv_run 1 true hD (pc' := 24) (lv' := [(0, .inr (.inr (some 0))), (1, .inl a1)]) (st' := [.inl (-3)]) (h' := gr_h I116 J117) (C := (True ∧ True)) rfl ⟨trivial, trivial⟩ ?_
      exact gv_iret hD rfl ⟨I116, J117, rfl, hI116, FI116, FJ117, ⟨_, rfl, by omega⟩⟩
  · refine gv_run 1 true hD (pc' := 9) (lv' := [(0, .inr (.inr (some 0))), (1, .inl a1)]) (st' := [.inl 0]) (h' := gr_h I95 J96) (C := (True ∧ True)) rfl ⟨trivial, trivial⟩ ?_
    exact gv_iret hD rfl ⟨I95, J96, rfl, hI95, FI95, FJ96, ⟨_, rfl, by omega⟩⟩
set_option maxHeartbeats 4000000 in
set_option maxRecDepth 100000 in
theorem r_guess_t {ws0 : List Cond} {tb : String → gz_T} (hws : ∀ w ∈ gr_ws, w ∈ ws0) (htb : tb RX13 = gr_T) (ext : gz_Sh) (I : gr_I) (J : gr_J) (hI : gr_Inv I) (a1 : Int) (ha1 : (-2147483648) ≤ a1 ∧ a1 ≤ 2147483647)  : ∃ r h', gz_Ev ws0 tb 7 (yX13_guess, cX13_guess, 8, (some .int)) [.inr (.inr (some 0)), .inl a1] (gr_sh ++ ext) (gr_h I J) r (gr_sh ++ ext) h' 0 0 ∧ (∃ (I' : gr_I) (J' : gr_J), h' = gr_h I' J' ∧ gr_Inv I' ∧ gr_fr [0, 68, 69, 126, 127, 128, 136, 137, 138] [51, 57, 76, 77, 78, 79, 81, 82] I I' ∧ gr_fj [0, 68, 69, 126, 127, 128, 136, 137, 138] [51, 57, 76, 77, 78, 79, 81, 82] J J' ∧ (∃ z : Int, r = some (.inl z) ∧ (-3) ≤ z ∧ z ≤ 24 ∧ ((0 ≤ a1 ∧ a1 < I 0 1) → I' 0 68 = 0) ∧ (¬ (0 ≤ a1 ∧ a1 < I 0 1) → I' 0 68 = I 0 68))) := by
  have FI : gr_fr [0, 68, 69, 126, 127, 128, 136, 137, 138] [51, 57, 76, 77, 78, 79, 81, 82] I I := fun _ _ _ => rfl
  have FJ : gr_fj [0, 68, 69, 126, 127, 128, 136, 137, 138] [51, 57, 76, 77, 78, 79, 81, 82] J J := fun _ _ _ => rfl
  have hD : gv_D (gr_E ws0 tb 6 (yX13_guess, cX13_guess, 8, (some .int)) kX13_guess) := gq_ok oX13_guess
  refine gr_ev (d := 6) (l := kX13_guess) (Po := fun r h' => (∃ (I' : gr_I) (J' : gr_J), h' = gr_h I' J' ∧ gr_Inv I' ∧ gr_fr [0, 68, 69, 126, 127, 128, 136, 137, 138] [51, 57, 76, 77, 78, 79, 81, 82] I I' ∧ gr_fj [0, 68, 69, 126, 127, 128, 136, 137, 138] [51, 57, 76, 77, 78, 79, 81, 82] J J' ∧ (∃ z : Int, r = some (.inl z) ∧ (-3) ≤ z ∧ z ≤ 24 ∧ ((0 ≤ a1 ∧ a1 < I 0 1) → I' 0 68 = 0) ∧ (¬ (0 ≤ a1 ∧ a1 < I 0 1) → I' 0 68 = I 0 68)))) htb rfl (Nat.le_of_ble_eq_true rfl) ?_
  have f1 := (show 0 ≤ I 0 136 ∧ I 0 136 ≤ 24 from (hI 0 136).1)
  have f2 := (show 0 ≤ I 0 137 ∧ I 0 137 ≤ 40000 from (hI 0 137).1)
  have f3 := (show 0 ≤ I 0 68 ∧ I 0 68 ≤ 1000 from (hI 0 68).1)
  have f4 := (show 0 ≤ I 0 1 ∧ I 0 1 ≤ 8 from (hI 0 1).1)
  have f5 := (show 0 ≤ I 0 2 ∧ I 0 2 ≤ 32 from (hI 0 2).1)
  have L32 : ∀ (n : Nat) (I6 : gr_I) (J7 : gr_J) (v2_8 : Int) (v3_8 : Int), (25 - v3_8).toNat < n → gr_Inv I6 → gr_fr [0, 68, 69, 126, 127, 128, 136, 137, 138] [51, 57, 76, 77, 78, 79, 81, 82] I I6 → gr_fj [0, 68, 69, 126, 127, 128, 136, 137, 138] [51, 57, 76, 77, 78, 79, 81, 82] J J7 → ((0 ≤ a1 ∧ a1 ≤ 7) ∧ (0 ≤ v2_8 ∧ v2_8 ≤ 24) ∧ (0 ≤ v3_8 ∧ v3_8 ≤ 24) ∧ (I6 0 68 = 0) ∧ ((0 ≤ a1 ∧ a1 < I 0 1))) → gv_X (gr_E ws0 tb 6 (yX13_guess, cX13_guess, 8, (some .int)) kX13_guess) (gv_Q cX13_guess (some .int) (gr_sh ++ ext) (fun r h' => (∃ (I' : gr_I) (J' : gr_J), h' = gr_h I' J' ∧ gr_Inv I' ∧ gr_fr [0, 68, 69, 126, 127, 128, 136, 137, 138] [51, 57, 76, 77, 78, 79, 81, 82] I I' ∧ gr_fj [0, 68, 69, 126, 127, 128, 136, 137, 138] [51, 57, 76, 77, 78, 79, 81, 82] J J' ∧ (∃ z : Int, r = some (.inl z) ∧ (-3) ≤ z ∧ z ≤ 24 ∧ ((0 ≤ a1 ∧ a1 < I 0 1) → I' 0 68 = 0) ∧ (¬ (0 ≤ a1 ∧ a1 < I 0 1) → I' 0 68 = I 0 68))))) (32, [(0, .inr (.inr (some 0))), (1, .inl a1), (2, .inl v2_8), (3, .inl v3_8)], [], gr_sh ++ ext, gr_h I6 J7) := by
    intro n
    induction n with
    | zero => intro I6 J7 v2_8 v3_8 hn; omega
    | succ n ih32 =>
      intro I6 J7 v2_8 v3_8 hn hI6 FI6 FJ7 m_8
      obtain ⟨ha1_8, hv2_8, hv3_8, e0_8, e1_8⟩ := m_8
      have f9 := (show 0 ≤ I6 0 136 ∧ I6 0 136 ≤ 24 from (hI6 0 136).1)
      have f10 := (show 0 ≤ I6 0 137 ∧ I6 0 137 ≤ 40000 from (hI6 0 137).1)
      have f11 := (show 0 ≤ I6 0 68 ∧ I6 0 68 ≤ 1000 from (hI6 0 68).1)
      have f12 := (show 0 ≤ I6 0 1 ∧ I6 0 1 ≤ 8 from (hI6 0 1).1)
      have f13 := (show 0 ≤ I6 0 2 ∧ I6 0 2 ≤ 32 from (hI6 0 2).1)
      have L66 : ∀ (n : Nat) (I14 : gr_I) (J15 : gr_J) (v3_16 : Int), (v3_16 - (-1)).toNat < n → gr_Inv I14 → gr_fr [0, 68, 69, 126, 127, 128, 136, 137, 138] [51, 57, 76, 77, 78, 79, 81, 82] I I14 → gr_fj [0, 68, 69, 126, 127, 128, 136, 137, 138] [51, 57, 76, 77, 78, 79, 81, 82] J J15 → ((0 ≤ a1 ∧ a1 ≤ 7) ∧ (0 ≤ v2_8 ∧ v2_8 ≤ 24) ∧ (0 ≤ v3_16 ∧ v3_16 ≤ 4) ∧ (v3_16 ≤ v2_8) ∧ (I14 0 68 = 0) ∧ ((0 ≤ a1 ∧ a1 < I 0 1))) → gv_X (gr_E ws0 tb 6 (yX13_guess, cX13_guess, 8, (some .int)) kX13_guess) (gv_Q cX13_guess (some .int) (gr_sh ++ ext) (fun r h' => (∃ (I' : gr_I) (J' : gr_J), h' = gr_h I' J' ∧ gr_Inv I' ∧ gr_fr [0, 68, 69, 126, 127, 128, 136, 137, 138] [51, 57, 76, 77, 78, 79, 81, 82] I I' ∧ gr_fj [0, 68, 69, 126, 127, 128, 136, 137, 138] [51, 57, 76, 77, 78, 79, 81, 82] J J' ∧ (∃ z : Int, r = some (.inl z) ∧ (-3) ≤ z ∧ z ≤ 24 ∧ ((0 ≤ a1 ∧ a1 < I 0 1) → I' 0 68 = 0) ∧ (¬ (0 ≤ a1 ∧ a1 < I 0 1) → I' 0 68 = I 0 68))))) (66, [(0, .inr (.inr (some 0))), (1, .inl a1), (2, .inl v2_8), (3, .inl v3_16)], [], gr_sh ++ ext, gr_h I14 J15) := by
        intro n
        induction n with
        | zero => intro I14 J15 v3_16 hn; omega
        | succ n ih66 =>
          intro I14 J15 v3_16 hn hI14 FI14 FJ15 m_16
          clear ha1_8 hv2_8 hv3_8 e0_8 e1_8 f9 f10 f11 f12 f13
          obtain ⟨ha1_16, hv2_8_16, hv3_16, e0_16, e1_16, e2_16⟩ := m_16
          have f17 := (show 0 ≤ I14 0 136 ∧ I14 0 136 ≤ 24 from (hI14 0 136).1)
          have f18 := (show 0 ≤ I14 0 137 ∧ I14 0 137 ≤ 40000 from (hI14 0 137).1)
          have f19 := (show 0 ≤ I14 0 68 ∧ I14 0 68 ≤ 1000 from (hI14 0 68).1)
          have f20 := (show 0 ≤ I14 0 1 ∧ I14 0 1 ≤ 8 from (hI14 0 1).1)
          have f21 := (show 0 ≤ I14 0 2 ∧ I14 0 2 ≤ 32 from (hI14 0 2).1)
          have L90 : ∀ (n : Nat) (I22 : gr_I) (J23 : gr_J) (v4_24 : Int), (25 - v4_24).toNat < n → gr_Inv I22 → gr_fr [0, 68, 69, 126, 127, 128, 136, 137, 138] [51, 57, 76, 77, 78, 79, 81, 82] I I22 → gr_fj [0, 68, 69, 126, 127, 128, 136, 137, 138] [51, 57, 76, 77, 78, 79, 81, 82] J J23 → ((0 ≤ a1 ∧ a1 ≤ 7) ∧ (1 ≤ v2_8 ∧ v2_8 ≤ 24) ∧ (1 ≤ v3_16 ∧ v3_16 ≤ 4) ∧ (0 ≤ v4_24 ∧ v4_24 ≤ 24) ∧ (v3_16 ≤ v2_8) ∧ (I22 0 136 ≤ v4_24) ∧ (I22 0 137 ≤ 1536 * v4_24) ∧ (I22 0 68 = 0) ∧ ((0 ≤ a1 ∧ a1 < I 0 1))) → gv_X (gr_E ws0 tb 6 (yX13_guess, cX13_guess, 8, (some .int)) kX13_guess) (gv_Q cX13_guess (some .int) (gr_sh ++ ext) (fun r h' => (∃ (I' : gr_I) (J' : gr_J), h' = gr_h I' J' ∧ gr_Inv I' ∧ gr_fr [0, 68, 69, 126, 127, 128, 136, 137, 138] [51, 57, 76, 77, 78, 79, 81, 82] I I' ∧ gr_fj [0, 68, 69, 126, 127, 128, 136, 137, 138] [51, 57, 76, 77, 78, 79, 81, 82] J J' ∧ (∃ z : Int, r = some (.inl z) ∧ (-3) ≤ z ∧ z ≤ 24 ∧ ((0 ≤ a1 ∧ a1 < I 0 1) → I' 0 68 = 0) ∧ (¬ (0 ≤ a1 ∧ a1 < I 0 1) → I' 0 68 = I 0 68))))) (90, [(0, .inr (.inr (some 0))), (1, .inl a1), (2, .inl v2_8), (3, .inl v3_16), (4, .inl v4_24)], [], gr_sh ++ ext, gr_h I22 J23) := by
            intro n
            induction n with
            | zero => intro I22 J23 v4_24 hn; omega
            | succ n ih90 =>
              intro I22 J23 v4_24 hn hI22 FI22 FJ23 m_24
              clear ha1_16 hv2_8_16 hv3_16 e0_16 e1_16 e2_16 f17 f18 f19 f20 f21
              obtain ⟨ha1_24, hv2_8_24, hv3_16_24, hv4_24, e0_24, e1_24, e2_24, e3_24, e4_24⟩ := m_24
              have f25 := (show 0 ≤ I22 0 136 ∧ I22 0 136 ≤ 24 from (hI22 0 136).1)
              have f26 := (show 0 ≤ I22 0 137 ∧ I22 0 137 ≤ 40000 from (hI22 0 137).1)
              have f27 := (show 0 ≤ I22 0 68 ∧ I22 0 68 ≤ 1000 from (hI22 0 68).1)
              have f28 := (show 0 ≤ I22 0 1 ∧ I22 0 1 ≤ 8 from (hI22 0 1).1)
              have f29 := (show 0 ≤ I22 0 2 ∧ I22 0 2 ≤ 32 from (hI22 0 2).1)
              have L107 : ∀ (n : Nat) (v5_30 : Int) (v6_30 : Int), (65 - v6_30).toNat < n → ((0 ≤ a1 ∧ a1 ≤ 7) ∧ (1 ≤ v2_8 ∧ v2_8 ≤ 24) ∧ (1 ≤ v3_16 ∧ v3_16 ≤ 4) ∧ (0 ≤ v4_24 ∧ v4_24 ≤ 23) ∧ (0 ≤ v5_30 ∧ v5_30 ≤ 1536) ∧ (0 ≤ v6_30 ∧ v6_30 ≤ 64) ∧ (v3_16 ≤ v2_8) ∧ (v5_30 ≤ 24 * v6_30) ∧ (I22 0 68 = 0) ∧ ((0 ≤ a1 ∧ a1 < I 0 1))) → gv_X (gr_E ws0 tb 6 (yX13_guess, cX13_guess, 8, (some .int)) kX13_guess) (gv_Q cX13_guess (some .int) (gr_sh ++ ext) (fun r h' => (∃ (I' : gr_I) (J' : gr_J), h' = gr_h I' J' ∧ gr_Inv I' ∧ gr_fr [0, 68, 69, 126, 127, 128, 136, 137, 138] [51, 57, 76, 77, 78, 79, 81, 82] I I' ∧ gr_fj [0, 68, 69, 126, 127, 128, 136, 137, 138] [51, 57, 76, 77, 78, 79, 81, 82] J J' ∧ (∃ z : Int, r = some (.inl z) ∧ (-3) ≤ z ∧ z ≤ 24 ∧ ((0 ≤ a1 ∧ a1 < I 0 1) → I' 0 68 = 0) ∧ (¬ (0 ≤ a1 ∧ a1 < I 0 1) → I' 0 68 = I 0 68))))) (107, [(0, .inr (.inr (some 0))), (1, .inl a1), (2, .inl v2_8), (3, .inl v3_16), (4, .inl v4_24), (5, .inl v5_30), (6, .inl v6_30)], [], gr_sh ++ ext, gr_h I22 J23) := by
                intro n
                induction n with
                | zero => intro v5_30 v6_30 hn; omega
                | succ n ih107 =>
                  intro v5_30 v6_30 hn m_30
                  obtain ⟨ha1_30, hv2_8_30, hv3_16_30, hv4_24_30, hv5_30, hv6_30, e0_30, e1_30, e2_30, e3_30⟩ := m_30
                  have f31 := (show 0 ≤ I22 0 136 ∧ I22 0 136 ≤ 24 from (hI22 0 136).1)
                  have f32 := (show 0 ≤ I22 0 137 ∧ I22 0 137 ≤ 40000 from (hI22 0 137).1)
                  have f33 := (show 0 ≤ I22 0 68 ∧ I22 0 68 ≤ 1000 from (hI22 0 68).1)
                  have f34 := (show 0 ≤ I22 0 1 ∧ I22 0 1 ≤ 8 from (hI22 0 1).1)
                  have f35 := (show 0 ≤ I22 0 2 ∧ I22 0 2 ≤ 32 from (hI22 0 2).1)
                  have L179 : ∀ (v5_36 : Int), ((0 ≤ a1 ∧ a1 ≤ 7) ∧ (1 ≤ v2_8 ∧ v2_8 ≤ 24) ∧ (1 ≤ v3_16 ∧ v3_16 ≤ 4) ∧ (0 ≤ v4_24 ∧ v4_24 ≤ 23) ∧ (0 ≤ v5_36 ∧ v5_36 ≤ 1536) ∧ (0 ≤ v6_30 ∧ v6_30 ≤ 63) ∧ (v3_16 ≤ v2_8) ∧ (v5_36 ≤ 24 * v6_30 + 24) ∧ (I22 0 68 = 0) ∧ ((0 ≤ a1 ∧ a1 < I 0 1))) → gv_X (gr_E ws0 tb 6 (yX13_guess, cX13_guess, 8, (some .int)) kX13_guess) (gv_Q cX13_guess (some .int) (gr_sh ++ ext) (fun r h' => (∃ (I' : gr_I) (J' : gr_J), h' = gr_h I' J' ∧ gr_Inv I' ∧ gr_fr [0, 68, 69, 126, 127, 128, 136, 137, 138] [51, 57, 76, 77, 78, 79, 81, 82] I I' ∧ gr_fj [0, 68, 69, 126, 127, 128, 136, 137, 138] [51, 57, 76, 77, 78, 79, 81, 82] J J' ∧ (∃ z : Int, r = some (.inl z) ∧ (-3) ≤ z ∧ z ≤ 24 ∧ ((0 ≤ a1 ∧ a1 < I 0 1) → I' 0 68 = 0) ∧ (¬ (0 ≤ a1 ∧ a1 < I 0 1) → I' 0 68 = I 0 68))))) (179, [(0, .inr (.inr (some 0))), (1, .inl a1), (2, .inl v2_8), (3, .inl v3_16), (4, .inl v4_24), (5, .inl v5_36), (6, .inl v6_30)], [], gr_sh ++ ext, gr_h I22 J23) := by
                    intro v5_36 m_36
                    obtain ⟨ha1_36, hv2_8_36, hv3_16_36, hv4_24_36, hv5_36, hv6_30_36, e0_36, e1_36, e2_36, e3_36⟩ := m_36
                    have f37 := (show 0 ≤ I22 0 136 ∧ I22 0 136 ≤ 24 from (hI22 0 136).1)
                    have f38 := (show 0 ≤ I22 0 137 ∧ I22 0 137 ≤ 40000 from (hI22 0 137).1)
                    have f39 := (show 0 ≤ I22 0 68 ∧ I22 0 68 ≤ 1000 from (hI22 0 68).1)
                    have f40 := (show 0 ≤ I22 0 1 ∧ I22 0 1 ≤ 8 from (hI22 0 1).1)
                    have f41 := (show 0 ≤ I22 0 2 ∧ I22 0 2 ≤ 32 from (hI22 0 2).1)
                    refine gv_run 2 true hD (pc' := 107) (lv' := [(6, .inl (v6_30 + 1)), (0, .inr (.inr (some 0))), (1, .inl a1), (2, .inl v2_8), (3, .inl v3_16), (4, .inl v4_24), (5, .inl v5_36)]) (st' := []) (h' := gr_h I22 J23) (C := ((True ∧ True) ∧ True)) rfl ⟨⟨trivial, trivial⟩, trivial⟩ ?_
                    refine gv_pick [1, 2, 3, 4, 5, 6, 0] rfl ?_
                    exact ih107 v5_36 (v6_30 + 1) (by omega) (by omega)
                  have L141 : ∀ (n : Nat) (v5_42 : Int) (v7_42 : Int), (25 - v7_42).toNat < n → ((0 ≤ a1 ∧ a1 ≤ 7) ∧ (1 ≤ v2_8 ∧ v2_8 ≤ 24) ∧ (1 ≤ v3_16 ∧ v3_16 ≤ 4) ∧ (0 ≤ v4_24 ∧ v4_24 ≤ 23) ∧ (0 ≤ v5_42 ∧ v5_42 ≤ 1536) ∧ (0 ≤ v6_30 ∧ v6_30 ≤ 63) ∧ (0 ≤ v7_42 ∧ v7_42 ≤ 24) ∧ (v3_16 ≤ v2_8) ∧ (v5_42 ≤ 24 * v6_30 + v7_42) ∧ (I22 0 68 = 0) ∧ ((0 ≤ a1 ∧ a1 < I 0 1))) → gv_X (gr_E ws0 tb 6 (yX13_guess, cX13_guess, 8, (some .int)) kX13_guess) (gv_Q cX13_guess (some .int) (gr_sh ++ ext) (fun r h' => (∃ (I' : gr_I) (J' : gr_J), h' = gr_h I' J' ∧ gr_Inv I' ∧ gr_fr [0, 68, 69, 126, 127, 128, 136, 137, 138] [51, 57, 76, 77, 78, 79, 81, 82] I I' ∧ gr_fj [0, 68, 69, 126, 127, 128, 136, 137, 138] [51, 57, 76, 77, 78, 79, 81, 82] J J' ∧ (∃ z : Int, r = some (.inl z) ∧ (-3) ≤ z ∧ z ≤ 24 ∧ ((0 ≤ a1 ∧ a1 < I 0 1) → I' 0 68 = 0) ∧ (¬ (0 ≤ a1 ∧ a1 < I 0 1) → I' 0 68 = I 0 68))))) (141, [(0, .inr (.inr (some 0))), (1, .inl a1), (2, .inl v2_8), (3, .inl v3_16), (4, .inl v4_24), (5, .inl v5_42), (6, .inl v6_30), (7, .inl v7_42)], [], gr_sh ++ ext, gr_h I22 J23) := by
                    intro n
                    induction n with
                    | zero => intro v5_42 v7_42 hn; omega
                    | succ n ih141 =>
                      intro v5_42 v7_42 hn m_42
                      obtain ⟨ha1_42, hv2_8_42, hv3_16_42, hv4_24_42, hv5_42, hv6_30_42, hv7_42, e0_42, e1_42, e2_42, e3_42⟩ := m_42
                      have f43 := (show 0 ≤ I22 0 136 ∧ I22 0 136 ≤ 24 from (hI22 0 136).1)
                      have f44 := (show 0 ≤ I22 0 137 ∧ I22 0 137 ≤ 40000 from (hI22 0 137).1)
                      have f45 := (show 0 ≤ I22 0 68 ∧ I22 0 68 ≤ 1000 from (hI22 0 68).1)
                      have f46 := (show 0 ≤ I22 0 1 ∧ I22 0 1 ≤ 8 from (hI22 0 1).1)
                      have f47 := (show 0 ≤ I22 0 2 ∧ I22 0 2 ≤ 32 from (hI22 0 2).1)
                      have L173 : ∀ (v5_48 : Int), ((0 ≤ a1 ∧ a1 ≤ 7) ∧ (1 ≤ v2_8 ∧ v2_8 ≤ 24) ∧ (1 ≤ v3_16 ∧ v3_16 ≤ 4) ∧ (0 ≤ v4_24 ∧ v4_24 ≤ 23) ∧ (0 ≤ v5_48 ∧ v5_48 ≤ 1536) ∧ (0 ≤ v6_30 ∧ v6_30 ≤ 63) ∧ (0 ≤ v7_42 ∧ v7_42 ≤ 23) ∧ (v3_16 ≤ v2_8) ∧ (v5_48 ≤ 24 * v6_30 + v7_42 + 1) ∧ (I22 0 68 = 0) ∧ ((0 ≤ a1 ∧ a1 < I 0 1))) → gv_X (gr_E ws0 tb 6 (yX13_guess, cX13_guess, 8, (some .int)) kX13_guess) (gv_Q cX13_guess (some .int) (gr_sh ++ ext) (fun r h' => (∃ (I' : gr_I) (J' : gr_J), h' = gr_h I' J' ∧ gr_Inv I' ∧ gr_fr [0, 68, 69, 126, 127, 128, 136, 137, 138] [51, 57, 76, 77, 78, 79, 81, 82] I I' ∧ gr_fj [0, 68, 69, 126, 127, 128, 136, 137, 138] [51, 57, 76, 77, 78, 79, 81, 82] J J' ∧ (∃ z : Int, r = some (.inl z) ∧ (-3) ≤ z ∧ z ≤ 24 ∧ ((0 ≤ a1 ∧ a1 < I 0 1) → I' 0 68 = 0) ∧ (¬ (0 ≤ a1 ∧ a1 < I 0 1) → I' 0 68 = I 0 68))))) (173, [(0, .inr (.inr (some 0))), (1, .inl a1), (2, .inl v2_8), (3, .inl v3_16), (4, .inl v4_24), (5, .inl v5_48), (6, .inl v6_30), (7, .inl v7_42)], [], gr_sh ++ ext, gr_h I22 J23) := by
                        intro v5_48 m_48
                        obtain ⟨ha1_48, hv2_8_48, hv3_16_48, hv4_24_48, hv5_48, hv6_30_48, hv7_42_48, e0_48, e1_48, e2_48, e3_48⟩ := m_48
                        have f49 := (show 0 ≤ I22 0 136 ∧ I22 0 136 ≤ 24 from (hI22 0 136).1)
                        have f50 := (show 0 ≤ I22 0 137 ∧ I22 0 137 ≤ 40000 from (hI22 0 137).1)
                        have f51 := (show 0 ≤ I22 0 68 ∧ I22 0 68 ≤ 1000 from (hI22 0 68).1)
                        have f52 := (show 0 ≤ I22 0 1 ∧ I22 0 1 ≤ 8 from (hI22 0 1).1)
                        have f53 := (show 0 ≤ I22 0 2 ∧ I22 0 2 ≤ 32 from (hI22 0 2).1)
                        refine gv_run 2 true hD (pc' := 141) (lv' := [(7, .inl (v7_42 + 1)), (0, .inr (.inr (some 0))), (1, .inl a1), (2, .inl v2_8), (3, .inl v3_16), (4, .inl v4_24), (5, .inl v5_48), (6, .inl v6_30)]) (st' := []) (h' := gr_h I22 J23) (C := ((True ∧ True) ∧ True)) rfl ⟨⟨trivial, trivial⟩, trivial⟩ ?_
                        refine gv_pick [1, 2, 3, 4, 5, 6, 7, 0] rfl ?_
                        exact ih141 v5_48 (v7_42 + 1) (by omega) (by omega)
                      refine gv_run 4 true hD (pc' := 147) (lv' := [(0, .inr (.inr (some 0))), (1, .inl a1), (2, .inl v2_8), (3, .inl v3_16), (4, .inl v4_24), (5, .inl v5_42), (6, .inl v6_30), (7, .inl v7_42)]) (st' := [.inl v6_30, .inl a1, .inr (.inr (some 0)), .inl v7_42]) (h' := gr_h I22 J23) (C := ((((True ∧ True) ∧ True) ∧ True) ∧ True)) rfl ⟨⟨⟨⟨trivial, trivial⟩, trivial⟩, trivial⟩, trivial⟩ ?_
                      obtain ⟨r54, h54, E54, P54⟩ := r_cellsOf (ws0 := ws0) (tb := tb) hws htb ext I22 J23 hI22 a1 v6_30 ⟨by omega, by omega⟩ ⟨by omega, by omega⟩ 
                      obtain ⟨rfl, ⟨z54, rfl, q54⟩⟩ := P54
                      refine gv_callV hD rfl (As := [.inl a1, .inl v6_30]) (st := [.inl v7_42]) rfl (by decide) rfl rfl (gr_lV hws rfl) (Nat.le_of_ble_eq_true rfl) (gz_Ev_mono (d := 1) (by decide) E54) ?_
                      show gv_X _ _ (150, [(0, .inr (.inr (some 0))), (1, .inl a1), (2, .inl v2_8), (3, .inl v3_16), (4, .inl v4_24), (5, .inl v5_42), (6, .inl v6_30), (7, .inl v7_42)], [.inl z54, .inl v7_42], gr_sh ++ ext, gr_h I22 J23)
                      refine gv_icmp_ge (t := 179) hD rfl rfl ⟨⟨by omega, by omega⟩, ⟨by omega, by omega⟩⟩ (fun c55 => ?_) (fun c55 => ?_)
                      · refine gv_pick [0, 1, 2, 3, 4, 5, 6] rfl ?_
                        exact L179 v5_42 (by omega)
                      · refine gv_run 7 true hD (pc' := 163) (lv' := [(0, .inr (.inr (some 0))), (1, .inl a1), (2, .inl v2_8), (3, .inl v3_16), (4, .inl v4_24), (5, .inl v5_42), (6, .inl v6_30), (7, .inl v7_42)]) (st' := [.inl v2_8, .inl ((24 * v6_30) + v7_42), .inr (.inr (some 0))]) (h' := gr_h I22 J23) (C := (((((((True ∧ True) ∧ True) ∧ True) ∧ True) ∧ True) ∧ True) ∧ True)) rfl ⟨⟨⟨⟨⟨⟨⟨trivial, trivial⟩, trivial⟩, trivial⟩, trivial⟩, trivial⟩, trivial⟩, trivial⟩ ?_
                        refine gv_run 1 true hD (pc' := 164) (lv' := [(0, .inr (.inr (some 0))), (1, .inl a1), (2, .inl v2_8), (3, .inl v3_16), (4, .inl v4_24), (5, .inl v5_42), (6, .inl v6_30), (7, .inl v7_42)]) (st' := [.inl v3_16, .inl v2_8, .inl ((24 * v6_30) + v7_42), .inr (.inr (some 0))]) (h' := gr_h I22 J23) (C := (True ∧ True)) rfl ⟨trivial, trivial⟩ ?_
                        obtain ⟨r56, h56, E56, P56⟩ := r_endsSo (ws0 := ws0) (tb := tb) hws htb ext I22 J23 hI22 (((24 * v6_30) + v7_42)) v2_8 v3_16 ⟨by omega, by omega⟩ ⟨by omega, by omega⟩ ⟨by omega, by omega⟩ (by omega)
                        obtain ⟨rfl, ⟨z56, rfl, q56⟩⟩ := P56
                        refine gv_callV hD rfl (As := [.inl ((24 * v6_30) + v7_42), .inl v2_8, .inl v3_16]) (st := []) rfl (by decide) rfl rfl (gr_lV hws rfl) (Nat.le_of_ble_eq_true rfl) (gz_Ev_mono (d := 1) (by decide) E56) ?_
                        show gv_X _ _ (167, [(0, .inr (.inr (some 0))), (1, .inl a1), (2, .inl v2_8), (3, .inl v3_16), (4, .inl v4_24), (5, .inl v5_42), (6, .inl v6_30), (7, .inl v7_42)], [.inl z56], gr_sh ++ ext, gr_h I22 J23)
                        refine gv_if_eq (t := 173) hD rfl rfl ⟨by omega, by omega⟩ (fun c57 => ?_) (fun c57 => ?_)
                        · exact L173 v5_42 (by omega)
                        · refine gv_run 1 true hD (pc' := 173) (lv' := [(5, .inl (v5_42 + 1)), (0, .inr (.inr (some 0))), (1, .inl a1), (2, .inl v2_8), (3, .inl v3_16), (4, .inl v4_24), (6, .inl v6_30), (7, .inl v7_42)]) (st' := []) (h' := gr_h I22 J23) (C := (True ∧ True)) rfl ⟨trivial, trivial⟩ ?_
                          refine gv_pick [1, 2, 3, 4, 5, 0, 6, 7] rfl ?_
                          exact L173 (v5_42 + 1) (by omega)
                  have L233 : ∀ (I58 : gr_I) (J59 : gr_J) , gr_Inv I58 → gr_fr [0, 68, 69, 126, 127, 128, 136, 137, 138] [51, 57, 76, 77, 78, 79, 81, 82] I I58 → gr_fj [0, 68, 69, 126, 127, 128, 136, 137, 138] [51, 57, 76, 77, 78, 79, 81, 82] J J59 → ((0 ≤ a1 ∧ a1 ≤ 7) ∧ (1 ≤ v2_8 ∧ v2_8 ≤ 24) ∧ (1 ≤ v3_16 ∧ v3_16 ≤ 4) ∧ (0 ≤ v4_24 ∧ v4_24 ≤ 23) ∧ (v3_16 ≤ v2_8) ∧ (I58 0 136 ≤ v4_24 + 1) ∧ (I58 0 137 ≤ 1536 * v4_24 + 1536) ∧ (I58 0 68 = 0) ∧ ((0 ≤ a1 ∧ a1 < I 0 1))) → gv_X (gr_E ws0 tb 6 (yX13_guess, cX13_guess, 8, (some .int)) kX13_guess) (gv_Q cX13_guess (some .int) (gr_sh ++ ext) (fun r h' => (∃ (I' : gr_I) (J' : gr_J), h' = gr_h I' J' ∧ gr_Inv I' ∧ gr_fr [0, 68, 69, 126, 127, 128, 136, 137, 138] [51, 57, 76, 77, 78, 79, 81, 82] I I' ∧ gr_fj [0, 68, 69, 126, 127, 128, 136, 137, 138] [51, 57, 76, 77, 78, 79, 81, 82] J J' ∧ (∃ z : Int, r = some (.inl z) ∧ (-3) ≤ z ∧ z ≤ 24 ∧ ((0 ≤ a1 ∧ a1 < I 0 1) → I' 0 68 = 0) ∧ (¬ (0 ≤ a1 ∧ a1 < I 0 1) → I' 0 68 = I 0 68))))) (233, [(0, .inr (.inr (some 0))), (1, .inl a1), (2, .inl v2_8), (3, .inl v3_16), (4, .inl v4_24)], [], gr_sh ++ ext, gr_h I58 J59) := by
                    intro I58 J59 hI58 FI58 FJ59 m_60
                    clear ha1_30 hv2_8_30 hv3_16_30 hv4_24_30 hv5_30 hv6_30 e0_30 e1_30 e2_30 e3_30 f31 f32 f33 f34 f35 ha1_24 hv2_8_24 hv3_16_24 hv4_24 e0_24 e1_24 e2_24 e3_24 e4_24 f25 f26 f27 f28 f29
                    obtain ⟨ha1_60, hv2_8_60, hv3_16_60, hv4_24_60, e0_60, e1_60, e2_60, e3_60, e4_60⟩ := m_60
                    have f61 := (show 0 ≤ I58 0 136 ∧ I58 0 136 ≤ 24 from (hI58 0 136).1)
                    have f62 := (show 0 ≤ I58 0 137 ∧ I58 0 137 ≤ 40000 from (hI58 0 137).1)
                    have f63 := (show 0 ≤ I58 0 68 ∧ I58 0 68 ≤ 1000 from (hI58 0 68).1)
                    have f64 := (show 0 ≤ I58 0 1 ∧ I58 0 1 ≤ 8 from (hI58 0 1).1)
                    have f65 := (show 0 ≤ I58 0 2 ∧ I58 0 2 ≤ 32 from (hI58 0 2).1)
                    refine gv_run 2 true hD (pc' := 90) (lv' := [(4, .inl (v4_24 + 1)), (0, .inr (.inr (some 0))), (1, .inl a1), (2, .inl v2_8), (3, .inl v3_16)]) (st' := []) (h' := gr_h I58 J59) (C := ((True ∧ True) ∧ True)) rfl ⟨⟨trivial, trivial⟩, trivial⟩ ?_
                    refine gv_pick [1, 2, 3, 4, 0] rfl ?_
                    exact ih90 I58 J59 (v4_24 + 1) (by omega) hI58 FI58 FJ59 (by omega)
                  have f66 := (show 0 ≤ I22 18 (Int.toNat a1) ∧ I22 18 (Int.toNat a1) ≤ 64 from (hI22 18 (Int.toNat a1)).1)
                  refine gv_run 5 true hD (pc' := 115) (lv' := [(0, .inr (.inr (some 0))), (1, .inl a1), (2, .inl v2_8), (3, .inl v3_16), (4, .inl v4_24), (5, .inl v5_30), (6, .inl v6_30)]) (st' := [.inl (I22 18 (Int.toNat a1)), .inl v6_30]) (h' := gr_h I22 J23) (C := (((((True ∧ True) ∧ True) ∧ True) ∧ True) ∧ (0 ≤ a1 ∧ a1 < ((8 : Nat) : Int)))) rfl ⟨⟨⟨⟨⟨trivial, trivial⟩, trivial⟩, trivial⟩, trivial⟩, ⟨by omega, by omega⟩⟩ ?_
                  refine gv_icmp_ge (t := 185) hD rfl rfl ⟨⟨by omega, by omega⟩, ⟨by omega, by omega⟩⟩ (fun c67 => ?_) (fun c67 => ?_)
                  · refine gv_run 1 true hD (pc' := 187) (lv' := [(0, .inr (.inr (some 0))), (1, .inl a1), (2, .inl v2_8), (3, .inl v3_16), (4, .inl v4_24), (5, .inl v5_30), (6, .inl v6_30)]) (st' := [.inl v5_30]) (h' := gr_h I22 J23) (C := (True ∧ True)) rfl ⟨trivial, trivial⟩ ?_
                    refine gv_if_ne (t := 193) hD rfl rfl ⟨by omega, by omega⟩ (fun c68 => ?_) (fun c68 => ?_)
                    · have f69 := (show 0 ≤ I22 0 137 ∧ I22 0 137 ≤ 40000 from (hI22 0 137).1)
                      refine gv_run 5 true hD (pc' := 201) (lv' := [(0, .inr (.inr (some 0))), (1, .inl a1), (2, .inl v2_8), (3, .inl v3_16), (4, .inl v4_24), (5, .inl v5_30), (6, .inl v6_30)]) (st' := [.inl ((I22 0 137) + v5_30), .inr (.inr (some 0))]) (h' := gr_h I22 J23) (C := (((((True ∧ True) ∧ True) ∧ True) ∧ True) ∧ True)) rfl ⟨⟨⟨⟨⟨trivial, trivial⟩, trivial⟩, trivial⟩, trivial⟩, trivial⟩ ?_
                      refine gv_run 1 true hD (pc' := 204) (lv' := [(0, .inr (.inr (some 0))), (1, .inl a1), (2, .inl v2_8), (3, .inl v3_16), (4, .inl v4_24), (5, .inl v5_30), (6, .inl v6_30)]) (st' := []) (h' := gz_up (gr_h I22 J23) 0 137 (.inl (((I22 0 137) + v5_30)))) (C := (True ∧ True)) rfl ⟨trivial, trivial⟩ ?_
                      refine gr_st hI22 FI22 rfl rfl ⟨⟨by show 0 ≤ _; omega, by show _ ≤ 40000; omega⟩, trivial⟩ (fun I70 hI70 FI70 q71 p71 => ?_)
                      have t72 := p71 0 136 (by decide)
                      have t73 := p71 0 68 (by decide)
                      have t74 := p71 0 1 (by decide)
                      have t75 := p71 0 2 (by decide)
                      have f76 := (show 0 ≤ I70 0 136 ∧ I70 0 136 ≤ 24 from (hI70 0 136).1)
                      have f77 := (show 0 ≤ I70 0 137 ∧ I70 0 137 ≤ 40000 from (hI70 0 137).1)
                      have f78 := (show 0 ≤ I70 0 68 ∧ I70 0 68 ≤ 1000 from (hI70 0 68).1)
                      have f79 := (show 0 ≤ I70 0 1 ∧ I70 0 1 ≤ 8 from (hI70 0 1).1)
                      have f80 := (show 0 ≤ I70 0 2 ∧ I70 0 2 ≤ 32 from (hI70 0 2).1)
                      have f81 := (show 0 ≤ I70 0 136 ∧ I70 0 136 ≤ 24 from (hI70 0 136).1)
                      refine gv_run 5 true hD (pc' := 214) (lv' := [(0, .inr (.inr (some 0))), (1, .inl a1), (2, .inl v2_8), (3, .inl v3_16), (4, .inl v4_24), (5, .inl v5_30), (6, .inl v6_30)]) (st' := [.inl v4_24, .inl (I70 0 136), .inr (.inr (some 81))]) (h' := gr_h I70 J23) (C := (((((True ∧ True) ∧ True) ∧ True) ∧ True) ∧ True)) rfl ⟨⟨⟨⟨⟨trivial, trivial⟩, trivial⟩, trivial⟩, trivial⟩, trivial⟩ ?_
                      refine gv_run 1 true hD (pc' := 215) (lv' := [(0, .inr (.inr (some 0))), (1, .inl a1), (2, .inl v2_8), (3, .inl v3_16), (4, .inl v4_24), (5, .inl v5_30), (6, .inl v6_30)]) (st' := []) (h' := gz_up (gr_h I70 J23) 81 (Int.toNat ((I70 0 136))) (.inl v4_24)) (C := (True ∧ (0 ≤ (I70 0 136) ∧ (I70 0 136) < ((24 : Nat) : Int)))) rfl ⟨trivial, ⟨by omega, by omega⟩⟩ ?_
                      refine gr_st hI70 FI70 rfl rfl ⟨⟨by show 0 ≤ _; omega, by show _ ≤ 23; omega⟩, trivial⟩ (fun I82 hI82 FI82 q83 p83 => ?_)
                      have t84 := p83 0 136 (fun q => absurd q.1 (by decide))
                      have t85 := p83 0 137 (fun q => absurd q.1 (by decide))
                      have t86 := p83 0 68 (fun q => absurd q.1 (by decide))
                      have t87 := p83 0 1 (fun q => absurd q.1 (by decide))
                      have t88 := p83 0 2 (fun q => absurd q.1 (by decide))
                      have f89 := (show 0 ≤ I82 0 136 ∧ I82 0 136 ≤ 24 from (hI82 0 136).1)
                      have f90 := (show 0 ≤ I82 0 137 ∧ I82 0 137 ≤ 40000 from (hI82 0 137).1)
                      have f91 := (show 0 ≤ I82 0 68 ∧ I82 0 68 ≤ 1000 from (hI82 0 68).1)
                      have f92 := (show 0 ≤ I82 0 1 ∧ I82 0 1 ≤ 8 from (hI82 0 1).1)
                      have f93 := (show 0 ≤ I82 0 2 ∧ I82 0 2 ≤ 32 from (hI82 0 2).1)
                      have f94 := (show 0 ≤ I82 0 136 ∧ I82 0 136 ≤ 24 from (hI82 0 136).1)
                      refine gv_run 7 true hD (pc' := 226) (lv' := [(0, .inr (.inr (some 0))), (1, .inl a1), (2, .inl v2_8), (3, .inl v3_16), (4, .inl v4_24), (5, .inl v5_30), (6, .inl v6_30)]) (st' := [.inl 1, .inl (I82 0 136), .inr (.inr (some 0)), .inl (I82 0 136), .inr (.inr (some 82))]) (h' := gr_h I82 J23) (C := (((((((True ∧ True) ∧ True) ∧ True) ∧ True) ∧ True) ∧ True) ∧ True)) rfl ⟨⟨⟨⟨⟨⟨⟨trivial, trivial⟩, trivial⟩, trivial⟩, trivial⟩, trivial⟩, trivial⟩, trivial⟩ ?_
                      refine gv_run 2 true hD (pc' := 230) (lv' := [(0, .inr (.inr (some 0))), (1, .inl a1), (2, .inl v2_8), (3, .inl v3_16), (4, .inl v4_24), (5, .inl v5_30), (6, .inl v6_30)]) (st' := [.inl (I82 0 136), .inr (.inr (some 82))]) (h' := gz_up (gr_h I82 J23) 0 136 (.inl (((I82 0 136) + 1)))) (C := ((True ∧ True) ∧ True)) rfl ⟨⟨trivial, trivial⟩, trivial⟩ ?_
                      refine gr_st hI82 FI82 rfl rfl ⟨⟨by show 0 ≤ _; omega, by show _ ≤ 24; omega⟩, trivial⟩ (fun I95 hI95 FI95 q96 p96 => ?_)
                      have t97 := p96 0 137 (by decide)
                      have t98 := p96 0 68 (by decide)
                      have t99 := p96 0 1 (by decide)
                      have t100 := p96 0 2 (by decide)
                      have f101 := (show 0 ≤ I95 0 136 ∧ I95 0 136 ≤ 24 from (hI95 0 136).1)
                      have f102 := (show 0 ≤ I95 0 137 ∧ I95 0 137 ≤ 40000 from (hI95 0 137).1)
                      have f103 := (show 0 ≤ I95 0 68 ∧ I95 0 68 ≤ 1000 from (hI95 0 68).1)
                      have f104 := (show 0 ≤ I95 0 1 ∧ I95 0 1 ≤ 8 from (hI95 0 1).1)
                      have f105 := (show 0 ≤ I95 0 2 ∧ I95 0 2 ≤ 32 from (hI95 0 2).1)
                      refine gv_run 2 true hD (pc' := 233) (lv' := [(0, .inr (.inr (some 0))), (1, .inl a1), (2, .inl v2_8), (3, .inl v3_16), (4, .inl v4_24), (5, .inl v5_30), (6, .inl v6_30)]) (st' := []) (h' := gz_up (gr_h I95 J23) 82 (Int.toNat ((I82 0 136))) (.inl v5_30)) (C := ((True ∧ True) ∧ (0 ≤ (I82 0 136) ∧ (I82 0 136) < ((24 : Nat) : Int)))) rfl ⟨⟨trivial, trivial⟩, ⟨by omega, by omega⟩⟩ ?_
                      refine gr_st hI95 FI95 rfl rfl ⟨⟨by show 0 ≤ _; omega, by show _ ≤ 1536; omega⟩, trivial⟩ (fun I106 hI106 FI106 q107 p107 => ?_)
                      have t108 := p107 0 136 (fun q => absurd q.1 (by decide))
                      have t109 := p107 0 137 (fun q => absurd q.1 (by decide))
                      have t110 := p107 0 68 (fun q => absurd q.1 (by decide))
                      have t111 := p107 0 1 (fun q => absurd q.1 (by decide))
                      have t112 := p107 0 2 (fun q => absurd q.1 (by decide))
                      have f113 := (show 0 ≤ I106 0 136 ∧ I106 0 136 ≤ 24 from (hI106 0 136).1)
                      have f114 := (show 0 ≤ I106 0 137 ∧ I106 0 137 ≤ 40000 from (hI106 0 137).1)
                      have f115 := (show 0 ≤ I106 0 68 ∧ I106 0 68 ≤ 1000 from (hI106 0 68).1)
                      have f116 := (show 0 ≤ I106 0 1 ∧ I106 0 1 ≤ 8 from (hI106 0 1).1)
                      have f117 := (show 0 ≤ I106 0 2 ∧ I106 0 2 ≤ 32 from (hI106 0 2).1)
                      refine gv_pick [0, 1, 2, 3, 4] rfl ?_
                      exact L233 I106 J23 hI106 FI106 FJ23 (by omega)
                    · refine gv_run 1 true hD (pc' := 233) (lv' := [(0, .inr (.inr (some 0))), (1, .inl a1), (2, .inl v2_8), (3, .inl v3_16), (4, .inl v4_24), (5, .inl v5_30), (6, .inl v6_30)]) (st' := []) (h' := gr_h I22 J23) (C := (True ∧ True)) rfl ⟨trivial, trivial⟩ ?_
                      refine gv_pick [0, 1, 2, 3, 4] rfl ?_
                      exact L233 I22 J23 hI22 FI22 FJ23 (by omega)
                  · refine gv_run 7 true hD (pc' := 129) (lv' := [(0, .inr (.inr (some 0))), (1, .inl a1), (2, .inl v2_8), (3, .inl v3_16), (4, .inl v4_24), (5, .inl v5_30), (6, .inl v6_30)]) (st' := [.inl ((64 * a1) + v6_30), .inr (.inr (some 37))]) (h' := gr_h I22 J23) (C := (((((((True ∧ True) ∧ True) ∧ True) ∧ True) ∧ True) ∧ True) ∧ True)) rfl ⟨⟨⟨⟨⟨⟨⟨trivial, trivial⟩, trivial⟩, trivial⟩, trivial⟩, trivial⟩, trivial⟩, trivial⟩ ?_
                    have f118 := (show 0 ≤ I22 37 (Int.toNat (((64 * a1) + v6_30))) ∧ I22 37 (Int.toNat (((64 * a1) + v6_30))) ≤ 23 from (hI22 37 (Int.toNat (((64 * a1) + v6_30)))).1)
                    refine gv_run 1 true hD (pc' := 130) (lv' := [(0, .inr (.inr (some 0))), (1, .inl a1), (2, .inl v2_8), (3, .inl v3_16), (4, .inl v4_24), (5, .inl v5_30), (6, .inl v6_30)]) (st' := [.inl (I22 37 (Int.toNat (((64 * a1) + v6_30))))]) (h' := gr_h I22 J23) (C := (True ∧ (0 ≤ (((64 * a1) + v6_30)) ∧ (((64 * a1) + v6_30)) < ((512 : Nat) : Int)))) rfl ⟨trivial, ⟨by omega, by omega⟩⟩ ?_
                    refine gv_run 1 true hD (pc' := 132) (lv' := [(0, .inr (.inr (some 0))), (1, .inl a1), (2, .inl v2_8), (3, .inl v3_16), (4, .inl v4_24), (5, .inl v5_30), (6, .inl v6_30)]) (st' := [.inl v4_24, .inl (I22 37 (Int.toNat (((64 * a1) + v6_30))))]) (h' := gr_h I22 J23) (C := (True ∧ True)) rfl ⟨trivial, trivial⟩ ?_
                    refine gv_icmp_eq (t := 138) hD rfl rfl ⟨⟨by omega, by omega⟩, ⟨by omega, by omega⟩⟩ (fun c119 => ?_) (fun c119 => ?_)
                    · refine gv_run 2 true hD (pc' := 141) (lv' := [(7, .inl 0), (0, .inr (.inr (some 0))), (1, .inl a1), (2, .inl v2_8), (3, .inl v3_16), (4, .inl v4_24), (5, .inl v5_30), (6, .inl v6_30)]) (st' := []) (h' := gr_h I22 J23) (C := ((True ∧ True) ∧ True)) rfl ⟨⟨trivial, trivial⟩, trivial⟩ ?_
                      refine gv_pick [1, 2, 3, 4, 5, 6, 7, 0] rfl ?_
                      exact L141 _ v5_30 0 (Nat.lt_succ_self _) (by omega)
                    · refine gv_run 1 true hD (pc' := 179) (lv' := [(0, .inr (.inr (some 0))), (1, .inl a1), (2, .inl v2_8), (3, .inl v3_16), (4, .inl v4_24), (5, .inl v5_30), (6, .inl v6_30)]) (st' := []) (h' := gr_h I22 J23) (C := (True ∧ True)) rfl ⟨trivial, trivial⟩ ?_
                      exact L179 v5_30 (by omega)
              have f120 := (show 0 ≤ I22 17 (Int.toNat a1) ∧ I22 17 (Int.toNat a1) ≤ 24 from (hI22 17 (Int.toNat a1)).1)
              refine gv_run 5 true hD (pc' := 98) (lv' := [(0, .inr (.inr (some 0))), (1, .inl a1), (2, .inl v2_8), (3, .inl v3_16), (4, .inl v4_24)]) (st' := [.inl (I22 17 (Int.toNat a1)), .inl v4_24]) (h' := gr_h I22 J23) (C := (((((True ∧ True) ∧ True) ∧ True) ∧ True) ∧ (0 ≤ a1 ∧ a1 < ((8 : Nat) : Int)))) rfl ⟨⟨⟨⟨⟨trivial, trivial⟩, trivial⟩, trivial⟩, trivial⟩, ⟨by omega, by omega⟩⟩ ?_
              refine gv_icmp_ge (t := 239) hD rfl rfl ⟨⟨by omega, by omega⟩, ⟨by omega, by omega⟩⟩ (fun c121 => ?_) (fun c121 => ?_)
              · refine gv_run 2 true hD (pc' := 66) (lv' := [(3, .inl (v3_16 + (-1))), (0, .inr (.inr (some 0))), (1, .inl a1), (2, .inl v2_8), (4, .inl v4_24)]) (st' := []) (h' := gr_h I22 J23) (C := ((True ∧ True) ∧ True)) rfl ⟨⟨trivial, trivial⟩, trivial⟩ ?_
                refine gv_pick [1, 2, 3, 0] rfl ?_
                exact ih66 I22 J23 ((v3_16 + (-1))) (by omega) hI22 FI22 FJ23 (by omega)
              · refine gv_run 4 true hD (pc' := 107) (lv' := [(6, .inl 0), (5, .inl 0), (0, .inr (.inr (some 0))), (1, .inl a1), (2, .inl v2_8), (3, .inl v3_16), (4, .inl v4_24)]) (st' := []) (h' := gr_h I22 J23) (C := ((((True ∧ True) ∧ True) ∧ True) ∧ True)) rfl ⟨⟨⟨⟨trivial, trivial⟩, trivial⟩, trivial⟩, trivial⟩ ?_
                refine gv_pick [2, 3, 4, 5, 6, 1, 0] rfl ?_
                exact L107 _ 0 0 (Nat.lt_succ_self _) (by omega)
          have L245 : ((I14 0 68 = 0) ∧ ((0 ≤ a1 ∧ a1 < I 0 1))) → gv_X (gr_E ws0 tb 6 (yX13_guess, cX13_guess, 8, (some .int)) kX13_guess) (gv_Q cX13_guess (some .int) (gr_sh ++ ext) (fun r h' => (∃ (I' : gr_I) (J' : gr_J), h' = gr_h I' J' ∧ gr_Inv I' ∧ gr_fr [0, 68, 69, 126, 127, 128, 136, 137, 138] [51, 57, 76, 77, 78, 79, 81, 82] I I' ∧ gr_fj [0, 68, 69, 126, 127, 128, 136, 137, 138] [51, 57, 76, 77, 78, 79, 81, 82] J J' ∧ (∃ z : Int, r = some (.inl z) ∧ (-3) ≤ z ∧ z ≤ 24 ∧ ((0 ≤ a1 ∧ a1 < I 0 1) → I' 0 68 = 0) ∧ (¬ (0 ≤ a1 ∧ a1 < I 0 1) → I' 0 68 = I 0 68))))) (245, [(0, .inr (.inr (some 0)))], [], gr_sh ++ ext, gr_h I14 J15) := by
            intro m_122
            obtain ⟨e0_122, e1_122⟩ := m_122
            have f123 := (show 0 ≤ I14 0 136 ∧ I14 0 136 ≤ 24 from (hI14 0 136).1)
            have f124 := (show 0 ≤ I14 0 137 ∧ I14 0 137 ≤ 40000 from (hI14 0 137).1)
            have f125 := (show 0 ≤ I14 0 68 ∧ I14 0 68 ≤ 1000 from (hI14 0 68).1)
            have f126 := (show 0 ≤ I14 0 1 ∧ I14 0 1 ≤ 8 from (hI14 0 1).1)
            have f127 := (show 0 ≤ I14 0 2 ∧ I14 0 2 ≤ 32 from (hI14 0 2).1)
            have f128 := (show 0 ≤ I14 0 136 ∧ I14 0 136 ≤ 24 from (hI14 0 136).1)
            refine gv_run 2 true hD (pc' := 249) (lv' := [(0, .inr (.inr (some 0)))]) (st' := [.inl (I14 0 136)]) (h' := gr_h I14 J15) (C := ((True ∧ True) ∧ True)) rfl ⟨⟨trivial, trivial⟩, trivial⟩ ?_
            exact gv_iret hD rfl ⟨I14, J15, rfl, hI14, FI14, FJ15, ⟨_, rfl, by omega⟩⟩
          refine gv_run 1 true hD (pc' := 67) (lv' := [(0, .inr (.inr (some 0))), (1, .inl a1), (2, .inl v2_8), (3, .inl v3_16)]) (st' := [.inl v3_16]) (h' := gr_h I14 J15) (C := (True ∧ True)) rfl ⟨trivial, trivial⟩ ?_
          refine gv_if_le (t := 245) hD rfl rfl ⟨by omega, by omega⟩ (fun c129 => ?_) (fun c129 => ?_)
          · refine gv_pick [0] rfl ?_
            exact L245 (by omega)
          · have f130 := (show 0 ≤ I14 0 136 ∧ I14 0 136 ≤ 24 from (hI14 0 136).1)
            refine gv_run 2 true hD (pc' := 74) (lv' := [(0, .inr (.inr (some 0))), (1, .inl a1), (2, .inl v2_8), (3, .inl v3_16)]) (st' := [.inl (I14 0 136)]) (h' := gr_h I14 J15) (C := ((True ∧ True) ∧ True)) rfl ⟨⟨trivial, trivial⟩, trivial⟩ ?_
            refine gv_if_ne (t := 245) hD rfl rfl ⟨by omega, by omega⟩ (fun c131 => ?_) (fun c131 => ?_)
            · refine gv_pick [0] rfl ?_
              exact L245 (by omega)
            · refine gv_run 3 true hD (pc' := 82) (lv' := [(0, .inr (.inr (some 0))), (1, .inl a1), (2, .inl v2_8), (3, .inl v3_16)]) (st' := []) (h' := gz_up (gr_h I14 J15) 0 137 (.inl 0)) (C := (((True ∧ True) ∧ True) ∧ True)) rfl ⟨⟨⟨trivial, trivial⟩, trivial⟩, trivial⟩ ?_
              refine gr_st hI14 FI14 rfl rfl ⟨⟨by show 0 ≤ _; omega, by show _ ≤ 40000; omega⟩, trivial⟩ (fun I132 hI132 FI132 q133 p133 => ?_)
              have t134 := p133 0 136 (by decide)
              have t135 := p133 0 68 (by decide)
              have t136 := p133 0 1 (by decide)
              have t137 := p133 0 2 (by decide)
              have f138 := (show 0 ≤ I132 0 136 ∧ I132 0 136 ≤ 24 from (hI132 0 136).1)
              have f139 := (show 0 ≤ I132 0 137 ∧ I132 0 137 ≤ 40000 from (hI132 0 137).1)
              have f140 := (show 0 ≤ I132 0 68 ∧ I132 0 68 ≤ 1000 from (hI132 0 68).1)
              have f141 := (show 0 ≤ I132 0 1 ∧ I132 0 1 ≤ 8 from (hI132 0 1).1)
              have f142 := (show 0 ≤ I132 0 2 ∧ I132 0 2 ≤ 32 from (hI132 0 2).1)
              refine gv_run 3 true hD (pc' := 87) (lv' := [(0, .inr (.inr (some 0))), (1, .inl a1), (2, .inl v2_8), (3, .inl v3_16)]) (st' := []) (h' := gz_up (gr_h I132 J15) 0 138 (.inl v3_16)) (C := (((True ∧ True) ∧ True) ∧ True)) rfl ⟨⟨⟨trivial, trivial⟩, trivial⟩, trivial⟩ ?_
              refine gr_st hI132 FI132 rfl rfl ⟨⟨by show 0 ≤ _; omega, by show _ ≤ 4; omega⟩, trivial⟩ (fun I143 hI143 FI143 q144 p144 => ?_)
              have t145 := p144 0 136 (by decide)
              have t146 := p144 0 137 (by decide)
              have t147 := p144 0 68 (by decide)
              have t148 := p144 0 1 (by decide)
              have t149 := p144 0 2 (by decide)
              have f150 := (show 0 ≤ I143 0 136 ∧ I143 0 136 ≤ 24 from (hI143 0 136).1)
              have f151 := (show 0 ≤ I143 0 137 ∧ I143 0 137 ≤ 40000 from (hI143 0 137).1)
              have f152 := (show 0 ≤ I143 0 68 ∧ I143 0 68 ≤ 1000 from (hI143 0 68).1)
              have f153 := (show 0 ≤ I143 0 1 ∧ I143 0 1 ≤ 8 from (hI143 0 1).1)
              have f154 := (show 0 ≤ I143 0 2 ∧ I143 0 2 ≤ 32 from (hI143 0 2).1)
              refine gv_run 2 true hD (pc' := 90) (lv' := [(4, .inl 0), (0, .inr (.inr (some 0))), (1, .inl a1), (2, .inl v2_8), (3, .inl v3_16)]) (st' := []) (h' := gr_h I143 J15) (C := ((True ∧ True) ∧ True)) rfl ⟨⟨trivial, trivial⟩, trivial⟩ ?_
              refine gv_pick [1, 2, 3, 4, 0] rfl ?_
              exact L90 _ I143 J15 0 (Nat.lt_succ_self _) hI143 FI143 FJ15 (by omega)
      refine gv_run 2 true hD (pc' := 34) (lv' := [(0, .inr (.inr (some 0))), (1, .inl a1), (2, .inl v2_8), (3, .inl v3_8)]) (st' := [.inl v2_8, .inl v3_8]) (h' := gr_h I6 J7) (C := ((True ∧ True) ∧ True)) rfl ⟨⟨trivial, trivial⟩, trivial⟩ ?_
      refine gv_icmp_ge (t := 55) hD rfl rfl ⟨⟨by omega, by omega⟩, ⟨by omega, by omega⟩⟩ (fun c155 => ?_) (fun c155 => ?_)
      · refine gv_run 2 true hD (pc' := 57) (lv' := [(0, .inr (.inr (some 0))), (1, .inl a1), (2, .inl v2_8), (3, .inl v3_8)]) (st' := [.inl a1, .inr (.inr (some 0))]) (h' := gr_h I6 J7) (C := ((True ∧ True) ∧ True)) rfl ⟨⟨trivial, trivial⟩, trivial⟩ ?_
        obtain ⟨r156, h156, E156, P156⟩ := r_forms_w (ws0 := ws0) (tb := tb) hws htb ext I6 J7 hI6 a1 ⟨by omega, by omega⟩ 
        obtain ⟨I157, J158, rfl, hI157, g156, k156, rfl⟩ := P156
        have FI157 := gr_frt FI6 g156 rfl rfl
        have FJ158 := gr_fjt FJ7 k156 rfl rfl
        have t159 := g156 0 136 rfl
        have t160 := g156 0 137 rfl
        have t161 := g156 0 68 rfl
        have t162 := g156 0 1 rfl
        have t163 := g156 0 2 rfl
        have f164 := (show 0 ≤ I157 0 136 ∧ I157 0 136 ≤ 24 from (hI157 0 136).1)
        have f165 := (show 0 ≤ I157 0 137 ∧ I157 0 137 ≤ 40000 from (hI157 0 137).1)
        have f166 := (show 0 ≤ I157 0 68 ∧ I157 0 68 ≤ 1000 from (hI157 0 68).1)
        have f167 := (show 0 ≤ I157 0 1 ∧ I157 0 1 ≤ 8 from (hI157 0 1).1)
        have f168 := (show 0 ≤ I157 0 2 ∧ I157 0 2 ≤ 32 from (hI157 0 2).1)
        refine gv_callV hD rfl (As := [.inl a1]) (st := []) rfl (by decide) rfl rfl (gr_lV hws rfl) (Nat.le_of_ble_eq_true rfl) (gz_Ev_mono (d := 6) (by decide) E156) ?_
        show gv_X _ _ (60, [(0, .inr (.inr (some 0))), (1, .inl a1), (2, .inl v2_8), (3, .inl v3_8)], [], gr_sh ++ ext, gr_h I157 J158)
        refine gv_run 2 true hD (pc' := 62) (lv' := [(0, .inr (.inr (some 0))), (1, .inl a1), (2, .inl v2_8), (3, .inl v3_8)]) (st' := [.inl v2_8, .inl 4]) (h' := gr_h I157 J158) (C := ((True ∧ True) ∧ True)) rfl ⟨⟨trivial, trivial⟩, trivial⟩ ?_
        obtain ⟨z169, E169, q169⟩ := gj_min (ws0 := ws0) (tb := tb) (sh := gr_sh ++ ext) (h := gr_h I157 J158) 4 v2_8 ⟨by omega, by omega⟩ ⟨by omega, by omega⟩
        refine gv_callS hD rfl (As := [.inl 4, .inl v2_8]) (st := []) rfl (gr_lMi hws) (Nat.le_of_ble_eq_true rfl) (gz_Ev_mono (d := 1) (by decide) E169) ?_
        show gv_X _ _ (65, [(0, .inr (.inr (some 0))), (1, .inl a1), (2, .inl v2_8), (3, .inl v3_8)], [.inl z169], gr_sh ++ ext, gr_h I157 J158)
        refine gv_run 1 true hD (pc' := 66) (lv' := [(3, .inl z169), (0, .inr (.inr (some 0))), (1, .inl a1), (2, .inl v2_8)]) (st' := []) (h' := gr_h I157 J158) (C := (True ∧ True)) rfl ⟨trivial, trivial⟩ ?_
        refine gv_pick [1, 2, 3, 0] rfl ?_
        exact L66 _ I157 J158 z169 (Nat.lt_succ_self _) hI157 FI157 FJ158 (by omega)
      · have f170 := (show (-128) ≤ I6 76 (Int.toNat v3_8) ∧ I6 76 (Int.toNat v3_8) ≤ 127 from (hI6 76 (Int.toNat v3_8)).1)
        refine gv_run 7 true hD (pc' := 48) (lv' := [(0, .inr (.inr (some 0))), (1, .inl a1), (2, .inl v2_8), (3, .inl v3_8)]) (st' := [.inl (I6 76 (Int.toNat v3_8)), .inl v3_8, .inr (.inr (some 57))]) (h' := gr_h I6 J7) (C := (((((((True ∧ True) ∧ True) ∧ True) ∧ True) ∧ True) ∧ True) ∧ (0 ≤ v3_8 ∧ v3_8 < ((64 : Nat) : Int)))) rfl ⟨⟨⟨⟨⟨⟨⟨trivial, trivial⟩, trivial⟩, trivial⟩, trivial⟩, trivial⟩, trivial⟩, ⟨by omega, by omega⟩⟩ ?_
        have f171 := gw_nar_byte (x := ((I6 76 (Int.toNat v3_8))))
        refine gv_run 1 true hD (pc' := 49) (lv' := [(0, .inr (.inr (some 0))), (1, .inl a1), (2, .inl v2_8), (3, .inl v3_8)]) (st' := []) (h' := gz_up (gr_h I6 J7) 57 (Int.toNat v3_8) (.inl (((vp_nar .byte (Int32.ofInt ((I6 76 (Int.toNat v3_8))))).toInt)))) (C := (True ∧ (0 ≤ v3_8 ∧ v3_8 < ((1000 : Nat) : Int)))) rfl ⟨trivial, ⟨by omega, by omega⟩⟩ ?_
        refine gr_st hI6 FI6 rfl rfl ⟨⟨by show (-128) ≤ _; omega, by show _ ≤ 127; omega⟩, trivial⟩ (fun I172 hI172 FI172 q173 p173 => ?_)
        have t174 := p173 0 136 (fun q => absurd q.1 (by decide))
        have t175 := p173 0 137 (fun q => absurd q.1 (by decide))
        have t176 := p173 0 68 (fun q => absurd q.1 (by decide))
        have t177 := p173 0 1 (fun q => absurd q.1 (by decide))
        have t178 := p173 0 2 (fun q => absurd q.1 (by decide))
        have f179 := (show 0 ≤ I172 0 136 ∧ I172 0 136 ≤ 24 from (hI172 0 136).1)
        have f180 := (show 0 ≤ I172 0 137 ∧ I172 0 137 ≤ 40000 from (hI172 0 137).1)
        have f181 := (show 0 ≤ I172 0 68 ∧ I172 0 68 ≤ 1000 from (hI172 0 68).1)
        have f182 := (show 0 ≤ I172 0 1 ∧ I172 0 1 ≤ 8 from (hI172 0 1).1)
        have f183 := (show 0 ≤ I172 0 2 ∧ I172 0 2 ≤ 32 from (hI172 0 2).1)
        refine gv_run 2 true hD (pc' := 32) (lv' := [(3, .inl (v3_8 + 1)), (0, .inr (.inr (some 0))), (1, .inl a1), (2, .inl v2_8)]) (st' := []) (h' := gr_h I172 J7) (C := ((True ∧ True) ∧ True)) rfl ⟨⟨trivial, trivial⟩, trivial⟩ ?_
        refine gv_pick [1, 2, 3, 0] rfl ?_
        exact ih32 I172 J7 v2_8 (v3_8 + 1) (by omega) hI172 FI172 FJ7 (by omega)
  refine gv_run 2 true hD (pc' := 2) (lv' := [(0, .inr (.inr (some 0))), (1, .inl a1)]) (st' := [.inl a1, .inr (.inr (some 0))]) (h' := gr_h I J) (C := ((True ∧ True) ∧ True)) rfl ⟨⟨trivial, trivial⟩, trivial⟩ ?_
  obtain ⟨r184, h184, E184, P184⟩ := r_noTongue_t (ws0 := ws0) (tb := tb) hws htb ext I J hI a1 ⟨by omega, by omega⟩ 
  obtain ⟨I185, J186, rfl, hI185, g184, k184, ⟨z184, rfl, q184⟩⟩ := P184
  have FI185 := gr_frt FI g184 rfl rfl
  have FJ186 := gr_fjt FJ k184 rfl rfl
  have t187 := g184 0 136 rfl
  have t188 := g184 0 137 rfl
  have t189 := g184 0 68 rfl
  have t190 := g184 0 1 rfl
  have t191 := g184 0 2 rfl
  have f192 := (show 0 ≤ I185 0 136 ∧ I185 0 136 ≤ 24 from (hI185 0 136).1)
  have f193 := (show 0 ≤ I185 0 137 ∧ I185 0 137 ≤ 40000 from (hI185 0 137).1)
  have f194 := (show 0 ≤ I185 0 68 ∧ I185 0 68 ≤ 1000 from (hI185 0 68).1)
  have f195 := (show 0 ≤ I185 0 1 ∧ I185 0 1 ≤ 8 from (hI185 0 1).1)
  have f196 := (show 0 ≤ I185 0 2 ∧ I185 0 2 ≤ 32 from (hI185 0 2).1)
  refine gv_callV hD rfl (As := [.inl a1]) (st := []) rfl (by decide) rfl rfl (gr_lV hws rfl) (Nat.le_of_ble_eq_true rfl) (gz_Ev_mono (d := 1) (by decide) E184) ?_
  show gv_X _ _ (5, [(0, .inr (.inr (some 0))), (1, .inl a1)], [.inl z184], gr_sh ++ ext, gr_h I185 J186)
  refine gv_if_eq (t := 10) hD rfl rfl ⟨by omega, by omega⟩ (fun c197 => ?_) (fun c197 => ?_)
  · refine gv_run 3 true hD (pc' := 15) (lv' := [(0, .inr (.inr (some 0))), (1, .inl a1)]) (st' := []) (h' := gz_up (gr_h I185 J186) 0 136 (.inl 0)) (C := (((True ∧ True) ∧ True) ∧ True)) rfl ⟨⟨⟨trivial, trivial⟩, trivial⟩, trivial⟩ ?_
    refine gr_st hI185 FI185 rfl rfl ⟨⟨by show 0 ≤ _; omega, by show _ ≤ 24; omega⟩, trivial⟩ (fun I198 hI198 FI198 q199 p199 => ?_)
    have t200 := p199 0 137 (by decide)
    have t201 := p199 0 68 (by decide)
    have t202 := p199 0 1 (by decide)
    have t203 := p199 0 2 (by decide)
    have f204 := (show 0 ≤ I198 0 136 ∧ I198 0 136 ≤ 24 from (hI198 0 136).1)
    have f205 := (show 0 ≤ I198 0 137 ∧ I198 0 137 ≤ 40000 from (hI198 0 137).1)
    have f206 := (show 0 ≤ I198 0 68 ∧ I198 0 68 ≤ 1000 from (hI198 0 68).1)
    have f207 := (show 0 ≤ I198 0 1 ∧ I198 0 1 ≤ 8 from (hI198 0 1).1)
    have f208 := (show 0 ≤ I198 0 2 ∧ I198 0 2 ≤ 32 from (hI198 0 2).1)
    refine gv_run 1 true hD (pc' := 16) (lv' := [(0, .inr (.inr (some 0))), (1, .inl a1)]) (st' := [.inr (.inr (some 0))]) (h' := gr_h I198 J186) (C := (True ∧ True)) rfl ⟨trivial, trivial⟩ ?_
    obtain ⟨r209, h209, E209, P209⟩ := r_oneWord_t (ws0 := ws0) (tb := tb) hws htb ext I198 J186 hI198   
    obtain ⟨I210, J211, rfl, hI210, g209, k209, ⟨z209, rfl, q209⟩⟩ := P209
    have FI210 := gr_frt FI198 g209 rfl rfl
    have FJ211 := gr_fjt FJ186 k209 rfl rfl
    have t212 := g209 0 136 rfl
    have t213 := g209 0 137 rfl
    have t214 := g209 0 1 rfl
    have t215 := g209 0 2 rfl
    have f216 := (show 0 ≤ I210 0 136 ∧ I210 0 136 ≤ 24 from (hI210 0 136).1)
    have f217 := (show 0 ≤ I210 0 137 ∧ I210 0 137 ≤ 40000 from (hI210 0 137).1)
    have f218 := (show 0 ≤ I210 0 68 ∧ I210 0 68 ≤ 1000 from (hI210 0 68).1)
    have f219 := (show 0 ≤ I210 0 1 ∧ I210 0 1 ≤ 8 from (hI210 0 1).1)
    have f220 := (show 0 ≤ I210 0 2 ∧ I210 0 2 ≤ 32 from (hI210 0 2).1)
    refine gv_callV hD rfl (As := []) (st := []) rfl (by decide) rfl rfl (gr_lV hws rfl) (Nat.le_of_ble_eq_true rfl) (gz_Ev_mono (d := 2) (by decide) E209) ?_
    show gv_X _ _ (19, [(0, .inr (.inr (some 0))), (1, .inl a1)], [.inl z209], gr_sh ++ ext, gr_h I210 J211)
    refine gv_if_ne (t := 25) hD rfl rfl ⟨by omega, by omega⟩ (fun c221 => ?_) (fun c221 => ?_)
    · have f222 := (show 0 ≤ I210 0 126 ∧ I210 0 126 ≤ 24 from (hI210 0 126).1)
      refine gv_run 5 true hD (pc' := 32) (lv' := [(3, .inl 0), (2, .inl (I210 0 126)), (0, .inr (.inr (some 0))), (1, .inl a1)]) (st' := []) (h' := gr_h I210 J211) (C := (((((True ∧ True) ∧ True) ∧ True) ∧ True) ∧ True)) rfl ⟨⟨⟨⟨⟨trivial, trivial⟩, trivial⟩, trivial⟩, trivial⟩, trivial⟩ ?_
      refine gv_pick [2, 3, 1, 0] rfl ?_
      exact L32 _ I210 J211 (I210 0 126) 0 (Nat.lt_succ_self _) hI210 FI210 FJ211 (by omega)
    · refine gv_run 1 true hD (pc' := 24) (lv' := [(0, .inr (.inr (some 0))), (1, .inl a1)]) (st' := [.inl (-3)]) (h' := gr_h I210 J211) (C := (True ∧ True)) rfl ⟨trivial, trivial⟩ ?_
      exact gv_iret hD rfl ⟨I210, J211, rfl, hI210, FI210, FJ211, ⟨_, rfl, by omega⟩⟩
  · refine gv_run 1 true hD (pc' := 9) (lv' := [(0, .inr (.inr (some 0))), (1, .inl a1)]) (st' := [.inl 0]) (h' := gr_h I185 J186) (C := (True ∧ True)) rfl ⟨trivial, trivial⟩ ?_
    exact gv_iret hD rfl ⟨I185, J186, rfl, hI185, FI185, FJ186, ⟨_, rfl, by omega⟩⟩
set_option maxHeartbeats 4000000 in
set_option maxRecDepth 100000 in
theorem r_number_t {ws0 : List Cond} {tb : String → gz_T} (hws : ∀ w ∈ gr_ws, w ∈ ws0) (htb : tb RX13 = gr_T) (ext : gz_Sh) (I : gr_I) (J : gr_J) (hI : gr_Inv I) (a1 : Int) (a2 : Int) (ha1 : (-2147483648) ≤ a1 ∧ a1 ≤ 2147483647) (ha2 : (-2147483648) ≤ a2 ∧ a2 ≤ 2147483647)  : ∃ r h', gz_Ev ws0 tb 11 (yX13_number, cX13_number, 5, (some .int)) [.inr (.inr (some 0)), .inl a1, .inl a2] (gr_sh ++ ext) (gr_h I J) r (gr_sh ++ ext) h' 0 0 ∧ (∃ (I' : gr_I) (J' : gr_J), h' = gr_h I' J' ∧ gr_Inv I' ∧ gr_fr [0, 68, 69, 71, 72, 73, 74, 75] [57] I I' ∧ gr_fj [0, 68, 69, 71, 72, 73, 74, 75] [57] J J' ∧ (∃ z : Int, r = some (.inl z) ∧ (-1) ≤ z ∧ z ≤ 383 ∧ (((0 ≤ a2 ∧ a2 ≤ 5) ∧ (a2 ≤ 2 ∨ (0 ≤ a1 ∧ a1 < I 0 1))) → I' 0 68 = 0) ∧ (¬ ((0 ≤ a2 ∧ a2 ≤ 5) ∧ (a2 ≤ 2 ∨ (0 ≤ a1 ∧ a1 < I 0 1))) → I' 0 68 = I 0 68))) := by
  have FI : gr_fr [0, 68, 69, 71, 72, 73, 74, 75] [57] I I := fun _ _ _ => rfl
  have FJ : gr_fj [0, 68, 69, 71, 72, 73, 74, 75] [57] J J := fun _ _ _ => rfl
  have hD : gv_D (gr_E ws0 tb 10 (yX13_number, cX13_number, 5, (some .int)) kX13_number) := gq_ok oX13_number
  refine gr_ev (d := 10) (l := kX13_number) (Po := fun r h' => (∃ (I' : gr_I) (J' : gr_J), h' = gr_h I' J' ∧ gr_Inv I' ∧ gr_fr [0, 68, 69, 71, 72, 73, 74, 75] [57] I I' ∧ gr_fj [0, 68, 69, 71, 72, 73, 74, 75] [57] J J' ∧ (∃ z : Int, r = some (.inl z) ∧ (-1) ≤ z ∧ z ≤ 383 ∧ (((0 ≤ a2 ∧ a2 ≤ 5) ∧ (a2 ≤ 2 ∨ (0 ≤ a1 ∧ a1 < I 0 1))) → I' 0 68 = 0) ∧ (¬ ((0 ≤ a2 ∧ a2 ≤ 5) ∧ (a2 ≤ 2 ∨ (0 ≤ a1 ∧ a1 < I 0 1))) → I' 0 68 = I 0 68)))) htb rfl (Nat.le_of_ble_eq_true rfl) ?_
  have f1 := (show 0 ≤ I 0 71 ∧ I 0 71 ≤ 5 from (hI 0 71).1)
  have f2 := (show 0 ≤ I 0 72 ∧ I 0 72 ≤ 1000 from (hI 0 72).1)
  have f3 := (show 0 ≤ I 0 73 ∧ I 0 73 ≤ 1001 from (hI 0 73).1)
  have f4 := (show 0 ≤ I 0 69 ∧ I 0 69 ≤ 1000 from (hI 0 69).1)
  have f5 := (show 0 ≤ I 0 1 ∧ I 0 1 ≤ 8 from (hI 0 1).1)
  have f6 := (show 0 ≤ I 0 68 ∧ I 0 68 ≤ 1000 from (hI 0 68).1)
  have f7 := (show 0 ≤ I 0 2 ∧ I 0 2 ≤ 32 from (hI 0 2).1)
  have L31 : ∀ (I8 : gr_I) (J9 : gr_J) , gr_Inv I8 → gr_fr [0, 68, 69, 71, 72, 73, 74, 75] [57] I I8 → gr_fj [0, 68, 69, 71, 72, 73, 74, 75] [57] J J9 → ((I8 0 68 = I 0 68) ∧ (¬ ((0 ≤ a2 ∧ a2 ≤ 5) ∧ (a2 ≤ 2 ∨ (0 ≤ a1 ∧ a1 < I 0 1))))) → gv_X (gr_E ws0 tb 10 (yX13_number, cX13_number, 5, (some .int)) kX13_number) (gv_Q cX13_number (some .int) (gr_sh ++ ext) (fun r h' => (∃ (I' : gr_I) (J' : gr_J), h' = gr_h I' J' ∧ gr_Inv I' ∧ gr_fr [0, 68, 69, 71, 72, 73, 74, 75] [57] I I' ∧ gr_fj [0, 68, 69, 71, 72, 73, 74, 75] [57] J J' ∧ (∃ z : Int, r = some (.inl z) ∧ (-1) ≤ z ∧ z ≤ 383 ∧ (((0 ≤ a2 ∧ a2 ≤ 5) ∧ (a2 ≤ 2 ∨ (0 ≤ a1 ∧ a1 < I 0 1))) → I' 0 68 = 0) ∧ (¬ ((0 ≤ a2 ∧ a2 ≤ 5) ∧ (a2 ≤ 2 ∨ (0 ≤ a1 ∧ a1 < I 0 1))) → I' 0 68 = I 0 68))))) (31, [(0, .inr (.inr (some 0)))], [], gr_sh ++ ext, gr_h I8 J9) := by
    intro I8 J9 hI8 FI8 FJ9 m_10
    obtain ⟨e0_10, e1_10⟩ := m_10
    have f11 := (show 0 ≤ I8 0 71 ∧ I8 0 71 ≤ 5 from (hI8 0 71).1)
    have f12 := (show 0 ≤ I8 0 72 ∧ I8 0 72 ≤ 1000 from (hI8 0 72).1)
    have f13 := (show 0 ≤ I8 0 73 ∧ I8 0 73 ≤ 1001 from (hI8 0 73).1)
    have f14 := (show 0 ≤ I8 0 69 ∧ I8 0 69 ≤ 1000 from (hI8 0 69).1)
    have f15 := (show 0 ≤ I8 0 1 ∧ I8 0 1 ≤ 8 from (hI8 0 1).1)
    have f16 := (show 0 ≤ I8 0 68 ∧ I8 0 68 ≤ 1000 from (hI8 0 68).1)
    have f17 := (show 0 ≤ I8 0 2 ∧ I8 0 2 ≤ 32 from (hI8 0 2).1)
    refine gv_run 1 true hD (pc' := 32) (lv' := [(0, .inr (.inr (some 0)))]) (st' := [.inr (.inr (some 0))]) (h' := gr_h I8 J9) (C := (True ∧ True)) rfl ⟨trivial, trivial⟩ ?_
    obtain ⟨r18, h18, E18, P18⟩ := r_bad_t (ws0 := ws0) (tb := tb) hws htb ext I8 J9 hI8   
    obtain ⟨I19, J20, rfl, hI19, g18, k18, ⟨z18, rfl, q18⟩⟩ := P18
    have FI19 := gr_frt FI8 g18 rfl rfl
    have FJ20 := gr_fjt FJ9 k18 rfl rfl
    have t21 := g18 0 71 rfl
    have t22 := g18 0 72 rfl
    have t23 := g18 0 73 rfl
    have t24 := g18 0 69 rfl
    have t25 := g18 0 1 rfl
    have t26 := g18 0 68 rfl
    have t27 := g18 0 2 rfl
    have f28 := (show 0 ≤ I19 0 71 ∧ I19 0 71 ≤ 5 from (hI19 0 71).1)
    have f29 := (show 0 ≤ I19 0 72 ∧ I19 0 72 ≤ 1000 from (hI19 0 72).1)
    have f30 := (show 0 ≤ I19 0 73 ∧ I19 0 73 ≤ 1001 from (hI19 0 73).1)
    have f31 := (show 0 ≤ I19 0 69 ∧ I19 0 69 ≤ 1000 from (hI19 0 69).1)
    have f32 := (show 0 ≤ I19 0 1 ∧ I19 0 1 ≤ 8 from (hI19 0 1).1)
    have f33 := (show 0 ≤ I19 0 68 ∧ I19 0 68 ≤ 1000 from (hI19 0 68).1)
    have f34 := (show 0 ≤ I19 0 2 ∧ I19 0 2 ≤ 32 from (hI19 0 2).1)
    refine gv_callV hD rfl (As := []) (st := []) rfl (by decide) rfl rfl (gr_lV hws rfl) (Nat.le_of_ble_eq_true rfl) (gz_Ev_mono (d := 1) (by decide) E18) ?_
    show gv_X _ _ (35, [(0, .inr (.inr (some 0)))], [.inl z18], gr_sh ++ ext, gr_h I19 J20)
    exact gv_iret hD rfl ⟨I19, J20, rfl, hI19, FI19, FJ20, ⟨_, rfl, by omega⟩⟩
  have L36 : ∀ (I35 : gr_I) (J36 : gr_J) , gr_Inv I35 → gr_fr [0, 68, 69, 71, 72, 73, 74, 75] [57] I I35 → gr_fj [0, 68, 69, 71, 72, 73, 74, 75] [57] J J36 → (((-2147483648) ≤ a1 ∧ a1 ≤ 2147483647) ∧ (0 ≤ a2 ∧ a2 ≤ 5) ∧ (a2 ≤ 2 ∨ (0 ≤ a1 ∧ a1 ≤ 7)) ∧ (I35 0 68 = I 0 68) ∧ (((0 ≤ a2 ∧ a2 ≤ 5) ∧ (a2 ≤ 2 ∨ (0 ≤ a1 ∧ a1 < I 0 1))))) → gv_X (gr_E ws0 tb 10 (yX13_number, cX13_number, 5, (some .int)) kX13_number) (gv_Q cX13_number (some .int) (gr_sh ++ ext) (fun r h' => (∃ (I' : gr_I) (J' : gr_J), h' = gr_h I' J' ∧ gr_Inv I' ∧ gr_fr [0, 68, 69, 71, 72, 73, 74, 75] [57] I I' ∧ gr_fj [0, 68, 69, 71, 72, 73, 74, 75] [57] J J' ∧ (∃ z : Int, r = some (.inl z) ∧ (-1) ≤ z ∧ z ≤ 383 ∧ (((0 ≤ a2 ∧ a2 ≤ 5) ∧ (a2 ≤ 2 ∨ (0 ≤ a1 ∧ a1 < I 0 1))) → I' 0 68 = 0) ∧ (¬ ((0 ≤ a2 ∧ a2 ≤ 5) ∧ (a2 ≤ 2 ∨ (0 ≤ a1 ∧ a1 < I 0 1))) → I' 0 68 = I 0 68))))) (36, [(0, .inr (.inr (some 0))), (1, .inl a1), (2, .inl a2)], [], gr_sh ++ ext, gr_h I35 J36) := by
    intro I35 J36 hI35 FI35 FJ36 m_37
    obtain ⟨ha1_37, ha2_37, e0_37, e1_37, e2_37⟩ := m_37
    have f38 := (show 0 ≤ I35 0 71 ∧ I35 0 71 ≤ 5 from (hI35 0 71).1)
    have f39 := (show 0 ≤ I35 0 72 ∧ I35 0 72 ≤ 1000 from (hI35 0 72).1)
    have f40 := (show 0 ≤ I35 0 73 ∧ I35 0 73 ≤ 1001 from (hI35 0 73).1)
    have f41 := (show 0 ≤ I35 0 69 ∧ I35 0 69 ≤ 1000 from (hI35 0 69).1)
    have f42 := (show 0 ≤ I35 0 1 ∧ I35 0 1 ≤ 8 from (hI35 0 1).1)
    have f43 := (show 0 ≤ I35 0 68 ∧ I35 0 68 ≤ 1000 from (hI35 0 68).1)
    have f44 := (show 0 ≤ I35 0 2 ∧ I35 0 2 ≤ 32 from (hI35 0 2).1)
    refine gv_run 1 true hD (pc' := 37) (lv' := [(0, .inr (.inr (some 0))), (1, .inl a1), (2, .inl a2)]) (st' := [.inr (.inr (some 0))]) (h' := gr_h I35 J36) (C := (True ∧ True)) rfl ⟨trivial, trivial⟩ ?_
    obtain ⟨r45, h45, E45, P45⟩ := r_reads_t (ws0 := ws0) (tb := tb) hws htb ext I35 J36 hI35   
    obtain ⟨I46, J47, rfl, hI46, g45, k45, ⟨rfl, q45⟩⟩ := P45
    have FI46 := gr_frt FI35 g45 rfl rfl
    have FJ47 := gr_fjt FJ36 k45 rfl rfl
    have t48 := g45 0 71 rfl
    have t49 := g45 0 72 rfl
    have t50 := g45 0 73 rfl
    have t51 := g45 0 1 rfl
    have t52 := g45 0 2 rfl
    have f53 := (show 0 ≤ I46 0 71 ∧ I46 0 71 ≤ 5 from (hI46 0 71).1)
    have f54 := (show 0 ≤ I46 0 72 ∧ I46 0 72 ≤ 1000 from (hI46 0 72).1)
    have f55 := (show 0 ≤ I46 0 73 ∧ I46 0 73 ≤ 1001 from (hI46 0 73).1)
    have f56 := (show 0 ≤ I46 0 69 ∧ I46 0 69 ≤ 1000 from (hI46 0 69).1)
    have f57 := (show 0 ≤ I46 0 1 ∧ I46 0 1 ≤ 8 from (hI46 0 1).1)
    have f58 := (show 0 ≤ I46 0 68 ∧ I46 0 68 ≤ 1000 from (hI46 0 68).1)
    have f59 := (show 0 ≤ I46 0 2 ∧ I46 0 2 ≤ 32 from (hI46 0 2).1)
    refine gv_callV hD rfl (As := []) (st := []) rfl (by decide) rfl rfl (gr_lV hws rfl) (Nat.le_of_ble_eq_true rfl) (gz_Ev_mono (d := 1) (by decide) E45) ?_
    show gv_X _ _ (40, [(0, .inr (.inr (some 0))), (1, .inl a1), (2, .inl a2)], [], gr_sh ++ ext, gr_h I46 J47)
    refine gv_run 3 true hD (pc' := 45) (lv' := [(0, .inr (.inr (some 0))), (1, .inl a1), (2, .inl a2)]) (st' := []) (h' := gz_up (gr_h I46 J47) 0 73 (.inl 0)) (C := (((True ∧ True) ∧ True) ∧ True)) rfl ⟨⟨⟨trivial, trivial⟩, trivial⟩, trivial⟩ ?_
    refine gr_st hI46 FI46 rfl rfl ⟨⟨by show 0 ≤ _; omega, by show _ ≤ 1001; omega⟩, trivial⟩ (fun I60 hI60 FI60 q61 p61 => ?_)
    have t62 := p61 0 71 (by decide)
    have t63 := p61 0 72 (by decide)
    have t64 := p61 0 69 (by decide)
    have t65 := p61 0 1 (by decide)
    have t66 := p61 0 68 (by decide)
    have t67 := p61 0 2 (by decide)
    have f68 := (show 0 ≤ I60 0 71 ∧ I60 0 71 ≤ 5 from (hI60 0 71).1)
    have f69 := (show 0 ≤ I60 0 72 ∧ I60 0 72 ≤ 1000 from (hI60 0 72).1)
    have f70 := (show 0 ≤ I60 0 73 ∧ I60 0 73 ≤ 1001 from (hI60 0 73).1)
    have f71 := (show 0 ≤ I60 0 69 ∧ I60 0 69 ≤ 1000 from (hI60 0 69).1)
    have f72 := (show 0 ≤ I60 0 1 ∧ I60 0 1 ≤ 8 from (hI60 0 1).1)
    have f73 := (show 0 ≤ I60 0 68 ∧ I60 0 68 ≤ 1000 from (hI60 0 68).1)
    have f74 := (show 0 ≤ I60 0 2 ∧ I60 0 2 ≤ 32 from (hI60 0 2).1)
    refine gv_run 1 true hD (pc' := 46) (lv' := [(0, .inr (.inr (some 0))), (1, .inl a1), (2, .inl a2)]) (st' := [.inr (.inr (some 0))]) (h' := gr_h I60 J47) (C := (True ∧ True)) rfl ⟨trivial, trivial⟩ ?_
    obtain ⟨r75, h75, E75, P75⟩ := r_next (ws0 := ws0) (tb := tb) hws htb ext I60 J47 hI60   (by omega)
    obtain ⟨I76, J77, rfl, hI76, g75, k75, ⟨rfl, q75⟩⟩ := P75
    have FI76 := gr_frt FI60 g75 rfl rfl
    have FJ77 := gr_fjt FJ47 k75 rfl rfl
    have t78 := g75 0 69 rfl
    have t79 := g75 0 1 rfl
    have t80 := g75 0 68 rfl
    have t81 := g75 0 2 rfl
    have f82 := (show 0 ≤ I76 0 71 ∧ I76 0 71 ≤ 5 from (hI76 0 71).1)
    have f83 := (show 0 ≤ I76 0 72 ∧ I76 0 72 ≤ 1000 from (hI76 0 72).1)
    have f84 := (show 0 ≤ I76 0 73 ∧ I76 0 73 ≤ 1001 from (hI76 0 73).1)
    have f85 := (show 0 ≤ I76 0 69 ∧ I76 0 69 ≤ 1000 from (hI76 0 69).1)
    have f86 := (show 0 ≤ I76 0 1 ∧ I76 0 1 ≤ 8 from (hI76 0 1).1)
    have f87 := (show 0 ≤ I76 0 68 ∧ I76 0 68 ≤ 1000 from (hI76 0 68).1)
    have f88 := (show 0 ≤ I76 0 2 ∧ I76 0 2 ≤ 32 from (hI76 0 2).1)
    refine gv_callV hD rfl (As := []) (st := []) rfl (by decide) rfl rfl (gr_lV hws rfl) (Nat.le_of_ble_eq_true rfl) (gz_Ev_mono (d := 10) (by decide) E75) ?_
    show gv_X _ _ (49, [(0, .inr (.inr (some 0))), (1, .inl a1), (2, .inl a2)], [], gr_sh ++ ext, gr_h I76 J77)
    have f89 := (show 0 ≤ I76 0 71 ∧ I76 0 71 ≤ 5 from (hI76 0 71).1)
    refine gv_run 3 true hD (pc' := 54) (lv' := [(0, .inr (.inr (some 0))), (1, .inl a1), (2, .inl a2)]) (st' := [.inl 1, .inl (I76 0 71)]) (h' := gr_h I76 J77) (C := (((True ∧ True) ∧ True) ∧ True)) rfl ⟨⟨⟨trivial, trivial⟩, trivial⟩, trivial⟩ ?_
    refine gv_icmp_eq (t := 59) hD rfl rfl ⟨⟨by omega, by omega⟩, ⟨by omega, by omega⟩⟩ (fun c90 => ?_) (fun c90 => ?_)
    · refine gv_run 4 true hD (pc' := 65) (lv' := [(3, .inr (.inl (J77 0 75))), (0, .inr (.inr (some 0))), (1, .inl a1), (2, .inl a2)]) (st' := [.inr (.inr (some 0))]) (h' := gr_h I76 J77) (C := ((((True ∧ True) ∧ True) ∧ True) ∧ True)) rfl ⟨⟨⟨⟨trivial, trivial⟩, trivial⟩, trivial⟩, trivial⟩ ?_
      obtain ⟨r91, h91, E91, P91⟩ := r_next (ws0 := ws0) (tb := tb) hws htb ext I76 J77 hI76   (by omega)
      obtain ⟨I92, J93, rfl, hI92, g91, k91, ⟨rfl, q91⟩⟩ := P91
      have FI92 := gr_frt FI76 g91 rfl rfl
      have FJ93 := gr_fjt FJ77 k91 rfl rfl
      have t94 := g91 0 69 rfl
      have t95 := g91 0 1 rfl
      have t96 := g91 0 68 rfl
      have t97 := g91 0 2 rfl
      have f98 := (show 0 ≤ I92 0 71 ∧ I92 0 71 ≤ 5 from (hI92 0 71).1)
      have f99 := (show 0 ≤ I92 0 72 ∧ I92 0 72 ≤ 1000 from (hI92 0 72).1)
      have f100 := (show 0 ≤ I92 0 73 ∧ I92 0 73 ≤ 1001 from (hI92 0 73).1)
      have f101 := (show 0 ≤ I92 0 69 ∧ I92 0 69 ≤ 1000 from (hI92 0 69).1)
      have f102 := (show 0 ≤ I92 0 1 ∧ I92 0 1 ≤ 8 from (hI92 0 1).1)
      have f103 := (show 0 ≤ I92 0 68 ∧ I92 0 68 ≤ 1000 from (hI92 0 68).1)
      have f104 := (show 0 ≤ I92 0 2 ∧ I92 0 2 ≤ 32 from (hI92 0 2).1)
      refine gv_callV hD rfl (As := []) (st := []) rfl (by decide) rfl rfl (gr_lV hws rfl) (Nat.le_of_ble_eq_true rfl) (gz_Ev_mono (d := 10) (by decide) E91) ?_
      show gv_X _ _ (68, [(3, .inr (.inl (J77 0 75))), (0, .inr (.inr (some 0))), (1, .inl a1), (2, .inl a2)], [], gr_sh ++ ext, gr_h I92 J93)
      have f105 := (show 0 ≤ I92 0 71 ∧ I92 0 71 ≤ 5 from (hI92 0 71).1)
      refine gv_run 2 true hD (pc' := 72) (lv' := [(3, .inr (.inl (J77 0 75))), (0, .inr (.inr (some 0))), (1, .inl a1), (2, .inl a2)]) (st' := [.inl (I92 0 71)]) (h' := gr_h I92 J93) (C := ((True ∧ True) ∧ True)) rfl ⟨⟨trivial, trivial⟩, trivial⟩ ?_
      refine gv_if_eq (t := 77) hD rfl rfl ⟨by omega, by omega⟩ (fun c106 => ?_) (fun c106 => ?_)
      · refine gv_run 1 true hD (pc' := 78) (lv' := [(3, .inr (.inl (J77 0 75))), (0, .inr (.inr (some 0))), (1, .inl a1), (2, .inl a2)]) (st' := [.inl a2]) (h' := gr_h I92 J93) (C := (True ∧ True)) rfl ⟨trivial, trivial⟩ ?_
        by_cases c107 : a2 = 0
        · refine gv_tabAt hD 0 rfl ⟨by omega, by omega⟩ c107 ⟨by decide, by decide⟩ rfl (t := 112) rfl ?_
          have f108 := (show 0 ≤ I92 0 1 ∧ I92 0 1 ≤ 8 from (hI92 0 1).1)
          refine gv_run 6 true hD (pc' := 122) (lv' := [(3, .inr (.inl (J77 0 75))), (0, .inr (.inr (some 0))), (1, .inl a1), (2, .inl a2)]) (st' := [.inr (.inl (J77 0 75)), .inl (I92 0 1), .inl 0, .inr (.inr (some 1))]) (h' := gr_h I92 J93) (C := ((((((True ∧ True) ∧ True) ∧ True) ∧ True) ∧ True) ∧ True)) rfl ⟨⟨⟨⟨⟨⟨trivial, trivial⟩, trivial⟩, trivial⟩, trivial⟩, trivial⟩, trivial⟩ ?_
          obtain ⟨r109, h109, E109, P109⟩ := r_find_1 (ws0 := ws0) (tb := tb) hws htb ext I92 J93 hI92 0 (I92 0 1) (J77 0 75) ⟨by omega, by omega⟩ ⟨by omega, by omega⟩ (by omega)
          obtain ⟨rfl, ⟨z109, rfl, q109⟩⟩ := P109
          refine gv_callS hD rfl (As := [.inr (.inr (some 1)), .inl 0, .inl (I92 0 1), .inr (.inl (J77 0 75))]) (st := []) rfl (gr_lS hws rfl) (Nat.le_of_ble_eq_true rfl) (gz_Ev_mono (d := 1) (by decide) E109) ?_
          show gv_X _ _ (125, [(3, .inr (.inl (J77 0 75))), (0, .inr (.inr (some 0))), (1, .inl a1), (2, .inl a2)], [.inl z109], gr_sh ++ ext, gr_h I92 J93)
          exact gv_iret hD rfl ⟨I92, J93, rfl, hI92, FI92, FJ93, ⟨_, rfl, by omega⟩⟩
        by_cases c110 : a2 = 1
        · refine gv_tabAt hD 1 rfl ⟨by omega, by omega⟩ c110 ⟨by decide, by decide⟩ rfl (t := 126) rfl ?_
          have f111 := (show 0 ≤ I92 0 2 ∧ I92 0 2 ≤ 32 from (hI92 0 2).1)
          refine gv_run 6 true hD (pc' := 136) (lv' := [(3, .inr (.inl (J77 0 75))), (0, .inr (.inr (some 0))), (1, .inl a1), (2, .inl a2)]) (st' := [.inr (.inl (J77 0 75)), .inl (I92 0 2), .inl 0, .inr (.inr (some 2))]) (h' := gr_h I92 J93) (C := ((((((True ∧ True) ∧ True) ∧ True) ∧ True) ∧ True) ∧ True)) rfl ⟨⟨⟨⟨⟨⟨trivial, trivial⟩, trivial⟩, trivial⟩, trivial⟩, trivial⟩, trivial⟩ ?_
          obtain ⟨r112, h112, E112, P112⟩ := r_find_2 (ws0 := ws0) (tb := tb) hws htb ext I92 J93 hI92 0 (I92 0 2) (J77 0 75) ⟨by omega, by omega⟩ ⟨by omega, by omega⟩ (by omega)
          obtain ⟨rfl, ⟨z112, rfl, q112⟩⟩ := P112
          refine gv_callS hD rfl (As := [.inr (.inr (some 2)), .inl 0, .inl (I92 0 2), .inr (.inl (J77 0 75))]) (st := []) rfl (gr_lS hws rfl) (Nat.le_of_ble_eq_true rfl) (gz_Ev_mono (d := 1) (by decide) E112) ?_
          show gv_X _ _ (139, [(3, .inr (.inl (J77 0 75))), (0, .inr (.inr (some 0))), (1, .inl a1), (2, .inl a2)], [.inl z112], gr_sh ++ ext, gr_h I92 J93)
          exact gv_iret hD rfl ⟨I92, J93, rfl, hI92, FI92, FJ93, ⟨_, rfl, by omega⟩⟩
        by_cases c113 : a2 = 2
        · refine gv_tabAt hD 2 rfl ⟨by omega, by omega⟩ c113 ⟨by decide, by decide⟩ rfl (t := 140) rfl ?_
          have f114 := (show 0 ≤ I92 0 3 ∧ I92 0 3 ≤ 96 from (hI92 0 3).1)
          refine gv_run 6 true hD (pc' := 150) (lv' := [(3, .inr (.inl (J77 0 75))), (0, .inr (.inr (some 0))), (1, .inl a1), (2, .inl a2)]) (st' := [.inr (.inl (J77 0 75)), .inl (I92 0 3), .inl 0, .inr (.inr (some 3))]) (h' := gr_h I92 J93) (C := ((((((True ∧ True) ∧ True) ∧ True) ∧ True) ∧ True) ∧ True)) rfl ⟨⟨⟨⟨⟨⟨trivial, trivial⟩, trivial⟩, trivial⟩, trivial⟩, trivial⟩, trivial⟩ ?_
          obtain ⟨r115, h115, E115, P115⟩ := r_find_3 (ws0 := ws0) (tb := tb) hws htb ext I92 J93 hI92 0 (I92 0 3) (J77 0 75) ⟨by omega, by omega⟩ ⟨by omega, by omega⟩ (by omega)
          obtain ⟨rfl, ⟨z115, rfl, q115⟩⟩ := P115
          refine gv_callS hD rfl (As := [.inr (.inr (some 3)), .inl 0, .inl (I92 0 3), .inr (.inl (J77 0 75))]) (st := []) rfl (gr_lS hws rfl) (Nat.le_of_ble_eq_true rfl) (gz_Ev_mono (d := 1) (by decide) E115) ?_
          show gv_X _ _ (153, [(3, .inr (.inl (J77 0 75))), (0, .inr (.inr (some 0))), (1, .inl a1), (2, .inl a2)], [.inl z115], gr_sh ++ ext, gr_h I92 J93)
          exact gv_iret hD rfl ⟨I92, J93, rfl, hI92, FI92, FJ93, ⟨_, rfl, by omega⟩⟩
        by_cases c116 : a2 = 3
        · refine gv_tabAt hD 3 rfl ⟨by omega, by omega⟩ c116 ⟨by decide, by decide⟩ rfl (t := 154) rfl ?_
          refine gv_run 7 true hD (pc' := 166) (lv' := [(3, .inr (.inl (J77 0 75))), (0, .inr (.inr (some 0))), (1, .inl a1), (2, .inl a2)]) (st' := [.inr (.inr (some 13)), .inl (8 * a1), .inr (.inr (some 20))]) (h' := gr_h I92 J93) (C := (((((((True ∧ True) ∧ True) ∧ True) ∧ True) ∧ True) ∧ True) ∧ True)) rfl ⟨⟨⟨⟨⟨⟨⟨trivial, trivial⟩, trivial⟩, trivial⟩, trivial⟩, trivial⟩, trivial⟩, trivial⟩ ?_
          have f117 := (show 0 ≤ I92 13 (Int.toNat a1) ∧ I92 13 (Int.toNat a1) ≤ 8 from (hI92 13 (Int.toNat a1)).1)
          refine gv_run 2 true hD (pc' := 168) (lv' := [(3, .inr (.inl (J77 0 75))), (0, .inr (.inr (some 0))), (1, .inl a1), (2, .inl a2)]) (st' := [.inl (I92 13 (Int.toNat a1)), .inl (8 * a1), .inr (.inr (some 20))]) (h' := gr_h I92 J93) (C := ((True ∧ True) ∧ (0 ≤ a1 ∧ a1 < ((8 : Nat) : Int)))) rfl ⟨⟨trivial, trivial⟩, ⟨by omega, by omega⟩⟩ ?_
          refine gv_run 1 true hD (pc' := 169) (lv' := [(3, .inr (.inl (J77 0 75))), (0, .inr (.inr (some 0))), (1, .inl a1), (2, .inl a2)]) (st' := [.inr (.inl (J77 0 75)), .inl (I92 13 (Int.toNat a1)), .inl (8 * a1), .inr (.inr (some 20))]) (h' := gr_h I92 J93) (C := (True ∧ True)) rfl ⟨trivial, trivial⟩ ?_
          obtain ⟨r118, h118, E118, P118⟩ := r_find_20 (ws0 := ws0) (tb := tb) hws htb ext I92 J93 hI92 (8 * a1) ((I92 13 (Int.toNat a1))) (J77 0 75) ⟨by omega, by omega⟩ ⟨by omega, by omega⟩ (by omega)
          obtain ⟨rfl, ⟨z118, rfl, q118⟩⟩ := P118
          refine gv_callS hD rfl (As := [.inr (.inr (some 20)), .inl (8 * a1), .inl (I92 13 (Int.toNat a1)), .inr (.inl (J77 0 75))]) (st := []) rfl (gr_lS hws rfl) (Nat.le_of_ble_eq_true rfl) (gz_Ev_mono (d := 1) (by decide) E118) ?_
          show gv_X _ _ (172, [(3, .inr (.inl (J77 0 75))), (0, .inr (.inr (some 0))), (1, .inl a1), (2, .inl a2)], [.inl z118], gr_sh ++ ext, gr_h I92 J93)
          exact gv_iret hD rfl ⟨I92, J93, rfl, hI92, FI92, FJ93, ⟨_, rfl, by omega⟩⟩
        by_cases c119 : a2 = 4
        · refine gv_tabAt hD 4 rfl ⟨by omega, by omega⟩ c119 ⟨by decide, by decide⟩ rfl (t := 173) rfl ?_
          refine gv_run 7 true hD (pc' := 185) (lv' := [(3, .inr (.inl (J77 0 75))), (0, .inr (.inr (some 0))), (1, .inl a1), (2, .inl a2)]) (st' := [.inr (.inr (some 14)), .inl (48 * a1), .inr (.inr (some 21))]) (h' := gr_h I92 J93) (C := (((((((True ∧ True) ∧ True) ∧ True) ∧ True) ∧ True) ∧ True) ∧ True)) rfl ⟨⟨⟨⟨⟨⟨⟨trivial, trivial⟩, trivial⟩, trivial⟩, trivial⟩, trivial⟩, trivial⟩, trivial⟩ ?_
          have f120 := (show 0 ≤ I92 14 (Int.toNat a1) ∧ I92 14 (Int.toNat a1) ≤ 48 from (hI92 14 (Int.toNat a1)).1)
          refine gv_run 2 true hD (pc' := 187) (lv' := [(3, .inr (.inl (J77 0 75))), (0, .inr (.inr (some 0))), (1, .inl a1), (2, .inl a2)]) (st' := [.inl (I92 14 (Int.toNat a1)), .inl (48 * a1), .inr (.inr (some 21))]) (h' := gr_h I92 J93) (C := ((True ∧ True) ∧ (0 ≤ a1 ∧ a1 < ((8 : Nat) : Int)))) rfl ⟨⟨trivial, trivial⟩, ⟨by omega, by omega⟩⟩ ?_
          refine gv_run 1 true hD (pc' := 188) (lv' := [(3, .inr (.inl (J77 0 75))), (0, .inr (.inr (some 0))), (1, .inl a1), (2, .inl a2)]) (st' := [.inr (.inl (J77 0 75)), .inl (I92 14 (Int.toNat a1)), .inl (48 * a1), .inr (.inr (some 21))]) (h' := gr_h I92 J93) (C := (True ∧ True)) rfl ⟨trivial, trivial⟩ ?_
          obtain ⟨r121, h121, E121, P121⟩ := r_find_21 (ws0 := ws0) (tb := tb) hws htb ext I92 J93 hI92 (48 * a1) ((I92 14 (Int.toNat a1))) (J77 0 75) ⟨by omega, by omega⟩ ⟨by omega, by omega⟩ (by omega)
          obtain ⟨rfl, ⟨z121, rfl, q121⟩⟩ := P121
          refine gv_callS hD rfl (As := [.inr (.inr (some 21)), .inl (48 * a1), .inl (I92 14 (Int.toNat a1)), .inr (.inl (J77 0 75))]) (st := []) rfl (gr_lS hws rfl) (Nat.le_of_ble_eq_true rfl) (gz_Ev_mono (d := 1) (by decide) E121) ?_
          show gv_X _ _ (191, [(3, .inr (.inl (J77 0 75))), (0, .inr (.inr (some 0))), (1, .inl a1), (2, .inl a2)], [.inl z121], gr_sh ++ ext, gr_h I92 J93)
          exact gv_iret hD rfl ⟨I92, J93, rfl, hI92, FI92, FJ93, ⟨_, rfl, by omega⟩⟩
        refine gv_tabOut hD rfl ⟨by omega, by omega⟩ (by omega) (t := 192) rfl ?_
        refine gv_run 7 true hD (pc' := 204) (lv' := [(3, .inr (.inl (J77 0 75))), (0, .inr (.inr (some 0))), (1, .inl a1), (2, .inl a2)]) (st' := [.inr (.inr (some 17)), .inl (24 * a1), .inr (.inr (some 23))]) (h' := gr_h I92 J93) (C := (((((((True ∧ True) ∧ True) ∧ True) ∧ True) ∧ True) ∧ True) ∧ True)) rfl ⟨⟨⟨⟨⟨⟨⟨trivial, trivial⟩, trivial⟩, trivial⟩, trivial⟩, trivial⟩, trivial⟩, trivial⟩ ?_
        have f122 := (show 0 ≤ I92 17 (Int.toNat a1) ∧ I92 17 (Int.toNat a1) ≤ 24 from (hI92 17 (Int.toNat a1)).1)
        refine gv_run 2 true hD (pc' := 206) (lv' := [(3, .inr (.inl (J77 0 75))), (0, .inr (.inr (some 0))), (1, .inl a1), (2, .inl a2)]) (st' := [.inl (I92 17 (Int.toNat a1)), .inl (24 * a1), .inr (.inr (some 23))]) (h' := gr_h I92 J93) (C := ((True ∧ True) ∧ (0 ≤ a1 ∧ a1 < ((8 : Nat) : Int)))) rfl ⟨⟨trivial, trivial⟩, ⟨by omega, by omega⟩⟩ ?_
        refine gv_run 1 true hD (pc' := 207) (lv' := [(3, .inr (.inl (J77 0 75))), (0, .inr (.inr (some 0))), (1, .inl a1), (2, .inl a2)]) (st' := [.inr (.inl (J77 0 75)), .inl (I92 17 (Int.toNat a1)), .inl (24 * a1), .inr (.inr (some 23))]) (h' := gr_h I92 J93) (C := (True ∧ True)) rfl ⟨trivial, trivial⟩ ?_
        obtain ⟨r123, h123, E123, P123⟩ := r_find_23 (ws0 := ws0) (tb := tb) hws htb ext I92 J93 hI92 (24 * a1) ((I92 17 (Int.toNat a1))) (J77 0 75) ⟨by omega, by omega⟩ ⟨by omega, by omega⟩ (by omega)
        obtain ⟨rfl, ⟨z123, rfl, q123⟩⟩ := P123
        refine gv_callS hD rfl (As := [.inr (.inr (some 23)), .inl (24 * a1), .inl (I92 17 (Int.toNat a1)), .inr (.inl (J77 0 75))]) (st := []) rfl (gr_lS hws rfl) (Nat.le_of_ble_eq_true rfl) (gz_Ev_mono (d := 1) (by decide) E123) ?_
        show gv_X _ _ (210, [(3, .inr (.inl (J77 0 75))), (0, .inr (.inr (some 0))), (1, .inl a1), (2, .inl a2)], [.inl z123], gr_sh ++ ext, gr_h I92 J93)
        exact gv_iret hD rfl ⟨I92, J93, rfl, hI92, FI92, FJ93, ⟨_, rfl, by omega⟩⟩
      · refine gv_run 1 true hD (pc' := 76) (lv' := [(3, .inr (.inl (J77 0 75))), (0, .inr (.inr (some 0))), (1, .inl a1), (2, .inl a2)]) (st' := [.inl (-1)]) (h' := gr_h I92 J93) (C := (True ∧ True)) rfl ⟨trivial, trivial⟩ ?_
        exact gv_iret hD rfl ⟨I92, J93, rfl, hI92, FI92, FJ93, ⟨_, rfl, by omega⟩⟩
    · refine gv_run 1 true hD (pc' := 58) (lv' := [(0, .inr (.inr (some 0))), (1, .inl a1), (2, .inl a2)]) (st' := [.inl (-1)]) (h' := gr_h I76 J77) (C := (True ∧ True)) rfl ⟨trivial, trivial⟩ ?_
      exact gv_iret hD rfl ⟨I76, J77, rfl, hI76, FI76, FJ77, ⟨_, rfl, by omega⟩⟩
  refine gv_run 3 true hD (pc' := 5) (lv' := [(0, .inr (.inr (some 0))), (1, .inl a1), (2, .inl a2)]) (st' := []) (h' := gz_up (gr_h I J) 0 0 (.inl 0)) (C := (((True ∧ True) ∧ True) ∧ True)) rfl ⟨⟨⟨trivial, trivial⟩, trivial⟩, trivial⟩ ?_
  refine gr_st hI FI rfl rfl ⟨⟨by show 0 ≤ _; omega, by show _ ≤ 2; omega⟩, trivial⟩ (fun I124 hI124 FI124 q125 p125 => ?_)
  have t126 := p125 0 71 (by decide)
  have t127 := p125 0 72 (by decide)
  have t128 := p125 0 73 (by decide)
  have t129 := p125 0 69 (by decide)
  have t130 := p125 0 1 (by decide)
  have t131 := p125 0 68 (by decide)
  have t132 := p125 0 2 (by decide)
  have f133 := (show 0 ≤ I124 0 71 ∧ I124 0 71 ≤ 5 from (hI124 0 71).1)
  have f134 := (show 0 ≤ I124 0 72 ∧ I124 0 72 ≤ 1000 from (hI124 0 72).1)
  have f135 := (show 0 ≤ I124 0 73 ∧ I124 0 73 ≤ 1001 from (hI124 0 73).1)
  have f136 := (show 0 ≤ I124 0 69 ∧ I124 0 69 ≤ 1000 from (hI124 0 69).1)
  have f137 := (show 0 ≤ I124 0 1 ∧ I124 0 1 ≤ 8 from (hI124 0 1).1)
  have f138 := (show 0 ≤ I124 0 68 ∧ I124 0 68 ≤ 1000 from (hI124 0 68).1)
  have f139 := (show 0 ≤ I124 0 2 ∧ I124 0 2 ≤ 32 from (hI124 0 2).1)
  refine gv_run 1 true hD (pc' := 6) (lv' := [(0, .inr (.inr (some 0))), (1, .inl a1), (2, .inl a2)]) (st' := [.inl a2]) (h' := gr_h I124 J) (C := (True ∧ True)) rfl ⟨trivial, trivial⟩ ?_
  refine gv_if_lt (t := 31) hD rfl rfl ⟨by omega, by omega⟩ (fun c140 => ?_) (fun c140 => ?_)
  · refine gv_pick [0] rfl ?_
    exact L31 I124 J hI124 FI124 FJ (by omega)
  · refine gv_run 2 true hD (pc' := 11) (lv' := [(0, .inr (.inr (some 0))), (1, .inl a1), (2, .inl a2)]) (st' := [.inl 5, .inl a2]) (h' := gr_h I124 J) (C := ((True ∧ True) ∧ True)) rfl ⟨⟨trivial, trivial⟩, trivial⟩ ?_
    refine gv_icmp_gt (t := 31) hD rfl rfl ⟨⟨by omega, by omega⟩, ⟨by omega, by omega⟩⟩ (fun c141 => ?_) (fun c141 => ?_)
    · refine gv_pick [0] rfl ?_
      exact L31 I124 J hI124 FI124 FJ (by omega)
    · refine gv_run 2 true hD (pc' := 16) (lv' := [(0, .inr (.inr (some 0))), (1, .inl a1), (2, .inl a2)]) (st' := [.inl 2, .inl a2]) (h' := gr_h I124 J) (C := ((True ∧ True) ∧ True)) rfl ⟨⟨trivial, trivial⟩, trivial⟩ ?_
      refine gv_icmp_le (t := 36) hD rfl rfl ⟨⟨by omega, by omega⟩, ⟨by omega, by omega⟩⟩ (fun c142 => ?_) (fun c142 => ?_)
      · exact L36 I124 J hI124 FI124 FJ (by omega)
      · refine gv_run 1 true hD (pc' := 20) (lv' := [(0, .inr (.inr (some 0))), (1, .inl a1), (2, .inl a2)]) (st' := [.inl a1]) (h' := gr_h I124 J) (C := (True ∧ True)) rfl ⟨trivial, trivial⟩ ?_
        refine gv_if_lt (t := 31) hD rfl rfl ⟨by omega, by omega⟩ (fun c143 => ?_) (fun c143 => ?_)
        · refine gv_pick [0] rfl ?_
          exact L31 I124 J hI124 FI124 FJ (by omega)
        · have f144 := (show 0 ≤ I124 0 1 ∧ I124 0 1 ≤ 8 from (hI124 0 1).1)
          refine gv_run 3 true hD (pc' := 28) (lv' := [(0, .inr (.inr (some 0))), (1, .inl a1), (2, .inl a2)]) (st' := [.inl (I124 0 1), .inl a1]) (h' := gr_h I124 J) (C := (((True ∧ True) ∧ True) ∧ True)) rfl ⟨⟨⟨trivial, trivial⟩, trivial⟩, trivial⟩ ?_
          refine gv_icmp_lt (t := 36) hD rfl rfl ⟨⟨by omega, by omega⟩, ⟨by omega, by omega⟩⟩ (fun c145 => ?_) (fun c145 => ?_)
          · exact L36 I124 J hI124 FI124 FJ (by omega)
          · refine gv_pick [0] rfl ?_
            exact L31 I124 J hI124 FI124 FJ (by omega)
set_option maxHeartbeats 4000000 in
set_option maxRecDepth 100000 in
theorem r_parse_t {ws0 : List Cond} {tb : String → gz_T} (hws : ∀ w ∈ gr_ws, w ∈ ws0) (htb : tb RX13 = gr_T) (ext : gz_Sh) (I : gr_I) (J : gr_J) (hI : gr_Inv I) (a1 : Int) (a2 : Int) (ha1 : (-2147483648) ≤ a1 ∧ a1 ≤ 2147483647) (ha2 : (-2147483648) ≤ a2 ∧ a2 ≤ 2147483647) (KGR_I : gr_GR I) (KFV_I : gr_FV I) : ∃ r h', gz_Ev ws0 tb 13 (yX13_parse, cX13_parse, 3, (some .int)) [.inr (.inr (some 0)), .inl a1, .inl a2] (gr_sh ++ ext) (gr_h I J) r (gr_sh ++ ext) h' 0 0 ∧ (∃ (I' : gr_I) (J' : gr_J), h' = gr_h I' J' ∧ gr_Inv I' ∧ gr_fr [0, 68, 69, 126, 127, 128, 143, 157, 158, 159, 160, 161, 166, 167, 168, 169, 170, 177, 179, 180, 181, 186] [51, 57, 76, 77, 78, 79, 83, 85, 87, 88, 89, 90, 91, 92, 93, 94, 95, 96, 97, 98, 99, 100, 101, 103, 104, 105, 106, 107, 108, 109, 110, 111, 112] I I' ∧ gr_fj [0, 68, 69, 126, 127, 128, 143, 157, 158, 159, 160, 161, 166, 167, 168, 169, 170, 177, 179, 180, 181, 186] [51, 57, 76, 77, 78, 79, 83, 85, 87, 88, 89, 90, 91, 92, 93, 94, 95, 96, 97, 98, 99, 100, 101, 103, 104, 105, 106, 107, 108, 109, 110, 111, 112] J J' ∧ gr_GR I' ∧ gr_FV I' ∧ (∃ z : Int, r = some (.inl z) ∧ (-3) ≤ z ∧ z ≤ 1 ∧ (((0 ≤ a1 ∧ a1 < I 0 1) ∧ (0 ≤ a2 ∧ a2 < I 0 2)) → I' 0 68 = 0) ∧ (¬ ((0 ≤ a1 ∧ a1 < I 0 1) ∧ (0 ≤ a2 ∧ a2 < I 0 2)) → I' 0 68 = I 0 68))) := by
  have FI : gr_fr [0, 68, 69, 126, 127, 128, 143, 157, 158, 159, 160, 161, 166, 167, 168, 169, 170, 177, 179, 180, 181, 186] [51, 57, 76, 77, 78, 79, 83, 85, 87, 88, 89, 90, 91, 92, 93, 94, 95, 96, 97, 98, 99, 100, 101, 103, 104, 105, 106, 107, 108, 109, 110, 111, 112] I I := fun _ _ _ => rfl
  have FJ : gr_fj [0, 68, 69, 126, 127, 128, 143, 157, 158, 159, 160, 161, 166, 167, 168, 169, 170, 177, 179, 180, 181, 186] [51, 57, 76, 77, 78, 79, 83, 85, 87, 88, 89, 90, 91, 92, 93, 94, 95, 96, 97, 98, 99, 100, 101, 103, 104, 105, 106, 107, 108, 109, 110, 111, 112] J J := fun _ _ _ => rfl
  have hD : gv_D (gr_E ws0 tb 12 (yX13_parse, cX13_parse, 3, (some .int)) kX13_parse) := gq_ok oX13_parse
  refine gr_ev (d := 12) (l := kX13_parse) (Po := fun r h' => (∃ (I' : gr_I) (J' : gr_J), h' = gr_h I' J' ∧ gr_Inv I' ∧ gr_fr [0, 68, 69, 126, 127, 128, 143, 157, 158, 159, 160, 161, 166, 167, 168, 169, 170, 177, 179, 180, 181, 186] [51, 57, 76, 77, 78, 79, 83, 85, 87, 88, 89, 90, 91, 92, 93, 94, 95, 96, 97, 98, 99, 100, 101, 103, 104, 105, 106, 107, 108, 109, 110, 111, 112] I I' ∧ gr_fj [0, 68, 69, 126, 127, 128, 143, 157, 158, 159, 160, 161, 166, 167, 168, 169, 170, 177, 179, 180, 181, 186] [51, 57, 76, 77, 78, 79, 83, 85, 87, 88, 89, 90, 91, 92, 93, 94, 95, 96, 97, 98, 99, 100, 101, 103, 104, 105, 106, 107, 108, 109, 110, 111, 112] J J' ∧ gr_GR I' ∧ gr_FV I' ∧ (∃ z : Int, r = some (.inl z) ∧ (-3) ≤ z ∧ z ≤ 1 ∧ (((0 ≤ a1 ∧ a1 < I 0 1) ∧ (0 ≤ a2 ∧ a2 < I 0 2)) → I' 0 68 = 0) ∧ (¬ ((0 ≤ a1 ∧ a1 < I 0 1) ∧ (0 ≤ a2 ∧ a2 < I 0 2)) → I' 0 68 = I 0 68)))) htb rfl (Nat.le_of_ble_eq_true rfl) ?_
  have f1 := (show (-1) ≤ I 0 177 ∧ I 0 177 ≤ 2999 from (hI 0 177).1)
  have f2 := (show 0 ≤ I 0 186 ∧ I 0 186 ≤ 16 from (hI 0 186).1)
  have f3 := (show 0 ≤ I 0 68 ∧ I 0 68 ≤ 1000 from (hI 0 68).1)
  have f4 := (show 0 ≤ I 0 1 ∧ I 0 1 ≤ 8 from (hI 0 1).1)
  have f5 := (show 0 ≤ I 0 2 ∧ I 0 2 ≤ 32 from (hI 0 2).1)
  have L16 : ∀ (I6 : gr_I) (J7 : gr_J) , gr_Inv I6 → gr_fr [0, 68, 69, 126, 127, 128, 143, 157, 158, 159, 160, 161, 166, 167, 168, 169, 170, 177, 179, 180, 181, 186] [51, 57, 76, 77, 78, 79, 83, 85, 87, 88, 89, 90, 91, 92, 93, 94, 95, 96, 97, 98, 99, 100, 101, 103, 104, 105, 106, 107, 108, 109, 110, 111, 112] I I6 → gr_fj [0, 68, 69, 126, 127, 128, 143, 157, 158, 159, 160, 161, 166, 167, 168, 169, 170, 177, 179, 180, 181, 186] [51, 57, 76, 77, 78, 79, 83, 85, 87, 88, 89, 90, 91, 92, 93, 94, 95, 96, 97, 98, 99, 100, 101, 103, 104, 105, 106, 107, 108, 109, 110, 111, 112] J J7 → gr_GR I6 → gr_FV I6 → ((I6 0 68 = I 0 68) ∧ (¬ ((0 ≤ a1 ∧ a1 < I 0 1) ∧ (0 ≤ a2 ∧ a2 < I 0 2)))) → gv_X (gr_E ws0 tb 12 (yX13_parse, cX13_parse, 3, (some .int)) kX13_parse) (gv_Q cX13_parse (some .int) (gr_sh ++ ext) (fun r h' => (∃ (I' : gr_I) (J' : gr_J), h' = gr_h I' J' ∧ gr_Inv I' ∧ gr_fr [0, 68, 69, 126, 127, 128, 143, 157, 158, 159, 160, 161, 166, 167, 168, 169, 170, 177, 179, 180, 181, 186] [51, 57, 76, 77, 78, 79, 83, 85, 87, 88, 89, 90, 91, 92, 93, 94, 95, 96, 97, 98, 99, 100, 101, 103, 104, 105, 106, 107, 108, 109, 110, 111, 112] I I' ∧ gr_fj [0, 68, 69, 126, 127, 128, 143, 157, 158, 159, 160, 161, 166, 167, 168, 169, 170, 177, 179, 180, 181, 186] [51, 57, 76, 77, 78, 79, 83, 85, 87, 88, 89, 90, 91, 92, 93, 94, 95, 96, 97, 98, 99, 100, 101, 103, 104, 105, 106, 107, 108, 109, 110, 111, 112] J J' ∧ gr_GR I' ∧ gr_FV I' ∧ (∃ z : Int, r = some (.inl z) ∧ (-3) ≤ z ∧ z ≤ 1 ∧ (((0 ≤ a1 ∧ a1 < I 0 1) ∧ (0 ≤ a2 ∧ a2 < I 0 2)) → I' 0 68 = 0) ∧ (¬ ((0 ≤ a1 ∧ a1 < I 0 1) ∧ (0 ≤ a2 ∧ a2 < I 0 2)) → I' 0 68 = I 0 68))))) (16, [], [], gr_sh ++ ext, gr_h I6 J7) := by
    intro I6 J7 hI6 FI6 FJ7 KGR_I6 KFV_I6 m_8
    obtain ⟨e0_8, e1_8⟩ := m_8
    have f9 := (show (-1) ≤ I6 0 177 ∧ I6 0 177 ≤ 2999 from (hI6 0 177).1)
    have f10 := (show 0 ≤ I6 0 186 ∧ I6 0 186 ≤ 16 from (hI6 0 186).1)
    have f11 := (show 0 ≤ I6 0 68 ∧ I6 0 68 ≤ 1000 from (hI6 0 68).1)
    have f12 := (show 0 ≤ I6 0 1 ∧ I6 0 1 ≤ 8 from (hI6 0 1).1)
    have f13 := (show 0 ≤ I6 0 2 ∧ I6 0 2 ≤ 32 from (hI6 0 2).1)
    refine gv_run 1 true hD (pc' := 17) (lv' := []) (st' := [.inl 0]) (h' := gr_h I6 J7) (C := (True ∧ True)) rfl ⟨trivial, trivial⟩ ?_
    exact gv_iret hD rfl ⟨I6, J7, rfl, hI6, FI6, FJ7, KGR_I6, KFV_I6, ⟨_, rfl, by omega⟩⟩
  refine gv_run 2 true hD (pc' := 2) (lv' := [(0, .inr (.inr (some 0))), (1, .inl a1), (2, .inl a2)]) (st' := [.inl a1, .inr (.inr (some 0))]) (h' := gr_h I J) (C := ((True ∧ True) ∧ True)) rfl ⟨⟨trivial, trivial⟩, trivial⟩ ?_
  obtain ⟨r14, h14, E14, P14⟩ := r_noTongue_t (ws0 := ws0) (tb := tb) hws htb ext I J hI a1 ⟨by omega, by omega⟩ 
  obtain ⟨I15, J16, rfl, hI15, g14, k14, ⟨z14, rfl, q14⟩⟩ := P14
  have FI15 := gr_frt FI g14 rfl rfl
  have FJ16 := gr_fjt FJ k14 rfl rfl
  have t17 := g14 0 177 rfl
  have t18 := g14 0 186 rfl
  have t19 := g14 0 68 rfl
  have t20 := g14 0 1 rfl
  have t21 := g14 0 2 rfl
  have f22 := (show (-1) ≤ I15 0 177 ∧ I15 0 177 ≤ 2999 from (hI15 0 177).1)
  have f23 := (show 0 ≤ I15 0 186 ∧ I15 0 186 ≤ 16 from (hI15 0 186).1)
  have f24 := (show 0 ≤ I15 0 68 ∧ I15 0 68 ≤ 1000 from (hI15 0 68).1)
  have f25 := (show 0 ≤ I15 0 1 ∧ I15 0 1 ≤ 8 from (hI15 0 1).1)
  have f26 := (show 0 ≤ I15 0 2 ∧ I15 0 2 ≤ 32 from (hI15 0 2).1)
  have KGR_I15 := gr_GR_fr KGR_I (fun k => g14 19 k rfl) (fun k => g14 18 k rfl) (fun k => g14 36 k rfl) (fun k => g14 41 k rfl) (fun k => g14 42 k rfl) (fun k => g14 43 k rfl) (fun k => g14 45 k rfl) (fun k => g14 46 k rfl) (fun k => g14 47 k rfl) (fun k => g14 6 k rfl) (fun k => g14 7 k rfl) (fun k => g14 8 k rfl) (g14 0 3 rfl)
  have KFV_I15 := gr_FV_fr KFV_I (fun k => g14 87 k rfl) (fun k => g14 88 k rfl) (fun k => g14 104 k rfl) (fun k => g14 90 k rfl) (fun k => g14 91 k rfl) (fun k => g14 92 k rfl) (fun k => g14 94 k rfl) (fun k => g14 95 k rfl) (fun k => g14 97 k rfl) (fun k => g14 98 k rfl) (fun k => g14 19 k rfl) (fun k => g14 18 k rfl) (fun k => g14 41 k rfl) (fun k => g14 6 k rfl) (fun k => g14 99 k rfl) (fun k => g14 105 k rfl) (fun k => g14 107 k rfl) (fun k => g14 108 k rfl) (fun k => g14 110 k rfl) (fun k => g14 111 k rfl) (g14 0 157 rfl) (g14 0 158 rfl) (g14 0 177 rfl) (g14 0 186 rfl) (g14 0 159 rfl) hI
  refine gv_callV hD rfl (As := [.inl a1]) (st := []) rfl (by decide) rfl rfl (gr_lV hws rfl) (Nat.le_of_ble_eq_true rfl) (gz_Ev_mono (d := 1) (by decide) E14) ?_
  show gv_X _ _ (5, [(0, .inr (.inr (some 0))), (1, .inl a1), (2, .inl a2)], [.inl z14], gr_sh ++ ext, gr_h I15 J16)
  refine gv_if_ne (t := 16) hD rfl rfl ⟨by omega, by omega⟩ (fun c27 => ?_) (fun c27 => ?_)
  · refine gv_pick [] rfl ?_
    exact L16 I15 J16 hI15 FI15 FJ16 KGR_I15 KFV_I15 (by omega)
  · refine gv_run 2 true hD (pc' := 10) (lv' := [(0, .inr (.inr (some 0))), (1, .inl a1), (2, .inl a2)]) (st' := [.inl a2, .inr (.inr (some 0))]) (h' := gr_h I15 J16) (C := ((True ∧ True) ∧ True)) rfl ⟨⟨trivial, trivial⟩, trivial⟩ ?_
    obtain ⟨r28, h28, E28, P28⟩ := r_noKind_t (ws0 := ws0) (tb := tb) hws htb ext I15 J16 hI15 a2 ⟨by omega, by omega⟩ 
    obtain ⟨I29, J30, rfl, hI29, g28, k28, ⟨z28, rfl, q28⟩⟩ := P28
    have FI29 := gr_frt FI15 g28 rfl rfl
    have FJ30 := gr_fjt FJ16 k28 rfl rfl
    have t31 := g28 0 177 rfl
    have t32 := g28 0 186 rfl
    have t33 := g28 0 68 rfl
    have t34 := g28 0 1 rfl
    have t35 := g28 0 2 rfl
    have f36 := (show (-1) ≤ I29 0 177 ∧ I29 0 177 ≤ 2999 from (hI29 0 177).1)
    have f37 := (show 0 ≤ I29 0 186 ∧ I29 0 186 ≤ 16 from (hI29 0 186).1)
    have f38 := (show 0 ≤ I29 0 68 ∧ I29 0 68 ≤ 1000 from (hI29 0 68).1)
    have f39 := (show 0 ≤ I29 0 1 ∧ I29 0 1 ≤ 8 from (hI29 0 1).1)
    have f40 := (show 0 ≤ I29 0 2 ∧ I29 0 2 ≤ 32 from (hI29 0 2).1)
    have KGR_I29 := gr_GR_fr KGR_I15 (fun k => g28 19 k rfl) (fun k => g28 18 k rfl) (fun k => g28 36 k rfl) (fun k => g28 41 k rfl) (fun k => g28 42 k rfl) (fun k => g28 43 k rfl) (fun k => g28 45 k rfl) (fun k => g28 46 k rfl) (fun k => g28 47 k rfl) (fun k => g28 6 k rfl) (fun k => g28 7 k rfl) (fun k => g28 8 k rfl) (g28 0 3 rfl)
    have KFV_I29 := gr_FV_fr KFV_I15 (fun k => g28 87 k rfl) (fun k => g28 88 k rfl) (fun k => g28 104 k rfl) (fun k => g28 90 k rfl) (fun k => g28 91 k rfl) (fun k => g28 92 k rfl) (fun k => g28 94 k rfl) (fun k => g28 95 k rfl) (fun k => g28 97 k rfl) (fun k => g28 98 k rfl) (fun k => g28 19 k rfl) (fun k => g28 18 k rfl) (fun k => g28 41 k rfl) (fun k => g28 6 k rfl) (fun k => g28 99 k rfl) (fun k => g28 105 k rfl) (fun k => g28 107 k rfl) (fun k => g28 108 k rfl) (fun k => g28 110 k rfl) (fun k => g28 111 k rfl) (g28 0 157 rfl) (g28 0 158 rfl) (g28 0 177 rfl) (g28 0 186 rfl) (g28 0 159 rfl) hI15
    refine gv_callV hD rfl (As := [.inl a2]) (st := []) rfl (by decide) rfl rfl (gr_lV hws rfl) (Nat.le_of_ble_eq_true rfl) (gz_Ev_mono (d := 1) (by decide) E28) ?_
    show gv_X _ _ (13, [(0, .inr (.inr (some 0))), (1, .inl a1), (2, .inl a2)], [.inl z28], gr_sh ++ ext, gr_h I29 J30)
    refine gv_if_eq (t := 18) hD rfl rfl ⟨by omega, by omega⟩ (fun c41 => ?_) (fun c41 => ?_)
    · refine gv_run 1 true hD (pc' := 19) (lv' := [(0, .inr (.inr (some 0))), (1, .inl a1), (2, .inl a2)]) (st' := [.inr (.inr (some 0))]) (h' := gr_h I29 J30) (C := (True ∧ True)) rfl ⟨trivial, trivial⟩ ?_
      obtain ⟨r42, h42, E42, P42⟩ := r_sentence_t (ws0 := ws0) (tb := tb) hws htb ext I29 J30 hI29   
      obtain ⟨I43, J44, rfl, hI43, g42, k42, ⟨z42, rfl, q42⟩⟩ := P42
      have FI43 := gr_frt FI29 g42 rfl rfl
      have FJ44 := gr_fjt FJ30 k42 rfl rfl
      have t45 := g42 0 177 rfl
      have t46 := g42 0 186 rfl
      have t47 := g42 0 1 rfl
      have t48 := g42 0 2 rfl
      have f49 := (show (-1) ≤ I43 0 177 ∧ I43 0 177 ≤ 2999 from (hI43 0 177).1)
      have f50 := (show 0 ≤ I43 0 186 ∧ I43 0 186 ≤ 16 from (hI43 0 186).1)
      have f51 := (show 0 ≤ I43 0 68 ∧ I43 0 68 ≤ 1000 from (hI43 0 68).1)
      have f52 := (show 0 ≤ I43 0 1 ∧ I43 0 1 ≤ 8 from (hI43 0 1).1)
      have f53 := (show 0 ≤ I43 0 2 ∧ I43 0 2 ≤ 32 from (hI43 0 2).1)
      have KGR_I43 := gr_GR_fr KGR_I29 (fun k => g42 19 k rfl) (fun k => g42 18 k rfl) (fun k => g42 36 k rfl) (fun k => g42 41 k rfl) (fun k => g42 42 k rfl) (fun k => g42 43 k rfl) (fun k => g42 45 k rfl) (fun k => g42 46 k rfl) (fun k => g42 47 k rfl) (fun k => g42 6 k rfl) (fun k => g42 7 k rfl) (fun k => g42 8 k rfl) (g42 0 3 rfl)
      have KFV_I43 := gr_FV_fr KFV_I29 (fun k => g42 87 k rfl) (fun k => g42 88 k rfl) (fun k => g42 104 k rfl) (fun k => g42 90 k rfl) (fun k => g42 91 k rfl) (fun k => g42 92 k rfl) (fun k => g42 94 k rfl) (fun k => g42 95 k rfl) (fun k => g42 97 k rfl) (fun k => g42 98 k rfl) (fun k => g42 19 k rfl) (fun k => g42 18 k rfl) (fun k => g42 41 k rfl) (fun k => g42 6 k rfl) (fun k => g42 99 k rfl) (fun k => g42 105 k rfl) (fun k => g42 107 k rfl) (fun k => g42 108 k rfl) (fun k => g42 110 k rfl) (fun k => g42 111 k rfl) (g42 0 157 rfl) (g42 0 158 rfl) (g42 0 177 rfl) (g42 0 186 rfl) (g42 0 159 rfl) hI29
      refine gv_callV hD rfl (As := []) (st := []) rfl (by decide) rfl rfl (gr_lV hws rfl) (Nat.le_of_ble_eq_true rfl) (gz_Ev_mono (d := 2) (by decide) E42) ?_
      show gv_X _ _ (22, [(0, .inr (.inr (some 0))), (1, .inl a1), (2, .inl a2)], [.inl z42], gr_sh ++ ext, gr_h I43 J44)
      refine gv_if_ne (t := 32) hD rfl rfl ⟨by omega, by omega⟩ (fun c54 => ?_) (fun c54 => ?_)
      · refine gv_run 3 true hD (pc' := 37) (lv' := [(0, .inr (.inr (some 0))), (1, .inl a1), (2, .inl a2)]) (st' := []) (h' := gz_up (gr_h I43 J44) 0 161 (.inl 0)) (C := (((True ∧ True) ∧ True) ∧ True)) rfl ⟨⟨⟨trivial, trivial⟩, trivial⟩, trivial⟩ ?_
        refine gr_st hI43 FI43 rfl rfl ⟨⟨by show 0 ≤ _; omega, by show _ ≤ 400001; omega⟩, trivial⟩ (fun I55 hI55 FI55 q56 p56 => ?_)
        have t57 := p56 0 177 (by decide)
        have t58 := p56 0 186 (by decide)
        have t59 := p56 0 68 (by decide)
        have t60 := p56 0 1 (by decide)
        have t61 := p56 0 2 (by decide)
        have f62 := (show (-1) ≤ I55 0 177 ∧ I55 0 177 ≤ 2999 from (hI55 0 177).1)
        have f63 := (show 0 ≤ I55 0 186 ∧ I55 0 186 ≤ 16 from (hI55 0 186).1)
        have f64 := (show 0 ≤ I55 0 68 ∧ I55 0 68 ≤ 1000 from (hI55 0 68).1)
        have f65 := (show 0 ≤ I55 0 1 ∧ I55 0 1 ≤ 8 from (hI55 0 1).1)
        have f66 := (show 0 ≤ I55 0 2 ∧ I55 0 2 ≤ 32 from (hI55 0 2).1)
        have KGR_I55 := gr_GR_fr KGR_I43 (fun k => p56 19 k (fun q => absurd q.1 (by decide))) (fun k => p56 18 k (fun q => absurd q.1 (by decide))) (fun k => p56 36 k (fun q => absurd q.1 (by decide))) (fun k => p56 41 k (fun q => absurd q.1 (by decide))) (fun k => p56 42 k (fun q => absurd q.1 (by decide))) (fun k => p56 43 k (fun q => absurd q.1 (by decide))) (fun k => p56 45 k (fun q => absurd q.1 (by decide))) (fun k => p56 46 k (fun q => absurd q.1 (by decide))) (fun k => p56 47 k (fun q => absurd q.1 (by decide))) (fun k => p56 6 k (fun q => absurd q.1 (by decide))) (fun k => p56 7 k (fun q => absurd q.1 (by decide))) (fun k => p56 8 k (fun q => absurd q.1 (by decide))) (p56 0 3 (by decide))
        have KFV_I55 := gr_FV_fr KFV_I43 (fun k => p56 87 k (fun q => absurd q.1 (by decide))) (fun k => p56 88 k (fun q => absurd q.1 (by decide))) (fun k => p56 104 k (fun q => absurd q.1 (by decide))) (fun k => p56 90 k (fun q => absurd q.1 (by decide))) (fun k => p56 91 k (fun q => absurd q.1 (by decide))) (fun k => p56 92 k (fun q => absurd q.1 (by decide))) (fun k => p56 94 k (fun q => absurd q.1 (by decide))) (fun k => p56 95 k (fun q => absurd q.1 (by decide))) (fun k => p56 97 k (fun q => absurd q.1 (by decide))) (fun k => p56 98 k (fun q => absurd q.1 (by decide))) (fun k => p56 19 k (fun q => absurd q.1 (by decide))) (fun k => p56 18 k (fun q => absurd q.1 (by decide))) (fun k => p56 41 k (fun q => absurd q.1 (by decide))) (fun k => p56 6 k (fun q => absurd q.1 (by decide))) (fun k => p56 99 k (fun q => absurd q.1 (by decide))) (fun k => p56 105 k (fun q => absurd q.1 (by decide))) (fun k => p56 107 k (fun q => absurd q.1 (by decide))) (fun k => p56 108 k (fun q => absurd q.1 (by decide))) (fun k => p56 110 k (fun q => absurd q.1 (by decide))) (fun k => p56 111 k (fun q => absurd q.1 (by decide))) (p56 0 157 (by decide)) (p56 0 158 (by decide)) (p56 0 177 (by decide)) (p56 0 186 (by decide)) (p56 0 159 (by decide)) hI43
        refine gv_run 3 true hD (pc' := 40) (lv' := [(0, .inr (.inr (some 0))), (1, .inl a1), (2, .inl a2)]) (st' := [.inl a2, .inl a1, .inr (.inr (some 0))]) (h' := gr_h I55 J44) (C := (((True ∧ True) ∧ True) ∧ True)) rfl ⟨⟨⟨trivial, trivial⟩, trivial⟩, trivial⟩ ?_
        obtain ⟨r67, h67, E67, P67⟩ := r_parsed (ws0 := ws0) (tb := tb) hws htb ext I55 J44 hI55 a1 a2 ⟨by omega, by omega⟩ ⟨by omega, by omega⟩ KGR_I55
        obtain ⟨I68, J69, rfl, hI68, g67, k67, KGR_I68, ⟨z67, rfl, q67⟩⟩ := P67
        have FI68 := gr_frt FI55 g67 rfl rfl
        have FJ69 := gr_fjt FJ44 k67 rfl rfl
        have t70 := g67 0 68 rfl
        have t71 := g67 0 1 rfl
        have t72 := g67 0 2 rfl
        have f73 := (show (-1) ≤ I68 0 177 ∧ I68 0 177 ≤ 2999 from (hI68 0 177).1)
        have f74 := (show 0 ≤ I68 0 186 ∧ I68 0 186 ≤ 16 from (hI68 0 186).1)
        have f75 := (show 0 ≤ I68 0 68 ∧ I68 0 68 ≤ 1000 from (hI68 0 68).1)
        have f76 := (show 0 ≤ I68 0 1 ∧ I68 0 1 ≤ 8 from (hI68 0 1).1)
        have f77 := (show 0 ≤ I68 0 2 ∧ I68 0 2 ≤ 32 from (hI68 0 2).1)
        have KFV_I68 : gr_FV I68 := q67.2.2
        refine gv_callV hD rfl (As := [.inl a1, .inl a2]) (st := []) rfl (by decide) rfl rfl (gr_lV hws rfl) (Nat.le_of_ble_eq_true rfl) (gz_Ev_mono (d := 12) (by decide) E67) ?_
        show gv_X _ _ (43, [(0, .inr (.inr (some 0))), (1, .inl a1), (2, .inl a2)], [.inl z67], gr_sh ++ ext, gr_h I68 J69)
        exact gv_iret hD rfl ⟨I68, J69, rfl, hI68, FI68, FJ69, KGR_I68, KFV_I68, ⟨_, rfl, by omega⟩⟩
      · refine gv_run 1 true hD (pc' := 26) (lv' := [(0, .inr (.inr (some 0))), (1, .inl a1), (2, .inl a2)]) (st' := [.inr (.inr (some 0))]) (h' := gr_h I43 J44) (C := (True ∧ True)) rfl ⟨trivial, trivial⟩ ?_
        obtain ⟨r78, h78, E78, P78⟩ := r_noForest_f (ws0 := ws0) (tb := tb) hws htb ext I43 J44 hI43   
        obtain ⟨I79, J80, rfl, hI79, g78, k78, ⟨rfl, q78⟩⟩ := P78
        have FI79 := gr_frt FI43 g78 rfl rfl
        have FJ80 := gr_fjt FJ44 k78 rfl rfl
        have t81 := g78 0 68 rfl
        have t82 := g78 0 1 rfl
        have t83 := g78 0 2 rfl
        have f84 := (show (-1) ≤ I79 0 177 ∧ I79 0 177 ≤ 2999 from (hI79 0 177).1)
        have f85 := (show 0 ≤ I79 0 186 ∧ I79 0 186 ≤ 16 from (hI79 0 186).1)
        have f86 := (show 0 ≤ I79 0 68 ∧ I79 0 68 ≤ 1000 from (hI79 0 68).1)
        have f87 := (show 0 ≤ I79 0 1 ∧ I79 0 1 ≤ 8 from (hI79 0 1).1)
        have f88 := (show 0 ≤ I79 0 2 ∧ I79 0 2 ≤ 32 from (hI79 0 2).1)
        have KGR_I79 := gr_GR_fr KGR_I43 (fun k => g78 19 k rfl) (fun k => g78 18 k rfl) (fun k => g78 36 k rfl) (fun k => g78 41 k rfl) (fun k => g78 42 k rfl) (fun k => g78 43 k rfl) (fun k => g78 45 k rfl) (fun k => g78 46 k rfl) (fun k => g78 47 k rfl) (fun k => g78 6 k rfl) (fun k => g78 7 k rfl) (fun k => g78 8 k rfl) (g78 0 3 rfl)
        have KFV_I79 : gr_FV I79 := (gr_FV_no (by omega) (by omega))
        refine gv_callV hD rfl (As := []) (st := []) rfl (by decide) rfl rfl (gr_lV hws rfl) (Nat.le_of_ble_eq_true rfl) (gz_Ev_mono (d := 1) (by decide) E78) ?_
        show gv_X _ _ (29, [(0, .inr (.inr (some 0))), (1, .inl a1), (2, .inl a2)], [], gr_sh ++ ext, gr_h I79 J80)
        refine gv_run 1 true hD (pc' := 31) (lv' := [(0, .inr (.inr (some 0))), (1, .inl a1), (2, .inl a2)]) (st' := [.inl (-3)]) (h' := gr_h I79 J80) (C := (True ∧ True)) rfl ⟨trivial, trivial⟩ ?_
        exact gv_iret hD rfl ⟨I79, J80, rfl, hI79, FI79, FJ80, KGR_I79, KFV_I79, ⟨_, rfl, by omega⟩⟩
    · refine gv_pick [] rfl ?_
      exact L16 I29 J30 hI29 FI29 FJ30 KGR_I29 KFV_I29 (by omega)
set_option maxHeartbeats 4000000 in
set_option maxRecDepth 100000 in
theorem r_add_t {ws0 : List Cond} {tb : String → gz_T} (hws : ∀ w ∈ gr_ws, w ∈ ws0) (htb : tb RX13 = gr_T) (ext : gz_Sh) (I : gr_I) (J : gr_J) (hI : gr_Inv I) (a1 : Int) (ha1 : (-2147483648) ≤ a1 ∧ a1 ≤ 2147483647) (x0 : I 0 206 ≤ 99) : ∃ r h', gz_Ev ws0 tb 3 (yX13_add, cX13_add, 4, (some .int)) [.inr (.inr (some 0)), .inl a1] (gr_sh ++ ext) (gr_h I J) r (gr_sh ++ ext) h' 0 0 ∧ (∃ (I' : gr_I) (J' : gr_J), h' = gr_h I' J' ∧ gr_Inv I' ∧ gr_fr [0, 68, 69, 143, 206] [57, 83, 85, 126, 127, 128, 129] I I' ∧ gr_fj [0, 68, 69, 143, 206] [57, 83, 85, 126, 127, 128, 129] J J' ∧ (∃ z : Int, r = some (.inl z) ∧ (-3) ≤ z ∧ z ≤ 101 ∧ (I' 0 206 ≤ I 0 206 + 1) ∧ ((0 ≤ a1 ∧ a1 < I 0 1) → I' 0 68 = 0) ∧ (¬ (0 ≤ a1 ∧ a1 < I 0 1) → I' 0 68 = I 0 68))) := by
  have FI : gr_fr [0, 68, 69, 143, 206] [57, 83, 85, 126, 127, 128, 129] I I := fun _ _ _ => rfl
  have FJ : gr_fj [0, 68, 69, 143, 206] [57, 83, 85, 126, 127, 128, 129] J J := fun _ _ _ => rfl
  have hD : gv_D (gr_E ws0 tb 2 (yX13_add, cX13_add, 4, (some .int)) kX13_add) := gq_ok oX13_add
  refine gr_ev (d := 2) (l := kX13_add) (Po := fun r h' => (∃ (I' : gr_I) (J' : gr_J), h' = gr_h I' J' ∧ gr_Inv I' ∧ gr_fr [0, 68, 69, 143, 206] [57, 83, 85, 126, 127, 128, 129] I I' ∧ gr_fj [0, 68, 69, 143, 206] [57, 83, 85, 126, 127, 128, 129] J J' ∧ (∃ z : Int, r = some (.inl z) ∧ (-3) ≤ z ∧ z ≤ 101 ∧ (I' 0 206 ≤ I 0 206 + 1) ∧ ((0 ≤ a1 ∧ a1 < I 0 1) → I' 0 68 = 0) ∧ (¬ (0 ≤ a1 ∧ a1 < I 0 1) → I' 0 68 = I 0 68)))) htb rfl (Nat.le_of_ble_eq_true rfl) ?_
  have f1 := (show 0 ≤ I 0 206 ∧ I 0 206 ≤ 100 from (hI 0 206).1)
  have f2 := (show 0 ≤ I 0 143 ∧ I 0 143 ≤ 24 from (hI 0 143).1)
  have f3 := (show 0 ≤ I 0 68 ∧ I 0 68 ≤ 1000 from (hI 0 68).1)
  have f4 := (show 0 ≤ I 0 1 ∧ I 0 1 ≤ 8 from (hI 0 1).1)
  have f5 := (show 0 ≤ I 0 2 ∧ I 0 2 ≤ 32 from (hI 0 2).1)
  have L61 : ∀ (n : Nat) (I6 : gr_I) (J7 : gr_J) (v2_8 : Int), (25 - v2_8).toNat < n → gr_Inv I6 → gr_fr [0, 68, 69, 143, 206] [57, 83, 85, 126, 127, 128, 129] I I6 → gr_fj [0, 68, 69, 143, 206] [57, 83, 85, 126, 127, 128, 129] J J7 → ((0 ≤ v2_8 ∧ v2_8 ≤ 24) ∧ (I6 0 206 ≤ 99) ∧ (I6 0 68 = 0) ∧ ((0 ≤ a1 ∧ a1 < I 0 1)) ∧ (I6 0 206 = I 0 206)) → gv_X (gr_E ws0 tb 2 (yX13_add, cX13_add, 4, (some .int)) kX13_add) (gv_Q cX13_add (some .int) (gr_sh ++ ext) (fun r h' => (∃ (I' : gr_I) (J' : gr_J), h' = gr_h I' J' ∧ gr_Inv I' ∧ gr_fr [0, 68, 69, 143, 206] [57, 83, 85, 126, 127, 128, 129] I I' ∧ gr_fj [0, 68, 69, 143, 206] [57, 83, 85, 126, 127, 128, 129] J J' ∧ (∃ z : Int, r = some (.inl z) ∧ (-3) ≤ z ∧ z ≤ 101 ∧ (I' 0 206 ≤ I 0 206 + 1) ∧ ((0 ≤ a1 ∧ a1 < I 0 1) → I' 0 68 = 0) ∧ (¬ (0 ≤ a1 ∧ a1 < I 0 1) → I' 0 68 = I 0 68))))) (61, [(0, .inr (.inr (some 0))), (2, .inl v2_8)], [], gr_sh ++ ext, gr_h I6 J7) := by
    intro n
    induction n with
    | zero => intro I6 J7 v2_8 hn; omega
    | succ n ih61 =>
      intro I6 J7 v2_8 hn hI6 FI6 FJ7 m_8
      obtain ⟨hv2_8, e0_8, e1_8, e2_8, e3_8⟩ := m_8
      have f9 := (show 0 ≤ I6 0 206 ∧ I6 0 206 ≤ 100 from (hI6 0 206).1)
      have f10 := (show 0 ≤ I6 0 143 ∧ I6 0 143 ≤ 24 from (hI6 0 143).1)
      have f11 := (show 0 ≤ I6 0 68 ∧ I6 0 68 ≤ 1000 from (hI6 0 68).1)
      have f12 := (show 0 ≤ I6 0 1 ∧ I6 0 1 ≤ 8 from (hI6 0 1).1)
      have f13 := (show 0 ≤ I6 0 2 ∧ I6 0 2 ≤ 32 from (hI6 0 2).1)
      have L91 : ∀ (n : Nat) (I14 : gr_I) (J15 : gr_J) (v3_16 : Int), (25 - v3_16).toNat < n → gr_Inv I14 → gr_fr [0, 68, 69, 143, 206] [57, 83, 85, 126, 127, 128, 129] I I14 → gr_fj [0, 68, 69, 143, 206] [57, 83, 85, 126, 127, 128, 129] J J15 → ((0 ≤ v2_8 ∧ v2_8 ≤ 23) ∧ (0 ≤ v3_16 ∧ v3_16 ≤ 24) ∧ (I14 0 206 ≤ 99) ∧ (I14 0 68 = 0) ∧ ((0 ≤ a1 ∧ a1 < I 0 1)) ∧ (I14 0 206 = I 0 206)) → gv_X (gr_E ws0 tb 2 (yX13_add, cX13_add, 4, (some .int)) kX13_add) (gv_Q cX13_add (some .int) (gr_sh ++ ext) (fun r h' => (∃ (I' : gr_I) (J' : gr_J), h' = gr_h I' J' ∧ gr_Inv I' ∧ gr_fr [0, 68, 69, 143, 206] [57, 83, 85, 126, 127, 128, 129] I I' ∧ gr_fj [0, 68, 69, 143, 206] [57, 83, 85, 126, 127, 128, 129] J J' ∧ (∃ z : Int, r = some (.inl z) ∧ (-3) ≤ z ∧ z ≤ 101 ∧ (I' 0 206 ≤ I 0 206 + 1) ∧ ((0 ≤ a1 ∧ a1 < I 0 1) → I' 0 68 = 0) ∧ (¬ (0 ≤ a1 ∧ a1 < I 0 1) → I' 0 68 = I 0 68))))) (91, [(0, .inr (.inr (some 0))), (2, .inl v2_8), (3, .inl v3_16)], [], gr_sh ++ ext, gr_h I14 J15) := by
        intro n
        induction n with
        | zero => intro I14 J15 v3_16 hn; omega
        | succ n ih91 =>
          intro I14 J15 v3_16 hn hI14 FI14 FJ15 m_16
          clear hv2_8 e0_8 e1_8 e2_8 e3_8 f9 f10 f11 f12 f13
          obtain ⟨hv2_8_16, hv3_16, e0_16, e1_16, e2_16, e3_16⟩ := m_16
          have f17 := (show 0 ≤ I14 0 206 ∧ I14 0 206 ≤ 100 from (hI14 0 206).1)
          have f18 := (show 0 ≤ I14 0 143 ∧ I14 0 143 ≤ 24 from (hI14 0 143).1)
          have f19 := (show 0 ≤ I14 0 68 ∧ I14 0 68 ≤ 1000 from (hI14 0 68).1)
          have f20 := (show 0 ≤ I14 0 1 ∧ I14 0 1 ≤ 8 from (hI14 0 1).1)
          have f21 := (show 0 ≤ I14 0 2 ∧ I14 0 2 ≤ 32 from (hI14 0 2).1)
          have f22 := (show 0 ≤ I14 85 (Int.toNat v2_8) ∧ I14 85 (Int.toNat v2_8) ≤ 24 from (hI14 85 (Int.toNat v2_8)).1)
          refine gv_run 5 true hD (pc' := 98) (lv' := [(0, .inr (.inr (some 0))), (2, .inl v2_8), (3, .inl v3_16)]) (st' := [.inl (I14 85 (Int.toNat v2_8)), .inl v3_16]) (h' := gr_h I14 J15) (C := (((((True ∧ True) ∧ True) ∧ True) ∧ True) ∧ (0 ≤ v2_8 ∧ v2_8 < ((24 : Nat) : Int)))) rfl ⟨⟨⟨⟨⟨trivial, trivial⟩, trivial⟩, trivial⟩, trivial⟩, ⟨by omega, by omega⟩⟩ ?_
          refine gv_icmp_ge (t := 137) hD rfl rfl ⟨⟨by omega, by omega⟩, ⟨by omega, by omega⟩⟩ (fun c23 => ?_) (fun c23 => ?_)
          · refine gv_run 2 true hD (pc' := 61) (lv' := [(2, .inl (v2_8 + 1)), (0, .inr (.inr (some 0))), (3, .inl v3_16)]) (st' := []) (h' := gr_h I14 J15) (C := ((True ∧ True) ∧ True)) rfl ⟨⟨trivial, trivial⟩, trivial⟩ ?_
            refine gv_pick [1, 0] rfl ?_
            exact ih61 I14 J15 (v2_8 + 1) (by omega) hI14 FI14 FJ15 (by omega)
          · have f24 := (show 0 ≤ I14 0 206 ∧ I14 0 206 ≤ 100 from (hI14 0 206).1)
            refine gv_run 7 true hD (pc' := 113) (lv' := [(0, .inr (.inr (some 0))), (2, .inl v2_8), (3, .inl v3_16)]) (st' := [.inl v2_8, .inl (24 * (I14 0 206)), .inr (.inr (some 126))]) (h' := gr_h I14 J15) (C := (((((((True ∧ True) ∧ True) ∧ True) ∧ True) ∧ True) ∧ True) ∧ True)) rfl ⟨⟨⟨⟨⟨⟨⟨trivial, trivial⟩, trivial⟩, trivial⟩, trivial⟩, trivial⟩, trivial⟩, trivial⟩ ?_
            refine gv_run 7 true hD (pc' := 123) (lv' := [(0, .inr (.inr (some 0))), (2, .inl v2_8), (3, .inl v3_16)]) (st' := [.inr (.inr (some 83)), .inl ((((24 * (I14 0 206)) + v2_8) * 24) + v3_16), .inr (.inr (some 126))]) (h' := gr_h I14 J15) (C := (((((((True ∧ True) ∧ True) ∧ True) ∧ True) ∧ True) ∧ True) ∧ True)) rfl ⟨⟨⟨⟨⟨⟨⟨trivial, trivial⟩, trivial⟩, trivial⟩, trivial⟩, trivial⟩, trivial⟩, trivial⟩ ?_
            have f25 := (show (-128) ≤ I14 83 (Int.toNat (((24 * v2_8) + v3_16))) ∧ I14 83 (Int.toNat (((24 * v2_8) + v3_16))) ≤ 127 from (hI14 83 (Int.toNat (((24 * v2_8) + v3_16)))).1)
            refine gv_run 6 true hD (pc' := 130) (lv' := [(0, .inr (.inr (some 0))), (2, .inl v2_8), (3, .inl v3_16)]) (st' := [.inl (I14 83 (Int.toNat (((24 * v2_8) + v3_16)))), .inl ((((24 * (I14 0 206)) + v2_8) * 24) + v3_16), .inr (.inr (some 126))]) (h' := gr_h I14 J15) (C := ((((((True ∧ True) ∧ True) ∧ True) ∧ True) ∧ True) ∧ (0 ≤ (((24 * v2_8) + v3_16)) ∧ (((24 * v2_8) + v3_16)) < ((576 : Nat) : Int)))) rfl ⟨⟨⟨⟨⟨⟨trivial, trivial⟩, trivial⟩, trivial⟩, trivial⟩, trivial⟩, ⟨by omega, by omega⟩⟩ ?_
            have f26 := gw_nar_byte (x := ((I14 83 (Int.toNat (((24 * v2_8) + v3_16))))))
            refine gv_run 1 true hD (pc' := 131) (lv' := [(0, .inr (.inr (some 0))), (2, .inl v2_8), (3, .inl v3_16)]) (st' := []) (h' := gz_up (gr_h I14 J15) 126 (Int.toNat (((((24 * (I14 0 206)) + v2_8) * 24) + v3_16))) (.inl (((vp_nar .byte (Int32.ofInt ((I14 83 (Int.toNat (((24 * v2_8) + v3_16))))))).toInt)))) (C := (True ∧ (0 ≤ (((((24 * (I14 0 206)) + v2_8) * 24) + v3_16)) ∧ (((((24 * (I14 0 206)) + v2_8) * 24) + v3_16)) < ((57600 : Nat) : Int)))) rfl ⟨trivial, ⟨by omega, by omega⟩⟩ ?_
            refine gr_st hI14 FI14 rfl rfl ⟨⟨by show (-128) ≤ _; omega, by show _ ≤ 127; omega⟩, trivial⟩ (fun I27 hI27 FI27 q28 p28 => ?_)
            have t29 := p28 0 206 (fun q => absurd q.1 (by decide))
            have t30 := p28 0 143 (fun q => absurd q.1 (by decide))
            have t31 := p28 0 68 (fun q => absurd q.1 (by decide))
            have t32 := p28 0 1 (fun q => absurd q.1 (by decide))
            have t33 := p28 0 2 (fun q => absurd q.1 (by decide))
            have f34 := (show 0 ≤ I27 0 206 ∧ I27 0 206 ≤ 100 from (hI27 0 206).1)
            have f35 := (show 0 ≤ I27 0 143 ∧ I27 0 143 ≤ 24 from (hI27 0 143).1)
            have f36 := (show 0 ≤ I27 0 68 ∧ I27 0 68 ≤ 1000 from (hI27 0 68).1)
            have f37 := (show 0 ≤ I27 0 1 ∧ I27 0 1 ≤ 8 from (hI27 0 1).1)
            have f38 := (show 0 ≤ I27 0 2 ∧ I27 0 2 ≤ 32 from (hI27 0 2).1)
            refine gv_run 2 true hD (pc' := 91) (lv' := [(3, .inl (v3_16 + 1)), (0, .inr (.inr (some 0))), (2, .inl v2_8)]) (st' := []) (h' := gr_h I27 J15) (C := ((True ∧ True) ∧ True)) rfl ⟨⟨trivial, trivial⟩, trivial⟩ ?_
            refine gv_pick [1, 2, 0] rfl ?_
            exact ih91 I27 J15 (v3_16 + 1) (by omega) hI27 FI27 FJ15 (by omega)
      have f39 := (show 0 ≤ I6 0 143 ∧ I6 0 143 ≤ 24 from (hI6 0 143).1)
      refine gv_run 3 true hD (pc' := 66) (lv' := [(0, .inr (.inr (some 0))), (2, .inl v2_8)]) (st' := [.inl (I6 0 143), .inl v2_8]) (h' := gr_h I6 J7) (C := (((True ∧ True) ∧ True) ∧ True)) rfl ⟨⟨⟨trivial, trivial⟩, trivial⟩, trivial⟩ ?_
      refine gv_icmp_ge (t := 143) hD rfl rfl ⟨⟨by omega, by omega⟩, ⟨by omega, by omega⟩⟩ (fun c40 => ?_) (fun c40 => ?_)
      · have f41 := (show 0 ≤ I6 0 206 ∧ I6 0 206 ≤ 100 from (hI6 0 206).1)
        refine gv_run 6 true hD (pc' := 151) (lv' := [(0, .inr (.inr (some 0))), (2, .inl v2_8)]) (st' := [.inl ((I6 0 206) + 1), .inr (.inr (some 0)), .inl ((I6 0 206) + 1)]) (h' := gr_h I6 J7) (C := ((((((True ∧ True) ∧ True) ∧ True) ∧ True) ∧ True) ∧ True)) rfl ⟨⟨⟨⟨⟨⟨trivial, trivial⟩, trivial⟩, trivial⟩, trivial⟩, trivial⟩, trivial⟩ ?_
        refine gv_run 1 true hD (pc' := 154) (lv' := [(0, .inr (.inr (some 0))), (2, .inl v2_8)]) (st' := [.inl ((I6 0 206) + 1)]) (h' := gz_up (gr_h I6 J7) 0 206 (.inl (((I6 0 206) + 1)))) (C := (True ∧ True)) rfl ⟨trivial, trivial⟩ ?_
        refine gr_st hI6 FI6 rfl rfl ⟨⟨by show 0 ≤ _; omega, by show _ ≤ 100; omega⟩, trivial⟩ (fun I42 hI42 FI42 q43 p43 => ?_)
        have t44 := p43 0 143 (by decide)
        have t45 := p43 0 68 (by decide)
        have t46 := p43 0 1 (by decide)
        have t47 := p43 0 2 (by decide)
        have f48 := (show 0 ≤ I42 0 206 ∧ I42 0 206 ≤ 100 from (hI42 0 206).1)
        have f49 := (show 0 ≤ I42 0 143 ∧ I42 0 143 ≤ 24 from (hI42 0 143).1)
        have f50 := (show 0 ≤ I42 0 68 ∧ I42 0 68 ≤ 1000 from (hI42 0 68).1)
        have f51 := (show 0 ≤ I42 0 1 ∧ I42 0 1 ≤ 8 from (hI42 0 1).1)
        have f52 := (show 0 ≤ I42 0 2 ∧ I42 0 2 ≤ 32 from (hI42 0 2).1)
        exact gv_iret hD rfl ⟨I42, J7, rfl, hI42, FI42, FJ7, ⟨_, rfl, by omega⟩⟩
      · have f53 := (show 0 ≤ I6 0 206 ∧ I6 0 206 ≤ 100 from (hI6 0 206).1)
        refine gv_run 7 true hD (pc' := 81) (lv' := [(0, .inr (.inr (some 0))), (2, .inl v2_8)]) (st' := [.inl v2_8, .inl (24 * (I6 0 206)), .inr (.inr (some 129))]) (h' := gr_h I6 J7) (C := (((((((True ∧ True) ∧ True) ∧ True) ∧ True) ∧ True) ∧ True) ∧ True)) rfl ⟨⟨⟨⟨⟨⟨⟨trivial, trivial⟩, trivial⟩, trivial⟩, trivial⟩, trivial⟩, trivial⟩, trivial⟩ ?_
        have f54 := (show 0 ≤ I6 85 (Int.toNat v2_8) ∧ I6 85 (Int.toNat v2_8) ≤ 24 from (hI6 85 (Int.toNat v2_8)).1)
        refine gv_run 5 true hD (pc' := 88) (lv' := [(0, .inr (.inr (some 0))), (2, .inl v2_8)]) (st' := [.inl (I6 85 (Int.toNat v2_8)), .inl ((24 * (I6 0 206)) + v2_8), .inr (.inr (some 129))]) (h' := gr_h I6 J7) (C := (((((True ∧ True) ∧ True) ∧ True) ∧ True) ∧ (0 ≤ v2_8 ∧ v2_8 < ((24 : Nat) : Int)))) rfl ⟨⟨⟨⟨⟨trivial, trivial⟩, trivial⟩, trivial⟩, trivial⟩, ⟨by omega, by omega⟩⟩ ?_
        refine gv_run 1 true hD (pc' := 89) (lv' := [(0, .inr (.inr (some 0))), (2, .inl v2_8)]) (st' := []) (h' := gz_up (gr_h I6 J7) 129 (Int.toNat (((24 * (I6 0 206)) + v2_8))) (.inl ((I6 85 (Int.toNat v2_8))))) (C := (True ∧ (0 ≤ (((24 * (I6 0 206)) + v2_8)) ∧ (((24 * (I6 0 206)) + v2_8)) < ((2400 : Nat) : Int)))) rfl ⟨trivial, ⟨by omega, by omega⟩⟩ ?_
        refine gr_st hI6 FI6 rfl rfl ⟨⟨by show 0 ≤ _; omega, by show _ ≤ 24; omega⟩, trivial⟩ (fun I55 hI55 FI55 q56 p56 => ?_)
        have t57 := p56 0 206 (fun q => absurd q.1 (by decide))
        have t58 := p56 0 143 (fun q => absurd q.1 (by decide))
        have t59 := p56 0 68 (fun q => absurd q.1 (by decide))
        have t60 := p56 0 1 (fun q => absurd q.1 (by decide))
        have t61 := p56 0 2 (fun q => absurd q.1 (by decide))
        have f62 := (show 0 ≤ I55 0 206 ∧ I55 0 206 ≤ 100 from (hI55 0 206).1)
        have f63 := (show 0 ≤ I55 0 143 ∧ I55 0 143 ≤ 24 from (hI55 0 143).1)
        have f64 := (show 0 ≤ I55 0 68 ∧ I55 0 68 ≤ 1000 from (hI55 0 68).1)
        have f65 := (show 0 ≤ I55 0 1 ∧ I55 0 1 ≤ 8 from (hI55 0 1).1)
        have f66 := (show 0 ≤ I55 0 2 ∧ I55 0 2 ≤ 32 from (hI55 0 2).1)
        refine gv_run 2 true hD (pc' := 91) (lv' := [(3, .inl 0), (0, .inr (.inr (some 0))), (2, .inl v2_8)]) (st' := []) (h' := gr_h I55 J7) (C := ((True ∧ True) ∧ True)) rfl ⟨⟨trivial, trivial⟩, trivial⟩ ?_
        refine gv_pick [1, 2, 0] rfl ?_
        exact L91 _ I55 J7 0 (Nat.lt_succ_self _) hI55 FI55 FJ7 (by omega)
  refine gv_run 2 true hD (pc' := 2) (lv' := [(0, .inr (.inr (some 0))), (1, .inl a1)]) (st' := [.inl a1, .inr (.inr (some 0))]) (h' := gr_h I J) (C := ((True ∧ True) ∧ True)) rfl ⟨⟨trivial, trivial⟩, trivial⟩ ?_
  obtain ⟨r67, h67, E67, P67⟩ := r_noTongue_t (ws0 := ws0) (tb := tb) hws htb ext I J hI a1 ⟨by omega, by omega⟩ 
  obtain ⟨I68, J69, rfl, hI68, g67, k67, ⟨z67, rfl, q67⟩⟩ := P67
  have FI68 := gr_frt FI g67 rfl rfl
  have FJ69 := gr_fjt FJ k67 rfl rfl
  have t70 := g67 0 206 rfl
  have t71 := g67 0 143 rfl
  have t72 := g67 0 68 rfl
  have t73 := g67 0 1 rfl
  have t74 := g67 0 2 rfl
  have f75 := (show 0 ≤ I68 0 206 ∧ I68 0 206 ≤ 100 from (hI68 0 206).1)
  have f76 := (show 0 ≤ I68 0 143 ∧ I68 0 143 ≤ 24 from (hI68 0 143).1)
  have f77 := (show 0 ≤ I68 0 68 ∧ I68 0 68 ≤ 1000 from (hI68 0 68).1)
  have f78 := (show 0 ≤ I68 0 1 ∧ I68 0 1 ≤ 8 from (hI68 0 1).1)
  have f79 := (show 0 ≤ I68 0 2 ∧ I68 0 2 ≤ 32 from (hI68 0 2).1)
  refine gv_callV hD rfl (As := [.inl a1]) (st := []) rfl (by decide) rfl rfl (gr_lV hws rfl) (Nat.le_of_ble_eq_true rfl) (gz_Ev_mono (d := 1) (by decide) E67) ?_
  show gv_X _ _ (5, [(0, .inr (.inr (some 0))), (1, .inl a1)], [.inl z67], gr_sh ++ ext, gr_h I68 J69)
  refine gv_if_eq (t := 10) hD rfl rfl ⟨by omega, by omega⟩ (fun c80 => ?_) (fun c80 => ?_)
  · have f81 := (show 0 ≤ I68 0 206 ∧ I68 0 206 ≤ 100 from (hI68 0 206).1)
    refine gv_run 3 true hD (pc' := 16) (lv' := [(0, .inr (.inr (some 0))), (1, .inl a1)]) (st' := [.inl 100, .inl (I68 0 206)]) (h' := gr_h I68 J69) (C := (((True ∧ True) ∧ True) ∧ True)) rfl ⟨⟨⟨trivial, trivial⟩, trivial⟩, trivial⟩ ?_
    refine gv_icmp_ne (t := 26) hD rfl rfl ⟨⟨by omega, by omega⟩, ⟨by omega, by omega⟩⟩ (fun c82 => ?_) (fun c82 => ?_)
    · refine gv_run 1 true hD (pc' := 27) (lv' := [(0, .inr (.inr (some 0))), (1, .inl a1)]) (st' := [.inr (.inr (some 0))]) (h' := gr_h I68 J69) (C := (True ∧ True)) rfl ⟨trivial, trivial⟩ ?_
      obtain ⟨r83, h83, E83, P83⟩ := r_sentence_t (ws0 := ws0) (tb := tb) hws htb ext I68 J69 hI68   
      obtain ⟨I84, J85, rfl, hI84, g83, k83, ⟨z83, rfl, q83⟩⟩ := P83
      have FI84 := gr_frt FI68 g83 rfl rfl
      have FJ85 := gr_fjt FJ69 k83 rfl rfl
      have t86 := g83 0 206 rfl
      have t87 := g83 0 1 rfl
      have t88 := g83 0 2 rfl
      have f89 := (show 0 ≤ I84 0 206 ∧ I84 0 206 ≤ 100 from (hI84 0 206).1)
      have f90 := (show 0 ≤ I84 0 143 ∧ I84 0 143 ≤ 24 from (hI84 0 143).1)
      have f91 := (show 0 ≤ I84 0 68 ∧ I84 0 68 ≤ 1000 from (hI84 0 68).1)
      have f92 := (show 0 ≤ I84 0 1 ∧ I84 0 1 ≤ 8 from (hI84 0 1).1)
      have f93 := (show 0 ≤ I84 0 2 ∧ I84 0 2 ≤ 32 from (hI84 0 2).1)
      refine gv_callV hD rfl (As := []) (st := []) rfl (by decide) rfl rfl (gr_lV hws rfl) (Nat.le_of_ble_eq_true rfl) (gz_Ev_mono (d := 2) (by decide) E83) ?_
      show gv_X _ _ (30, [(0, .inr (.inr (some 0))), (1, .inl a1)], [.inl z83], gr_sh ++ ext, gr_h I84 J85)
      refine gv_if_ne (t := 36) hD rfl rfl ⟨by omega, by omega⟩ (fun c94 => ?_) (fun c94 => ?_)
      · have f95 := (show 0 ≤ I84 0 206 ∧ I84 0 206 ≤ 100 from (hI84 0 206).1)
        have f96 := (show 0 ≤ I84 0 143 ∧ I84 0 143 ≤ 24 from (hI84 0 143).1)
        refine gv_run 6 true hD (pc' := 48) (lv' := [(0, .inr (.inr (some 0))), (1, .inl a1)]) (st' := [.inl (I84 0 143), .inl (I84 0 206), .inr (.inr (some 127))]) (h' := gr_h I84 J85) (C := ((((((True ∧ True) ∧ True) ∧ True) ∧ True) ∧ True) ∧ True)) rfl ⟨⟨⟨⟨⟨⟨trivial, trivial⟩, trivial⟩, trivial⟩, trivial⟩, trivial⟩, trivial⟩ ?_
        refine gv_run 1 true hD (pc' := 49) (lv' := [(0, .inr (.inr (some 0))), (1, .inl a1)]) (st' := []) (h' := gz_up (gr_h I84 J85) 127 (Int.toNat ((I84 0 206))) (.inl (I84 0 143))) (C := (True ∧ (0 ≤ (I84 0 206) ∧ (I84 0 206) < ((100 : Nat) : Int)))) rfl ⟨trivial, ⟨by omega, by omega⟩⟩ ?_
        refine gr_st hI84 FI84 rfl rfl ⟨⟨by show 0 ≤ _; omega, by show _ ≤ 24; omega⟩, trivial⟩ (fun I97 hI97 FI97 q98 p98 => ?_)
        have t99 := p98 0 206 (fun q => absurd q.1 (by decide))
        have t100 := p98 0 143 (fun q => absurd q.1 (by decide))
        have t101 := p98 0 68 (fun q => absurd q.1 (by decide))
        have t102 := p98 0 1 (fun q => absurd q.1 (by decide))
        have t103 := p98 0 2 (fun q => absurd q.1 (by decide))
        have f104 := (show 0 ≤ I97 0 206 ∧ I97 0 206 ≤ 100 from (hI97 0 206).1)
        have f105 := (show 0 ≤ I97 0 143 ∧ I97 0 143 ≤ 24 from (hI97 0 143).1)
        have f106 := (show 0 ≤ I97 0 68 ∧ I97 0 68 ≤ 1000 from (hI97 0 68).1)
        have f107 := (show 0 ≤ I97 0 1 ∧ I97 0 1 ≤ 8 from (hI97 0 1).1)
        have f108 := (show 0 ≤ I97 0 2 ∧ I97 0 2 ≤ 32 from (hI97 0 2).1)
        have f109 := (show 0 ≤ I97 0 206 ∧ I97 0 206 ≤ 100 from (hI97 0 206).1)
        refine gv_run 5 true hD (pc' := 58) (lv' := [(0, .inr (.inr (some 0))), (1, .inl a1)]) (st' := [.inl a1, .inl (I97 0 206), .inr (.inr (some 128))]) (h' := gr_h I97 J85) (C := (((((True ∧ True) ∧ True) ∧ True) ∧ True) ∧ True)) rfl ⟨⟨⟨⟨⟨trivial, trivial⟩, trivial⟩, trivial⟩, trivial⟩, trivial⟩ ?_
        refine gv_run 1 true hD (pc' := 59) (lv' := [(0, .inr (.inr (some 0))), (1, .inl a1)]) (st' := []) (h' := gz_up (gr_h I97 J85) 128 (Int.toNat ((I97 0 206))) (.inl a1)) (C := (True ∧ (0 ≤ (I97 0 206) ∧ (I97 0 206) < ((100 : Nat) : Int)))) rfl ⟨trivial, ⟨by omega, by omega⟩⟩ ?_
        refine gr_st hI97 FI97 rfl rfl ⟨⟨by show 0 ≤ _; omega, by show _ ≤ 7; omega⟩, trivial⟩ (fun I110 hI110 FI110 q111 p111 => ?_)
        have t112 := p111 0 206 (fun q => absurd q.1 (by decide))
        have t113 := p111 0 143 (fun q => absurd q.1 (by decide))
        have t114 := p111 0 68 (fun q => absurd q.1 (by decide))
        have t115 := p111 0 1 (fun q => absurd q.1 (by decide))
        have t116 := p111 0 2 (fun q => absurd q.1 (by decide))
        have f117 := (show 0 ≤ I110 0 206 ∧ I110 0 206 ≤ 100 from (hI110 0 206).1)
        have f118 := (show 0 ≤ I110 0 143 ∧ I110 0 143 ≤ 24 from (hI110 0 143).1)
        have f119 := (show 0 ≤ I110 0 68 ∧ I110 0 68 ≤ 1000 from (hI110 0 68).1)
        have f120 := (show 0 ≤ I110 0 1 ∧ I110 0 1 ≤ 8 from (hI110 0 1).1)
        have f121 := (show 0 ≤ I110 0 2 ∧ I110 0 2 ≤ 32 from (hI110 0 2).1)
        refine gv_run 2 true hD (pc' := 61) (lv' := [(2, .inl 0), (0, .inr (.inr (some 0))), (1, .inl a1)]) (st' := []) (h' := gr_h I110 J85) (C := ((True ∧ True) ∧ True)) rfl ⟨⟨trivial, trivial⟩, trivial⟩ ?_
        refine gv_pick [1, 0] rfl ?_
        exact L61 _ I110 J85 0 (Nat.lt_succ_self _) hI110 FI110 FJ85 (by omega)
      · refine gv_run 1 true hD (pc' := 35) (lv' := [(0, .inr (.inr (some 0))), (1, .inl a1)]) (st' := [.inl (-3)]) (h' := gr_h I84 J85) (C := (True ∧ True)) rfl ⟨trivial, trivial⟩ ?_
        exact gv_iret hD rfl ⟨I84, J85, rfl, hI84, FI84, FJ85, ⟨_, rfl, by omega⟩⟩
    · refine gv_run 3 true hD (pc' := 24) (lv' := [(0, .inr (.inr (some 0))), (1, .inl a1)]) (st' := []) (h' := gz_up (gr_h I68 J69) 0 0 (.inl 2)) (C := (((True ∧ True) ∧ True) ∧ True)) rfl ⟨⟨⟨trivial, trivial⟩, trivial⟩, trivial⟩ ?_
      refine gr_st hI68 FI68 rfl rfl ⟨⟨by show 0 ≤ _; omega, by show _ ≤ 2; omega⟩, trivial⟩ (fun I122 hI122 FI122 q123 p123 => ?_)
      have t124 := p123 0 206 (by decide)
      have t125 := p123 0 143 (by decide)
      have t126 := p123 0 68 (by decide)
      have t127 := p123 0 1 (by decide)
      have t128 := p123 0 2 (by decide)
      have f129 := (show 0 ≤ I122 0 206 ∧ I122 0 206 ≤ 100 from (hI122 0 206).1)
      have f130 := (show 0 ≤ I122 0 143 ∧ I122 0 143 ≤ 24 from (hI122 0 143).1)
      have f131 := (show 0 ≤ I122 0 68 ∧ I122 0 68 ≤ 1000 from (hI122 0 68).1)
      have f132 := (show 0 ≤ I122 0 1 ∧ I122 0 1 ≤ 8 from (hI122 0 1).1)
      have f133 := (show 0 ≤ I122 0 2 ∧ I122 0 2 ≤ 32 from (hI122 0 2).1)
      refine gv_run 1 true hD (pc' := 25) (lv' := [(0, .inr (.inr (some 0))), (1, .inl a1)]) (st' := [.inl 0]) (h' := gr_h I122 J69) (C := (True ∧ True)) rfl ⟨trivial, trivial⟩ ?_
      exact gv_iret hD rfl ⟨I122, J69, rfl, hI122, FI122, FJ69, ⟨_, rfl, by omega⟩⟩
  · refine gv_run 1 true hD (pc' := 9) (lv' := [(0, .inr (.inr (some 0))), (1, .inl a1)]) (st' := [.inl 0]) (h' := gr_h I68 J69) (C := (True ∧ True)) rfl ⟨trivial, trivial⟩ ?_
    exact gv_iret hD rfl ⟨I68, J69, rfl, hI68, FI68, FJ69, ⟨_, rfl, by omega⟩⟩
set_option maxHeartbeats 4000000 in
set_option maxRecDepth 100000 in
theorem r_ask_t {ws0 : List Cond} {tb : String → gz_T} (hws : ∀ w ∈ gr_ws, w ∈ ws0) (htb : tb RX13 = gr_T) (ext : gz_Sh) (I : gr_I) (J : gr_J) (hI : gr_Inv I) (a1 : Int) (ha1 : (-2147483648) ≤ a1 ∧ a1 ≤ 2147483647)  : ∃ r h', gz_Ev ws0 tb 11 (yX13_ask, cX13_ask, 7, (some .int)) [.inr (.inr (some 0)), .inl a1] (gr_sh ++ ext) (gr_h I J) r (gr_sh ++ ext) h' 0 0 ∧ (∃ (I' : gr_I) (J' : gr_J), h' = gr_h I' J' ∧ gr_Inv I' ∧ gr_fr [0, 68, 69, 71, 72, 73, 74, 75, 126, 127, 128, 211] [51, 57, 76, 77, 78, 79, 130, 131, 132, 133] I I' ∧ gr_fj [0, 68, 69, 71, 72, 73, 74, 75, 126, 127, 128, 211] [51, 57, 76, 77, 78, 79, 130, 131, 132, 133] J J' ∧ (∃ z : Int, r = some (.inl z) ∧ (-3) ≤ z ∧ z ≤ 2400 ∧ ((0 ≤ a1 ∧ a1 < I 0 1) → I' 0 68 = 0) ∧ (¬ (0 ≤ a1 ∧ a1 < I 0 1) → I' 0 68 = I 0 68))) := by
  have FI : gr_fr [0, 68, 69, 71, 72, 73, 74, 75, 126, 127, 128, 211] [51, 57, 76, 77, 78, 79, 130, 131, 132, 133] I I := fun _ _ _ => rfl
  have FJ : gr_fj [0, 68, 69, 71, 72, 73, 74, 75, 126, 127, 128, 211] [51, 57, 76, 77, 78, 79, 130, 131, 132, 133] J J := fun _ _ _ => rfl
  have hD : gv_D (gr_E ws0 tb 10 (yX13_ask, cX13_ask, 7, (some .int)) kX13_ask) := gq_ok oX13_ask
  refine gr_ev (d := 10) (l := kX13_ask) (Po := fun r h' => (∃ (I' : gr_I) (J' : gr_J), h' = gr_h I' J' ∧ gr_Inv I' ∧ gr_fr [0, 68, 69, 71, 72, 73, 74, 75, 126, 127, 128, 211] [51, 57, 76, 77, 78, 79, 130, 131, 132, 133] I I' ∧ gr_fj [0, 68, 69, 71, 72, 73, 74, 75, 126, 127, 128, 211] [51, 57, 76, 77, 78, 79, 130, 131, 132, 133] J J' ∧ (∃ z : Int, r = some (.inl z) ∧ (-3) ≤ z ∧ z ≤ 2400 ∧ ((0 ≤ a1 ∧ a1 < I 0 1) → I' 0 68 = 0) ∧ (¬ (0 ≤ a1 ∧ a1 < I 0 1) → I' 0 68 = I 0 68)))) htb rfl (Nat.le_of_ble_eq_true rfl) ?_
  have f1 := (show 0 ≤ I 0 71 ∧ I 0 71 ≤ 5 from (hI 0 71).1)
  have f2 := (show 0 ≤ I 0 72 ∧ I 0 72 ≤ 1000 from (hI 0 72).1)
  have f3 := (show 0 ≤ I 0 73 ∧ I 0 73 ≤ 1001 from (hI 0 73).1)
  have f4 := (show 0 ≤ I 0 69 ∧ I 0 69 ≤ 1000 from (hI 0 69).1)
  have f5 := (show 0 ≤ I 0 211 ∧ I 0 211 ≤ 2400 from (hI 0 211).1)
  have f6 := (show 0 ≤ I 0 206 ∧ I 0 206 ≤ 100 from (hI 0 206).1)
  have f7 := (show 0 ≤ I 0 68 ∧ I 0 68 ≤ 1000 from (hI 0 68).1)
  have f8 := (show 0 ≤ I 0 1 ∧ I 0 1 ≤ 8 from (hI 0 1).1)
  have f9 := (show 0 ≤ I 0 2 ∧ I 0 2 ≤ 32 from (hI 0 2).1)
  have L30 : ∀ (n : Nat) (I10 : gr_I) (J11 : gr_J) (v2_12 : Int), (1001 - I10 0 72).toNat < n → gr_Inv I10 → gr_fr [0, 68, 69, 71, 72, 73, 74, 75, 126, 127, 128, 211] [51, 57, 76, 77, 78, 79, 130, 131, 132, 133] I I10 → gr_fj [0, 68, 69, 71, 72, 73, 74, 75, 126, 127, 128, 211] [51, 57, 76, 77, 78, 79, 130, 131, 132, 133] J J11 → ((0 ≤ a1 ∧ a1 ≤ 7) ∧ (0 ≤ v2_12 ∧ v2_12 ≤ 8) ∧ (I10 0 71 = 5 ∨ I10 0 73 ≤ I10 0 69) ∧ (I10 0 72 ≤ I10 0 69) ∧ (I10 0 71 = 0 ∨ (I10 0 72 < I10 0 73 ∧ I10 0 72 < I10 0 69)) ∧ (I10 0 71 = 3 → 2 ≤ I10 0 73 - I10 0 72 ∧ I10 0 73 - I10 0 72 ≤ 14) ∧ (I10 0 72 ≤ I10 0 73) ∧ (I10 0 211 ≤ 0) ∧ (I10 0 68 = 0) ∧ ((0 ≤ a1 ∧ a1 < I 0 1))) → (gr_AS I10 v2_12) → gv_X (gr_E ws0 tb 10 (yX13_ask, cX13_ask, 7, (some .int)) kX13_ask) (gv_Q cX13_ask (some .int) (gr_sh ++ ext) (fun r h' => (∃ (I' : gr_I) (J' : gr_J), h' = gr_h I' J' ∧ gr_Inv I' ∧ gr_fr [0, 68, 69, 71, 72, 73, 74, 75, 126, 127, 128, 211] [51, 57, 76, 77, 78, 79, 130, 131, 132, 133] I I' ∧ gr_fj [0, 68, 69, 71, 72, 73, 74, 75, 126, 127, 128, 211] [51, 57, 76, 77, 78, 79, 130, 131, 132, 133] J J' ∧ (∃ z : Int, r = some (.inl z) ∧ (-3) ≤ z ∧ z ≤ 2400 ∧ ((0 ≤ a1 ∧ a1 < I 0 1) → I' 0 68 = 0) ∧ (¬ (0 ≤ a1 ∧ a1 < I 0 1) → I' 0 68 = I 0 68))))) (30, [(0, .inr (.inr (some 0))), (1, .inl a1), (2, .inl v2_12)], [], gr_sh ++ ext, gr_h I10 J11) := by
    intro n
    induction n with
    | zero => intro I10 J11 v2_12 hn; omega
    | succ n ih30 =>
      intro I10 J11 v2_12 hn hI10 FI10 FJ11 m_12 e5_12
      obtain ⟨ha1_12, hv2_12, e0_12, e1_12, e2_12, e3_12, e4_12, e6_12, e7_12, e8_12⟩ := m_12
      have f13 := (show 0 ≤ I10 0 71 ∧ I10 0 71 ≤ 5 from (hI10 0 71).1)
      have f14 := (show 0 ≤ I10 0 72 ∧ I10 0 72 ≤ 1000 from (hI10 0 72).1)
      have f15 := (show 0 ≤ I10 0 73 ∧ I10 0 73 ≤ 1001 from (hI10 0 73).1)
      have f16 := (show 0 ≤ I10 0 69 ∧ I10 0 69 ≤ 1000 from (hI10 0 69).1)
      have f17 := (show 0 ≤ I10 0 211 ∧ I10 0 211 ≤ 2400 from (hI10 0 211).1)
      have f18 := (show 0 ≤ I10 0 206 ∧ I10 0 206 ≤ 100 from (hI10 0 206).1)
      have f19 := (show 0 ≤ I10 0 68 ∧ I10 0 68 ≤ 1000 from (hI10 0 68).1)
      have f20 := (show 0 ≤ I10 0 1 ∧ I10 0 1 ≤ 8 from (hI10 0 1).1)
      have f21 := (show 0 ≤ I10 0 2 ∧ I10 0 2 ≤ 32 from (hI10 0 2).1)
      have L154 : ∀ (I22 : gr_I) (J23 : gr_J) , gr_Inv I22 → gr_fr [0, 68, 69, 71, 72, 73, 74, 75, 126, 127, 128, 211] [51, 57, 76, 77, 78, 79, 130, 131, 132, 133] I I22 → gr_fj [0, 68, 69, 71, 72, 73, 74, 75, 126, 127, 128, 211] [51, 57, 76, 77, 78, 79, 130, 131, 132, 133] J J23 → ((0 ≤ a1 ∧ a1 ≤ 7) ∧ (0 ≤ v2_12 ∧ v2_12 ≤ 7) ∧ (I22 0 71 = 5 ∨ I22 0 73 ≤ I22 0 69) ∧ (I22 0 72 ≤ I22 0 69) ∧ (I22 0 71 = 0 ∨ (I22 0 72 < I22 0 73 ∧ I22 0 72 < I22 0 69)) ∧ (I22 0 71 = 3 → 2 ≤ I22 0 73 - I22 0 72 ∧ I22 0 73 - I22 0 72 ≤ 14) ∧ (I22 0 72 ≤ I22 0 73) ∧ (I22 0 211 ≤ 0) ∧ (¬ I22 0 71 = 0) ∧ (¬ I22 0 71 = 5) ∧ (I10 0 72 = I22 0 72) ∧ (I22 0 68 = 0) ∧ ((0 ≤ a1 ∧ a1 < I 0 1))) → (gr_AS I22 (v2_12 + 1)) → gv_X (gr_E ws0 tb 10 (yX13_ask, cX13_ask, 7, (some .int)) kX13_ask) (gv_Q cX13_ask (some .int) (gr_sh ++ ext) (fun r h' => (∃ (I' : gr_I) (J' : gr_J), h' = gr_h I' J' ∧ gr_Inv I' ∧ gr_fr [0, 68, 69, 71, 72, 73, 74, 75, 126, 127, 128, 211] [51, 57, 76, 77, 78, 79, 130, 131, 132, 133] I I' ∧ gr_fj [0, 68, 69, 71, 72, 73, 74, 75, 126, 127, 128, 211] [51, 57, 76, 77, 78, 79, 130, 131, 132, 133] J J' ∧ (∃ z : Int, r = some (.inl z) ∧ (-3) ≤ z ∧ z ≤ 2400 ∧ ((0 ≤ a1 ∧ a1 < I 0 1) → I' 0 68 = 0) ∧ (¬ (0 ≤ a1 ∧ a1 < I 0 1) → I' 0 68 = I 0 68))))) (154, [(0, .inr (.inr (some 0))), (1, .inl a1), (2, .inl v2_12)], [], gr_sh ++ ext, gr_h I22 J23) := by
        intro I22 J23 hI22 FI22 FJ23 m_24 e5_24
        clear ha1_12 hv2_12 e0_12 e1_12 e2_12 e3_12 e4_12 e6_12 e7_12 e8_12 f13 f14 f15 f16 f17 f18 f19 f20 f21
        obtain ⟨ha1_24, hv2_12_24, e0_24, e1_24, e2_24, e3_24, e4_24, e6_24, e7_24, e8_24, e9_24, e10_24, e11_24⟩ := m_24
        have f25 := (show 0 ≤ I22 0 71 ∧ I22 0 71 ≤ 5 from (hI22 0 71).1)
        have f26 := (show 0 ≤ I22 0 72 ∧ I22 0 72 ≤ 1000 from (hI22 0 72).1)
        have f27 := (show 0 ≤ I22 0 73 ∧ I22 0 73 ≤ 1001 from (hI22 0 73).1)
        have f28 := (show 0 ≤ I22 0 69 ∧ I22 0 69 ≤ 1000 from (hI22 0 69).1)
        have f29 := (show 0 ≤ I22 0 211 ∧ I22 0 211 ≤ 2400 from (hI22 0 211).1)
        have f30 := (show 0 ≤ I22 0 206 ∧ I22 0 206 ≤ 100 from (hI22 0 206).1)
        have f31 := (show 0 ≤ I22 0 68 ∧ I22 0 68 ≤ 1000 from (hI22 0 68).1)
        have f32 := (show 0 ≤ I22 0 1 ∧ I22 0 1 ≤ 8 from (hI22 0 1).1)
        have f33 := (show 0 ≤ I22 0 2 ∧ I22 0 2 ≤ 32 from (hI22 0 2).1)
        refine gv_run 2 true hD (pc' := 158) (lv' := [(2, .inl (v2_12 + 1)), (0, .inr (.inr (some 0))), (1, .inl a1)]) (st' := [.inr (.inr (some 0))]) (h' := gr_h I22 J23) (C := ((True ∧ True) ∧ True)) rfl ⟨⟨trivial, trivial⟩, trivial⟩ ?_
        obtain ⟨r34, h34, E34, P34⟩ := r_next (ws0 := ws0) (tb := tb) hws htb ext I22 J23 hI22   (by omega)
        obtain ⟨I35, J36, rfl, hI35, g34, k34, ⟨rfl, q34⟩⟩ := P34
        have FI35 := gr_frt FI22 g34 rfl rfl
        have FJ36 := gr_fjt FJ23 k34 rfl rfl
        have t37 := g34 0 69 rfl
        have t38 := g34 0 211 rfl
        have t39 := g34 0 206 rfl
        have t40 := g34 0 68 rfl
        have t41 := g34 0 1 rfl
        have t42 := g34 0 2 rfl
        have t43 := g34 130 (Int.toNat ((v2_12 + 1))) rfl
        have t44 := g34 131 (Int.toNat ((v2_12 + 1))) rfl
        have f45 := (show 0 ≤ I35 0 71 ∧ I35 0 71 ≤ 5 from (hI35 0 71).1)
        have f46 := (show 0 ≤ I35 0 72 ∧ I35 0 72 ≤ 1000 from (hI35 0 72).1)
        have f47 := (show 0 ≤ I35 0 73 ∧ I35 0 73 ≤ 1001 from (hI35 0 73).1)
        have f48 := (show 0 ≤ I35 0 69 ∧ I35 0 69 ≤ 1000 from (hI35 0 69).1)
        have f49 := (show 0 ≤ I35 0 211 ∧ I35 0 211 ≤ 2400 from (hI35 0 211).1)
        have f50 := (show 0 ≤ I35 0 206 ∧ I35 0 206 ≤ 100 from (hI35 0 206).1)
        have f51 := (show 0 ≤ I35 0 68 ∧ I35 0 68 ≤ 1000 from (hI35 0 68).1)
        have f52 := (show 0 ≤ I35 0 1 ∧ I35 0 1 ≤ 8 from (hI35 0 1).1)
        have f53 := (show 0 ≤ I35 0 2 ∧ I35 0 2 ≤ 32 from (hI35 0 2).1)
        refine gv_callV hD rfl (As := []) (st := []) rfl (by decide) rfl rfl (gr_lV hws rfl) (Nat.le_of_ble_eq_true rfl) (gz_Ev_mono (d := 10) (by decide) E34) ?_
        show gv_X _ _ (161, [(2, .inl (v2_12 + 1)), (0, .inr (.inr (some 0))), (1, .inl a1)], [], gr_sh ++ ext, gr_h I35 J36)
        refine gv_run 1 true hD (pc' := 30) (lv' := [(2, .inl (v2_12 + 1)), (0, .inr (.inr (some 0))), (1, .inl a1)]) (st' := []) (h' := gr_h I35 J36) (C := (True ∧ True)) rfl ⟨trivial, trivial⟩ ?_
        refine gv_pick [1, 2, 0] rfl ?_
        exact ih30 I35 J36 (v2_12 + 1) (by omega) hI35 FI35 FJ36 (by omega) (gr_AS_fr e5_24 (fun k => g34 130 k rfl) (fun k => g34 131 k rfl))
      have L178 : ∀ (n : Nat) (I54 : gr_I) (J55 : gr_J) (v3_56 : Int), (101 - v3_56).toNat < n → gr_Inv I54 → gr_fr [0, 68, 69, 71, 72, 73, 74, 75, 126, 127, 128, 211] [51, 57, 76, 77, 78, 79, 130, 131, 132, 133] I I54 → gr_fj [0, 68, 69, 71, 72, 73, 74, 75, 126, 127, 128, 211] [51, 57, 76, 77, 78, 79, 130, 131, 132, 133] J J55 → ((0 ≤ a1 ∧ a1 ≤ 7) ∧ (1 ≤ v2_12 ∧ v2_12 ≤ 8) ∧ (0 ≤ v3_56 ∧ v3_56 ≤ 100) ∧ (I54 0 211 ≤ 24 * v3_56) ∧ (I54 0 68 = 0) ∧ ((0 ≤ a1 ∧ a1 < I 0 1))) → (gr_AS I54 v2_12) → gv_X (gr_E ws0 tb 10 (yX13_ask, cX13_ask, 7, (some .int)) kX13_ask) (gv_Q cX13_ask (some .int) (gr_sh ++ ext) (fun r h' => (∃ (I' : gr_I) (J' : gr_J), h' = gr_h I' J' ∧ gr_Inv I' ∧ gr_fr [0, 68, 69, 71, 72, 73, 74, 75, 126, 127, 128, 211] [51, 57, 76, 77, 78, 79, 130, 131, 132, 133] I I' ∧ gr_fj [0, 68, 69, 71, 72, 73, 74, 75, 126, 127, 128, 211] [51, 57, 76, 77, 78, 79, 130, 131, 132, 133] J J' ∧ (∃ z : Int, r = some (.inl z) ∧ (-3) ≤ z ∧ z ≤ 2400 ∧ ((0 ≤ a1 ∧ a1 < I 0 1) → I' 0 68 = 0) ∧ (¬ (0 ≤ a1 ∧ a1 < I 0 1) → I' 0 68 = I 0 68))))) (178, [(0, .inr (.inr (some 0))), (1, .inl a1), (2, .inl v2_12), (3, .inl v3_56)], [], gr_sh ++ ext, gr_h I54 J55) := by
        intro n
        induction n with
        | zero => intro I54 J55 v3_56 hn; omega
        | succ n ih178 =>
          intro I54 J55 v3_56 hn hI54 FI54 FJ55 m_56 e1_56
          clear ha1_12 hv2_12 e0_12 e1_12 e2_12 e3_12 e4_12 e6_12 e7_12 e8_12 f13 f14 f15 f16 f17 f18 f19 f20 f21
          obtain ⟨ha1_56, hv2_12_56, hv3_56, e0_56, e2_56, e3_56⟩ := m_56
          have f57 := (show 0 ≤ I54 0 71 ∧ I54 0 71 ≤ 5 from (hI54 0 71).1)
          have f58 := (show 0 ≤ I54 0 72 ∧ I54 0 72 ≤ 1000 from (hI54 0 72).1)
          have f59 := (show 0 ≤ I54 0 73 ∧ I54 0 73 ≤ 1001 from (hI54 0 73).1)
          have f60 := (show 0 ≤ I54 0 69 ∧ I54 0 69 ≤ 1000 from (hI54 0 69).1)
          have f61 := (show 0 ≤ I54 0 211 ∧ I54 0 211 ≤ 2400 from (hI54 0 211).1)
          have f62 := (show 0 ≤ I54 0 206 ∧ I54 0 206 ≤ 100 from (hI54 0 206).1)
          have f63 := (show 0 ≤ I54 0 68 ∧ I54 0 68 ≤ 1000 from (hI54 0 68).1)
          have f64 := (show 0 ≤ I54 0 1 ∧ I54 0 1 ≤ 8 from (hI54 0 1).1)
          have f65 := (show 0 ≤ I54 0 2 ∧ I54 0 2 ≤ 32 from (hI54 0 2).1)
          have L299 : ∀ (I66 : gr_I) (J67 : gr_J) , gr_Inv I66 → gr_fr [0, 68, 69, 71, 72, 73, 74, 75, 126, 127, 128, 211] [51, 57, 76, 77, 78, 79, 130, 131, 132, 133] I I66 → gr_fj [0, 68, 69, 71, 72, 73, 74, 75, 126, 127, 128, 211] [51, 57, 76, 77, 78, 79, 130, 131, 132, 133] J J67 → ((0 ≤ a1 ∧ a1 ≤ 7) ∧ (1 ≤ v2_12 ∧ v2_12 ≤ 8) ∧ (0 ≤ v3_56 ∧ v3_56 ≤ 99) ∧ (I66 0 211 ≤ 24 * v3_56 + 24) ∧ (I66 0 68 = 0) ∧ ((0 ≤ a1 ∧ a1 < I 0 1))) → (gr_AS I66 v2_12) → gv_X (gr_E ws0 tb 10 (yX13_ask, cX13_ask, 7, (some .int)) kX13_ask) (gv_Q cX13_ask (some .int) (gr_sh ++ ext) (fun r h' => (∃ (I' : gr_I) (J' : gr_J), h' = gr_h I' J' ∧ gr_Inv I' ∧ gr_fr [0, 68, 69, 71, 72, 73, 74, 75, 126, 127, 128, 211] [51, 57, 76, 77, 78, 79, 130, 131, 132, 133] I I' ∧ gr_fj [0, 68, 69, 71, 72, 73, 74, 75, 126, 127, 128, 211] [51, 57, 76, 77, 78, 79, 130, 131, 132, 133] J J' ∧ (∃ z : Int, r = some (.inl z) ∧ (-3) ≤ z ∧ z ≤ 2400 ∧ ((0 ≤ a1 ∧ a1 < I 0 1) → I' 0 68 = 0) ∧ (¬ (0 ≤ a1 ∧ a1 < I 0 1) → I' 0 68 = I 0 68))))) (299, [(0, .inr (.inr (some 0))), (1, .inl a1), (2, .inl v2_12), (3, .inl v3_56)], [], gr_sh ++ ext, gr_h I66 J67) := by
            intro I66 J67 hI66 FI66 FJ67 m_68 e1_68
            clear ha1_56 hv2_12_56 hv3_56 e0_56 e2_56 e3_56 f57 f58 f59 f60 f61 f62 f63 f64 f65
            obtain ⟨ha1_68, hv2_12_68, hv3_56_68, e0_68, e2_68, e3_68⟩ := m_68
            have f69 := (show 0 ≤ I66 0 71 ∧ I66 0 71 ≤ 5 from (hI66 0 71).1)
            have f70 := (show 0 ≤ I66 0 72 ∧ I66 0 72 ≤ 1000 from (hI66 0 72).1)
            have f71 := (show 0 ≤ I66 0 73 ∧ I66 0 73 ≤ 1001 from (hI66 0 73).1)
            have f72 := (show 0 ≤ I66 0 69 ∧ I66 0 69 ≤ 1000 from (hI66 0 69).1)
            have f73 := (show 0 ≤ I66 0 211 ∧ I66 0 211 ≤ 2400 from (hI66 0 211).1)
            have f74 := (show 0 ≤ I66 0 206 ∧ I66 0 206 ≤ 100 from (hI66 0 206).1)
            have f75 := (show 0 ≤ I66 0 68 ∧ I66 0 68 ≤ 1000 from (hI66 0 68).1)
            have f76 := (show 0 ≤ I66 0 1 ∧ I66 0 1 ≤ 8 from (hI66 0 1).1)
            have f77 := (show 0 ≤ I66 0 2 ∧ I66 0 2 ≤ 32 from (hI66 0 2).1)
            refine gv_run 2 true hD (pc' := 178) (lv' := [(3, .inl (v3_56 + 1)), (0, .inr (.inr (some 0))), (1, .inl a1), (2, .inl v2_12)]) (st' := []) (h' := gr_h I66 J67) (C := ((True ∧ True) ∧ True)) rfl ⟨⟨trivial, trivial⟩, trivial⟩ ?_
            refine gv_pick [1, 2, 3, 0] rfl ?_
            exact ih178 I66 J67 (v3_56 + 1) (by omega) hI66 FI66 FJ67 (by omega) e1_68
          have L202 : ∀ (n : Nat) (I78 : gr_I) (J79 : gr_J) (v4_80 : Int), (25 - v4_80).toNat < n → gr_Inv I78 → gr_fr [0, 68, 69, 71, 72, 73, 74, 75, 126, 127, 128, 211] [51, 57, 76, 77, 78, 79, 130, 131, 132, 133] I I78 → gr_fj [0, 68, 69, 71, 72, 73, 74, 75, 126, 127, 128, 211] [51, 57, 76, 77, 78, 79, 130, 131, 132, 133] J J79 → ((0 ≤ a1 ∧ a1 ≤ 7) ∧ (1 ≤ v2_12 ∧ v2_12 ≤ 8) ∧ (0 ≤ v3_56 ∧ v3_56 ≤ 99) ∧ (0 ≤ v4_80 ∧ v4_80 ≤ 24) ∧ (I78 0 211 ≤ 24 * v3_56 + v4_80) ∧ (I78 0 68 = 0) ∧ ((0 ≤ a1 ∧ a1 < I 0 1))) → (gr_AS I78 v2_12) → gv_X (gr_E ws0 tb 10 (yX13_ask, cX13_ask, 7, (some .int)) kX13_ask) (gv_Q cX13_ask (some .int) (gr_sh ++ ext) (fun r h' => (∃ (I' : gr_I) (J' : gr_J), h' = gr_h I' J' ∧ gr_Inv I' ∧ gr_fr [0, 68, 69, 71, 72, 73, 74, 75, 126, 127, 128, 211] [51, 57, 76, 77, 78, 79, 130, 131, 132, 133] I I' ∧ gr_fj [0, 68, 69, 71, 72, 73, 74, 75, 126, 127, 128, 211] [51, 57, 76, 77, 78, 79, 130, 131, 132, 133] J J' ∧ (∃ z : Int, r = some (.inl z) ∧ (-3) ≤ z ∧ z ≤ 2400 ∧ ((0 ≤ a1 ∧ a1 < I 0 1) → I' 0 68 = 0) ∧ (¬ (0 ≤ a1 ∧ a1 < I 0 1) → I' 0 68 = I 0 68))))) (202, [(0, .inr (.inr (some 0))), (1, .inl a1), (2, .inl v2_12), (3, .inl v3_56), (4, .inl v4_80)], [], gr_sh ++ ext, gr_h I78 J79) := by
            intro n
            induction n with
            | zero => intro I78 J79 v4_80 hn; omega
            | succ n ih202 =>
              intro I78 J79 v4_80 hn hI78 FI78 FJ79 m_80 e1_80
              clear ha1_56 hv2_12_56 hv3_56 e0_56 e2_56 e3_56 f57 f58 f59 f60 f61 f62 f63 f64 f65
              obtain ⟨ha1_80, hv2_12_80, hv3_56_80, hv4_80, e0_80, e2_80, e3_80⟩ := m_80
              have f81 := (show 0 ≤ I78 0 71 ∧ I78 0 71 ≤ 5 from (hI78 0 71).1)
              have f82 := (show 0 ≤ I78 0 72 ∧ I78 0 72 ≤ 1000 from (hI78 0 72).1)
              have f83 := (show 0 ≤ I78 0 73 ∧ I78 0 73 ≤ 1001 from (hI78 0 73).1)
              have f84 := (show 0 ≤ I78 0 69 ∧ I78 0 69 ≤ 1000 from (hI78 0 69).1)
              have f85 := (show 0 ≤ I78 0 211 ∧ I78 0 211 ≤ 2400 from (hI78 0 211).1)
              have f86 := (show 0 ≤ I78 0 206 ∧ I78 0 206 ≤ 100 from (hI78 0 206).1)
              have f87 := (show 0 ≤ I78 0 68 ∧ I78 0 68 ≤ 1000 from (hI78 0 68).1)
              have f88 := (show 0 ≤ I78 0 1 ∧ I78 0 1 ≤ 8 from (hI78 0 1).1)
              have f89 := (show 0 ≤ I78 0 2 ∧ I78 0 2 ≤ 32 from (hI78 0 2).1)
              have L221 : ∀ (n : Nat) (v5_90 : Int) (v6_90 : Int), (9 - v6_90).toNat < n → ((0 ≤ a1 ∧ a1 ≤ 7) ∧ (1 ≤ v2_12 ∧ v2_12 ≤ 8) ∧ (0 ≤ v3_56 ∧ v3_56 ≤ 99) ∧ (0 ≤ v4_80 ∧ v4_80 ≤ 23) ∧ (0 ≤ v5_90 ∧ v5_90 ≤ 1) ∧ (0 ≤ v6_90 ∧ v6_90 ≤ 8) ∧ (v4_80 + v2_12 ≤ 24) ∧ (I78 0 211 ≤ 24 * v3_56 + v4_80) ∧ (I78 0 68 = 0) ∧ ((0 ≤ a1 ∧ a1 < I 0 1))) → (gr_AS I78 v2_12) → gv_X (gr_E ws0 tb 10 (yX13_ask, cX13_ask, 7, (some .int)) kX13_ask) (gv_Q cX13_ask (some .int) (gr_sh ++ ext) (fun r h' => (∃ (I' : gr_I) (J' : gr_J), h' = gr_h I' J' ∧ gr_Inv I' ∧ gr_fr [0, 68, 69, 71, 72, 73, 74, 75, 126, 127, 128, 211] [51, 57, 76, 77, 78, 79, 130, 131, 132, 133] I I' ∧ gr_fj [0, 68, 69, 71, 72, 73, 74, 75, 126, 127, 128, 211] [51, 57, 76, 77, 78, 79, 130, 131, 132, 133] J J' ∧ (∃ z : Int, r = some (.inl z) ∧ (-3) ≤ z ∧ z ≤ 2400 ∧ ((0 ≤ a1 ∧ a1 < I 0 1) → I' 0 68 = 0) ∧ (¬ (0 ≤ a1 ∧ a1 < I 0 1) → I' 0 68 = I 0 68))))) (221, [(0, .inr (.inr (some 0))), (1, .inl a1), (2, .inl v2_12), (3, .inl v3_56), (4, .inl v4_80), (5, .inl v5_90), (6, .inl v6_90)], [], gr_sh ++ ext, gr_h I78 J79) := by
                intro n
                induction n with
                | zero => intro v5_90 v6_90 hn; omega
                | succ n ih221 =>
                  intro v5_90 v6_90 hn m_90 e1_90
                  obtain ⟨ha1_90, hv2_12_90, hv3_56_90, hv4_80_90, hv5_90, hv6_90, e0_90, e2_90, e3_90, e4_90⟩ := m_90
                  have f91 := (show 0 ≤ I78 0 71 ∧ I78 0 71 ≤ 5 from (hI78 0 71).1)
                  have f92 := (show 0 ≤ I78 0 72 ∧ I78 0 72 ≤ 1000 from (hI78 0 72).1)
                  have f93 := (show 0 ≤ I78 0 73 ∧ I78 0 73 ≤ 1001 from (hI78 0 73).1)
                  have f94 := (show 0 ≤ I78 0 69 ∧ I78 0 69 ≤ 1000 from (hI78 0 69).1)
                  have f95 := (show 0 ≤ I78 0 211 ∧ I78 0 211 ≤ 2400 from (hI78 0 211).1)
                  have f96 := (show 0 ≤ I78 0 206 ∧ I78 0 206 ≤ 100 from (hI78 0 206).1)
                  have f97 := (show 0 ≤ I78 0 68 ∧ I78 0 68 ≤ 1000 from (hI78 0 68).1)
                  have f98 := (show 0 ≤ I78 0 1 ∧ I78 0 1 ≤ 8 from (hI78 0 1).1)
                  have f99 := (show 0 ≤ I78 0 2 ∧ I78 0 2 ≤ 32 from (hI78 0 2).1)
                  have L257 : ((0 ≤ a1 ∧ a1 ≤ 7) ∧ (1 ≤ v2_12 ∧ v2_12 ≤ 8) ∧ (0 ≤ v3_56 ∧ v3_56 ≤ 99) ∧ (0 ≤ v4_80 ∧ v4_80 ≤ 23) ∧ (0 ≤ v5_90 ∧ v5_90 ≤ 1) ∧ (v4_80 + v2_12 ≤ 24) ∧ (I78 0 211 ≤ 24 * v3_56 + v4_80) ∧ (I78 0 68 = 0) ∧ ((0 ≤ a1 ∧ a1 < I 0 1))) → (gr_AS I78 v2_12) → gv_X (gr_E ws0 tb 10 (yX13_ask, cX13_ask, 7, (some .int)) kX13_ask) (gv_Q cX13_ask (some .int) (gr_sh ++ ext) (fun r h' => (∃ (I' : gr_I) (J' : gr_J), h' = gr_h I' J' ∧ gr_Inv I' ∧ gr_fr [0, 68, 69, 71, 72, 73, 74, 75, 126, 127, 128, 211] [51, 57, 76, 77, 78, 79, 130, 131, 132, 133] I I' ∧ gr_fj [0, 68, 69, 71, 72, 73, 74, 75, 126, 127, 128, 211] [51, 57, 76, 77, 78, 79, 130, 131, 132, 133] J J' ∧ (∃ z : Int, r = some (.inl z) ∧ (-3) ≤ z ∧ z ≤ 2400 ∧ ((0 ≤ a1 ∧ a1 < I 0 1) → I' 0 68 = 0) ∧ (¬ (0 ≤ a1 ∧ a1 < I 0 1) → I' 0 68 = I 0 68))))) (257, [(0, .inr (.inr (some 0))), (1, .inl a1), (2, .inl v2_12), (3, .inl v3_56), (4, .inl v4_80), (5, .inl v5_90)], [], gr_sh ++ ext, gr_h I78 J79) := by
                    intro m_100 e1_100
                    obtain ⟨ha1_100, hv2_12_100, hv3_56_100, hv4_80_100, hv5_90_100, e0_100, e2_100, e3_100, e4_100⟩ := m_100
                    have f101 := (show 0 ≤ I78 0 71 ∧ I78 0 71 ≤ 5 from (hI78 0 71).1)
                    have f102 := (show 0 ≤ I78 0 72 ∧ I78 0 72 ≤ 1000 from (hI78 0 72).1)
                    have f103 := (show 0 ≤ I78 0 73 ∧ I78 0 73 ≤ 1001 from (hI78 0 73).1)
                    have f104 := (show 0 ≤ I78 0 69 ∧ I78 0 69 ≤ 1000 from (hI78 0 69).1)
                    have f105 := (show 0 ≤ I78 0 211 ∧ I78 0 211 ≤ 2400 from (hI78 0 211).1)
                    have f106 := (show 0 ≤ I78 0 206 ∧ I78 0 206 ≤ 100 from (hI78 0 206).1)
                    have f107 := (show 0 ≤ I78 0 68 ∧ I78 0 68 ≤ 1000 from (hI78 0 68).1)
                    have f108 := (show 0 ≤ I78 0 1 ∧ I78 0 1 ≤ 8 from (hI78 0 1).1)
                    have f109 := (show 0 ≤ I78 0 2 ∧ I78 0 2 ≤ 32 from (hI78 0 2).1)
                    have L293 : ∀ (I110 : gr_I) (J111 : gr_J) , gr_Inv I110 → gr_fr [0, 68, 69, 71, 72, 73, 74, 75, 126, 127, 128, 211] [51, 57, 76, 77, 78, 79, 130, 131, 132, 133] I I110 → gr_fj [0, 68, 69, 71, 72, 73, 74, 75, 126, 127, 128, 211] [51, 57, 76, 77, 78, 79, 130, 131, 132, 133] J J111 → ((0 ≤ a1 ∧ a1 ≤ 7) ∧ (1 ≤ v2_12 ∧ v2_12 ≤ 8) ∧ (0 ≤ v3_56 ∧ v3_56 ≤ 99) ∧ (0 ≤ v4_80 ∧ v4_80 ≤ 23) ∧ (I110 0 211 ≤ 24 * v3_56 + v4_80 + 1) ∧ (I110 0 68 = 0) ∧ ((0 ≤ a1 ∧ a1 < I 0 1))) → (gr_AS I110 v2_12) → gv_X (gr_E ws0 tb 10 (yX13_ask, cX13_ask, 7, (some .int)) kX13_ask) (gv_Q cX13_ask (some .int) (gr_sh ++ ext) (fun r h' => (∃ (I' : gr_I) (J' : gr_J), h' = gr_h I' J' ∧ gr_Inv I' ∧ gr_fr [0, 68, 69, 71, 72, 73, 74, 75, 126, 127, 128, 211] [51, 57, 76, 77, 78, 79, 130, 131, 132, 133] I I' ∧ gr_fj [0, 68, 69, 71, 72, 73, 74, 75, 126, 127, 128, 211] [51, 57, 76, 77, 78, 79, 130, 131, 132, 133] J J' ∧ (∃ z : Int, r = some (.inl z) ∧ (-3) ≤ z ∧ z ≤ 2400 ∧ ((0 ≤ a1 ∧ a1 < I 0 1) → I' 0 68 = 0) ∧ (¬ (0 ≤ a1 ∧ a1 < I 0 1) → I' 0 68 = I 0 68))))) (293, [(0, .inr (.inr (some 0))), (1, .inl a1), (2, .inl v2_12), (3, .inl v3_56), (4, .inl v4_80)], [], gr_sh ++ ext, gr_h I110 J111) := by
                      intro I110 J111 hI110 FI110 FJ111 m_112 e1_112
                      clear ha1_100 hv2_12_100 hv3_56_100 hv4_80_100 hv5_90_100 e0_100 e2_100 e3_100 e4_100 f101 f102 f103 f104 f105 f106 f107 f108 f109 ha1_90 hv2_12_90 hv3_56_90 hv4_80_90 hv5_90 hv6_90 e0_90 e2_90 e3_90 e4_90 f91 f92 f93 f94 f95 f96 f97 f98 f99 ha1_80 hv2_12_80 hv3_56_80 hv4_80 e0_80 e2_80 e3_80 f81 f82 f83 f84 f85 f86 f87 f88 f89
                      obtain ⟨ha1_112, hv2_12_112, hv3_56_112, hv4_80_112, e0_112, e2_112, e3_112⟩ := m_112
                      have f113 := (show 0 ≤ I110 0 71 ∧ I110 0 71 ≤ 5 from (hI110 0 71).1)
                      have f114 := (show 0 ≤ I110 0 72 ∧ I110 0 72 ≤ 1000 from (hI110 0 72).1)
                      have f115 := (show 0 ≤ I110 0 73 ∧ I110 0 73 ≤ 1001 from (hI110 0 73).1)
                      have f116 := (show 0 ≤ I110 0 69 ∧ I110 0 69 ≤ 1000 from (hI110 0 69).1)
                      have f117 := (show 0 ≤ I110 0 211 ∧ I110 0 211 ≤ 2400 from (hI110 0 211).1)
                      have f118 := (show 0 ≤ I110 0 206 ∧ I110 0 206 ≤ 100 from (hI110 0 206).1)
                      have f119 := (show 0 ≤ I110 0 68 ∧ I110 0 68 ≤ 1000 from (hI110 0 68).1)
                      have f120 := (show 0 ≤ I110 0 1 ∧ I110 0 1 ≤ 8 from (hI110 0 1).1)
                      have f121 := (show 0 ≤ I110 0 2 ∧ I110 0 2 ≤ 32 from (hI110 0 2).1)
                      refine gv_run 2 true hD (pc' := 202) (lv' := [(4, .inl (v4_80 + 1)), (0, .inr (.inr (some 0))), (1, .inl a1), (2, .inl v2_12), (3, .inl v3_56)]) (st' := []) (h' := gr_h I110 J111) (C := ((True ∧ True) ∧ True)) rfl ⟨⟨trivial, trivial⟩, trivial⟩ ?_
                      refine gv_pick [1, 2, 3, 4, 0] rfl ?_
                      exact ih202 I110 J111 (v4_80 + 1) (by omega) hI110 FI110 FJ111 (by omega) e1_112
                    refine gv_run 1 true hD (pc' := 259) (lv' := [(0, .inr (.inr (some 0))), (1, .inl a1), (2, .inl v2_12), (3, .inl v3_56), (4, .inl v4_80), (5, .inl v5_90)]) (st' := [.inl v5_90]) (h' := gr_h I78 J79) (C := (True ∧ True)) rfl ⟨trivial, trivial⟩ ?_
                    refine gv_if_ne (t := 265) hD rfl rfl ⟨by omega, by omega⟩ (fun c122 => ?_) (fun c122 => ?_)
                    · have f123 := (show 0 ≤ I78 0 211 ∧ I78 0 211 ≤ 2400 from (hI78 0 211).1)
                      refine gv_run 5 true hD (pc' := 274) (lv' := [(0, .inr (.inr (some 0))), (1, .inl a1), (2, .inl v2_12), (3, .inl v3_56), (4, .inl v4_80), (5, .inl v5_90)]) (st' := [.inl v3_56, .inl (I78 0 211), .inr (.inr (some 132))]) (h' := gr_h I78 J79) (C := (((((True ∧ True) ∧ True) ∧ True) ∧ True) ∧ True)) rfl ⟨⟨⟨⟨⟨trivial, trivial⟩, trivial⟩, trivial⟩, trivial⟩, trivial⟩ ?_
                      refine gv_run 1 true hD (pc' := 275) (lv' := [(0, .inr (.inr (some 0))), (1, .inl a1), (2, .inl v2_12), (3, .inl v3_56), (4, .inl v4_80), (5, .inl v5_90)]) (st' := []) (h' := gz_up (gr_h I78 J79) 132 (Int.toNat ((I78 0 211))) (.inl v3_56)) (C := (True ∧ (0 ≤ (I78 0 211) ∧ (I78 0 211) < ((2400 : Nat) : Int)))) rfl ⟨trivial, ⟨by omega, by omega⟩⟩ ?_
                      refine gr_st hI78 FI78 rfl rfl ⟨⟨by show 0 ≤ _; omega, by show _ ≤ 99; omega⟩, trivial⟩ (fun I124 hI124 FI124 q125 p125 => ?_)
                      have t126 := p125 0 71 (fun q => absurd q.1 (by decide))
                      have t127 := p125 0 72 (fun q => absurd q.1 (by decide))
                      have t128 := p125 0 73 (fun q => absurd q.1 (by decide))
                      have t129 := p125 0 69 (fun q => absurd q.1 (by decide))
                      have t130 := p125 0 211 (fun q => absurd q.1 (by decide))
                      have t131 := p125 0 206 (fun q => absurd q.1 (by decide))
                      have t132 := p125 0 68 (fun q => absurd q.1 (by decide))
                      have t133 := p125 0 1 (fun q => absurd q.1 (by decide))
                      have t134 := p125 0 2 (fun q => absurd q.1 (by decide))
                      have t135 := p125 130 (Int.toNat v2_12) (fun q => absurd q.1 (by decide))
                      have t136 := p125 131 (Int.toNat v2_12) (fun q => absurd q.1 (by decide))
                      have f137 := (show 0 ≤ I124 0 71 ∧ I124 0 71 ≤ 5 from (hI124 0 71).1)
                      have f138 := (show 0 ≤ I124 0 72 ∧ I124 0 72 ≤ 1000 from (hI124 0 72).1)
                      have f139 := (show 0 ≤ I124 0 73 ∧ I124 0 73 ≤ 1001 from (hI124 0 73).1)
                      have f140 := (show 0 ≤ I124 0 69 ∧ I124 0 69 ≤ 1000 from (hI124 0 69).1)
                      have f141 := (show 0 ≤ I124 0 211 ∧ I124 0 211 ≤ 2400 from (hI124 0 211).1)
                      have f142 := (show 0 ≤ I124 0 206 ∧ I124 0 206 ≤ 100 from (hI124 0 206).1)
                      have f143 := (show 0 ≤ I124 0 68 ∧ I124 0 68 ≤ 1000 from (hI124 0 68).1)
                      have f144 := (show 0 ≤ I124 0 1 ∧ I124 0 1 ≤ 8 from (hI124 0 1).1)
                      have f145 := (show 0 ≤ I124 0 2 ∧ I124 0 2 ≤ 32 from (hI124 0 2).1)
                      have f146 := (show 0 ≤ I124 0 211 ∧ I124 0 211 ≤ 2400 from (hI124 0 211).1)
                      refine gv_run 7 true hD (pc' := 286) (lv' := [(0, .inr (.inr (some 0))), (1, .inl a1), (2, .inl v2_12), (3, .inl v3_56), (4, .inl v4_80), (5, .inl v5_90)]) (st' := [.inl 1, .inl (I124 0 211), .inr (.inr (some 0)), .inl (I124 0 211), .inr (.inr (some 133))]) (h' := gr_h I124 J79) (C := (((((((True ∧ True) ∧ True) ∧ True) ∧ True) ∧ True) ∧ True) ∧ True)) rfl ⟨⟨⟨⟨⟨⟨⟨trivial, trivial⟩, trivial⟩, trivial⟩, trivial⟩, trivial⟩, trivial⟩, trivial⟩ ?_
                      refine gv_run 2 true hD (pc' := 290) (lv' := [(0, .inr (.inr (some 0))), (1, .inl a1), (2, .inl v2_12), (3, .inl v3_56), (4, .inl v4_80), (5, .inl v5_90)]) (st' := [.inl (I124 0 211), .inr (.inr (some 133))]) (h' := gz_up (gr_h I124 J79) 0 211 (.inl (((I124 0 211) + 1)))) (C := ((True ∧ True) ∧ True)) rfl ⟨⟨trivial, trivial⟩, trivial⟩ ?_
                      refine gr_st hI124 FI124 rfl rfl ⟨⟨by show 0 ≤ _; omega, by show _ ≤ 2400; omega⟩, trivial⟩ (fun I147 hI147 FI147 q148 p148 => ?_)
                      have t149 := p148 0 71 (by decide)
                      have t150 := p148 0 72 (by decide)
                      have t151 := p148 0 73 (by decide)
                      have t152 := p148 0 69 (by decide)
                      have t153 := p148 0 206 (by decide)
                      have t154 := p148 0 68 (by decide)
                      have t155 := p148 0 1 (by decide)
                      have t156 := p148 0 2 (by decide)
                      have t157 := p148 130 (Int.toNat v2_12) (fun q => absurd q.1 (by decide))
                      have t158 := p148 131 (Int.toNat v2_12) (fun q => absurd q.1 (by decide))
                      have f159 := (show 0 ≤ I147 0 71 ∧ I147 0 71 ≤ 5 from (hI147 0 71).1)
                      have f160 := (show 0 ≤ I147 0 72 ∧ I147 0 72 ≤ 1000 from (hI147 0 72).1)
                      have f161 := (show 0 ≤ I147 0 73 ∧ I147 0 73 ≤ 1001 from (hI147 0 73).1)
                      have f162 := (show 0 ≤ I147 0 69 ∧ I147 0 69 ≤ 1000 from (hI147 0 69).1)
                      have f163 := (show 0 ≤ I147 0 211 ∧ I147 0 211 ≤ 2400 from (hI147 0 211).1)
                      have f164 := (show 0 ≤ I147 0 206 ∧ I147 0 206 ≤ 100 from (hI147 0 206).1)
                      have f165 := (show 0 ≤ I147 0 68 ∧ I147 0 68 ≤ 1000 from (hI147 0 68).1)
                      have f166 := (show 0 ≤ I147 0 1 ∧ I147 0 1 ≤ 8 from (hI147 0 1).1)
                      have f167 := (show 0 ≤ I147 0 2 ∧ I147 0 2 ≤ 32 from (hI147 0 2).1)
                      refine gv_run 2 true hD (pc' := 293) (lv' := [(0, .inr (.inr (some 0))), (1, .inl a1), (2, .inl v2_12), (3, .inl v3_56), (4, .inl v4_80), (5, .inl v5_90)]) (st' := []) (h' := gz_up (gr_h I147 J79) 133 (Int.toNat ((I124 0 211))) (.inl v4_80)) (C := ((True ∧ True) ∧ (0 ≤ (I124 0 211) ∧ (I124 0 211) < ((2400 : Nat) : Int)))) rfl ⟨⟨trivial, trivial⟩, ⟨by omega, by omega⟩⟩ ?_
                      refine gr_st hI147 FI147 rfl rfl ⟨⟨by show 0 ≤ _; omega, by show _ ≤ 23; omega⟩, trivial⟩ (fun I168 hI168 FI168 q169 p169 => ?_)
                      have t170 := p169 0 71 (fun q => absurd q.1 (by decide))
                      have t171 := p169 0 72 (fun q => absurd q.1 (by decide))
                      have t172 := p169 0 73 (fun q => absurd q.1 (by decide))
                      have t173 := p169 0 69 (fun q => absurd q.1 (by decide))
                      have t174 := p169 0 211 (fun q => absurd q.1 (by decide))
                      have t175 := p169 0 206 (fun q => absurd q.1 (by decide))
                      have t176 := p169 0 68 (fun q => absurd q.1 (by decide))
                      have t177 := p169 0 1 (fun q => absurd q.1 (by decide))
                      have t178 := p169 0 2 (fun q => absurd q.1 (by decide))
                      have t179 := p169 130 (Int.toNat v2_12) (fun q => absurd q.1 (by decide))
                      have t180 := p169 131 (Int.toNat v2_12) (fun q => absurd q.1 (by decide))
                      have f181 := (show 0 ≤ I168 0 71 ∧ I168 0 71 ≤ 5 from (hI168 0 71).1)
                      have f182 := (show 0 ≤ I168 0 72 ∧ I168 0 72 ≤ 1000 from (hI168 0 72).1)
                      have f183 := (show 0 ≤ I168 0 73 ∧ I168 0 73 ≤ 1001 from (hI168 0 73).1)
                      have f184 := (show 0 ≤ I168 0 69 ∧ I168 0 69 ≤ 1000 from (hI168 0 69).1)
                      have f185 := (show 0 ≤ I168 0 211 ∧ I168 0 211 ≤ 2400 from (hI168 0 211).1)
                      have f186 := (show 0 ≤ I168 0 206 ∧ I168 0 206 ≤ 100 from (hI168 0 206).1)
                      have f187 := (show 0 ≤ I168 0 68 ∧ I168 0 68 ≤ 1000 from (hI168 0 68).1)
                      have f188 := (show 0 ≤ I168 0 1 ∧ I168 0 1 ≤ 8 from (hI168 0 1).1)
                      have f189 := (show 0 ≤ I168 0 2 ∧ I168 0 2 ≤ 32 from (hI168 0 2).1)
                      refine gv_pick [0, 1, 2, 3, 4] rfl ?_
                      exact L293 I168 J79 hI168 FI168 FJ79 (by omega) (gr_AS_fr (gr_AS_fr (gr_AS_fr e1_100 (fun k => p125 130 k (fun q => absurd q.1 (by decide))) (fun k => p125 131 k (fun q => absurd q.1 (by decide)))) (fun k => p148 130 k (fun q => absurd q.1 (by decide))) (fun k => p148 131 k (fun q => absurd q.1 (by decide)))) (fun k => p169 130 k (fun q => absurd q.1 (by decide))) (fun k => p169 131 k (fun q => absurd q.1 (by decide))))
                    · refine gv_run 1 true hD (pc' := 293) (lv' := [(0, .inr (.inr (some 0))), (1, .inl a1), (2, .inl v2_12), (3, .inl v3_56), (4, .inl v4_80), (5, .inl v5_90)]) (st' := []) (h' := gr_h I78 J79) (C := (True ∧ True)) rfl ⟨trivial, trivial⟩ ?_
                      refine gv_pick [0, 1, 2, 3, 4] rfl ?_
                      exact L293 I78 J79 hI78 FI78 FJ79 (by omega) e1_100
                  refine gv_run 2 true hD (pc' := 224) (lv' := [(0, .inr (.inr (some 0))), (1, .inl a1), (2, .inl v2_12), (3, .inl v3_56), (4, .inl v4_80), (5, .inl v5_90), (6, .inl v6_90)]) (st' := [.inl v2_12, .inl v6_90]) (h' := gr_h I78 J79) (C := ((True ∧ True) ∧ True)) rfl ⟨⟨trivial, trivial⟩, trivial⟩ ?_
                  refine gv_icmp_ge (t := 257) hD rfl rfl ⟨⟨by omega, by omega⟩, ⟨by omega, by omega⟩⟩ (fun c190 => ?_) (fun c190 => ?_)
                  · refine gv_pick [0, 1, 2, 3, 4, 5] rfl ?_
                    exact L257 (by omega) e1_90
                  · refine gv_run 1 true hD (pc' := 229) (lv' := [(0, .inr (.inr (some 0))), (1, .inl a1), (2, .inl v2_12), (3, .inl v3_56), (4, .inl v4_80), (5, .inl v5_90), (6, .inl v6_90)]) (st' := [.inl v5_90]) (h' := gr_h I78 J79) (C := (True ∧ True)) rfl ⟨trivial, trivial⟩ ?_
                    refine gv_if_eq (t := 257) hD rfl rfl ⟨by omega, by omega⟩ (fun c191 => ?_) (fun c191 => ?_)
                    · refine gv_pick [0, 1, 2, 3, 4, 5] rfl ?_
                      exact L257 (by omega) e1_90
                    · refine gv_run 7 true hD (pc' := 242) (lv' := [(0, .inr (.inr (some 0))), (1, .inl a1), (2, .inl v2_12), (3, .inl v3_56), (4, .inl v4_80), (5, .inl v5_90), (6, .inl v6_90)]) (st' := [.inl v4_80, .inl (24 * v3_56), .inl v6_90, .inl a1, .inr (.inr (some 0))]) (h' := gr_h I78 J79) (C := (((((((True ∧ True) ∧ True) ∧ True) ∧ True) ∧ True) ∧ True) ∧ True)) rfl ⟨⟨⟨⟨⟨⟨⟨trivial, trivial⟩, trivial⟩, trivial⟩, trivial⟩, trivial⟩, trivial⟩, trivial⟩ ?_
                      refine gv_run 3 true hD (pc' := 246) (lv' := [(0, .inr (.inr (some 0))), (1, .inl a1), (2, .inl v2_12), (3, .inl v3_56), (4, .inl v4_80), (5, .inl v5_90), (6, .inl v6_90)]) (st' := [.inl (((24 * v3_56) + v4_80) + v6_90), .inl v6_90, .inl a1, .inr (.inr (some 0))]) (h' := gr_h I78 J79) (C := (((True ∧ True) ∧ True) ∧ True)) rfl ⟨⟨⟨trivial, trivial⟩, trivial⟩, trivial⟩ ?_
                      have t192 := e1_90 v6_90 (by omega) (by omega)
                      obtain ⟨r193, h193, E193, P193⟩ := r_hitsWord (ws0 := ws0) (tb := tb) hws htb ext I78 J79 hI78 a1 v6_90 ((((24 * v3_56) + v4_80) + v6_90)) ⟨by omega, by omega⟩ ⟨by omega, by omega⟩ ⟨by omega, by omega⟩ (by omega) (by omega)
                      obtain ⟨rfl, ⟨z193, rfl, q193⟩⟩ := P193
                      refine gv_callV hD rfl (As := [.inl a1, .inl v6_90, .inl (((24 * v3_56) + v4_80) + v6_90)]) (st := []) rfl (by decide) rfl rfl (gr_lV hws rfl) (Nat.le_of_ble_eq_true rfl) (gz_Ev_mono (d := 2) (by decide) E193) ?_
                      show gv_X _ _ (249, [(0, .inr (.inr (some 0))), (1, .inl a1), (2, .inl v2_12), (3, .inl v3_56), (4, .inl v4_80), (5, .inl v5_90), (6, .inl v6_90)], [.inl z193], gr_sh ++ ext, gr_h I78 J79)
                      refine gv_run 3 true hD (pc' := 221) (lv' := [(6, .inl (v6_90 + 1)), (5, .inl z193), (0, .inr (.inr (some 0))), (1, .inl a1), (2, .inl v2_12), (3, .inl v3_56), (4, .inl v4_80)]) (st' := []) (h' := gr_h I78 J79) (C := (((True ∧ True) ∧ True) ∧ True)) rfl ⟨⟨⟨trivial, trivial⟩, trivial⟩, trivial⟩ ?_
                      refine gv_pick [2, 3, 4, 5, 6, 1, 0] rfl ?_
                      exact ih221 z193 (v6_90 + 1) (by omega) (by omega) e1_90
              have f194 := (show 0 ≤ I78 127 (Int.toNat v3_56) ∧ I78 127 (Int.toNat v3_56) ≤ 24 from (hI78 127 (Int.toNat v3_56)).1)
              refine gv_run 7 true hD (pc' := 212) (lv' := [(0, .inr (.inr (some 0))), (1, .inl a1), (2, .inl v2_12), (3, .inl v3_56), (4, .inl v4_80)]) (st' := [.inl (I78 127 (Int.toNat v3_56)), .inl (v4_80 + v2_12)]) (h' := gr_h I78 J79) (C := (((((((True ∧ True) ∧ True) ∧ True) ∧ True) ∧ True) ∧ True) ∧ (0 ≤ v3_56 ∧ v3_56 < ((100 : Nat) : Int)))) rfl ⟨⟨⟨⟨⟨⟨⟨trivial, trivial⟩, trivial⟩, trivial⟩, trivial⟩, trivial⟩, trivial⟩, ⟨by omega, by omega⟩⟩ ?_
              refine gv_icmp_gt (t := 299) hD rfl rfl ⟨⟨by omega, by omega⟩, ⟨by omega, by omega⟩⟩ (fun c195 => ?_) (fun c195 => ?_)
              · refine gv_pick [0, 1, 2, 3] rfl ?_
                exact L299 I78 J79 hI78 FI78 FJ79 (by omega) e1_80
              · refine gv_run 4 true hD (pc' := 221) (lv' := [(6, .inl 0), (5, .inl 1), (0, .inr (.inr (some 0))), (1, .inl a1), (2, .inl v2_12), (3, .inl v3_56), (4, .inl v4_80)]) (st' := []) (h' := gr_h I78 J79) (C := ((((True ∧ True) ∧ True) ∧ True) ∧ True)) rfl ⟨⟨⟨⟨trivial, trivial⟩, trivial⟩, trivial⟩, trivial⟩ ?_
                refine gv_pick [2, 3, 4, 5, 6, 1, 0] rfl ?_
                exact L221 _ 1 0 (Nat.lt_succ_self _) (by omega) e1_80
          have f196 := (show 0 ≤ I54 0 206 ∧ I54 0 206 ≤ 100 from (hI54 0 206).1)
          refine gv_run 3 true hD (pc' := 183) (lv' := [(0, .inr (.inr (some 0))), (1, .inl a1), (2, .inl v2_12), (3, .inl v3_56)]) (st' := [.inl (I54 0 206), .inl v3_56]) (h' := gr_h I54 J55) (C := (((True ∧ True) ∧ True) ∧ True)) rfl ⟨⟨⟨trivial, trivial⟩, trivial⟩, trivial⟩ ?_
          refine gv_icmp_ge (t := 305) hD rfl rfl ⟨⟨by omega, by omega⟩, ⟨by omega, by omega⟩⟩ (fun c197 => ?_) (fun c197 => ?_)
          · have f198 := (show 0 ≤ I54 0 211 ∧ I54 0 211 ≤ 2400 from (hI54 0 211).1)
            refine gv_run 2 true hD (pc' := 309) (lv' := [(0, .inr (.inr (some 0))), (1, .inl a1), (2, .inl v2_12), (3, .inl v3_56)]) (st' := [.inl (I54 0 211)]) (h' := gr_h I54 J55) (C := ((True ∧ True) ∧ True)) rfl ⟨⟨trivial, trivial⟩, trivial⟩ ?_
            exact gv_iret hD rfl ⟨I54, J55, rfl, hI54, FI54, FJ55, ⟨_, rfl, by omega⟩⟩
          · have f199 := (show 0 ≤ I54 128 (Int.toNat v3_56) ∧ I54 128 (Int.toNat v3_56) ≤ 7 from (hI54 128 (Int.toNat v3_56)).1)
            refine gv_run 4 true hD (pc' := 192) (lv' := [(0, .inr (.inr (some 0))), (1, .inl a1), (2, .inl v2_12), (3, .inl v3_56)]) (st' := [.inl (I54 128 (Int.toNat v3_56))]) (h' := gr_h I54 J55) (C := ((((True ∧ True) ∧ True) ∧ True) ∧ (0 ≤ v3_56 ∧ v3_56 < ((100 : Nat) : Int)))) rfl ⟨⟨⟨⟨trivial, trivial⟩, trivial⟩, trivial⟩, ⟨by omega, by omega⟩⟩ ?_
            refine gv_run 1 true hD (pc' := 193) (lv' := [(0, .inr (.inr (some 0))), (1, .inl a1), (2, .inl v2_12), (3, .inl v3_56)]) (st' := [.inl a1, .inl (I54 128 (Int.toNat v3_56))]) (h' := gr_h I54 J55) (C := (True ∧ True)) rfl ⟨trivial, trivial⟩ ?_
            refine gv_icmp_eq (t := 199) hD rfl rfl ⟨⟨by omega, by omega⟩, ⟨by omega, by omega⟩⟩ (fun c200 => ?_) (fun c200 => ?_)
            · refine gv_run 2 true hD (pc' := 202) (lv' := [(4, .inl 0), (0, .inr (.inr (some 0))), (1, .inl a1), (2, .inl v2_12), (3, .inl v3_56)]) (st' := []) (h' := gr_h I54 J55) (C := ((True ∧ True) ∧ True)) rfl ⟨⟨trivial, trivial⟩, trivial⟩ ?_
              refine gv_pick [1, 2, 3, 4, 0] rfl ?_
              exact L202 _ I54 J55 0 (Nat.lt_succ_self _) hI54 FI54 FJ55 (by omega) e1_56
            · refine gv_run 1 true hD (pc' := 299) (lv' := [(0, .inr (.inr (some 0))), (1, .inl a1), (2, .inl v2_12), (3, .inl v3_56)]) (st' := []) (h' := gr_h I54 J55) (C := (True ∧ True)) rfl ⟨trivial, trivial⟩ ?_
              exact L299 I54 J55 hI54 FI54 FJ55 (by omega) e1_56
      have f201 := (show 0 ≤ I10 0 71 ∧ I10 0 71 ≤ 5 from (hI10 0 71).1)
      refine gv_run 2 true hD (pc' := 34) (lv' := [(0, .inr (.inr (some 0))), (1, .inl a1), (2, .inl v2_12)]) (st' := [.inl (I10 0 71)]) (h' := gr_h I10 J11) (C := ((True ∧ True) ∧ True)) rfl ⟨⟨trivial, trivial⟩, trivial⟩ ?_
      refine gv_if_eq (t := 164) hD rfl rfl ⟨by omega, by omega⟩ (fun c202 => ?_) (fun c202 => ?_)
      · refine gv_run 1 true hD (pc' := 165) (lv' := [(0, .inr (.inr (some 0))), (1, .inl a1), (2, .inl v2_12)]) (st' := [.inl v2_12]) (h' := gr_h I10 J11) (C := (True ∧ True)) rfl ⟨trivial, trivial⟩ ?_
        refine gv_if_ne (t := 171) hD rfl rfl ⟨by omega, by omega⟩ (fun c203 => ?_) (fun c203 => ?_)
        · refine gv_run 2 true hD (pc' := 173) (lv' := [(0, .inr (.inr (some 0))), (1, .inl a1), (2, .inl v2_12)]) (st' := [.inl a1, .inr (.inr (some 0))]) (h' := gr_h I10 J11) (C := ((True ∧ True) ∧ True)) rfl ⟨⟨trivial, trivial⟩, trivial⟩ ?_
          obtain ⟨r204, h204, E204, P204⟩ := r_forms_w (ws0 := ws0) (tb := tb) hws htb ext I10 J11 hI10 a1 ⟨by omega, by omega⟩ 
          obtain ⟨I205, J206, rfl, hI205, g204, k204, rfl⟩ := P204
          have FI205 := gr_frt FI10 g204 rfl rfl
          have FJ206 := gr_fjt FJ11 k204 rfl rfl
          have t207 := g204 0 71 rfl
          have t208 := g204 0 72 rfl
          have t209 := g204 0 73 rfl
          have t210 := g204 0 69 rfl
          have t211 := g204 0 211 rfl
          have t212 := g204 0 206 rfl
          have t213 := g204 0 68 rfl
          have t214 := g204 0 1 rfl
          have t215 := g204 0 2 rfl
          have t216 := g204 130 (Int.toNat v2_12) rfl
          have t217 := g204 131 (Int.toNat v2_12) rfl
          have f218 := (show 0 ≤ I205 0 71 ∧ I205 0 71 ≤ 5 from (hI205 0 71).1)
          have f219 := (show 0 ≤ I205 0 72 ∧ I205 0 72 ≤ 1000 from (hI205 0 72).1)
          have f220 := (show 0 ≤ I205 0 73 ∧ I205 0 73 ≤ 1001 from (hI205 0 73).1)
          have f221 := (show 0 ≤ I205 0 69 ∧ I205 0 69 ≤ 1000 from (hI205 0 69).1)
          have f222 := (show 0 ≤ I205 0 211 ∧ I205 0 211 ≤ 2400 from (hI205 0 211).1)
          have f223 := (show 0 ≤ I205 0 206 ∧ I205 0 206 ≤ 100 from (hI205 0 206).1)
          have f224 := (show 0 ≤ I205 0 68 ∧ I205 0 68 ≤ 1000 from (hI205 0 68).1)
          have f225 := (show 0 ≤ I205 0 1 ∧ I205 0 1 ≤ 8 from (hI205 0 1).1)
          have f226 := (show 0 ≤ I205 0 2 ∧ I205 0 2 ≤ 32 from (hI205 0 2).1)
          refine gv_callV hD rfl (As := [.inl a1]) (st := []) rfl (by decide) rfl rfl (gr_lV hws rfl) (Nat.le_of_ble_eq_true rfl) (gz_Ev_mono (d := 6) (by decide) E204) ?_
          show gv_X _ _ (176, [(0, .inr (.inr (some 0))), (1, .inl a1), (2, .inl v2_12)], [], gr_sh ++ ext, gr_h I205 J206)
          refine gv_run 2 true hD (pc' := 178) (lv' := [(3, .inl 0), (0, .inr (.inr (some 0))), (1, .inl a1), (2, .inl v2_12)]) (st' := []) (h' := gr_h I205 J206) (C := ((True ∧ True) ∧ True)) rfl ⟨⟨trivial, trivial⟩, trivial⟩ ?_
          refine gv_pick [1, 2, 3, 0] rfl ?_
          exact L178 _ I205 J206 0 (Nat.lt_succ_self _) hI205 FI205 FJ206 (by omega) (gr_AS_fr e5_12 (fun k => g204 130 k rfl) (fun k => g204 131 k rfl))
        · refine gv_run 1 true hD (pc' := 170) (lv' := [(0, .inr (.inr (some 0))), (1, .inl a1), (2, .inl v2_12)]) (st' := [.inl (-3)]) (h' := gr_h I10 J11) (C := (True ∧ True)) rfl ⟨trivial, trivial⟩ ?_
          exact gv_iret hD rfl ⟨I10, J11, rfl, hI10, FI10, FJ11, ⟨_, rfl, by omega⟩⟩
      · refine gv_run 2 true hD (pc' := 40) (lv' := [(0, .inr (.inr (some 0))), (1, .inl a1), (2, .inl v2_12)]) (st' := [.inl 8, .inl v2_12]) (h' := gr_h I10 J11) (C := ((True ∧ True) ∧ True)) rfl ⟨⟨trivial, trivial⟩, trivial⟩ ?_
        refine gv_icmp_ne (t := 46) hD rfl rfl ⟨⟨by omega, by omega⟩, ⟨by omega, by omega⟩⟩ (fun c227 => ?_) (fun c227 => ?_)
        · have f228 := (show 0 ≤ I10 0 71 ∧ I10 0 71 ≤ 5 from (hI10 0 71).1)
          refine gv_run 3 true hD (pc' := 51) (lv' := [(0, .inr (.inr (some 0))), (1, .inl a1), (2, .inl v2_12)]) (st' := [.inl 3, .inl (I10 0 71)]) (h' := gr_h I10 J11) (C := (((True ∧ True) ∧ True) ∧ True)) rfl ⟨⟨⟨trivial, trivial⟩, trivial⟩, trivial⟩ ?_
          refine gv_icmp_ne (t := 79) hD rfl rfl ⟨⟨by omega, by omega⟩, ⟨by omega, by omega⟩⟩ (fun c229 => ?_) (fun c229 => ?_)
          · have f230 := (show 0 ≤ I10 0 71 ∧ I10 0 71 ≤ 5 from (hI10 0 71).1)
            refine gv_run 3 true hD (pc' := 84) (lv' := [(0, .inr (.inr (some 0))), (1, .inl a1), (2, .inl v2_12)]) (st' := [.inl 1, .inl (I10 0 71)]) (h' := gr_h I10 J11) (C := (((True ∧ True) ∧ True) ∧ True)) rfl ⟨⟨⟨trivial, trivial⟩, trivial⟩, trivial⟩ ?_
            refine gv_icmp_ne (t := 131) hD rfl rfl ⟨⟨by omega, by omega⟩, ⟨by omega, by omega⟩⟩ (fun c231 => ?_) (fun c231 => ?_)
            · refine gv_run 2 true hD (pc' := 134) (lv' := [(0, .inr (.inr (some 0))), (1, .inl a1), (2, .inl v2_12)]) (st' := [.inl 42, .inr (.inr (some 0))]) (h' := gr_h I10 J11) (C := ((True ∧ True) ∧ True)) rfl ⟨⟨trivial, trivial⟩, trivial⟩ ?_
              obtain ⟨r232, h232, E232, P232⟩ := r_sign (ws0 := ws0) (tb := tb) hws htb ext I10 J11 hI10 42 ⟨by omega, by omega⟩ (by omega)
              obtain ⟨rfl, ⟨z232, rfl, q232⟩⟩ := P232
              refine gv_callV hD rfl (As := [.inl 42]) (st := []) rfl (by decide) rfl rfl (gr_lV hws rfl) (Nat.le_of_ble_eq_true rfl) (gz_Ev_mono (d := 1) (by decide) E232) ?_
              show gv_X _ _ (137, [(0, .inr (.inr (some 0))), (1, .inl a1), (2, .inl v2_12)], [.inl z232], gr_sh ++ ext, gr_h I10 J11)
              refine gv_if_eq (t := 151) hD rfl rfl ⟨by omega, by omega⟩ (fun c233 => ?_) (fun c233 => ?_)
              · refine gv_run 1 true hD (pc' := 153) (lv' := [(0, .inr (.inr (some 0))), (1, .inl a1), (2, .inl v2_12)]) (st' := [.inl (-3)]) (h' := gr_h I10 J11) (C := (True ∧ True)) rfl ⟨trivial, trivial⟩ ?_
                exact gv_iret hD rfl ⟨I10, J11, rfl, hI10, FI10, FJ11, ⟨_, rfl, by omega⟩⟩
              · refine gv_run 4 true hD (pc' := 147) (lv' := [(0, .inr (.inr (some 0))), (1, .inl a1), (2, .inl v2_12)]) (st' := [.inl (-2), .inl v2_12, .inr (.inr (some 131))]) (h' := gr_h I10 J11) (C := ((((True ∧ True) ∧ True) ∧ True) ∧ True)) rfl ⟨⟨⟨⟨trivial, trivial⟩, trivial⟩, trivial⟩, trivial⟩ ?_
                refine gv_run 1 true hD (pc' := 148) (lv' := [(0, .inr (.inr (some 0))), (1, .inl a1), (2, .inl v2_12)]) (st' := []) (h' := gz_up (gr_h I10 J11) 131 (Int.toNat v2_12) (.inl (-2))) (C := (True ∧ (0 ≤ v2_12 ∧ v2_12 < ((8 : Nat) : Int)))) rfl ⟨trivial, ⟨by omega, by omega⟩⟩ ?_
                refine gr_st hI10 FI10 rfl rfl ⟨⟨by show (-2) ≤ _; omega, by show _ ≤ 12; omega⟩, trivial⟩ (fun I234 hI234 FI234 q235 p235 => ?_)
                have t236 := p235 0 71 (fun q => absurd q.1 (by decide))
                have t237 := p235 0 72 (fun q => absurd q.1 (by decide))
                have t238 := p235 0 73 (fun q => absurd q.1 (by decide))
                have t239 := p235 0 69 (fun q => absurd q.1 (by decide))
                have t240 := p235 0 211 (fun q => absurd q.1 (by decide))
                have t241 := p235 0 206 (fun q => absurd q.1 (by decide))
                have t242 := p235 0 68 (fun q => absurd q.1 (by decide))
                have t243 := p235 0 1 (fun q => absurd q.1 (by decide))
                have t244 := p235 0 2 (fun q => absurd q.1 (by decide))
                have t245 := p235 130 (Int.toNat v2_12) (fun q => absurd q.1 (by decide))
                have f246 := (show 0 ≤ I234 0 71 ∧ I234 0 71 ≤ 5 from (hI234 0 71).1)
                have f247 := (show 0 ≤ I234 0 72 ∧ I234 0 72 ≤ 1000 from (hI234 0 72).1)
                have f248 := (show 0 ≤ I234 0 73 ∧ I234 0 73 ≤ 1001 from (hI234 0 73).1)
                have f249 := (show 0 ≤ I234 0 69 ∧ I234 0 69 ≤ 1000 from (hI234 0 69).1)
                have f250 := (show 0 ≤ I234 0 211 ∧ I234 0 211 ≤ 2400 from (hI234 0 211).1)
                have f251 := (show 0 ≤ I234 0 206 ∧ I234 0 206 ≤ 100 from (hI234 0 206).1)
                have f252 := (show 0 ≤ I234 0 68 ∧ I234 0 68 ≤ 1000 from (hI234 0 68).1)
                have f253 := (show 0 ≤ I234 0 1 ∧ I234 0 1 ≤ 8 from (hI234 0 1).1)
                have f254 := (show 0 ≤ I234 0 2 ∧ I234 0 2 ≤ 32 from (hI234 0 2).1)
                refine gv_run 1 true hD (pc' := 154) (lv' := [(0, .inr (.inr (some 0))), (1, .inl a1), (2, .inl v2_12)]) (st' := []) (h' := gr_h I234 J11) (C := (True ∧ True)) rfl ⟨trivial, trivial⟩ ?_
                exact L154 I234 J11 hI234 FI234 FJ11 (by omega) (gr_AS_nx e5_12 (by omega) (fun a j hj => by rw [p235 a j (fun q => by have := q.2; omega)]) (by have h9 : (-1 : Int) ≤ I234 130 (Int.toNat v2_12) ∧ I234 130 (Int.toNat v2_12) ≤ 1001 := (hI234 130 (Int.toNat v2_12)).1; omega))
            · refine gv_run 7 true hD (pc' := 98) (lv' := [(0, .inr (.inr (some 0))), (1, .inl a1), (2, .inl v2_12)]) (st' := [.inr (.inr (some 0)), .inl 0, .inr (.inr (some 2)), .inl v2_12, .inr (.inr (some 130))]) (h' := gr_h I10 J11) (C := (((((((True ∧ True) ∧ True) ∧ True) ∧ True) ∧ True) ∧ True) ∧ True)) rfl ⟨⟨⟨⟨⟨⟨⟨trivial, trivial⟩, trivial⟩, trivial⟩, trivial⟩, trivial⟩, trivial⟩, trivial⟩ ?_
              have f255 := (show 0 ≤ I10 0 2 ∧ I10 0 2 ≤ 32 from (hI10 0 2).1)
              refine gv_run 3 true hD (pc' := 105) (lv' := [(0, .inr (.inr (some 0))), (1, .inl a1), (2, .inl v2_12)]) (st' := [.inr (.inl (J11 0 75)), .inl (I10 0 2), .inl 0, .inr (.inr (some 2)), .inl v2_12, .inr (.inr (some 130))]) (h' := gr_h I10 J11) (C := (((True ∧ True) ∧ True) ∧ True)) rfl ⟨⟨⟨trivial, trivial⟩, trivial⟩, trivial⟩ ?_
              obtain ⟨r256, h256, E256, P256⟩ := r_find_2 (ws0 := ws0) (tb := tb) hws htb ext I10 J11 hI10 0 (I10 0 2) (J11 0 75) ⟨by omega, by omega⟩ ⟨by omega, by omega⟩ (by omega)
              obtain ⟨rfl, ⟨z256, rfl, q256⟩⟩ := P256
              refine gv_callS hD rfl (As := [.inr (.inr (some 2)), .inl 0, .inl (I10 0 2), .inr (.inl (J11 0 75))]) (st := [.inl v2_12, .inr (.inr (some 130))]) rfl (gr_lS hws rfl) (Nat.le_of_ble_eq_true rfl) (gz_Ev_mono (d := 1) (by decide) E256) ?_
              show gv_X _ _ (108, [(0, .inr (.inr (some 0))), (1, .inl a1), (2, .inl v2_12)], [.inl z256, .inl v2_12, .inr (.inr (some 130))], gr_sh ++ ext, gr_h I10 J11)
              refine gv_run 1 true hD (pc' := 109) (lv' := [(0, .inr (.inr (some 0))), (1, .inl a1), (2, .inl v2_12)]) (st' := []) (h' := gz_up (gr_h I10 J11) 130 (Int.toNat v2_12) (.inl z256)) (C := (True ∧ (0 ≤ v2_12 ∧ v2_12 < ((8 : Nat) : Int)))) rfl ⟨trivial, ⟨by omega, by omega⟩⟩ ?_
              refine gr_st hI10 FI10 rfl rfl ⟨⟨by show (-1) ≤ _; omega, by show _ ≤ 1001; omega⟩, trivial⟩ (fun I257 hI257 FI257 q258 p258 => ?_)
              have t259 := p258 0 71 (fun q => absurd q.1 (by decide))
              have t260 := p258 0 72 (fun q => absurd q.1 (by decide))
              have t261 := p258 0 73 (fun q => absurd q.1 (by decide))
              have t262 := p258 0 69 (fun q => absurd q.1 (by decide))
              have t263 := p258 0 211 (fun q => absurd q.1 (by decide))
              have t264 := p258 0 206 (fun q => absurd q.1 (by decide))
              have t265 := p258 0 68 (fun q => absurd q.1 (by decide))
              have t266 := p258 0 1 (fun q => absurd q.1 (by decide))
              have t267 := p258 0 2 (fun q => absurd q.1 (by decide))
              have t268 := p258 131 (Int.toNat v2_12) (fun q => absurd q.1 (by decide))
              have f269 := (show 0 ≤ I257 0 71 ∧ I257 0 71 ≤ 5 from (hI257 0 71).1)
              have f270 := (show 0 ≤ I257 0 72 ∧ I257 0 72 ≤ 1000 from (hI257 0 72).1)
              have f271 := (show 0 ≤ I257 0 73 ∧ I257 0 73 ≤ 1001 from (hI257 0 73).1)
              have f272 := (show 0 ≤ I257 0 69 ∧ I257 0 69 ≤ 1000 from (hI257 0 69).1)
              have f273 := (show 0 ≤ I257 0 211 ∧ I257 0 211 ≤ 2400 from (hI257 0 211).1)
              have f274 := (show 0 ≤ I257 0 206 ∧ I257 0 206 ≤ 100 from (hI257 0 206).1)
              have f275 := (show 0 ≤ I257 0 68 ∧ I257 0 68 ≤ 1000 from (hI257 0 68).1)
              have f276 := (show 0 ≤ I257 0 1 ∧ I257 0 1 ≤ 8 from (hI257 0 1).1)
              have f277 := (show 0 ≤ I257 0 2 ∧ I257 0 2 ≤ 32 from (hI257 0 2).1)
              have f278 := (show (-1) ≤ I257 130 (Int.toNat v2_12) ∧ I257 130 (Int.toNat v2_12) ≤ 1001 from (hI257 130 (Int.toNat v2_12)).1)
              refine gv_run 4 true hD (pc' := 115) (lv' := [(0, .inr (.inr (some 0))), (1, .inl a1), (2, .inl v2_12)]) (st' := [.inl (I257 130 (Int.toNat v2_12))]) (h' := gr_h I257 J11) (C := ((((True ∧ True) ∧ True) ∧ True) ∧ (0 ≤ v2_12 ∧ v2_12 < ((8 : Nat) : Int)))) rfl ⟨⟨⟨⟨trivial, trivial⟩, trivial⟩, trivial⟩, ⟨by omega, by omega⟩⟩ ?_
              refine gv_if_ge (t := 121) hD rfl rfl ⟨by omega, by omega⟩ (fun c279 => ?_) (fun c279 => ?_)
              · refine gv_run 4 true hD (pc' := 127) (lv' := [(0, .inr (.inr (some 0))), (1, .inl a1), (2, .inl v2_12)]) (st' := [.inl (-1), .inl v2_12, .inr (.inr (some 131))]) (h' := gr_h I257 J11) (C := ((((True ∧ True) ∧ True) ∧ True) ∧ True)) rfl ⟨⟨⟨⟨trivial, trivial⟩, trivial⟩, trivial⟩, trivial⟩ ?_
                refine gv_run 1 true hD (pc' := 128) (lv' := [(0, .inr (.inr (some 0))), (1, .inl a1), (2, .inl v2_12)]) (st' := []) (h' := gz_up (gr_h I257 J11) 131 (Int.toNat v2_12) (.inl (-1))) (C := (True ∧ (0 ≤ v2_12 ∧ v2_12 < ((8 : Nat) : Int)))) rfl ⟨trivial, ⟨by omega, by omega⟩⟩ ?_
                refine gr_st hI257 FI257 rfl rfl ⟨⟨by show (-2) ≤ _; omega, by show _ ≤ 12; omega⟩, trivial⟩ (fun I280 hI280 FI280 q281 p281 => ?_)
                have t282 := p281 0 71 (fun q => absurd q.1 (by decide))
                have t283 := p281 0 72 (fun q => absurd q.1 (by decide))
                have t284 := p281 0 73 (fun q => absurd q.1 (by decide))
                have t285 := p281 0 69 (fun q => absurd q.1 (by decide))
                have t286 := p281 0 211 (fun q => absurd q.1 (by decide))
                have t287 := p281 0 206 (fun q => absurd q.1 (by decide))
                have t288 := p281 0 68 (fun q => absurd q.1 (by decide))
                have t289 := p281 0 1 (fun q => absurd q.1 (by decide))
                have t290 := p281 0 2 (fun q => absurd q.1 (by decide))
                have t291 := p281 130 (Int.toNat v2_12) (fun q => absurd q.1 (by decide))
                have f292 := (show 0 ≤ I280 0 71 ∧ I280 0 71 ≤ 5 from (hI280 0 71).1)
                have f293 := (show 0 ≤ I280 0 72 ∧ I280 0 72 ≤ 1000 from (hI280 0 72).1)
                have f294 := (show 0 ≤ I280 0 73 ∧ I280 0 73 ≤ 1001 from (hI280 0 73).1)
                have f295 := (show 0 ≤ I280 0 69 ∧ I280 0 69 ≤ 1000 from (hI280 0 69).1)
                have f296 := (show 0 ≤ I280 0 211 ∧ I280 0 211 ≤ 2400 from (hI280 0 211).1)
                have f297 := (show 0 ≤ I280 0 206 ∧ I280 0 206 ≤ 100 from (hI280 0 206).1)
                have f298 := (show 0 ≤ I280 0 68 ∧ I280 0 68 ≤ 1000 from (hI280 0 68).1)
                have f299 := (show 0 ≤ I280 0 1 ∧ I280 0 1 ≤ 8 from (hI280 0 1).1)
                have f300 := (show 0 ≤ I280 0 2 ∧ I280 0 2 ≤ 32 from (hI280 0 2).1)
                refine gv_run 1 true hD (pc' := 154) (lv' := [(0, .inr (.inr (some 0))), (1, .inl a1), (2, .inl v2_12)]) (st' := []) (h' := gr_h I280 J11) (C := (True ∧ True)) rfl ⟨trivial, trivial⟩ ?_
                exact L154 I280 J11 hI280 FI280 FJ11 (by omega) (gr_AS_nx e5_12 (by omega) (fun a j hj => by rw [p281 a j (fun q => by have := q.2; omega), p258 a j (fun q => by have := q.2; omega)]) (by have h9 : (-1 : Int) ≤ I280 130 (Int.toNat v2_12) ∧ I280 130 (Int.toNat v2_12) ≤ 1001 := (hI280 130 (Int.toNat v2_12)).1; omega))
              · refine gv_run 1 true hD (pc' := 120) (lv' := [(0, .inr (.inr (some 0))), (1, .inl a1), (2, .inl v2_12)]) (st' := [.inl (-3)]) (h' := gr_h I257 J11) (C := (True ∧ True)) rfl ⟨trivial, trivial⟩ ?_
                exact gv_iret hD rfl ⟨I257, J11, rfl, hI257, FI257, FJ11, ⟨_, rfl, by omega⟩⟩
          · have f301 := (show 0 ≤ I10 0 72 ∧ I10 0 72 ≤ 1000 from (hI10 0 72).1)
            refine gv_run 7 true hD (pc' := 65) (lv' := [(0, .inr (.inr (some 0))), (1, .inl a1), (2, .inl v2_12)]) (st' := [.inl ((I10 0 72) + 1), .inl v2_12, .inr (.inr (some 130))]) (h' := gr_h I10 J11) (C := (((((((True ∧ True) ∧ True) ∧ True) ∧ True) ∧ True) ∧ True) ∧ True)) rfl ⟨⟨⟨⟨⟨⟨⟨trivial, trivial⟩, trivial⟩, trivial⟩, trivial⟩, trivial⟩, trivial⟩, trivial⟩ ?_
            refine gv_run 1 true hD (pc' := 66) (lv' := [(0, .inr (.inr (some 0))), (1, .inl a1), (2, .inl v2_12)]) (st' := []) (h' := gz_up (gr_h I10 J11) 130 (Int.toNat v2_12) (.inl (((I10 0 72) + 1)))) (C := (True ∧ (0 ≤ v2_12 ∧ v2_12 < ((8 : Nat) : Int)))) rfl ⟨trivial, ⟨by omega, by omega⟩⟩ ?_
            refine gr_st hI10 FI10 rfl rfl ⟨⟨by show (-1) ≤ _; omega, by show _ ≤ 1001; omega⟩, trivial⟩ (fun I302 hI302 FI302 q303 p303 => ?_)
            have t304 := p303 0 71 (fun q => absurd q.1 (by decide))
            have t305 := p303 0 72 (fun q => absurd q.1 (by decide))
            have t306 := p303 0 73 (fun q => absurd q.1 (by decide))
            have t307 := p303 0 69 (fun q => absurd q.1 (by decide))
            have t308 := p303 0 211 (fun q => absurd q.1 (by decide))
            have t309 := p303 0 206 (fun q => absurd q.1 (by decide))
            have t310 := p303 0 68 (fun q => absurd q.1 (by decide))
            have t311 := p303 0 1 (fun q => absurd q.1 (by decide))
            have t312 := p303 0 2 (fun q => absurd q.1 (by decide))
            have t313 := p303 131 (Int.toNat v2_12) (fun q => absurd q.1 (by decide))
            have f314 := (show 0 ≤ I302 0 71 ∧ I302 0 71 ≤ 5 from (hI302 0 71).1)
            have f315 := (show 0 ≤ I302 0 72 ∧ I302 0 72 ≤ 1000 from (hI302 0 72).1)
            have f316 := (show 0 ≤ I302 0 73 ∧ I302 0 73 ≤ 1001 from (hI302 0 73).1)
            have f317 := (show 0 ≤ I302 0 69 ∧ I302 0 69 ≤ 1000 from (hI302 0 69).1)
            have f318 := (show 0 ≤ I302 0 211 ∧ I302 0 211 ≤ 2400 from (hI302 0 211).1)
            have f319 := (show 0 ≤ I302 0 206 ∧ I302 0 206 ≤ 100 from (hI302 0 206).1)
            have f320 := (show 0 ≤ I302 0 68 ∧ I302 0 68 ≤ 1000 from (hI302 0 68).1)
            have f321 := (show 0 ≤ I302 0 1 ∧ I302 0 1 ≤ 8 from (hI302 0 1).1)
            have f322 := (show 0 ≤ I302 0 2 ∧ I302 0 2 ≤ 32 from (hI302 0 2).1)
            refine gv_run 4 true hD (pc' := 72) (lv' := [(0, .inr (.inr (some 0))), (1, .inl a1), (2, .inl v2_12)]) (st' := [.inr (.inr (some 0)), .inl v2_12, .inr (.inr (some 131))]) (h' := gr_h I302 J11) (C := ((((True ∧ True) ∧ True) ∧ True) ∧ True)) rfl ⟨⟨⟨⟨trivial, trivial⟩, trivial⟩, trivial⟩, trivial⟩ ?_
            obtain ⟨r323, h323, E323, P323⟩ := r_size (ws0 := ws0) (tb := tb) hws htb ext I302 J11 hI302   
            obtain ⟨rfl, ⟨z323, rfl, q323⟩⟩ := P323
            refine gv_callV hD rfl (As := []) (st := [.inl v2_12, .inr (.inr (some 131))]) rfl (by decide) rfl rfl (gr_lV hws rfl) (Nat.le_of_ble_eq_true rfl) (gz_Ev_mono (d := 1) (by decide) E323) ?_
            show gv_X _ _ (75, [(0, .inr (.inr (some 0))), (1, .inl a1), (2, .inl v2_12)], [.inl z323, .inl v2_12, .inr (.inr (some 131))], gr_sh ++ ext, gr_h I302 J11)
            refine gv_run 1 true hD (pc' := 76) (lv' := [(0, .inr (.inr (some 0))), (1, .inl a1), (2, .inl v2_12)]) (st' := []) (h' := gz_up (gr_h I302 J11) 131 (Int.toNat v2_12) (.inl z323)) (C := (True ∧ (0 ≤ v2_12 ∧ v2_12 < ((8 : Nat) : Int)))) rfl ⟨trivial, ⟨by omega, by omega⟩⟩ ?_
            refine gr_st hI302 FI302 rfl rfl ⟨⟨by show (-2) ≤ _; omega, by show _ ≤ 12; omega⟩, trivial⟩ (fun I324 hI324 FI324 q325 p325 => ?_)
            have t326 := p325 0 71 (fun q => absurd q.1 (by decide))
            have t327 := p325 0 72 (fun q => absurd q.1 (by decide))
            have t328 := p325 0 73 (fun q => absurd q.1 (by decide))
            have t329 := p325 0 69 (fun q => absurd q.1 (by decide))
            have t330 := p325 0 211 (fun q => absurd q.1 (by decide))
            have t331 := p325 0 206 (fun q => absurd q.1 (by decide))
            have t332 := p325 0 68 (fun q => absurd q.1 (by decide))
            have t333 := p325 0 1 (fun q => absurd q.1 (by decide))
            have t334 := p325 0 2 (fun q => absurd q.1 (by decide))
            have t335 := p325 130 (Int.toNat v2_12) (fun q => absurd q.1 (by decide))
            have f336 := (show 0 ≤ I324 0 71 ∧ I324 0 71 ≤ 5 from (hI324 0 71).1)
            have f337 := (show 0 ≤ I324 0 72 ∧ I324 0 72 ≤ 1000 from (hI324 0 72).1)
            have f338 := (show 0 ≤ I324 0 73 ∧ I324 0 73 ≤ 1001 from (hI324 0 73).1)
            have f339 := (show 0 ≤ I324 0 69 ∧ I324 0 69 ≤ 1000 from (hI324 0 69).1)
            have f340 := (show 0 ≤ I324 0 211 ∧ I324 0 211 ≤ 2400 from (hI324 0 211).1)
            have f341 := (show 0 ≤ I324 0 206 ∧ I324 0 206 ≤ 100 from (hI324 0 206).1)
            have f342 := (show 0 ≤ I324 0 68 ∧ I324 0 68 ≤ 1000 from (hI324 0 68).1)
            have f343 := (show 0 ≤ I324 0 1 ∧ I324 0 1 ≤ 8 from (hI324 0 1).1)
            have f344 := (show 0 ≤ I324 0 2 ∧ I324 0 2 ≤ 32 from (hI324 0 2).1)
            refine gv_run 1 true hD (pc' := 154) (lv' := [(0, .inr (.inr (some 0))), (1, .inl a1), (2, .inl v2_12)]) (st' := []) (h' := gr_h I324 J11) (C := (True ∧ True)) rfl ⟨trivial, trivial⟩ ?_
            exact L154 I324 J11 hI324 FI324 FJ11 (by omega) (gr_AS_nx e5_12 (by omega) (fun a j hj => by rw [p325 a j (fun q => by have := q.2; omega), p303 a j (fun q => by have := q.2; omega)]) (by have h9 : (-1 : Int) ≤ I324 130 (Int.toNat v2_12) ∧ I324 130 (Int.toNat v2_12) ≤ 1001 := (hI324 130 (Int.toNat v2_12)).1; omega))
        · refine gv_run 1 true hD (pc' := 45) (lv' := [(0, .inr (.inr (some 0))), (1, .inl a1), (2, .inl v2_12)]) (st' := [.inl (-3)]) (h' := gr_h I10 J11) (C := (True ∧ True)) rfl ⟨trivial, trivial⟩ ?_
          exact gv_iret hD rfl ⟨I10, J11, rfl, hI10, FI10, FJ11, ⟨_, rfl, by omega⟩⟩
  refine gv_run 2 true hD (pc' := 2) (lv' := [(0, .inr (.inr (some 0))), (1, .inl a1)]) (st' := [.inl a1, .inr (.inr (some 0))]) (h' := gr_h I J) (C := ((True ∧ True) ∧ True)) rfl ⟨⟨trivial, trivial⟩, trivial⟩ ?_
  obtain ⟨r345, h345, E345, P345⟩ := r_noTongue_t (ws0 := ws0) (tb := tb) hws htb ext I J hI a1 ⟨by omega, by omega⟩ 
  obtain ⟨I346, J347, rfl, hI346, g345, k345, ⟨z345, rfl, q345⟩⟩ := P345
  have FI346 := gr_frt FI g345 rfl rfl
  have FJ347 := gr_fjt FJ k345 rfl rfl
  have t348 := g345 0 71 rfl
  have t349 := g345 0 72 rfl
  have t350 := g345 0 73 rfl
  have t351 := g345 0 69 rfl
  have t352 := g345 0 211 rfl
  have t353 := g345 0 206 rfl
  have t354 := g345 0 68 rfl
  have t355 := g345 0 1 rfl
  have t356 := g345 0 2 rfl
  have f357 := (show 0 ≤ I346 0 71 ∧ I346 0 71 ≤ 5 from (hI346 0 71).1)
  have f358 := (show 0 ≤ I346 0 72 ∧ I346 0 72 ≤ 1000 from (hI346 0 72).1)
  have f359 := (show 0 ≤ I346 0 73 ∧ I346 0 73 ≤ 1001 from (hI346 0 73).1)
  have f360 := (show 0 ≤ I346 0 69 ∧ I346 0 69 ≤ 1000 from (hI346 0 69).1)
  have f361 := (show 0 ≤ I346 0 211 ∧ I346 0 211 ≤ 2400 from (hI346 0 211).1)
  have f362 := (show 0 ≤ I346 0 206 ∧ I346 0 206 ≤ 100 from (hI346 0 206).1)
  have f363 := (show 0 ≤ I346 0 68 ∧ I346 0 68 ≤ 1000 from (hI346 0 68).1)
  have f364 := (show 0 ≤ I346 0 1 ∧ I346 0 1 ≤ 8 from (hI346 0 1).1)
  have f365 := (show 0 ≤ I346 0 2 ∧ I346 0 2 ≤ 32 from (hI346 0 2).1)
  refine gv_callV hD rfl (As := [.inl a1]) (st := []) rfl (by decide) rfl rfl (gr_lV hws rfl) (Nat.le_of_ble_eq_true rfl) (gz_Ev_mono (d := 1) (by decide) E345) ?_
  show gv_X _ _ (5, [(0, .inr (.inr (some 0))), (1, .inl a1)], [.inl z345], gr_sh ++ ext, gr_h I346 J347)
  refine gv_if_eq (t := 10) hD rfl rfl ⟨by omega, by omega⟩ (fun c366 => ?_) (fun c366 => ?_)
  · refine gv_run 1 true hD (pc' := 11) (lv' := [(0, .inr (.inr (some 0))), (1, .inl a1)]) (st' := [.inr (.inr (some 0))]) (h' := gr_h I346 J347) (C := (True ∧ True)) rfl ⟨trivial, trivial⟩ ?_
    obtain ⟨r367, h367, E367, P367⟩ := r_reads_t (ws0 := ws0) (tb := tb) hws htb ext I346 J347 hI346   
    obtain ⟨I368, J369, rfl, hI368, g367, k367, ⟨rfl, q367⟩⟩ := P367
    have FI368 := gr_frt FI346 g367 rfl rfl
    have FJ369 := gr_fjt FJ347 k367 rfl rfl
    have t370 := g367 0 71 rfl
    have t371 := g367 0 72 rfl
    have t372 := g367 0 73 rfl
    have t373 := g367 0 211 rfl
    have t374 := g367 0 206 rfl
    have t375 := g367 0 1 rfl
    have t376 := g367 0 2 rfl
    have f377 := (show 0 ≤ I368 0 71 ∧ I368 0 71 ≤ 5 from (hI368 0 71).1)
    have f378 := (show 0 ≤ I368 0 72 ∧ I368 0 72 ≤ 1000 from (hI368 0 72).1)
    have f379 := (show 0 ≤ I368 0 73 ∧ I368 0 73 ≤ 1001 from (hI368 0 73).1)
    have f380 := (show 0 ≤ I368 0 69 ∧ I368 0 69 ≤ 1000 from (hI368 0 69).1)
    have f381 := (show 0 ≤ I368 0 211 ∧ I368 0 211 ≤ 2400 from (hI368 0 211).1)
    have f382 := (show 0 ≤ I368 0 206 ∧ I368 0 206 ≤ 100 from (hI368 0 206).1)
    have f383 := (show 0 ≤ I368 0 68 ∧ I368 0 68 ≤ 1000 from (hI368 0 68).1)
    have f384 := (show 0 ≤ I368 0 1 ∧ I368 0 1 ≤ 8 from (hI368 0 1).1)
    have f385 := (show 0 ≤ I368 0 2 ∧ I368 0 2 ≤ 32 from (hI368 0 2).1)
    refine gv_callV hD rfl (As := []) (st := []) rfl (by decide) rfl rfl (gr_lV hws rfl) (Nat.le_of_ble_eq_true rfl) (gz_Ev_mono (d := 1) (by decide) E367) ?_
    show gv_X _ _ (14, [(0, .inr (.inr (some 0))), (1, .inl a1)], [], gr_sh ++ ext, gr_h I368 J369)
    refine gv_run 3 true hD (pc' := 19) (lv' := [(0, .inr (.inr (some 0))), (1, .inl a1)]) (st' := []) (h' := gz_up (gr_h I368 J369) 0 73 (.inl 0)) (C := (((True ∧ True) ∧ True) ∧ True)) rfl ⟨⟨⟨trivial, trivial⟩, trivial⟩, trivial⟩ ?_
    refine gr_st hI368 FI368 rfl rfl ⟨⟨by show 0 ≤ _; omega, by show _ ≤ 1001; omega⟩, trivial⟩ (fun I386 hI386 FI386 q387 p387 => ?_)
    have t388 := p387 0 71 (by decide)
    have t389 := p387 0 72 (by decide)
    have t390 := p387 0 69 (by decide)
    have t391 := p387 0 211 (by decide)
    have t392 := p387 0 206 (by decide)
    have t393 := p387 0 68 (by decide)
    have t394 := p387 0 1 (by decide)
    have t395 := p387 0 2 (by decide)
    have f396 := (show 0 ≤ I386 0 71 ∧ I386 0 71 ≤ 5 from (hI386 0 71).1)
    have f397 := (show 0 ≤ I386 0 72 ∧ I386 0 72 ≤ 1000 from (hI386 0 72).1)
    have f398 := (show 0 ≤ I386 0 73 ∧ I386 0 73 ≤ 1001 from (hI386 0 73).1)
    have f399 := (show 0 ≤ I386 0 69 ∧ I386 0 69 ≤ 1000 from (hI386 0 69).1)
    have f400 := (show 0 ≤ I386 0 211 ∧ I386 0 211 ≤ 2400 from (hI386 0 211).1)
    have f401 := (show 0 ≤ I386 0 206 ∧ I386 0 206 ≤ 100 from (hI386 0 206).1)
    have f402 := (show 0 ≤ I386 0 68 ∧ I386 0 68 ≤ 1000 from (hI386 0 68).1)
    have f403 := (show 0 ≤ I386 0 1 ∧ I386 0 1 ≤ 8 from (hI386 0 1).1)
    have f404 := (show 0 ≤ I386 0 2 ∧ I386 0 2 ≤ 32 from (hI386 0 2).1)
    refine gv_run 1 true hD (pc' := 20) (lv' := [(0, .inr (.inr (some 0))), (1, .inl a1)]) (st' := [.inr (.inr (some 0))]) (h' := gr_h I386 J369) (C := (True ∧ True)) rfl ⟨trivial, trivial⟩ ?_
    obtain ⟨r405, h405, E405, P405⟩ := r_next (ws0 := ws0) (tb := tb) hws htb ext I386 J369 hI386   (by omega)
    obtain ⟨I406, J407, rfl, hI406, g405, k405, ⟨rfl, q405⟩⟩ := P405
    have FI406 := gr_frt FI386 g405 rfl rfl
    have FJ407 := gr_fjt FJ369 k405 rfl rfl
    have t408 := g405 0 69 rfl
    have t409 := g405 0 211 rfl
    have t410 := g405 0 206 rfl
    have t411 := g405 0 68 rfl
    have t412 := g405 0 1 rfl
    have t413 := g405 0 2 rfl
    have f414 := (show 0 ≤ I406 0 71 ∧ I406 0 71 ≤ 5 from (hI406 0 71).1)
    have f415 := (show 0 ≤ I406 0 72 ∧ I406 0 72 ≤ 1000 from (hI406 0 72).1)
    have f416 := (show 0 ≤ I406 0 73 ∧ I406 0 73 ≤ 1001 from (hI406 0 73).1)
    have f417 := (show 0 ≤ I406 0 69 ∧ I406 0 69 ≤ 1000 from (hI406 0 69).1)
    have f418 := (show 0 ≤ I406 0 211 ∧ I406 0 211 ≤ 2400 from (hI406 0 211).1)
    have f419 := (show 0 ≤ I406 0 206 ∧ I406 0 206 ≤ 100 from (hI406 0 206).1)
    have f420 := (show 0 ≤ I406 0 68 ∧ I406 0 68 ≤ 1000 from (hI406 0 68).1)
    have f421 := (show 0 ≤ I406 0 1 ∧ I406 0 1 ≤ 8 from (hI406 0 1).1)
    have f422 := (show 0 ≤ I406 0 2 ∧ I406 0 2 ≤ 32 from (hI406 0 2).1)
    refine gv_callV hD rfl (As := []) (st := []) rfl (by decide) rfl rfl (gr_lV hws rfl) (Nat.le_of_ble_eq_true rfl) (gz_Ev_mono (d := 10) (by decide) E405) ?_
    show gv_X _ _ (23, [(0, .inr (.inr (some 0))), (1, .inl a1)], [], gr_sh ++ ext, gr_h I406 J407)
    refine gv_run 3 true hD (pc' := 28) (lv' := [(0, .inr (.inr (some 0))), (1, .inl a1)]) (st' := []) (h' := gz_up (gr_h I406 J407) 0 211 (.inl 0)) (C := (((True ∧ True) ∧ True) ∧ True)) rfl ⟨⟨⟨trivial, trivial⟩, trivial⟩, trivial⟩ ?_
    refine gr_st hI406 FI406 rfl rfl ⟨⟨by show 0 ≤ _; omega, by show _ ≤ 2400; omega⟩, trivial⟩ (fun I423 hI423 FI423 q424 p424 => ?_)
    have t425 := p424 0 71 (by decide)
    have t426 := p424 0 72 (by decide)
    have t427 := p424 0 73 (by decide)
    have t428 := p424 0 69 (by decide)
    have t429 := p424 0 206 (by decide)
    have t430 := p424 0 68 (by decide)
    have t431 := p424 0 1 (by decide)
    have t432 := p424 0 2 (by decide)
    have f433 := (show 0 ≤ I423 0 71 ∧ I423 0 71 ≤ 5 from (hI423 0 71).1)
    have f434 := (show 0 ≤ I423 0 72 ∧ I423 0 72 ≤ 1000 from (hI423 0 72).1)
    have f435 := (show 0 ≤ I423 0 73 ∧ I423 0 73 ≤ 1001 from (hI423 0 73).1)
    have f436 := (show 0 ≤ I423 0 69 ∧ I423 0 69 ≤ 1000 from (hI423 0 69).1)
    have f437 := (show 0 ≤ I423 0 211 ∧ I423 0 211 ≤ 2400 from (hI423 0 211).1)
    have f438 := (show 0 ≤ I423 0 206 ∧ I423 0 206 ≤ 100 from (hI423 0 206).1)
    have f439 := (show 0 ≤ I423 0 68 ∧ I423 0 68 ≤ 1000 from (hI423 0 68).1)
    have f440 := (show 0 ≤ I423 0 1 ∧ I423 0 1 ≤ 8 from (hI423 0 1).1)
    have f441 := (show 0 ≤ I423 0 2 ∧ I423 0 2 ≤ 32 from (hI423 0 2).1)
    refine gv_run 2 true hD (pc' := 30) (lv' := [(2, .inl 0), (0, .inr (.inr (some 0))), (1, .inl a1)]) (st' := []) (h' := gr_h I423 J407) (C := ((True ∧ True) ∧ True)) rfl ⟨⟨trivial, trivial⟩, trivial⟩ ?_
    refine gv_pick [1, 2, 0] rfl ?_
    exact L30 _ I423 J407 0 (Nat.lt_succ_self _) hI423 FI423 FJ407 (by omega) (fun k a b => by omega)
  · refine gv_run 1 true hD (pc' := 9) (lv' := [(0, .inr (.inr (some 0))), (1, .inl a1)]) (st' := [.inl 0]) (h' := gr_h I346 J347) (C := (True ∧ True)) rfl ⟨trivial, trivial⟩ ?_
    exact gv_iret hD rfl ⟨I346, J347, rfl, hI346, FI346, FJ347, ⟨_, rfl, by omega⟩⟩
set_option maxHeartbeats 4000000 in
set_option maxRecDepth 100000 in
theorem r_swap_t {ws0 : List Cond} {tb : String → gz_T} (hws : ∀ w ∈ gr_ws, w ∈ ws0) (htb : tb RX13 = gr_T) (ext : gz_Sh) (I : gr_I) (J : gr_J) (hI : gr_Inv I) (a1 : Int) (a2 : Int) (a3 : Int) (ha1 : (-2147483648) ≤ a1 ∧ a1 ≤ 2147483647) (ha2 : (-2147483648) ≤ a2 ∧ a2 ≤ 2147483647) (ha3 : (-2147483648) ≤ a3 ∧ a3 ≤ 2147483647) (KGR_I : gr_GR I) (KFV_I : gr_FV I) (KPL_I : gr_PL I) (KOX_I : gr_OX I) : ∃ r h', gz_Ev ws0 tb 801 (yX13_swap, cX13_swap, 9, (some .int)) [.inr (.inr (some 0)), .inl a1, .inl a2, .inl a3] (gr_sh ++ ext) (gr_h I J) r (gr_sh ++ ext) h' 0 0 ∧ (∃ (I' : gr_I) (J' : gr_J), h' = gr_h I' J' ∧ gr_Inv I' ∧ gr_fr [0, 68, 69, 126, 127, 128, 143, 157, 158, 159, 160, 161, 166, 167, 168, 169, 170, 177, 179, 180, 181, 186, 188, 201] [51, 57, 76, 77, 78, 79, 83, 85, 87, 88, 89, 90, 91, 92, 93, 94, 95, 96, 97, 98, 99, 100, 101, 103, 104, 105, 106, 107, 108, 109, 110, 111, 112, 113, 116, 117, 118, 119, 120, 121, 122, 123, 124, 125] I I' ∧ gr_fj [0, 68, 69, 126, 127, 128, 143, 157, 158, 159, 160, 161, 166, 167, 168, 169, 170, 177, 179, 180, 181, 186, 188, 201] [51, 57, 76, 77, 78, 79, 83, 85, 87, 88, 89, 90, 91, 92, 93, 94, 95, 96, 97, 98, 99, 100, 101, 103, 104, 105, 106, 107, 108, 109, 110, 111, 112, 113, 116, 117, 118, 119, 120, 121, 122, 123, 124, 125] J J' ∧ gr_GR I' ∧ gr_FV I' ∧ gr_PL I' ∧ gr_OX I' ∧ (∃ z : Int, r = some (.inl z) ∧ (-3) ≤ z ∧ z ≤ 16 ∧ (((0 ≤ a1 ∧ a1 < I 0 1) ∧ (0 ≤ a2 ∧ a2 < I 0 2) ∧ (0 ≤ a3 ∧ a3 < I 0 1)) → I' 0 68 = 0) ∧ (¬ ((0 ≤ a1 ∧ a1 < I 0 1) ∧ (0 ≤ a2 ∧ a2 < I 0 2) ∧ (0 ≤ a3 ∧ a3 < I 0 1)) → I' 0 68 = I 0 68))) := by
  have FI : gr_fr [0, 68, 69, 126, 127, 128, 143, 157, 158, 159, 160, 161, 166, 167, 168, 169, 170, 177, 179, 180, 181, 186, 188, 201] [51, 57, 76, 77, 78, 79, 83, 85, 87, 88, 89, 90, 91, 92, 93, 94, 95, 96, 97, 98, 99, 100, 101, 103, 104, 105, 106, 107, 108, 109, 110, 111, 112, 113, 116, 117, 118, 119, 120, 121, 122, 123, 124, 125] I I := fun _ _ _ => rfl
  have FJ : gr_fj [0, 68, 69, 126, 127, 128, 143, 157, 158, 159, 160, 161, 166, 167, 168, 169, 170, 177, 179, 180, 181, 186, 188, 201] [51, 57, 76, 77, 78, 79, 83, 85, 87, 88, 89, 90, 91, 92, 93, 94, 95, 96, 97, 98, 99, 100, 101, 103, 104, 105, 106, 107, 108, 109, 110, 111, 112, 113, 116, 117, 118, 119, 120, 121, 122, 123, 124, 125] J J := fun _ _ _ => rfl
  have hD : gv_D (gr_E ws0 tb 800 (yX13_swap, cX13_swap, 9, (some .int)) kX13_swap) := gq_ok oX13_swap
  refine gr_ev (d := 800) (l := kX13_swap) (Po := fun r h' => (∃ (I' : gr_I) (J' : gr_J), h' = gr_h I' J' ∧ gr_Inv I' ∧ gr_fr [0, 68, 69, 126, 127, 128, 143, 157, 158, 159, 160, 161, 166, 167, 168, 169, 170, 177, 179, 180, 181, 186, 188, 201] [51, 57, 76, 77, 78, 79, 83, 85, 87, 88, 89, 90, 91, 92, 93, 94, 95, 96, 97, 98, 99, 100, 101, 103, 104, 105, 106, 107, 108, 109, 110, 111, 112, 113, 116, 117, 118, 119, 120, 121, 122, 123, 124, 125] I I' ∧ gr_fj [0, 68, 69, 126, 127, 128, 143, 157, 158, 159, 160, 161, 166, 167, 168, 169, 170, 177, 179, 180, 181, 186, 188, 201] [51, 57, 76, 77, 78, 79, 83, 85, 87, 88, 89, 90, 91, 92, 93, 94, 95, 96, 97, 98, 99, 100, 101, 103, 104, 105, 106, 107, 108, 109, 110, 111, 112, 113, 116, 117, 118, 119, 120, 121, 122, 123, 124, 125] J J' ∧ gr_GR I' ∧ gr_FV I' ∧ gr_PL I' ∧ gr_OX I' ∧ (∃ z : Int, r = some (.inl z) ∧ (-3) ≤ z ∧ z ≤ 16 ∧ (((0 ≤ a1 ∧ a1 < I 0 1) ∧ (0 ≤ a2 ∧ a2 < I 0 2) ∧ (0 ≤ a3 ∧ a3 < I 0 1)) → I' 0 68 = 0) ∧ (¬ ((0 ≤ a1 ∧ a1 < I 0 1) ∧ (0 ≤ a2 ∧ a2 < I 0 2) ∧ (0 ≤ a3 ∧ a3 < I 0 1)) → I' 0 68 = I 0 68)))) htb rfl (Nat.le_of_ble_eq_true rfl) ?_
  have f1 := (show 0 ≤ I 0 188 ∧ I 0 188 ≤ 2000 from (hI 0 188).1)
  have f2 := (show 0 ≤ I 0 186 ∧ I 0 186 ≤ 16 from (hI 0 186).1)
  have f3 := (show 0 ≤ I 0 201 ∧ I 0 201 ≤ 16 from (hI 0 201).1)
  have f4 := (show (-1) ≤ I 0 177 ∧ I 0 177 ≤ 2999 from (hI 0 177).1)
  have f5 := (show 0 ≤ I 0 68 ∧ I 0 68 ≤ 1000 from (hI 0 68).1)
  have f6 := (show 0 ≤ I 0 1 ∧ I 0 1 ≤ 8 from (hI 0 1).1)
  have f7 := (show 0 ≤ I 0 2 ∧ I 0 2 ≤ 32 from (hI 0 2).1)
  have L24 : ∀ (I8 : gr_I) (J9 : gr_J) , gr_Inv I8 → gr_fr [0, 68, 69, 126, 127, 128, 143, 157, 158, 159, 160, 161, 166, 167, 168, 169, 170, 177, 179, 180, 181, 186, 188, 201] [51, 57, 76, 77, 78, 79, 83, 85, 87, 88, 89, 90, 91, 92, 93, 94, 95, 96, 97, 98, 99, 100, 101, 103, 104, 105, 106, 107, 108, 109, 110, 111, 112, 113, 116, 117, 118, 119, 120, 121, 122, 123, 124, 125] I I8 → gr_fj [0, 68, 69, 126, 127, 128, 143, 157, 158, 159, 160, 161, 166, 167, 168, 169, 170, 177, 179, 180, 181, 186, 188, 201] [51, 57, 76, 77, 78, 79, 83, 85, 87, 88, 89, 90, 91, 92, 93, 94, 95, 96, 97, 98, 99, 100, 101, 103, 104, 105, 106, 107, 108, 109, 110, 111, 112, 113, 116, 117, 118, 119, 120, 121, 122, 123, 124, 125] J J9 → gr_GR I8 → gr_FV I8 → gr_PL I8 → gr_OX I8 → ((I8 0 68 = I 0 68) ∧ (¬ ((0 ≤ a1 ∧ a1 < I 0 1) ∧ (0 ≤ a2 ∧ a2 < I 0 2) ∧ (0 ≤ a3 ∧ a3 < I 0 1)))) → gv_X (gr_E ws0 tb 800 (yX13_swap, cX13_swap, 9, (some .int)) kX13_swap) (gv_Q cX13_swap (some .int) (gr_sh ++ ext) (fun r h' => (∃ (I' : gr_I) (J' : gr_J), h' = gr_h I' J' ∧ gr_Inv I' ∧ gr_fr [0, 68, 69, 126, 127, 128, 143, 157, 158, 159, 160, 161, 166, 167, 168, 169, 170, 177, 179, 180, 181, 186, 188, 201] [51, 57, 76, 77, 78, 79, 83, 85, 87, 88, 89, 90, 91, 92, 93, 94, 95, 96, 97, 98, 99, 100, 101, 103, 104, 105, 106, 107, 108, 109, 110, 111, 112, 113, 116, 117, 118, 119, 120, 121, 122, 123, 124, 125] I I' ∧ gr_fj [0, 68, 69, 126, 127, 128, 143, 157, 158, 159, 160, 161, 166, 167, 168, 169, 170, 177, 179, 180, 181, 186, 188, 201] [51, 57, 76, 77, 78, 79, 83, 85, 87, 88, 89, 90, 91, 92, 93, 94, 95, 96, 97, 98, 99, 100, 101, 103, 104, 105, 106, 107, 108, 109, 110, 111, 112, 113, 116, 117, 118, 119, 120, 121, 122, 123, 124, 125] J J' ∧ gr_GR I' ∧ gr_FV I' ∧ gr_PL I' ∧ gr_OX I' ∧ (∃ z : Int, r = some (.inl z) ∧ (-3) ≤ z ∧ z ≤ 16 ∧ (((0 ≤ a1 ∧ a1 < I 0 1) ∧ (0 ≤ a2 ∧ a2 < I 0 2) ∧ (0 ≤ a3 ∧ a3 < I 0 1)) → I' 0 68 = 0) ∧ (¬ ((0 ≤ a1 ∧ a1 < I 0 1) ∧ (0 ≤ a2 ∧ a2 < I 0 2) ∧ (0 ≤ a3 ∧ a3 < I 0 1)) → I' 0 68 = I 0 68))))) (24, [], [], gr_sh ++ ext, gr_h I8 J9) := by
    intro I8 J9 hI8 FI8 FJ9 KGR_I8 KFV_I8 KPL_I8 KOX_I8 m_10
    obtain ⟨e0_10, e1_10⟩ := m_10
    have f11 := (show 0 ≤ I8 0 188 ∧ I8 0 188 ≤ 2000 from (hI8 0 188).1)
    have f12 := (show 0 ≤ I8 0 186 ∧ I8 0 186 ≤ 16 from (hI8 0 186).1)
    have f13 := (show 0 ≤ I8 0 201 ∧ I8 0 201 ≤ 16 from (hI8 0 201).1)
    have f14 := (show (-1) ≤ I8 0 177 ∧ I8 0 177 ≤ 2999 from (hI8 0 177).1)
    have f15 := (show 0 ≤ I8 0 68 ∧ I8 0 68 ≤ 1000 from (hI8 0 68).1)
    have f16 := (show 0 ≤ I8 0 1 ∧ I8 0 1 ≤ 8 from (hI8 0 1).1)
    have f17 := (show 0 ≤ I8 0 2 ∧ I8 0 2 ≤ 32 from (hI8 0 2).1)
    refine gv_run 1 true hD (pc' := 25) (lv' := []) (st' := [.inl 0]) (h' := gr_h I8 J9) (C := (True ∧ True)) rfl ⟨trivial, trivial⟩ ?_
    exact gv_iret hD rfl ⟨I8, J9, rfl, hI8, FI8, FJ9, KGR_I8, KFV_I8, KPL_I8, KOX_I8, ⟨_, rfl, by omega⟩⟩
  have L69 : ∀ (n : Nat) (I18 : gr_I) (J19 : gr_J) (v4_20 : Int), (17 - v4_20).toNat < n → gr_Inv I18 → gr_fr [0, 68, 69, 126, 127, 128, 143, 157, 158, 159, 160, 161, 166, 167, 168, 169, 170, 177, 179, 180, 181, 186, 188, 201] [51, 57, 76, 77, 78, 79, 83, 85, 87, 88, 89, 90, 91, 92, 93, 94, 95, 96, 97, 98, 99, 100, 101, 103, 104, 105, 106, 107, 108, 109, 110, 111, 112, 113, 116, 117, 118, 119, 120, 121, 122, 123, 124, 125] I I18 → gr_fj [0, 68, 69, 126, 127, 128, 143, 157, 158, 159, 160, 161, 166, 167, 168, 169, 170, 177, 179, 180, 181, 186, 188, 201] [51, 57, 76, 77, 78, 79, 83, 85, 87, 88, 89, 90, 91, 92, 93, 94, 95, 96, 97, 98, 99, 100, 101, 103, 104, 105, 106, 107, 108, 109, 110, 111, 112, 113, 116, 117, 118, 119, 120, 121, 122, 123, 124, 125] J J19 → gr_GR I18 → gr_FV I18 → gr_PL I18 → gr_OX I18 → ((0 ≤ a3 ∧ a3 ≤ 7) ∧ (0 ≤ v4_20 ∧ v4_20 ≤ 16) ∧ (I18 0 201 ≤ v4_20) ∧ (I18 0 68 = 0) ∧ (((0 ≤ a1 ∧ a1 < I 0 1) ∧ (0 ≤ a2 ∧ a2 < I 0 2) ∧ (0 ≤ a3 ∧ a3 < I 0 1)))) → gv_X (gr_E ws0 tb 800 (yX13_swap, cX13_swap, 9, (some .int)) kX13_swap) (gv_Q cX13_swap (some .int) (gr_sh ++ ext) (fun r h' => (∃ (I' : gr_I) (J' : gr_J), h' = gr_h I' J' ∧ gr_Inv I' ∧ gr_fr [0, 68, 69, 126, 127, 128, 143, 157, 158, 159, 160, 161, 166, 167, 168, 169, 170, 177, 179, 180, 181, 186, 188, 201] [51, 57, 76, 77, 78, 79, 83, 85, 87, 88, 89, 90, 91, 92, 93, 94, 95, 96, 97, 98, 99, 100, 101, 103, 104, 105, 106, 107, 108, 109, 110, 111, 112, 113, 116, 117, 118, 119, 120, 121, 122, 123, 124, 125] I I' ∧ gr_fj [0, 68, 69, 126, 127, 128, 143, 157, 158, 159, 160, 161, 166, 167, 168, 169, 170, 177, 179, 180, 181, 186, 188, 201] [51, 57, 76, 77, 78, 79, 83, 85, 87, 88, 89, 90, 91, 92, 93, 94, 95, 96, 97, 98, 99, 100, 101, 103, 104, 105, 106, 107, 108, 109, 110, 111, 112, 113, 116, 117, 118, 119, 120, 121, 122, 123, 124, 125] J J' ∧ gr_GR I' ∧ gr_FV I' ∧ gr_PL I' ∧ gr_OX I' ∧ (∃ z : Int, r = some (.inl z) ∧ (-3) ≤ z ∧ z ≤ 16 ∧ (((0 ≤ a1 ∧ a1 < I 0 1) ∧ (0 ≤ a2 ∧ a2 < I 0 2) ∧ (0 ≤ a3 ∧ a3 < I 0 1)) → I' 0 68 = 0) ∧ (¬ ((0 ≤ a1 ∧ a1 < I 0 1) ∧ (0 ≤ a2 ∧ a2 < I 0 2) ∧ (0 ≤ a3 ∧ a3 < I 0 1)) → I' 0 68 = I 0 68))))) (69, [(0, .inr (.inr (some 0))), (3, .inl a3), (4, .inl v4_20)], [], gr_sh ++ ext, gr_h I18 J19) := by
    intro n
    induction n with
    | zero => intro I18 J19 v4_20 hn; omega
    | succ n ih69 =>
      intro I18 J19 v4_20 hn hI18 FI18 FJ19 KGR_I18 KFV_I18 KPL_I18 KOX_I18 m_20
      obtain ⟨ha3_20, hv4_20, e0_20, e1_20, e2_20⟩ := m_20
      have f21 := (show 0 ≤ I18 0 188 ∧ I18 0 188 ≤ 2000 from (hI18 0 188).1)
      have f22 := (show 0 ≤ I18 0 186 ∧ I18 0 186 ≤ 16 from (hI18 0 186).1)
      have f23 := (show 0 ≤ I18 0 201 ∧ I18 0 201 ≤ 16 from (hI18 0 201).1)
      have f24 := (show (-1) ≤ I18 0 177 ∧ I18 0 177 ≤ 2999 from (hI18 0 177).1)
      have f25 := (show 0 ≤ I18 0 68 ∧ I18 0 68 ≤ 1000 from (hI18 0 68).1)
      have f26 := (show 0 ≤ I18 0 1 ∧ I18 0 1 ≤ 8 from (hI18 0 1).1)
      have f27 := (show 0 ≤ I18 0 2 ∧ I18 0 2 ≤ 32 from (hI18 0 2).1)
      have L339 : ∀ (I28 : gr_I) (J29 : gr_J) , gr_Inv I28 → gr_fr [0, 68, 69, 126, 127, 128, 143, 157, 158, 159, 160, 161, 166, 167, 168, 169, 170, 177, 179, 180, 181, 186, 188, 201] [51, 57, 76, 77, 78, 79, 83, 85, 87, 88, 89, 90, 91, 92, 93, 94, 95, 96, 97, 98, 99, 100, 101, 103, 104, 105, 106, 107, 108, 109, 110, 111, 112, 113, 116, 117, 118, 119, 120, 121, 122, 123, 124, 125] I I28 → gr_fj [0, 68, 69, 126, 127, 128, 143, 157, 158, 159, 160, 161, 166, 167, 168, 169, 170, 177, 179, 180, 181, 186, 188, 201] [51, 57, 76, 77, 78, 79, 83, 85, 87, 88, 89, 90, 91, 92, 93, 94, 95, 96, 97, 98, 99, 100, 101, 103, 104, 105, 106, 107, 108, 109, 110, 111, 112, 113, 116, 117, 118, 119, 120, 121, 122, 123, 124, 125] J J29 → gr_GR I28 → gr_FV I28 → gr_PL I28 → gr_OX I28 → ((0 ≤ a3 ∧ a3 ≤ 7) ∧ (0 ≤ v4_20 ∧ v4_20 ≤ 15) ∧ (I28 0 201 ≤ v4_20 + 1) ∧ (I28 0 68 = 0) ∧ (((0 ≤ a1 ∧ a1 < I 0 1) ∧ (0 ≤ a2 ∧ a2 < I 0 2) ∧ (0 ≤ a3 ∧ a3 < I 0 1)))) → gv_X (gr_E ws0 tb 800 (yX13_swap, cX13_swap, 9, (some .int)) kX13_swap) (gv_Q cX13_swap (some .int) (gr_sh ++ ext) (fun r h' => (∃ (I' : gr_I) (J' : gr_J), h' = gr_h I' J' ∧ gr_Inv I' ∧ gr_fr [0, 68, 69, 126, 127, 128, 143, 157, 158, 159, 160, 161, 166, 167, 168, 169, 170, 177, 179, 180, 181, 186, 188, 201] [51, 57, 76, 77, 78, 79, 83, 85, 87, 88, 89, 90, 91, 92, 93, 94, 95, 96, 97, 98, 99, 100, 101, 103, 104, 105, 106, 107, 108, 109, 110, 111, 112, 113, 116, 117, 118, 119, 120, 121, 122, 123, 124, 125] I I' ∧ gr_fj [0, 68, 69, 126, 127, 128, 143, 157, 158, 159, 160, 161, 166, 167, 168, 169, 170, 177, 179, 180, 181, 186, 188, 201] [51, 57, 76, 77, 78, 79, 83, 85, 87, 88, 89, 90, 91, 92, 93, 94, 95, 96, 97, 98, 99, 100, 101, 103, 104, 105, 106, 107, 108, 109, 110, 111, 112, 113, 116, 117, 118, 119, 120, 121, 122, 123, 124, 125] J J' ∧ gr_GR I' ∧ gr_FV I' ∧ gr_PL I' ∧ gr_OX I' ∧ (∃ z : Int, r = some (.inl z) ∧ (-3) ≤ z ∧ z ≤ 16 ∧ (((0 ≤ a1 ∧ a1 < I 0 1) ∧ (0 ≤ a2 ∧ a2 < I 0 2) ∧ (0 ≤ a3 ∧ a3 < I 0 1)) → I' 0 68 = 0) ∧ (¬ ((0 ≤ a1 ∧ a1 < I 0 1) ∧ (0 ≤ a2 ∧ a2 < I 0 2) ∧ (0 ≤ a3 ∧ a3 < I 0 1)) → I' 0 68 = I 0 68))))) (339, [(0, .inr (.inr (some 0))), (3, .inl a3), (4, .inl v4_20)], [], gr_sh ++ ext, gr_h I28 J29) := by
        intro I28 J29 hI28 FI28 FJ29 KGR_I28 KFV_I28 KPL_I28 KOX_I28 m_30
        clear ha3_20 hv4_20 e0_20 e1_20 e2_20 f21 f22 f23 f24 f25 f26 f27
        obtain ⟨ha3_30, hv4_20_30, e0_30, e1_30, e2_30⟩ := m_30
        have f31 := (show 0 ≤ I28 0 188 ∧ I28 0 188 ≤ 2000 from (hI28 0 188).1)
        have f32 := (show 0 ≤ I28 0 186 ∧ I28 0 186 ≤ 16 from (hI28 0 186).1)
        have f33 := (show 0 ≤ I28 0 201 ∧ I28 0 201 ≤ 16 from (hI28 0 201).1)
        have f34 := (show (-1) ≤ I28 0 177 ∧ I28 0 177 ≤ 2999 from (hI28 0 177).1)
        have f35 := (show 0 ≤ I28 0 68 ∧ I28 0 68 ≤ 1000 from (hI28 0 68).1)
        have f36 := (show 0 ≤ I28 0 1 ∧ I28 0 1 ≤ 8 from (hI28 0 1).1)
        have f37 := (show 0 ≤ I28 0 2 ∧ I28 0 2 ≤ 32 from (hI28 0 2).1)
        refine gv_run 2 true hD (pc' := 69) (lv' := [(4, .inl (v4_20 + 1)), (0, .inr (.inr (some 0))), (3, .inl a3)]) (st' := []) (h' := gr_h I28 J29) (C := ((True ∧ True) ∧ True)) rfl ⟨⟨trivial, trivial⟩, trivial⟩ ?_
        refine gv_pick [1, 2, 0] rfl ?_
        exact ih69 I28 J29 (v4_20 + 1) (by omega) hI28 FI28 FJ29 KGR_I28 KFV_I28 KPL_I28 KOX_I28 (by omega)
      have L146 : ∀ (n : Nat) (I38 : gr_I) (J39 : gr_J) (v5_40 : Int) (v6_40 : Int) (v7_40 : Int), (17 - v7_40).toNat < n → gr_Inv I38 → gr_fr [0, 68, 69, 126, 127, 128, 143, 157, 158, 159, 160, 161, 166, 167, 168, 169, 170, 177, 179, 180, 181, 186, 188, 201] [51, 57, 76, 77, 78, 79, 83, 85, 87, 88, 89, 90, 91, 92, 93, 94, 95, 96, 97, 98, 99, 100, 101, 103, 104, 105, 106, 107, 108, 109, 110, 111, 112, 113, 116, 117, 118, 119, 120, 121, 122, 123, 124, 125] I I38 → gr_fj [0, 68, 69, 126, 127, 128, 143, 157, 158, 159, 160, 161, 166, 167, 168, 169, 170, 177, 179, 180, 181, 186, 188, 201] [51, 57, 76, 77, 78, 79, 83, 85, 87, 88, 89, 90, 91, 92, 93, 94, 95, 96, 97, 98, 99, 100, 101, 103, 104, 105, 106, 107, 108, 109, 110, 111, 112, 113, 116, 117, 118, 119, 120, 121, 122, 123, 124, 125] J J39 → gr_GR I38 → gr_FV I38 → gr_PL I38 → gr_OX I38 → ((0 ≤ a3 ∧ a3 ≤ 7) ∧ (0 ≤ v4_20 ∧ v4_20 ≤ 15) ∧ (0 ≤ v5_40 ∧ v5_40 ≤ 1439) ∧ (0 ≤ v6_40 ∧ v6_40 ≤ 1) ∧ (0 ≤ v7_40 ∧ v7_40 ≤ 16) ∧ (I38 0 201 ≤ v4_20) ∧ (v4_20 < I38 0 186) ∧ (I38 0 68 = 0) ∧ (((0 ≤ a1 ∧ a1 < I 0 1) ∧ (0 ≤ a2 ∧ a2 < I 0 2) ∧ (0 ≤ a3 ∧ a3 < I 0 1)))) → gv_X (gr_E ws0 tb 800 (yX13_swap, cX13_swap, 9, (some .int)) kX13_swap) (gv_Q cX13_swap (some .int) (gr_sh ++ ext) (fun r h' => (∃ (I' : gr_I) (J' : gr_J), h' = gr_h I' J' ∧ gr_Inv I' ∧ gr_fr [0, 68, 69, 126, 127, 128, 143, 157, 158, 159, 160, 161, 166, 167, 168, 169, 170, 177, 179, 180, 181, 186, 188, 201] [51, 57, 76, 77, 78, 79, 83, 85, 87, 88, 89, 90, 91, 92, 93, 94, 95, 96, 97, 98, 99, 100, 101, 103, 104, 105, 106, 107, 108, 109, 110, 111, 112, 113, 116, 117, 118, 119, 120, 121, 122, 123, 124, 125] I I' ∧ gr_fj [0, 68, 69, 126, 127, 128, 143, 157, 158, 159, 160, 161, 166, 167, 168, 169, 170, 177, 179, 180, 181, 186, 188, 201] [51, 57, 76, 77, 78, 79, 83, 85, 87, 88, 89, 90, 91, 92, 93, 94, 95, 96, 97, 98, 99, 100, 101, 103, 104, 105, 106, 107, 108, 109, 110, 111, 112, 113, 116, 117, 118, 119, 120, 121, 122, 123, 124, 125] J J' ∧ gr_GR I' ∧ gr_FV I' ∧ gr_PL I' ∧ gr_OX I' ∧ (∃ z : Int, r = some (.inl z) ∧ (-3) ≤ z ∧ z ≤ 16 ∧ (((0 ≤ a1 ∧ a1 < I 0 1) ∧ (0 ≤ a2 ∧ a2 < I 0 2) ∧ (0 ≤ a3 ∧ a3 < I 0 1)) → I' 0 68 = 0) ∧ (¬ ((0 ≤ a1 ∧ a1 < I 0 1) ∧ (0 ≤ a2 ∧ a2 < I 0 2) ∧ (0 ≤ a3 ∧ a3 < I 0 1)) → I' 0 68 = I 0 68))))) (146, [(0, .inr (.inr (some 0))), (3, .inl a3), (4, .inl v4_20), (5, .inl v5_40), (6, .inl v6_40), (7, .inl v7_40)], [], gr_sh ++ ext, gr_h I38 J39) := by
        intro n
        induction n with
        | zero => intro I38 J39 v5_40 v6_40 v7_40 hn; omega
        | succ n ih146 =>
          intro I38 J39 v5_40 v6_40 v7_40 hn hI38 FI38 FJ39 KGR_I38 KFV_I38 KPL_I38 KOX_I38 m_40
          clear ha3_20 hv4_20 e0_20 e1_20 e2_20 f21 f22 f23 f24 f25 f26 f27
          obtain ⟨ha3_40, hv4_20_40, hv5_40, hv6_40, hv7_40, e0_40, e1_40, e2_40, e3_40⟩ := m_40
          have f41 := (show 0 ≤ I38 0 188 ∧ I38 0 188 ≤ 2000 from (hI38 0 188).1)
          have f42 := (show 0 ≤ I38 0 186 ∧ I38 0 186 ≤ 16 from (hI38 0 186).1)
          have f43 := (show 0 ≤ I38 0 201 ∧ I38 0 201 ≤ 16 from (hI38 0 201).1)
          have f44 := (show (-1) ≤ I38 0 177 ∧ I38 0 177 ≤ 2999 from (hI38 0 177).1)
          have f45 := (show 0 ≤ I38 0 68 ∧ I38 0 68 ≤ 1000 from (hI38 0 68).1)
          have f46 := (show 0 ≤ I38 0 1 ∧ I38 0 1 ≤ 8 from (hI38 0 1).1)
          have f47 := (show 0 ≤ I38 0 2 ∧ I38 0 2 ≤ 32 from (hI38 0 2).1)
          have L182 : ∀ (s0_48 : Int), ((0 ≤ a3 ∧ a3 ≤ 7) ∧ (0 ≤ v4_20 ∧ v4_20 ≤ 15) ∧ (0 ≤ v5_40 ∧ v5_40 ≤ 1439) ∧ (0 ≤ v7_40 ∧ v7_40 ≤ 15) ∧ (0 ≤ s0_48 ∧ s0_48 ≤ 1) ∧ (I38 0 201 ≤ v4_20) ∧ (v4_20 < I38 0 186) ∧ (I38 0 68 = 0) ∧ (((0 ≤ a1 ∧ a1 < I 0 1) ∧ (0 ≤ a2 ∧ a2 < I 0 2) ∧ (0 ≤ a3 ∧ a3 < I 0 1)))) → gv_X (gr_E ws0 tb 800 (yX13_swap, cX13_swap, 9, (some .int)) kX13_swap) (gv_Q cX13_swap (some .int) (gr_sh ++ ext) (fun r h' => (∃ (I' : gr_I) (J' : gr_J), h' = gr_h I' J' ∧ gr_Inv I' ∧ gr_fr [0, 68, 69, 126, 127, 128, 143, 157, 158, 159, 160, 161, 166, 167, 168, 169, 170, 177, 179, 180, 181, 186, 188, 201] [51, 57, 76, 77, 78, 79, 83, 85, 87, 88, 89, 90, 91, 92, 93, 94, 95, 96, 97, 98, 99, 100, 101, 103, 104, 105, 106, 107, 108, 109, 110, 111, 112, 113, 116, 117, 118, 119, 120, 121, 122, 123, 124, 125] I I' ∧ gr_fj [0, 68, 69, 126, 127, 128, 143, 157, 158, 159, 160, 161, 166, 167, 168, 169, 170, 177, 179, 180, 181, 186, 188, 201] [51, 57, 76, 77, 78, 79, 83, 85, 87, 88, 89, 90, 91, 92, 93, 94, 95, 96, 97, 98, 99, 100, 101, 103, 104, 105, 106, 107, 108, 109, 110, 111, 112, 113, 116, 117, 118, 119, 120, 121, 122, 123, 124, 125] J J' ∧ gr_GR I' ∧ gr_FV I' ∧ gr_PL I' ∧ gr_OX I' ∧ (∃ z : Int, r = some (.inl z) ∧ (-3) ≤ z ∧ z ≤ 16 ∧ (((0 ≤ a1 ∧ a1 < I 0 1) ∧ (0 ≤ a2 ∧ a2 < I 0 2) ∧ (0 ≤ a3 ∧ a3 < I 0 1)) → I' 0 68 = 0) ∧ (¬ ((0 ≤ a1 ∧ a1 < I 0 1) ∧ (0 ≤ a2 ∧ a2 < I 0 2) ∧ (0 ≤ a3 ∧ a3 < I 0 1)) → I' 0 68 = I 0 68))))) (182, [(0, .inr (.inr (some 0))), (3, .inl a3), (4, .inl v4_20), (5, .inl v5_40), (7, .inl v7_40)], [.inl s0_48], gr_sh ++ ext, gr_h I38 J39) := by
            intro s0_48 m_48
            obtain ⟨ha3_48, hv4_20_48, hv5_40_48, hv7_40_48, hs0_48, e0_48, e1_48, e2_48, e3_48⟩ := m_48
            have f49 := (show 0 ≤ I38 0 188 ∧ I38 0 188 ≤ 2000 from (hI38 0 188).1)
            have f50 := (show 0 ≤ I38 0 186 ∧ I38 0 186 ≤ 16 from (hI38 0 186).1)
            have f51 := (show 0 ≤ I38 0 201 ∧ I38 0 201 ≤ 16 from (hI38 0 201).1)
            have f52 := (show (-1) ≤ I38 0 177 ∧ I38 0 177 ≤ 2999 from (hI38 0 177).1)
            have f53 := (show 0 ≤ I38 0 68 ∧ I38 0 68 ≤ 1000 from (hI38 0 68).1)
            have f54 := (show 0 ≤ I38 0 1 ∧ I38 0 1 ≤ 8 from (hI38 0 1).1)
            have f55 := (show 0 ≤ I38 0 2 ∧ I38 0 2 ≤ 32 from (hI38 0 2).1)
            have L187 : ∀ (n : Nat) (v6_56 : Int) (v8_56 : Int), (201 - v8_56).toNat < n → ((0 ≤ a3 ∧ a3 ≤ 7) ∧ (0 ≤ v4_20 ∧ v4_20 ≤ 15) ∧ (0 ≤ v5_40 ∧ v5_40 ≤ 1439) ∧ (0 ≤ v6_56 ∧ v6_56 ≤ 1) ∧ (0 ≤ v7_40 ∧ v7_40 ≤ 15) ∧ (0 ≤ v8_56 ∧ v8_56 ≤ 200) ∧ (I38 0 201 ≤ v4_20) ∧ (v4_20 < I38 0 186) ∧ (I38 0 68 = 0) ∧ (((0 ≤ a1 ∧ a1 < I 0 1) ∧ (0 ≤ a2 ∧ a2 < I 0 2) ∧ (0 ≤ a3 ∧ a3 < I 0 1)))) → gv_X (gr_E ws0 tb 800 (yX13_swap, cX13_swap, 9, (some .int)) kX13_swap) (gv_Q cX13_swap (some .int) (gr_sh ++ ext) (fun r h' => (∃ (I' : gr_I) (J' : gr_J), h' = gr_h I' J' ∧ gr_Inv I' ∧ gr_fr [0, 68, 69, 126, 127, 128, 143, 157, 158, 159, 160, 161, 166, 167, 168, 169, 170, 177, 179, 180, 181, 186, 188, 201] [51, 57, 76, 77, 78, 79, 83, 85, 87, 88, 89, 90, 91, 92, 93, 94, 95, 96, 97, 98, 99, 100, 101, 103, 104, 105, 106, 107, 108, 109, 110, 111, 112, 113, 116, 117, 118, 119, 120, 121, 122, 123, 124, 125] I I' ∧ gr_fj [0, 68, 69, 126, 127, 128, 143, 157, 158, 159, 160, 161, 166, 167, 168, 169, 170, 177, 179, 180, 181, 186, 188, 201] [51, 57, 76, 77, 78, 79, 83, 85, 87, 88, 89, 90, 91, 92, 93, 94, 95, 96, 97, 98, 99, 100, 101, 103, 104, 105, 106, 107, 108, 109, 110, 111, 112, 113, 116, 117, 118, 119, 120, 121, 122, 123, 124, 125] J J' ∧ gr_GR I' ∧ gr_FV I' ∧ gr_PL I' ∧ gr_OX I' ∧ (∃ z : Int, r = some (.inl z) ∧ (-3) ≤ z ∧ z ≤ 16 ∧ (((0 ≤ a1 ∧ a1 < I 0 1) ∧ (0 ≤ a2 ∧ a2 < I 0 2) ∧ (0 ≤ a3 ∧ a3 < I 0 1)) → I' 0 68 = 0) ∧ (¬ ((0 ≤ a1 ∧ a1 < I 0 1) ∧ (0 ≤ a2 ∧ a2 < I 0 2) ∧ (0 ≤ a3 ∧ a3 < I 0 1)) → I' 0 68 = I 0 68))))) (187, [(0, .inr (.inr (some 0))), (3, .inl a3), (4, .inl v4_20), (5, .inl v5_40), (6, .inl v6_56), (7, .inl v7_40), (8, .inl v8_56)], [], gr_sh ++ ext, gr_h I38 J39) := by
              intro n
              induction n with
              | zero => intro v6_56 v8_56 hn; omega
              | succ n ih187 =>
                intro v6_56 v8_56 hn m_56
                obtain ⟨ha3_56, hv4_20_56, hv5_40_56, hv6_56, hv7_40_56, hv8_56, e0_56, e1_56, e2_56, e3_56⟩ := m_56
                have f57 := (show 0 ≤ I38 0 188 ∧ I38 0 188 ≤ 2000 from (hI38 0 188).1)
                have f58 := (show 0 ≤ I38 0 186 ∧ I38 0 186 ≤ 16 from (hI38 0 186).1)
                have f59 := (show 0 ≤ I38 0 201 ∧ I38 0 201 ≤ 16 from (hI38 0 201).1)
                have f60 := (show (-1) ≤ I38 0 177 ∧ I38 0 177 ≤ 2999 from (hI38 0 177).1)
                have f61 := (show 0 ≤ I38 0 68 ∧ I38 0 68 ≤ 1000 from (hI38 0 68).1)
                have f62 := (show 0 ≤ I38 0 1 ∧ I38 0 1 ≤ 8 from (hI38 0 1).1)
                have f63 := (show 0 ≤ I38 0 2 ∧ I38 0 2 ≤ 32 from (hI38 0 2).1)
                have L240 : ∀ (s0_64 : Int), ((0 ≤ a3 ∧ a3 ≤ 7) ∧ (0 ≤ v4_20 ∧ v4_20 ≤ 15) ∧ (0 ≤ v5_40 ∧ v5_40 ≤ 1439) ∧ (0 ≤ v7_40 ∧ v7_40 ≤ 15) ∧ (0 ≤ v8_56 ∧ v8_56 ≤ 199) ∧ (0 ≤ s0_64 ∧ s0_64 ≤ 1) ∧ (I38 0 201 ≤ v4_20) ∧ (v4_20 < I38 0 186) ∧ (I38 0 68 = 0) ∧ (((0 ≤ a1 ∧ a1 < I 0 1) ∧ (0 ≤ a2 ∧ a2 < I 0 2) ∧ (0 ≤ a3 ∧ a3 < I 0 1)))) → gv_X (gr_E ws0 tb 800 (yX13_swap, cX13_swap, 9, (some .int)) kX13_swap) (gv_Q cX13_swap (some .int) (gr_sh ++ ext) (fun r h' => (∃ (I' : gr_I) (J' : gr_J), h' = gr_h I' J' ∧ gr_Inv I' ∧ gr_fr [0, 68, 69, 126, 127, 128, 143, 157, 158, 159, 160, 161, 166, 167, 168, 169, 170, 177, 179, 180, 181, 186, 188, 201] [51, 57, 76, 77, 78, 79, 83, 85, 87, 88, 89, 90, 91, 92, 93, 94, 95, 96, 97, 98, 99, 100, 101, 103, 104, 105, 106, 107, 108, 109, 110, 111, 112, 113, 116, 117, 118, 119, 120, 121, 122, 123, 124, 125] I I' ∧ gr_fj [0, 68, 69, 126, 127, 128, 143, 157, 158, 159, 160, 161, 166, 167, 168, 169, 170, 177, 179, 180, 181, 186, 188, 201] [51, 57, 76, 77, 78, 79, 83, 85, 87, 88, 89, 90, 91, 92, 93, 94, 95, 96, 97, 98, 99, 100, 101, 103, 104, 105, 106, 107, 108, 109, 110, 111, 112, 113, 116, 117, 118, 119, 120, 121, 122, 123, 124, 125] J J' ∧ gr_GR I' ∧ gr_FV I' ∧ gr_PL I' ∧ gr_OX I' ∧ (∃ z : Int, r = some (.inl z) ∧ (-3) ≤ z ∧ z ≤ 16 ∧ (((0 ≤ a1 ∧ a1 < I 0 1) ∧ (0 ≤ a2 ∧ a2 < I 0 2) ∧ (0 ≤ a3 ∧ a3 < I 0 1)) → I' 0 68 = 0) ∧ (¬ ((0 ≤ a1 ∧ a1 < I 0 1) ∧ (0 ≤ a2 ∧ a2 < I 0 2) ∧ (0 ≤ a3 ∧ a3 < I 0 1)) → I' 0 68 = I 0 68))))) (240, [(0, .inr (.inr (some 0))), (3, .inl a3), (4, .inl v4_20), (5, .inl v5_40), (7, .inl v7_40), (8, .inl v8_56)], [.inl s0_64], gr_sh ++ ext, gr_h I38 J39) := by
                  intro s0_64 m_64
                  obtain ⟨ha3_64, hv4_20_64, hv5_40_64, hv7_40_64, hv8_56_64, hs0_64, e0_64, e1_64, e2_64, e3_64⟩ := m_64
                  have f65 := (show 0 ≤ I38 0 188 ∧ I38 0 188 ≤ 2000 from (hI38 0 188).1)
                  have f66 := (show 0 ≤ I38 0 186 ∧ I38 0 186 ≤ 16 from (hI38 0 186).1)
                  have f67 := (show 0 ≤ I38 0 201 ∧ I38 0 201 ≤ 16 from (hI38 0 201).1)
                  have f68 := (show (-1) ≤ I38 0 177 ∧ I38 0 177 ≤ 2999 from (hI38 0 177).1)
                  have f69 := (show 0 ≤ I38 0 68 ∧ I38 0 68 ≤ 1000 from (hI38 0 68).1)
                  have f70 := (show 0 ≤ I38 0 1 ∧ I38 0 1 ≤ 8 from (hI38 0 1).1)
                  have f71 := (show 0 ≤ I38 0 2 ∧ I38 0 2 ≤ 32 from (hI38 0 2).1)
                  refine gv_run 3 true hD (pc' := 187) (lv' := [(8, .inl (v8_56 + 1)), (6, .inl s0_64), (0, .inr (.inr (some 0))), (3, .inl a3), (4, .inl v4_20), (5, .inl v5_40), (7, .inl v7_40)]) (st' := []) (h' := gr_h I38 J39) (C := (((True ∧ True) ∧ True) ∧ True)) rfl ⟨⟨⟨trivial, trivial⟩, trivial⟩, trivial⟩ ?_
                  refine gv_pick [2, 3, 4, 5, 1, 6, 0] rfl ?_
                  exact ih187 s0_64 (v8_56 + 1) (by omega) (by omega)
                have L248 : ((0 ≤ a3 ∧ a3 ≤ 7) ∧ (0 ≤ v4_20 ∧ v4_20 ≤ 15) ∧ (0 ≤ v5_40 ∧ v5_40 ≤ 1439) ∧ (0 ≤ v6_56 ∧ v6_56 ≤ 1) ∧ (0 ≤ v7_40 ∧ v7_40 ≤ 15) ∧ (I38 0 201 ≤ v4_20) ∧ (v4_20 < I38 0 186) ∧ (I38 0 68 = 0) ∧ (((0 ≤ a1 ∧ a1 < I 0 1) ∧ (0 ≤ a2 ∧ a2 < I 0 2) ∧ (0 ≤ a3 ∧ a3 < I 0 1)))) → gv_X (gr_E ws0 tb 800 (yX13_swap, cX13_swap, 9, (some .int)) kX13_swap) (gv_Q cX13_swap (some .int) (gr_sh ++ ext) (fun r h' => (∃ (I' : gr_I) (J' : gr_J), h' = gr_h I' J' ∧ gr_Inv I' ∧ gr_fr [0, 68, 69, 126, 127, 128, 143, 157, 158, 159, 160, 161, 166, 167, 168, 169, 170, 177, 179, 180, 181, 186, 188, 201] [51, 57, 76, 77, 78, 79, 83, 85, 87, 88, 89, 90, 91, 92, 93, 94, 95, 96, 97, 98, 99, 100, 101, 103, 104, 105, 106, 107, 108, 109, 110, 111, 112, 113, 116, 117, 118, 119, 120, 121, 122, 123, 124, 125] I I' ∧ gr_fj [0, 68, 69, 126, 127, 128, 143, 157, 158, 159, 160, 161, 166, 167, 168, 169, 170, 177, 179, 180, 181, 186, 188, 201] [51, 57, 76, 77, 78, 79, 83, 85, 87, 88, 89, 90, 91, 92, 93, 94, 95, 96, 97, 98, 99, 100, 101, 103, 104, 105, 106, 107, 108, 109, 110, 111, 112, 113, 116, 117, 118, 119, 120, 121, 122, 123, 124, 125] J J' ∧ gr_GR I' ∧ gr_FV I' ∧ gr_PL I' ∧ gr_OX I' ∧ (∃ z : Int, r = some (.inl z) ∧ (-3) ≤ z ∧ z ≤ 16 ∧ (((0 ≤ a1 ∧ a1 < I 0 1) ∧ (0 ≤ a2 ∧ a2 < I 0 2) ∧ (0 ≤ a3 ∧ a3 < I 0 1)) → I' 0 68 = 0) ∧ (¬ ((0 ≤ a1 ∧ a1 < I 0 1) ∧ (0 ≤ a2 ∧ a2 < I 0 2) ∧ (0 ≤ a3 ∧ a3 < I 0 1)) → I' 0 68 = I 0 68))))) (248, [(0, .inr (.inr (some 0))), (3, .inl a3), (4, .inl v4_20), (5, .inl v5_40), (6, .inl v6_56), (7, .inl v7_40)], [], gr_sh ++ ext, gr_h I38 J39) := by
                  intro m_72
                  obtain ⟨ha3_72, hv4_20_72, hv5_40_72, hv6_56_72, hv7_40_72, e0_72, e1_72, e2_72, e3_72⟩ := m_72
                  have f73 := (show 0 ≤ I38 0 188 ∧ I38 0 188 ≤ 2000 from (hI38 0 188).1)
                  have f74 := (show 0 ≤ I38 0 186 ∧ I38 0 186 ≤ 16 from (hI38 0 186).1)
                  have f75 := (show 0 ≤ I38 0 201 ∧ I38 0 201 ≤ 16 from (hI38 0 201).1)
                  have f76 := (show (-1) ≤ I38 0 177 ∧ I38 0 177 ≤ 2999 from (hI38 0 177).1)
                  have f77 := (show 0 ≤ I38 0 68 ∧ I38 0 68 ≤ 1000 from (hI38 0 68).1)
                  have f78 := (show 0 ≤ I38 0 1 ∧ I38 0 1 ≤ 8 from (hI38 0 1).1)
                  have f79 := (show 0 ≤ I38 0 2 ∧ I38 0 2 ≤ 32 from (hI38 0 2).1)
                  refine gv_run 2 true hD (pc' := 146) (lv' := [(7, .inl (v7_40 + 1)), (0, .inr (.inr (some 0))), (3, .inl a3), (4, .inl v4_20), (5, .inl v5_40), (6, .inl v6_56)]) (st' := []) (h' := gr_h I38 J39) (C := ((True ∧ True) ∧ True)) rfl ⟨⟨trivial, trivial⟩, trivial⟩ ?_
                  refine gv_pick [1, 2, 3, 4, 5, 0] rfl ?_
                  exact ih146 I38 J39 v5_40 v6_56 (v7_40 + 1) (by omega) hI38 FI38 FJ39 KGR_I38 KFV_I38 KPL_I38 KOX_I38 (by omega)
                have f80 := (show 0 ≤ I38 117 (Int.toNat v5_40) ∧ I38 117 (Int.toNat v5_40) ≤ 200 from (hI38 117 (Int.toNat v5_40)).1)
                refine gv_run 5 true hD (pc' := 196) (lv' := [(0, .inr (.inr (some 0))), (3, .inl a3), (4, .inl v4_20), (5, .inl v5_40), (6, .inl v6_56), (7, .inl v7_40), (8, .inl v8_56)]) (st' := [.inl (I38 117 (Int.toNat v5_40)), .inl v8_56]) (h' := gr_h I38 J39) (C := (((((True ∧ True) ∧ True) ∧ True) ∧ True) ∧ (0 ≤ v5_40 ∧ v5_40 < ((1440 : Nat) : Int)))) rfl ⟨⟨⟨⟨⟨trivial, trivial⟩, trivial⟩, trivial⟩, trivial⟩, ⟨by omega, by omega⟩⟩ ?_
                refine gv_icmp_ge (t := 248) hD rfl rfl ⟨⟨by omega, by omega⟩, ⟨by omega, by omega⟩⟩ (fun c81 => ?_) (fun c81 => ?_)
                · refine gv_pick [0, 1, 2, 3, 4, 5] rfl ?_
                  exact L248 (by omega)
                · refine gv_run 1 true hD (pc' := 201) (lv' := [(0, .inr (.inr (some 0))), (3, .inl a3), (4, .inl v4_20), (5, .inl v5_40), (6, .inl v6_56), (7, .inl v7_40), (8, .inl v8_56)]) (st' := [.inl v6_56]) (h' := gr_h I38 J39) (C := (True ∧ True)) rfl ⟨trivial, trivial⟩ ?_
                  refine gv_if_eq (t := 248) hD rfl rfl ⟨by omega, by omega⟩ (fun c82 => ?_) (fun c82 => ?_)
                  · refine gv_pick [0, 1, 2, 3, 4, 5] rfl ?_
                    exact L248 (by omega)
                  · refine gv_run 7 true hD (pc' := 217) (lv' := [(0, .inr (.inr (some 0))), (3, .inl a3), (4, .inl v4_20), (5, .inl v5_40), (6, .inl v6_56), (7, .inl v7_40), (8, .inl v8_56)]) (st' := [.inl ((200 * v7_40) + v8_56), .inr (.inr (some 124))]) (h' := gr_h I38 J39) (C := (((((((True ∧ True) ∧ True) ∧ True) ∧ True) ∧ True) ∧ True) ∧ True)) rfl ⟨⟨⟨⟨⟨⟨⟨trivial, trivial⟩, trivial⟩, trivial⟩, trivial⟩, trivial⟩, trivial⟩, trivial⟩ ?_
                    have f83 := (show (-128) ≤ I38 124 (Int.toNat (((200 * v7_40) + v8_56))) ∧ I38 124 (Int.toNat (((200 * v7_40) + v8_56))) ≤ 127 from (hI38 124 (Int.toNat (((200 * v7_40) + v8_56)))).1)
                    refine gv_run 1 true hD (pc' := 218) (lv' := [(0, .inr (.inr (some 0))), (3, .inl a3), (4, .inl v4_20), (5, .inl v5_40), (6, .inl v6_56), (7, .inl v7_40), (8, .inl v8_56)]) (st' := [.inl (I38 124 (Int.toNat (((200 * v7_40) + v8_56))))]) (h' := gr_h I38 J39) (C := (True ∧ (0 ≤ (((200 * v7_40) + v8_56)) ∧ (((200 * v7_40) + v8_56)) < ((3200 : Nat) : Int)))) rfl ⟨trivial, ⟨by omega, by omega⟩⟩ ?_
                    refine gv_run 7 true hD (pc' := 231) (lv' := [(0, .inr (.inr (some 0))), (3, .inl a3), (4, .inl v4_20), (5, .inl v5_40), (6, .inl v6_56), (7, .inl v7_40), (8, .inl v8_56)]) (st' := [.inl ((200 * v5_40) + v8_56), .inr (.inr (some 116)), .inl (I38 124 (Int.toNat (((200 * v7_40) + v8_56))))]) (h' := gr_h I38 J39) (C := (((((((True ∧ True) ∧ True) ∧ True) ∧ True) ∧ True) ∧ True) ∧ True)) rfl ⟨⟨⟨⟨⟨⟨⟨trivial, trivial⟩, trivial⟩, trivial⟩, trivial⟩, trivial⟩, trivial⟩, trivial⟩ ?_
                    have f84 := (show (-128) ≤ I38 116 (Int.toNat (((200 * v5_40) + v8_56))) ∧ I38 116 (Int.toNat (((200 * v5_40) + v8_56))) ≤ 127 from (hI38 116 (Int.toNat (((200 * v5_40) + v8_56)))).1)
                    refine gv_run 1 true hD (pc' := 232) (lv' := [(0, .inr (.inr (some 0))), (3, .inl a3), (4, .inl v4_20), (5, .inl v5_40), (6, .inl v6_56), (7, .inl v7_40), (8, .inl v8_56)]) (st' := [.inl (I38 116 (Int.toNat (((200 * v5_40) + v8_56)))), .inl (I38 124 (Int.toNat (((200 * v7_40) + v8_56))))]) (h' := gr_h I38 J39) (C := (True ∧ (0 ≤ (((200 * v5_40) + v8_56)) ∧ (((200 * v5_40) + v8_56)) < ((288000 : Nat) : Int)))) rfl ⟨trivial, ⟨by omega, by omega⟩⟩ ?_
                    refine gv_icmp_ne (t := 239) hD rfl rfl ⟨⟨by omega, by omega⟩, ⟨by omega, by omega⟩⟩ (fun c85 => ?_) (fun c85 => ?_)
                    · refine gv_run 1 true hD (pc' := 240) (lv' := [(0, .inr (.inr (some 0))), (3, .inl a3), (4, .inl v4_20), (5, .inl v5_40), (6, .inl v6_56), (7, .inl v7_40), (8, .inl v8_56)]) (st' := [.inl 0]) (h' := gr_h I38 J39) (C := (True ∧ True)) rfl ⟨trivial, trivial⟩ ?_
                      refine gv_pick [0, 1, 2, 3, 5, 6] rfl ?_
                      exact L240 0 (by omega)
                    · refine gv_run 2 true hD (pc' := 240) (lv' := [(0, .inr (.inr (some 0))), (3, .inl a3), (4, .inl v4_20), (5, .inl v5_40), (6, .inl v6_56), (7, .inl v7_40), (8, .inl v8_56)]) (st' := [.inl 1]) (h' := gr_h I38 J39) (C := ((True ∧ True) ∧ True)) rfl ⟨⟨trivial, trivial⟩, trivial⟩ ?_
                      refine gv_pick [0, 1, 2, 3, 5, 6] rfl ?_
                      exact L240 1 (by omega)
            refine gv_run 3 true hD (pc' := 187) (lv' := [(8, .inl 0), (6, .inl s0_48), (0, .inr (.inr (some 0))), (3, .inl a3), (4, .inl v4_20), (5, .inl v5_40), (7, .inl v7_40)]) (st' := []) (h' := gr_h I38 J39) (C := (((True ∧ True) ∧ True) ∧ True)) rfl ⟨⟨⟨trivial, trivial⟩, trivial⟩, trivial⟩ ?_
            refine gv_pick [2, 3, 4, 5, 1, 6, 0] rfl ?_
            exact L187 _ s0_48 0 (Nat.lt_succ_self _) (by omega)
          have L254 : ((0 ≤ a3 ∧ a3 ≤ 7) ∧ (0 ≤ v4_20 ∧ v4_20 ≤ 15) ∧ (0 ≤ v5_40 ∧ v5_40 ≤ 1439) ∧ (0 ≤ v6_40 ∧ v6_40 ≤ 1) ∧ (I38 0 201 ≤ v4_20) ∧ (v4_20 < I38 0 186) ∧ (I38 0 68 = 0) ∧ (((0 ≤ a1 ∧ a1 < I 0 1) ∧ (0 ≤ a2 ∧ a2 < I 0 2) ∧ (0 ≤ a3 ∧ a3 < I 0 1)))) → gv_X (gr_E ws0 tb 800 (yX13_swap, cX13_swap, 9, (some .int)) kX13_swap) (gv_Q cX13_swap (some .int) (gr_sh ++ ext) (fun r h' => (∃ (I' : gr_I) (J' : gr_J), h' = gr_h I' J' ∧ gr_Inv I' ∧ gr_fr [0, 68, 69, 126, 127, 128, 143, 157, 158, 159, 160, 161, 166, 167, 168, 169, 170, 177, 179, 180, 181, 186, 188, 201] [51, 57, 76, 77, 78, 79, 83, 85, 87, 88, 89, 90, 91, 92, 93, 94, 95, 96, 97, 98, 99, 100, 101, 103, 104, 105, 106, 107, 108, 109, 110, 111, 112, 113, 116, 117, 118, 119, 120, 121, 122, 123, 124, 125] I I' ∧ gr_fj [0, 68, 69, 126, 127, 128, 143, 157, 158, 159, 160, 161, 166, 167, 168, 169, 170, 177, 179, 180, 181, 186, 188, 201] [51, 57, 76, 77, 78, 79, 83, 85, 87, 88, 89, 90, 91, 92, 93, 94, 95, 96, 97, 98, 99, 100, 101, 103, 104, 105, 106, 107, 108, 109, 110, 111, 112, 113, 116, 117, 118, 119, 120, 121, 122, 123, 124, 125] J J' ∧ gr_GR I' ∧ gr_FV I' ∧ gr_PL I' ∧ gr_OX I' ∧ (∃ z : Int, r = some (.inl z) ∧ (-3) ≤ z ∧ z ≤ 16 ∧ (((0 ≤ a1 ∧ a1 < I 0 1) ∧ (0 ≤ a2 ∧ a2 < I 0 2) ∧ (0 ≤ a3 ∧ a3 < I 0 1)) → I' 0 68 = 0) ∧ (¬ ((0 ≤ a1 ∧ a1 < I 0 1) ∧ (0 ≤ a2 ∧ a2 < I 0 2) ∧ (0 ≤ a3 ∧ a3 < I 0 1)) → I' 0 68 = I 0 68))))) (254, [(0, .inr (.inr (some 0))), (3, .inl a3), (4, .inl v4_20), (5, .inl v5_40), (6, .inl v6_40)], [], gr_sh ++ ext, gr_h I38 J39) := by
            intro m_86
            obtain ⟨ha3_86, hv4_20_86, hv5_40_86, hv6_40_86, e0_86, e1_86, e2_86, e3_86⟩ := m_86
            have f87 := (show 0 ≤ I38 0 188 ∧ I38 0 188 ≤ 2000 from (hI38 0 188).1)
            have f88 := (show 0 ≤ I38 0 186 ∧ I38 0 186 ≤ 16 from (hI38 0 186).1)
            have f89 := (show 0 ≤ I38 0 201 ∧ I38 0 201 ≤ 16 from (hI38 0 201).1)
            have f90 := (show (-1) ≤ I38 0 177 ∧ I38 0 177 ≤ 2999 from (hI38 0 177).1)
            have f91 := (show 0 ≤ I38 0 68 ∧ I38 0 68 ≤ 1000 from (hI38 0 68).1)
            have f92 := (show 0 ≤ I38 0 1 ∧ I38 0 1 ≤ 8 from (hI38 0 1).1)
            have f93 := (show 0 ≤ I38 0 2 ∧ I38 0 2 ≤ 32 from (hI38 0 2).1)
            have L281 : ∀ (n : Nat) (I94 : gr_I) (J95 : gr_J) (v7_96 : Int), (201 - v7_96).toNat < n → gr_Inv I94 → gr_fr [0, 68, 69, 126, 127, 128, 143, 157, 158, 159, 160, 161, 166, 167, 168, 169, 170, 177, 179, 180, 181, 186, 188, 201] [51, 57, 76, 77, 78, 79, 83, 85, 87, 88, 89, 90, 91, 92, 93, 94, 95, 96, 97, 98, 99, 100, 101, 103, 104, 105, 106, 107, 108, 109, 110, 111, 112, 113, 116, 117, 118, 119, 120, 121, 122, 123, 124, 125] I I94 → gr_fj [0, 68, 69, 126, 127, 128, 143, 157, 158, 159, 160, 161, 166, 167, 168, 169, 170, 177, 179, 180, 181, 186, 188, 201] [51, 57, 76, 77, 78, 79, 83, 85, 87, 88, 89, 90, 91, 92, 93, 94, 95, 96, 97, 98, 99, 100, 101, 103, 104, 105, 106, 107, 108, 109, 110, 111, 112, 113, 116, 117, 118, 119, 120, 121, 122, 123, 124, 125] J J95 → gr_GR I94 → gr_FV I94 → gr_PL I94 → gr_OX I94 → ((0 ≤ a3 ∧ a3 ≤ 7) ∧ (0 ≤ v4_20 ∧ v4_20 ≤ 15) ∧ (0 ≤ v5_40 ∧ v5_40 ≤ 1439) ∧ (0 ≤ v7_96 ∧ v7_96 ≤ 200) ∧ (I94 0 201 ≤ v4_20) ∧ (v4_20 < I94 0 186) ∧ (I94 0 68 = 0) ∧ (((0 ≤ a1 ∧ a1 < I 0 1) ∧ (0 ≤ a2 ∧ a2 < I 0 2) ∧ (0 ≤ a3 ∧ a3 < I 0 1)))) → gv_X (gr_E ws0 tb 800 (yX13_swap, cX13_swap, 9, (some .int)) kX13_swap) (gv_Q cX13_swap (some .int) (gr_sh ++ ext) (fun r h' => (∃ (I' : gr_I) (J' : gr_J), h' = gr_h I' J' ∧ gr_Inv I' ∧ gr_fr [0, 68, 69, 126, 127, 128, 143, 157, 158, 159, 160, 161, 166, 167, 168, 169, 170, 177, 179, 180, 181, 186, 188, 201] [51, 57, 76, 77, 78, 79, 83, 85, 87, 88, 89, 90, 91, 92, 93, 94, 95, 96, 97, 98, 99, 100, 101, 103, 104, 105, 106, 107, 108, 109, 110, 111, 112, 113, 116, 117, 118, 119, 120, 121, 122, 123, 124, 125] I I' ∧ gr_fj [0, 68, 69, 126, 127, 128, 143, 157, 158, 159, 160, 161, 166, 167, 168, 169, 170, 177, 179, 180, 181, 186, 188, 201] [51, 57, 76, 77, 78, 79, 83, 85, 87, 88, 89, 90, 91, 92, 93, 94, 95, 96, 97, 98, 99, 100, 101, 103, 104, 105, 106, 107, 108, 109, 110, 111, 112, 113, 116, 117, 118, 119, 120, 121, 122, 123, 124, 125] J J' ∧ gr_GR I' ∧ gr_FV I' ∧ gr_PL I' ∧ gr_OX I' ∧ (∃ z : Int, r = some (.inl z) ∧ (-3) ≤ z ∧ z ≤ 16 ∧ (((0 ≤ a1 ∧ a1 < I 0 1) ∧ (0 ≤ a2 ∧ a2 < I 0 2) ∧ (0 ≤ a3 ∧ a3 < I 0 1)) → I' 0 68 = 0) ∧ (¬ ((0 ≤ a1 ∧ a1 < I 0 1) ∧ (0 ≤ a2 ∧ a2 < I 0 2) ∧ (0 ≤ a3 ∧ a3 < I 0 1)) → I' 0 68 = I 0 68))))) (281, [(0, .inr (.inr (some 0))), (3, .inl a3), (4, .inl v4_20), (5, .inl v5_40), (7, .inl v7_96)], [], gr_sh ++ ext, gr_h I94 J95) := by
              intro n
              induction n with
              | zero => intro I94 J95 v7_96 hn; omega
              | succ n ih281 =>
                intro I94 J95 v7_96 hn hI94 FI94 FJ95 KGR_I94 KFV_I94 KPL_I94 KOX_I94 m_96
                clear ha3_86 hv4_20_86 hv5_40_86 hv6_40_86 e0_86 e1_86 e2_86 e3_86 f87 f88 f89 f90 f91 f92 f93 ha3_40 hv4_20_40 hv5_40 hv6_40 hv7_40 e0_40 e1_40 e2_40 e3_40 f41 f42 f43 f44 f45 f46 f47
                obtain ⟨ha3_96, hv4_20_96, hv5_40_96, hv7_96, e0_96, e1_96, e2_96, e3_96⟩ := m_96
                have f97 := (show 0 ≤ I94 0 188 ∧ I94 0 188 ≤ 2000 from (hI94 0 188).1)
                have f98 := (show 0 ≤ I94 0 186 ∧ I94 0 186 ≤ 16 from (hI94 0 186).1)
                have f99 := (show 0 ≤ I94 0 201 ∧ I94 0 201 ≤ 16 from (hI94 0 201).1)
                have f100 := (show (-1) ≤ I94 0 177 ∧ I94 0 177 ≤ 2999 from (hI94 0 177).1)
                have f101 := (show 0 ≤ I94 0 68 ∧ I94 0 68 ≤ 1000 from (hI94 0 68).1)
                have f102 := (show 0 ≤ I94 0 1 ∧ I94 0 1 ≤ 8 from (hI94 0 1).1)
                have f103 := (show 0 ≤ I94 0 2 ∧ I94 0 2 ≤ 32 from (hI94 0 2).1)
                have f104 := (show 0 ≤ I94 117 (Int.toNat v5_40) ∧ I94 117 (Int.toNat v5_40) ≤ 200 from (hI94 117 (Int.toNat v5_40)).1)
                refine gv_run 5 true hD (pc' := 290) (lv' := [(0, .inr (.inr (some 0))), (3, .inl a3), (4, .inl v4_20), (5, .inl v5_40), (7, .inl v7_96)]) (st' := [.inl (I94 117 (Int.toNat v5_40)), .inl v7_96]) (h' := gr_h I94 J95) (C := (((((True ∧ True) ∧ True) ∧ True) ∧ True) ∧ (0 ≤ v5_40 ∧ v5_40 < ((1440 : Nat) : Int)))) rfl ⟨⟨⟨⟨⟨trivial, trivial⟩, trivial⟩, trivial⟩, trivial⟩, ⟨by omega, by omega⟩⟩ ?_
                refine gv_icmp_ge (t := 329) hD rfl rfl ⟨⟨by omega, by omega⟩, ⟨by omega, by omega⟩⟩ (fun c105 => ?_) (fun c105 => ?_)
                · have f106 := (show 0 ≤ I94 0 201 ∧ I94 0 201 ≤ 16 from (hI94 0 201).1)
                  refine gv_run 5 true hD (pc' := 336) (lv' := [(0, .inr (.inr (some 0))), (3, .inl a3), (4, .inl v4_20), (5, .inl v5_40), (7, .inl v7_96)]) (st' := [.inl ((I94 0 201) + 1), .inr (.inr (some 0))]) (h' := gr_h I94 J95) (C := (((((True ∧ True) ∧ True) ∧ True) ∧ True) ∧ True)) rfl ⟨⟨⟨⟨⟨trivial, trivial⟩, trivial⟩, trivial⟩, trivial⟩, trivial⟩ ?_
                  refine gv_run 1 true hD (pc' := 339) (lv' := [(0, .inr (.inr (some 0))), (3, .inl a3), (4, .inl v4_20), (5, .inl v5_40), (7, .inl v7_96)]) (st' := []) (h' := gz_up (gr_h I94 J95) 0 201 (.inl (((I94 0 201) + 1)))) (C := (True ∧ True)) rfl ⟨trivial, trivial⟩ ?_
                  refine gr_st hI94 FI94 rfl rfl ⟨⟨by show 0 ≤ _; omega, by show _ ≤ 16; omega⟩, trivial⟩ (fun I107 hI107 FI107 q108 p108 => ?_)
                  have t109 := p108 0 188 (by decide)
                  have t110 := p108 0 186 (by decide)
                  have t111 := p108 0 177 (by decide)
                  have t112 := p108 0 68 (by decide)
                  have t113 := p108 0 1 (by decide)
                  have t114 := p108 0 2 (by decide)
                  have f115 := (show 0 ≤ I107 0 188 ∧ I107 0 188 ≤ 2000 from (hI107 0 188).1)
                  have f116 := (show 0 ≤ I107 0 186 ∧ I107 0 186 ≤ 16 from (hI107 0 186).1)
                  have f117 := (show 0 ≤ I107 0 201 ∧ I107 0 201 ≤ 16 from (hI107 0 201).1)
                  have f118 := (show (-1) ≤ I107 0 177 ∧ I107 0 177 ≤ 2999 from (hI107 0 177).1)
                  have f119 := (show 0 ≤ I107 0 68 ∧ I107 0 68 ≤ 1000 from (hI107 0 68).1)
                  have f120 := (show 0 ≤ I107 0 1 ∧ I107 0 1 ≤ 8 from (hI107 0 1).1)
                  have f121 := (show 0 ≤ I107 0 2 ∧ I107 0 2 ≤ 32 from (hI107 0 2).1)
                  have KGR_I107 := gr_GR_fr KGR_I94 (fun k => p108 19 k (fun q => absurd q.1 (by decide))) (fun k => p108 18 k (fun q => absurd q.1 (by decide))) (fun k => p108 36 k (fun q => absurd q.1 (by decide))) (fun k => p108 41 k (fun q => absurd q.1 (by decide))) (fun k => p108 42 k (fun q => absurd q.1 (by decide))) (fun k => p108 43 k (fun q => absurd q.1 (by decide))) (fun k => p108 45 k (fun q => absurd q.1 (by decide))) (fun k => p108 46 k (fun q => absurd q.1 (by decide))) (fun k => p108 47 k (fun q => absurd q.1 (by decide))) (fun k => p108 6 k (fun q => absurd q.1 (by decide))) (fun k => p108 7 k (fun q => absurd q.1 (by decide))) (fun k => p108 8 k (fun q => absurd q.1 (by decide))) (p108 0 3 (by decide))
                  have KFV_I107 := gr_FV_fr KFV_I94 (fun k => p108 87 k (fun q => absurd q.1 (by decide))) (fun k => p108 88 k (fun q => absurd q.1 (by decide))) (fun k => p108 104 k (fun q => absurd q.1 (by decide))) (fun k => p108 90 k (fun q => absurd q.1 (by decide))) (fun k => p108 91 k (fun q => absurd q.1 (by decide))) (fun k => p108 92 k (fun q => absurd q.1 (by decide))) (fun k => p108 94 k (fun q => absurd q.1 (by decide))) (fun k => p108 95 k (fun q => absurd q.1 (by decide))) (fun k => p108 97 k (fun q => absurd q.1 (by decide))) (fun k => p108 98 k (fun q => absurd q.1 (by decide))) (fun k => p108 19 k (fun q => absurd q.1 (by decide))) (fun k => p108 18 k (fun q => absurd q.1 (by decide))) (fun k => p108 41 k (fun q => absurd q.1 (by decide))) (fun k => p108 6 k (fun q => absurd q.1 (by decide))) (fun k => p108 99 k (fun q => absurd q.1 (by decide))) (fun k => p108 105 k (fun q => absurd q.1 (by decide))) (fun k => p108 107 k (fun q => absurd q.1 (by decide))) (fun k => p108 108 k (fun q => absurd q.1 (by decide))) (fun k => p108 110 k (fun q => absurd q.1 (by decide))) (fun k => p108 111 k (fun q => absurd q.1 (by decide))) (p108 0 157 (by decide)) (p108 0 158 (by decide)) (p108 0 177 (by decide)) (p108 0 186 (by decide)) (p108 0 159 (by decide)) hI94
                  have KPL_I107 := gr_PL_fr KPL_I94 (fun k => p108 114 k (fun q => absurd q.1 (by decide))) (fun k => p108 115 k (fun q => absurd q.1 (by decide))) (fun k => p108 6 k (fun q => absurd q.1 (by decide))) (p108 0 3 (by decide))
                  have KOX_I107 := gr_OX_fr KOX_I94 (fun k => p108 121 k (fun q => absurd q.1 (by decide))) (fun k => p108 120 k (fun q => absurd q.1 (by decide)))
                  refine gv_pick [0, 1, 2] rfl ?_
                  exact L339 I107 J95 hI107 FI107 FJ95 KGR_I107 KFV_I107 KPL_I107 KOX_I107 (by omega)
                · have f122 := (show 0 ≤ I94 0 201 ∧ I94 0 201 ≤ 16 from (hI94 0 201).1)
                  refine gv_run 7 true hD (pc' := 307) (lv' := [(0, .inr (.inr (some 0))), (3, .inl a3), (4, .inl v4_20), (5, .inl v5_40), (7, .inl v7_96)]) (st' := [.inl v7_96, .inl (200 * (I94 0 201)), .inr (.inr (some 124))]) (h' := gr_h I94 J95) (C := (((((((True ∧ True) ∧ True) ∧ True) ∧ True) ∧ True) ∧ True) ∧ True)) rfl ⟨⟨⟨⟨⟨⟨⟨trivial, trivial⟩, trivial⟩, trivial⟩, trivial⟩, trivial⟩, trivial⟩, trivial⟩ ?_
                  refine gv_run 7 true hD (pc' := 320) (lv' := [(0, .inr (.inr (some 0))), (3, .inl a3), (4, .inl v4_20), (5, .inl v5_40), (7, .inl v7_96)]) (st' := [.inl v7_96, .inl (200 * v5_40), .inr (.inr (some 116)), .inl ((200 * (I94 0 201)) + v7_96), .inr (.inr (some 124))]) (h' := gr_h I94 J95) (C := (((((((True ∧ True) ∧ True) ∧ True) ∧ True) ∧ True) ∧ True) ∧ True)) rfl ⟨⟨⟨⟨⟨⟨⟨trivial, trivial⟩, trivial⟩, trivial⟩, trivial⟩, trivial⟩, trivial⟩, trivial⟩ ?_
                  have f123 := (show (-128) ≤ I94 116 (Int.toNat (((200 * v5_40) + v7_96))) ∧ I94 116 (Int.toNat (((200 * v5_40) + v7_96))) ≤ 127 from (hI94 116 (Int.toNat (((200 * v5_40) + v7_96)))).1)
                  refine gv_run 2 true hD (pc' := 322) (lv' := [(0, .inr (.inr (some 0))), (3, .inl a3), (4, .inl v4_20), (5, .inl v5_40), (7, .inl v7_96)]) (st' := [.inl (I94 116 (Int.toNat (((200 * v5_40) + v7_96)))), .inl ((200 * (I94 0 201)) + v7_96), .inr (.inr (some 124))]) (h' := gr_h I94 J95) (C := ((True ∧ True) ∧ (0 ≤ (((200 * v5_40) + v7_96)) ∧ (((200 * v5_40) + v7_96)) < ((288000 : Nat) : Int)))) rfl ⟨⟨trivial, trivial⟩, ⟨by omega, by omega⟩⟩ ?_
                  have f124 := gw_nar_byte (x := ((I94 116 (Int.toNat (((200 * v5_40) + v7_96))))))
                  refine gv_run 1 true hD (pc' := 323) (lv' := [(0, .inr (.inr (some 0))), (3, .inl a3), (4, .inl v4_20), (5, .inl v5_40), (7, .inl v7_96)]) (st' := []) (h' := gz_up (gr_h I94 J95) 124 (Int.toNat (((200 * (I94 0 201)) + v7_96))) (.inl (((vp_nar .byte (Int32.ofInt ((I94 116 (Int.toNat (((200 * v5_40) + v7_96))))))).toInt)))) (C := (True ∧ (0 ≤ (((200 * (I94 0 201)) + v7_96)) ∧ (((200 * (I94 0 201)) + v7_96)) < ((3200 : Nat) : Int)))) rfl ⟨trivial, ⟨by omega, by omega⟩⟩ ?_
                  refine gr_st hI94 FI94 rfl rfl ⟨⟨by show (-128) ≤ _; omega, by show _ ≤ 127; omega⟩, trivial⟩ (fun I125 hI125 FI125 q126 p126 => ?_)
                  have t127 := p126 0 188 (fun q => absurd q.1 (by decide))
                  have t128 := p126 0 186 (fun q => absurd q.1 (by decide))
                  have t129 := p126 0 201 (fun q => absurd q.1 (by decide))
                  have t130 := p126 0 177 (fun q => absurd q.1 (by decide))
                  have t131 := p126 0 68 (fun q => absurd q.1 (by decide))
                  have t132 := p126 0 1 (fun q => absurd q.1 (by decide))
                  have t133 := p126 0 2 (fun q => absurd q.1 (by decide))
                  have f134 := (show 0 ≤ I125 0 188 ∧ I125 0 188 ≤ 2000 from (hI125 0 188).1)
                  have f135 := (show 0 ≤ I125 0 186 ∧ I125 0 186 ≤ 16 from (hI125 0 186).1)
                  have f136 := (show 0 ≤ I125 0 201 ∧ I125 0 201 ≤ 16 from (hI125 0 201).1)
                  have f137 := (show (-1) ≤ I125 0 177 ∧ I125 0 177 ≤ 2999 from (hI125 0 177).1)
                  have f138 := (show 0 ≤ I125 0 68 ∧ I125 0 68 ≤ 1000 from (hI125 0 68).1)
                  have f139 := (show 0 ≤ I125 0 1 ∧ I125 0 1 ≤ 8 from (hI125 0 1).1)
                  have f140 := (show 0 ≤ I125 0 2 ∧ I125 0 2 ≤ 32 from (hI125 0 2).1)
                  have KGR_I125 := gr_GR_fr KGR_I94 (fun k => p126 19 k (fun q => absurd q.1 (by decide))) (fun k => p126 18 k (fun q => absurd q.1 (by decide))) (fun k => p126 36 k (fun q => absurd q.1 (by decide))) (fun k => p126 41 k (fun q => absurd q.1 (by decide))) (fun k => p126 42 k (fun q => absurd q.1 (by decide))) (fun k => p126 43 k (fun q => absurd q.1 (by decide))) (fun k => p126 45 k (fun q => absurd q.1 (by decide))) (fun k => p126 46 k (fun q => absurd q.1 (by decide))) (fun k => p126 47 k (fun q => absurd q.1 (by decide))) (fun k => p126 6 k (fun q => absurd q.1 (by decide))) (fun k => p126 7 k (fun q => absurd q.1 (by decide))) (fun k => p126 8 k (fun q => absurd q.1 (by decide))) (p126 0 3 (fun q => absurd q.1 (by decide)))
                  have KFV_I125 := gr_FV_fr KFV_I94 (fun k => p126 87 k (fun q => absurd q.1 (by decide))) (fun k => p126 88 k (fun q => absurd q.1 (by decide))) (fun k => p126 104 k (fun q => absurd q.1 (by decide))) (fun k => p126 90 k (fun q => absurd q.1 (by decide))) (fun k => p126 91 k (fun q => absurd q.1 (by decide))) (fun k => p126 92 k (fun q => absurd q.1 (by decide))) (fun k => p126 94 k (fun q => absurd q.1 (by decide))) (fun k => p126 95 k (fun q => absurd q.1 (by decide))) (fun k => p126 97 k (fun q => absurd q.1 (by decide))) (fun k => p126 98 k (fun q => absurd q.1 (by decide))) (fun k => p126 19 k (fun q => absurd q.1 (by decide))) (fun k => p126 18 k (fun q => absurd q.1 (by decide))) (fun k => p126 41 k (fun q => absurd q.1 (by decide))) (fun k => p126 6 k (fun q => absurd q.1 (by decide))) (fun k => p126 99 k (fun q => absurd q.1 (by decide))) (fun k => p126 105 k (fun q => absurd q.1 (by decide))) (fun k => p126 107 k (fun q => absurd q.1 (by decide))) (fun k => p126 108 k (fun q => absurd q.1 (by decide))) (fun k => p126 110 k (fun q => absurd q.1 (by decide))) (fun k => p126 111 k (fun q => absurd q.1 (by decide))) (p126 0 157 (fun q => absurd q.1 (by decide))) (p126 0 158 (fun q => absurd q.1 (by decide))) (p126 0 177 (fun q => absurd q.1 (by decide))) (p126 0 186 (fun q => absurd q.1 (by decide))) (p126 0 159 (fun q => absurd q.1 (by decide))) hI94
                  have KPL_I125 := gr_PL_fr KPL_I94 (fun k => p126 114 k (fun q => absurd q.1 (by decide))) (fun k => p126 115 k (fun q => absurd q.1 (by decide))) (fun k => p126 6 k (fun q => absurd q.1 (by decide))) (p126 0 3 (fun q => absurd q.1 (by decide)))
                  have KOX_I125 := gr_OX_fr KOX_I94 (fun k => p126 121 k (fun q => absurd q.1 (by decide))) (fun k => p126 120 k (fun q => absurd q.1 (by decide)))
                  refine gv_run 2 true hD (pc' := 281) (lv' := [(7, .inl (v7_96 + 1)), (0, .inr (.inr (some 0))), (3, .inl a3), (4, .inl v4_20), (5, .inl v5_40)]) (st' := []) (h' := gr_h I125 J95) (C := ((True ∧ True) ∧ True)) rfl ⟨⟨trivial, trivial⟩, trivial⟩ ?_
                  refine gv_pick [1, 2, 3, 4, 0] rfl ?_
                  exact ih281 I125 J95 (v7_96 + 1) (by omega) hI125 FI125 FJ95 KGR_I125 KFV_I125 KPL_I125 KOX_I125 (by omega)
            refine gv_run 1 true hD (pc' := 256) (lv' := [(0, .inr (.inr (some 0))), (3, .inl a3), (4, .inl v4_20), (5, .inl v5_40), (6, .inl v6_40)]) (st' := [.inl v6_40]) (h' := gr_h I38 J39) (C := (True ∧ True)) rfl ⟨trivial, trivial⟩ ?_
            refine gv_if_eq (t := 262) hD rfl rfl ⟨by omega, by omega⟩ (fun c141 => ?_) (fun c141 => ?_)
            · have f142 := (show 0 ≤ I38 0 201 ∧ I38 0 201 ≤ 16 from (hI38 0 201).1)
              refine gv_run 7 true hD (pc' := 276) (lv' := [(0, .inr (.inr (some 0))), (3, .inl a3), (4, .inl v4_20), (5, .inl v5_40), (6, .inl v6_40)]) (st' := [.inl v5_40, .inr (.inr (some 117)), .inl (I38 0 201), .inr (.inr (some 125))]) (h' := gr_h I38 J39) (C := (((((((True ∧ True) ∧ True) ∧ True) ∧ True) ∧ True) ∧ True) ∧ True)) rfl ⟨⟨⟨⟨⟨⟨⟨trivial, trivial⟩, trivial⟩, trivial⟩, trivial⟩, trivial⟩, trivial⟩, trivial⟩ ?_
              have f143 := (show 0 ≤ I38 117 (Int.toNat v5_40) ∧ I38 117 (Int.toNat v5_40) ≤ 200 from (hI38 117 (Int.toNat v5_40)).1)
              refine gv_run 1 true hD (pc' := 277) (lv' := [(0, .inr (.inr (some 0))), (3, .inl a3), (4, .inl v4_20), (5, .inl v5_40), (6, .inl v6_40)]) (st' := [.inl (I38 117 (Int.toNat v5_40)), .inl (I38 0 201), .inr (.inr (some 125))]) (h' := gr_h I38 J39) (C := (True ∧ (0 ≤ v5_40 ∧ v5_40 < ((1440 : Nat) : Int)))) rfl ⟨trivial, ⟨by omega, by omega⟩⟩ ?_
              refine gv_run 1 true hD (pc' := 278) (lv' := [(0, .inr (.inr (some 0))), (3, .inl a3), (4, .inl v4_20), (5, .inl v5_40), (6, .inl v6_40)]) (st' := []) (h' := gz_up (gr_h I38 J39) 125 (Int.toNat ((I38 0 201))) (.inl ((I38 117 (Int.toNat v5_40))))) (C := (True ∧ (0 ≤ (I38 0 201) ∧ (I38 0 201) < ((16 : Nat) : Int)))) rfl ⟨trivial, ⟨by omega, by omega⟩⟩ ?_
              refine gr_st hI38 FI38 rfl rfl ⟨⟨by show 0 ≤ _; omega, by show _ ≤ 200; omega⟩, trivial⟩ (fun I144 hI144 FI144 q145 p145 => ?_)
              have t146 := p145 0 188 (fun q => absurd q.1 (by decide))
              have t147 := p145 0 186 (fun q => absurd q.1 (by decide))
              have t148 := p145 0 201 (fun q => absurd q.1 (by decide))
              have t149 := p145 0 177 (fun q => absurd q.1 (by decide))
              have t150 := p145 0 68 (fun q => absurd q.1 (by decide))
              have t151 := p145 0 1 (fun q => absurd q.1 (by decide))
              have t152 := p145 0 2 (fun q => absurd q.1 (by decide))
              have f153 := (show 0 ≤ I144 0 188 ∧ I144 0 188 ≤ 2000 from (hI144 0 188).1)
              have f154 := (show 0 ≤ I144 0 186 ∧ I144 0 186 ≤ 16 from (hI144 0 186).1)
              have f155 := (show 0 ≤ I144 0 201 ∧ I144 0 201 ≤ 16 from (hI144 0 201).1)
              have f156 := (show (-1) ≤ I144 0 177 ∧ I144 0 177 ≤ 2999 from (hI144 0 177).1)
              have f157 := (show 0 ≤ I144 0 68 ∧ I144 0 68 ≤ 1000 from (hI144 0 68).1)
              have f158 := (show 0 ≤ I144 0 1 ∧ I144 0 1 ≤ 8 from (hI144 0 1).1)
              have f159 := (show 0 ≤ I144 0 2 ∧ I144 0 2 ≤ 32 from (hI144 0 2).1)
              have KGR_I144 := gr_GR_fr KGR_I38 (fun k => p145 19 k (fun q => absurd q.1 (by decide))) (fun k => p145 18 k (fun q => absurd q.1 (by decide))) (fun k => p145 36 k (fun q => absurd q.1 (by decide))) (fun k => p145 41 k (fun q => absurd q.1 (by decide))) (fun k => p145 42 k (fun q => absurd q.1 (by decide))) (fun k => p145 43 k (fun q => absurd q.1 (by decide))) (fun k => p145 45 k (fun q => absurd q.1 (by decide))) (fun k => p145 46 k (fun q => absurd q.1 (by decide))) (fun k => p145 47 k (fun q => absurd q.1 (by decide))) (fun k => p145 6 k (fun q => absurd q.1 (by decide))) (fun k => p145 7 k (fun q => absurd q.1 (by decide))) (fun k => p145 8 k (fun q => absurd q.1 (by decide))) (p145 0 3 (fun q => absurd q.1 (by decide)))
              have KFV_I144 := gr_FV_fr KFV_I38 (fun k => p145 87 k (fun q => absurd q.1 (by decide))) (fun k => p145 88 k (fun q => absurd q.1 (by decide))) (fun k => p145 104 k (fun q => absurd q.1 (by decide))) (fun k => p145 90 k (fun q => absurd q.1 (by decide))) (fun k => p145 91 k (fun q => absurd q.1 (by decide))) (fun k => p145 92 k (fun q => absurd q.1 (by decide))) (fun k => p145 94 k (fun q => absurd q.1 (by decide))) (fun k => p145 95 k (fun q => absurd q.1 (by decide))) (fun k => p145 97 k (fun q => absurd q.1 (by decide))) (fun k => p145 98 k (fun q => absurd q.1 (by decide))) (fun k => p145 19 k (fun q => absurd q.1 (by decide))) (fun k => p145 18 k (fun q => absurd q.1 (by decide))) (fun k => p145 41 k (fun q => absurd q.1 (by decide))) (fun k => p145 6 k (fun q => absurd q.1 (by decide))) (fun k => p145 99 k (fun q => absurd q.1 (by decide))) (fun k => p145 105 k (fun q => absurd q.1 (by decide))) (fun k => p145 107 k (fun q => absurd q.1 (by decide))) (fun k => p145 108 k (fun q => absurd q.1 (by decide))) (fun k => p145 110 k (fun q => absurd q.1 (by decide))) (fun k => p145 111 k (fun q => absurd q.1 (by decide))) (p145 0 157 (fun q => absurd q.1 (by decide))) (p145 0 158 (fun q => absurd q.1 (by decide))) (p145 0 177 (fun q => absurd q.1 (by decide))) (p145 0 186 (fun q => absurd q.1 (by decide))) (p145 0 159 (fun q => absurd q.1 (by decide))) hI38
              have KPL_I144 := gr_PL_fr KPL_I38 (fun k => p145 114 k (fun q => absurd q.1 (by decide))) (fun k => p145 115 k (fun q => absurd q.1 (by decide))) (fun k => p145 6 k (fun q => absurd q.1 (by decide))) (p145 0 3 (fun q => absurd q.1 (by decide)))
              have KOX_I144 := gr_OX_fr KOX_I38 (fun k => p145 121 k (fun q => absurd q.1 (by decide))) (fun k => p145 120 k (fun q => absurd q.1 (by decide)))
              refine gv_run 2 true hD (pc' := 281) (lv' := [(7, .inl 0), (0, .inr (.inr (some 0))), (3, .inl a3), (4, .inl v4_20), (5, .inl v5_40), (6, .inl v6_40)]) (st' := []) (h' := gr_h I144 J39) (C := ((True ∧ True) ∧ True)) rfl ⟨⟨trivial, trivial⟩, trivial⟩ ?_
              refine gv_pick [1, 2, 3, 4, 0] rfl ?_
              exact L281 _ I144 J39 0 (Nat.lt_succ_self _) hI144 FI144 FJ39 KGR_I144 KFV_I144 KPL_I144 KOX_I144 (by omega)
            · refine gv_run 1 true hD (pc' := 339) (lv' := [(0, .inr (.inr (some 0))), (3, .inl a3), (4, .inl v4_20), (5, .inl v5_40), (6, .inl v6_40)]) (st' := []) (h' := gr_h I38 J39) (C := (True ∧ True)) rfl ⟨trivial, trivial⟩ ?_
              refine gv_pick [0, 1, 2] rfl ?_
              exact L339 I38 J39 hI38 FI38 FJ39 KGR_I38 KFV_I38 KPL_I38 KOX_I38 (by omega)
          have f160 := (show 0 ≤ I38 0 201 ∧ I38 0 201 ≤ 16 from (hI38 0 201).1)
          refine gv_run 3 true hD (pc' := 152) (lv' := [(0, .inr (.inr (some 0))), (3, .inl a3), (4, .inl v4_20), (5, .inl v5_40), (6, .inl v6_40), (7, .inl v7_40)]) (st' := [.inl (I38 0 201), .inl v7_40]) (h' := gr_h I38 J39) (C := (((True ∧ True) ∧ True) ∧ True)) rfl ⟨⟨⟨trivial, trivial⟩, trivial⟩, trivial⟩ ?_
          refine gv_icmp_ge (t := 254) hD rfl rfl ⟨⟨by omega, by omega⟩, ⟨by omega, by omega⟩⟩ (fun c161 => ?_) (fun c161 => ?_)
          · refine gv_pick [0, 1, 2, 3, 4] rfl ?_
            exact L254 (by omega)
          · refine gv_run 1 true hD (pc' := 157) (lv' := [(0, .inr (.inr (some 0))), (3, .inl a3), (4, .inl v4_20), (5, .inl v5_40), (6, .inl v6_40), (7, .inl v7_40)]) (st' := [.inl v6_40]) (h' := gr_h I38 J39) (C := (True ∧ True)) rfl ⟨trivial, trivial⟩ ?_
            refine gv_if_ne (t := 254) hD rfl rfl ⟨by omega, by omega⟩ (fun c162 => ?_) (fun c162 => ?_)
            · refine gv_pick [0, 1, 2, 3, 4] rfl ?_
              exact L254 (by omega)
            · have f163 := (show 0 ≤ I38 125 (Int.toNat v7_40) ∧ I38 125 (Int.toNat v7_40) ≤ 200 from (hI38 125 (Int.toNat v7_40)).1)
              refine gv_run 4 true hD (pc' := 167) (lv' := [(0, .inr (.inr (some 0))), (3, .inl a3), (4, .inl v4_20), (5, .inl v5_40), (6, .inl v6_40), (7, .inl v7_40)]) (st' := [.inl (I38 125 (Int.toNat v7_40))]) (h' := gr_h I38 J39) (C := ((((True ∧ True) ∧ True) ∧ True) ∧ (0 ≤ v7_40 ∧ v7_40 < ((16 : Nat) : Int)))) rfl ⟨⟨⟨⟨trivial, trivial⟩, trivial⟩, trivial⟩, ⟨by omega, by omega⟩⟩ ?_
              have f164 := (show 0 ≤ I38 117 (Int.toNat v5_40) ∧ I38 117 (Int.toNat v5_40) ≤ 200 from (hI38 117 (Int.toNat v5_40)).1)
              refine gv_run 4 true hD (pc' := 174) (lv' := [(0, .inr (.inr (some 0))), (3, .inl a3), (4, .inl v4_20), (5, .inl v5_40), (6, .inl v6_40), (7, .inl v7_40)]) (st' := [.inl (I38 117 (Int.toNat v5_40)), .inl (I38 125 (Int.toNat v7_40))]) (h' := gr_h I38 J39) (C := ((((True ∧ True) ∧ True) ∧ True) ∧ (0 ≤ v5_40 ∧ v5_40 < ((1440 : Nat) : Int)))) rfl ⟨⟨⟨⟨trivial, trivial⟩, trivial⟩, trivial⟩, ⟨by omega, by omega⟩⟩ ?_
              refine gv_icmp_ne (t := 181) hD rfl rfl ⟨⟨by omega, by omega⟩, ⟨by omega, by omega⟩⟩ (fun c165 => ?_) (fun c165 => ?_)
              · refine gv_run 1 true hD (pc' := 182) (lv' := [(0, .inr (.inr (some 0))), (3, .inl a3), (4, .inl v4_20), (5, .inl v5_40), (6, .inl v6_40), (7, .inl v7_40)]) (st' := [.inl 0]) (h' := gr_h I38 J39) (C := (True ∧ True)) rfl ⟨trivial, trivial⟩ ?_
                refine gv_pick [0, 1, 2, 3, 5] rfl ?_
                exact L182 0 (by omega)
              · refine gv_run 2 true hD (pc' := 182) (lv' := [(0, .inr (.inr (some 0))), (3, .inl a3), (4, .inl v4_20), (5, .inl v5_40), (6, .inl v6_40), (7, .inl v7_40)]) (st' := [.inl 1]) (h' := gr_h I38 J39) (C := ((True ∧ True) ∧ True)) rfl ⟨⟨trivial, trivial⟩, trivial⟩ ?_
                refine gv_pick [0, 1, 2, 3, 5] rfl ?_
                exact L182 1 (by omega)
      have f166 := (show 0 ≤ I18 0 186 ∧ I18 0 186 ≤ 16 from (hI18 0 186).1)
      refine gv_run 3 true hD (pc' := 75) (lv' := [(0, .inr (.inr (some 0))), (3, .inl a3), (4, .inl v4_20)]) (st' := [.inl (I18 0 186), .inl v4_20]) (h' := gr_h I18 J19) (C := (((True ∧ True) ∧ True) ∧ True)) rfl ⟨⟨⟨trivial, trivial⟩, trivial⟩, trivial⟩ ?_
      refine gv_icmp_ge (t := 345) hD rfl rfl ⟨⟨by omega, by omega⟩, ⟨by omega, by omega⟩⟩ (fun c167 => ?_) (fun c167 => ?_)
      · have f168 := (show 0 ≤ I18 0 201 ∧ I18 0 201 ≤ 16 from (hI18 0 201).1)
        refine gv_run 2 true hD (pc' := 349) (lv' := [(0, .inr (.inr (some 0))), (3, .inl a3), (4, .inl v4_20)]) (st' := [.inl (I18 0 201)]) (h' := gr_h I18 J19) (C := ((True ∧ True) ∧ True)) rfl ⟨⟨trivial, trivial⟩, trivial⟩ ?_
        exact gv_iret hD rfl ⟨I18, J19, rfl, hI18, FI18, FJ19, KGR_I18, KFV_I18, KPL_I18, KOX_I18, ⟨_, rfl, by omega⟩⟩
      · refine gv_run 3 true hD (pc' := 83) (lv' := [(0, .inr (.inr (some 0))), (3, .inl a3), (4, .inl v4_20)]) (st' := []) (h' := gz_up (gr_h I18 J19) 0 188 (.inl 0)) (C := (((True ∧ True) ∧ True) ∧ True)) rfl ⟨⟨⟨trivial, trivial⟩, trivial⟩, trivial⟩ ?_
        refine gr_st hI18 FI18 rfl rfl ⟨⟨by show 0 ≤ _; omega, by show _ ≤ 2000; omega⟩, trivial⟩ (fun I169 hI169 FI169 q170 p170 => ?_)
        have t171 := p170 0 186 (by decide)
        have t172 := p170 0 201 (by decide)
        have t173 := p170 0 177 (by decide)
        have t174 := p170 0 68 (by decide)
        have t175 := p170 0 1 (by decide)
        have t176 := p170 0 2 (by decide)
        have f177 := (show 0 ≤ I169 0 188 ∧ I169 0 188 ≤ 2000 from (hI169 0 188).1)
        have f178 := (show 0 ≤ I169 0 186 ∧ I169 0 186 ≤ 16 from (hI169 0 186).1)
        have f179 := (show 0 ≤ I169 0 201 ∧ I169 0 201 ≤ 16 from (hI169 0 201).1)
        have f180 := (show (-1) ≤ I169 0 177 ∧ I169 0 177 ≤ 2999 from (hI169 0 177).1)
        have f181 := (show 0 ≤ I169 0 68 ∧ I169 0 68 ≤ 1000 from (hI169 0 68).1)
        have f182 := (show 0 ≤ I169 0 1 ∧ I169 0 1 ≤ 8 from (hI169 0 1).1)
        have f183 := (show 0 ≤ I169 0 2 ∧ I169 0 2 ≤ 32 from (hI169 0 2).1)
        have KGR_I169 := gr_GR_fr KGR_I18 (fun k => p170 19 k (fun q => absurd q.1 (by decide))) (fun k => p170 18 k (fun q => absurd q.1 (by decide))) (fun k => p170 36 k (fun q => absurd q.1 (by decide))) (fun k => p170 41 k (fun q => absurd q.1 (by decide))) (fun k => p170 42 k (fun q => absurd q.1 (by decide))) (fun k => p170 43 k (fun q => absurd q.1 (by decide))) (fun k => p170 45 k (fun q => absurd q.1 (by decide))) (fun k => p170 46 k (fun q => absurd q.1 (by decide))) (fun k => p170 47 k (fun q => absurd q.1 (by decide))) (fun k => p170 6 k (fun q => absurd q.1 (by decide))) (fun k => p170 7 k (fun q => absurd q.1 (by decide))) (fun k => p170 8 k (fun q => absurd q.1 (by decide))) (p170 0 3 (by decide))
        have KFV_I169 := gr_FV_fr KFV_I18 (fun k => p170 87 k (fun q => absurd q.1 (by decide))) (fun k => p170 88 k (fun q => absurd q.1 (by decide))) (fun k => p170 104 k (fun q => absurd q.1 (by decide))) (fun k => p170 90 k (fun q => absurd q.1 (by decide))) (fun k => p170 91 k (fun q => absurd q.1 (by decide))) (fun k => p170 92 k (fun q => absurd q.1 (by decide))) (fun k => p170 94 k (fun q => absurd q.1 (by decide))) (fun k => p170 95 k (fun q => absurd q.1 (by decide))) (fun k => p170 97 k (fun q => absurd q.1 (by decide))) (fun k => p170 98 k (fun q => absurd q.1 (by decide))) (fun k => p170 19 k (fun q => absurd q.1 (by decide))) (fun k => p170 18 k (fun q => absurd q.1 (by decide))) (fun k => p170 41 k (fun q => absurd q.1 (by decide))) (fun k => p170 6 k (fun q => absurd q.1 (by decide))) (fun k => p170 99 k (fun q => absurd q.1 (by decide))) (fun k => p170 105 k (fun q => absurd q.1 (by decide))) (fun k => p170 107 k (fun q => absurd q.1 (by decide))) (fun k => p170 108 k (fun q => absurd q.1 (by decide))) (fun k => p170 110 k (fun q => absurd q.1 (by decide))) (fun k => p170 111 k (fun q => absurd q.1 (by decide))) (p170 0 157 (by decide)) (p170 0 158 (by decide)) (p170 0 177 (by decide)) (p170 0 186 (by decide)) (p170 0 159 (by decide)) hI18
        have KPL_I169 := gr_PL_fr KPL_I18 (fun k => p170 114 k (fun q => absurd q.1 (by decide))) (fun k => p170 115 k (fun q => absurd q.1 (by decide))) (fun k => p170 6 k (fun q => absurd q.1 (by decide))) (p170 0 3 (by decide))
        have KOX_I169 := gr_OX_fr KOX_I18 (fun k => p170 121 k (fun q => absurd q.1 (by decide))) (fun k => p170 120 k (fun q => absurd q.1 (by decide)))
        have f184 := (show 0 ≤ I169 110 (Int.toNat v4_20) ∧ I169 110 (Int.toNat v4_20) ≤ 2999 from (hI169 110 (Int.toNat v4_20)).1)
        refine gv_run 5 true hD (pc' := 91) (lv' := [(0, .inr (.inr (some 0))), (3, .inl a3), (4, .inl v4_20)]) (st' := [.inl (I169 110 (Int.toNat v4_20)), .inr (.inr (some 0))]) (h' := gr_h I169 J19) (C := (((((True ∧ True) ∧ True) ∧ True) ∧ True) ∧ (0 ≤ v4_20 ∧ v4_20 < ((16 : Nat) : Int)))) rfl ⟨⟨⟨⟨⟨trivial, trivial⟩, trivial⟩, trivial⟩, trivial⟩, ⟨by omega, by omega⟩⟩ ?_
        have f185 := (show 0 ≤ I169 111 (Int.toNat v4_20) ∧ I169 111 (Int.toNat v4_20) ≤ 15 from (hI169 111 (Int.toNat v4_20)).1)
        refine gv_run 4 true hD (pc' := 98) (lv' := [(0, .inr (.inr (some 0))), (3, .inl a3), (4, .inl v4_20)]) (st' := [.inl (I169 111 (Int.toNat v4_20)), .inl (I169 110 (Int.toNat v4_20)), .inr (.inr (some 0))]) (h' := gr_h I169 J19) (C := ((((True ∧ True) ∧ True) ∧ True) ∧ (0 ≤ v4_20 ∧ v4_20 < ((16 : Nat) : Int)))) rfl ⟨⟨⟨⟨trivial, trivial⟩, trivial⟩, trivial⟩, ⟨by omega, by omega⟩⟩ ?_
        have t186 := (gr_FV_s KFV_I169 (by omega)).2.2.2 (Int.toNat v4_20) (by omega) (by omega)
        have t187 := (show 0 ≤ I169 88 (Int.toNat (I169 110 (Int.toNat v4_20))) ∧ I169 88 (Int.toNat (I169 110 (Int.toNat v4_20))) ≤ 24 from (hI169 88 _).1)
        have t188 := (show 0 ≤ I169 104 (Int.toNat (I169 110 (Int.toNat v4_20))) ∧ I169 104 (Int.toNat (I169 110 (Int.toNat v4_20))) ≤ 24 from (hI169 104 _).1)
        have t189 := (show 0 ≤ I169 87 (Int.toNat (I169 110 (Int.toNat v4_20))) ∧ I169 87 (Int.toNat (I169 110 (Int.toNat v4_20))) ≤ 31 from (hI169 87 _).1)
        obtain ⟨r190, h190, E190, P190⟩ := r_read (ws0 := ws0) (tb := tb) hws htb ext 800 I169 J19 hI169 ((I169 110 (Int.toNat v4_20))) ((I169 111 (Int.toNat v4_20))) ⟨by omega, by omega⟩ ⟨by omega, by omega⟩ KGR_I169 (gr_FV_s KFV_I169 (by omega)).2.1 (gr_FV_s KFV_I169 (by omega)).2.2.1 (by omega) (by omega) (by omega) (by omega)
        obtain ⟨I191, J192, rfl, hI191, g190, k190, ⟨rfl, q190⟩⟩ := P190
        have FI191 := gr_frt FI169 g190 rfl rfl
        have FJ192 := gr_fjt FJ19 k190 rfl rfl
        have t193 := g190 0 186 rfl
        have t194 := g190 0 201 rfl
        have t195 := g190 0 177 rfl
        have t196 := g190 0 68 rfl
        have t197 := g190 0 1 rfl
        have t198 := g190 0 2 rfl
        have f199 := (show 0 ≤ I191 0 188 ∧ I191 0 188 ≤ 2000 from (hI191 0 188).1)
        have f200 := (show 0 ≤ I191 0 186 ∧ I191 0 186 ≤ 16 from (hI191 0 186).1)
        have f201 := (show 0 ≤ I191 0 201 ∧ I191 0 201 ≤ 16 from (hI191 0 201).1)
        have f202 := (show (-1) ≤ I191 0 177 ∧ I191 0 177 ≤ 2999 from (hI191 0 177).1)
        have f203 := (show 0 ≤ I191 0 68 ∧ I191 0 68 ≤ 1000 from (hI191 0 68).1)
        have f204 := (show 0 ≤ I191 0 1 ∧ I191 0 1 ≤ 8 from (hI191 0 1).1)
        have f205 := (show 0 ≤ I191 0 2 ∧ I191 0 2 ≤ 32 from (hI191 0 2).1)
        have KGR_I191 := gr_GR_fr KGR_I169 (fun k => g190 19 k rfl) (fun k => g190 18 k rfl) (fun k => g190 36 k rfl) (fun k => g190 41 k rfl) (fun k => g190 42 k rfl) (fun k => g190 43 k rfl) (fun k => g190 45 k rfl) (fun k => g190 46 k rfl) (fun k => g190 47 k rfl) (fun k => g190 6 k rfl) (fun k => g190 7 k rfl) (fun k => g190 8 k rfl) (g190 0 3 rfl)
        have KFV_I191 := gr_FV_fr KFV_I169 (fun k => g190 87 k rfl) (fun k => g190 88 k rfl) (fun k => g190 104 k rfl) (fun k => g190 90 k rfl) (fun k => g190 91 k rfl) (fun k => g190 92 k rfl) (fun k => g190 94 k rfl) (fun k => g190 95 k rfl) (fun k => g190 97 k rfl) (fun k => g190 98 k rfl) (fun k => g190 19 k rfl) (fun k => g190 18 k rfl) (fun k => g190 41 k rfl) (fun k => g190 6 k rfl) (fun k => g190 99 k rfl) (fun k => g190 105 k rfl) (fun k => g190 107 k rfl) (fun k => g190 108 k rfl) (fun k => g190 110 k rfl) (fun k => g190 111 k rfl) (g190 0 157 rfl) (g190 0 158 rfl) (g190 0 177 rfl) (g190 0 186 rfl) (g190 0 159 rfl) hI169
        have KPL_I191 := gr_PL_fr KPL_I169 (fun k => g190 114 k rfl) (fun k => g190 115 k rfl) (fun k => g190 6 k rfl) (g190 0 3 rfl)
        have KOX_I191 := gr_OX_fr KOX_I169 (fun k => g190 121 k rfl) (fun k => g190 120 k rfl)
        refine gv_callV hD rfl (As := [.inl (I169 110 (Int.toNat v4_20)), .inl (I169 111 (Int.toNat v4_20))]) (st := []) rfl (by decide) rfl rfl (gr_lV hws rfl) (Nat.le_of_ble_eq_true rfl) (gz_Ev_mono (d := 800) (by decide) E190) ?_
        show gv_X _ _ (101, [(0, .inr (.inr (some 0))), (3, .inl a3), (4, .inl v4_20)], [], gr_sh ++ ext, gr_h I191 J192)
        have f206 := (show 0 ≤ I191 0 188 ∧ I191 0 188 ≤ 2000 from (hI191 0 188).1)
        refine gv_run 3 true hD (pc' := 107) (lv' := [(0, .inr (.inr (some 0))), (3, .inl a3), (4, .inl v4_20)]) (st' := [.inl 60, .inl (I191 0 188)]) (h' := gr_h I191 J192) (C := (((True ∧ True) ∧ True) ∧ True)) rfl ⟨⟨⟨trivial, trivial⟩, trivial⟩, trivial⟩ ?_
        refine gv_icmp_le (t := 113) hD rfl rfl ⟨⟨by omega, by omega⟩, ⟨by omega, by omega⟩⟩ (fun c207 => ?_) (fun c207 => ?_)
        · refine gv_run 3 true hD (pc' := 116) (lv' := [(0, .inr (.inr (some 0))), (3, .inl a3), (4, .inl v4_20)]) (st' := [.inl 0, .inl a3, .inr (.inr (some 0))]) (h' := gr_h I191 J192) (C := (((True ∧ True) ∧ True) ∧ True)) rfl ⟨⟨⟨trivial, trivial⟩, trivial⟩, trivial⟩ ?_
          obtain ⟨r208, h208, E208, P208⟩ := r_options_x (ws0 := ws0) (tb := tb) hws htb ext (I191 0 188) 61 I191 J192 hI191 a3 0 ⟨by omega, by omega⟩ ⟨by omega, by omega⟩ (by have u9 := q190.2.2.2; rw [show I169 0 188 = 0 from by omega] at u9; exact gr_PX_of (gr_CD_of u9) ⟨by omega, by omega⟩) (by omega) KGR_I191 KOX_I191 (by omega)
          obtain ⟨I209, J210, rfl, hI209, g208, k208, ⟨z208, rfl, q208⟩⟩ := P208
          have FI209 := gr_frt FI191 g208 rfl rfl
          have FJ210 := gr_fjt FJ192 k208 rfl rfl
          have t211 := g208 0 188 rfl
          have t212 := g208 0 186 rfl
          have t213 := g208 0 201 rfl
          have t214 := g208 0 177 rfl
          have t215 := g208 0 68 rfl
          have t216 := g208 0 1 rfl
          have t217 := g208 0 2 rfl
          have f218 := (show 0 ≤ I209 0 188 ∧ I209 0 188 ≤ 2000 from (hI209 0 188).1)
          have f219 := (show 0 ≤ I209 0 186 ∧ I209 0 186 ≤ 16 from (hI209 0 186).1)
          have f220 := (show 0 ≤ I209 0 201 ∧ I209 0 201 ≤ 16 from (hI209 0 201).1)
          have f221 := (show (-1) ≤ I209 0 177 ∧ I209 0 177 ≤ 2999 from (hI209 0 177).1)
          have f222 := (show 0 ≤ I209 0 68 ∧ I209 0 68 ≤ 1000 from (hI209 0 68).1)
          have f223 := (show 0 ≤ I209 0 1 ∧ I209 0 1 ≤ 8 from (hI209 0 1).1)
          have f224 := (show 0 ≤ I209 0 2 ∧ I209 0 2 ≤ 32 from (hI209 0 2).1)
          have KGR_I209 := gr_GR_fr KGR_I191 (fun k => g208 19 k rfl) (fun k => g208 18 k rfl) (fun k => g208 36 k rfl) (fun k => g208 41 k rfl) (fun k => g208 42 k rfl) (fun k => g208 43 k rfl) (fun k => g208 45 k rfl) (fun k => g208 46 k rfl) (fun k => g208 47 k rfl) (fun k => g208 6 k rfl) (fun k => g208 7 k rfl) (fun k => g208 8 k rfl) (g208 0 3 rfl)
          have KFV_I209 := gr_FV_fr KFV_I191 (fun k => g208 87 k rfl) (fun k => g208 88 k rfl) (fun k => g208 104 k rfl) (fun k => g208 90 k rfl) (fun k => g208 91 k rfl) (fun k => g208 92 k rfl) (fun k => g208 94 k rfl) (fun k => g208 95 k rfl) (fun k => g208 97 k rfl) (fun k => g208 98 k rfl) (fun k => g208 19 k rfl) (fun k => g208 18 k rfl) (fun k => g208 41 k rfl) (fun k => g208 6 k rfl) (fun k => g208 99 k rfl) (fun k => g208 105 k rfl) (fun k => g208 107 k rfl) (fun k => g208 108 k rfl) (fun k => g208 110 k rfl) (fun k => g208 111 k rfl) (g208 0 157 rfl) (g208 0 158 rfl) (g208 0 177 rfl) (g208 0 186 rfl) (g208 0 159 rfl) hI191
          have KPL_I209 := gr_PL_fr KPL_I191 (fun k => g208 114 k rfl) (fun k => g208 115 k rfl) (fun k => g208 6 k rfl) (g208 0 3 rfl)
          have KOX_I209 : gr_OX I209 := q208.2.2.2.2.1
          refine gv_callV hD rfl (As := [.inl a3, .inl 0]) (st := []) rfl (by decide) rfl rfl (gr_lV hws rfl) (Nat.le_of_ble_eq_true rfl) (gz_Ev_mono (d := 70) (by decide) E208) ?_
          show gv_X _ _ (119, [(0, .inr (.inr (some 0))), (3, .inl a3), (4, .inl v4_20)], [.inl z208], gr_sh ++ ext, gr_h I209 J210)
          have f225 := (show 0 ≤ I209 121 (Int.toNat 0) ∧ I209 121 (Int.toNat 0) ≤ 24 from (hI209 121 (Int.toNat 0)).1)
          refine gv_run 5 true hD (pc' := 126) (lv' := [(0, .inr (.inr (some 0))), (3, .inl a3), (4, .inl v4_20)]) (st' := [.inl (I209 121 (Int.toNat 0))]) (h' := gr_h I209 J210) (C := (((((True ∧ True) ∧ True) ∧ True) ∧ True) ∧ (0 ≤ 0 ∧ 0 < ((60 : Nat) : Int)))) rfl ⟨⟨⟨⟨⟨trivial, trivial⟩, trivial⟩, trivial⟩, trivial⟩, ⟨by omega, by omega⟩⟩ ?_
          refine gv_if_ne (t := 132) hD rfl rfl ⟨by omega, by omega⟩ (fun c226 => ?_) (fun c226 => ?_)
          · have f227 := (show 0 ≤ I209 120 (Int.toNat 0) ∧ I209 120 (Int.toNat 0) ≤ 1439 from (hI209 120 (Int.toNat 0)).1)
            refine gv_run 4 true hD (pc' := 138) (lv' := [(0, .inr (.inr (some 0))), (3, .inl a3), (4, .inl v4_20)]) (st' := [.inl (I209 120 (Int.toNat 0))]) (h' := gr_h I209 J210) (C := ((((True ∧ True) ∧ True) ∧ True) ∧ (0 ≤ 0 ∧ 0 < ((1440 : Nat) : Int)))) rfl ⟨⟨⟨⟨trivial, trivial⟩, trivial⟩, trivial⟩, ⟨by omega, by omega⟩⟩ ?_
            refine gv_run 5 true hD (pc' := 146) (lv' := [(7, .inl 0), (6, .inl 0), (5, .inl (I209 120 (Int.toNat 0))), (0, .inr (.inr (some 0))), (3, .inl a3), (4, .inl v4_20)]) (st' := []) (h' := gr_h I209 J210) (C := (((((True ∧ True) ∧ True) ∧ True) ∧ True) ∧ True)) rfl ⟨⟨⟨⟨⟨trivial, trivial⟩, trivial⟩, trivial⟩, trivial⟩, trivial⟩ ?_
            refine gv_pick [3, 4, 5, 2, 1, 0] rfl ?_
            exact L146 _ I209 J210 ((I209 120 (Int.toNat 0))) 0 0 (Nat.lt_succ_self _) hI209 FI209 FJ210 KGR_I209 KFV_I209 KPL_I209 KOX_I209 (by omega)
          · refine gv_run 1 true hD (pc' := 339) (lv' := [(0, .inr (.inr (some 0))), (3, .inl a3), (4, .inl v4_20)]) (st' := []) (h' := gr_h I209 J210) (C := (True ∧ True)) rfl ⟨trivial, trivial⟩ ?_
            exact L339 I209 J210 hI209 FI209 FJ210 KGR_I209 KFV_I209 KPL_I209 KOX_I209 (by omega)
        · refine gv_run 1 true hD (pc' := 339) (lv' := [(0, .inr (.inr (some 0))), (3, .inl a3), (4, .inl v4_20)]) (st' := []) (h' := gr_h I191 J192) (C := (True ∧ True)) rfl ⟨trivial, trivial⟩ ?_
          exact L339 I191 J192 hI191 FI191 FJ192 KGR_I191 KFV_I191 KPL_I191 KOX_I191 (by omega)
  refine gv_run 2 true hD (pc' := 2) (lv' := [(0, .inr (.inr (some 0))), (1, .inl a1), (2, .inl a2), (3, .inl a3)]) (st' := [.inl a1, .inr (.inr (some 0))]) (h' := gr_h I J) (C := ((True ∧ True) ∧ True)) rfl ⟨⟨trivial, trivial⟩, trivial⟩ ?_
  obtain ⟨r228, h228, E228, P228⟩ := r_noTongue_t (ws0 := ws0) (tb := tb) hws htb ext I J hI a1 ⟨by omega, by omega⟩ 
  obtain ⟨I229, J230, rfl, hI229, g228, k228, ⟨z228, rfl, q228⟩⟩ := P228
  have FI229 := gr_frt FI g228 rfl rfl
  have FJ230 := gr_fjt FJ k228 rfl rfl
  have t231 := g228 0 188 rfl
  have t232 := g228 0 186 rfl
  have t233 := g228 0 201 rfl
  have t234 := g228 0 177 rfl
  have t235 := g228 0 68 rfl
  have t236 := g228 0 1 rfl
  have t237 := g228 0 2 rfl
  have f238 := (show 0 ≤ I229 0 188 ∧ I229 0 188 ≤ 2000 from (hI229 0 188).1)
  have f239 := (show 0 ≤ I229 0 186 ∧ I229 0 186 ≤ 16 from (hI229 0 186).1)
  have f240 := (show 0 ≤ I229 0 201 ∧ I229 0 201 ≤ 16 from (hI229 0 201).1)
  have f241 := (show (-1) ≤ I229 0 177 ∧ I229 0 177 ≤ 2999 from (hI229 0 177).1)
  have f242 := (show 0 ≤ I229 0 68 ∧ I229 0 68 ≤ 1000 from (hI229 0 68).1)
  have f243 := (show 0 ≤ I229 0 1 ∧ I229 0 1 ≤ 8 from (hI229 0 1).1)
  have f244 := (show 0 ≤ I229 0 2 ∧ I229 0 2 ≤ 32 from (hI229 0 2).1)
  have KGR_I229 := gr_GR_fr KGR_I (fun k => g228 19 k rfl) (fun k => g228 18 k rfl) (fun k => g228 36 k rfl) (fun k => g228 41 k rfl) (fun k => g228 42 k rfl) (fun k => g228 43 k rfl) (fun k => g228 45 k rfl) (fun k => g228 46 k rfl) (fun k => g228 47 k rfl) (fun k => g228 6 k rfl) (fun k => g228 7 k rfl) (fun k => g228 8 k rfl) (g228 0 3 rfl)
  have KFV_I229 := gr_FV_fr KFV_I (fun k => g228 87 k rfl) (fun k => g228 88 k rfl) (fun k => g228 104 k rfl) (fun k => g228 90 k rfl) (fun k => g228 91 k rfl) (fun k => g228 92 k rfl) (fun k => g228 94 k rfl) (fun k => g228 95 k rfl) (fun k => g228 97 k rfl) (fun k => g228 98 k rfl) (fun k => g228 19 k rfl) (fun k => g228 18 k rfl) (fun k => g228 41 k rfl) (fun k => g228 6 k rfl) (fun k => g228 99 k rfl) (fun k => g228 105 k rfl) (fun k => g228 107 k rfl) (fun k => g228 108 k rfl) (fun k => g228 110 k rfl) (fun k => g228 111 k rfl) (g228 0 157 rfl) (g228 0 158 rfl) (g228 0 177 rfl) (g228 0 186 rfl) (g228 0 159 rfl) hI
  have KPL_I229 := gr_PL_fr KPL_I (fun k => g228 114 k rfl) (fun k => g228 115 k rfl) (fun k => g228 6 k rfl) (g228 0 3 rfl)
  have KOX_I229 := gr_OX_fr KOX_I (fun k => g228 121 k rfl) (fun k => g228 120 k rfl)
  refine gv_callV hD rfl (As := [.inl a1]) (st := []) rfl (by decide) rfl rfl (gr_lV hws rfl) (Nat.le_of_ble_eq_true rfl) (gz_Ev_mono (d := 1) (by decide) E228) ?_
  show gv_X _ _ (5, [(0, .inr (.inr (some 0))), (1, .inl a1), (2, .inl a2), (3, .inl a3)], [.inl z228], gr_sh ++ ext, gr_h I229 J230)
  refine gv_if_ne (t := 24) hD rfl rfl ⟨by omega, by omega⟩ (fun c245 => ?_) (fun c245 => ?_)
  · refine gv_pick [] rfl ?_
    exact L24 I229 J230 hI229 FI229 FJ230 KGR_I229 KFV_I229 KPL_I229 KOX_I229 (by omega)
  · refine gv_run 2 true hD (pc' := 10) (lv' := [(0, .inr (.inr (some 0))), (1, .inl a1), (2, .inl a2), (3, .inl a3)]) (st' := [.inl a2, .inr (.inr (some 0))]) (h' := gr_h I229 J230) (C := ((True ∧ True) ∧ True)) rfl ⟨⟨trivial, trivial⟩, trivial⟩ ?_
    obtain ⟨r246, h246, E246, P246⟩ := r_noKind_t (ws0 := ws0) (tb := tb) hws htb ext I229 J230 hI229 a2 ⟨by omega, by omega⟩ 
    obtain ⟨I247, J248, rfl, hI247, g246, k246, ⟨z246, rfl, q246⟩⟩ := P246
    have FI247 := gr_frt FI229 g246 rfl rfl
    have FJ248 := gr_fjt FJ230 k246 rfl rfl
    have t249 := g246 0 188 rfl
    have t250 := g246 0 186 rfl
    have t251 := g246 0 201 rfl
    have t252 := g246 0 177 rfl
    have t253 := g246 0 68 rfl
    have t254 := g246 0 1 rfl
    have t255 := g246 0 2 rfl
    have f256 := (show 0 ≤ I247 0 188 ∧ I247 0 188 ≤ 2000 from (hI247 0 188).1)
    have f257 := (show 0 ≤ I247 0 186 ∧ I247 0 186 ≤ 16 from (hI247 0 186).1)
    have f258 := (show 0 ≤ I247 0 201 ∧ I247 0 201 ≤ 16 from (hI247 0 201).1)
    have f259 := (show (-1) ≤ I247 0 177 ∧ I247 0 177 ≤ 2999 from (hI247 0 177).1)
    have f260 := (show 0 ≤ I247 0 68 ∧ I247 0 68 ≤ 1000 from (hI247 0 68).1)
    have f261 := (show 0 ≤ I247 0 1 ∧ I247 0 1 ≤ 8 from (hI247 0 1).1)
    have f262 := (show 0 ≤ I247 0 2 ∧ I247 0 2 ≤ 32 from (hI247 0 2).1)
    have KGR_I247 := gr_GR_fr KGR_I229 (fun k => g246 19 k rfl) (fun k => g246 18 k rfl) (fun k => g246 36 k rfl) (fun k => g246 41 k rfl) (fun k => g246 42 k rfl) (fun k => g246 43 k rfl) (fun k => g246 45 k rfl) (fun k => g246 46 k rfl) (fun k => g246 47 k rfl) (fun k => g246 6 k rfl) (fun k => g246 7 k rfl) (fun k => g246 8 k rfl) (g246 0 3 rfl)
    have KFV_I247 := gr_FV_fr KFV_I229 (fun k => g246 87 k rfl) (fun k => g246 88 k rfl) (fun k => g246 104 k rfl) (fun k => g246 90 k rfl) (fun k => g246 91 k rfl) (fun k => g246 92 k rfl) (fun k => g246 94 k rfl) (fun k => g246 95 k rfl) (fun k => g246 97 k rfl) (fun k => g246 98 k rfl) (fun k => g246 19 k rfl) (fun k => g246 18 k rfl) (fun k => g246 41 k rfl) (fun k => g246 6 k rfl) (fun k => g246 99 k rfl) (fun k => g246 105 k rfl) (fun k => g246 107 k rfl) (fun k => g246 108 k rfl) (fun k => g246 110 k rfl) (fun k => g246 111 k rfl) (g246 0 157 rfl) (g246 0 158 rfl) (g246 0 177 rfl) (g246 0 186 rfl) (g246 0 159 rfl) hI229
    have KPL_I247 := gr_PL_fr KPL_I229 (fun k => g246 114 k rfl) (fun k => g246 115 k rfl) (fun k => g246 6 k rfl) (g246 0 3 rfl)
    have KOX_I247 := gr_OX_fr KOX_I229 (fun k => g246 121 k rfl) (fun k => g246 120 k rfl)
    refine gv_callV hD rfl (As := [.inl a2]) (st := []) rfl (by decide) rfl rfl (gr_lV hws rfl) (Nat.le_of_ble_eq_true rfl) (gz_Ev_mono (d := 1) (by decide) E246) ?_
    show gv_X _ _ (13, [(0, .inr (.inr (some 0))), (1, .inl a1), (2, .inl a2), (3, .inl a3)], [.inl z246], gr_sh ++ ext, gr_h I247 J248)
    refine gv_if_ne (t := 24) hD rfl rfl ⟨by omega, by omega⟩ (fun c263 => ?_) (fun c263 => ?_)
    · refine gv_pick [] rfl ?_
      exact L24 I247 J248 hI247 FI247 FJ248 KGR_I247 KFV_I247 KPL_I247 KOX_I247 (by omega)
    · refine gv_run 2 true hD (pc' := 18) (lv' := [(0, .inr (.inr (some 0))), (1, .inl a1), (2, .inl a2), (3, .inl a3)]) (st' := [.inl a3, .inr (.inr (some 0))]) (h' := gr_h I247 J248) (C := ((True ∧ True) ∧ True)) rfl ⟨⟨trivial, trivial⟩, trivial⟩ ?_
      obtain ⟨r264, h264, E264, P264⟩ := r_noTongue_t (ws0 := ws0) (tb := tb) hws htb ext I247 J248 hI247 a3 ⟨by omega, by omega⟩ 
      obtain ⟨I265, J266, rfl, hI265, g264, k264, ⟨z264, rfl, q264⟩⟩ := P264
      have FI265 := gr_frt FI247 g264 rfl rfl
      have FJ266 := gr_fjt FJ248 k264 rfl rfl
      have t267 := g264 0 188 rfl
      have t268 := g264 0 186 rfl
      have t269 := g264 0 201 rfl
      have t270 := g264 0 177 rfl
      have t271 := g264 0 68 rfl
      have t272 := g264 0 1 rfl
      have t273 := g264 0 2 rfl
      have f274 := (show 0 ≤ I265 0 188 ∧ I265 0 188 ≤ 2000 from (hI265 0 188).1)
      have f275 := (show 0 ≤ I265 0 186 ∧ I265 0 186 ≤ 16 from (hI265 0 186).1)
      have f276 := (show 0 ≤ I265 0 201 ∧ I265 0 201 ≤ 16 from (hI265 0 201).1)
      have f277 := (show (-1) ≤ I265 0 177 ∧ I265 0 177 ≤ 2999 from (hI265 0 177).1)
      have f278 := (show 0 ≤ I265 0 68 ∧ I265 0 68 ≤ 1000 from (hI265 0 68).1)
      have f279 := (show 0 ≤ I265 0 1 ∧ I265 0 1 ≤ 8 from (hI265 0 1).1)
      have f280 := (show 0 ≤ I265 0 2 ∧ I265 0 2 ≤ 32 from (hI265 0 2).1)
      have KGR_I265 := gr_GR_fr KGR_I247 (fun k => g264 19 k rfl) (fun k => g264 18 k rfl) (fun k => g264 36 k rfl) (fun k => g264 41 k rfl) (fun k => g264 42 k rfl) (fun k => g264 43 k rfl) (fun k => g264 45 k rfl) (fun k => g264 46 k rfl) (fun k => g264 47 k rfl) (fun k => g264 6 k rfl) (fun k => g264 7 k rfl) (fun k => g264 8 k rfl) (g264 0 3 rfl)
      have KFV_I265 := gr_FV_fr KFV_I247 (fun k => g264 87 k rfl) (fun k => g264 88 k rfl) (fun k => g264 104 k rfl) (fun k => g264 90 k rfl) (fun k => g264 91 k rfl) (fun k => g264 92 k rfl) (fun k => g264 94 k rfl) (fun k => g264 95 k rfl) (fun k => g264 97 k rfl) (fun k => g264 98 k rfl) (fun k => g264 19 k rfl) (fun k => g264 18 k rfl) (fun k => g264 41 k rfl) (fun k => g264 6 k rfl) (fun k => g264 99 k rfl) (fun k => g264 105 k rfl) (fun k => g264 107 k rfl) (fun k => g264 108 k rfl) (fun k => g264 110 k rfl) (fun k => g264 111 k rfl) (g264 0 157 rfl) (g264 0 158 rfl) (g264 0 177 rfl) (g264 0 186 rfl) (g264 0 159 rfl) hI247
      have KPL_I265 := gr_PL_fr KPL_I247 (fun k => g264 114 k rfl) (fun k => g264 115 k rfl) (fun k => g264 6 k rfl) (g264 0 3 rfl)
      have KOX_I265 := gr_OX_fr KOX_I247 (fun k => g264 121 k rfl) (fun k => g264 120 k rfl)
      refine gv_callV hD rfl (As := [.inl a3]) (st := []) rfl (by decide) rfl rfl (gr_lV hws rfl) (Nat.le_of_ble_eq_true rfl) (gz_Ev_mono (d := 1) (by decide) E264) ?_
      show gv_X _ _ (21, [(0, .inr (.inr (some 0))), (1, .inl a1), (2, .inl a2), (3, .inl a3)], [.inl z264], gr_sh ++ ext, gr_h I265 J266)
      refine gv_if_eq (t := 26) hD rfl rfl ⟨by omega, by omega⟩ (fun c281 => ?_) (fun c281 => ?_)
      · refine gv_run 3 true hD (pc' := 31) (lv' := [(0, .inr (.inr (some 0))), (1, .inl a1), (2, .inl a2), (3, .inl a3)]) (st' := []) (h' := gz_up (gr_h I265 J266) 0 201 (.inl 0)) (C := (((True ∧ True) ∧ True) ∧ True)) rfl ⟨⟨⟨trivial, trivial⟩, trivial⟩, trivial⟩ ?_
        refine gr_st hI265 FI265 rfl rfl ⟨⟨by show 0 ≤ _; omega, by show _ ≤ 16; omega⟩, trivial⟩ (fun I282 hI282 FI282 q283 p283 => ?_)
        have t284 := p283 0 188 (by decide)
        have t285 := p283 0 186 (by decide)
        have t286 := p283 0 177 (by decide)
        have t287 := p283 0 68 (by decide)
        have t288 := p283 0 1 (by decide)
        have t289 := p283 0 2 (by decide)
        have f290 := (show 0 ≤ I282 0 188 ∧ I282 0 188 ≤ 2000 from (hI282 0 188).1)
        have f291 := (show 0 ≤ I282 0 186 ∧ I282 0 186 ≤ 16 from (hI282 0 186).1)
        have f292 := (show 0 ≤ I282 0 201 ∧ I282 0 201 ≤ 16 from (hI282 0 201).1)
        have f293 := (show (-1) ≤ I282 0 177 ∧ I282 0 177 ≤ 2999 from (hI282 0 177).1)
        have f294 := (show 0 ≤ I282 0 68 ∧ I282 0 68 ≤ 1000 from (hI282 0 68).1)
        have f295 := (show 0 ≤ I282 0 1 ∧ I282 0 1 ≤ 8 from (hI282 0 1).1)
        have f296 := (show 0 ≤ I282 0 2 ∧ I282 0 2 ≤ 32 from (hI282 0 2).1)
        have KGR_I282 := gr_GR_fr KGR_I265 (fun k => p283 19 k (fun q => absurd q.1 (by decide))) (fun k => p283 18 k (fun q => absurd q.1 (by decide))) (fun k => p283 36 k (fun q => absurd q.1 (by decide))) (fun k => p283 41 k (fun q => absurd q.1 (by decide))) (fun k => p283 42 k (fun q => absurd q.1 (by decide))) (fun k => p283 43 k (fun q => absurd q.1 (by decide))) (fun k => p283 45 k (fun q => absurd q.1 (by decide))) (fun k => p283 46 k (fun q => absurd q.1 (by decide))) (fun k => p283 47 k (fun q => absurd q.1 (by decide))) (fun k => p283 6 k (fun q => absurd q.1 (by decide))) (fun k => p283 7 k (fun q => absurd q.1 (by decide))) (fun k => p283 8 k (fun q => absurd q.1 (by decide))) (p283 0 3 (by decide))
        have KFV_I282 := gr_FV_fr KFV_I265 (fun k => p283 87 k (fun q => absurd q.1 (by decide))) (fun k => p283 88 k (fun q => absurd q.1 (by decide))) (fun k => p283 104 k (fun q => absurd q.1 (by decide))) (fun k => p283 90 k (fun q => absurd q.1 (by decide))) (fun k => p283 91 k (fun q => absurd q.1 (by decide))) (fun k => p283 92 k (fun q => absurd q.1 (by decide))) (fun k => p283 94 k (fun q => absurd q.1 (by decide))) (fun k => p283 95 k (fun q => absurd q.1 (by decide))) (fun k => p283 97 k (fun q => absurd q.1 (by decide))) (fun k => p283 98 k (fun q => absurd q.1 (by decide))) (fun k => p283 19 k (fun q => absurd q.1 (by decide))) (fun k => p283 18 k (fun q => absurd q.1 (by decide))) (fun k => p283 41 k (fun q => absurd q.1 (by decide))) (fun k => p283 6 k (fun q => absurd q.1 (by decide))) (fun k => p283 99 k (fun q => absurd q.1 (by decide))) (fun k => p283 105 k (fun q => absurd q.1 (by decide))) (fun k => p283 107 k (fun q => absurd q.1 (by decide))) (fun k => p283 108 k (fun q => absurd q.1 (by decide))) (fun k => p283 110 k (fun q => absurd q.1 (by decide))) (fun k => p283 111 k (fun q => absurd q.1 (by decide))) (p283 0 157 (by decide)) (p283 0 158 (by decide)) (p283 0 177 (by decide)) (p283 0 186 (by decide)) (p283 0 159 (by decide)) hI265
        have KPL_I282 := gr_PL_fr KPL_I265 (fun k => p283 114 k (fun q => absurd q.1 (by decide))) (fun k => p283 115 k (fun q => absurd q.1 (by decide))) (fun k => p283 6 k (fun q => absurd q.1 (by decide))) (p283 0 3 (by decide))
        have KOX_I282 := gr_OX_fr KOX_I265 (fun k => p283 121 k (fun q => absurd q.1 (by decide))) (fun k => p283 120 k (fun q => absurd q.1 (by decide)))
        refine gv_run 1 true hD (pc' := 32) (lv' := [(0, .inr (.inr (some 0))), (1, .inl a1), (2, .inl a2), (3, .inl a3)]) (st' := [.inr (.inr (some 0))]) (h' := gr_h I282 J266) (C := (True ∧ True)) rfl ⟨trivial, trivial⟩ ?_
        obtain ⟨r297, h297, E297, P297⟩ := r_sentence_t (ws0 := ws0) (tb := tb) hws htb ext I282 J266 hI282   
        obtain ⟨I298, J299, rfl, hI298, g297, k297, ⟨z297, rfl, q297⟩⟩ := P297
        have FI298 := gr_frt FI282 g297 rfl rfl
        have FJ299 := gr_fjt FJ266 k297 rfl rfl
        have t300 := g297 0 188 rfl
        have t301 := g297 0 186 rfl
        have t302 := g297 0 201 rfl
        have t303 := g297 0 177 rfl
        have t304 := g297 0 1 rfl
        have t305 := g297 0 2 rfl
        have f306 := (show 0 ≤ I298 0 188 ∧ I298 0 188 ≤ 2000 from (hI298 0 188).1)
        have f307 := (show 0 ≤ I298 0 186 ∧ I298 0 186 ≤ 16 from (hI298 0 186).1)
        have f308 := (show 0 ≤ I298 0 201 ∧ I298 0 201 ≤ 16 from (hI298 0 201).1)
        have f309 := (show (-1) ≤ I298 0 177 ∧ I298 0 177 ≤ 2999 from (hI298 0 177).1)
        have f310 := (show 0 ≤ I298 0 68 ∧ I298 0 68 ≤ 1000 from (hI298 0 68).1)
        have f311 := (show 0 ≤ I298 0 1 ∧ I298 0 1 ≤ 8 from (hI298 0 1).1)
        have f312 := (show 0 ≤ I298 0 2 ∧ I298 0 2 ≤ 32 from (hI298 0 2).1)
        have KGR_I298 := gr_GR_fr KGR_I282 (fun k => g297 19 k rfl) (fun k => g297 18 k rfl) (fun k => g297 36 k rfl) (fun k => g297 41 k rfl) (fun k => g297 42 k rfl) (fun k => g297 43 k rfl) (fun k => g297 45 k rfl) (fun k => g297 46 k rfl) (fun k => g297 47 k rfl) (fun k => g297 6 k rfl) (fun k => g297 7 k rfl) (fun k => g297 8 k rfl) (g297 0 3 rfl)
        have KFV_I298 := gr_FV_fr KFV_I282 (fun k => g297 87 k rfl) (fun k => g297 88 k rfl) (fun k => g297 104 k rfl) (fun k => g297 90 k rfl) (fun k => g297 91 k rfl) (fun k => g297 92 k rfl) (fun k => g297 94 k rfl) (fun k => g297 95 k rfl) (fun k => g297 97 k rfl) (fun k => g297 98 k rfl) (fun k => g297 19 k rfl) (fun k => g297 18 k rfl) (fun k => g297 41 k rfl) (fun k => g297 6 k rfl) (fun k => g297 99 k rfl) (fun k => g297 105 k rfl) (fun k => g297 107 k rfl) (fun k => g297 108 k rfl) (fun k => g297 110 k rfl) (fun k => g297 111 k rfl) (g297 0 157 rfl) (g297 0 158 rfl) (g297 0 177 rfl) (g297 0 186 rfl) (g297 0 159 rfl) hI282
        have KPL_I298 := gr_PL_fr KPL_I282 (fun k => g297 114 k rfl) (fun k => g297 115 k rfl) (fun k => g297 6 k rfl) (g297 0 3 rfl)
        have KOX_I298 := gr_OX_fr KOX_I282 (fun k => g297 121 k rfl) (fun k => g297 120 k rfl)
        refine gv_callV hD rfl (As := []) (st := []) rfl (by decide) rfl rfl (gr_lV hws rfl) (Nat.le_of_ble_eq_true rfl) (gz_Ev_mono (d := 2) (by decide) E297) ?_
        show gv_X _ _ (35, [(0, .inr (.inr (some 0))), (1, .inl a1), (2, .inl a2), (3, .inl a3)], [.inl z297], gr_sh ++ ext, gr_h I298 J299)
        refine gv_if_ne (t := 45) hD rfl rfl ⟨by omega, by omega⟩ (fun c313 => ?_) (fun c313 => ?_)
        · refine gv_run 3 true hD (pc' := 50) (lv' := [(0, .inr (.inr (some 0))), (1, .inl a1), (2, .inl a2), (3, .inl a3)]) (st' := []) (h' := gz_up (gr_h I298 J299) 0 161 (.inl 0)) (C := (((True ∧ True) ∧ True) ∧ True)) rfl ⟨⟨⟨trivial, trivial⟩, trivial⟩, trivial⟩ ?_
          refine gr_st hI298 FI298 rfl rfl ⟨⟨by show 0 ≤ _; omega, by show _ ≤ 400001; omega⟩, trivial⟩ (fun I314 hI314 FI314 q315 p315 => ?_)
          have t316 := p315 0 188 (by decide)
          have t317 := p315 0 186 (by decide)
          have t318 := p315 0 201 (by decide)
          have t319 := p315 0 177 (by decide)
          have t320 := p315 0 68 (by decide)
          have t321 := p315 0 1 (by decide)
          have t322 := p315 0 2 (by decide)
          have f323 := (show 0 ≤ I314 0 188 ∧ I314 0 188 ≤ 2000 from (hI314 0 188).1)
          have f324 := (show 0 ≤ I314 0 186 ∧ I314 0 186 ≤ 16 from (hI314 0 186).1)
          have f325 := (show 0 ≤ I314 0 201 ∧ I314 0 201 ≤ 16 from (hI314 0 201).1)
          have f326 := (show (-1) ≤ I314 0 177 ∧ I314 0 177 ≤ 2999 from (hI314 0 177).1)
          have f327 := (show 0 ≤ I314 0 68 ∧ I314 0 68 ≤ 1000 from (hI314 0 68).1)
          have f328 := (show 0 ≤ I314 0 1 ∧ I314 0 1 ≤ 8 from (hI314 0 1).1)
          have f329 := (show 0 ≤ I314 0 2 ∧ I314 0 2 ≤ 32 from (hI314 0 2).1)
          have KGR_I314 := gr_GR_fr KGR_I298 (fun k => p315 19 k (fun q => absurd q.1 (by decide))) (fun k => p315 18 k (fun q => absurd q.1 (by decide))) (fun k => p315 36 k (fun q => absurd q.1 (by decide))) (fun k => p315 41 k (fun q => absurd q.1 (by decide))) (fun k => p315 42 k (fun q => absurd q.1 (by decide))) (fun k => p315 43 k (fun q => absurd q.1 (by decide))) (fun k => p315 45 k (fun q => absurd q.1 (by decide))) (fun k => p315 46 k (fun q => absurd q.1 (by decide))) (fun k => p315 47 k (fun q => absurd q.1 (by decide))) (fun k => p315 6 k (fun q => absurd q.1 (by decide))) (fun k => p315 7 k (fun q => absurd q.1 (by decide))) (fun k => p315 8 k (fun q => absurd q.1 (by decide))) (p315 0 3 (by decide))
          have KFV_I314 := gr_FV_fr KFV_I298 (fun k => p315 87 k (fun q => absurd q.1 (by decide))) (fun k => p315 88 k (fun q => absurd q.1 (by decide))) (fun k => p315 104 k (fun q => absurd q.1 (by decide))) (fun k => p315 90 k (fun q => absurd q.1 (by decide))) (fun k => p315 91 k (fun q => absurd q.1 (by decide))) (fun k => p315 92 k (fun q => absurd q.1 (by decide))) (fun k => p315 94 k (fun q => absurd q.1 (by decide))) (fun k => p315 95 k (fun q => absurd q.1 (by decide))) (fun k => p315 97 k (fun q => absurd q.1 (by decide))) (fun k => p315 98 k (fun q => absurd q.1 (by decide))) (fun k => p315 19 k (fun q => absurd q.1 (by decide))) (fun k => p315 18 k (fun q => absurd q.1 (by decide))) (fun k => p315 41 k (fun q => absurd q.1 (by decide))) (fun k => p315 6 k (fun q => absurd q.1 (by decide))) (fun k => p315 99 k (fun q => absurd q.1 (by decide))) (fun k => p315 105 k (fun q => absurd q.1 (by decide))) (fun k => p315 107 k (fun q => absurd q.1 (by decide))) (fun k => p315 108 k (fun q => absurd q.1 (by decide))) (fun k => p315 110 k (fun q => absurd q.1 (by decide))) (fun k => p315 111 k (fun q => absurd q.1 (by decide))) (p315 0 157 (by decide)) (p315 0 158 (by decide)) (p315 0 177 (by decide)) (p315 0 186 (by decide)) (p315 0 159 (by decide)) hI298
          have KPL_I314 := gr_PL_fr KPL_I298 (fun k => p315 114 k (fun q => absurd q.1 (by decide))) (fun k => p315 115 k (fun q => absurd q.1 (by decide))) (fun k => p315 6 k (fun q => absurd q.1 (by decide))) (p315 0 3 (by decide))
          have KOX_I314 := gr_OX_fr KOX_I298 (fun k => p315 121 k (fun q => absurd q.1 (by decide))) (fun k => p315 120 k (fun q => absurd q.1 (by decide)))
          refine gv_run 3 true hD (pc' := 53) (lv' := [(0, .inr (.inr (some 0))), (1, .inl a1), (2, .inl a2), (3, .inl a3)]) (st' := [.inl a2, .inl a1, .inr (.inr (some 0))]) (h' := gr_h I314 J299) (C := (((True ∧ True) ∧ True) ∧ True)) rfl ⟨⟨⟨trivial, trivial⟩, trivial⟩, trivial⟩ ?_
          obtain ⟨r330, h330, E330, P330⟩ := r_parsed (ws0 := ws0) (tb := tb) hws htb ext I314 J299 hI314 a1 a2 ⟨by omega, by omega⟩ ⟨by omega, by omega⟩ KGR_I314
          obtain ⟨I331, J332, rfl, hI331, g330, k330, KGR_I331, ⟨z330, rfl, q330⟩⟩ := P330
          have FI331 := gr_frt FI314 g330 rfl rfl
          have FJ332 := gr_fjt FJ299 k330 rfl rfl
          have t333 := g330 0 188 rfl
          have t334 := g330 0 201 rfl
          have t335 := g330 0 68 rfl
          have t336 := g330 0 1 rfl
          have t337 := g330 0 2 rfl
          have f338 := (show 0 ≤ I331 0 188 ∧ I331 0 188 ≤ 2000 from (hI331 0 188).1)
          have f339 := (show 0 ≤ I331 0 186 ∧ I331 0 186 ≤ 16 from (hI331 0 186).1)
          have f340 := (show 0 ≤ I331 0 201 ∧ I331 0 201 ≤ 16 from (hI331 0 201).1)
          have f341 := (show (-1) ≤ I331 0 177 ∧ I331 0 177 ≤ 2999 from (hI331 0 177).1)
          have f342 := (show 0 ≤ I331 0 68 ∧ I331 0 68 ≤ 1000 from (hI331 0 68).1)
          have f343 := (show 0 ≤ I331 0 1 ∧ I331 0 1 ≤ 8 from (hI331 0 1).1)
          have f344 := (show 0 ≤ I331 0 2 ∧ I331 0 2 ≤ 32 from (hI331 0 2).1)
          have KPL_I331 := gr_PL_fr KPL_I314 (fun k => g330 114 k rfl) (fun k => g330 115 k rfl) (fun k => g330 6 k rfl) (g330 0 3 rfl)
          have KOX_I331 := gr_OX_fr KOX_I314 (fun k => g330 121 k rfl) (fun k => g330 120 k rfl)
          have KFV_I331 : gr_FV I331 := q330.2.2
          refine gv_callV hD rfl (As := [.inl a1, .inl a2]) (st := []) rfl (by decide) rfl rfl (gr_lV hws rfl) (Nat.le_of_ble_eq_true rfl) (gz_Ev_mono (d := 12) (by decide) E330) ?_
          show gv_X _ _ (56, [(0, .inr (.inr (some 0))), (1, .inl a1), (2, .inl a2), (3, .inl a3)], [.inl z330], gr_sh ++ ext, gr_h I331 J332)
          refine gv_if_ge (t := 61) hD rfl rfl ⟨by omega, by omega⟩ (fun c345 => ?_) (fun c345 => ?_)
          · refine gv_run 2 true hD (pc' := 63) (lv' := [(0, .inr (.inr (some 0))), (1, .inl a1), (2, .inl a2), (3, .inl a3)]) (st' := [.inl a3, .inr (.inr (some 0))]) (h' := gr_h I331 J332) (C := ((True ∧ True) ∧ True)) rfl ⟨⟨trivial, trivial⟩, trivial⟩ ?_
            obtain ⟨r346, h346, E346, P346⟩ := r_forms_w (ws0 := ws0) (tb := tb) hws htb ext I331 J332 hI331 a3 ⟨by omega, by omega⟩ 
            obtain ⟨I347, J348, rfl, hI347, g346, k346, rfl⟩ := P346
            have FI347 := gr_frt FI331 g346 rfl rfl
            have FJ348 := gr_fjt FJ332 k346 rfl rfl
            have t349 := g346 0 188 rfl
            have t350 := g346 0 186 rfl
            have t351 := g346 0 201 rfl
            have t352 := g346 0 177 rfl
            have t353 := g346 0 68 rfl
            have t354 := g346 0 1 rfl
            have t355 := g346 0 2 rfl
            have f356 := (show 0 ≤ I347 0 188 ∧ I347 0 188 ≤ 2000 from (hI347 0 188).1)
            have f357 := (show 0 ≤ I347 0 186 ∧ I347 0 186 ≤ 16 from (hI347 0 186).1)
            have f358 := (show 0 ≤ I347 0 201 ∧ I347 0 201 ≤ 16 from (hI347 0 201).1)
            have f359 := (show (-1) ≤ I347 0 177 ∧ I347 0 177 ≤ 2999 from (hI347 0 177).1)
            have f360 := (show 0 ≤ I347 0 68 ∧ I347 0 68 ≤ 1000 from (hI347 0 68).1)
            have f361 := (show 0 ≤ I347 0 1 ∧ I347 0 1 ≤ 8 from (hI347 0 1).1)
            have f362 := (show 0 ≤ I347 0 2 ∧ I347 0 2 ≤ 32 from (hI347 0 2).1)
            have KGR_I347 := gr_GR_fr KGR_I331 (fun k => g346 19 k rfl) (fun k => g346 18 k rfl) (fun k => g346 36 k rfl) (fun k => g346 41 k rfl) (fun k => g346 42 k rfl) (fun k => g346 43 k rfl) (fun k => g346 45 k rfl) (fun k => g346 46 k rfl) (fun k => g346 47 k rfl) (fun k => g346 6 k rfl) (fun k => g346 7 k rfl) (fun k => g346 8 k rfl) (g346 0 3 rfl)
            have KFV_I347 := gr_FV_fr KFV_I331 (fun k => g346 87 k rfl) (fun k => g346 88 k rfl) (fun k => g346 104 k rfl) (fun k => g346 90 k rfl) (fun k => g346 91 k rfl) (fun k => g346 92 k rfl) (fun k => g346 94 k rfl) (fun k => g346 95 k rfl) (fun k => g346 97 k rfl) (fun k => g346 98 k rfl) (fun k => g346 19 k rfl) (fun k => g346 18 k rfl) (fun k => g346 41 k rfl) (fun k => g346 6 k rfl) (fun k => g346 99 k rfl) (fun k => g346 105 k rfl) (fun k => g346 107 k rfl) (fun k => g346 108 k rfl) (fun k => g346 110 k rfl) (fun k => g346 111 k rfl) (g346 0 157 rfl) (g346 0 158 rfl) (g346 0 177 rfl) (g346 0 186 rfl) (g346 0 159 rfl) hI331
            have KPL_I347 := gr_PL_fr KPL_I331 (fun k => g346 114 k rfl) (fun k => g346 115 k rfl) (fun k => g346 6 k rfl) (g346 0 3 rfl)
            have KOX_I347 := gr_OX_fr KOX_I331 (fun k => g346 121 k rfl) (fun k => g346 120 k rfl)
            refine gv_callV hD rfl (As := [.inl a3]) (st := []) rfl (by decide) rfl rfl (gr_lV hws rfl) (Nat.le_of_ble_eq_true rfl) (gz_Ev_mono (d := 6) (by decide) E346) ?_
            show gv_X _ _ (66, [(0, .inr (.inr (some 0))), (1, .inl a1), (2, .inl a2), (3, .inl a3)], [], gr_sh ++ ext, gr_h I347 J348)
            refine gv_run 2 true hD (pc' := 69) (lv' := [(4, .inl 0), (0, .inr (.inr (some 0))), (1, .inl a1), (2, .inl a2), (3, .inl a3)]) (st' := []) (h' := gr_h I347 J348) (C := ((True ∧ True) ∧ True)) rfl ⟨⟨trivial, trivial⟩, trivial⟩ ?_
            refine gv_pick [1, 4, 0] rfl ?_
            exact L69 _ I347 J348 0 (Nat.lt_succ_self _) hI347 FI347 FJ348 KGR_I347 KFV_I347 KPL_I347 KOX_I347 (by omega)
          · refine gv_run 1 true hD (pc' := 60) (lv' := [(0, .inr (.inr (some 0))), (1, .inl a1), (2, .inl a2), (3, .inl a3)]) (st' := [.inl (-1)]) (h' := gr_h I331 J332) (C := (True ∧ True)) rfl ⟨trivial, trivial⟩ ?_
            exact gv_iret hD rfl ⟨I331, J332, rfl, hI331, FI331, FJ332, KGR_I331, KFV_I331, KPL_I331, KOX_I331, ⟨_, rfl, by omega⟩⟩
        · refine gv_run 1 true hD (pc' := 39) (lv' := [(0, .inr (.inr (some 0))), (1, .inl a1), (2, .inl a2), (3, .inl a3)]) (st' := [.inr (.inr (some 0))]) (h' := gr_h I298 J299) (C := (True ∧ True)) rfl ⟨trivial, trivial⟩ ?_
          obtain ⟨r363, h363, E363, P363⟩ := r_noForest_f (ws0 := ws0) (tb := tb) hws htb ext I298 J299 hI298   
          obtain ⟨I364, J365, rfl, hI364, g363, k363, ⟨rfl, q363⟩⟩ := P363
          have FI364 := gr_frt FI298 g363 rfl rfl
          have FJ365 := gr_fjt FJ299 k363 rfl rfl
          have t366 := g363 0 188 rfl
          have t367 := g363 0 201 rfl
          have t368 := g363 0 68 rfl
          have t369 := g363 0 1 rfl
          have t370 := g363 0 2 rfl
          have f371 := (show 0 ≤ I364 0 188 ∧ I364 0 188 ≤ 2000 from (hI364 0 188).1)
          have f372 := (show 0 ≤ I364 0 186 ∧ I364 0 186 ≤ 16 from (hI364 0 186).1)
          have f373 := (show 0 ≤ I364 0 201 ∧ I364 0 201 ≤ 16 from (hI364 0 201).1)
          have f374 := (show (-1) ≤ I364 0 177 ∧ I364 0 177 ≤ 2999 from (hI364 0 177).1)
          have f375 := (show 0 ≤ I364 0 68 ∧ I364 0 68 ≤ 1000 from (hI364 0 68).1)
          have f376 := (show 0 ≤ I364 0 1 ∧ I364 0 1 ≤ 8 from (hI364 0 1).1)
          have f377 := (show 0 ≤ I364 0 2 ∧ I364 0 2 ≤ 32 from (hI364 0 2).1)
          have KGR_I364 := gr_GR_fr KGR_I298 (fun k => g363 19 k rfl) (fun k => g363 18 k rfl) (fun k => g363 36 k rfl) (fun k => g363 41 k rfl) (fun k => g363 42 k rfl) (fun k => g363 43 k rfl) (fun k => g363 45 k rfl) (fun k => g363 46 k rfl) (fun k => g363 47 k rfl) (fun k => g363 6 k rfl) (fun k => g363 7 k rfl) (fun k => g363 8 k rfl) (g363 0 3 rfl)
          have KPL_I364 := gr_PL_fr KPL_I298 (fun k => g363 114 k rfl) (fun k => g363 115 k rfl) (fun k => g363 6 k rfl) (g363 0 3 rfl)
          have KOX_I364 := gr_OX_fr KOX_I298 (fun k => g363 121 k rfl) (fun k => g363 120 k rfl)
          have KFV_I364 : gr_FV I364 := (gr_FV_no (by omega) (by omega))
          refine gv_callV hD rfl (As := []) (st := []) rfl (by decide) rfl rfl (gr_lV hws rfl) (Nat.le_of_ble_eq_true rfl) (gz_Ev_mono (d := 1) (by decide) E363) ?_
          show gv_X _ _ (42, [(0, .inr (.inr (some 0))), (1, .inl a1), (2, .inl a2), (3, .inl a3)], [], gr_sh ++ ext, gr_h I364 J365)
          refine gv_run 1 true hD (pc' := 44) (lv' := [(0, .inr (.inr (some 0))), (1, .inl a1), (2, .inl a2), (3, .inl a3)]) (st' := [.inl (-3)]) (h' := gr_h I364 J365) (C := (True ∧ True)) rfl ⟨trivial, trivial⟩ ?_
          exact gv_iret hD rfl ⟨I364, J365, rfl, hI364, FI364, FJ365, KGR_I364, KFV_I364, KPL_I364, KOX_I364, ⟨_, rfl, by omega⟩⟩
      · refine gv_pick [] rfl ?_
        exact L24 I265 J266 hI265 FI265 FJ266 KGR_I265 KFV_I265 KPL_I265 KOX_I265 (by omega)
set_option maxHeartbeats 4000000 in
set_option maxRecDepth 100000 in
theorem r_mend_t {ws0 : List Cond} {tb : String → gz_T} (hws : ∀ w ∈ gr_ws, w ∈ ws0) (htb : tb RX13 = gr_T) (ext : gz_Sh) (I : gr_I) (J : gr_J) (hI : gr_Inv I) (a1 : Int) (a2 : Int) (ha1 : (-2147483648) ≤ a1 ∧ a1 ≤ 2147483647) (ha2 : (-2147483648) ≤ a2 ∧ a2 ≤ 2147483647) (KGR_I : gr_GR I) (KFV_I : gr_FV I) : ∃ r h', gz_Ev ws0 tb 14 (yX13_mend, cX13_mend, 4, (some .int)) [.inr (.inr (some 0)), .inl a1, .inl a2] (gr_sh ++ ext) (gr_h I J) r (gr_sh ++ ext) h' 0 0 ∧ (∃ (I' : gr_I) (J' : gr_J), h' = gr_h I' J' ∧ gr_Inv I' ∧ gr_fr [0, 68, 69, 70, 126, 127, 128, 143, 157, 158, 159, 160, 161, 166, 167, 168, 169, 170, 177, 179, 180, 181, 186] [51, 57, 58, 76, 77, 78, 79, 83, 84, 85, 86, 87, 88, 89, 90, 91, 92, 93, 94, 95, 96, 97, 98, 99, 100, 101, 103, 104, 105, 106, 107, 108, 109, 110, 111, 112] I I' ∧ gr_fj [0, 68, 69, 70, 126, 127, 128, 143, 157, 158, 159, 160, 161, 166, 167, 168, 169, 170, 177, 179, 180, 181, 186] [51, 57, 58, 76, 77, 78, 79, 83, 84, 85, 86, 87, 88, 89, 90, 91, 92, 93, 94, 95, 96, 97, 98, 99, 100, 101, 103, 104, 105, 106, 107, 108, 109, 110, 111, 112] J J' ∧ gr_GR I' ∧ gr_FV I' ∧ (∃ z : Int, r = some (.inl z) ∧ (-3) ≤ z ∧ z ≤ 3 ∧ (((0 ≤ a1 ∧ a1 < I 0 1) ∧ (0 ≤ a2 ∧ a2 < I 0 2)) → I' 0 68 = 0) ∧ (¬ ((0 ≤ a1 ∧ a1 < I 0 1) ∧ (0 ≤ a2 ∧ a2 < I 0 2)) → I' 0 68 = I 0 68))) := by
  have FI : gr_fr [0, 68, 69, 70, 126, 127, 128, 143, 157, 158, 159, 160, 161, 166, 167, 168, 169, 170, 177, 179, 180, 181, 186] [51, 57, 58, 76, 77, 78, 79, 83, 84, 85, 86, 87, 88, 89, 90, 91, 92, 93, 94, 95, 96, 97, 98, 99, 100, 101, 103, 104, 105, 106, 107, 108, 109, 110, 111, 112] I I := fun _ _ _ => rfl
  have FJ : gr_fj [0, 68, 69, 70, 126, 127, 128, 143, 157, 158, 159, 160, 161, 166, 167, 168, 169, 170, 177, 179, 180, 181, 186] [51, 57, 58, 76, 77, 78, 79, 83, 84, 85, 86, 87, 88, 89, 90, 91, 92, 93, 94, 95, 96, 97, 98, 99, 100, 101, 103, 104, 105, 106, 107, 108, 109, 110, 111, 112] J J := fun _ _ _ => rfl
  have hD : gv_D (gr_E ws0 tb 13 (yX13_mend, cX13_mend, 4, (some .int)) kX13_mend) := gq_ok oX13_mend
  refine gr_ev (d := 13) (l := kX13_mend) (Po := fun r h' => (∃ (I' : gr_I) (J' : gr_J), h' = gr_h I' J' ∧ gr_Inv I' ∧ gr_fr [0, 68, 69, 70, 126, 127, 128, 143, 157, 158, 159, 160, 161, 166, 167, 168, 169, 170, 177, 179, 180, 181, 186] [51, 57, 58, 76, 77, 78, 79, 83, 84, 85, 86, 87, 88, 89, 90, 91, 92, 93, 94, 95, 96, 97, 98, 99, 100, 101, 103, 104, 105, 106, 107, 108, 109, 110, 111, 112] I I' ∧ gr_fj [0, 68, 69, 70, 126, 127, 128, 143, 157, 158, 159, 160, 161, 166, 167, 168, 169, 170, 177, 179, 180, 181, 186] [51, 57, 58, 76, 77, 78, 79, 83, 84, 85, 86, 87, 88, 89, 90, 91, 92, 93, 94, 95, 96, 97, 98, 99, 100, 101, 103, 104, 105, 106, 107, 108, 109, 110, 111, 112] J J' ∧ gr_GR I' ∧ gr_FV I' ∧ (∃ z : Int, r = some (.inl z) ∧ (-3) ≤ z ∧ z ≤ 3 ∧ (((0 ≤ a1 ∧ a1 < I 0 1) ∧ (0 ≤ a2 ∧ a2 < I 0 2)) → I' 0 68 = 0) ∧ (¬ ((0 ≤ a1 ∧ a1 < I 0 1) ∧ (0 ≤ a2 ∧ a2 < I 0 2)) → I' 0 68 = I 0 68)))) htb rfl (Nat.le_of_ble_eq_true rfl) ?_
  have f1 := (show 0 ≤ I 0 143 ∧ I 0 143 ≤ 24 from (hI 0 143).1)
  have f2 := (show (-1) ≤ I 0 177 ∧ I 0 177 ≤ 2999 from (hI 0 177).1)
  have f3 := (show 0 ≤ I 0 186 ∧ I 0 186 ≤ 16 from (hI 0 186).1)
  have f4 := (show 0 ≤ I 0 68 ∧ I 0 68 ≤ 1000 from (hI 0 68).1)
  have f5 := (show 0 ≤ I 0 1 ∧ I 0 1 ≤ 8 from (hI 0 1).1)
  have f6 := (show 0 ≤ I 0 2 ∧ I 0 2 ≤ 32 from (hI 0 2).1)
  have L16 : ∀ (I7 : gr_I) (J8 : gr_J) , gr_Inv I7 → gr_fr [0, 68, 69, 70, 126, 127, 128, 143, 157, 158, 159, 160, 161, 166, 167, 168, 169, 170, 177, 179, 180, 181, 186] [51, 57, 58, 76, 77, 78, 79, 83, 84, 85, 86, 87, 88, 89, 90, 91, 92, 93, 94, 95, 96, 97, 98, 99, 100, 101, 103, 104, 105, 106, 107, 108, 109, 110, 111, 112] I I7 → gr_fj [0, 68, 69, 70, 126, 127, 128, 143, 157, 158, 159, 160, 161, 166, 167, 168, 169, 170, 177, 179, 180, 181, 186] [51, 57, 58, 76, 77, 78, 79, 83, 84, 85, 86, 87, 88, 89, 90, 91, 92, 93, 94, 95, 96, 97, 98, 99, 100, 101, 103, 104, 105, 106, 107, 108, 109, 110, 111, 112] J J8 → gr_GR I7 → gr_FV I7 → ((I7 0 68 = I 0 68) ∧ (¬ ((0 ≤ a1 ∧ a1 < I 0 1) ∧ (0 ≤ a2 ∧ a2 < I 0 2)))) → gv_X (gr_E ws0 tb 13 (yX13_mend, cX13_mend, 4, (some .int)) kX13_mend) (gv_Q cX13_mend (some .int) (gr_sh ++ ext) (fun r h' => (∃ (I' : gr_I) (J' : gr_J), h' = gr_h I' J' ∧ gr_Inv I' ∧ gr_fr [0, 68, 69, 70, 126, 127, 128, 143, 157, 158, 159, 160, 161, 166, 167, 168, 169, 170, 177, 179, 180, 181, 186] [51, 57, 58, 76, 77, 78, 79, 83, 84, 85, 86, 87, 88, 89, 90, 91, 92, 93, 94, 95, 96, 97, 98, 99, 100, 101, 103, 104, 105, 106, 107, 108, 109, 110, 111, 112] I I' ∧ gr_fj [0, 68, 69, 70, 126, 127, 128, 143, 157, 158, 159, 160, 161, 166, 167, 168, 169, 170, 177, 179, 180, 181, 186] [51, 57, 58, 76, 77, 78, 79, 83, 84, 85, 86, 87, 88, 89, 90, 91, 92, 93, 94, 95, 96, 97, 98, 99, 100, 101, 103, 104, 105, 106, 107, 108, 109, 110, 111, 112] J J' ∧ gr_GR I' ∧ gr_FV I' ∧ (∃ z : Int, r = some (.inl z) ∧ (-3) ≤ z ∧ z ≤ 3 ∧ (((0 ≤ a1 ∧ a1 < I 0 1) ∧ (0 ≤ a2 ∧ a2 < I 0 2)) → I' 0 68 = 0) ∧ (¬ ((0 ≤ a1 ∧ a1 < I 0 1) ∧ (0 ≤ a2 ∧ a2 < I 0 2)) → I' 0 68 = I 0 68))))) (16, [], [], gr_sh ++ ext, gr_h I7 J8) := by
    intro I7 J8 hI7 FI7 FJ8 KGR_I7 KFV_I7 m_9
    obtain ⟨e0_9, e1_9⟩ := m_9
    have f10 := (show 0 ≤ I7 0 143 ∧ I7 0 143 ≤ 24 from (hI7 0 143).1)
    have f11 := (show (-1) ≤ I7 0 177 ∧ I7 0 177 ≤ 2999 from (hI7 0 177).1)
    have f12 := (show 0 ≤ I7 0 186 ∧ I7 0 186 ≤ 16 from (hI7 0 186).1)
    have f13 := (show 0 ≤ I7 0 68 ∧ I7 0 68 ≤ 1000 from (hI7 0 68).1)
    have f14 := (show 0 ≤ I7 0 1 ∧ I7 0 1 ≤ 8 from (hI7 0 1).1)
    have f15 := (show 0 ≤ I7 0 2 ∧ I7 0 2 ≤ 32 from (hI7 0 2).1)
    refine gv_run 1 true hD (pc' := 17) (lv' := []) (st' := [.inl 0]) (h' := gr_h I7 J8) (C := (True ∧ True)) rfl ⟨trivial, trivial⟩ ?_
    exact gv_iret hD rfl ⟨I7, J8, rfl, hI7, FI7, FJ8, KGR_I7, KFV_I7, ⟨_, rfl, by omega⟩⟩
  have L39 : ∀ (I16 : gr_I) (J17 : gr_J) , gr_Inv I16 → gr_fr [0, 68, 69, 70, 126, 127, 128, 143, 157, 158, 159, 160, 161, 166, 167, 168, 169, 170, 177, 179, 180, 181, 186] [51, 57, 58, 76, 77, 78, 79, 83, 84, 85, 86, 87, 88, 89, 90, 91, 92, 93, 94, 95, 96, 97, 98, 99, 100, 101, 103, 104, 105, 106, 107, 108, 109, 110, 111, 112] I I16 → gr_fj [0, 68, 69, 70, 126, 127, 128, 143, 157, 158, 159, 160, 161, 166, 167, 168, 169, 170, 177, 179, 180, 181, 186] [51, 57, 58, 76, 77, 78, 79, 83, 84, 85, 86, 87, 88, 89, 90, 91, 92, 93, 94, 95, 96, 97, 98, 99, 100, 101, 103, 104, 105, 106, 107, 108, 109, 110, 111, 112] J J17 → gr_GR I16 → gr_FV I16 → ((I16 0 68 = 0) ∧ (((0 ≤ a1 ∧ a1 < I 0 1) ∧ (0 ≤ a2 ∧ a2 < I 0 2)))) → gv_X (gr_E ws0 tb 13 (yX13_mend, cX13_mend, 4, (some .int)) kX13_mend) (gv_Q cX13_mend (some .int) (gr_sh ++ ext) (fun r h' => (∃ (I' : gr_I) (J' : gr_J), h' = gr_h I' J' ∧ gr_Inv I' ∧ gr_fr [0, 68, 69, 70, 126, 127, 128, 143, 157, 158, 159, 160, 161, 166, 167, 168, 169, 170, 177, 179, 180, 181, 186] [51, 57, 58, 76, 77, 78, 79, 83, 84, 85, 86, 87, 88, 89, 90, 91, 92, 93, 94, 95, 96, 97, 98, 99, 100, 101, 103, 104, 105, 106, 107, 108, 109, 110, 111, 112] I I' ∧ gr_fj [0, 68, 69, 70, 126, 127, 128, 143, 157, 158, 159, 160, 161, 166, 167, 168, 169, 170, 177, 179, 180, 181, 186] [51, 57, 58, 76, 77, 78, 79, 83, 84, 85, 86, 87, 88, 89, 90, 91, 92, 93, 94, 95, 96, 97, 98, 99, 100, 101, 103, 104, 105, 106, 107, 108, 109, 110, 111, 112] J J' ∧ gr_GR I' ∧ gr_FV I' ∧ (∃ z : Int, r = some (.inl z) ∧ (-3) ≤ z ∧ z ≤ 3 ∧ (((0 ≤ a1 ∧ a1 < I 0 1) ∧ (0 ≤ a2 ∧ a2 < I 0 2)) → I' 0 68 = 0) ∧ (¬ ((0 ≤ a1 ∧ a1 < I 0 1) ∧ (0 ≤ a2 ∧ a2 < I 0 2)) → I' 0 68 = I 0 68))))) (39, [(0, .inr (.inr (some 0)))], [], gr_sh ++ ext, gr_h I16 J17) := by
    intro I16 J17 hI16 FI16 FJ17 KGR_I16 KFV_I16 m_18
    obtain ⟨e0_18, e1_18⟩ := m_18
    have f19 := (show 0 ≤ I16 0 143 ∧ I16 0 143 ≤ 24 from (hI16 0 143).1)
    have f20 := (show (-1) ≤ I16 0 177 ∧ I16 0 177 ≤ 2999 from (hI16 0 177).1)
    have f21 := (show 0 ≤ I16 0 186 ∧ I16 0 186 ≤ 16 from (hI16 0 186).1)
    have f22 := (show 0 ≤ I16 0 68 ∧ I16 0 68 ≤ 1000 from (hI16 0 68).1)
    have f23 := (show 0 ≤ I16 0 1 ∧ I16 0 1 ≤ 8 from (hI16 0 1).1)
    have f24 := (show 0 ≤ I16 0 2 ∧ I16 0 2 ≤ 32 from (hI16 0 2).1)
    refine gv_run 1 true hD (pc' := 40) (lv' := [(0, .inr (.inr (some 0)))]) (st' := [.inr (.inr (some 0))]) (h' := gr_h I16 J17) (C := (True ∧ True)) rfl ⟨trivial, trivial⟩ ?_
    obtain ⟨r25, h25, E25, P25⟩ := r_noForest_f (ws0 := ws0) (tb := tb) hws htb ext I16 J17 hI16   
    obtain ⟨I26, J27, rfl, hI26, g25, k25, ⟨rfl, q25⟩⟩ := P25
    have FI26 := gr_frt FI16 g25 rfl rfl
    have FJ27 := gr_fjt FJ17 k25 rfl rfl
    have t28 := g25 0 143 rfl
    have t29 := g25 0 68 rfl
    have t30 := g25 0 1 rfl
    have t31 := g25 0 2 rfl
    have f32 := (show 0 ≤ I26 0 143 ∧ I26 0 143 ≤ 24 from (hI26 0 143).1)
    have f33 := (show (-1) ≤ I26 0 177 ∧ I26 0 177 ≤ 2999 from (hI26 0 177).1)
    have f34 := (show 0 ≤ I26 0 186 ∧ I26 0 186 ≤ 16 from (hI26 0 186).1)
    have f35 := (show 0 ≤ I26 0 68 ∧ I26 0 68 ≤ 1000 from (hI26 0 68).1)
    have f36 := (show 0 ≤ I26 0 1 ∧ I26 0 1 ≤ 8 from (hI26 0 1).1)
    have f37 := (show 0 ≤ I26 0 2 ∧ I26 0 2 ≤ 32 from (hI26 0 2).1)
    have KGR_I26 := gr_GR_fr KGR_I16 (fun k => g25 19 k rfl) (fun k => g25 18 k rfl) (fun k => g25 36 k rfl) (fun k => g25 41 k rfl) (fun k => g25 42 k rfl) (fun k => g25 43 k rfl) (fun k => g25 45 k rfl) (fun k => g25 46 k rfl) (fun k => g25 47 k rfl) (fun k => g25 6 k rfl) (fun k => g25 7 k rfl) (fun k => g25 8 k rfl) (g25 0 3 rfl)
    have KFV_I26 : gr_FV I26 := (gr_FV_no (by omega) (by omega))
    refine gv_callV hD rfl (As := []) (st := []) rfl (by decide) rfl rfl (gr_lV hws rfl) (Nat.le_of_ble_eq_true rfl) (gz_Ev_mono (d := 1) (by decide) E25) ?_
    show gv_X _ _ (43, [(0, .inr (.inr (some 0)))], [], gr_sh ++ ext, gr_h I26 J27)
    refine gv_run 1 true hD (pc' := 45) (lv' := [(0, .inr (.inr (some 0)))]) (st' := [.inl (-3)]) (h' := gr_h I26 J27) (C := (True ∧ True)) rfl ⟨trivial, trivial⟩ ?_
    exact gv_iret hD rfl ⟨I26, J27, rfl, hI26, FI26, FJ27, KGR_I26, KFV_I26, ⟨_, rfl, by omega⟩⟩
  have L73 : ∀ (I38 : gr_I) (J39 : gr_J) (v3_40 : Int), gr_Inv I38 → gr_fr [0, 68, 69, 70, 126, 127, 128, 143, 157, 158, 159, 160, 161, 166, 167, 168, 169, 170, 177, 179, 180, 181, 186] [51, 57, 58, 76, 77, 78, 79, 83, 84, 85, 86, 87, 88, 89, 90, 91, 92, 93, 94, 95, 96, 97, 98, 99, 100, 101, 103, 104, 105, 106, 107, 108, 109, 110, 111, 112] I I38 → gr_fj [0, 68, 69, 70, 126, 127, 128, 143, 157, 158, 159, 160, 161, 166, 167, 168, 169, 170, 177, 179, 180, 181, 186] [51, 57, 58, 76, 77, 78, 79, 83, 84, 85, 86, 87, 88, 89, 90, 91, 92, 93, 94, 95, 96, 97, 98, 99, 100, 101, 103, 104, 105, 106, 107, 108, 109, 110, 111, 112] J J39 → gr_GR I38 → gr_FV I38 → (((-1) ≤ v3_40 ∧ v3_40 ≤ 3) ∧ (I38 0 68 = 0) ∧ (((0 ≤ a1 ∧ a1 < I 0 1) ∧ (0 ≤ a2 ∧ a2 < I 0 2)))) → gv_X (gr_E ws0 tb 13 (yX13_mend, cX13_mend, 4, (some .int)) kX13_mend) (gv_Q cX13_mend (some .int) (gr_sh ++ ext) (fun r h' => (∃ (I' : gr_I) (J' : gr_J), h' = gr_h I' J' ∧ gr_Inv I' ∧ gr_fr [0, 68, 69, 70, 126, 127, 128, 143, 157, 158, 159, 160, 161, 166, 167, 168, 169, 170, 177, 179, 180, 181, 186] [51, 57, 58, 76, 77, 78, 79, 83, 84, 85, 86, 87, 88, 89, 90, 91, 92, 93, 94, 95, 96, 97, 98, 99, 100, 101, 103, 104, 105, 106, 107, 108, 109, 110, 111, 112] I I' ∧ gr_fj [0, 68, 69, 70, 126, 127, 128, 143, 157, 158, 159, 160, 161, 166, 167, 168, 169, 170, 177, 179, 180, 181, 186] [51, 57, 58, 76, 77, 78, 79, 83, 84, 85, 86, 87, 88, 89, 90, 91, 92, 93, 94, 95, 96, 97, 98, 99, 100, 101, 103, 104, 105, 106, 107, 108, 109, 110, 111, 112] J J' ∧ gr_GR I' ∧ gr_FV I' ∧ (∃ z : Int, r = some (.inl z) ∧ (-3) ≤ z ∧ z ≤ 3 ∧ (((0 ≤ a1 ∧ a1 < I 0 1) ∧ (0 ≤ a2 ∧ a2 < I 0 2)) → I' 0 68 = 0) ∧ (¬ ((0 ≤ a1 ∧ a1 < I 0 1) ∧ (0 ≤ a2 ∧ a2 < I 0 2)) → I' 0 68 = I 0 68))))) (73, [(3, .inl v3_40)], [], gr_sh ++ ext, gr_h I38 J39) := by
    intro I38 J39 v3_40 hI38 FI38 FJ39 KGR_I38 KFV_I38 m_40
    obtain ⟨hv3_40, e0_40, e1_40⟩ := m_40
    have f41 := (show 0 ≤ I38 0 143 ∧ I38 0 143 ≤ 24 from (hI38 0 143).1)
    have f42 := (show (-1) ≤ I38 0 177 ∧ I38 0 177 ≤ 2999 from (hI38 0 177).1)
    have f43 := (show 0 ≤ I38 0 186 ∧ I38 0 186 ≤ 16 from (hI38 0 186).1)
    have f44 := (show 0 ≤ I38 0 68 ∧ I38 0 68 ≤ 1000 from (hI38 0 68).1)
    have f45 := (show 0 ≤ I38 0 1 ∧ I38 0 1 ≤ 8 from (hI38 0 1).1)
    have f46 := (show 0 ≤ I38 0 2 ∧ I38 0 2 ≤ 32 from (hI38 0 2).1)
    refine gv_run 1 true hD (pc' := 74) (lv' := [(3, .inl v3_40)]) (st' := [.inl v3_40]) (h' := gr_h I38 J39) (C := (True ∧ True)) rfl ⟨trivial, trivial⟩ ?_
    exact gv_iret hD rfl ⟨I38, J39, rfl, hI38, FI38, FJ39, KGR_I38, KFV_I38, ⟨_, rfl, by omega⟩⟩
  refine gv_run 2 true hD (pc' := 2) (lv' := [(0, .inr (.inr (some 0))), (1, .inl a1), (2, .inl a2)]) (st' := [.inl a1, .inr (.inr (some 0))]) (h' := gr_h I J) (C := ((True ∧ True) ∧ True)) rfl ⟨⟨trivial, trivial⟩, trivial⟩ ?_
  obtain ⟨r47, h47, E47, P47⟩ := r_noTongue_t (ws0 := ws0) (tb := tb) hws htb ext I J hI a1 ⟨by omega, by omega⟩ 
  obtain ⟨I48, J49, rfl, hI48, g47, k47, ⟨z47, rfl, q47⟩⟩ := P47
  have FI48 := gr_frt FI g47 rfl rfl
  have FJ49 := gr_fjt FJ k47 rfl rfl
  have t50 := g47 0 143 rfl
  have t51 := g47 0 177 rfl
  have t52 := g47 0 186 rfl
  have t53 := g47 0 68 rfl
  have t54 := g47 0 1 rfl
  have t55 := g47 0 2 rfl
  have f56 := (show 0 ≤ I48 0 143 ∧ I48 0 143 ≤ 24 from (hI48 0 143).1)
  have f57 := (show (-1) ≤ I48 0 177 ∧ I48 0 177 ≤ 2999 from (hI48 0 177).1)
  have f58 := (show 0 ≤ I48 0 186 ∧ I48 0 186 ≤ 16 from (hI48 0 186).1)
  have f59 := (show 0 ≤ I48 0 68 ∧ I48 0 68 ≤ 1000 from (hI48 0 68).1)
  have f60 := (show 0 ≤ I48 0 1 ∧ I48 0 1 ≤ 8 from (hI48 0 1).1)
  have f61 := (show 0 ≤ I48 0 2 ∧ I48 0 2 ≤ 32 from (hI48 0 2).1)
  have KGR_I48 := gr_GR_fr KGR_I (fun k => g47 19 k rfl) (fun k => g47 18 k rfl) (fun k => g47 36 k rfl) (fun k => g47 41 k rfl) (fun k => g47 42 k rfl) (fun k => g47 43 k rfl) (fun k => g47 45 k rfl) (fun k => g47 46 k rfl) (fun k => g47 47 k rfl) (fun k => g47 6 k rfl) (fun k => g47 7 k rfl) (fun k => g47 8 k rfl) (g47 0 3 rfl)
  have KFV_I48 := gr_FV_fr KFV_I (fun k => g47 87 k rfl) (fun k => g47 88 k rfl) (fun k => g47 104 k rfl) (fun k => g47 90 k rfl) (fun k => g47 91 k rfl) (fun k => g47 92 k rfl) (fun k => g47 94 k rfl) (fun k => g47 95 k rfl) (fun k => g47 97 k rfl) (fun k => g47 98 k rfl) (fun k => g47 19 k rfl) (fun k => g47 18 k rfl) (fun k => g47 41 k rfl) (fun k => g47 6 k rfl) (fun k => g47 99 k rfl) (fun k => g47 105 k rfl) (fun k => g47 107 k rfl) (fun k => g47 108 k rfl) (fun k => g47 110 k rfl) (fun k => g47 111 k rfl) (g47 0 157 rfl) (g47 0 158 rfl) (g47 0 177 rfl) (g47 0 186 rfl) (g47 0 159 rfl) hI
  refine gv_callV hD rfl (As := [.inl a1]) (st := []) rfl (by decide) rfl rfl (gr_lV hws rfl) (Nat.le_of_ble_eq_true rfl) (gz_Ev_mono (d := 1) (by decide) E47) ?_
  show gv_X _ _ (5, [(0, .inr (.inr (some 0))), (1, .inl a1), (2, .inl a2)], [.inl z47], gr_sh ++ ext, gr_h I48 J49)
  refine gv_if_ne (t := 16) hD rfl rfl ⟨by omega, by omega⟩ (fun c62 => ?_) (fun c62 => ?_)
  · refine gv_pick [] rfl ?_
    exact L16 I48 J49 hI48 FI48 FJ49 KGR_I48 KFV_I48 (by omega)
  · refine gv_run 2 true hD (pc' := 10) (lv' := [(0, .inr (.inr (some 0))), (1, .inl a1), (2, .inl a2)]) (st' := [.inl a2, .inr (.inr (some 0))]) (h' := gr_h I48 J49) (C := ((True ∧ True) ∧ True)) rfl ⟨⟨trivial, trivial⟩, trivial⟩ ?_
    obtain ⟨r63, h63, E63, P63⟩ := r_noKind_t (ws0 := ws0) (tb := tb) hws htb ext I48 J49 hI48 a2 ⟨by omega, by omega⟩ 
    obtain ⟨I64, J65, rfl, hI64, g63, k63, ⟨z63, rfl, q63⟩⟩ := P63
    have FI64 := gr_frt FI48 g63 rfl rfl
    have FJ65 := gr_fjt FJ49 k63 rfl rfl
    have t66 := g63 0 143 rfl
    have t67 := g63 0 177 rfl
    have t68 := g63 0 186 rfl
    have t69 := g63 0 68 rfl
    have t70 := g63 0 1 rfl
    have t71 := g63 0 2 rfl
    have f72 := (show 0 ≤ I64 0 143 ∧ I64 0 143 ≤ 24 from (hI64 0 143).1)
    have f73 := (show (-1) ≤ I64 0 177 ∧ I64 0 177 ≤ 2999 from (hI64 0 177).1)
    have f74 := (show 0 ≤ I64 0 186 ∧ I64 0 186 ≤ 16 from (hI64 0 186).1)
    have f75 := (show 0 ≤ I64 0 68 ∧ I64 0 68 ≤ 1000 from (hI64 0 68).1)
    have f76 := (show 0 ≤ I64 0 1 ∧ I64 0 1 ≤ 8 from (hI64 0 1).1)
    have f77 := (show 0 ≤ I64 0 2 ∧ I64 0 2 ≤ 32 from (hI64 0 2).1)
    have KGR_I64 := gr_GR_fr KGR_I48 (fun k => g63 19 k rfl) (fun k => g63 18 k rfl) (fun k => g63 36 k rfl) (fun k => g63 41 k rfl) (fun k => g63 42 k rfl) (fun k => g63 43 k rfl) (fun k => g63 45 k rfl) (fun k => g63 46 k rfl) (fun k => g63 47 k rfl) (fun k => g63 6 k rfl) (fun k => g63 7 k rfl) (fun k => g63 8 k rfl) (g63 0 3 rfl)
    have KFV_I64 := gr_FV_fr KFV_I48 (fun k => g63 87 k rfl) (fun k => g63 88 k rfl) (fun k => g63 104 k rfl) (fun k => g63 90 k rfl) (fun k => g63 91 k rfl) (fun k => g63 92 k rfl) (fun k => g63 94 k rfl) (fun k => g63 95 k rfl) (fun k => g63 97 k rfl) (fun k => g63 98 k rfl) (fun k => g63 19 k rfl) (fun k => g63 18 k rfl) (fun k => g63 41 k rfl) (fun k => g63 6 k rfl) (fun k => g63 99 k rfl) (fun k => g63 105 k rfl) (fun k => g63 107 k rfl) (fun k => g63 108 k rfl) (fun k => g63 110 k rfl) (fun k => g63 111 k rfl) (g63 0 157 rfl) (g63 0 158 rfl) (g63 0 177 rfl) (g63 0 186 rfl) (g63 0 159 rfl) hI48
    refine gv_callV hD rfl (As := [.inl a2]) (st := []) rfl (by decide) rfl rfl (gr_lV hws rfl) (Nat.le_of_ble_eq_true rfl) (gz_Ev_mono (d := 1) (by decide) E63) ?_
    show gv_X _ _ (13, [(0, .inr (.inr (some 0))), (1, .inl a1), (2, .inl a2)], [.inl z63], gr_sh ++ ext, gr_h I64 J65)
    refine gv_if_eq (t := 18) hD rfl rfl ⟨by omega, by omega⟩ (fun c78 => ?_) (fun c78 => ?_)
    · refine gv_run 3 true hD (pc' := 23) (lv' := [(0, .inr (.inr (some 0))), (1, .inl a1), (2, .inl a2)]) (st' := []) (h' := gz_up (gr_h I64 J65) 0 70 (.inl 0)) (C := (((True ∧ True) ∧ True) ∧ True)) rfl ⟨⟨⟨trivial, trivial⟩, trivial⟩, trivial⟩ ?_
      refine gr_st hI64 FI64 rfl rfl ⟨⟨by show 0 ≤ _; omega, by show _ ≤ 1000; omega⟩, trivial⟩ (fun I79 hI79 FI79 q80 p80 => ?_)
      have t81 := p80 0 143 (by decide)
      have t82 := p80 0 177 (by decide)
      have t83 := p80 0 186 (by decide)
      have t84 := p80 0 68 (by decide)
      have t85 := p80 0 1 (by decide)
      have t86 := p80 0 2 (by decide)
      have f87 := (show 0 ≤ I79 0 143 ∧ I79 0 143 ≤ 24 from (hI79 0 143).1)
      have f88 := (show (-1) ≤ I79 0 177 ∧ I79 0 177 ≤ 2999 from (hI79 0 177).1)
      have f89 := (show 0 ≤ I79 0 186 ∧ I79 0 186 ≤ 16 from (hI79 0 186).1)
      have f90 := (show 0 ≤ I79 0 68 ∧ I79 0 68 ≤ 1000 from (hI79 0 68).1)
      have f91 := (show 0 ≤ I79 0 1 ∧ I79 0 1 ≤ 8 from (hI79 0 1).1)
      have f92 := (show 0 ≤ I79 0 2 ∧ I79 0 2 ≤ 32 from (hI79 0 2).1)
      have KGR_I79 := gr_GR_fr KGR_I64 (fun k => p80 19 k (fun q => absurd q.1 (by decide))) (fun k => p80 18 k (fun q => absurd q.1 (by decide))) (fun k => p80 36 k (fun q => absurd q.1 (by decide))) (fun k => p80 41 k (fun q => absurd q.1 (by decide))) (fun k => p80 42 k (fun q => absurd q.1 (by decide))) (fun k => p80 43 k (fun q => absurd q.1 (by decide))) (fun k => p80 45 k (fun q => absurd q.1 (by decide))) (fun k => p80 46 k (fun q => absurd q.1 (by decide))) (fun k => p80 47 k (fun q => absurd q.1 (by decide))) (fun k => p80 6 k (fun q => absurd q.1 (by decide))) (fun k => p80 7 k (fun q => absurd q.1 (by decide))) (fun k => p80 8 k (fun q => absurd q.1 (by decide))) (p80 0 3 (by decide))
      have KFV_I79 := gr_FV_fr KFV_I64 (fun k => p80 87 k (fun q => absurd q.1 (by decide))) (fun k => p80 88 k (fun q => absurd q.1 (by decide))) (fun k => p80 104 k (fun q => absurd q.1 (by decide))) (fun k => p80 90 k (fun q => absurd q.1 (by decide))) (fun k => p80 91 k (fun q => absurd q.1 (by decide))) (fun k => p80 92 k (fun q => absurd q.1 (by decide))) (fun k => p80 94 k (fun q => absurd q.1 (by decide))) (fun k => p80 95 k (fun q => absurd q.1 (by decide))) (fun k => p80 97 k (fun q => absurd q.1 (by decide))) (fun k => p80 98 k (fun q => absurd q.1 (by decide))) (fun k => p80 19 k (fun q => absurd q.1 (by decide))) (fun k => p80 18 k (fun q => absurd q.1 (by decide))) (fun k => p80 41 k (fun q => absurd q.1 (by decide))) (fun k => p80 6 k (fun q => absurd q.1 (by decide))) (fun k => p80 99 k (fun q => absurd q.1 (by decide))) (fun k => p80 105 k (fun q => absurd q.1 (by decide))) (fun k => p80 107 k (fun q => absurd q.1 (by decide))) (fun k => p80 108 k (fun q => absurd q.1 (by decide))) (fun k => p80 110 k (fun q => absurd q.1 (by decide))) (fun k => p80 111 k (fun q => absurd q.1 (by decide))) (p80 0 157 (by decide)) (p80 0 158 (by decide)) (p80 0 177 (by decide)) (p80 0 186 (by decide)) (p80 0 159 (by decide)) hI64
      refine gv_run 1 true hD (pc' := 24) (lv' := [(0, .inr (.inr (some 0))), (1, .inl a1), (2, .inl a2)]) (st' := [.inr (.inr (some 0))]) (h' := gr_h I79 J65) (C := (True ∧ True)) rfl ⟨trivial, trivial⟩ ?_
      obtain ⟨r93, h93, E93, P93⟩ := r_sentence_t (ws0 := ws0) (tb := tb) hws htb ext I79 J65 hI79   
      obtain ⟨I94, J95, rfl, hI94, g93, k93, ⟨z93, rfl, q93⟩⟩ := P93
      have FI94 := gr_frt FI79 g93 rfl rfl
      have FJ95 := gr_fjt FJ65 k93 rfl rfl
      have t96 := g93 0 177 rfl
      have t97 := g93 0 186 rfl
      have t98 := g93 0 1 rfl
      have t99 := g93 0 2 rfl
      have f100 := (show 0 ≤ I94 0 143 ∧ I94 0 143 ≤ 24 from (hI94 0 143).1)
      have f101 := (show (-1) ≤ I94 0 177 ∧ I94 0 177 ≤ 2999 from (hI94 0 177).1)
      have f102 := (show 0 ≤ I94 0 186 ∧ I94 0 186 ≤ 16 from (hI94 0 186).1)
      have f103 := (show 0 ≤ I94 0 68 ∧ I94 0 68 ≤ 1000 from (hI94 0 68).1)
      have f104 := (show 0 ≤ I94 0 1 ∧ I94 0 1 ≤ 8 from (hI94 0 1).1)
      have f105 := (show 0 ≤ I94 0 2 ∧ I94 0 2 ≤ 32 from (hI94 0 2).1)
      have KGR_I94 := gr_GR_fr KGR_I79 (fun k => g93 19 k rfl) (fun k => g93 18 k rfl) (fun k => g93 36 k rfl) (fun k => g93 41 k rfl) (fun k => g93 42 k rfl) (fun k => g93 43 k rfl) (fun k => g93 45 k rfl) (fun k => g93 46 k rfl) (fun k => g93 47 k rfl) (fun k => g93 6 k rfl) (fun k => g93 7 k rfl) (fun k => g93 8 k rfl) (g93 0 3 rfl)
      have KFV_I94 := gr_FV_fr KFV_I79 (fun k => g93 87 k rfl) (fun k => g93 88 k rfl) (fun k => g93 104 k rfl) (fun k => g93 90 k rfl) (fun k => g93 91 k rfl) (fun k => g93 92 k rfl) (fun k => g93 94 k rfl) (fun k => g93 95 k rfl) (fun k => g93 97 k rfl) (fun k => g93 98 k rfl) (fun k => g93 19 k rfl) (fun k => g93 18 k rfl) (fun k => g93 41 k rfl) (fun k => g93 6 k rfl) (fun k => g93 99 k rfl) (fun k => g93 105 k rfl) (fun k => g93 107 k rfl) (fun k => g93 108 k rfl) (fun k => g93 110 k rfl) (fun k => g93 111 k rfl) (g93 0 157 rfl) (g93 0 158 rfl) (g93 0 177 rfl) (g93 0 186 rfl) (g93 0 159 rfl) hI79
      refine gv_callV hD rfl (As := []) (st := []) rfl (by decide) rfl rfl (gr_lV hws rfl) (Nat.le_of_ble_eq_true rfl) (gz_Ev_mono (d := 2) (by decide) E93) ?_
      show gv_X _ _ (27, [(0, .inr (.inr (some 0))), (1, .inl a1), (2, .inl a2)], [.inl z93], gr_sh ++ ext, gr_h I94 J95)
      refine gv_if_eq (t := 39) hD rfl rfl ⟨by omega, by omega⟩ (fun c106 => ?_) (fun c106 => ?_)
      · refine gv_pick [0] rfl ?_
        exact L39 I94 J95 hI94 FI94 FJ95 KGR_I94 KFV_I94 (by omega)
      · have f107 := (show 0 ≤ I94 0 143 ∧ I94 0 143 ≤ 24 from (hI94 0 143).1)
        refine gv_run 3 true hD (pc' := 36) (lv' := [(0, .inr (.inr (some 0))), (1, .inl a1), (2, .inl a2)]) (st' := [.inl 12, .inl (I94 0 143)]) (h' := gr_h I94 J95) (C := (((True ∧ True) ∧ True) ∧ True)) rfl ⟨⟨⟨trivial, trivial⟩, trivial⟩, trivial⟩ ?_
        refine gv_icmp_le (t := 46) hD rfl rfl ⟨⟨by omega, by omega⟩, ⟨by omega, by omega⟩⟩ (fun c108 => ?_) (fun c108 => ?_)
        · refine gv_run 3 true hD (pc' := 51) (lv' := [(0, .inr (.inr (some 0))), (1, .inl a1), (2, .inl a2)]) (st' := []) (h' := gz_up (gr_h I94 J95) 0 161 (.inl 0)) (C := (((True ∧ True) ∧ True) ∧ True)) rfl ⟨⟨⟨trivial, trivial⟩, trivial⟩, trivial⟩ ?_
          refine gr_st hI94 FI94 rfl rfl ⟨⟨by show 0 ≤ _; omega, by show _ ≤ 400001; omega⟩, trivial⟩ (fun I109 hI109 FI109 q110 p110 => ?_)
          have t111 := p110 0 143 (by decide)
          have t112 := p110 0 177 (by decide)
          have t113 := p110 0 186 (by decide)
          have t114 := p110 0 68 (by decide)
          have t115 := p110 0 1 (by decide)
          have t116 := p110 0 2 (by decide)
          have f117 := (show 0 ≤ I109 0 143 ∧ I109 0 143 ≤ 24 from (hI109 0 143).1)
          have f118 := (show (-1) ≤ I109 0 177 ∧ I109 0 177 ≤ 2999 from (hI109 0 177).1)
          have f119 := (show 0 ≤ I109 0 186 ∧ I109 0 186 ≤ 16 from (hI109 0 186).1)
          have f120 := (show 0 ≤ I109 0 68 ∧ I109 0 68 ≤ 1000 from (hI109 0 68).1)
          have f121 := (show 0 ≤ I109 0 1 ∧ I109 0 1 ≤ 8 from (hI109 0 1).1)
          have f122 := (show 0 ≤ I109 0 2 ∧ I109 0 2 ≤ 32 from (hI109 0 2).1)
          have KGR_I109 := gr_GR_fr KGR_I94 (fun k => p110 19 k (fun q => absurd q.1 (by decide))) (fun k => p110 18 k (fun q => absurd q.1 (by decide))) (fun k => p110 36 k (fun q => absurd q.1 (by decide))) (fun k => p110 41 k (fun q => absurd q.1 (by decide))) (fun k => p110 42 k (fun q => absurd q.1 (by decide))) (fun k => p110 43 k (fun q => absurd q.1 (by decide))) (fun k => p110 45 k (fun q => absurd q.1 (by decide))) (fun k => p110 46 k (fun q => absurd q.1 (by decide))) (fun k => p110 47 k (fun q => absurd q.1 (by decide))) (fun k => p110 6 k (fun q => absurd q.1 (by decide))) (fun k => p110 7 k (fun q => absurd q.1 (by decide))) (fun k => p110 8 k (fun q => absurd q.1 (by decide))) (p110 0 3 (by decide))
          have KFV_I109 := gr_FV_fr KFV_I94 (fun k => p110 87 k (fun q => absurd q.1 (by decide))) (fun k => p110 88 k (fun q => absurd q.1 (by decide))) (fun k => p110 104 k (fun q => absurd q.1 (by decide))) (fun k => p110 90 k (fun q => absurd q.1 (by decide))) (fun k => p110 91 k (fun q => absurd q.1 (by decide))) (fun k => p110 92 k (fun q => absurd q.1 (by decide))) (fun k => p110 94 k (fun q => absurd q.1 (by decide))) (fun k => p110 95 k (fun q => absurd q.1 (by decide))) (fun k => p110 97 k (fun q => absurd q.1 (by decide))) (fun k => p110 98 k (fun q => absurd q.1 (by decide))) (fun k => p110 19 k (fun q => absurd q.1 (by decide))) (fun k => p110 18 k (fun q => absurd q.1 (by decide))) (fun k => p110 41 k (fun q => absurd q.1 (by decide))) (fun k => p110 6 k (fun q => absurd q.1 (by decide))) (fun k => p110 99 k (fun q => absurd q.1 (by decide))) (fun k => p110 105 k (fun q => absurd q.1 (by decide))) (fun k => p110 107 k (fun q => absurd q.1 (by decide))) (fun k => p110 108 k (fun q => absurd q.1 (by decide))) (fun k => p110 110 k (fun q => absurd q.1 (by decide))) (fun k => p110 111 k (fun q => absurd q.1 (by decide))) (p110 0 157 (by decide)) (p110 0 158 (by decide)) (p110 0 177 (by decide)) (p110 0 186 (by decide)) (p110 0 159 (by decide)) hI94
          refine gv_run 3 true hD (pc' := 54) (lv' := [(0, .inr (.inr (some 0))), (1, .inl a1), (2, .inl a2)]) (st' := [.inl a2, .inl a1, .inr (.inr (some 0))]) (h' := gr_h I109 J95) (C := (((True ∧ True) ∧ True) ∧ True)) rfl ⟨⟨⟨trivial, trivial⟩, trivial⟩, trivial⟩ ?_
          obtain ⟨r123, h123, E123, P123⟩ := r_mended (ws0 := ws0) (tb := tb) hws htb ext I109 J95 hI109 a1 a2 ⟨by omega, by omega⟩ ⟨by omega, by omega⟩ (by omega) KGR_I109 KFV_I109
          obtain ⟨I124, J125, rfl, hI124, g123, k123, KGR_I124, KFV_I124, ⟨z123, rfl, q123⟩⟩ := P123
          have FI124 := gr_frt FI109 g123 rfl rfl
          have FJ125 := gr_fjt FJ95 k123 rfl rfl
          have t126 := g123 0 68 rfl
          have t127 := g123 0 1 rfl
          have t128 := g123 0 2 rfl
          have f129 := (show 0 ≤ I124 0 143 ∧ I124 0 143 ≤ 24 from (hI124 0 143).1)
          have f130 := (show (-1) ≤ I124 0 177 ∧ I124 0 177 ≤ 2999 from (hI124 0 177).1)
          have f131 := (show 0 ≤ I124 0 186 ∧ I124 0 186 ≤ 16 from (hI124 0 186).1)
          have f132 := (show 0 ≤ I124 0 68 ∧ I124 0 68 ≤ 1000 from (hI124 0 68).1)
          have f133 := (show 0 ≤ I124 0 1 ∧ I124 0 1 ≤ 8 from (hI124 0 1).1)
          have f134 := (show 0 ≤ I124 0 2 ∧ I124 0 2 ≤ 32 from (hI124 0 2).1)
          refine gv_callV hD rfl (As := [.inl a1, .inl a2]) (st := []) rfl (by decide) rfl rfl (gr_lV hws rfl) (Nat.le_of_ble_eq_true rfl) (gz_Ev_mono (d := 13) (by decide) E123) ?_
          show gv_X _ _ (57, [(0, .inr (.inr (some 0))), (1, .inl a1), (2, .inl a2)], [.inl z123], gr_sh ++ ext, gr_h I124 J125)
          refine gv_run 2 true hD (pc' := 59) (lv' := [(3, .inl z123), (0, .inr (.inr (some 0))), (1, .inl a1), (2, .inl a2)]) (st' := [.inl z123]) (h' := gr_h I124 J125) (C := ((True ∧ True) ∧ True)) rfl ⟨⟨trivial, trivial⟩, trivial⟩ ?_
          refine gv_if_ge (t := 69) hD rfl rfl ⟨by omega, by omega⟩ (fun c135 => ?_) (fun c135 => ?_)
          · refine gv_run 1 true hD (pc' := 70) (lv' := [(3, .inl z123), (0, .inr (.inr (some 0))), (1, .inl a1), (2, .inl a2)]) (st' := [.inr (.inr (some 0))]) (h' := gr_h I124 J125) (C := (True ∧ True)) rfl ⟨trivial, trivial⟩ ?_
            obtain ⟨r136, h136, E136, P136⟩ := r_outSentence (ws0 := ws0) (tb := tb) hws htb ext I124 J125 hI124   
            obtain ⟨I137, J138, rfl, hI137, g136, k136, rfl⟩ := P136
            have FI137 := gr_frt FI124 g136 rfl rfl
            have FJ138 := gr_fjt FJ125 k136 rfl rfl
            have t139 := g136 0 143 rfl
            have t140 := g136 0 177 rfl
            have t141 := g136 0 186 rfl
            have t142 := g136 0 68 rfl
            have t143 := g136 0 1 rfl
            have t144 := g136 0 2 rfl
            have f145 := (show 0 ≤ I137 0 143 ∧ I137 0 143 ≤ 24 from (hI137 0 143).1)
            have f146 := (show (-1) ≤ I137 0 177 ∧ I137 0 177 ≤ 2999 from (hI137 0 177).1)
            have f147 := (show 0 ≤ I137 0 186 ∧ I137 0 186 ≤ 16 from (hI137 0 186).1)
            have f148 := (show 0 ≤ I137 0 68 ∧ I137 0 68 ≤ 1000 from (hI137 0 68).1)
            have f149 := (show 0 ≤ I137 0 1 ∧ I137 0 1 ≤ 8 from (hI137 0 1).1)
            have f150 := (show 0 ≤ I137 0 2 ∧ I137 0 2 ≤ 32 from (hI137 0 2).1)
            have KGR_I137 := gr_GR_fr KGR_I124 (fun k => g136 19 k rfl) (fun k => g136 18 k rfl) (fun k => g136 36 k rfl) (fun k => g136 41 k rfl) (fun k => g136 42 k rfl) (fun k => g136 43 k rfl) (fun k => g136 45 k rfl) (fun k => g136 46 k rfl) (fun k => g136 47 k rfl) (fun k => g136 6 k rfl) (fun k => g136 7 k rfl) (fun k => g136 8 k rfl) (g136 0 3 rfl)
            have KFV_I137 := gr_FV_fr KFV_I124 (fun k => g136 87 k rfl) (fun k => g136 88 k rfl) (fun k => g136 104 k rfl) (fun k => g136 90 k rfl) (fun k => g136 91 k rfl) (fun k => g136 92 k rfl) (fun k => g136 94 k rfl) (fun k => g136 95 k rfl) (fun k => g136 97 k rfl) (fun k => g136 98 k rfl) (fun k => g136 19 k rfl) (fun k => g136 18 k rfl) (fun k => g136 41 k rfl) (fun k => g136 6 k rfl) (fun k => g136 99 k rfl) (fun k => g136 105 k rfl) (fun k => g136 107 k rfl) (fun k => g136 108 k rfl) (fun k => g136 110 k rfl) (fun k => g136 111 k rfl) (g136 0 157 rfl) (g136 0 158 rfl) (g136 0 177 rfl) (g136 0 186 rfl) (g136 0 159 rfl) hI124
            refine gv_callV hD rfl (As := []) (st := []) rfl (by decide) rfl rfl (gr_lV hws rfl) (Nat.le_of_ble_eq_true rfl) (gz_Ev_mono (d := 2) (by decide) E136) ?_
            show gv_X _ _ (73, [(3, .inl z123), (0, .inr (.inr (some 0))), (1, .inl a1), (2, .inl a2)], [], gr_sh ++ ext, gr_h I137 J138)
            refine gv_pick [0] rfl ?_
            exact L73 I137 J138 z123 hI137 FI137 FJ138 KGR_I137 KFV_I137 (by omega)
          · refine gv_run 1 true hD (pc' := 63) (lv' := [(3, .inl z123), (0, .inr (.inr (some 0))), (1, .inl a1), (2, .inl a2)]) (st' := [.inr (.inr (some 0))]) (h' := gr_h I124 J125) (C := (True ∧ True)) rfl ⟨trivial, trivial⟩ ?_
            obtain ⟨r151, h151, E151, P151⟩ := r_noForest_f (ws0 := ws0) (tb := tb) hws htb ext I124 J125 hI124   
            obtain ⟨I152, J153, rfl, hI152, g151, k151, ⟨rfl, q151⟩⟩ := P151
            have FI152 := gr_frt FI124 g151 rfl rfl
            have FJ153 := gr_fjt FJ125 k151 rfl rfl
            have t154 := g151 0 143 rfl
            have t155 := g151 0 68 rfl
            have t156 := g151 0 1 rfl
            have t157 := g151 0 2 rfl
            have f158 := (show 0 ≤ I152 0 143 ∧ I152 0 143 ≤ 24 from (hI152 0 143).1)
            have f159 := (show (-1) ≤ I152 0 177 ∧ I152 0 177 ≤ 2999 from (hI152 0 177).1)
            have f160 := (show 0 ≤ I152 0 186 ∧ I152 0 186 ≤ 16 from (hI152 0 186).1)
            have f161 := (show 0 ≤ I152 0 68 ∧ I152 0 68 ≤ 1000 from (hI152 0 68).1)
            have f162 := (show 0 ≤ I152 0 1 ∧ I152 0 1 ≤ 8 from (hI152 0 1).1)
            have f163 := (show 0 ≤ I152 0 2 ∧ I152 0 2 ≤ 32 from (hI152 0 2).1)
            have KGR_I152 := gr_GR_fr KGR_I124 (fun k => g151 19 k rfl) (fun k => g151 18 k rfl) (fun k => g151 36 k rfl) (fun k => g151 41 k rfl) (fun k => g151 42 k rfl) (fun k => g151 43 k rfl) (fun k => g151 45 k rfl) (fun k => g151 46 k rfl) (fun k => g151 47 k rfl) (fun k => g151 6 k rfl) (fun k => g151 7 k rfl) (fun k => g151 8 k rfl) (g151 0 3 rfl)
            have KFV_I152 : gr_FV I152 := (gr_FV_no (by omega) (by omega))
            refine gv_callV hD rfl (As := []) (st := []) rfl (by decide) rfl rfl (gr_lV hws rfl) (Nat.le_of_ble_eq_true rfl) (gz_Ev_mono (d := 1) (by decide) E151) ?_
            show gv_X _ _ (66, [(3, .inl z123), (0, .inr (.inr (some 0))), (1, .inl a1), (2, .inl a2)], [], gr_sh ++ ext, gr_h I152 J153)
            refine gv_run 1 true hD (pc' := 73) (lv' := [(3, .inl z123), (0, .inr (.inr (some 0))), (1, .inl a1), (2, .inl a2)]) (st' := []) (h' := gr_h I152 J153) (C := (True ∧ True)) rfl ⟨trivial, trivial⟩ ?_
            refine gv_pick [0] rfl ?_
            exact L73 I152 J153 z123 hI152 FI152 FJ153 KGR_I152 KFV_I152 (by omega)
        · refine gv_pick [0] rfl ?_
          exact L39 I94 J95 hI94 FI94 FJ95 KGR_I94 KFV_I94 (by omega)
    · refine gv_pick [] rfl ?_
      exact L16 I64 J65 hI64 FI64 FJ65 KGR_I64 KFV_I64 (by omega)
