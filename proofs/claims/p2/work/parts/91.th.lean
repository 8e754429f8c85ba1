theorem gr_PX_fr {n : Int} {I I' : gr_I} (h : gr_PX n I) (h1 : ∀ k, I' 6 k = I 6 k) (h2 : ∀ k, I' 113 k = I 113 k) : gr_PX n I' := h.elim (fun π hp => ⟨π, gr_PD_fr hp h1 h2⟩)
set_option maxHeartbeats 4000000 in
set_option maxRecDepth 100000 in
theorem r_say {ws0 : List Cond} {tb : String → gz_T} (hws : ∀ w ∈ gr_ws, w ∈ ws0) (htb : tb RX13 = gr_T) (ext : gz_Sh) (I : gr_I) (J : gr_J) (hI : gr_Inv I) (a1 : Int) (a2 : Int) (a3 : Int) (ha1 : (-2147483648) ≤ a1 ∧ a1 ≤ 2147483647) (ha2 : (-2147483648) ≤ a2 ∧ a2 ≤ 2147483647) (ha3 : (-2147483648) ≤ a3 ∧ a3 ≤ 2147483647) (KGR_I : gr_GR I) (KFV_I : gr_FV I) (KPL_I : gr_PL I) (KOX_I : gr_OX I) : ∃ r h', gz_Ev ws0 tb 71 (yX13_say, cX13_say, 6, (some .int)) [.inr (.inr (some 0)), .inl a1, .inl a2, .inl a3] (gr_sh ++ ext) (gr_h I J) r (gr_sh ++ ext) h' 0 0 ∧ (∃ (I' : gr_I) (J' : gr_J), h' = gr_h I' J' ∧ gr_Inv I' ∧ gr_fr [0, 70, 126, 127, 128, 188] [51, 58, 76, 77, 78, 79, 100, 101, 113, 116, 117, 118, 119, 120, 121, 122, 123] I I' ∧ gr_fj [0, 70, 126, 127, 128, 188] [51, 58, 76, 77, 78, 79, 100, 101, 113, 116, 117, 118, 119, 120, 121, 122, 123] J J' ∧ gr_GR I' ∧ gr_FV I' ∧ gr_PL I' ∧ gr_OX I' ∧ (∃ z : Int, r = some (.inl z) ∧ (-1) ≤ z ∧ z ≤ 1000)) := by
  have FI : gr_fr [0, 70, 126, 127, 128, 188] [51, 58, 76, 77, 78, 79, 100, 101, 113, 116, 117, 118, 119, 120, 121, 122, 123] I I := fun _ _ _ => rfl
  have FJ : gr_fj [0, 70, 126, 127, 128, 188] [51, 58, 76, 77, 78, 79, 100, 101, 113, 116, 117, 118, 119, 120, 121, 122, 123] J J := fun _ _ _ => rfl
  have hD : gv_D (gr_E ws0 tb 70 (yX13_say, cX13_say, 6, (some .int)) kX13_say) := gq_ok oX13_say
  refine gr_ev (d := 70) (l := kX13_say) (Po := fun r h' => (∃ (I' : gr_I) (J' : gr_J), h' = gr_h I' J' ∧ gr_Inv I' ∧ gr_fr [0, 70, 126, 127, 128, 188] [51, 58, 76, 77, 78, 79, 100, 101, 113, 116, 117, 118, 119, 120, 121, 122, 123] I I' ∧ gr_fj [0, 70, 126, 127, 128, 188] [51, 58, 76, 77, 78, 79, 100, 101, 113, 116, 117, 118, 119, 120, 121, 122, 123] J J' ∧ gr_GR I' ∧ gr_FV I' ∧ gr_PL I' ∧ gr_OX I' ∧ (∃ z : Int, r = some (.inl z) ∧ (-1) ≤ z ∧ z ≤ 1000))) htb rfl (Nat.le_of_ble_eq_true rfl) ?_
  have f1 := (show 0 ≤ I 0 188 ∧ I 0 188 ≤ 2000 from (hI 0 188).1)
  have L16 : ∀ (I2 : gr_I) (J3 : gr_J) , gr_Inv I2 → gr_fr [0, 70, 126, 127, 128, 188] [51, 58, 76, 77, 78, 79, 100, 101, 113, 116, 117, 118, 119, 120, 121, 122, 123] I I2 → gr_fj [0, 70, 126, 127, 128, 188] [51, 58, 76, 77, 78, 79, 100, 101, 113, 116, 117, 118, 119, 120, 121, 122, 123] J J3 → gr_GR I2 → gr_FV I2 → gr_PL I2 → gr_OX I2 → gv_X (gr_E ws0 tb 70 (yX13_say, cX13_say, 6, (some .int)) kX13_say) (gv_Q cX13_say (some .int) (gr_sh ++ ext) (fun r h' => (∃ (I' : gr_I) (J' : gr_J), h' = gr_h I' J' ∧ gr_Inv I' ∧ gr_fr [0, 70, 126, 127, 128, 188] [51, 58, 76, 77, 78, 79, 100, 101, 113, 116, 117, 118, 119, 120, 121, 122, 123] I I' ∧ gr_fj [0, 70, 126, 127, 128, 188] [51, 58, 76, 77, 78, 79, 100, 101, 113, 116, 117, 118, 119, 120, 121, 122, 123] J J' ∧ gr_GR I' ∧ gr_FV I' ∧ gr_PL I' ∧ gr_OX I' ∧ (∃ z : Int, r = some (.inl z) ∧ (-1) ≤ z ∧ z ≤ 1000)))) (16, [], [], gr_sh ++ ext, gr_h I2 J3) := by
    intro I2 J3 hI2 FI2 FJ3 KGR_I2 KFV_I2 KPL_I2 KOX_I2
    have f5 := (show 0 ≤ I2 0 188 ∧ I2 0 188 ≤ 2000 from (hI2 0 188).1)
    refine gv_run 1 true hD (pc' := 17) (lv' := []) (st' := [.inl 0]) (h' := gr_h I2 J3) (C := (True ∧ True)) rfl ⟨trivial, trivial⟩ ?_
    exact gv_iret hD rfl ⟨I2, J3, rfl, hI2, FI2, FJ3, KGR_I2, KFV_I2, KPL_I2, KOX_I2, ⟨_, rfl, by omega⟩⟩
  have L59 : ∀ (I6 : gr_I) (J7 : gr_J) , gr_Inv I6 → gr_fr [0, 70, 126, 127, 128, 188] [51, 58, 76, 77, 78, 79, 100, 101, 113, 116, 117, 118, 119, 120, 121, 122, 123] I I6 → gr_fj [0, 70, 126, 127, 128, 188] [51, 58, 76, 77, 78, 79, 100, 101, 113, 116, 117, 118, 119, 120, 121, 122, 123] J J7 → gr_GR I6 → gr_FV I6 → gr_PL I6 → gr_OX I6 → gv_X (gr_E ws0 tb 70 (yX13_say, cX13_say, 6, (some .int)) kX13_say) (gv_Q cX13_say (some .int) (gr_sh ++ ext) (fun r h' => (∃ (I' : gr_I) (J' : gr_J), h' = gr_h I' J' ∧ gr_Inv I' ∧ gr_fr [0, 70, 126, 127, 128, 188] [51, 58, 76, 77, 78, 79, 100, 101, 113, 116, 117, 118, 119, 120, 121, 122, 123] I I' ∧ gr_fj [0, 70, 126, 127, 128, 188] [51, 58, 76, 77, 78, 79, 100, 101, 113, 116, 117, 118, 119, 120, 121, 122, 123] J J' ∧ gr_GR I' ∧ gr_FV I' ∧ gr_PL I' ∧ gr_OX I' ∧ (∃ z : Int, r = some (.inl z) ∧ (-1) ≤ z ∧ z ≤ 1000)))) (59, [], [], gr_sh ++ ext, gr_h I6 J7) := by
    intro I6 J7 hI6 FI6 FJ7 KGR_I6 KFV_I6 KPL_I6 KOX_I6
    have f9 := (show 0 ≤ I6 0 188 ∧ I6 0 188 ≤ 2000 from (hI6 0 188).1)
    refine gv_run 1 true hD (pc' := 60) (lv' := []) (st' := [.inl (-1)]) (h' := gr_h I6 J7) (C := (True ∧ True)) rfl ⟨trivial, trivial⟩ ?_
    exact gv_iret hD rfl ⟨I6, J7, rfl, hI6, FI6, FJ7, KGR_I6, KFV_I6, KPL_I6, KOX_I6, ⟨_, rfl, by omega⟩⟩
  have L72 : ∀ (n : Nat) (I10 : gr_I) (J11 : gr_J) (v4_12 : Int) (v5_12 : Int), (201 - v5_12).toNat < n → gr_Inv I10 → gr_fr [0, 70, 126, 127, 128, 188] [51, 58, 76, 77, 78, 79, 100, 101, 113, 116, 117, 118, 119, 120, 121, 122, 123] I I10 → gr_fj [0, 70, 126, 127, 128, 188] [51, 58, 76, 77, 78, 79, 100, 101, 113, 116, 117, 118, 119, 120, 121, 122, 123] J J11 → gr_GR I10 → gr_FV I10 → gr_PL I10 → gr_OX I10 → ((0 ≤ v4_12 ∧ v4_12 ≤ 1439) ∧ (0 ≤ v5_12 ∧ v5_12 ≤ 200)) → gv_X (gr_E ws0 tb 70 (yX13_say, cX13_say, 6, (some .int)) kX13_say) (gv_Q cX13_say (some .int) (gr_sh ++ ext) (fun r h' => (∃ (I' : gr_I) (J' : gr_J), h' = gr_h I' J' ∧ gr_Inv I' ∧ gr_fr [0, 70, 126, 127, 128, 188] [51, 58, 76, 77, 78, 79, 100, 101, 113, 116, 117, 118, 119, 120, 121, 122, 123] I I' ∧ gr_fj [0, 70, 126, 127, 128, 188] [51, 58, 76, 77, 78, 79, 100, 101, 113, 116, 117, 118, 119, 120, 121, 122, 123] J J' ∧ gr_GR I' ∧ gr_FV I' ∧ gr_PL I' ∧ gr_OX I' ∧ (∃ z : Int, r = some (.inl z) ∧ (-1) ≤ z ∧ z ≤ 1000)))) (72, [(0, .inr (.inr (some 0))), (4, .inl v4_12), (5, .inl v5_12)], [], gr_sh ++ ext, gr_h I10 J11) := by
    intro n
    induction n with
    | zero => intro I10 J11 v4_12 v5_12 hn; omega
    | succ n ih72 =>
      intro I10 J11 v4_12 v5_12 hn hI10 FI10 FJ11 KGR_I10 KFV_I10 KPL_I10 KOX_I10 m_12
      obtain ⟨hv4_12, hv5_12⟩ := m_12
      have f13 := (show 0 ≤ I10 0 188 ∧ I10 0 188 ≤ 2000 from (hI10 0 188).1)
      have f14 := (show 0 ≤ I10 117 (Int.toNat v4_12) ∧ I10 117 (Int.toNat v4_12) ≤ 200 from (hI10 117 (Int.toNat v4_12)).1)
      refine gv_run 5 true hD (pc' := 81) (lv' := [(0, .inr (.inr (some 0))), (4, .inl v4_12), (5, .inl v5_12)]) (st' := [.inl (I10 117 (Int.toNat v4_12)), .inl v5_12]) (h' := gr_h I10 J11) (C := (((((True ∧ True) ∧ True) ∧ True) ∧ True) ∧ (0 ≤ v4_12 ∧ v4_12 < ((1440 : Nat) : Int)))) rfl ⟨⟨⟨⟨⟨trivial, trivial⟩, trivial⟩, trivial⟩, trivial⟩, ⟨by omega, by omega⟩⟩ ?_
      refine gv_icmp_ge (t := 108) hD rfl rfl ⟨⟨by omega, by omega⟩, ⟨by omega, by omega⟩⟩ (fun c15 => ?_) (fun c15 => ?_)
      · have f16 := (show 0 ≤ I10 0 70 ∧ I10 0 70 ≤ 1000 from (hI10 0 70).1)
        refine gv_run 2 true hD (pc' := 112) (lv' := [(0, .inr (.inr (some 0))), (4, .inl v4_12), (5, .inl v5_12)]) (st' := [.inl (I10 0 70)]) (h' := gr_h I10 J11) (C := ((True ∧ True) ∧ True)) rfl ⟨⟨trivial, trivial⟩, trivial⟩ ?_
        exact gv_iret hD rfl ⟨I10, J11, rfl, hI10, FI10, FJ11, KGR_I10, KFV_I10, KPL_I10, KOX_I10, ⟨_, rfl, by omega⟩⟩
      · refine gv_run 7 true hD (pc' := 97) (lv' := [(0, .inr (.inr (some 0))), (4, .inl v4_12), (5, .inl v5_12)]) (st' := [.inl v5_12, .inl (200 * v4_12), .inr (.inr (some 116)), .inr (.inr (some 0))]) (h' := gr_h I10 J11) (C := (((((((True ∧ True) ∧ True) ∧ True) ∧ True) ∧ True) ∧ True) ∧ True)) rfl ⟨⟨⟨⟨⟨⟨⟨trivial, trivial⟩, trivial⟩, trivial⟩, trivial⟩, trivial⟩, trivial⟩, trivial⟩ ?_
        have f17 := (show (-128) ≤ I10 116 (Int.toNat (((200 * v4_12) + v5_12))) ∧ I10 116 (Int.toNat (((200 * v4_12) + v5_12))) ≤ 127 from (hI10 116 (Int.toNat (((200 * v4_12) + v5_12)))).1)
        refine gv_run 2 true hD (pc' := 99) (lv' := [(0, .inr (.inr (some 0))), (4, .inl v4_12), (5, .inl v5_12)]) (st' := [.inl (I10 116 (Int.toNat (((200 * v4_12) + v5_12)))), .inr (.inr (some 0))]) (h' := gr_h I10 J11) (C := ((True ∧ True) ∧ (0 ≤ (((200 * v4_12) + v5_12)) ∧ (((200 * v4_12) + v5_12)) < ((288000 : Nat) : Int)))) rfl ⟨⟨trivial, trivial⟩, ⟨by omega, by omega⟩⟩ ?_
        obtain ⟨r18, h18, E18, P18⟩ := r_outs (ws0 := ws0) (tb := tb) hws htb ext I10 J11 hI10 ((I10 116 (Int.toNat (((200 * v4_12) + v5_12))))) ⟨by omega, by omega⟩ 
        obtain ⟨I19, J20, rfl, hI19, g18, k18, rfl⟩ := P18
        have FI19 := gr_frt FI10 g18 rfl rfl
        have FJ20 := gr_fjt FJ11 k18 rfl rfl
        have t21 := g18 0 188 rfl
        have f22 := (show 0 ≤ I19 0 188 ∧ I19 0 188 ≤ 2000 from (hI19 0 188).1)
        have KGR_I19 := gr_GR_fr KGR_I10 (fun k => g18 19 k rfl) (fun k => g18 18 k rfl) (fun k => g18 36 k rfl) (fun k => g18 41 k rfl) (fun k => g18 42 k rfl) (fun k => g18 43 k rfl) (fun k => g18 45 k rfl) (fun k => g18 46 k rfl) (fun k => g18 47 k rfl) (fun k => g18 6 k rfl) (fun k => g18 7 k rfl) (fun k => g18 8 k rfl) (g18 0 3 rfl)
        have KFV_I19 := gr_FV_fr KFV_I10 (fun k => g18 87 k rfl) (fun k => g18 88 k rfl) (fun k => g18 104 k rfl) (fun k => g18 90 k rfl) (fun k => g18 91 k rfl) (fun k => g18 92 k rfl) (fun k => g18 94 k rfl) (fun k => g18 95 k rfl) (fun k => g18 97 k rfl) (fun k => g18 98 k rfl) (fun k => g18 19 k rfl) (fun k => g18 18 k rfl) (fun k => g18 41 k rfl) (fun k => g18 6 k rfl) (fun k => g18 99 k rfl) (fun k => g18 105 k rfl) (fun k => g18 107 k rfl) (fun k => g18 108 k rfl) (fun k => g18 110 k rfl) (fun k => g18 111 k rfl) (g18 0 157 rfl) (g18 0 158 rfl) (g18 0 177 rfl) (g18 0 186 rfl) (g18 0 159 rfl) hI10
        have KPL_I19 := gr_PL_fr KPL_I10 (fun k => g18 114 k rfl) (fun k => g18 115 k rfl) (fun k => g18 6 k rfl) (g18 0 3 rfl)
        have KOX_I19 := gr_OX_fr KOX_I10 (fun k => g18 121 k rfl) (fun k => g18 120 k rfl)
        refine gv_callV hD rfl (As := [.inl (I10 116 (Int.toNat (((200 * v4_12) + v5_12))))]) (st := []) rfl (by decide) rfl rfl (gr_lV hws rfl) (Nat.le_of_ble_eq_true rfl) (gz_Ev_mono (d := 1) (by decide) E18) ?_
        show gv_X _ _ (102, [(0, .inr (.inr (some 0))), (4, .inl v4_12), (5, .inl v5_12)], [], gr_sh ++ ext, gr_h I19 J20)
        refine gv_run 2 true hD (pc' := 72) (lv' := [(5, .inl (v5_12 + 1)), (0, .inr (.inr (some 0))), (4, .inl v4_12)]) (st' := []) (h' := gr_h I19 J20) (C := ((True ∧ True) ∧ True)) rfl ⟨⟨trivial, trivial⟩, trivial⟩ ?_
        refine gv_pick [1, 2, 0] rfl ?_
        exact ih72 I19 J20 v4_12 (v5_12 + 1) (by omega) hI19 FI19 FJ20 KGR_I19 KFV_I19 KPL_I19 KOX_I19 (by omega)
  refine gv_run 2 true hD (pc' := 2) (lv' := [(0, .inr (.inr (some 0))), (1, .inl a1), (2, .inl a2), (3, .inl a3)]) (st' := [.inl a1, .inr (.inr (some 0))]) (h' := gr_h I J) (C := ((True ∧ True) ∧ True)) rfl ⟨⟨trivial, trivial⟩, trivial⟩ ?_
  obtain ⟨r23, h23, E23, P23⟩ := r_noTongue (ws0 := ws0) (tb := tb) hws htb ext I J hI a1 ⟨by omega, by omega⟩ 
  obtain ⟨I24, J25, rfl, hI24, g23, k23, ⟨z23, rfl, q23⟩⟩ := P23
  have FI24 := gr_frt FI g23 rfl rfl
  have FJ25 := gr_fjt FJ k23 rfl rfl
  have t26 := g23 0 188 rfl
  have f27 := (show 0 ≤ I24 0 188 ∧ I24 0 188 ≤ 2000 from (hI24 0 188).1)
  have KGR_I24 := gr_GR_fr KGR_I (fun k => g23 19 k rfl) (fun k => g23 18 k rfl) (fun k => g23 36 k rfl) (fun k => g23 41 k rfl) (fun k => g23 42 k rfl) (fun k => g23 43 k rfl) (fun k => g23 45 k rfl) (fun k => g23 46 k rfl) (fun k => g23 47 k rfl) (fun k => g23 6 k rfl) (fun k => g23 7 k rfl) (fun k => g23 8 k rfl) (g23 0 3 rfl)
  have KFV_I24 := gr_FV_fr KFV_I (fun k => g23 87 k rfl) (fun k => g23 88 k rfl) (fun k => g23 104 k rfl) (fun k => g23 90 k rfl) (fun k => g23 91 k rfl) (fun k => g23 92 k rfl) (fun k => g23 94 k rfl) (fun k => g23 95 k rfl) (fun k => g23 97 k rfl) (fun k => g23 98 k rfl) (fun k => g23 19 k rfl) (fun k => g23 18 k rfl) (fun k => g23 41 k rfl) (fun k => g23 6 k rfl) (fun k => g23 99 k rfl) (fun k => g23 105 k rfl) (fun k => g23 107 k rfl) (fun k => g23 108 k rfl) (fun k => g23 110 k rfl) (fun k => g23 111 k rfl) (g23 0 157 rfl) (g23 0 158 rfl) (g23 0 177 rfl) (g23 0 186 rfl) (g23 0 159 rfl) hI
  have KPL_I24 := gr_PL_fr KPL_I (fun k => g23 114 k rfl) (fun k => g23 115 k rfl) (fun k => g23 6 k rfl) (g23 0 3 rfl)
  have KOX_I24 := gr_OX_fr KOX_I (fun k => g23 121 k rfl) (fun k => g23 120 k rfl)
  refine gv_callV hD rfl (As := [.inl a1]) (st := []) rfl (by decide) rfl rfl (gr_lV hws rfl) (Nat.le_of_ble_eq_true rfl) (gz_Ev_mono (d := 1) (by decide) E23) ?_
  show gv_X _ _ (5, [(0, .inr (.inr (some 0))), (1, .inl a1), (2, .inl a2), (3, .inl a3)], [.inl z23], gr_sh ++ ext, gr_h I24 J25)
  refine gv_if_ne (t := 16) hD rfl rfl ⟨by omega, by omega⟩ (fun c28 => ?_) (fun c28 => ?_)
  · refine gv_pick [] rfl ?_
    exact L16 I24 J25 hI24 FI24 FJ25 KGR_I24 KFV_I24 KPL_I24 KOX_I24
  · refine gv_run 2 true hD (pc' := 10) (lv' := [(0, .inr (.inr (some 0))), (1, .inl a1), (2, .inl a2), (3, .inl a3)]) (st' := [.inl a2, .inr (.inr (some 0))]) (h' := gr_h I24 J25) (C := ((True ∧ True) ∧ True)) rfl ⟨⟨trivial, trivial⟩, trivial⟩ ?_
    obtain ⟨r29, h29, E29, P29⟩ := r_noPlace (ws0 := ws0) (tb := tb) hws htb ext I24 J25 hI24 a2 ⟨by omega, by omega⟩ 
    obtain ⟨I30, J31, rfl, hI30, g29, k29, ⟨z29, rfl, q29⟩⟩ := P29
    have FI30 := gr_frt FI24 g29 rfl rfl
    have FJ31 := gr_fjt FJ25 k29 rfl rfl
    have t32 := g29 0 188 rfl
    have f33 := (show 0 ≤ I30 0 188 ∧ I30 0 188 ≤ 2000 from (hI30 0 188).1)
    have KGR_I30 := gr_GR_fr KGR_I24 (fun k => g29 19 k rfl) (fun k => g29 18 k rfl) (fun k => g29 36 k rfl) (fun k => g29 41 k rfl) (fun k => g29 42 k rfl) (fun k => g29 43 k rfl) (fun k => g29 45 k rfl) (fun k => g29 46 k rfl) (fun k => g29 47 k rfl) (fun k => g29 6 k rfl) (fun k => g29 7 k rfl) (fun k => g29 8 k rfl) (g29 0 3 rfl)
    have KFV_I30 := gr_FV_fr KFV_I24 (fun k => g29 87 k rfl) (fun k => g29 88 k rfl) (fun k => g29 104 k rfl) (fun k => g29 90 k rfl) (fun k => g29 91 k rfl) (fun k => g29 92 k rfl) (fun k => g29 94 k rfl) (fun k => g29 95 k rfl) (fun k => g29 97 k rfl) (fun k => g29 98 k rfl) (fun k => g29 19 k rfl) (fun k => g29 18 k rfl) (fun k => g29 41 k rfl) (fun k => g29 6 k rfl) (fun k => g29 99 k rfl) (fun k => g29 105 k rfl) (fun k => g29 107 k rfl) (fun k => g29 108 k rfl) (fun k => g29 110 k rfl) (fun k => g29 111 k rfl) (g29 0 157 rfl) (g29 0 158 rfl) (g29 0 177 rfl) (g29 0 186 rfl) (g29 0 159 rfl) hI24
    have KPL_I30 := gr_PL_fr KPL_I24 (fun k => g29 114 k rfl) (fun k => g29 115 k rfl) (fun k => g29 6 k rfl) (g29 0 3 rfl)
    have KOX_I30 := gr_OX_fr KOX_I24 (fun k => g29 121 k rfl) (fun k => g29 120 k rfl)
    refine gv_callV hD rfl (As := [.inl a2]) (st := []) rfl (by decide) rfl rfl (gr_lV hws rfl) (Nat.le_of_ble_eq_true rfl) (gz_Ev_mono (d := 1) (by decide) E29) ?_
    show gv_X _ _ (13, [(0, .inr (.inr (some 0))), (1, .inl a1), (2, .inl a2), (3, .inl a3)], [.inl z29], gr_sh ++ ext, gr_h I30 J31)
    refine gv_if_eq (t := 18) hD rfl rfl ⟨by omega, by omega⟩ (fun c34 => ?_) (fun c34 => ?_)
    · refine gv_run 3 true hD (pc' := 23) (lv' := [(0, .inr (.inr (some 0))), (1, .inl a1), (2, .inl a2), (3, .inl a3)]) (st' := []) (h' := gz_up (gr_h I30 J31) 0 70 (.inl 0)) (C := (((True ∧ True) ∧ True) ∧ True)) rfl ⟨⟨⟨trivial, trivial⟩, trivial⟩, trivial⟩ ?_
      refine gr_st hI30 FI30 rfl rfl ⟨⟨by show 0 ≤ _; omega, by show _ ≤ 1000; omega⟩, trivial⟩ (fun I35 hI35 FI35 q36 p36 => ?_)
      have t37 := p36 0 188 (by decide)
      have f38 := (show 0 ≤ I35 0 188 ∧ I35 0 188 ≤ 2000 from (hI35 0 188).1)
      have KGR_I35 := gr_GR_fr KGR_I30 (fun k => p36 19 k (fun q => absurd q.1 (by decide))) (fun k => p36 18 k (fun q => absurd q.1 (by decide))) (fun k => p36 36 k (fun q => absurd q.1 (by decide))) (fun k => p36 41 k (fun q => absurd q.1 (by decide))) (fun k => p36 42 k (fun q => absurd q.1 (by decide))) (fun k => p36 43 k (fun q => absurd q.1 (by decide))) (fun k => p36 45 k (fun q => absurd q.1 (by decide))) (fun k => p36 46 k (fun q => absurd q.1 (by decide))) (fun k => p36 47 k (fun q => absurd q.1 (by decide))) (fun k => p36 6 k (fun q => absurd q.1 (by decide))) (fun k => p36 7 k (fun q => absurd q.1 (by decide))) (fun k => p36 8 k (fun q => absurd q.1 (by decide))) (p36 0 3 (by decide))
      have KFV_I35 := gr_FV_fr KFV_I30 (fun k => p36 87 k (fun q => absurd q.1 (by decide))) (fun k => p36 88 k (fun q => absurd q.1 (by decide))) (fun k => p36 104 k (fun q => absurd q.1 (by decide))) (fun k => p36 90 k (fun q => absurd q.1 (by decide))) (fun k => p36 91 k (fun q => absurd q.1 (by decide))) (fun k => p36 92 k (fun q => absurd q.1 (by decide))) (fun k => p36 94 k (fun q => absurd q.1 (by decide))) (fun k => p36 95 k (fun q => absurd q.1 (by decide))) (fun k => p36 97 k (fun q => absurd q.1 (by decide))) (fun k => p36 98 k (fun q => absurd q.1 (by decide))) (fun k => p36 19 k (fun q => absurd q.1 (by decide))) (fun k => p36 18 k (fun q => absurd q.1 (by decide))) (fun k => p36 41 k (fun q => absurd q.1 (by decide))) (fun k => p36 6 k (fun q => absurd q.1 (by decide))) (fun k => p36 99 k (fun q => absurd q.1 (by decide))) (fun k => p36 105 k (fun q => absurd q.1 (by decide))) (fun k => p36 107 k (fun q => absurd q.1 (by decide))) (fun k => p36 108 k (fun q => absurd q.1 (by decide))) (fun k => p36 110 k (fun q => absurd q.1 (by decide))) (fun k => p36 111 k (fun q => absurd q.1 (by decide))) (p36 0 157 (by decide)) (p36 0 158 (by decide)) (p36 0 177 (by decide)) (p36 0 186 (by decide)) (p36 0 159 (by decide)) hI30
      have KPL_I35 := gr_PL_fr KPL_I30 (fun k => p36 114 k (fun q => absurd q.1 (by decide))) (fun k => p36 115 k (fun q => absurd q.1 (by decide))) (fun k => p36 6 k (fun q => absurd q.1 (by decide))) (p36 0 3 (by decide))
      have KOX_I35 := gr_OX_fr KOX_I30 (fun k => p36 121 k (fun q => absurd q.1 (by decide))) (fun k => p36 120 k (fun q => absurd q.1 (by decide)))
      refine gv_run 2 true hD (pc' := 25) (lv' := [(0, .inr (.inr (some 0))), (1, .inl a1), (2, .inl a2), (3, .inl a3)]) (st' := [.inl a2, .inr (.inr (some 0))]) (h' := gr_h I35 J31) (C := ((True ∧ True) ∧ True)) rfl ⟨⟨trivial, trivial⟩, trivial⟩ ?_
      obtain ⟨r39, h39, E39, P39⟩ := r_takes_w (ws0 := ws0) (tb := tb) hws htb ext I35 J31 hI35 a2 ⟨by omega, by omega⟩ 
      obtain ⟨I40, J41, rfl, hI40, g39, k39, ⟨z39, rfl, q39⟩⟩ := P39
      have FI40 := gr_frt FI35 g39 rfl rfl
      have FJ41 := gr_fjt FJ31 k39 rfl rfl
      have f42 := (show 0 ≤ I40 0 188 ∧ I40 0 188 ≤ 2000 from (hI40 0 188).1)
      have KGR_I40 := gr_GR_fr KGR_I35 (fun k => g39 19 k rfl) (fun k => g39 18 k rfl) (fun k => g39 36 k rfl) (fun k => g39 41 k rfl) (fun k => g39 42 k rfl) (fun k => g39 43 k rfl) (fun k => g39 45 k rfl) (fun k => g39 46 k rfl) (fun k => g39 47 k rfl) (fun k => g39 6 k rfl) (fun k => g39 7 k rfl) (fun k => g39 8 k rfl) (g39 0 3 rfl)
      have KFV_I40 := gr_FV_fr KFV_I35 (fun k => g39 87 k rfl) (fun k => g39 88 k rfl) (fun k => g39 104 k rfl) (fun k => g39 90 k rfl) (fun k => g39 91 k rfl) (fun k => g39 92 k rfl) (fun k => g39 94 k rfl) (fun k => g39 95 k rfl) (fun k => g39 97 k rfl) (fun k => g39 98 k rfl) (fun k => g39 19 k rfl) (fun k => g39 18 k rfl) (fun k => g39 41 k rfl) (fun k => g39 6 k rfl) (fun k => g39 99 k rfl) (fun k => g39 105 k rfl) (fun k => g39 107 k rfl) (fun k => g39 108 k rfl) (fun k => g39 110 k rfl) (fun k => g39 111 k rfl) (g39 0 157 rfl) (g39 0 158 rfl) (g39 0 177 rfl) (g39 0 186 rfl) (g39 0 159 rfl) hI35
      have KPL_I40 := gr_PL_fr KPL_I35 (fun k => g39 114 k rfl) (fun k => g39 115 k rfl) (fun k => g39 6 k rfl) (g39 0 3 rfl)
      have KOX_I40 := gr_OX_fr KOX_I35 (fun k => g39 121 k rfl) (fun k => g39 120 k rfl)
      refine gv_callV hD rfl (As := [.inl a2]) (st := []) rfl (by decide) rfl rfl (gr_lV hws rfl) (Nat.le_of_ble_eq_true rfl) (gz_Ev_mono (d := 1) (by decide) E39) ?_
      show gv_X _ _ (28, [(0, .inr (.inr (some 0))), (1, .inl a1), (2, .inl a2), (3, .inl a3)], [.inl z39], gr_sh ++ ext, gr_h I40 J41)
      refine gv_if_ne (t := 33) hD rfl rfl ⟨by omega, by omega⟩ (fun c43 => ?_) (fun c43 => ?_)
      · refine gv_run 2 true hD (pc' := 35) (lv' := [(0, .inr (.inr (some 0))), (1, .inl a1), (2, .inl a2), (3, .inl a3)]) (st' := [.inl a1, .inr (.inr (some 0))]) (h' := gr_h I40 J41) (C := ((True ∧ True) ∧ True)) rfl ⟨⟨trivial, trivial⟩, trivial⟩ ?_
        obtain ⟨r44, h44, E44, P44⟩ := r_forms_w (ws0 := ws0) (tb := tb) hws htb ext I40 J41 hI40 a1 ⟨by omega, by omega⟩ 
        obtain ⟨I45, J46, rfl, hI45, g44, k44, rfl⟩ := P44
        have FI45 := gr_frt FI40 g44 rfl rfl
        have FJ46 := gr_fjt FJ41 k44 rfl rfl
        have t47 := g44 0 188 rfl
        have f48 := (show 0 ≤ I45 0 188 ∧ I45 0 188 ≤ 2000 from (hI45 0 188).1)
        have KGR_I45 := gr_GR_fr KGR_I40 (fun k => g44 19 k rfl) (fun k => g44 18 k rfl) (fun k => g44 36 k rfl) (fun k => g44 41 k rfl) (fun k => g44 42 k rfl) (fun k => g44 43 k rfl) (fun k => g44 45 k rfl) (fun k => g44 46 k rfl) (fun k => g44 47 k rfl) (fun k => g44 6 k rfl) (fun k => g44 7 k rfl) (fun k => g44 8 k rfl) (g44 0 3 rfl)
        have KFV_I45 := gr_FV_fr KFV_I40 (fun k => g44 87 k rfl) (fun k => g44 88 k rfl) (fun k => g44 104 k rfl) (fun k => g44 90 k rfl) (fun k => g44 91 k rfl) (fun k => g44 92 k rfl) (fun k => g44 94 k rfl) (fun k => g44 95 k rfl) (fun k => g44 97 k rfl) (fun k => g44 98 k rfl) (fun k => g44 19 k rfl) (fun k => g44 18 k rfl) (fun k => g44 41 k rfl) (fun k => g44 6 k rfl) (fun k => g44 99 k rfl) (fun k => g44 105 k rfl) (fun k => g44 107 k rfl) (fun k => g44 108 k rfl) (fun k => g44 110 k rfl) (fun k => g44 111 k rfl) (g44 0 157 rfl) (g44 0 158 rfl) (g44 0 177 rfl) (g44 0 186 rfl) (g44 0 159 rfl) hI40
        have KPL_I45 := gr_PL_fr KPL_I40 (fun k => g44 114 k rfl) (fun k => g44 115 k rfl) (fun k => g44 6 k rfl) (g44 0 3 rfl)
        have KOX_I45 := gr_OX_fr KOX_I40 (fun k => g44 121 k rfl) (fun k => g44 120 k rfl)
        refine gv_callV hD rfl (As := [.inl a1]) (st := []) rfl (by decide) rfl rfl (gr_lV hws rfl) (Nat.le_of_ble_eq_true rfl) (gz_Ev_mono (d := 6) (by decide) E44) ?_
        show gv_X _ _ (38, [(0, .inr (.inr (some 0))), (1, .inl a1), (2, .inl a2), (3, .inl a3)], [], gr_sh ++ ext, gr_h I45 J46)
        refine gv_run 3 true hD (pc' := 41) (lv' := [(0, .inr (.inr (some 0))), (1, .inl a1), (2, .inl a2), (3, .inl a3)]) (st' := [.inl 0, .inl a1, .inr (.inr (some 0))]) (h' := gr_h I45 J46) (C := (((True ∧ True) ∧ True) ∧ True)) rfl ⟨⟨⟨trivial, trivial⟩, trivial⟩, trivial⟩ ?_
        have t49 := (gr_PX_tk KPL_I35 (p := a2) (n := z39) ⟨by omega, by omega⟩ (by omega) (by omega) q39.2.2.2.2 (fun k => g39 6 k rfl) (g39 0 3 rfl)).2
        obtain ⟨r50, h50, E50, P50⟩ := r_options_x (ws0 := ws0) (tb := tb) hws htb ext z39 61 I45 J46 hI45 a1 0 ⟨by omega, by omega⟩ ⟨by omega, by omega⟩ (gr_PX_fr (gr_PX_tk KPL_I35 (p := a2) (n := z39) ⟨by omega, by omega⟩ (by omega) (by omega) q39.2.2.2.2 (fun k => g39 6 k rfl) (g39 0 3 rfl)).1 (fun k => g44 6 k rfl) (fun k => g44 113 k rfl)) (by omega) KGR_I45 KOX_I45 (by omega)
        obtain ⟨I51, J52, rfl, hI51, g50, k50, ⟨z50, rfl, q50⟩⟩ := P50
        have FI51 := gr_frt FI45 g50 rfl rfl
        have FJ52 := gr_fjt FJ46 k50 rfl rfl
        have t53 := g50 0 188 rfl
        have f54 := (show 0 ≤ I51 0 188 ∧ I51 0 188 ≤ 2000 from (hI51 0 188).1)
        have KGR_I51 := gr_GR_fr KGR_I45 (fun k => g50 19 k rfl) (fun k => g50 18 k rfl) (fun k => g50 36 k rfl) (fun k => g50 41 k rfl) (fun k => g50 42 k rfl) (fun k => g50 43 k rfl) (fun k => g50 45 k rfl) (fun k => g50 46 k rfl) (fun k => g50 47 k rfl) (fun k => g50 6 k rfl) (fun k => g50 7 k rfl) (fun k => g50 8 k rfl) (g50 0 3 rfl)
        have KFV_I51 := gr_FV_fr KFV_I45 (fun k => g50 87 k rfl) (fun k => g50 88 k rfl) (fun k => g50 104 k rfl) (fun k => g50 90 k rfl) (fun k => g50 91 k rfl) (fun k => g50 92 k rfl) (fun k => g50 94 k rfl) (fun k => g50 95 k rfl) (fun k => g50 97 k rfl) (fun k => g50 98 k rfl) (fun k => g50 19 k rfl) (fun k => g50 18 k rfl) (fun k => g50 41 k rfl) (fun k => g50 6 k rfl) (fun k => g50 99 k rfl) (fun k => g50 105 k rfl) (fun k => g50 107 k rfl) (fun k => g50 108 k rfl) (fun k => g50 110 k rfl) (fun k => g50 111 k rfl) (g50 0 157 rfl) (g50 0 158 rfl) (g50 0 177 rfl) (g50 0 186 rfl) (g50 0 159 rfl) hI45
        have KPL_I51 := gr_PL_fr KPL_I45 (fun k => g50 114 k rfl) (fun k => g50 115 k rfl) (fun k => g50 6 k rfl) (g50 0 3 rfl)
        have KOX_I51 : gr_OX I51 := q50.2.2.2.2.1
        refine gv_callV hD rfl (As := [.inl a1, .inl 0]) (st := []) rfl (by decide) rfl rfl (gr_lV hws rfl) (Nat.le_of_ble_eq_true rfl) (gz_Ev_mono (d := 70) (by decide) E50) ?_
        show gv_X _ _ (44, [(0, .inr (.inr (some 0))), (1, .inl a1), (2, .inl a2), (3, .inl a3)], [.inl z50], gr_sh ++ ext, gr_h I51 J52)
        refine gv_run 2 true hD (pc' := 46) (lv' := [(0, .inr (.inr (some 0))), (1, .inl a1), (2, .inl a2), (3, .inl a3)]) (st' := [.inl a3]) (h' := gr_h I51 J52) (C := ((True ∧ True) ∧ True)) rfl ⟨⟨trivial, trivial⟩, trivial⟩ ?_
        refine gv_if_lt (t := 59) hD rfl rfl ⟨by omega, by omega⟩ (fun c55 => ?_) (fun c55 => ?_)
        · refine gv_pick [] rfl ?_
          exact L59 I51 J52 hI51 FI51 FJ52 KGR_I51 KFV_I51 KPL_I51 KOX_I51
        · have f56 := (show 0 ≤ I51 121 (Int.toNat 0) ∧ I51 121 (Int.toNat 0) ≤ 24 from (hI51 121 (Int.toNat 0)).1)
          refine gv_run 5 true hD (pc' := 56) (lv' := [(0, .inr (.inr (some 0))), (1, .inl a1), (2, .inl a2), (3, .inl a3)]) (st' := [.inl (I51 121 (Int.toNat 0)), .inl a3]) (h' := gr_h I51 J52) (C := (((((True ∧ True) ∧ True) ∧ True) ∧ True) ∧ (0 ≤ 0 ∧ 0 < ((60 : Nat) : Int)))) rfl ⟨⟨⟨⟨⟨trivial, trivial⟩, trivial⟩, trivial⟩, trivial⟩, ⟨by omega, by omega⟩⟩ ?_
          refine gv_icmp_lt (t := 61) hD rfl rfl ⟨⟨by omega, by omega⟩, ⟨by omega, by omega⟩⟩ (fun c57 => ?_) (fun c57 => ?_)
          · have f58 := (show 0 ≤ I51 120 (Int.toNat a3) ∧ I51 120 (Int.toNat a3) ≤ 1439 from (hI51 120 (Int.toNat a3)).1)
            refine gv_run 4 true hD (pc' := 67) (lv' := [(0, .inr (.inr (some 0))), (1, .inl a1), (2, .inl a2), (3, .inl a3)]) (st' := [.inl (I51 120 (Int.toNat a3))]) (h' := gr_h I51 J52) (C := ((((True ∧ True) ∧ True) ∧ True) ∧ (0 ≤ a3 ∧ a3 < ((1440 : Nat) : Int)))) rfl ⟨⟨⟨⟨trivial, trivial⟩, trivial⟩, trivial⟩, ⟨by omega, by omega⟩⟩ ?_
            refine gv_run 3 true hD (pc' := 72) (lv' := [(5, .inl 0), (4, .inl (I51 120 (Int.toNat a3))), (0, .inr (.inr (some 0))), (1, .inl a1), (2, .inl a2), (3, .inl a3)]) (st' := []) (h' := gr_h I51 J52) (C := (((True ∧ True) ∧ True) ∧ True)) rfl ⟨⟨⟨trivial, trivial⟩, trivial⟩, trivial⟩ ?_
            refine gv_pick [2, 1, 0] rfl ?_
            exact L72 _ I51 J52 ((I51 120 (Int.toNat a3))) 0 (Nat.lt_succ_self _) hI51 FI51 FJ52 KGR_I51 KFV_I51 KPL_I51 KOX_I51 (by omega)
          · refine gv_pick [] rfl ?_
            exact L59 I51 J52 hI51 FI51 FJ52 KGR_I51 KFV_I51 KPL_I51 KOX_I51
      · refine gv_run 1 true hD (pc' := 32) (lv' := [(0, .inr (.inr (some 0))), (1, .inl a1), (2, .inl a2), (3, .inl a3)]) (st' := [.inl (-1)]) (h' := gr_h I40 J41) (C := (True ∧ True)) rfl ⟨trivial, trivial⟩ ?_
        exact gv_iret hD rfl ⟨I40, J41, rfl, hI40, FI40, FJ41, KGR_I40, KFV_I40, KPL_I40, KOX_I40, ⟨_, rfl, by omega⟩⟩
    · refine gv_pick [] rfl ?_
      exact L16 I30 J31 hI30 FI30 FJ31 KGR_I30 KFV_I30 KPL_I30 KOX_I30
set_option maxHeartbeats 4000000 in
set_option maxRecDepth 100000 in
theorem r_swap {ws0 : List Cond} {tb : String → gz_T} (hws : ∀ w ∈ gr_ws, w ∈ ws0) (htb : tb RX13 = gr_T) (ext : gz_Sh) (I : gr_I) (J : gr_J) (hI : gr_Inv I) (a1 : Int) (a2 : Int) (a3 : Int) (ha1 : (-2147483648) ≤ a1 ∧ a1 ≤ 2147483647) (ha2 : (-2147483648) ≤ a2 ∧ a2 ≤ 2147483647) (ha3 : (-2147483648) ≤ a3 ∧ a3 ≤ 2147483647) (KGR_I : gr_GR I) (KFV_I : gr_FV I) (KPL_I : gr_PL I) (KOX_I : gr_OX I) : ∃ r h', gz_Ev ws0 tb 801 (yX13_swap, cX13_swap, 9, (some .int)) [.inr (.inr (some 0)), .inl a1, .inl a2, .inl a3] (gr_sh ++ ext) (gr_h I J) r (gr_sh ++ ext) h' 0 0 ∧ (∃ (I' : gr_I) (J' : gr_J), h' = gr_h I' J' ∧ gr_Inv I' ∧ gr_fr [0, 68, 69, 126, 127, 128, 143, 157, 158, 159, 160, 161, 166, 167, 168, 169, 170, 177, 179, 180, 181, 186, 188, 201] [51, 56, 57, 76, 77, 78, 79, 83, 85, 87, 88, 89, 90, 91, 92, 93, 94, 95, 96, 97, 98, 99, 100, 101, 103, 104, 105, 106, 107, 108, 109, 110, 111, 112, 113, 116, 117, 118, 119, 120, 121, 122, 123, 124, 125] I I' ∧ gr_fj [0, 68, 69, 126, 127, 128, 143, 157, 158, 159, 160, 161, 166, 167, 168, 169, 170, 177, 179, 180, 181, 186, 188, 201] [51, 56, 57, 76, 77, 78, 79, 83, 85, 87, 88, 89, 90, 91, 92, 93, 94, 95, 96, 97, 98, 99, 100, 101, 103, 104, 105, 106, 107, 108, 109, 110, 111, 112, 113, 116, 117, 118, 119, 120, 121, 122, 123, 124, 125] J J' ∧ gr_GR I' ∧ gr_FV I' ∧ gr_PL I' ∧ gr_OX I' ∧ (∃ z : Int, r = some (.inl z) ∧ (-3) ≤ z ∧ z ≤ 16)) := by
  have FI : gr_fr [0, 68, 69, 126, 127, 128, 143, 157, 158, 159, 160, 161, 166, 167, 168, 169, 170, 177, 179, 180, 181, 186, 188, 201] [51, 56, 57, 76, 77, 78, 79, 83, 85, 87, 88, 89, 90, 91, 92, 93, 94, 95, 96, 97, 98, 99, 100, 101, 103, 104, 105, 106, 107, 108, 109, 110, 111, 112, 113, 116, 117, 118, 119, 120, 121, 122, 123, 124, 125] I I := fun _ _ _ => rfl
  have FJ : gr_fj [0, 68, 69, 126, 127, 128, 143, 157, 158, 159, 160, 161, 166, 167, 168, 169, 170, 177, 179, 180, 181, 186, 188, 201] [51, 56, 57, 76, 77, 78, 79, 83, 85, 87, 88, 89, 90, 91, 92, 93, 94, 95, 96, 97, 98, 99, 100, 101, 103, 104, 105, 106, 107, 108, 109, 110, 111, 112, 113, 116, 117, 118, 119, 120, 121, 122, 123, 124, 125] J J := fun _ _ _ => rfl
  have hD : gv_D (gr_E ws0 tb 800 (yX13_swap, cX13_swap, 9, (some .int)) kX13_swap) := gq_ok oX13_swap
  refine gr_ev (d := 800) (l := kX13_swap) (Po := fun r h' => (∃ (I' : gr_I) (J' : gr_J), h' = gr_h I' J' ∧ gr_Inv I' ∧ gr_fr [0, 68, 69, 126, 127, 128, 143, 157, 158, 159, 160, 161, 166, 167, 168, 169, 170, 177, 179, 180, 181, 186, 188, 201] [51, 56, 57, 76, 77, 78, 79, 83, 85, 87, 88, 89, 90, 91, 92, 93, 94, 95, 96, 97, 98, 99, 100, 101, 103, 104, 105, 106, 107, 108, 109, 110, 111, 112, 113, 116, 117, 118, 119, 120, 121, 122, 123, 124, 125] I I' ∧ gr_fj [0, 68, 69, 126, 127, 128, 143, 157, 158, 159, 160, 161, 166, 167, 168, 169, 170, 177, 179, 180, 181, 186, 188, 201] [51, 56, 57, 76, 77, 78, 79, 83, 85, 87, 88, 89, 90, 91, 92, 93, 94, 95, 96, 97, 98, 99, 100, 101, 103, 104, 105, 106, 107, 108, 109, 110, 111, 112, 113, 116, 117, 118, 119, 120, 121, 122, 123, 124, 125] J J' ∧ gr_GR I' ∧ gr_FV I' ∧ gr_PL I' ∧ gr_OX I' ∧ (∃ z : Int, r = some (.inl z) ∧ (-3) ≤ z ∧ z ≤ 16))) htb rfl (Nat.le_of_ble_eq_true rfl) ?_
  have f1 := (show 0 ≤ I 0 188 ∧ I 0 188 ≤ 2000 from (hI 0 188).1)
  have f2 := (show 0 ≤ I 0 186 ∧ I 0 186 ≤ 16 from (hI 0 186).1)
  have f3 := (show 0 ≤ I 0 201 ∧ I 0 201 ≤ 16 from (hI 0 201).1)
  have f4 := (show (-1) ≤ I 0 177 ∧ I 0 177 ≤ 2999 from (hI 0 177).1)
  have L24 : ∀ (I5 : gr_I) (J6 : gr_J) , gr_Inv I5 → gr_fr [0, 68, 69, 126, 127, 128, 143, 157, 158, 159, 160, 161, 166, 167, 168, 169, 170, 177, 179, 180, 181, 186, 188, 201] [51, 56, 57, 76, 77, 78, 79, 83, 85, 87, 88, 89, 90, 91, 92, 93, 94, 95, 96, 97, 98, 99, 100, 101, 103, 104, 105, 106, 107, 108, 109, 110, 111, 112, 113, 116, 117, 118, 119, 120, 121, 122, 123, 124, 125] I I5 → gr_fj [0, 68, 69, 126, 127, 128, 143, 157, 158, 159, 160, 161, 166, 167, 168, 169, 170, 177, 179, 180, 181, 186, 188, 201] [51, 56, 57, 76, 77, 78, 79, 83, 85, 87, 88, 89, 90, 91, 92, 93, 94, 95, 96, 97, 98, 99, 100, 101, 103, 104, 105, 106, 107, 108, 109, 110, 111, 112, 113, 116, 117, 118, 119, 120, 121, 122, 123, 124, 125] J J6 → gr_GR I5 → gr_FV I5 → gr_PL I5 → gr_OX I5 → gv_X (gr_E ws0 tb 800 (yX13_swap, cX13_swap, 9, (some .int)) kX13_swap) (gv_Q cX13_swap (some .int) (gr_sh ++ ext) (fun r h' => (∃ (I' : gr_I) (J' : gr_J), h' = gr_h I' J' ∧ gr_Inv I' ∧ gr_fr [0, 68, 69, 126, 127, 128, 143, 157, 158, 159, 160, 161, 166, 167, 168, 169, 170, 177, 179, 180, 181, 186, 188, 201] [51, 56, 57, 76, 77, 78, 79, 83, 85, 87, 88, 89, 90, 91, 92, 93, 94, 95, 96, 97, 98, 99, 100, 101, 103, 104, 105, 106, 107, 108, 109, 110, 111, 112, 113, 116, 117, 118, 119, 120, 121, 122, 123, 124, 125] I I' ∧ gr_fj [0, 68, 69, 126, 127, 128, 143, 157, 158, 159, 160, 161, 166, 167, 168, 169, 170, 177, 179, 180, 181, 186, 188, 201] [51, 56, 57, 76, 77, 78, 79, 83, 85, 87, 88, 89, 90, 91, 92, 93, 94, 95, 96, 97, 98, 99, 100, 101, 103, 104, 105, 106, 107, 108, 109, 110, 111, 112, 113, 116, 117, 118, 119, 120, 121, 122, 123, 124, 125] J J' ∧ gr_GR I' ∧ gr_FV I' ∧ gr_PL I' ∧ gr_OX I' ∧ (∃ z : Int, r = some (.inl z) ∧ (-3) ≤ z ∧ z ≤ 16)))) (24, [], [], gr_sh ++ ext, gr_h I5 J6) := by
    intro I5 J6 hI5 FI5 FJ6 KGR_I5 KFV_I5 KPL_I5 KOX_I5
    have f8 := (show 0 ≤ I5 0 188 ∧ I5 0 188 ≤ 2000 from (hI5 0 188).1)
    have f9 := (show 0 ≤ I5 0 186 ∧ I5 0 186 ≤ 16 from (hI5 0 186).1)
    have f10 := (show 0 ≤ I5 0 201 ∧ I5 0 201 ≤ 16 from (hI5 0 201).1)
    have f11 := (show (-1) ≤ I5 0 177 ∧ I5 0 177 ≤ 2999 from (hI5 0 177).1)
    refine gv_run 1 true hD (pc' := 25) (lv' := []) (st' := [.inl 0]) (h' := gr_h I5 J6) (C := (True ∧ True)) rfl ⟨trivial, trivial⟩ ?_
    exact gv_iret hD rfl ⟨I5, J6, rfl, hI5, FI5, FJ6, KGR_I5, KFV_I5, KPL_I5, KOX_I5, ⟨_, rfl, by omega⟩⟩
  have L69 : ∀ (n : Nat) (I12 : gr_I) (J13 : gr_J) (v4_14 : Int), (17 - v4_14).toNat < n → gr_Inv I12 → gr_fr [0, 68, 69, 126, 127, 128, 143, 157, 158, 159, 160, 161, 166, 167, 168, 169, 170, 177, 179, 180, 181, 186, 188, 201] [51, 56, 57, 76, 77, 78, 79, 83, 85, 87, 88, 89, 90, 91, 92, 93, 94, 95, 96, 97, 98, 99, 100, 101, 103, 104, 105, 106, 107, 108, 109, 110, 111, 112, 113, 116, 117, 118, 119, 120, 121, 122, 123, 124, 125] I I12 → gr_fj [0, 68, 69, 126, 127, 128, 143, 157, 158, 159, 160, 161, 166, 167, 168, 169, 170, 177, 179, 180, 181, 186, 188, 201] [51, 56, 57, 76, 77, 78, 79, 83, 85, 87, 88, 89, 90, 91, 92, 93, 94, 95, 96, 97, 98, 99, 100, 101, 103, 104, 105, 106, 107, 108, 109, 110, 111, 112, 113, 116, 117, 118, 119, 120, 121, 122, 123, 124, 125] J J13 → gr_GR I12 → gr_FV I12 → gr_PL I12 → gr_OX I12 → ((0 ≤ a3 ∧ a3 ≤ 7) ∧ (0 ≤ v4_14 ∧ v4_14 ≤ 16) ∧ (I12 0 201 ≤ v4_14)) → gv_X (gr_E ws0 tb 800 (yX13_swap, cX13_swap, 9, (some .int)) kX13_swap) (gv_Q cX13_swap (some .int) (gr_sh ++ ext) (fun r h' => (∃ (I' : gr_I) (J' : gr_J), h' = gr_h I' J' ∧ gr_Inv I' ∧ gr_fr [0, 68, 69, 126, 127, 128, 143, 157, 158, 159, 160, 161, 166, 167, 168, 169, 170, 177, 179, 180, 181, 186, 188, 201] [51, 56, 57, 76, 77, 78, 79, 83, 85, 87, 88, 89, 90, 91, 92, 93, 94, 95, 96, 97, 98, 99, 100, 101, 103, 104, 105, 106, 107, 108, 109, 110, 111, 112, 113, 116, 117, 118, 119, 120, 121, 122, 123, 124, 125] I I' ∧ gr_fj [0, 68, 69, 126, 127, 128, 143, 157, 158, 159, 160, 161, 166, 167, 168, 169, 170, 177, 179, 180, 181, 186, 188, 201] [51, 56, 57, 76, 77, 78, 79, 83, 85, 87, 88, 89, 90, 91, 92, 93, 94, 95, 96, 97, 98, 99, 100, 101, 103, 104, 105, 106, 107, 108, 109, 110, 111, 112, 113, 116, 117, 118, 119, 120, 121, 122, 123, 124, 125] J J' ∧ gr_GR I' ∧ gr_FV I' ∧ gr_PL I' ∧ gr_OX I' ∧ (∃ z : Int, r = some (.inl z) ∧ (-3) ≤ z ∧ z ≤ 16)))) (69, [(0, .inr (.inr (some 0))), (3, .inl a3), (4, .inl v4_14)], [], gr_sh ++ ext, gr_h I12 J13) := by
    intro n
    induction n with
    | zero => intro I12 J13 v4_14 hn; omega
    | succ n ih69 =>
      intro I12 J13 v4_14 hn hI12 FI12 FJ13 KGR_I12 KFV_I12 KPL_I12 KOX_I12 m_14
      obtain ⟨ha3_14, hv4_14, e0_14⟩ := m_14
      have f15 := (show 0 ≤ I12 0 188 ∧ I12 0 188 ≤ 2000 from (hI12 0 188).1)
      have f16 := (show 0 ≤ I12 0 186 ∧ I12 0 186 ≤ 16 from (hI12 0 186).1)
      have f17 := (show 0 ≤ I12 0 201 ∧ I12 0 201 ≤ 16 from (hI12 0 201).1)
      have f18 := (show (-1) ≤ I12 0 177 ∧ I12 0 177 ≤ 2999 from (hI12 0 177).1)
      have L339 : ∀ (I19 : gr_I) (J20 : gr_J) , gr_Inv I19 → gr_fr [0, 68, 69, 126, 127, 128, 143, 157, 158, 159, 160, 161, 166, 167, 168, 169, 170, 177, 179, 180, 181, 186, 188, 201] [51, 56, 57, 76, 77, 78, 79, 83, 85, 87, 88, 89, 90, 91, 92, 93, 94, 95, 96, 97, 98, 99, 100, 101, 103, 104, 105, 106, 107, 108, 109, 110, 111, 112, 113, 116, 117, 118, 119, 120, 121, 122, 123, 124, 125] I I19 → gr_fj [0, 68, 69, 126, 127, 128, 143, 157, 158, 159, 160, 161, 166, 167, 168, 169, 170, 177, 179, 180, 181, 186, 188, 201] [51, 56, 57, 76, 77, 78, 79, 83, 85, 87, 88, 89, 90, 91, 92, 93, 94, 95, 96, 97, 98, 99, 100, 101, 103, 104, 105, 106, 107, 108, 109, 110, 111, 112, 113, 116, 117, 118, 119, 120, 121, 122, 123, 124, 125] J J20 → gr_GR I19 → gr_FV I19 → gr_PL I19 → gr_OX I19 → ((0 ≤ a3 ∧ a3 ≤ 7) ∧ (0 ≤ v4_14 ∧ v4_14 ≤ 15) ∧ (I19 0 201 ≤ v4_14 + 1)) → gv_X (gr_E ws0 tb 800 (yX13_swap, cX13_swap, 9, (some .int)) kX13_swap) (gv_Q cX13_swap (some .int) (gr_sh ++ ext) (fun r h' => (∃ (I' : gr_I) (J' : gr_J), h' = gr_h I' J' ∧ gr_Inv I' ∧ gr_fr [0, 68, 69, 126, 127, 128, 143, 157, 158, 159, 160, 161, 166, 167, 168, 169, 170, 177, 179, 180, 181, 186, 188, 201] [51, 56, 57, 76, 77, 78, 79, 83, 85, 87, 88, 89, 90, 91, 92, 93, 94, 95, 96, 97, 98, 99, 100, 101, 103, 104, 105, 106, 107, 108, 109, 110, 111, 112, 113, 116, 117, 118, 119, 120, 121, 122, 123, 124, 125] I I' ∧ gr_fj [0, 68, 69, 126, 127, 128, 143, 157, 158, 159, 160, 161, 166, 167, 168, 169, 170, 177, 179, 180, 181, 186, 188, 201] [51, 56, 57, 76, 77, 78, 79, 83, 85, 87, 88, 89, 90, 91, 92, 93, 94, 95, 96, 97, 98, 99, 100, 101, 103, 104, 105, 106, 107, 108, 109, 110, 111, 112, 113, 116, 117, 118, 119, 120, 121, 122, 123, 124, 125] J J' ∧ gr_GR I' ∧ gr_FV I' ∧ gr_PL I' ∧ gr_OX I' ∧ (∃ z : Int, r = some (.inl z) ∧ (-3) ≤ z ∧ z ≤ 16)))) (339, [(0, .inr (.inr (some 0))), (3, .inl a3), (4, .inl v4_14)], [], gr_sh ++ ext, gr_h I19 J20) := by
        intro I19 J20 hI19 FI19 FJ20 KGR_I19 KFV_I19 KPL_I19 KOX_I19 m_21
        clear ha3_14 hv4_14 e0_14 f15 f16 f17 f18
        obtain ⟨ha3_21, hv4_14_21, e0_21⟩ := m_21
        have f22 := (show 0 ≤ I19 0 188 ∧ I19 0 188 ≤ 2000 from (hI19 0 188).1)
        have f23 := (show 0 ≤ I19 0 186 ∧ I19 0 186 ≤ 16 from (hI19 0 186).1)
        have f24 := (show 0 ≤ I19 0 201 ∧ I19 0 201 ≤ 16 from (hI19 0 201).1)
        have f25 := (show (-1) ≤ I19 0 177 ∧ I19 0 177 ≤ 2999 from (hI19 0 177).1)
        refine gv_run 2 true hD (pc' := 69) (lv' := [(4, .inl (v4_14 + 1)), (0, .inr (.inr (some 0))), (3, .inl a3)]) (st' := []) (h' := gr_h I19 J20) (C := ((True ∧ True) ∧ True)) rfl ⟨⟨trivial, trivial⟩, trivial⟩ ?_
        refine gv_pick [1, 2, 0] rfl ?_
        exact ih69 I19 J20 (v4_14 + 1) (by omega) hI19 FI19 FJ20 KGR_I19 KFV_I19 KPL_I19 KOX_I19 (by omega)
      have L146 : ∀ (n : Nat) (I26 : gr_I) (J27 : gr_J) (v5_28 : Int) (v6_28 : Int) (v7_28 : Int), (17 - v7_28).toNat < n → gr_Inv I26 → gr_fr [0, 68, 69, 126, 127, 128, 143, 157, 158, 159, 160, 161, 166, 167, 168, 169, 170, 177, 179, 180, 181, 186, 188, 201] [51, 56, 57, 76, 77, 78, 79, 83, 85, 87, 88, 89, 90, 91, 92, 93, 94, 95, 96, 97, 98, 99, 100, 101, 103, 104, 105, 106, 107, 108, 109, 110, 111, 112, 113, 116, 117, 118, 119, 120, 121, 122, 123, 124, 125] I I26 → gr_fj [0, 68, 69, 126, 127, 128, 143, 157, 158, 159, 160, 161, 166, 167, 168, 169, 170, 177, 179, 180, 181, 186, 188, 201] [51, 56, 57, 76, 77, 78, 79, 83, 85, 87, 88, 89, 90, 91, 92, 93, 94, 95, 96, 97, 98, 99, 100, 101, 103, 104, 105, 106, 107, 108, 109, 110, 111, 112, 113, 116, 117, 118, 119, 120, 121, 122, 123, 124, 125] J J27 → gr_GR I26 → gr_FV I26 → gr_PL I26 → gr_OX I26 → ((0 ≤ a3 ∧ a3 ≤ 7) ∧ (0 ≤ v4_14 ∧ v4_14 ≤ 15) ∧ (0 ≤ v5_28 ∧ v5_28 ≤ 1439) ∧ (0 ≤ v6_28 ∧ v6_28 ≤ 1) ∧ (0 ≤ v7_28 ∧ v7_28 ≤ 16) ∧ (I26 0 201 ≤ v4_14) ∧ (v4_14 < I26 0 186)) → gv_X (gr_E ws0 tb 800 (yX13_swap, cX13_swap, 9, (some .int)) kX13_swap) (gv_Q cX13_swap (some .int) (gr_sh ++ ext) (fun r h' => (∃ (I' : gr_I) (J' : gr_J), h' = gr_h I' J' ∧ gr_Inv I' ∧ gr_fr [0, 68, 69, 126, 127, 128, 143, 157, 158, 159, 160, 161, 166, 167, 168, 169, 170, 177, 179, 180, 181, 186, 188, 201] [51, 56, 57, 76, 77, 78, 79, 83, 85, 87, 88, 89, 90, 91, 92, 93, 94, 95, 96, 97, 98, 99, 100, 101, 103, 104, 105, 106, 107, 108, 109, 110, 111, 112, 113, 116, 117, 118, 119, 120, 121, 122, 123, 124, 125] I I' ∧ gr_fj [0, 68, 69, 126, 127, 128, 143, 157, 158, 159, 160, 161, 166, 167, 168, 169, 170, 177, 179, 180, 181, 186, 188, 201] [51, 56, 57, 76, 77, 78, 79, 83, 85, 87, 88, 89, 90, 91, 92, 93, 94, 95, 96, 97, 98, 99, 100, 101, 103, 104, 105, 106, 107, 108, 109, 110, 111, 112, 113, 116, 117, 118, 119, 120, 121, 122, 123, 124, 125] J J' ∧ gr_GR I' ∧ gr_FV I' ∧ gr_PL I' ∧ gr_OX I' ∧ (∃ z : Int, r = some (.inl z) ∧ (-3) ≤ z ∧ z ≤ 16)))) (146, [(0, .inr (.inr (some 0))), (3, .inl a3), (4, .inl v4_14), (5, .inl v5_28), (6, .inl v6_28), (7, .inl v7_28)], [], gr_sh ++ ext, gr_h I26 J27) := by
        intro n
        induction n with
        | zero => intro I26 J27 v5_28 v6_28 v7_28 hn; omega
        | succ n ih146 =>
          intro I26 J27 v5_28 v6_28 v7_28 hn hI26 FI26 FJ27 KGR_I26 KFV_I26 KPL_I26 KOX_I26 m_28
          clear ha3_14 hv4_14 e0_14 f15 f16 f17 f18
          obtain ⟨ha3_28, hv4_14_28, hv5_28, hv6_28, hv7_28, e0_28, e1_28⟩ := m_28
          have f29 := (show 0 ≤ I26 0 188 ∧ I26 0 188 ≤ 2000 from (hI26 0 188).1)
          have f30 := (show 0 ≤ I26 0 186 ∧ I26 0 186 ≤ 16 from (hI26 0 186).1)
          have f31 := (show 0 ≤ I26 0 201 ∧ I26 0 201 ≤ 16 from (hI26 0 201).1)
          have f32 := (show (-1) ≤ I26 0 177 ∧ I26 0 177 ≤ 2999 from (hI26 0 177).1)
          have L182 : ∀ (s0_33 : Int), ((0 ≤ a3 ∧ a3 ≤ 7) ∧ (0 ≤ v4_14 ∧ v4_14 ≤ 15) ∧ (0 ≤ v5_28 ∧ v5_28 ≤ 1439) ∧ (0 ≤ v7_28 ∧ v7_28 ≤ 15) ∧ (0 ≤ s0_33 ∧ s0_33 ≤ 1) ∧ (I26 0 201 ≤ v4_14) ∧ (v4_14 < I26 0 186)) → gv_X (gr_E ws0 tb 800 (yX13_swap, cX13_swap, 9, (some .int)) kX13_swap) (gv_Q cX13_swap (some .int) (gr_sh ++ ext) (fun r h' => (∃ (I' : gr_I) (J' : gr_J), h' = gr_h I' J' ∧ gr_Inv I' ∧ gr_fr [0, 68, 69, 126, 127, 128, 143, 157, 158, 159, 160, 161, 166, 167, 168, 169, 170, 177, 179, 180, 181, 186, 188, 201] [51, 56, 57, 76, 77, 78, 79, 83, 85, 87, 88, 89, 90, 91, 92, 93, 94, 95, 96, 97, 98, 99, 100, 101, 103, 104, 105, 106, 107, 108, 109, 110, 111, 112, 113, 116, 117, 118, 119, 120, 121, 122, 123, 124, 125] I I' ∧ gr_fj [0, 68, 69, 126, 127, 128, 143, 157, 158, 159, 160, 161, 166, 167, 168, 169, 170, 177, 179, 180, 181, 186, 188, 201] [51, 56, 57, 76, 77, 78, 79, 83, 85, 87, 88, 89, 90, 91, 92, 93, 94, 95, 96, 97, 98, 99, 100, 101, 103, 104, 105, 106, 107, 108, 109, 110, 111, 112, 113, 116, 117, 118, 119, 120, 121, 122, 123, 124, 125] J J' ∧ gr_GR I' ∧ gr_FV I' ∧ gr_PL I' ∧ gr_OX I' ∧ (∃ z : Int, r = some (.inl z) ∧ (-3) ≤ z ∧ z ≤ 16)))) (182, [(0, .inr (.inr (some 0))), (3, .inl a3), (4, .inl v4_14), (5, .inl v5_28), (7, .inl v7_28)], [.inl s0_33], gr_sh ++ ext, gr_h I26 J27) := by
            intro s0_33 m_33
            obtain ⟨ha3_33, hv4_14_33, hv5_28_33, hv7_28_33, hs0_33, e0_33, e1_33⟩ := m_33
            have f34 := (show 0 ≤ I26 0 188 ∧ I26 0 188 ≤ 2000 from (hI26 0 188).1)
            have f35 := (show 0 ≤ I26 0 186 ∧ I26 0 186 ≤ 16 from (hI26 0 186).1)
            have f36 := (show 0 ≤ I26 0 201 ∧ I26 0 201 ≤ 16 from (hI26 0 201).1)
            have f37 := (show (-1) ≤ I26 0 177 ∧ I26 0 177 ≤ 2999 from (hI26 0 177).1)
            have L187 : ∀ (n : Nat) (v6_38 : Int) (v8_38 : Int), (201 - v8_38).toNat < n → ((0 ≤ a3 ∧ a3 ≤ 7) ∧ (0 ≤ v4_14 ∧ v4_14 ≤ 15) ∧ (0 ≤ v5_28 ∧ v5_28 ≤ 1439) ∧ (0 ≤ v6_38 ∧ v6_38 ≤ 1) ∧ (0 ≤ v7_28 ∧ v7_28 ≤ 15) ∧ (0 ≤ v8_38 ∧ v8_38 ≤ 200) ∧ (I26 0 201 ≤ v4_14) ∧ (v4_14 < I26 0 186)) → gv_X (gr_E ws0 tb 800 (yX13_swap, cX13_swap, 9, (some .int)) kX13_swap) (gv_Q cX13_swap (some .int) (gr_sh ++ ext) (fun r h' => (∃ (I' : gr_I) (J' : gr_J), h' = gr_h I' J' ∧ gr_Inv I' ∧ gr_fr [0, 68, 69, 126, 127, 128, 143, 157, 158, 159, 160, 161, 166, 167, 168, 169, 170, 177, 179, 180, 181, 186, 188, 201] [51, 56, 57, 76, 77, 78, 79, 83, 85, 87, 88, 89, 90, 91, 92, 93, 94, 95, 96, 97, 98, 99, 100, 101, 103, 104, 105, 106, 107, 108, 109, 110, 111, 112, 113, 116, 117, 118, 119, 120, 121, 122, 123, 124, 125] I I' ∧ gr_fj [0, 68, 69, 126, 127, 128, 143, 157, 158, 159, 160, 161, 166, 167, 168, 169, 170, 177, 179, 180, 181, 186, 188, 201] [51, 56, 57, 76, 77, 78, 79, 83, 85, 87, 88, 89, 90, 91, 92, 93, 94, 95, 96, 97, 98, 99, 100, 101, 103, 104, 105, 106, 107, 108, 109, 110, 111, 112, 113, 116, 117, 118, 119, 120, 121, 122, 123, 124, 125] J J' ∧ gr_GR I' ∧ gr_FV I' ∧ gr_PL I' ∧ gr_OX I' ∧ (∃ z : Int, r = some (.inl z) ∧ (-3) ≤ z ∧ z ≤ 16)))) (187, [(0, .inr (.inr (some 0))), (3, .inl a3), (4, .inl v4_14), (5, .inl v5_28), (6, .inl v6_38), (7, .inl v7_28), (8, .inl v8_38)], [], gr_sh ++ ext, gr_h I26 J27) := by
              intro n
              induction n with
              | zero => intro v6_38 v8_38 hn; omega
              | succ n ih187 =>
                intro v6_38 v8_38 hn m_38
                obtain ⟨ha3_38, hv4_14_38, hv5_28_38, hv6_38, hv7_28_38, hv8_38, e0_38, e1_38⟩ := m_38
                have f39 := (show 0 ≤ I26 0 188 ∧ I26 0 188 ≤ 2000 from (hI26 0 188).1)
                have f40 := (show 0 ≤ I26 0 186 ∧ I26 0 186 ≤ 16 from (hI26 0 186).1)
                have f41 := (show 0 ≤ I26 0 201 ∧ I26 0 201 ≤ 16 from (hI26 0 201).1)
                have f42 := (show (-1) ≤ I26 0 177 ∧ I26 0 177 ≤ 2999 from (hI26 0 177).1)
                have L240 : ∀ (s0_43 : Int), ((0 ≤ a3 ∧ a3 ≤ 7) ∧ (0 ≤ v4_14 ∧ v4_14 ≤ 15) ∧ (0 ≤ v5_28 ∧ v5_28 ≤ 1439) ∧ (0 ≤ v7_28 ∧ v7_28 ≤ 15) ∧ (0 ≤ v8_38 ∧ v8_38 ≤ 199) ∧ (0 ≤ s0_43 ∧ s0_43 ≤ 1) ∧ (I26 0 201 ≤ v4_14) ∧ (v4_14 < I26 0 186)) → gv_X (gr_E ws0 tb 800 (yX13_swap, cX13_swap, 9, (some .int)) kX13_swap) (gv_Q cX13_swap (some .int) (gr_sh ++ ext) (fun r h' => (∃ (I' : gr_I) (J' : gr_J), h' = gr_h I' J' ∧ gr_Inv I' ∧ gr_fr [0, 68, 69, 126, 127, 128, 143, 157, 158, 159, 160, 161, 166, 167, 168, 169, 170, 177, 179, 180, 181, 186, 188, 201] [51, 56, 57, 76, 77, 78, 79, 83, 85, 87, 88, 89, 90, 91, 92, 93, 94, 95, 96, 97, 98, 99, 100, 101, 103, 104, 105, 106, 107, 108, 109, 110, 111, 112, 113, 116, 117, 118, 119, 120, 121, 122, 123, 124, 125] I I' ∧ gr_fj [0, 68, 69, 126, 127, 128, 143, 157, 158, 159, 160, 161, 166, 167, 168, 169, 170, 177, 179, 180, 181, 186, 188, 201] [51, 56, 57, 76, 77, 78, 79, 83, 85, 87, 88, 89, 90, 91, 92, 93, 94, 95, 96, 97, 98, 99, 100, 101, 103, 104, 105, 106, 107, 108, 109, 110, 111, 112, 113, 116, 117, 118, 119, 120, 121, 122, 123, 124, 125] J J' ∧ gr_GR I' ∧ gr_FV I' ∧ gr_PL I' ∧ gr_OX I' ∧ (∃ z : Int, r = some (.inl z) ∧ (-3) ≤ z ∧ z ≤ 16)))) (240, [(0, .inr (.inr (some 0))), (3, .inl a3), (4, .inl v4_14), (5, .inl v5_28), (7, .inl v7_28), (8, .inl v8_38)], [.inl s0_43], gr_sh ++ ext, gr_h I26 J27) := by
                  intro s0_43 m_43
                  obtain ⟨ha3_43, hv4_14_43, hv5_28_43, hv7_28_43, hv8_38_43, hs0_43, e0_43, e1_43⟩ := m_43
                  have f44 := (show 0 ≤ I26 0 188 ∧ I26 0 188 ≤ 2000 from (hI26 0 188).1)
                  have f45 := (show 0 ≤ I26 0 186 ∧ I26 0 186 ≤ 16 from (hI26 0 186).1)
                  have f46 := (show 0 ≤ I26 0 201 ∧ I26 0 201 ≤ 16 from (hI26 0 201).1)
                  have f47 := (show (-1) ≤ I26 0 177 ∧ I26 0 177 ≤ 2999 from (hI26 0 177).1)
                  refine gv_run 3 true hD (pc' := 187) (lv' := [(8, .inl (v8_38 + 1)), (6, .inl s0_43), (0, .inr (.inr (some 0))), (3, .inl a3), (4, .inl v4_14), (5, .inl v5_28), (7, .inl v7_28)]) (st' := []) (h' := gr_h I26 J27) (C := (((True ∧ True) ∧ True) ∧ True)) rfl ⟨⟨⟨trivial, trivial⟩, trivial⟩, trivial⟩ ?_
                  refine gv_pick [2, 3, 4, 5, 1, 6, 0] rfl ?_
                  exact ih187 s0_43 (v8_38 + 1) (by omega) (by omega)
                have L248 : ((0 ≤ a3 ∧ a3 ≤ 7) ∧ (0 ≤ v4_14 ∧ v4_14 ≤ 15) ∧ (0 ≤ v5_28 ∧ v5_28 ≤ 1439) ∧ (0 ≤ v6_38 ∧ v6_38 ≤ 1) ∧ (0 ≤ v7_28 ∧ v7_28 ≤ 15) ∧ (I26 0 201 ≤ v4_14) ∧ (v4_14 < I26 0 186)) → gv_X (gr_E ws0 tb 800 (yX13_swap, cX13_swap, 9, (some .int)) kX13_swap) (gv_Q cX13_swap (some .int) (gr_sh ++ ext) (fun r h' => (∃ (I' : gr_I) (J' : gr_J), h' = gr_h I' J' ∧ gr_Inv I' ∧ gr_fr [0, 68, 69, 126, 127, 128, 143, 157, 158, 159, 160, 161, 166, 167, 168, 169, 170, 177, 179, 180, 181, 186, 188, 201] [51, 56, 57, 76, 77, 78, 79, 83, 85, 87, 88, 89, 90, 91, 92, 93, 94, 95, 96, 97, 98, 99, 100, 101, 103, 104, 105, 106, 107, 108, 109, 110, 111, 112, 113, 116, 117, 118, 119, 120, 121, 122, 123, 124, 125] I I' ∧ gr_fj [0, 68, 69, 126, 127, 128, 143, 157, 158, 159, 160, 161, 166, 167, 168, 169, 170, 177, 179, 180, 181, 186, 188, 201] [51, 56, 57, 76, 77, 78, 79, 83, 85, 87, 88, 89, 90, 91, 92, 93, 94, 95, 96, 97, 98, 99, 100, 101, 103, 104, 105, 106, 107, 108, 109, 110, 111, 112, 113, 116, 117, 118, 119, 120, 121, 122, 123, 124, 125] J J' ∧ gr_GR I' ∧ gr_FV I' ∧ gr_PL I' ∧ gr_OX I' ∧ (∃ z : Int, r = some (.inl z) ∧ (-3) ≤ z ∧ z ≤ 16)))) (248, [(0, .inr (.inr (some 0))), (3, .inl a3), (4, .inl v4_14), (5, .inl v5_28), (6, .inl v6_38), (7, .inl v7_28)], [], gr_sh ++ ext, gr_h I26 J27) := by
                  intro m_48
                  obtain ⟨ha3_48, hv4_14_48, hv5_28_48, hv6_38_48, hv7_28_48, e0_48, e1_48⟩ := m_48
                  have f49 := (show 0 ≤ I26 0 188 ∧ I26 0 188 ≤ 2000 from (hI26 0 188).1)
                  have f50 := (show 0 ≤ I26 0 186 ∧ I26 0 186 ≤ 16 from (hI26 0 186).1)
                  have f51 := (show 0 ≤ I26 0 201 ∧ I26 0 201 ≤ 16 from (hI26 0 201).1)
                  have f52 := (show (-1) ≤ I26 0 177 ∧ I26 0 177 ≤ 2999 from (hI26 0 177).1)
                  refine gv_run 2 true hD (pc' := 146) (lv' := [(7, .inl (v7_28 + 1)), (0, .inr (.inr (some 0))), (3, .inl a3), (4, .inl v4_14), (5, .inl v5_28), (6, .inl v6_38)]) (st' := []) (h' := gr_h I26 J27) (C := ((True ∧ True) ∧ True)) rfl ⟨⟨trivial, trivial⟩, trivial⟩ ?_
                  refine gv_pick [1, 2, 3, 4, 5, 0] rfl ?_
                  exact ih146 I26 J27 v5_28 v6_38 (v7_28 + 1) (by omega) hI26 FI26 FJ27 KGR_I26 KFV_I26 KPL_I26 KOX_I26 (by omega)
                have f53 := (show 0 ≤ I26 117 (Int.toNat v5_28) ∧ I26 117 (Int.toNat v5_28) ≤ 200 from (hI26 117 (Int.toNat v5_28)).1)
                refine gv_run 5 true hD (pc' := 196) (lv' := [(0, .inr (.inr (some 0))), (3, .inl a3), (4, .inl v4_14), (5, .inl v5_28), (6, .inl v6_38), (7, .inl v7_28), (8, .inl v8_38)]) (st' := [.inl (I26 117 (Int.toNat v5_28)), .inl v8_38]) (h' := gr_h I26 J27) (C := (((((True ∧ True) ∧ True) ∧ True) ∧ True) ∧ (0 ≤ v5_28 ∧ v5_28 < ((1440 : Nat) : Int)))) rfl ⟨⟨⟨⟨⟨trivial, trivial⟩, trivial⟩, trivial⟩, trivial⟩, ⟨by omega, by omega⟩⟩ ?_
                refine gv_icmp_ge (t := 248) hD rfl rfl ⟨⟨by omega, by omega⟩, ⟨by omega, by omega⟩⟩ (fun c54 => ?_) (fun c54 => ?_)
                · refine gv_pick [0, 1, 2, 3, 4, 5] rfl ?_
                  exact L248 (by omega)
                · refine gv_run 1 true hD (pc' := 201) (lv' := [(0, .inr (.inr (some 0))), (3, .inl a3), (4, .inl v4_14), (5, .inl v5_28), (6, .inl v6_38), (7, .inl v7_28), (8, .inl v8_38)]) (st' := [.inl v6_38]) (h' := gr_h I26 J27) (C := (True ∧ True)) rfl ⟨trivial, trivial⟩ ?_
                  refine gv_if_eq (t := 248) hD rfl rfl ⟨by omega, by omega⟩ (fun c55 => ?_) (fun c55 => ?_)
                  · refine gv_pick [0, 1, 2, 3, 4, 5] rfl ?_
                    exact L248 (by omega)
                  · refine gv_run 7 true hD (pc' := 217) (lv' := [(0, .inr (.inr (some 0))), (3, .inl a3), (4, .inl v4_14), (5, .inl v5_28), (6, .inl v6_38), (7, .inl v7_28), (8, .inl v8_38)]) (st' := [.inl ((200 * v7_28) + v8_38), .inr (.inr (some 124))]) (h' := gr_h I26 J27) (C := (((((((True ∧ True) ∧ True) ∧ True) ∧ True) ∧ True) ∧ True) ∧ True)) rfl ⟨⟨⟨⟨⟨⟨⟨trivial, trivial⟩, trivial⟩, trivial⟩, trivial⟩, trivial⟩, trivial⟩, trivial⟩ ?_
                    have f56 := (show (-128) ≤ I26 124 (Int.toNat (((200 * v7_28) + v8_38))) ∧ I26 124 (Int.toNat (((200 * v7_28) + v8_38))) ≤ 127 from (hI26 124 (Int.toNat (((200 * v7_28) + v8_38)))).1)
                    refine gv_run 1 true hD (pc' := 218) (lv' := [(0, .inr (.inr (some 0))), (3, .inl a3), (4, .inl v4_14), (5, .inl v5_28), (6, .inl v6_38), (7, .inl v7_28), (8, .inl v8_38)]) (st' := [.inl (I26 124 (Int.toNat (((200 * v7_28) + v8_38))))]) (h' := gr_h I26 J27) (C := (True ∧ (0 ≤ (((200 * v7_28) + v8_38)) ∧ (((200 * v7_28) + v8_38)) < ((3200 : Nat) : Int)))) rfl ⟨trivial, ⟨by omega, by omega⟩⟩ ?_
                    refine gv_run 7 true hD (pc' := 231) (lv' := [(0, .inr (.inr (some 0))), (3, .inl a3), (4, .inl v4_14), (5, .inl v5_28), (6, .inl v6_38), (7, .inl v7_28), (8, .inl v8_38)]) (st' := [.inl ((200 * v5_28) + v8_38), .inr (.inr (some 116)), .inl (I26 124 (Int.toNat (((200 * v7_28) + v8_38))))]) (h' := gr_h I26 J27) (C := (((((((True ∧ True) ∧ True) ∧ True) ∧ True) ∧ True) ∧ True) ∧ True)) rfl ⟨⟨⟨⟨⟨⟨⟨trivial, trivial⟩, trivial⟩, trivial⟩, trivial⟩, trivial⟩, trivial⟩, trivial⟩ ?_
                    have f57 := (show (-128) ≤ I26 116 (Int.toNat (((200 * v5_28) + v8_38))) ∧ I26 116 (Int.toNat (((200 * v5_28) + v8_38))) ≤ 127 from (hI26 116 (Int.toNat (((200 * v5_28) + v8_38)))).1)
                    refine gv_run 1 true hD (pc' := 232) (lv' := [(0, .inr (.inr (some 0))), (3, .inl a3), (4, .inl v4_14), (5, .inl v5_28), (6, .inl v6_38), (7, .inl v7_28), (8, .inl v8_38)]) (st' := [.inl (I26 116 (Int.toNat (((200 * v5_28) + v8_38)))), .inl (I26 124 (Int.toNat (((200 * v7_28) + v8_38))))]) (h' := gr_h I26 J27) (C := (True ∧ (0 ≤ (((200 * v5_28) + v8_38)) ∧ (((200 * v5_28) + v8_38)) < ((288000 : Nat) : Int)))) rfl ⟨trivial, ⟨by omega, by omega⟩⟩ ?_
                    refine gv_icmp_ne (t := 239) hD rfl rfl ⟨⟨by omega, by omega⟩, ⟨by omega, by omega⟩⟩ (fun c58 => ?_) (fun c58 => ?_)
                    · refine gv_run 1 true hD (pc' := 240) (lv' := [(0, .inr (.inr (some 0))), (3, .inl a3), (4, .inl v4_14), (5, .inl v5_28), (6, .inl v6_38), (7, .inl v7_28), (8, .inl v8_38)]) (st' := [.inl 0]) (h' := gr_h I26 J27) (C := (True ∧ True)) rfl ⟨trivial, trivial⟩ ?_
                      refine gv_pick [0, 1, 2, 3, 5, 6] rfl ?_
                      exact L240 0 (by omega)
                    · refine gv_run 2 true hD (pc' := 240) (lv' := [(0, .inr (.inr (some 0))), (3, .inl a3), (4, .inl v4_14), (5, .inl v5_28), (6, .inl v6_38), (7, .inl v7_28), (8, .inl v8_38)]) (st' := [.inl 1]) (h' := gr_h I26 J27) (C := ((True ∧ True) ∧ True)) rfl ⟨⟨trivial, trivial⟩, trivial⟩ ?_
                      refine gv_pick [0, 1, 2, 3, 5, 6] rfl ?_
                      exact L240 1 (by omega)
            refine gv_run 3 true hD (pc' := 187) (lv' := [(8, .inl 0), (6, .inl s0_33), (0, .inr (.inr (some 0))), (3, .inl a3), (4, .inl v4_14), (5, .inl v5_28), (7, .inl v7_28)]) (st' := []) (h' := gr_h I26 J27) (C := (((True ∧ True) ∧ True) ∧ True)) rfl ⟨⟨⟨trivial, trivial⟩, trivial⟩, trivial⟩ ?_
            refine gv_pick [2, 3, 4, 5, 1, 6, 0] rfl ?_
            exact L187 _ s0_33 0 (Nat.lt_succ_self _) (by omega)
          have L254 : ((0 ≤ a3 ∧ a3 ≤ 7) ∧ (0 ≤ v4_14 ∧ v4_14 ≤ 15) ∧ (0 ≤ v5_28 ∧ v5_28 ≤ 1439) ∧ (0 ≤ v6_28 ∧ v6_28 ≤ 1) ∧ (I26 0 201 ≤ v4_14) ∧ (v4_14 < I26 0 186)) → gv_X (gr_E ws0 tb 800 (yX13_swap, cX13_swap, 9, (some .int)) kX13_swap) (gv_Q cX13_swap (some .int) (gr_sh ++ ext) (fun r h' => (∃ (I' : gr_I) (J' : gr_J), h' = gr_h I' J' ∧ gr_Inv I' ∧ gr_fr [0, 68, 69, 126, 127, 128, 143, 157, 158, 159, 160, 161, 166, 167, 168, 169, 170, 177, 179, 180, 181, 186, 188, 201] [51, 56, 57, 76, 77, 78, 79, 83, 85, 87, 88, 89, 90, 91, 92, 93, 94, 95, 96, 97, 98, 99, 100, 101, 103, 104, 105, 106, 107, 108, 109, 110, 111, 112, 113, 116, 117, 118, 119, 120, 121, 122, 123, 124, 125] I I' ∧ gr_fj [0, 68, 69, 126, 127, 128, 143, 157, 158, 159, 160, 161, 166, 167, 168, 169, 170, 177, 179, 180, 181, 186, 188, 201] [51, 56, 57, 76, 77, 78, 79, 83, 85, 87, 88, 89, 90, 91, 92, 93, 94, 95, 96, 97, 98, 99, 100, 101, 103, 104, 105, 106, 107, 108, 109, 110, 111, 112, 113, 116, 117, 118, 119, 120, 121, 122, 123, 124, 125] J J' ∧ gr_GR I' ∧ gr_FV I' ∧ gr_PL I' ∧ gr_OX I' ∧ (∃ z : Int, r = some (.inl z) ∧ (-3) ≤ z ∧ z ≤ 16)))) (254, [(0, .inr (.inr (some 0))), (3, .inl a3), (4, .inl v4_14), (5, .inl v5_28), (6, .inl v6_28)], [], gr_sh ++ ext, gr_h I26 J27) := by
            intro m_59
            obtain ⟨ha3_59, hv4_14_59, hv5_28_59, hv6_28_59, e0_59, e1_59⟩ := m_59
            have f60 := (show 0 ≤ I26 0 188 ∧ I26 0 188 ≤ 2000 from (hI26 0 188).1)
            have f61 := (show 0 ≤ I26 0 186 ∧ I26 0 186 ≤ 16 from (hI26 0 186).1)
            have f62 := (show 0 ≤ I26 0 201 ∧ I26 0 201 ≤ 16 from (hI26 0 201).1)
            have f63 := (show (-1) ≤ I26 0 177 ∧ I26 0 177 ≤ 2999 from (hI26 0 177).1)
            have L281 : ∀ (n : Nat) (I64 : gr_I) (J65 : gr_J) (v7_66 : Int), (201 - v7_66).toNat < n → gr_Inv I64 → gr_fr [0, 68, 69, 126, 127, 128, 143, 157, 158, 159, 160, 161, 166, 167, 168, 169, 170, 177, 179, 180, 181, 186, 188, 201] [51, 56, 57, 76, 77, 78, 79, 83, 85, 87, 88, 89, 90, 91, 92, 93, 94, 95, 96, 97, 98, 99, 100, 101, 103, 104, 105, 106, 107, 108, 109, 110, 111, 112, 113, 116, 117, 118, 119, 120, 121, 122, 123, 124, 125] I I64 → gr_fj [0, 68, 69, 126, 127, 128, 143, 157, 158, 159, 160, 161, 166, 167, 168, 169, 170, 177, 179, 180, 181, 186, 188, 201] [51, 56, 57, 76, 77, 78, 79, 83, 85, 87, 88, 89, 90, 91, 92, 93, 94, 95, 96, 97, 98, 99, 100, 101, 103, 104, 105, 106, 107, 108, 109, 110, 111, 112, 113, 116, 117, 118, 119, 120, 121, 122, 123, 124, 125] J J65 → gr_GR I64 → gr_FV I64 → gr_PL I64 → gr_OX I64 → ((0 ≤ a3 ∧ a3 ≤ 7) ∧ (0 ≤ v4_14 ∧ v4_14 ≤ 15) ∧ (0 ≤ v5_28 ∧ v5_28 ≤ 1439) ∧ (0 ≤ v7_66 ∧ v7_66 ≤ 200) ∧ (I64 0 201 ≤ v4_14) ∧ (v4_14 < I64 0 186)) → gv_X (gr_E ws0 tb 800 (yX13_swap, cX13_swap, 9, (some .int)) kX13_swap) (gv_Q cX13_swap (some .int) (gr_sh ++ ext) (fun r h' => (∃ (I' : gr_I) (J' : gr_J), h' = gr_h I' J' ∧ gr_Inv I' ∧ gr_fr [0, 68, 69, 126, 127, 128, 143, 157, 158, 159, 160, 161, 166, 167, 168, 169, 170, 177, 179, 180, 181, 186, 188, 201] [51, 56, 57, 76, 77, 78, 79, 83, 85, 87, 88, 89, 90, 91, 92, 93, 94, 95, 96, 97, 98, 99, 100, 101, 103, 104, 105, 106, 107, 108, 109, 110, 111, 112, 113, 116, 117, 118, 119, 120, 121, 122, 123, 124, 125] I I' ∧ gr_fj [0, 68, 69, 126, 127, 128, 143, 157, 158, 159, 160, 161, 166, 167, 168, 169, 170, 177, 179, 180, 181, 186, 188, 201] [51, 56, 57, 76, 77, 78, 79, 83, 85, 87, 88, 89, 90, 91, 92, 93, 94, 95, 96, 97, 98, 99, 100, 101, 103, 104, 105, 106, 107, 108, 109, 110, 111, 112, 113, 116, 117, 118, 119, 120, 121, 122, 123, 124, 125] J J' ∧ gr_GR I' ∧ gr_FV I' ∧ gr_PL I' ∧ gr_OX I' ∧ (∃ z : Int, r = some (.inl z) ∧ (-3) ≤ z ∧ z ≤ 16)))) (281, [(0, .inr (.inr (some 0))), (3, .inl a3), (4, .inl v4_14), (5, .inl v5_28), (7, .inl v7_66)], [], gr_sh ++ ext, gr_h I64 J65) := by
              intro n
              induction n with
              | zero => intro I64 J65 v7_66 hn; omega
              | succ n ih281 =>
                intro I64 J65 v7_66 hn hI64 FI64 FJ65 KGR_I64 KFV_I64 KPL_I64 KOX_I64 m_66
                clear ha3_59 hv4_14_59 hv5_28_59 hv6_28_59 e0_59 e1_59 f60 f61 f62 f63 ha3_28 hv4_14_28 hv5_28 hv6_28 hv7_28 e0_28 e1_28 f29 f30 f31 f32
                obtain ⟨ha3_66, hv4_14_66, hv5_28_66, hv7_66, e0_66, e1_66⟩ := m_66
                have f67 := (show 0 ≤ I64 0 188 ∧ I64 0 188 ≤ 2000 from (hI64 0 188).1)
                have f68 := (show 0 ≤ I64 0 186 ∧ I64 0 186 ≤ 16 from (hI64 0 186).1)
                have f69 := (show 0 ≤ I64 0 201 ∧ I64 0 201 ≤ 16 from (hI64 0 201).1)
                have f70 := (show (-1) ≤ I64 0 177 ∧ I64 0 177 ≤ 2999 from (hI64 0 177).1)
                have f71 := (show 0 ≤ I64 117 (Int.toNat v5_28) ∧ I64 117 (Int.toNat v5_28) ≤ 200 from (hI64 117 (Int.toNat v5_28)).1)
                refine gv_run 5 true hD (pc' := 290) (lv' := [(0, .inr (.inr (some 0))), (3, .inl a3), (4, .inl v4_14), (5, .inl v5_28), (7, .inl v7_66)]) (st' := [.inl (I64 117 (Int.toNat v5_28)), .inl v7_66]) (h' := gr_h I64 J65) (C := (((((True ∧ True) ∧ True) ∧ True) ∧ True) ∧ (0 ≤ v5_28 ∧ v5_28 < ((1440 : Nat) : Int)))) rfl ⟨⟨⟨⟨⟨trivial, trivial⟩, trivial⟩, trivial⟩, trivial⟩, ⟨by omega, by omega⟩⟩ ?_
                refine gv_icmp_ge (t := 329) hD rfl rfl ⟨⟨by omega, by omega⟩, ⟨by omega, by omega⟩⟩ (fun c72 => ?_) (fun c72 => ?_)
                · have f73 := (show 0 ≤ I64 0 201 ∧ I64 0 201 ≤ 16 from (hI64 0 201).1)
                  refine gv_run 5 true hD (pc' := 336) (lv' := [(0, .inr (.inr (some 0))), (3, .inl a3), (4, .inl v4_14), (5, .inl v5_28), (7, .inl v7_66)]) (st' := [.inl ((I64 0 201) + 1), .inr (.inr (some 0))]) (h' := gr_h I64 J65) (C := (((((True ∧ True) ∧ True) ∧ True) ∧ True) ∧ True)) rfl ⟨⟨⟨⟨⟨trivial, trivial⟩, trivial⟩, trivial⟩, trivial⟩, trivial⟩ ?_
                  refine gv_run 1 true hD (pc' := 339) (lv' := [(0, .inr (.inr (some 0))), (3, .inl a3), (4, .inl v4_14), (5, .inl v5_28), (7, .inl v7_66)]) (st' := []) (h' := gz_up (gr_h I64 J65) 0 201 (.inl (((I64 0 201) + 1)))) (C := (True ∧ True)) rfl ⟨trivial, trivial⟩ ?_
                  refine gr_st hI64 FI64 rfl rfl ⟨⟨by show 0 ≤ _; omega, by show _ ≤ 16; omega⟩, trivial⟩ (fun I74 hI74 FI74 q75 p75 => ?_)
                  have t76 := p75 0 188 (by decide)
                  have t77 := p75 0 186 (by decide)
                  have t78 := p75 0 177 (by decide)
                  have f79 := (show 0 ≤ I74 0 188 ∧ I74 0 188 ≤ 2000 from (hI74 0 188).1)
                  have f80 := (show 0 ≤ I74 0 186 ∧ I74 0 186 ≤ 16 from (hI74 0 186).1)
                  have f81 := (show 0 ≤ I74 0 201 ∧ I74 0 201 ≤ 16 from (hI74 0 201).1)
                  have f82 := (show (-1) ≤ I74 0 177 ∧ I74 0 177 ≤ 2999 from (hI74 0 177).1)
                  have KGR_I74 := gr_GR_fr KGR_I64 (fun k => p75 19 k (fun q => absurd q.1 (by decide))) (fun k => p75 18 k (fun q => absurd q.1 (by decide))) (fun k => p75 36 k (fun q => absurd q.1 (by decide))) (fun k => p75 41 k (fun q => absurd q.1 (by decide))) (fun k => p75 42 k (fun q => absurd q.1 (by decide))) (fun k => p75 43 k (fun q => absurd q.1 (by decide))) (fun k => p75 45 k (fun q => absurd q.1 (by decide))) (fun k => p75 46 k (fun q => absurd q.1 (by decide))) (fun k => p75 47 k (fun q => absurd q.1 (by decide))) (fun k => p75 6 k (fun q => absurd q.1 (by decide))) (fun k => p75 7 k (fun q => absurd q.1 (by decide))) (fun k => p75 8 k (fun q => absurd q.1 (by decide))) (p75 0 3 (by decide))
                  have KFV_I74 := gr_FV_fr KFV_I64 (fun k => p75 87 k (fun q => absurd q.1 (by decide))) (fun k => p75 88 k (fun q => absurd q.1 (by decide))) (fun k => p75 104 k (fun q => absurd q.1 (by decide))) (fun k => p75 90 k (fun q => absurd q.1 (by decide))) (fun k => p75 91 k (fun q => absurd q.1 (by decide))) (fun k => p75 92 k (fun q => absurd q.1 (by decide))) (fun k => p75 94 k (fun q => absurd q.1 (by decide))) (fun k => p75 95 k (fun q => absurd q.1 (by decide))) (fun k => p75 97 k (fun q => absurd q.1 (by decide))) (fun k => p75 98 k (fun q => absurd q.1 (by decide))) (fun k => p75 19 k (fun q => absurd q.1 (by decide))) (fun k => p75 18 k (fun q => absurd q.1 (by decide))) (fun k => p75 41 k (fun q => absurd q.1 (by decide))) (fun k => p75 6 k (fun q => absurd q.1 (by decide))) (fun k => p75 99 k (fun q => absurd q.1 (by decide))) (fun k => p75 105 k (fun q => absurd q.1 (by decide))) (fun k => p75 107 k (fun q => absurd q.1 (by decide))) (fun k => p75 108 k (fun q => absurd q.1 (by decide))) (fun k => p75 110 k (fun q => absurd q.1 (by decide))) (fun k => p75 111 k (fun q => absurd q.1 (by decide))) (p75 0 157 (by decide)) (p75 0 158 (by decide)) (p75 0 177 (by decide)) (p75 0 186 (by decide)) (p75 0 159 (by decide)) hI64
                  have KPL_I74 := gr_PL_fr KPL_I64 (fun k => p75 114 k (fun q => absurd q.1 (by decide))) (fun k => p75 115 k (fun q => absurd q.1 (by decide))) (fun k => p75 6 k (fun q => absurd q.1 (by decide))) (p75 0 3 (by decide))
                  have KOX_I74 := gr_OX_fr KOX_I64 (fun k => p75 121 k (fun q => absurd q.1 (by decide))) (fun k => p75 120 k (fun q => absurd q.1 (by decide)))
                  refine gv_pick [0, 1, 2] rfl ?_
                  exact L339 I74 J65 hI74 FI74 FJ65 KGR_I74 KFV_I74 KPL_I74 KOX_I74 (by omega)
                · have f83 := (show 0 ≤ I64 0 201 ∧ I64 0 201 ≤ 16 from (hI64 0 201).1)
                  refine gv_run 7 true hD (pc' := 307) (lv' := [(0, .inr (.inr (some 0))), (3, .inl a3), (4, .inl v4_14), (5, .inl v5_28), (7, .inl v7_66)]) (st' := [.inl v7_66, .inl (200 * (I64 0 201)), .inr (.inr (some 124))]) (h' := gr_h I64 J65) (C := (((((((True ∧ True) ∧ True) ∧ True) ∧ True) ∧ True) ∧ True) ∧ True)) rfl ⟨⟨⟨⟨⟨⟨⟨trivial, trivial⟩, trivial⟩, trivial⟩, trivial⟩, trivial⟩, trivial⟩, trivial⟩ ?_
                  refine gv_run 7 true hD (pc' := 320) (lv' := [(0, .inr (.inr (some 0))), (3, .inl a3), (4, .inl v4_14), (5, .inl v5_28), (7, .inl v7_66)]) (st' := [.inl v7_66, .inl (200 * v5_28), .inr (.inr (some 116)), .inl ((200 * (I64 0 201)) + v7_66), .inr (.inr (some 124))]) (h' := gr_h I64 J65) (C := (((((((True ∧ True) ∧ True) ∧ True) ∧ True) ∧ True) ∧ True) ∧ True)) rfl ⟨⟨⟨⟨⟨⟨⟨trivial, trivial⟩, trivial⟩, trivial⟩, trivial⟩, trivial⟩, trivial⟩, trivial⟩ ?_
                  have f84 := (show (-128) ≤ I64 116 (Int.toNat (((200 * v5_28) + v7_66))) ∧ I64 116 (Int.toNat (((200 * v5_28) + v7_66))) ≤ 127 from (hI64 116 (Int.toNat (((200 * v5_28) + v7_66)))).1)
                  refine gv_run 2 true hD (pc' := 322) (lv' := [(0, .inr (.inr (some 0))), (3, .inl a3), (4, .inl v4_14), (5, .inl v5_28), (7, .inl v7_66)]) (st' := [.inl (I64 116 (Int.toNat (((200 * v5_28) + v7_66)))), .inl ((200 * (I64 0 201)) + v7_66), .inr (.inr (some 124))]) (h' := gr_h I64 J65) (C := ((True ∧ True) ∧ (0 ≤ (((200 * v5_28) + v7_66)) ∧ (((200 * v5_28) + v7_66)) < ((288000 : Nat) : Int)))) rfl ⟨⟨trivial, trivial⟩, ⟨by omega, by omega⟩⟩ ?_
                  have f85 := gw_nar_byte (x := ((I64 116 (Int.toNat (((200 * v5_28) + v7_66))))))
                  refine gv_run 1 true hD (pc' := 323) (lv' := [(0, .inr (.inr (some 0))), (3, .inl a3), (4, .inl v4_14), (5, .inl v5_28), (7, .inl v7_66)]) (st' := []) (h' := gz_up (gr_h I64 J65) 124 (Int.toNat (((200 * (I64 0 201)) + v7_66))) (.inl (((vp_nar .byte (Int32.ofInt ((I64 116 (Int.toNat (((200 * v5_28) + v7_66))))))).toInt)))) (C := (True ∧ (0 ≤ (((200 * (I64 0 201)) + v7_66)) ∧ (((200 * (I64 0 201)) + v7_66)) < ((3200 : Nat) : Int)))) rfl ⟨trivial, ⟨by omega, by omega⟩⟩ ?_
                  refine gr_st hI64 FI64 rfl rfl ⟨⟨by show (-128) ≤ _; omega, by show _ ≤ 127; omega⟩, trivial⟩ (fun I86 hI86 FI86 q87 p87 => ?_)
                  have t88 := p87 0 188 (fun q => absurd q.1 (by decide))
                  have t89 := p87 0 186 (fun q => absurd q.1 (by decide))
                  have t90 := p87 0 201 (fun q => absurd q.1 (by decide))
                  have t91 := p87 0 177 (fun q => absurd q.1 (by decide))
                  have f92 := (show 0 ≤ I86 0 188 ∧ I86 0 188 ≤ 2000 from (hI86 0 188).1)
                  have f93 := (show 0 ≤ I86 0 186 ∧ I86 0 186 ≤ 16 from (hI86 0 186).1)
                  have f94 := (show 0 ≤ I86 0 201 ∧ I86 0 201 ≤ 16 from (hI86 0 201).1)
                  have f95 := (show (-1) ≤ I86 0 177 ∧ I86 0 177 ≤ 2999 from (hI86 0 177).1)
                  have KGR_I86 := gr_GR_fr KGR_I64 (fun k => p87 19 k (fun q => absurd q.1 (by decide))) (fun k => p87 18 k (fun q => absurd q.1 (by decide))) (fun k => p87 36 k (fun q => absurd q.1 (by decide))) (fun k => p87 41 k (fun q => absurd q.1 (by decide))) (fun k => p87 42 k (fun q => absurd q.1 (by decide))) (fun k => p87 43 k (fun q => absurd q.1 (by decide))) (fun k => p87 45 k (fun q => absurd q.1 (by decide))) (fun k => p87 46 k (fun q => absurd q.1 (by decide))) (fun k => p87 47 k (fun q => absurd q.1 (by decide))) (fun k => p87 6 k (fun q => absurd q.1 (by decide))) (fun k => p87 7 k (fun q => absurd q.1 (by decide))) (fun k => p87 8 k (fun q => absurd q.1 (by decide))) (p87 0 3 (fun q => absurd q.1 (by decide)))
                  have KFV_I86 := gr_FV_fr KFV_I64 (fun k => p87 87 k (fun q => absurd q.1 (by decide))) (fun k => p87 88 k (fun q => absurd q.1 (by decide))) (fun k => p87 104 k (fun q => absurd q.1 (by decide))) (fun k => p87 90 k (fun q => absurd q.1 (by decide))) (fun k => p87 91 k (fun q => absurd q.1 (by decide))) (fun k => p87 92 k (fun q => absurd q.1 (by decide))) (fun k => p87 94 k (fun q => absurd q.1 (by decide))) (fun k => p87 95 k (fun q => absurd q.1 (by decide))) (fun k => p87 97 k (fun q => absurd q.1 (by decide))) (fun k => p87 98 k (fun q => absurd q.1 (by decide))) (fun k => p87 19 k (fun q => absurd q.1 (by decide))) (fun k => p87 18 k (fun q => absurd q.1 (by decide))) (fun k => p87 41 k (fun q => absurd q.1 (by decide))) (fun k => p87 6 k (fun q => absurd q.1 (by decide))) (fun k => p87 99 k (fun q => absurd q.1 (by decide))) (fun k => p87 105 k (fun q => absurd q.1 (by decide))) (fun k => p87 107 k (fun q => absurd q.1 (by decide))) (fun k => p87 108 k (fun q => absurd q.1 (by decide))) (fun k => p87 110 k (fun q => absurd q.1 (by decide))) (fun k => p87 111 k (fun q => absurd q.1 (by decide))) (p87 0 157 (fun q => absurd q.1 (by decide))) (p87 0 158 (fun q => absurd q.1 (by decide))) (p87 0 177 (fun q => absurd q.1 (by decide))) (p87 0 186 (fun q => absurd q.1 (by decide))) (p87 0 159 (fun q => absurd q.1 (by decide))) hI64
                  have KPL_I86 := gr_PL_fr KPL_I64 (fun k => p87 114 k (fun q => absurd q.1 (by decide))) (fun k => p87 115 k (fun q => absurd q.1 (by decide))) (fun k => p87 6 k (fun q => absurd q.1 (by decide))) (p87 0 3 (fun q => absurd q.1 (by decide)))
                  have KOX_I86 := gr_OX_fr KOX_I64 (fun k => p87 121 k (fun q => absurd q.1 (by decide))) (fun k => p87 120 k (fun q => absurd q.1 (by decide)))
                  refine gv_run 2 true hD (pc' := 281) (lv' := [(7, .inl (v7_66 + 1)), (0, .inr (.inr (some 0))), (3, .inl a3), (4, .inl v4_14), (5, .inl v5_28)]) (st' := []) (h' := gr_h I86 J65) (C := ((True ∧ True) ∧ True)) rfl ⟨⟨trivial, trivial⟩, trivial⟩ ?_
                  refine gv_pick [1, 2, 3, 4, 0] rfl ?_
                  exact ih281 I86 J65 (v7_66 + 1) (by omega) hI86 FI86 FJ65 KGR_I86 KFV_I86 KPL_I86 KOX_I86 (by omega)
            refine gv_run 1 true hD (pc' := 256) (lv' := [(0, .inr (.inr (some 0))), (3, .inl a3), (4, .inl v4_14), (5, .inl v5_28), (6, .inl v6_28)]) (st' := [.inl v6_28]) (h' := gr_h I26 J27) (C := (True ∧ True)) rfl ⟨trivial, trivial⟩ ?_
            refine gv_if_eq (t := 262) hD rfl rfl ⟨by omega, by omega⟩ (fun c96 => ?_) (fun c96 => ?_)
            · have f97 := (show 0 ≤ I26 0 201 ∧ I26 0 201 ≤ 16 from (hI26 0 201).1)
              refine gv_run 7 true hD (pc' := 276) (lv' := [(0, .inr (.inr (some 0))), (3, .inl a3), (4, .inl v4_14), (5, .inl v5_28), (6, .inl v6_28)]) (st' := [.inl v5_28, .inr (.inr (some 117)), .inl (I26 0 201), .inr (.inr (some 125))]) (h' := gr_h I26 J27) (C := (((((((True ∧ True) ∧ True) ∧ True) ∧ True) ∧ True) ∧ True) ∧ True)) rfl ⟨⟨⟨⟨⟨⟨⟨trivial, trivial⟩, trivial⟩, trivial⟩, trivial⟩, trivial⟩, trivial⟩, trivial⟩ ?_
              have f98 := (show 0 ≤ I26 117 (Int.toNat v5_28) ∧ I26 117 (Int.toNat v5_28) ≤ 200 from (hI26 117 (Int.toNat v5_28)).1)
              refine gv_run 1 true hD (pc' := 277) (lv' := [(0, .inr (.inr (some 0))), (3, .inl a3), (4, .inl v4_14), (5, .inl v5_28), (6, .inl v6_28)]) (st' := [.inl (I26 117 (Int.toNat v5_28)), .inl (I26 0 201), .inr (.inr (some 125))]) (h' := gr_h I26 J27) (C := (True ∧ (0 ≤ v5_28 ∧ v5_28 < ((1440 : Nat) : Int)))) rfl ⟨trivial, ⟨by omega, by omega⟩⟩ ?_
              refine gv_run 1 true hD (pc' := 278) (lv' := [(0, .inr (.inr (some 0))), (3, .inl a3), (4, .inl v4_14), (5, .inl v5_28), (6, .inl v6_28)]) (st' := []) (h' := gz_up (gr_h I26 J27) 125 (Int.toNat ((I26 0 201))) (.inl ((I26 117 (Int.toNat v5_28))))) (C := (True ∧ (0 ≤ (I26 0 201) ∧ (I26 0 201) < ((16 : Nat) : Int)))) rfl ⟨trivial, ⟨by omega, by omega⟩⟩ ?_
              refine gr_st hI26 FI26 rfl rfl ⟨⟨by show 0 ≤ _; omega, by show _ ≤ 200; omega⟩, trivial⟩ (fun I99 hI99 FI99 q100 p100 => ?_)
              have t101 := p100 0 188 (fun q => absurd q.1 (by decide))
              have t102 := p100 0 186 (fun q => absurd q.1 (by decide))
              have t103 := p100 0 201 (fun q => absurd q.1 (by decide))
              have t104 := p100 0 177 (fun q => absurd q.1 (by decide))
              have f105 := (show 0 ≤ I99 0 188 ∧ I99 0 188 ≤ 2000 from (hI99 0 188).1)
              have f106 := (show 0 ≤ I99 0 186 ∧ I99 0 186 ≤ 16 from (hI99 0 186).1)
              have f107 := (show 0 ≤ I99 0 201 ∧ I99 0 201 ≤ 16 from (hI99 0 201).1)
              have f108 := (show (-1) ≤ I99 0 177 ∧ I99 0 177 ≤ 2999 from (hI99 0 177).1)
              have KGR_I99 := gr_GR_fr KGR_I26 (fun k => p100 19 k (fun q => absurd q.1 (by decide))) (fun k => p100 18 k (fun q => absurd q.1 (by decide))) (fun k => p100 36 k (fun q => absurd q.1 (by decide))) (fun k => p100 41 k (fun q => absurd q.1 (by decide))) (fun k => p100 42 k (fun q => absurd q.1 (by decide))) (fun k => p100 43 k (fun q => absurd q.1 (by decide))) (fun k => p100 45 k (fun q => absurd q.1 (by decide))) (fun k => p100 46 k (fun q => absurd q.1 (by decide))) (fun k => p100 47 k (fun q => absurd q.1 (by decide))) (fun k => p100 6 k (fun q => absurd q.1 (by decide))) (fun k => p100 7 k (fun q => absurd q.1 (by decide))) (fun k => p100 8 k (fun q => absurd q.1 (by decide))) (p100 0 3 (fun q => absurd q.1 (by decide)))
              have KFV_I99 := gr_FV_fr KFV_I26 (fun k => p100 87 k (fun q => absurd q.1 (by decide))) (fun k => p100 88 k (fun q => absurd q.1 (by decide))) (fun k => p100 104 k (fun q => absurd q.1 (by decide))) (fun k => p100 90 k (fun q => absurd q.1 (by decide))) (fun k => p100 91 k (fun q => absurd q.1 (by decide))) (fun k => p100 92 k (fun q => absurd q.1 (by decide))) (fun k => p100 94 k (fun q => absurd q.1 (by decide))) (fun k => p100 95 k (fun q => absurd q.1 (by decide))) (fun k => p100 97 k (fun q => absurd q.1 (by decide))) (fun k => p100 98 k (fun q => absurd q.1 (by decide))) (fun k => p100 19 k (fun q => absurd q.1 (by decide))) (fun k => p100 18 k (fun q => absurd q.1 (by decide))) (fun k => p100 41 k (fun q => absurd q.1 (by decide))) (fun k => p100 6 k (fun q => absurd q.1 (by decide))) (fun k => p100 99 k (fun q => absurd q.1 (by decide))) (fun k => p100 105 k (fun q => absurd q.1 (by decide))) (fun k => p100 107 k (fun q => absurd q.1 (by decide))) (fun k => p100 108 k (fun q => absurd q.1 (by decide))) (fun k => p100 110 k (fun q => absurd q.1 (by decide))) (fun k => p100 111 k (fun q => absurd q.1 (by decide))) (p100 0 157 (fun q => absurd q.1 (by decide))) (p100 0 158 (fun q => absurd q.1 (by decide))) (p100 0 177 (fun q => absurd q.1 (by decide))) (p100 0 186 (fun q => absurd q.1 (by decide))) (p100 0 159 (fun q => absurd q.1 (by decide))) hI26
              have KPL_I99 := gr_PL_fr KPL_I26 (fun k => p100 114 k (fun q => absurd q.1 (by decide))) (fun k => p100 115 k (fun q => absurd q.1 (by decide))) (fun k => p100 6 k (fun q => absurd q.1 (by decide))) (p100 0 3 (fun q => absurd q.1 (by decide)))
              have KOX_I99 := gr_OX_fr KOX_I26 (fun k => p100 121 k (fun q => absurd q.1 (by decide))) (fun k => p100 120 k (fun q => absurd q.1 (by decide)))
              refine gv_run 2 true hD (pc' := 281) (lv' := [(7, .inl 0), (0, .inr (.inr (some 0))), (3, .inl a3), (4, .inl v4_14), (5, .inl v5_28), (6, .inl v6_28)]) (st' := []) (h' := gr_h I99 J27) (C := ((True ∧ True) ∧ True)) rfl ⟨⟨trivial, trivial⟩, trivial⟩ ?_
              refine gv_pick [1, 2, 3, 4, 0] rfl ?_
              exact L281 _ I99 J27 0 (Nat.lt_succ_self _) hI99 FI99 FJ27 KGR_I99 KFV_I99 KPL_I99 KOX_I99 (by omega)
            · refine gv_run 1 true hD (pc' := 339) (lv' := [(0, .inr (.inr (some 0))), (3, .inl a3), (4, .inl v4_14), (5, .inl v5_28), (6, .inl v6_28)]) (st' := []) (h' := gr_h I26 J27) (C := (True ∧ True)) rfl ⟨trivial, trivial⟩ ?_
              refine gv_pick [0, 1, 2] rfl ?_
              exact L339 I26 J27 hI26 FI26 FJ27 KGR_I26 KFV_I26 KPL_I26 KOX_I26 (by omega)
          have f109 := (show 0 ≤ I26 0 201 ∧ I26 0 201 ≤ 16 from (hI26 0 201).1)
          refine gv_run 3 true hD (pc' := 152) (lv' := [(0, .inr (.inr (some 0))), (3, .inl a3), (4, .inl v4_14), (5, .inl v5_28), (6, .inl v6_28), (7, .inl v7_28)]) (st' := [.inl (I26 0 201), .inl v7_28]) (h' := gr_h I26 J27) (C := (((True ∧ True) ∧ True) ∧ True)) rfl ⟨⟨⟨trivial, trivial⟩, trivial⟩, trivial⟩ ?_
          refine gv_icmp_ge (t := 254) hD rfl rfl ⟨⟨by omega, by omega⟩, ⟨by omega, by omega⟩⟩ (fun c110 => ?_) (fun c110 => ?_)
          · refine gv_pick [0, 1, 2, 3, 4] rfl ?_
            exact L254 (by omega)
          · refine gv_run 1 true hD (pc' := 157) (lv' := [(0, .inr (.inr (some 0))), (3, .inl a3), (4, .inl v4_14), (5, .inl v5_28), (6, .inl v6_28), (7, .inl v7_28)]) (st' := [.inl v6_28]) (h' := gr_h I26 J27) (C := (True ∧ True)) rfl ⟨trivial, trivial⟩ ?_
            refine gv_if_ne (t := 254) hD rfl rfl ⟨by omega, by omega⟩ (fun c111 => ?_) (fun c111 => ?_)
            · refine gv_pick [0, 1, 2, 3, 4] rfl ?_
              exact L254 (by omega)
            · have f112 := (show 0 ≤ I26 125 (Int.toNat v7_28) ∧ I26 125 (Int.toNat v7_28) ≤ 200 from (hI26 125 (Int.toNat v7_28)).1)
              refine gv_run 4 true hD (pc' := 167) (lv' := [(0, .inr (.inr (some 0))), (3, .inl a3), (4, .inl v4_14), (5, .inl v5_28), (6, .inl v6_28), (7, .inl v7_28)]) (st' := [.inl (I26 125 (Int.toNat v7_28))]) (h' := gr_h I26 J27) (C := ((((True ∧ True) ∧ True) ∧ True) ∧ (0 ≤ v7_28 ∧ v7_28 < ((16 : Nat) : Int)))) rfl ⟨⟨⟨⟨trivial, trivial⟩, trivial⟩, trivial⟩, ⟨by omega, by omega⟩⟩ ?_
              have f113 := (show 0 ≤ I26 117 (Int.toNat v5_28) ∧ I26 117 (Int.toNat v5_28) ≤ 200 from (hI26 117 (Int.toNat v5_28)).1)
              refine gv_run 4 true hD (pc' := 174) (lv' := [(0, .inr (.inr (some 0))), (3, .inl a3), (4, .inl v4_14), (5, .inl v5_28), (6, .inl v6_28), (7, .inl v7_28)]) (st' := [.inl (I26 117 (Int.toNat v5_28)), .inl (I26 125 (Int.toNat v7_28))]) (h' := gr_h I26 J27) (C := ((((True ∧ True) ∧ True) ∧ True) ∧ (0 ≤ v5_28 ∧ v5_28 < ((1440 : Nat) : Int)))) rfl ⟨⟨⟨⟨trivial, trivial⟩, trivial⟩, trivial⟩, ⟨by omega, by omega⟩⟩ ?_
              refine gv_icmp_ne (t := 181) hD rfl rfl ⟨⟨by omega, by omega⟩, ⟨by omega, by omega⟩⟩ (fun c114 => ?_) (fun c114 => ?_)
              · refine gv_run 1 true hD (pc' := 182) (lv' := [(0, .inr (.inr (some 0))), (3, .inl a3), (4, .inl v4_14), (5, .inl v5_28), (6, .inl v6_28), (7, .inl v7_28)]) (st' := [.inl 0]) (h' := gr_h I26 J27) (C := (True ∧ True)) rfl ⟨trivial, trivial⟩ ?_
                refine gv_pick [0, 1, 2, 3, 5] rfl ?_
                exact L182 0 (by omega)
              · refine gv_run 2 true hD (pc' := 182) (lv' := [(0, .inr (.inr (some 0))), (3, .inl a3), (4, .inl v4_14), (5, .inl v5_28), (6, .inl v6_28), (7, .inl v7_28)]) (st' := [.inl 1]) (h' := gr_h I26 J27) (C := ((True ∧ True) ∧ True)) rfl ⟨⟨trivial, trivial⟩, trivial⟩ ?_
                refine gv_pick [0, 1, 2, 3, 5] rfl ?_
                exact L182 1 (by omega)
      have f115 := (show 0 ≤ I12 0 186 ∧ I12 0 186 ≤ 16 from (hI12 0 186).1)
      refine gv_run 3 true hD (pc' := 75) (lv' := [(0, .inr (.inr (some 0))), (3, .inl a3), (4, .inl v4_14)]) (st' := [.inl (I12 0 186), .inl v4_14]) (h' := gr_h I12 J13) (C := (((True ∧ True) ∧ True) ∧ True)) rfl ⟨⟨⟨trivial, trivial⟩, trivial⟩, trivial⟩ ?_
      refine gv_icmp_ge (t := 345) hD rfl rfl ⟨⟨by omega, by omega⟩, ⟨by omega, by omega⟩⟩ (fun c116 => ?_) (fun c116 => ?_)
      · have f117 := (show 0 ≤ I12 0 201 ∧ I12 0 201 ≤ 16 from (hI12 0 201).1)
        refine gv_run 2 true hD (pc' := 349) (lv' := [(0, .inr (.inr (some 0))), (3, .inl a3), (4, .inl v4_14)]) (st' := [.inl (I12 0 201)]) (h' := gr_h I12 J13) (C := ((True ∧ True) ∧ True)) rfl ⟨⟨trivial, trivial⟩, trivial⟩ ?_
        exact gv_iret hD rfl ⟨I12, J13, rfl, hI12, FI12, FJ13, KGR_I12, KFV_I12, KPL_I12, KOX_I12, ⟨_, rfl, by omega⟩⟩
      · refine gv_run 3 true hD (pc' := 83) (lv' := [(0, .inr (.inr (some 0))), (3, .inl a3), (4, .inl v4_14)]) (st' := []) (h' := gz_up (gr_h I12 J13) 0 188 (.inl 0)) (C := (((True ∧ True) ∧ True) ∧ True)) rfl ⟨⟨⟨trivial, trivial⟩, trivial⟩, trivial⟩ ?_
        refine gr_st hI12 FI12 rfl rfl ⟨⟨by show 0 ≤ _; omega, by show _ ≤ 2000; omega⟩, trivial⟩ (fun I118 hI118 FI118 q119 p119 => ?_)
        have t120 := p119 0 186 (by decide)
        have t121 := p119 0 201 (by decide)
        have t122 := p119 0 177 (by decide)
        have f123 := (show 0 ≤ I118 0 188 ∧ I118 0 188 ≤ 2000 from (hI118 0 188).1)
        have f124 := (show 0 ≤ I118 0 186 ∧ I118 0 186 ≤ 16 from (hI118 0 186).1)
        have f125 := (show 0 ≤ I118 0 201 ∧ I118 0 201 ≤ 16 from (hI118 0 201).1)
        have f126 := (show (-1) ≤ I118 0 177 ∧ I118 0 177 ≤ 2999 from (hI118 0 177).1)
        have KGR_I118 := gr_GR_fr KGR_I12 (fun k => p119 19 k (fun q => absurd q.1 (by decide))) (fun k => p119 18 k (fun q => absurd q.1 (by decide))) (fun k => p119 36 k (fun q => absurd q.1 (by decide))) (fun k => p119 41 k (fun q => absurd q.1 (by decide))) (fun k => p119 42 k (fun q => absurd q.1 (by decide))) (fun k => p119 43 k (fun q => absurd q.1 (by decide))) (fun k => p119 45 k (fun q => absurd q.1 (by decide))) (fun k => p119 46 k (fun q => absurd q.1 (by decide))) (fun k => p119 47 k (fun q => absurd q.1 (by decide))) (fun k => p119 6 k (fun q => absurd q.1 (by decide))) (fun k => p119 7 k (fun q => absurd q.1 (by decide))) (fun k => p119 8 k (fun q => absurd q.1 (by decide))) (p119 0 3 (by decide))
        have KFV_I118 := gr_FV_fr KFV_I12 (fun k => p119 87 k (fun q => absurd q.1 (by decide))) (fun k => p119 88 k (fun q => absurd q.1 (by decide))) (fun k => p119 104 k (fun q => absurd q.1 (by decide))) (fun k => p119 90 k (fun q => absurd q.1 (by decide))) (fun k => p119 91 k (fun q => absurd q.1 (by decide))) (fun k => p119 92 k (fun q => absurd q.1 (by decide))) (fun k => p119 94 k (fun q => absurd q.1 (by decide))) (fun k => p119 95 k (fun q => absurd q.1 (by decide))) (fun k => p119 97 k (fun q => absurd q.1 (by decide))) (fun k => p119 98 k (fun q => absurd q.1 (by decide))) (fun k => p119 19 k (fun q => absurd q.1 (by decide))) (fun k => p119 18 k (fun q => absurd q.1 (by decide))) (fun k => p119 41 k (fun q => absurd q.1 (by decide))) (fun k => p119 6 k (fun q => absurd q.1 (by decide))) (fun k => p119 99 k (fun q => absurd q.1 (by decide))) (fun k => p119 105 k (fun q => absurd q.1 (by decide))) (fun k => p119 107 k (fun q => absurd q.1 (by decide))) (fun k => p119 108 k (fun q => absurd q.1 (by decide))) (fun k => p119 110 k (fun q => absurd q.1 (by decide))) (fun k => p119 111 k (fun q => absurd q.1 (by decide))) (p119 0 157 (by decide)) (p119 0 158 (by decide)) (p119 0 177 (by decide)) (p119 0 186 (by decide)) (p119 0 159 (by decide)) hI12
        have KPL_I118 := gr_PL_fr KPL_I12 (fun k => p119 114 k (fun q => absurd q.1 (by decide))) (fun k => p119 115 k (fun q => absurd q.1 (by decide))) (fun k => p119 6 k (fun q => absurd q.1 (by decide))) (p119 0 3 (by decide))
        have KOX_I118 := gr_OX_fr KOX_I12 (fun k => p119 121 k (fun q => absurd q.1 (by decide))) (fun k => p119 120 k (fun q => absurd q.1 (by decide)))
        have f127 := (show 0 ≤ I118 110 (Int.toNat v4_14) ∧ I118 110 (Int.toNat v4_14) ≤ 2999 from (hI118 110 (Int.toNat v4_14)).1)
        refine gv_run 5 true hD (pc' := 91) (lv' := [(0, .inr (.inr (some 0))), (3, .inl a3), (4, .inl v4_14)]) (st' := [.inl (I118 110 (Int.toNat v4_14)), .inr (.inr (some 0))]) (h' := gr_h I118 J13) (C := (((((True ∧ True) ∧ True) ∧ True) ∧ True) ∧ (0 ≤ v4_14 ∧ v4_14 < ((16 : Nat) : Int)))) rfl ⟨⟨⟨⟨⟨trivial, trivial⟩, trivial⟩, trivial⟩, trivial⟩, ⟨by omega, by omega⟩⟩ ?_
        have f128 := (show 0 ≤ I118 111 (Int.toNat v4_14) ∧ I118 111 (Int.toNat v4_14) ≤ 15 from (hI118 111 (Int.toNat v4_14)).1)
        refine gv_run 4 true hD (pc' := 98) (lv' := [(0, .inr (.inr (some 0))), (3, .inl a3), (4, .inl v4_14)]) (st' := [.inl (I118 111 (Int.toNat v4_14)), .inl (I118 110 (Int.toNat v4_14)), .inr (.inr (some 0))]) (h' := gr_h I118 J13) (C := ((((True ∧ True) ∧ True) ∧ True) ∧ (0 ≤ v4_14 ∧ v4_14 < ((16 : Nat) : Int)))) rfl ⟨⟨⟨⟨trivial, trivial⟩, trivial⟩, trivial⟩, ⟨by omega, by omega⟩⟩ ?_
        have t129 := (gr_FV_s KFV_I118 (by omega)).2.2.2 (Int.toNat v4_14) (by omega) (by omega)
        have t130 := (show 0 ≤ I118 88 (Int.toNat (I118 110 (Int.toNat v4_14))) ∧ I118 88 (Int.toNat (I118 110 (Int.toNat v4_14))) ≤ 24 from (hI118 88 _).1)
        have t131 := (show 0 ≤ I118 104 (Int.toNat (I118 110 (Int.toNat v4_14))) ∧ I118 104 (Int.toNat (I118 110 (Int.toNat v4_14))) ≤ 24 from (hI118 104 _).1)
        have t132 := (show 0 ≤ I118 87 (Int.toNat (I118 110 (Int.toNat v4_14))) ∧ I118 87 (Int.toNat (I118 110 (Int.toNat v4_14))) ≤ 31 from (hI118 87 _).1)
        obtain ⟨r133, h133, E133, P133⟩ := r_read (ws0 := ws0) (tb := tb) hws htb ext 800 I118 J13 hI118 ((I118 110 (Int.toNat v4_14))) ((I118 111 (Int.toNat v4_14))) ⟨by omega, by omega⟩ ⟨by omega, by omega⟩ KGR_I118 (gr_FV_s KFV_I118 (by omega)).2.1 (gr_FV_s KFV_I118 (by omega)).2.2.1 (by omega) (by omega) (by omega) (by omega)
        obtain ⟨I134, J135, rfl, hI134, g133, k133, ⟨rfl, q133⟩⟩ := P133
        have FI134 := gr_frt FI118 g133 rfl rfl
        have FJ135 := gr_fjt FJ13 k133 rfl rfl
        have t136 := g133 0 186 rfl
        have t137 := g133 0 201 rfl
        have t138 := g133 0 177 rfl
        have f139 := (show 0 ≤ I134 0 188 ∧ I134 0 188 ≤ 2000 from (hI134 0 188).1)
        have f140 := (show 0 ≤ I134 0 186 ∧ I134 0 186 ≤ 16 from (hI134 0 186).1)
        have f141 := (show 0 ≤ I134 0 201 ∧ I134 0 201 ≤ 16 from (hI134 0 201).1)
        have f142 := (show (-1) ≤ I134 0 177 ∧ I134 0 177 ≤ 2999 from (hI134 0 177).1)
        have KGR_I134 := gr_GR_fr KGR_I118 (fun k => g133 19 k rfl) (fun k => g133 18 k rfl) (fun k => g133 36 k rfl) (fun k => g133 41 k rfl) (fun k => g133 42 k rfl) (fun k => g133 43 k rfl) (fun k => g133 45 k rfl) (fun k => g133 46 k rfl) (fun k => g133 47 k rfl) (fun k => g133 6 k rfl) (fun k => g133 7 k rfl) (fun k => g133 8 k rfl) (g133 0 3 rfl)
        have KFV_I134 := gr_FV_fr KFV_I118 (fun k => g133 87 k rfl) (fun k => g133 88 k rfl) (fun k => g133 104 k rfl) (fun k => g133 90 k rfl) (fun k => g133 91 k rfl) (fun k => g133 92 k rfl) (fun k => g133 94 k rfl) (fun k => g133 95 k rfl) (fun k => g133 97 k rfl) (fun k => g133 98 k rfl) (fun k => g133 19 k rfl) (fun k => g133 18 k rfl) (fun k => g133 41 k rfl) (fun k => g133 6 k rfl) (fun k => g133 99 k rfl) (fun k => g133 105 k rfl) (fun k => g133 107 k rfl) (fun k => g133 108 k rfl) (fun k => g133 110 k rfl) (fun k => g133 111 k rfl) (g133 0 157 rfl) (g133 0 158 rfl) (g133 0 177 rfl) (g133 0 186 rfl) (g133 0 159 rfl) hI118
        have KPL_I134 := gr_PL_fr KPL_I118 (fun k => g133 114 k rfl) (fun k => g133 115 k rfl) (fun k => g133 6 k rfl) (g133 0 3 rfl)
        have KOX_I134 := gr_OX_fr KOX_I118 (fun k => g133 121 k rfl) (fun k => g133 120 k rfl)
        refine gv_callV hD rfl (As := [.inl (I118 110 (Int.toNat v4_14)), .inl (I118 111 (Int.toNat v4_14))]) (st := []) rfl (by decide) rfl rfl (gr_lV hws rfl) (Nat.le_of_ble_eq_true rfl) (gz_Ev_mono (d := 800) (by decide) E133) ?_
        show gv_X _ _ (101, [(0, .inr (.inr (some 0))), (3, .inl a3), (4, .inl v4_14)], [], gr_sh ++ ext, gr_h I134 J135)
        have f143 := (show 0 ≤ I134 0 188 ∧ I134 0 188 ≤ 2000 from (hI134 0 188).1)
        refine gv_run 3 true hD (pc' := 107) (lv' := [(0, .inr (.inr (some 0))), (3, .inl a3), (4, .inl v4_14)]) (st' := [.inl 60, .inl (I134 0 188)]) (h' := gr_h I134 J135) (C := (((True ∧ True) ∧ True) ∧ True)) rfl ⟨⟨⟨trivial, trivial⟩, trivial⟩, trivial⟩ ?_
        refine gv_icmp_le (t := 113) hD rfl rfl ⟨⟨by omega, by omega⟩, ⟨by omega, by omega⟩⟩ (fun c144 => ?_) (fun c144 => ?_)
        · refine gv_run 3 true hD (pc' := 116) (lv' := [(0, .inr (.inr (some 0))), (3, .inl a3), (4, .inl v4_14)]) (st' := [.inl 0, .inl a3, .inr (.inr (some 0))]) (h' := gr_h I134 J135) (C := (((True ∧ True) ∧ True) ∧ True)) rfl ⟨⟨⟨trivial, trivial⟩, trivial⟩, trivial⟩ ?_
          obtain ⟨r145, h145, E145, P145⟩ := r_options_x (ws0 := ws0) (tb := tb) hws htb ext (I134 0 188) 61 I134 J135 hI134 a3 0 ⟨by omega, by omega⟩ ⟨by omega, by omega⟩ (by have u9 := q133.2.2.2; rw [show I118 0 188 = 0 from by omega] at u9; exact gr_PX_of (gr_CD_of u9) ⟨by omega, by omega⟩) (by omega) KGR_I134 KOX_I134 (by omega)
          obtain ⟨I146, J147, rfl, hI146, g145, k145, ⟨z145, rfl, q145⟩⟩ := P145
          have FI146 := gr_frt FI134 g145 rfl rfl
          have FJ147 := gr_fjt FJ135 k145 rfl rfl
          have t148 := g145 0 188 rfl
          have t149 := g145 0 186 rfl
          have t150 := g145 0 201 rfl
          have t151 := g145 0 177 rfl
          have f152 := (show 0 ≤ I146 0 188 ∧ I146 0 188 ≤ 2000 from (hI146 0 188).1)
          have f153 := (show 0 ≤ I146 0 186 ∧ I146 0 186 ≤ 16 from (hI146 0 186).1)
          have f154 := (show 0 ≤ I146 0 201 ∧ I146 0 201 ≤ 16 from (hI146 0 201).1)
          have f155 := (show (-1) ≤ I146 0 177 ∧ I146 0 177 ≤ 2999 from (hI146 0 177).1)
          have KGR_I146 := gr_GR_fr KGR_I134 (fun k => g145 19 k rfl) (fun k => g145 18 k rfl) (fun k => g145 36 k rfl) (fun k => g145 41 k rfl) (fun k => g145 42 k rfl) (fun k => g145 43 k rfl) (fun k => g145 45 k rfl) (fun k => g145 46 k rfl) (fun k => g145 47 k rfl) (fun k => g145 6 k rfl) (fun k => g145 7 k rfl) (fun k => g145 8 k rfl) (g145 0 3 rfl)
          have KFV_I146 := gr_FV_fr KFV_I134 (fun k => g145 87 k rfl) (fun k => g145 88 k rfl) (fun k => g145 104 k rfl) (fun k => g145 90 k rfl) (fun k => g145 91 k rfl) (fun k => g145 92 k rfl) (fun k => g145 94 k rfl) (fun k => g145 95 k rfl) (fun k => g145 97 k rfl) (fun k => g145 98 k rfl) (fun k => g145 19 k rfl) (fun k => g145 18 k rfl) (fun k => g145 41 k rfl) (fun k => g145 6 k rfl) (fun k => g145 99 k rfl) (fun k => g145 105 k rfl) (fun k => g145 107 k rfl) (fun k => g145 108 k rfl) (fun k => g145 110 k rfl) (fun k => g145 111 k rfl) (g145 0 157 rfl) (g145 0 158 rfl) (g145 0 177 rfl) (g145 0 186 rfl) (g145 0 159 rfl) hI134
          have KPL_I146 := gr_PL_fr KPL_I134 (fun k => g145 114 k rfl) (fun k => g145 115 k rfl) (fun k => g145 6 k rfl) (g145 0 3 rfl)
          have KOX_I146 : gr_OX I146 := q145.2.2.2.2.1
          refine gv_callV hD rfl (As := [.inl a3, .inl 0]) (st := []) rfl (by decide) rfl rfl (gr_lV hws rfl) (Nat.le_of_ble_eq_true rfl) (gz_Ev_mono (d := 70) (by decide) E145) ?_
          show gv_X _ _ (119, [(0, .inr (.inr (some 0))), (3, .inl a3), (4, .inl v4_14)], [.inl z145], gr_sh ++ ext, gr_h I146 J147)
          have f156 := (show 0 ≤ I146 121 (Int.toNat 0) ∧ I146 121 (Int.toNat 0) ≤ 24 from (hI146 121 (Int.toNat 0)).1)
          refine gv_run 5 true hD (pc' := 126) (lv' := [(0, .inr (.inr (some 0))), (3, .inl a3), (4, .inl v4_14)]) (st' := [.inl (I146 121 (Int.toNat 0))]) (h' := gr_h I146 J147) (C := (((((True ∧ True) ∧ True) ∧ True) ∧ True) ∧ (0 ≤ 0 ∧ 0 < ((60 : Nat) : Int)))) rfl ⟨⟨⟨⟨⟨trivial, trivial⟩, trivial⟩, trivial⟩, trivial⟩, ⟨by omega, by omega⟩⟩ ?_
          refine gv_if_ne (t := 132) hD rfl rfl ⟨by omega, by omega⟩ (fun c157 => ?_) (fun c157 => ?_)
          · have f158 := (show 0 ≤ I146 120 (Int.toNat 0) ∧ I146 120 (Int.toNat 0) ≤ 1439 from (hI146 120 (Int.toNat 0)).1)
            refine gv_run 4 true hD (pc' := 138) (lv' := [(0, .inr (.inr (some 0))), (3, .inl a3), (4, .inl v4_14)]) (st' := [.inl (I146 120 (Int.toNat 0))]) (h' := gr_h I146 J147) (C := ((((True ∧ True) ∧ True) ∧ True) ∧ (0 ≤ 0 ∧ 0 < ((1440 : Nat) : Int)))) rfl ⟨⟨⟨⟨trivial, trivial⟩, trivial⟩, trivial⟩, ⟨by omega, by omega⟩⟩ ?_
            refine gv_run 5 true hD (pc' := 146) (lv' := [(7, .inl 0), (6, .inl 0), (5, .inl (I146 120 (Int.toNat 0))), (0, .inr (.inr (some 0))), (3, .inl a3), (4, .inl v4_14)]) (st' := []) (h' := gr_h I146 J147) (C := (((((True ∧ True) ∧ True) ∧ True) ∧ True) ∧ True)) rfl ⟨⟨⟨⟨⟨trivial, trivial⟩, trivial⟩, trivial⟩, trivial⟩, trivial⟩ ?_
            refine gv_pick [3, 4, 5, 2, 1, 0] rfl ?_
            exact L146 _ I146 J147 ((I146 120 (Int.toNat 0))) 0 0 (Nat.lt_succ_self _) hI146 FI146 FJ147 KGR_I146 KFV_I146 KPL_I146 KOX_I146 (by omega)
          · refine gv_run 1 true hD (pc' := 339) (lv' := [(0, .inr (.inr (some 0))), (3, .inl a3), (4, .inl v4_14)]) (st' := []) (h' := gr_h I146 J147) (C := (True ∧ True)) rfl ⟨trivial, trivial⟩ ?_
            exact L339 I146 J147 hI146 FI146 FJ147 KGR_I146 KFV_I146 KPL_I146 KOX_I146 (by omega)
        · refine gv_run 1 true hD (pc' := 339) (lv' := [(0, .inr (.inr (some 0))), (3, .inl a3), (4, .inl v4_14)]) (st' := []) (h' := gr_h I134 J135) (C := (True ∧ True)) rfl ⟨trivial, trivial⟩ ?_
          exact L339 I134 J135 hI134 FI134 FJ135 KGR_I134 KFV_I134 KPL_I134 KOX_I134 (by omega)
  refine gv_run 2 true hD (pc' := 2) (lv' := [(0, .inr (.inr (some 0))), (1, .inl a1), (2, .inl a2), (3, .inl a3)]) (st' := [.inl a1, .inr (.inr (some 0))]) (h' := gr_h I J) (C := ((True ∧ True) ∧ True)) rfl ⟨⟨trivial, trivial⟩, trivial⟩ ?_
  obtain ⟨r159, h159, E159, P159⟩ := r_noTongue (ws0 := ws0) (tb := tb) hws htb ext I J hI a1 ⟨by omega, by omega⟩ 
  obtain ⟨I160, J161, rfl, hI160, g159, k159, ⟨z159, rfl, q159⟩⟩ := P159
  have FI160 := gr_frt FI g159 rfl rfl
  have FJ161 := gr_fjt FJ k159 rfl rfl
  have t162 := g159 0 188 rfl
  have t163 := g159 0 186 rfl
  have t164 := g159 0 201 rfl
  have t165 := g159 0 177 rfl
  have f166 := (show 0 ≤ I160 0 188 ∧ I160 0 188 ≤ 2000 from (hI160 0 188).1)
  have f167 := (show 0 ≤ I160 0 186 ∧ I160 0 186 ≤ 16 from (hI160 0 186).1)
  have f168 := (show 0 ≤ I160 0 201 ∧ I160 0 201 ≤ 16 from (hI160 0 201).1)
  have f169 := (show (-1) ≤ I160 0 177 ∧ I160 0 177 ≤ 2999 from (hI160 0 177).1)
  have KGR_I160 := gr_GR_fr KGR_I (fun k => g159 19 k rfl) (fun k => g159 18 k rfl) (fun k => g159 36 k rfl) (fun k => g159 41 k rfl) (fun k => g159 42 k rfl) (fun k => g159 43 k rfl) (fun k => g159 45 k rfl) (fun k => g159 46 k rfl) (fun k => g159 47 k rfl) (fun k => g159 6 k rfl) (fun k => g159 7 k rfl) (fun k => g159 8 k rfl) (g159 0 3 rfl)
  have KFV_I160 := gr_FV_fr KFV_I (fun k => g159 87 k rfl) (fun k => g159 88 k rfl) (fun k => g159 104 k rfl) (fun k => g159 90 k rfl) (fun k => g159 91 k rfl) (fun k => g159 92 k rfl) (fun k => g159 94 k rfl) (fun k => g159 95 k rfl) (fun k => g159 97 k rfl) (fun k => g159 98 k rfl) (fun k => g159 19 k rfl) (fun k => g159 18 k rfl) (fun k => g159 41 k rfl) (fun k => g159 6 k rfl) (fun k => g159 99 k rfl) (fun k => g159 105 k rfl) (fun k => g159 107 k rfl) (fun k => g159 108 k rfl) (fun k => g159 110 k rfl) (fun k => g159 111 k rfl) (g159 0 157 rfl) (g159 0 158 rfl) (g159 0 177 rfl) (g159 0 186 rfl) (g159 0 159 rfl) hI
  have KPL_I160 := gr_PL_fr KPL_I (fun k => g159 114 k rfl) (fun k => g159 115 k rfl) (fun k => g159 6 k rfl) (g159 0 3 rfl)
  have KOX_I160 := gr_OX_fr KOX_I (fun k => g159 121 k rfl) (fun k => g159 120 k rfl)
  refine gv_callV hD rfl (As := [.inl a1]) (st := []) rfl (by decide) rfl rfl (gr_lV hws rfl) (Nat.le_of_ble_eq_true rfl) (gz_Ev_mono (d := 1) (by decide) E159) ?_
  show gv_X _ _ (5, [(0, .inr (.inr (some 0))), (1, .inl a1), (2, .inl a2), (3, .inl a3)], [.inl z159], gr_sh ++ ext, gr_h I160 J161)
  refine gv_if_ne (t := 24) hD rfl rfl ⟨by omega, by omega⟩ (fun c170 => ?_) (fun c170 => ?_)
  · refine gv_pick [] rfl ?_
    exact L24 I160 J161 hI160 FI160 FJ161 KGR_I160 KFV_I160 KPL_I160 KOX_I160
  · refine gv_run 2 true hD (pc' := 10) (lv' := [(0, .inr (.inr (some 0))), (1, .inl a1), (2, .inl a2), (3, .inl a3)]) (st' := [.inl a2, .inr (.inr (some 0))]) (h' := gr_h I160 J161) (C := ((True ∧ True) ∧ True)) rfl ⟨⟨trivial, trivial⟩, trivial⟩ ?_
    obtain ⟨r171, h171, E171, P171⟩ := r_noKind (ws0 := ws0) (tb := tb) hws htb ext I160 J161 hI160 a2 ⟨by omega, by omega⟩ 
    obtain ⟨I172, J173, rfl, hI172, g171, k171, ⟨z171, rfl, q171⟩⟩ := P171
    have FI172 := gr_frt FI160 g171 rfl rfl
    have FJ173 := gr_fjt FJ161 k171 rfl rfl
    have t174 := g171 0 188 rfl
    have t175 := g171 0 186 rfl
    have t176 := g171 0 201 rfl
    have t177 := g171 0 177 rfl
    have f178 := (show 0 ≤ I172 0 188 ∧ I172 0 188 ≤ 2000 from (hI172 0 188).1)
    have f179 := (show 0 ≤ I172 0 186 ∧ I172 0 186 ≤ 16 from (hI172 0 186).1)
    have f180 := (show 0 ≤ I172 0 201 ∧ I172 0 201 ≤ 16 from (hI172 0 201).1)
    have f181 := (show (-1) ≤ I172 0 177 ∧ I172 0 177 ≤ 2999 from (hI172 0 177).1)
    have KGR_I172 := gr_GR_fr KGR_I160 (fun k => g171 19 k rfl) (fun k => g171 18 k rfl) (fun k => g171 36 k rfl) (fun k => g171 41 k rfl) (fun k => g171 42 k rfl) (fun k => g171 43 k rfl) (fun k => g171 45 k rfl) (fun k => g171 46 k rfl) (fun k => g171 47 k rfl) (fun k => g171 6 k rfl) (fun k => g171 7 k rfl) (fun k => g171 8 k rfl) (g171 0 3 rfl)
    have KFV_I172 := gr_FV_fr KFV_I160 (fun k => g171 87 k rfl) (fun k => g171 88 k rfl) (fun k => g171 104 k rfl) (fun k => g171 90 k rfl) (fun k => g171 91 k rfl) (fun k => g171 92 k rfl) (fun k => g171 94 k rfl) (fun k => g171 95 k rfl) (fun k => g171 97 k rfl) (fun k => g171 98 k rfl) (fun k => g171 19 k rfl) (fun k => g171 18 k rfl) (fun k => g171 41 k rfl) (fun k => g171 6 k rfl) (fun k => g171 99 k rfl) (fun k => g171 105 k rfl) (fun k => g171 107 k rfl) (fun k => g171 108 k rfl) (fun k => g171 110 k rfl) (fun k => g171 111 k rfl) (g171 0 157 rfl) (g171 0 158 rfl) (g171 0 177 rfl) (g171 0 186 rfl) (g171 0 159 rfl) hI160
    have KPL_I172 := gr_PL_fr KPL_I160 (fun k => g171 114 k rfl) (fun k => g171 115 k rfl) (fun k => g171 6 k rfl) (g171 0 3 rfl)
    have KOX_I172 := gr_OX_fr KOX_I160 (fun k => g171 121 k rfl) (fun k => g171 120 k rfl)
    refine gv_callV hD rfl (As := [.inl a2]) (st := []) rfl (by decide) rfl rfl (gr_lV hws rfl) (Nat.le_of_ble_eq_true rfl) (gz_Ev_mono (d := 1) (by decide) E171) ?_
    show gv_X _ _ (13, [(0, .inr (.inr (some 0))), (1, .inl a1), (2, .inl a2), (3, .inl a3)], [.inl z171], gr_sh ++ ext, gr_h I172 J173)
    refine gv_if_ne (t := 24) hD rfl rfl ⟨by omega, by omega⟩ (fun c182 => ?_) (fun c182 => ?_)
    · refine gv_pick [] rfl ?_
      exact L24 I172 J173 hI172 FI172 FJ173 KGR_I172 KFV_I172 KPL_I172 KOX_I172
    · refine gv_run 2 true hD (pc' := 18) (lv' := [(0, .inr (.inr (some 0))), (1, .inl a1), (2, .inl a2), (3, .inl a3)]) (st' := [.inl a3, .inr (.inr (some 0))]) (h' := gr_h I172 J173) (C := ((True ∧ True) ∧ True)) rfl ⟨⟨trivial, trivial⟩, trivial⟩ ?_
      obtain ⟨r183, h183, E183, P183⟩ := r_noTongue (ws0 := ws0) (tb := tb) hws htb ext I172 J173 hI172 a3 ⟨by omega, by omega⟩ 
      obtain ⟨I184, J185, rfl, hI184, g183, k183, ⟨z183, rfl, q183⟩⟩ := P183
      have FI184 := gr_frt FI172 g183 rfl rfl
      have FJ185 := gr_fjt FJ173 k183 rfl rfl
      have t186 := g183 0 188 rfl
      have t187 := g183 0 186 rfl
      have t188 := g183 0 201 rfl
      have t189 := g183 0 177 rfl
      have f190 := (show 0 ≤ I184 0 188 ∧ I184 0 188 ≤ 2000 from (hI184 0 188).1)
      have f191 := (show 0 ≤ I184 0 186 ∧ I184 0 186 ≤ 16 from (hI184 0 186).1)
      have f192 := (show 0 ≤ I184 0 201 ∧ I184 0 201 ≤ 16 from (hI184 0 201).1)
      have f193 := (show (-1) ≤ I184 0 177 ∧ I184 0 177 ≤ 2999 from (hI184 0 177).1)
      have KGR_I184 := gr_GR_fr KGR_I172 (fun k => g183 19 k rfl) (fun k => g183 18 k rfl) (fun k => g183 36 k rfl) (fun k => g183 41 k rfl) (fun k => g183 42 k rfl) (fun k => g183 43 k rfl) (fun k => g183 45 k rfl) (fun k => g183 46 k rfl) (fun k => g183 47 k rfl) (fun k => g183 6 k rfl) (fun k => g183 7 k rfl) (fun k => g183 8 k rfl) (g183 0 3 rfl)
      have KFV_I184 := gr_FV_fr KFV_I172 (fun k => g183 87 k rfl) (fun k => g183 88 k rfl) (fun k => g183 104 k rfl) (fun k => g183 90 k rfl) (fun k => g183 91 k rfl) (fun k => g183 92 k rfl) (fun k => g183 94 k rfl) (fun k => g183 95 k rfl) (fun k => g183 97 k rfl) (fun k => g183 98 k rfl) (fun k => g183 19 k rfl) (fun k => g183 18 k rfl) (fun k => g183 41 k rfl) (fun k => g183 6 k rfl) (fun k => g183 99 k rfl) (fun k => g183 105 k rfl) (fun k => g183 107 k rfl) (fun k => g183 108 k rfl) (fun k => g183 110 k rfl) (fun k => g183 111 k rfl) (g183 0 157 rfl) (g183 0 158 rfl) (g183 0 177 rfl) (g183 0 186 rfl) (g183 0 159 rfl) hI172
      have KPL_I184 := gr_PL_fr KPL_I172 (fun k => g183 114 k rfl) (fun k => g183 115 k rfl) (fun k => g183 6 k rfl) (g183 0 3 rfl)
      have KOX_I184 := gr_OX_fr KOX_I172 (fun k => g183 121 k rfl) (fun k => g183 120 k rfl)
      refine gv_callV hD rfl (As := [.inl a3]) (st := []) rfl (by decide) rfl rfl (gr_lV hws rfl) (Nat.le_of_ble_eq_true rfl) (gz_Ev_mono (d := 1) (by decide) E183) ?_
      show gv_X _ _ (21, [(0, .inr (.inr (some 0))), (1, .inl a1), (2, .inl a2), (3, .inl a3)], [.inl z183], gr_sh ++ ext, gr_h I184 J185)
      refine gv_if_eq (t := 26) hD rfl rfl ⟨by omega, by omega⟩ (fun c194 => ?_) (fun c194 => ?_)
      · refine gv_run 3 true hD (pc' := 31) (lv' := [(0, .inr (.inr (some 0))), (1, .inl a1), (2, .inl a2), (3, .inl a3)]) (st' := []) (h' := gz_up (gr_h I184 J185) 0 201 (.inl 0)) (C := (((True ∧ True) ∧ True) ∧ True)) rfl ⟨⟨⟨trivial, trivial⟩, trivial⟩, trivial⟩ ?_
        refine gr_st hI184 FI184 rfl rfl ⟨⟨by show 0 ≤ _; omega, by show _ ≤ 16; omega⟩, trivial⟩ (fun I195 hI195 FI195 q196 p196 => ?_)
        have t197 := p196 0 188 (by decide)
        have t198 := p196 0 186 (by decide)
        have t199 := p196 0 177 (by decide)
        have f200 := (show 0 ≤ I195 0 188 ∧ I195 0 188 ≤ 2000 from (hI195 0 188).1)
        have f201 := (show 0 ≤ I195 0 186 ∧ I195 0 186 ≤ 16 from (hI195 0 186).1)
        have f202 := (show 0 ≤ I195 0 201 ∧ I195 0 201 ≤ 16 from (hI195 0 201).1)
        have f203 := (show (-1) ≤ I195 0 177 ∧ I195 0 177 ≤ 2999 from (hI195 0 177).1)
        have KGR_I195 := gr_GR_fr KGR_I184 (fun k => p196 19 k (fun q => absurd q.1 (by decide))) (fun k => p196 18 k (fun q => absurd q.1 (by decide))) (fun k => p196 36 k (fun q => absurd q.1 (by decide))) (fun k => p196 41 k (fun q => absurd q.1 (by decide))) (fun k => p196 42 k (fun q => absurd q.1 (by decide))) (fun k => p196 43 k (fun q => absurd q.1 (by decide))) (fun k => p196 45 k (fun q => absurd q.1 (by decide))) (fun k => p196 46 k (fun q => absurd q.1 (by decide))) (fun k => p196 47 k (fun q => absurd q.1 (by decide))) (fun k => p196 6 k (fun q => absurd q.1 (by decide))) (fun k => p196 7 k (fun q => absurd q.1 (by decide))) (fun k => p196 8 k (fun q => absurd q.1 (by decide))) (p196 0 3 (by decide))
        have KFV_I195 := gr_FV_fr KFV_I184 (fun k => p196 87 k (fun q => absurd q.1 (by decide))) (fun k => p196 88 k (fun q => absurd q.1 (by decide))) (fun k => p196 104 k (fun q => absurd q.1 (by decide))) (fun k => p196 90 k (fun q => absurd q.1 (by decide))) (fun k => p196 91 k (fun q => absurd q.1 (by decide))) (fun k => p196 92 k (fun q => absurd q.1 (by decide))) (fun k => p196 94 k (fun q => absurd q.1 (by decide))) (fun k => p196 95 k (fun q => absurd q.1 (by decide))) (fun k => p196 97 k (fun q => absurd q.1 (by decide))) (fun k => p196 98 k (fun q => absurd q.1 (by decide))) (fun k => p196 19 k (fun q => absurd q.1 (by decide))) (fun k => p196 18 k (fun q => absurd q.1 (by decide))) (fun k => p196 41 k (fun q => absurd q.1 (by decide))) (fun k => p196 6 k (fun q => absurd q.1 (by decide))) (fun k => p196 99 k (fun q => absurd q.1 (by decide))) (fun k => p196 105 k (fun q => absurd q.1 (by decide))) (fun k => p196 107 k (fun q => absurd q.1 (by decide))) (fun k => p196 108 k (fun q => absurd q.1 (by decide))) (fun k => p196 110 k (fun q => absurd q.1 (by decide))) (fun k => p196 111 k (fun q => absurd q.1 (by decide))) (p196 0 157 (by decide)) (p196 0 158 (by decide)) (p196 0 177 (by decide)) (p196 0 186 (by decide)) (p196 0 159 (by decide)) hI184
        have KPL_I195 := gr_PL_fr KPL_I184 (fun k => p196 114 k (fun q => absurd q.1 (by decide))) (fun k => p196 115 k (fun q => absurd q.1 (by decide))) (fun k => p196 6 k (fun q => absurd q.1 (by decide))) (p196 0 3 (by decide))
        have KOX_I195 := gr_OX_fr KOX_I184 (fun k => p196 121 k (fun q => absurd q.1 (by decide))) (fun k => p196 120 k (fun q => absurd q.1 (by decide)))
        refine gv_run 1 true hD (pc' := 32) (lv' := [(0, .inr (.inr (some 0))), (1, .inl a1), (2, .inl a2), (3, .inl a3)]) (st' := [.inr (.inr (some 0))]) (h' := gr_h I195 J185) (C := (True ∧ True)) rfl ⟨trivial, trivial⟩ ?_
        obtain ⟨r204, h204, E204, P204⟩ := r_sentence (ws0 := ws0) (tb := tb) hws htb ext I195 J185 hI195   
        obtain ⟨I205, J206, rfl, hI205, g204, k204, ⟨z204, rfl, q204⟩⟩ := P204
        have FI205 := gr_frt FI195 g204 rfl rfl
        have FJ206 := gr_fjt FJ185 k204 rfl rfl
        have t207 := g204 0 188 rfl
        have t208 := g204 0 186 rfl
        have t209 := g204 0 201 rfl
        have t210 := g204 0 177 rfl
        have f211 := (show 0 ≤ I205 0 188 ∧ I205 0 188 ≤ 2000 from (hI205 0 188).1)
        have f212 := (show 0 ≤ I205 0 186 ∧ I205 0 186 ≤ 16 from (hI205 0 186).1)
        have f213 := (show 0 ≤ I205 0 201 ∧ I205 0 201 ≤ 16 from (hI205 0 201).1)
        have f214 := (show (-1) ≤ I205 0 177 ∧ I205 0 177 ≤ 2999 from (hI205 0 177).1)
        have KGR_I205 := gr_GR_fr KGR_I195 (fun k => g204 19 k rfl) (fun k => g204 18 k rfl) (fun k => g204 36 k rfl) (fun k => g204 41 k rfl) (fun k => g204 42 k rfl) (fun k => g204 43 k rfl) (fun k => g204 45 k rfl) (fun k => g204 46 k rfl) (fun k => g204 47 k rfl) (fun k => g204 6 k rfl) (fun k => g204 7 k rfl) (fun k => g204 8 k rfl) (g204 0 3 rfl)
        have KFV_I205 := gr_FV_fr KFV_I195 (fun k => g204 87 k rfl) (fun k => g204 88 k rfl) (fun k => g204 104 k rfl) (fun k => g204 90 k rfl) (fun k => g204 91 k rfl) (fun k => g204 92 k rfl) (fun k => g204 94 k rfl) (fun k => g204 95 k rfl) (fun k => g204 97 k rfl) (fun k => g204 98 k rfl) (fun k => g204 19 k rfl) (fun k => g204 18 k rfl) (fun k => g204 41 k rfl) (fun k => g204 6 k rfl) (fun k => g204 99 k rfl) (fun k => g204 105 k rfl) (fun k => g204 107 k rfl) (fun k => g204 108 k rfl) (fun k => g204 110 k rfl) (fun k => g204 111 k rfl) (g204 0 157 rfl) (g204 0 158 rfl) (g204 0 177 rfl) (g204 0 186 rfl) (g204 0 159 rfl) hI195
        have KPL_I205 := gr_PL_fr KPL_I195 (fun k => g204 114 k rfl) (fun k => g204 115 k rfl) (fun k => g204 6 k rfl) (g204 0 3 rfl)
        have KOX_I205 := gr_OX_fr KOX_I195 (fun k => g204 121 k rfl) (fun k => g204 120 k rfl)
        refine gv_callV hD rfl (As := []) (st := []) rfl (by decide) rfl rfl (gr_lV hws rfl) (Nat.le_of_ble_eq_true rfl) (gz_Ev_mono (d := 2) (by decide) E204) ?_
        show gv_X _ _ (35, [(0, .inr (.inr (some 0))), (1, .inl a1), (2, .inl a2), (3, .inl a3)], [.inl z204], gr_sh ++ ext, gr_h I205 J206)
        refine gv_if_ne (t := 45) hD rfl rfl ⟨by omega, by omega⟩ (fun c215 => ?_) (fun c215 => ?_)
        · refine gv_run 3 true hD (pc' := 50) (lv' := [(0, .inr (.inr (some 0))), (1, .inl a1), (2, .inl a2), (3, .inl a3)]) (st' := []) (h' := gz_up (gr_h I205 J206) 0 161 (.inl 0)) (C := (((True ∧ True) ∧ True) ∧ True)) rfl ⟨⟨⟨trivial, trivial⟩, trivial⟩, trivial⟩ ?_
          refine gr_st hI205 FI205 rfl rfl ⟨⟨by show 0 ≤ _; omega, by show _ ≤ 400001; omega⟩, trivial⟩ (fun I216 hI216 FI216 q217 p217 => ?_)
          have t218 := p217 0 188 (by decide)
          have t219 := p217 0 186 (by decide)
          have t220 := p217 0 201 (by decide)
          have t221 := p217 0 177 (by decide)
          have f222 := (show 0 ≤ I216 0 188 ∧ I216 0 188 ≤ 2000 from (hI216 0 188).1)
          have f223 := (show 0 ≤ I216 0 186 ∧ I216 0 186 ≤ 16 from (hI216 0 186).1)
          have f224 := (show 0 ≤ I216 0 201 ∧ I216 0 201 ≤ 16 from (hI216 0 201).1)
          have f225 := (show (-1) ≤ I216 0 177 ∧ I216 0 177 ≤ 2999 from (hI216 0 177).1)
          have KGR_I216 := gr_GR_fr KGR_I205 (fun k => p217 19 k (fun q => absurd q.1 (by decide))) (fun k => p217 18 k (fun q => absurd q.1 (by decide))) (fun k => p217 36 k (fun q => absurd q.1 (by decide))) (fun k => p217 41 k (fun q => absurd q.1 (by decide))) (fun k => p217 42 k (fun q => absurd q.1 (by decide))) (fun k => p217 43 k (fun q => absurd q.1 (by decide))) (fun k => p217 45 k (fun q => absurd q.1 (by decide))) (fun k => p217 46 k (fun q => absurd q.1 (by decide))) (fun k => p217 47 k (fun q => absurd q.1 (by decide))) (fun k => p217 6 k (fun q => absurd q.1 (by decide))) (fun k => p217 7 k (fun q => absurd q.1 (by decide))) (fun k => p217 8 k (fun q => absurd q.1 (by decide))) (p217 0 3 (by decide))
          have KFV_I216 := gr_FV_fr KFV_I205 (fun k => p217 87 k (fun q => absurd q.1 (by decide))) (fun k => p217 88 k (fun q => absurd q.1 (by decide))) (fun k => p217 104 k (fun q => absurd q.1 (by decide))) (fun k => p217 90 k (fun q => absurd q.1 (by decide))) (fun k => p217 91 k (fun q => absurd q.1 (by decide))) (fun k => p217 92 k (fun q => absurd q.1 (by decide))) (fun k => p217 94 k (fun q => absurd q.1 (by decide))) (fun k => p217 95 k (fun q => absurd q.1 (by decide))) (fun k => p217 97 k (fun q => absurd q.1 (by decide))) (fun k => p217 98 k (fun q => absurd q.1 (by decide))) (fun k => p217 19 k (fun q => absurd q.1 (by decide))) (fun k => p217 18 k (fun q => absurd q.1 (by decide))) (fun k => p217 41 k (fun q => absurd q.1 (by decide))) (fun k => p217 6 k (fun q => absurd q.1 (by decide))) (fun k => p217 99 k (fun q => absurd q.1 (by decide))) (fun k => p217 105 k (fun q => absurd q.1 (by decide))) (fun k => p217 107 k (fun q => absurd q.1 (by decide))) (fun k => p217 108 k (fun q => absurd q.1 (by decide))) (fun k => p217 110 k (fun q => absurd q.1 (by decide))) (fun k => p217 111 k (fun q => absurd q.1 (by decide))) (p217 0 157 (by decide)) (p217 0 158 (by decide)) (p217 0 177 (by decide)) (p217 0 186 (by decide)) (p217 0 159 (by decide)) hI205
          have KPL_I216 := gr_PL_fr KPL_I205 (fun k => p217 114 k (fun q => absurd q.1 (by decide))) (fun k => p217 115 k (fun q => absurd q.1 (by decide))) (fun k => p217 6 k (fun q => absurd q.1 (by decide))) (p217 0 3 (by decide))
          have KOX_I216 := gr_OX_fr KOX_I205 (fun k => p217 121 k (fun q => absurd q.1 (by decide))) (fun k => p217 120 k (fun q => absurd q.1 (by decide)))
          refine gv_run 3 true hD (pc' := 53) (lv' := [(0, .inr (.inr (some 0))), (1, .inl a1), (2, .inl a2), (3, .inl a3)]) (st' := [.inl a2, .inl a1, .inr (.inr (some 0))]) (h' := gr_h I216 J206) (C := (((True ∧ True) ∧ True) ∧ True)) rfl ⟨⟨⟨trivial, trivial⟩, trivial⟩, trivial⟩ ?_
          obtain ⟨r226, h226, E226, P226⟩ := r_parsed (ws0 := ws0) (tb := tb) hws htb ext I216 J206 hI216 a1 a2 ⟨by omega, by omega⟩ ⟨by omega, by omega⟩ KGR_I216
          obtain ⟨I227, J228, rfl, hI227, g226, k226, KGR_I227, ⟨z226, rfl, q226⟩⟩ := P226
          have FI227 := gr_frt FI216 g226 rfl rfl
          have FJ228 := gr_fjt FJ206 k226 rfl rfl
          have t229 := g226 0 188 rfl
          have t230 := g226 0 201 rfl
          have f231 := (show 0 ≤ I227 0 188 ∧ I227 0 188 ≤ 2000 from (hI227 0 188).1)
          have f232 := (show 0 ≤ I227 0 186 ∧ I227 0 186 ≤ 16 from (hI227 0 186).1)
          have f233 := (show 0 ≤ I227 0 201 ∧ I227 0 201 ≤ 16 from (hI227 0 201).1)
          have f234 := (show (-1) ≤ I227 0 177 ∧ I227 0 177 ≤ 2999 from (hI227 0 177).1)
          have KPL_I227 := gr_PL_fr KPL_I216 (fun k => g226 114 k rfl) (fun k => g226 115 k rfl) (fun k => g226 6 k rfl) (g226 0 3 rfl)
          have KOX_I227 := gr_OX_fr KOX_I216 (fun k => g226 121 k rfl) (fun k => g226 120 k rfl)
          have KFV_I227 : gr_FV I227 := q226.2.2
          refine gv_callV hD rfl (As := [.inl a1, .inl a2]) (st := []) rfl (by decide) rfl rfl (gr_lV hws rfl) (Nat.le_of_ble_eq_true rfl) (gz_Ev_mono (d := 12) (by decide) E226) ?_
          show gv_X _ _ (56, [(0, .inr (.inr (some 0))), (1, .inl a1), (2, .inl a2), (3, .inl a3)], [.inl z226], gr_sh ++ ext, gr_h I227 J228)
          refine gv_if_ge (t := 61) hD rfl rfl ⟨by omega, by omega⟩ (fun c235 => ?_) (fun c235 => ?_)
          · refine gv_run 2 true hD (pc' := 63) (lv' := [(0, .inr (.inr (some 0))), (1, .inl a1), (2, .inl a2), (3, .inl a3)]) (st' := [.inl a3, .inr (.inr (some 0))]) (h' := gr_h I227 J228) (C := ((True ∧ True) ∧ True)) rfl ⟨⟨trivial, trivial⟩, trivial⟩ ?_
            obtain ⟨r236, h236, E236, P236⟩ := r_forms_w (ws0 := ws0) (tb := tb) hws htb ext I227 J228 hI227 a3 ⟨by omega, by omega⟩ 
            obtain ⟨I237, J238, rfl, hI237, g236, k236, rfl⟩ := P236
            have FI237 := gr_frt FI227 g236 rfl rfl
            have FJ238 := gr_fjt FJ228 k236 rfl rfl
            have t239 := g236 0 188 rfl
            have t240 := g236 0 186 rfl
            have t241 := g236 0 201 rfl
            have t242 := g236 0 177 rfl
            have f243 := (show 0 ≤ I237 0 188 ∧ I237 0 188 ≤ 2000 from (hI237 0 188).1)
            have f244 := (show 0 ≤ I237 0 186 ∧ I237 0 186 ≤ 16 from (hI237 0 186).1)
            have f245 := (show 0 ≤ I237 0 201 ∧ I237 0 201 ≤ 16 from (hI237 0 201).1)
            have f246 := (show (-1) ≤ I237 0 177 ∧ I237 0 177 ≤ 2999 from (hI237 0 177).1)
            have KGR_I237 := gr_GR_fr KGR_I227 (fun k => g236 19 k rfl) (fun k => g236 18 k rfl) (fun k => g236 36 k rfl) (fun k => g236 41 k rfl) (fun k => g236 42 k rfl) (fun k => g236 43 k rfl) (fun k => g236 45 k rfl) (fun k => g236 46 k rfl) (fun k => g236 47 k rfl) (fun k => g236 6 k rfl) (fun k => g236 7 k rfl) (fun k => g236 8 k rfl) (g236 0 3 rfl)
            have KFV_I237 := gr_FV_fr KFV_I227 (fun k => g236 87 k rfl) (fun k => g236 88 k rfl) (fun k => g236 104 k rfl) (fun k => g236 90 k rfl) (fun k => g236 91 k rfl) (fun k => g236 92 k rfl) (fun k => g236 94 k rfl) (fun k => g236 95 k rfl) (fun k => g236 97 k rfl) (fun k => g236 98 k rfl) (fun k => g236 19 k rfl) (fun k => g236 18 k rfl) (fun k => g236 41 k rfl) (fun k => g236 6 k rfl) (fun k => g236 99 k rfl) (fun k => g236 105 k rfl) (fun k => g236 107 k rfl) (fun k => g236 108 k rfl) (fun k => g236 110 k rfl) (fun k => g236 111 k rfl) (g236 0 157 rfl) (g236 0 158 rfl) (g236 0 177 rfl) (g236 0 186 rfl) (g236 0 159 rfl) hI227
            have KPL_I237 := gr_PL_fr KPL_I227 (fun k => g236 114 k rfl) (fun k => g236 115 k rfl) (fun k => g236 6 k rfl) (g236 0 3 rfl)
            have KOX_I237 := gr_OX_fr KOX_I227 (fun k => g236 121 k rfl) (fun k => g236 120 k rfl)
            refine gv_callV hD rfl (As := [.inl a3]) (st := []) rfl (by decide) rfl rfl (gr_lV hws rfl) (Nat.le_of_ble_eq_true rfl) (gz_Ev_mono (d := 6) (by decide) E236) ?_
            show gv_X _ _ (66, [(0, .inr (.inr (some 0))), (1, .inl a1), (2, .inl a2), (3, .inl a3)], [], gr_sh ++ ext, gr_h I237 J238)
            refine gv_run 2 true hD (pc' := 69) (lv' := [(4, .inl 0), (0, .inr (.inr (some 0))), (1, .inl a1), (2, .inl a2), (3, .inl a3)]) (st' := []) (h' := gr_h I237 J238) (C := ((True ∧ True) ∧ True)) rfl ⟨⟨trivial, trivial⟩, trivial⟩ ?_
            refine gv_pick [1, 4, 0] rfl ?_
            exact L69 _ I237 J238 0 (Nat.lt_succ_self _) hI237 FI237 FJ238 KGR_I237 KFV_I237 KPL_I237 KOX_I237 (by omega)
          · refine gv_run 1 true hD (pc' := 60) (lv' := [(0, .inr (.inr (some 0))), (1, .inl a1), (2, .inl a2), (3, .inl a3)]) (st' := [.inl (-1)]) (h' := gr_h I227 J228) (C := (True ∧ True)) rfl ⟨trivial, trivial⟩ ?_
            exact gv_iret hD rfl ⟨I227, J228, rfl, hI227, FI227, FJ228, KGR_I227, KFV_I227, KPL_I227, KOX_I227, ⟨_, rfl, by omega⟩⟩
        · refine gv_run 1 true hD (pc' := 39) (lv' := [(0, .inr (.inr (some 0))), (1, .inl a1), (2, .inl a2), (3, .inl a3)]) (st' := [.inr (.inr (some 0))]) (h' := gr_h I205 J206) (C := (True ∧ True)) rfl ⟨trivial, trivial⟩ ?_
          obtain ⟨r247, h247, E247, P247⟩ := r_noForest_f (ws0 := ws0) (tb := tb) hws htb ext I205 J206 hI205   
          obtain ⟨I248, J249, rfl, hI248, g247, k247, ⟨rfl, q247⟩⟩ := P247
          have FI248 := gr_frt FI205 g247 rfl rfl
          have FJ249 := gr_fjt FJ206 k247 rfl rfl
          have t250 := g247 0 188 rfl
          have t251 := g247 0 201 rfl
          have f252 := (show 0 ≤ I248 0 188 ∧ I248 0 188 ≤ 2000 from (hI248 0 188).1)
          have f253 := (show 0 ≤ I248 0 186 ∧ I248 0 186 ≤ 16 from (hI248 0 186).1)
          have f254 := (show 0 ≤ I248 0 201 ∧ I248 0 201 ≤ 16 from (hI248 0 201).1)
          have f255 := (show (-1) ≤ I248 0 177 ∧ I248 0 177 ≤ 2999 from (hI248 0 177).1)
          have KGR_I248 := gr_GR_fr KGR_I205 (fun k => g247 19 k rfl) (fun k => g247 18 k rfl) (fun k => g247 36 k rfl) (fun k => g247 41 k rfl) (fun k => g247 42 k rfl) (fun k => g247 43 k rfl) (fun k => g247 45 k rfl) (fun k => g247 46 k rfl) (fun k => g247 47 k rfl) (fun k => g247 6 k rfl) (fun k => g247 7 k rfl) (fun k => g247 8 k rfl) (g247 0 3 rfl)
          have KPL_I248 := gr_PL_fr KPL_I205 (fun k => g247 114 k rfl) (fun k => g247 115 k rfl) (fun k => g247 6 k rfl) (g247 0 3 rfl)
          have KOX_I248 := gr_OX_fr KOX_I205 (fun k => g247 121 k rfl) (fun k => g247 120 k rfl)
          have KFV_I248 : gr_FV I248 := (gr_FV_no (by omega) (by omega))
          refine gv_callV hD rfl (As := []) (st := []) rfl (by decide) rfl rfl (gr_lV hws rfl) (Nat.le_of_ble_eq_true rfl) (gz_Ev_mono (d := 1) (by decide) E247) ?_
          show gv_X _ _ (42, [(0, .inr (.inr (some 0))), (1, .inl a1), (2, .inl a2), (3, .inl a3)], [], gr_sh ++ ext, gr_h I248 J249)
          refine gv_run 1 true hD (pc' := 44) (lv' := [(0, .inr (.inr (some 0))), (1, .inl a1), (2, .inl a2), (3, .inl a3)]) (st' := [.inl (-3)]) (h' := gr_h I248 J249) (C := (True ∧ True)) rfl ⟨trivial, trivial⟩ ?_
          exact gv_iret hD rfl ⟨I248, J249, rfl, hI248, FI248, FJ249, KGR_I248, KFV_I248, KPL_I248, KOX_I248, ⟨_, rfl, by omega⟩⟩
      · refine gv_pick [] rfl ?_
        exact L24 I184 J185 hI184 FI184 FJ185 KGR_I184 KFV_I184 KPL_I184 KOX_I184
