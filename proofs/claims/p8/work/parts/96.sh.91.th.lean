theorem gr_PX_fr {n : Int} {I Iₚ : gr_I} (h : gr_PX n I) (h1 : ∀ k, Iₚ 6 k = I 6 k) (h2 : ∀ k, Iₚ 113 k = I 113 k) : gr_PX n Iₚ := h.elim (fun π hp => ⟨π, gr_PD_fr hp h1 h2⟩)
set_option maxHeartbeats 8000000 in
set_option maxRecDepth 100000 in
theorem r_say {ws0 : List Cond} {tb : String → gz_T} (hws : ∀ w ∈ gr_ws, w ∈ ws0) (htb : tb RX13 = gr_T) (ext : gz_Sh) (I : gr_I) (J : gr_J) (hI : gr_Inv I) (a1 : Int) (a2 : Int) (a3 : Int) (ha1 : (-2147483648) ≤ a1 ∧ a1 ≤ 2147483647) (ha2 : (-2147483648) ≤ a2 ∧ a2 ≤ 2147483647) (ha3 : (-2147483648) ≤ a3 ∧ a3 ≤ 2147483647) (KGR_I : gr_GR I) (KFV_I : gr_FV I) (KPL_I : gr_PL I) (KOX_I : gr_OX I) : ∃ r hₚ, gz_Ev ws0 tb 71 (yX13_say, cX13_say, 6, (some .int)) [.inr (.inr (some 0)), .inl a1, .inl a2, .inl a3] (gr_sh ++ ext) (gr_h I J) r (gr_sh ++ ext) hₚ 0 0 ∧ (∃ (Iₚ : gr_I) (Jₚ : gr_J), hₚ = gr_h Iₚ Jₚ ∧ gr_Inv Iₚ ∧ gr_fr [0, 70, 126, 127, 128, 188] [58, 76, 77, 78, 79, 100, 101, 113, 116, 117, 118, 119, 120, 121, 122, 123] I Iₚ ∧ gr_fj [0, 70, 126, 127, 128, 188] [58, 76, 77, 78, 79, 100, 101, 113, 116, 117, 118, 119, 120, 121, 122, 123] J Jₚ ∧ gr_GR Iₚ ∧ gr_FV Iₚ ∧ gr_PL Iₚ ∧ gr_OX Iₚ ∧ (∃ z : Int, r = some (.inl z) ∧ (-1) ≤ z ∧ z ≤ 1000 ∧ (gr_KR I Iₚ))) := by
  have FI : gr_fr [0, 70, 126, 127, 128, 188] [58, 76, 77, 78, 79, 100, 101, 113, 116, 117, 118, 119, 120, 121, 122, 123] I I := fun _ _ _ => rfl
  have FJ : gr_fj [0, 70, 126, 127, 128, 188] [58, 76, 77, 78, 79, 100, 101, 113, 116, 117, 118, 119, 120, 121, 122, 123] J J := fun _ _ _ => rfl
  have hD : gv_D (gr_E ws0 tb 70 (yX13_say, cX13_say, 6, (some .int)) kX13_say) := gq_of oX13_say
  refine gr_ev (d := 70) (l := kX13_say) (Po := fun r hₚ => (∃ (Iₚ : gr_I) (Jₚ : gr_J), hₚ = gr_h Iₚ Jₚ ∧ gr_Inv Iₚ ∧ gr_fr [0, 70, 126, 127, 128, 188] [58, 76, 77, 78, 79, 100, 101, 113, 116, 117, 118, 119, 120, 121, 122, 123] I Iₚ ∧ gr_fj [0, 70, 126, 127, 128, 188] [58, 76, 77, 78, 79, 100, 101, 113, 116, 117, 118, 119, 120, 121, 122, 123] J Jₚ ∧ gr_GR Iₚ ∧ gr_FV Iₚ ∧ gr_PL Iₚ ∧ gr_OX Iₚ ∧ (∃ z : Int, r = some (.inl z) ∧ (-1) ≤ z ∧ z ≤ 1000 ∧ (gr_KR I Iₚ)))) htb rfl (Nat.le_of_ble_eq_true rfl) ?_
  have f1 := (gr_b_0_188 hI)
  have KKR_I : gr_KR I I := gr_KR_rf
  have L16 : ∀ (I2 : gr_I) (J3 : gr_J) , gr_Inv I2 → gr_fr [0, 70, 126, 127, 128, 188] [58, 76, 77, 78, 79, 100, 101, 113, 116, 117, 118, 119, 120, 121, 122, 123] I I2 → gr_fj [0, 70, 126, 127, 128, 188] [58, 76, 77, 78, 79, 100, 101, 113, 116, 117, 118, 119, 120, 121, 122, 123] J J3 → gr_GR I2 → gr_FV I2 → gr_PL I2 → gr_OX I2 → gr_KR I I2 → gv_X (gr_E ws0 tb 70 (yX13_say, cX13_say, 6, (some .int)) kX13_say) (gv_Q cX13_say (some .int) (gr_sh ++ ext) (fun r hₚ => (∃ (Iₚ : gr_I) (Jₚ : gr_J), hₚ = gr_h Iₚ Jₚ ∧ gr_Inv Iₚ ∧ gr_fr [0, 70, 126, 127, 128, 188] [58, 76, 77, 78, 79, 100, 101, 113, 116, 117, 118, 119, 120, 121, 122, 123] I Iₚ ∧ gr_fj [0, 70, 126, 127, 128, 188] [58, 76, 77, 78, 79, 100, 101, 113, 116, 117, 118, 119, 120, 121, 122, 123] J Jₚ ∧ gr_GR Iₚ ∧ gr_FV Iₚ ∧ gr_PL Iₚ ∧ gr_OX Iₚ ∧ (∃ z : Int, r = some (.inl z) ∧ (-1) ≤ z ∧ z ≤ 1000 ∧ (gr_KR I Iₚ))))) (16, [], [], gr_sh ++ ext, gr_h I2 J3) := by
    intro I2 J3 hI2 FI2 FJ3 KGR_I2 KFV_I2 KPL_I2 KOX_I2 KKR_I2
    have f5 := (gr_b_0_188 hI2)
    refine gv_run 1 true hD (pcₚ := 17) (lvₚ := []) (stₚ := [.inl 0]) (hₚ := gr_h I2 J3) (C := (True ∧ True)) rfl ⟨trivial, trivial⟩ ?_
    exact gv_iret hD rfl ⟨I2, J3, rfl, hI2, FI2, FJ3, KGR_I2, KFV_I2, KPL_I2, KOX_I2, ⟨_, rfl, by exact gz_m 0 (by omega), by exact gz_m 1 (by omega), KKR_I2⟩⟩
  have L59 : ∀ (I6 : gr_I) (J7 : gr_J) , gr_Inv I6 → gr_fr [0, 70, 126, 127, 128, 188] [58, 76, 77, 78, 79, 100, 101, 113, 116, 117, 118, 119, 120, 121, 122, 123] I I6 → gr_fj [0, 70, 126, 127, 128, 188] [58, 76, 77, 78, 79, 100, 101, 113, 116, 117, 118, 119, 120, 121, 122, 123] J J7 → gr_GR I6 → gr_FV I6 → gr_PL I6 → gr_OX I6 → gr_KR I I6 → gv_X (gr_E ws0 tb 70 (yX13_say, cX13_say, 6, (some .int)) kX13_say) (gv_Q cX13_say (some .int) (gr_sh ++ ext) (fun r hₚ => (∃ (Iₚ : gr_I) (Jₚ : gr_J), hₚ = gr_h Iₚ Jₚ ∧ gr_Inv Iₚ ∧ gr_fr [0, 70, 126, 127, 128, 188] [58, 76, 77, 78, 79, 100, 101, 113, 116, 117, 118, 119, 120, 121, 122, 123] I Iₚ ∧ gr_fj [0, 70, 126, 127, 128, 188] [58, 76, 77, 78, 79, 100, 101, 113, 116, 117, 118, 119, 120, 121, 122, 123] J Jₚ ∧ gr_GR Iₚ ∧ gr_FV Iₚ ∧ gr_PL Iₚ ∧ gr_OX Iₚ ∧ (∃ z : Int, r = some (.inl z) ∧ (-1) ≤ z ∧ z ≤ 1000 ∧ (gr_KR I Iₚ))))) (59, [], [], gr_sh ++ ext, gr_h I6 J7) := by
    intro I6 J7 hI6 FI6 FJ7 KGR_I6 KFV_I6 KPL_I6 KOX_I6 KKR_I6
    have f9 := (gr_b_0_188 hI6)
    refine gv_run 1 true hD (pcₚ := 60) (lvₚ := []) (stₚ := [.inl (-1)]) (hₚ := gr_h I6 J7) (C := (True ∧ True)) rfl ⟨trivial, trivial⟩ ?_
    exact gv_iret hD rfl ⟨I6, J7, rfl, hI6, FI6, FJ7, KGR_I6, KFV_I6, KPL_I6, KOX_I6, ⟨_, rfl, by exact gz_m 2 (by omega), by exact gz_m 3 (by omega), KKR_I6⟩⟩
  have L72 : ∀ (n : Nat) (I10 : gr_I) (J11 : gr_J) (v4_12 : Int) (v5_12 : Int), (201 - v5_12).toNat < n → gr_Inv I10 → gr_fr [0, 70, 126, 127, 128, 188] [58, 76, 77, 78, 79, 100, 101, 113, 116, 117, 118, 119, 120, 121, 122, 123] I I10 → gr_fj [0, 70, 126, 127, 128, 188] [58, 76, 77, 78, 79, 100, 101, 113, 116, 117, 118, 119, 120, 121, 122, 123] J J11 → gr_GR I10 → gr_FV I10 → gr_PL I10 → gr_OX I10 → gr_KR I I10 → ((0 ≤ v4_12 ∧ v4_12 ≤ 1439) ∧ (0 ≤ v5_12 ∧ v5_12 ≤ 200)) → gv_X (gr_E ws0 tb 70 (yX13_say, cX13_say, 6, (some .int)) kX13_say) (gv_Q cX13_say (some .int) (gr_sh ++ ext) (fun r hₚ => (∃ (Iₚ : gr_I) (Jₚ : gr_J), hₚ = gr_h Iₚ Jₚ ∧ gr_Inv Iₚ ∧ gr_fr [0, 70, 126, 127, 128, 188] [58, 76, 77, 78, 79, 100, 101, 113, 116, 117, 118, 119, 120, 121, 122, 123] I Iₚ ∧ gr_fj [0, 70, 126, 127, 128, 188] [58, 76, 77, 78, 79, 100, 101, 113, 116, 117, 118, 119, 120, 121, 122, 123] J Jₚ ∧ gr_GR Iₚ ∧ gr_FV Iₚ ∧ gr_PL Iₚ ∧ gr_OX Iₚ ∧ (∃ z : Int, r = some (.inl z) ∧ (-1) ≤ z ∧ z ≤ 1000 ∧ (gr_KR I Iₚ))))) (72, [(0, .inr (.inr (some 0))), (4, .inl v4_12), (5, .inl v5_12)], [], gr_sh ++ ext, gr_h I10 J11) := by
    intro n
    induction n with
    | zero => intro I10 J11 v4_12 v5_12 hn; exact gz_m 4 (by omega)
    | succ n ih72 =>
      intro I10 J11 v4_12 v5_12 hn hI10 FI10 FJ11 KGR_I10 KFV_I10 KPL_I10 KOX_I10 KKR_I10 m_12
      obtain ⟨hv4_12, hv5_12⟩ := m_12
      have f13 := (gr_b_0_188 hI10)
      have f14 := (gr_b_117 hI10 (Int.toNat v4_12))
      refine gv_run 5 true hD (pcₚ := 81) (lvₚ := [(0, .inr (.inr (some 0))), (4, .inl v4_12), (5, .inl v5_12)]) (stₚ := [.inl (I10 117 (Int.toNat v4_12)), .inl v5_12]) (hₚ := gr_h I10 J11) (C := (((((True ∧ True) ∧ True) ∧ True) ∧ True) ∧ (0 ≤ v4_12 ∧ v4_12 < ((1440 : Nat) : Int)))) rfl ⟨⟨⟨⟨⟨trivial, trivial⟩, trivial⟩, trivial⟩, trivial⟩, ⟨by exact gz_m 5 (by omega), by exact gz_m 6 (by omega)⟩⟩ ?_
      refine gv_icmp_ge (t := 108) hD rfl rfl ⟨⟨by exact gz_m 7 (by omega), by exact gz_m 8 (by omega)⟩, ⟨by exact gz_m 9 (by omega), by exact gz_m 10 (by omega)⟩⟩ (fun c15 => ?_) (fun c15 => ?_)
      · have f16 := (gr_b_0_70 hI10)
        refine gv_run 2 true hD (pcₚ := 112) (lvₚ := [(0, .inr (.inr (some 0))), (4, .inl v4_12), (5, .inl v5_12)]) (stₚ := [.inl (I10 0 70)]) (hₚ := gr_h I10 J11) (C := ((True ∧ True) ∧ True)) rfl ⟨⟨trivial, trivial⟩, trivial⟩ ?_
        exact gv_iret hD rfl ⟨I10, J11, rfl, hI10, FI10, FJ11, KGR_I10, KFV_I10, KPL_I10, KOX_I10, ⟨_, rfl, by exact gz_m 11 (by omega), by exact gz_m 12 (by omega), KKR_I10⟩⟩
      · refine gv_run 7 true hD (pcₚ := 97) (lvₚ := [(0, .inr (.inr (some 0))), (4, .inl v4_12), (5, .inl v5_12)]) (stₚ := [.inl v5_12, .inl (200 * v4_12), .inr (.inr (some 116)), .inr (.inr (some 0))]) (hₚ := gr_h I10 J11) (C := (((((((True ∧ True) ∧ True) ∧ True) ∧ True) ∧ True) ∧ True) ∧ True)) rfl ⟨⟨⟨⟨⟨⟨⟨trivial, trivial⟩, trivial⟩, trivial⟩, trivial⟩, trivial⟩, trivial⟩, trivial⟩ ?_
        have f17 := (gr_b_116 hI10 (Int.toNat (((200 * v4_12) + v5_12))))
        refine gv_run 2 true hD (pcₚ := 99) (lvₚ := [(0, .inr (.inr (some 0))), (4, .inl v4_12), (5, .inl v5_12)]) (stₚ := [.inl (I10 116 (Int.toNat (((200 * v4_12) + v5_12)))), .inr (.inr (some 0))]) (hₚ := gr_h I10 J11) (C := ((True ∧ True) ∧ (0 ≤ (((200 * v4_12) + v5_12)) ∧ (((200 * v4_12) + v5_12)) < ((288000 : Nat) : Int)))) rfl ⟨⟨trivial, trivial⟩, ⟨by exact gz_m 13 (by omega), by exact gz_m 14 (by omega)⟩⟩ ?_
        obtain ⟨r18, h18, E18, P18⟩ := r_outs (ws0 := ws0) (tb := tb) hws htb ext I10 J11 hI10 ((I10 116 (Int.toNat (((200 * v4_12) + v5_12))))) ⟨by exact gz_m 15 (by omega), by exact gz_m 16 (by omega)⟩ 
        obtain ⟨I19, J20, rfl, hI19, g18, k18, rfl⟩ := P18
        have FI19 := gr_frt FI10 g18 rfl rfl
        have FJ20 := gr_fjt FJ11 k18 rfl rfl
        have t21 := g18 0 188 rfl
        have f22 := (gr_b_0_188 hI19)
        have KGR_I19 := gr_GR_fr KGR_I10 (fun k => g18 19 k rfl) (fun k => g18 18 k rfl) (fun k => g18 36 k rfl) (fun k => g18 41 k rfl) (fun k => g18 42 k rfl) (fun k => g18 43 k rfl) (fun k => g18 45 k rfl) (fun k => g18 46 k rfl) (fun k => g18 47 k rfl) (fun k => g18 6 k rfl) (fun k => g18 7 k rfl) (fun k => g18 8 k rfl) (g18 0 3 rfl)
        have KFV_I19 := gr_FV_fr KFV_I10 (fun k => g18 87 k rfl) (fun k => g18 88 k rfl) (fun k => g18 104 k rfl) (fun k => g18 90 k rfl) (fun k => g18 91 k rfl) (fun k => g18 92 k rfl) (fun k => g18 94 k rfl) (fun k => g18 95 k rfl) (fun k => g18 97 k rfl) (fun k => g18 98 k rfl) (fun k => g18 19 k rfl) (fun k => g18 18 k rfl) (fun k => g18 41 k rfl) (fun k => g18 6 k rfl) (fun k => g18 99 k rfl) (fun k => g18 105 k rfl) (fun k => g18 107 k rfl) (fun k => g18 108 k rfl) (fun k => g18 110 k rfl) (fun k => g18 111 k rfl) (g18 0 157 rfl) (g18 0 158 rfl) (g18 0 177 rfl) (g18 0 186 rfl) (g18 0 159 rfl) hI10
        have KPL_I19 := gr_PL_fr KPL_I10 (fun k => g18 114 k rfl) (fun k => g18 115 k rfl) (fun k => g18 6 k rfl) (g18 0 3 rfl)
        have KOX_I19 := gr_OX_fr KOX_I10 (fun k => g18 121 k rfl) (fun k => g18 120 k rfl)
        have KKR_I19 := gr_KR_g KKR_I10 g18 (by decide)
        refine gv_callV hD rfl (As := [.inl (I10 116 (Int.toNat (((200 * v4_12) + v5_12))))]) (st := []) rfl (by decide) rfl rfl (gr_lV hws rfl) (Nat.le_of_ble_eq_true rfl) (gz_Ev_mono (d := 1) (by decide) E18) ?_
        show gv_X _ _ (102, [(0, .inr (.inr (some 0))), (4, .inl v4_12), (5, .inl v5_12)], [], gr_sh ++ ext, gr_h I19 J20)
        refine gv_run 2 true hD (pcₚ := 72) (lvₚ := [(5, .inl (v5_12 + 1)), (0, .inr (.inr (some 0))), (4, .inl v4_12)]) (stₚ := []) (hₚ := gr_h I19 J20) (C := ((True ∧ True) ∧ True)) rfl ⟨⟨trivial, trivial⟩, trivial⟩ ?_
        refine gv_pick [1, 2, 0] rfl ?_
        exact ih72 I19 J20 v4_12 (v5_12 + 1) (by exact gz_m 17 (by omega)) hI19 FI19 FJ20 KGR_I19 KFV_I19 KPL_I19 KOX_I19 KKR_I19 (by exact gz_m 18 (by omega))
  refine gv_run 2 true hD (pcₚ := 2) (lvₚ := [(0, .inr (.inr (some 0))), (1, .inl a1), (2, .inl a2), (3, .inl a3)]) (stₚ := [.inl a1, .inr (.inr (some 0))]) (hₚ := gr_h I J) (C := ((True ∧ True) ∧ True)) rfl ⟨⟨trivial, trivial⟩, trivial⟩ ?_
  obtain ⟨r23, h23, E23, P23⟩ := r_noTongue (ws0 := ws0) (tb := tb) hws htb ext I J hI a1 ⟨by exact gz_m 19 (by omega), by exact gz_m 20 (by omega)⟩ 
  obtain ⟨I24, J25, rfl, hI24, g23, k23, ⟨z23, rfl, q23⟩⟩ := P23
  have FI24 := gr_frt FI g23 rfl rfl
  have FJ25 := gr_fjt FJ k23 rfl rfl
  have t26 := g23 0 188 rfl
  have f27 := (gr_b_0_188 hI24)
  have KGR_I24 := gr_GR_fr KGR_I (fun k => g23 19 k rfl) (fun k => g23 18 k rfl) (fun k => g23 36 k rfl) (fun k => g23 41 k rfl) (fun k => g23 42 k rfl) (fun k => g23 43 k rfl) (fun k => g23 45 k rfl) (fun k => g23 46 k rfl) (fun k => g23 47 k rfl) (fun k => g23 6 k rfl) (fun k => g23 7 k rfl) (fun k => g23 8 k rfl) (g23 0 3 rfl)
  have KFV_I24 := gr_FV_fr KFV_I (fun k => g23 87 k rfl) (fun k => g23 88 k rfl) (fun k => g23 104 k rfl) (fun k => g23 90 k rfl) (fun k => g23 91 k rfl) (fun k => g23 92 k rfl) (fun k => g23 94 k rfl) (fun k => g23 95 k rfl) (fun k => g23 97 k rfl) (fun k => g23 98 k rfl) (fun k => g23 19 k rfl) (fun k => g23 18 k rfl) (fun k => g23 41 k rfl) (fun k => g23 6 k rfl) (fun k => g23 99 k rfl) (fun k => g23 105 k rfl) (fun k => g23 107 k rfl) (fun k => g23 108 k rfl) (fun k => g23 110 k rfl) (fun k => g23 111 k rfl) (g23 0 157 rfl) (g23 0 158 rfl) (g23 0 177 rfl) (g23 0 186 rfl) (g23 0 159 rfl) hI
  have KPL_I24 := gr_PL_fr KPL_I (fun k => g23 114 k rfl) (fun k => g23 115 k rfl) (fun k => g23 6 k rfl) (g23 0 3 rfl)
  have KOX_I24 := gr_OX_fr KOX_I (fun k => g23 121 k rfl) (fun k => g23 120 k rfl)
  have KKR_I24 := gr_KR_g KKR_I g23 (by decide)
  refine gv_callV hD rfl (As := [.inl a1]) (st := []) rfl (by decide) rfl rfl (gr_lV hws rfl) (Nat.le_of_ble_eq_true rfl) (gz_Ev_mono (d := 1) (by decide) E23) ?_
  show gv_X _ _ (5, [(0, .inr (.inr (some 0))), (1, .inl a1), (2, .inl a2), (3, .inl a3)], [.inl z23], gr_sh ++ ext, gr_h I24 J25)
  refine gv_if_ne (t := 16) hD rfl rfl ⟨by exact gz_m 21 (by omega), by exact gz_m 22 (by omega)⟩ (fun c28 => ?_) (fun c28 => ?_)
  · refine gv_pick [] rfl ?_
    exact L16 I24 J25 hI24 FI24 FJ25 KGR_I24 KFV_I24 KPL_I24 KOX_I24 KKR_I24
  · refine gv_run 2 true hD (pcₚ := 10) (lvₚ := [(0, .inr (.inr (some 0))), (1, .inl a1), (2, .inl a2), (3, .inl a3)]) (stₚ := [.inl a2, .inr (.inr (some 0))]) (hₚ := gr_h I24 J25) (C := ((True ∧ True) ∧ True)) rfl ⟨⟨trivial, trivial⟩, trivial⟩ ?_
    obtain ⟨r29, h29, E29, P29⟩ := r_noPlace (ws0 := ws0) (tb := tb) hws htb ext I24 J25 hI24 a2 ⟨by exact gz_m 23 (by omega), by exact gz_m 24 (by omega)⟩ 
    obtain ⟨I30, J31, rfl, hI30, g29, k29, ⟨z29, rfl, q29⟩⟩ := P29
    have FI30 := gr_frt FI24 g29 rfl rfl
    have FJ31 := gr_fjt FJ25 k29 rfl rfl
    have t32 := g29 0 188 rfl
    have f33 := (gr_b_0_188 hI30)
    have KGR_I30 := gr_GR_fr KGR_I24 (fun k => g29 19 k rfl) (fun k => g29 18 k rfl) (fun k => g29 36 k rfl) (fun k => g29 41 k rfl) (fun k => g29 42 k rfl) (fun k => g29 43 k rfl) (fun k => g29 45 k rfl) (fun k => g29 46 k rfl) (fun k => g29 47 k rfl) (fun k => g29 6 k rfl) (fun k => g29 7 k rfl) (fun k => g29 8 k rfl) (g29 0 3 rfl)
    have KFV_I30 := gr_FV_fr KFV_I24 (fun k => g29 87 k rfl) (fun k => g29 88 k rfl) (fun k => g29 104 k rfl) (fun k => g29 90 k rfl) (fun k => g29 91 k rfl) (fun k => g29 92 k rfl) (fun k => g29 94 k rfl) (fun k => g29 95 k rfl) (fun k => g29 97 k rfl) (fun k => g29 98 k rfl) (fun k => g29 19 k rfl) (fun k => g29 18 k rfl) (fun k => g29 41 k rfl) (fun k => g29 6 k rfl) (fun k => g29 99 k rfl) (fun k => g29 105 k rfl) (fun k => g29 107 k rfl) (fun k => g29 108 k rfl) (fun k => g29 110 k rfl) (fun k => g29 111 k rfl) (g29 0 157 rfl) (g29 0 158 rfl) (g29 0 177 rfl) (g29 0 186 rfl) (g29 0 159 rfl) hI24
    have KPL_I30 := gr_PL_fr KPL_I24 (fun k => g29 114 k rfl) (fun k => g29 115 k rfl) (fun k => g29 6 k rfl) (g29 0 3 rfl)
    have KOX_I30 := gr_OX_fr KOX_I24 (fun k => g29 121 k rfl) (fun k => g29 120 k rfl)
    have KKR_I30 := gr_KR_g KKR_I24 g29 (by decide)
    refine gv_callV hD rfl (As := [.inl a2]) (st := []) rfl (by decide) rfl rfl (gr_lV hws rfl) (Nat.le_of_ble_eq_true rfl) (gz_Ev_mono (d := 1) (by decide) E29) ?_
    show gv_X _ _ (13, [(0, .inr (.inr (some 0))), (1, .inl a1), (2, .inl a2), (3, .inl a3)], [.inl z29], gr_sh ++ ext, gr_h I30 J31)
    refine gv_if_eq (t := 18) hD rfl rfl ⟨by exact gz_m 25 (by omega), by exact gz_m 26 (by omega)⟩ (fun c34 => ?_) (fun c34 => ?_)
    · refine gv_run 3 true hD (pcₚ := 23) (lvₚ := [(0, .inr (.inr (some 0))), (1, .inl a1), (2, .inl a2), (3, .inl a3)]) (stₚ := []) (hₚ := gz_up (gr_h I30 J31) 0 70 (.inl 0)) (C := (((True ∧ True) ∧ True) ∧ True)) rfl ⟨⟨⟨trivial, trivial⟩, trivial⟩, trivial⟩ ?_
      refine gr_st hI30 FI30 rfl rfl ⟨⟨by show 0 ≤ _; exact gz_m 27 (by omega), by show _ ≤ 1000; exact gz_m 28 (by omega)⟩, trivial⟩ (fun I35 hI35 FI35 q36 p36 => ?_)
      have t37 := p36 0 188 (by decide)
      have f38 := (gr_b_0_188 hI35)
      have KGR_I35 := gr_GR_fr KGR_I30 (fun k => p36 19 k (fun q => absurd q.1 (by first | exact gz_ne rfl | decide))) (fun k => p36 18 k (fun q => absurd q.1 (by first | exact gz_ne rfl | decide))) (fun k => p36 36 k (fun q => absurd q.1 (by first | exact gz_ne rfl | decide))) (fun k => p36 41 k (fun q => absurd q.1 (by first | exact gz_ne rfl | decide))) (fun k => p36 42 k (fun q => absurd q.1 (by first | exact gz_ne rfl | decide))) (fun k => p36 43 k (fun q => absurd q.1 (by first | exact gz_ne rfl | decide))) (fun k => p36 45 k (fun q => absurd q.1 (by first | exact gz_ne rfl | decide))) (fun k => p36 46 k (fun q => absurd q.1 (by first | exact gz_ne rfl | decide))) (fun k => p36 47 k (fun q => absurd q.1 (by first | exact gz_ne rfl | decide))) (fun k => p36 6 k (fun q => absurd q.1 (by first | exact gz_ne rfl | decide))) (fun k => p36 7 k (fun q => absurd q.1 (by first | exact gz_ne rfl | decide))) (fun k => p36 8 k (fun q => absurd q.1 (by first | exact gz_ne rfl | decide))) (p36 0 3 (by decide))
      have KFV_I35 := gr_FV_fr KFV_I30 (fun k => p36 87 k (fun q => absurd q.1 (by first | exact gz_ne rfl | decide))) (fun k => p36 88 k (fun q => absurd q.1 (by first | exact gz_ne rfl | decide))) (fun k => p36 104 k (fun q => absurd q.1 (by first | exact gz_ne rfl | decide))) (fun k => p36 90 k (fun q => absurd q.1 (by first | exact gz_ne rfl | decide))) (fun k => p36 91 k (fun q => absurd q.1 (by first | exact gz_ne rfl | decide))) (fun k => p36 92 k (fun q => absurd q.1 (by first | exact gz_ne rfl | decide))) (fun k => p36 94 k (fun q => absurd q.1 (by first | exact gz_ne rfl | decide))) (fun k => p36 95 k (fun q => absurd q.1 (by first | exact gz_ne rfl | decide))) (fun k => p36 97 k (fun q => absurd q.1 (by first | exact gz_ne rfl | decide))) (fun k => p36 98 k (fun q => absurd q.1 (by first | exact gz_ne rfl | decide))) (fun k => p36 19 k (fun q => absurd q.1 (by first | exact gz_ne rfl | decide))) (fun k => p36 18 k (fun q => absurd q.1 (by first | exact gz_ne rfl | decide))) (fun k => p36 41 k (fun q => absurd q.1 (by first | exact gz_ne rfl | decide))) (fun k => p36 6 k (fun q => absurd q.1 (by first | exact gz_ne rfl | decide))) (fun k => p36 99 k (fun q => absurd q.1 (by first | exact gz_ne rfl | decide))) (fun k => p36 105 k (fun q => absurd q.1 (by first | exact gz_ne rfl | decide))) (fun k => p36 107 k (fun q => absurd q.1 (by first | exact gz_ne rfl | decide))) (fun k => p36 108 k (fun q => absurd q.1 (by first | exact gz_ne rfl | decide))) (fun k => p36 110 k (fun q => absurd q.1 (by first | exact gz_ne rfl | decide))) (fun k => p36 111 k (fun q => absurd q.1 (by first | exact gz_ne rfl | decide))) (p36 0 157 (by decide)) (p36 0 158 (by decide)) (p36 0 177 (by decide)) (p36 0 186 (by decide)) (p36 0 159 (by decide)) hI30
      have KPL_I35 := gr_PL_fr KPL_I30 (fun k => p36 114 k (fun q => absurd q.1 (by first | exact gz_ne rfl | decide))) (fun k => p36 115 k (fun q => absurd q.1 (by first | exact gz_ne rfl | decide))) (fun k => p36 6 k (fun q => absurd q.1 (by first | exact gz_ne rfl | decide))) (p36 0 3 (by decide))
      have KOX_I35 := gr_OX_fr KOX_I30 (fun k => p36 121 k (fun q => absurd q.1 (by first | exact gz_ne rfl | decide))) (fun k => p36 120 k (fun q => absurd q.1 (by first | exact gz_ne rfl | decide)))
      have KKR_I35 := gr_KR_f KKR_I30 p36 (by decide)
      refine gv_run 2 true hD (pcₚ := 25) (lvₚ := [(0, .inr (.inr (some 0))), (1, .inl a1), (2, .inl a2), (3, .inl a3)]) (stₚ := [.inl a2, .inr (.inr (some 0))]) (hₚ := gr_h I35 J31) (C := ((True ∧ True) ∧ True)) rfl ⟨⟨trivial, trivial⟩, trivial⟩ ?_
      obtain ⟨r39, h39, E39, P39⟩ := r_takes_w (ws0 := ws0) (tb := tb) hws htb ext I35 J31 hI35 a2 ⟨by exact gz_m 29 (by omega), by exact gz_m 30 (by omega)⟩ 
      obtain ⟨I40, J41, rfl, hI40, g39, k39, ⟨z39, rfl, q39⟩⟩ := P39
      have FI40 := gr_frt FI35 g39 rfl rfl
      have FJ41 := gr_fjt FJ31 k39 rfl rfl
      have f42 := (gr_b_0_188 hI40)
      have KGR_I40 := gr_GR_fr KGR_I35 (fun k => g39 19 k rfl) (fun k => g39 18 k rfl) (fun k => g39 36 k rfl) (fun k => g39 41 k rfl) (fun k => g39 42 k rfl) (fun k => g39 43 k rfl) (fun k => g39 45 k rfl) (fun k => g39 46 k rfl) (fun k => g39 47 k rfl) (fun k => g39 6 k rfl) (fun k => g39 7 k rfl) (fun k => g39 8 k rfl) (g39 0 3 rfl)
      have KFV_I40 := gr_FV_fr KFV_I35 (fun k => g39 87 k rfl) (fun k => g39 88 k rfl) (fun k => g39 104 k rfl) (fun k => g39 90 k rfl) (fun k => g39 91 k rfl) (fun k => g39 92 k rfl) (fun k => g39 94 k rfl) (fun k => g39 95 k rfl) (fun k => g39 97 k rfl) (fun k => g39 98 k rfl) (fun k => g39 19 k rfl) (fun k => g39 18 k rfl) (fun k => g39 41 k rfl) (fun k => g39 6 k rfl) (fun k => g39 99 k rfl) (fun k => g39 105 k rfl) (fun k => g39 107 k rfl) (fun k => g39 108 k rfl) (fun k => g39 110 k rfl) (fun k => g39 111 k rfl) (g39 0 157 rfl) (g39 0 158 rfl) (g39 0 177 rfl) (g39 0 186 rfl) (g39 0 159 rfl) hI35
      have KPL_I40 := gr_PL_fr KPL_I35 (fun k => g39 114 k rfl) (fun k => g39 115 k rfl) (fun k => g39 6 k rfl) (g39 0 3 rfl)
      have KOX_I40 := gr_OX_fr KOX_I35 (fun k => g39 121 k rfl) (fun k => g39 120 k rfl)
      have KKR_I40 := gr_KR_g KKR_I35 g39 (by decide)
      refine gv_callV hD rfl (As := [.inl a2]) (st := []) rfl (by decide) rfl rfl (gr_lV hws rfl) (Nat.le_of_ble_eq_true rfl) (gz_Ev_mono (d := 1) (by decide) E39) ?_
      show gv_X _ _ (28, [(0, .inr (.inr (some 0))), (1, .inl a1), (2, .inl a2), (3, .inl a3)], [.inl z39], gr_sh ++ ext, gr_h I40 J41)
      refine gv_if_ne (t := 33) hD rfl rfl ⟨by exact gz_m 31 (by omega), by exact gz_m 32 (by omega)⟩ (fun c43 => ?_) (fun c43 => ?_)
      · refine gv_run 2 true hD (pcₚ := 35) (lvₚ := [(0, .inr (.inr (some 0))), (1, .inl a1), (2, .inl a2), (3, .inl a3)]) (stₚ := [.inl a1, .inr (.inr (some 0))]) (hₚ := gr_h I40 J41) (C := ((True ∧ True) ∧ True)) rfl ⟨⟨trivial, trivial⟩, trivial⟩ ?_
        obtain ⟨r44, h44, E44, P44⟩ := r_forms_k (ws0 := ws0) (tb := tb) hws htb ext I40 J41 hI40 a1 ⟨by exact gz_m 33 (by omega), by exact gz_m 34 (by omega)⟩ 
        obtain ⟨I45, J46, rfl, hI45, g44, k44, ⟨rfl, q44⟩⟩ := P44
        have FI45 := gr_frt FI40 g44 rfl rfl
        have FJ46 := gr_fjt FJ41 k44 rfl rfl
        have t47 := g44 0 188 rfl
        have f48 := (gr_b_0_188 hI45)
        have KGR_I45 := gr_GR_fr KGR_I40 (fun k => g44 19 k rfl) (fun k => g44 18 k rfl) (fun k => g44 36 k rfl) (fun k => g44 41 k rfl) (fun k => g44 42 k rfl) (fun k => g44 43 k rfl) (fun k => g44 45 k rfl) (fun k => g44 46 k rfl) (fun k => g44 47 k rfl) (fun k => g44 6 k rfl) (fun k => g44 7 k rfl) (fun k => g44 8 k rfl) (g44 0 3 rfl)
        have KFV_I45 := gr_FV_fr KFV_I40 (fun k => g44 87 k rfl) (fun k => g44 88 k rfl) (fun k => g44 104 k rfl) (fun k => g44 90 k rfl) (fun k => g44 91 k rfl) (fun k => g44 92 k rfl) (fun k => g44 94 k rfl) (fun k => g44 95 k rfl) (fun k => g44 97 k rfl) (fun k => g44 98 k rfl) (fun k => g44 19 k rfl) (fun k => g44 18 k rfl) (fun k => g44 41 k rfl) (fun k => g44 6 k rfl) (fun k => g44 99 k rfl) (fun k => g44 105 k rfl) (fun k => g44 107 k rfl) (fun k => g44 108 k rfl) (fun k => g44 110 k rfl) (fun k => g44 111 k rfl) (g44 0 157 rfl) (g44 0 158 rfl) (g44 0 177 rfl) (g44 0 186 rfl) (g44 0 159 rfl) hI40
        have KPL_I45 := gr_PL_fr KPL_I40 (fun k => g44 114 k rfl) (fun k => g44 115 k rfl) (fun k => g44 6 k rfl) (g44 0 3 rfl)
        have KOX_I45 := gr_OX_fr KOX_I40 (fun k => g44 121 k rfl) (fun k => g44 120 k rfl)
        have l44 := q44
        have KKR_I45 := gr_KR_tr KKR_I40 l44
        refine gv_callV hD rfl (As := [.inl a1]) (st := []) rfl (by decide) rfl rfl (gr_lV hws rfl) (Nat.le_of_ble_eq_true rfl) (gz_Ev_mono (d := 6) (by decide) E44) ?_
        show gv_X _ _ (38, [(0, .inr (.inr (some 0))), (1, .inl a1), (2, .inl a2), (3, .inl a3)], [], gr_sh ++ ext, gr_h I45 J46)
        refine gv_run 3 true hD (pcₚ := 41) (lvₚ := [(0, .inr (.inr (some 0))), (1, .inl a1), (2, .inl a2), (3, .inl a3)]) (stₚ := [.inl 0, .inl a1, .inr (.inr (some 0))]) (hₚ := gr_h I45 J46) (C := (((True ∧ True) ∧ True) ∧ True)) rfl ⟨⟨⟨trivial, trivial⟩, trivial⟩, trivial⟩ ?_
        have t49 := (gr_PX_tk KPL_I35 (p := a2) (n := z39) ⟨by exact gz_m 35 (by omega), by exact gz_m 36 (by omega)⟩ (by exact gz_m 37 (by omega)) (by exact gz_m 38 (by omega)) q39.2.2.2.2 (fun k => g39 6 k rfl) (g39 0 3 rfl)).2
        obtain ⟨r50, h50, E50, P50⟩ := r_options_x (ws0 := ws0) (tb := tb) hws htb ext z39 61 I45 J46 hI45 a1 0 ⟨by exact gz_m 39 (by omega), by exact gz_m 40 (by omega)⟩ ⟨by exact gz_m 41 (by omega), by exact gz_m 42 (by omega)⟩ (gr_PX_fr (gr_PX_tk KPL_I35 (p := a2) (n := z39) ⟨by exact gz_m 43 (by omega), by exact gz_m 44 (by omega)⟩ (by exact gz_m 45 (by omega)) (by exact gz_m 46 (by omega)) q39.2.2.2.2 (fun k => g39 6 k rfl) (g39 0 3 rfl)).1 (fun k => g44 6 k rfl) (fun k => g44 113 k rfl)) (by exact gz_m 47 (by omega)) KGR_I45 KOX_I45 (by exact gz_m 48 (by omega))
        obtain ⟨I51, J52, rfl, hI51, g50, k50, ⟨z50, rfl, q50⟩⟩ := P50
        have FI51 := gr_frt FI45 g50 rfl rfl
        have FJ52 := gr_fjt FJ46 k50 rfl rfl
        have t53 := g50 0 188 rfl
        have f54 := (gr_b_0_188 hI51)
        have KGR_I51 := gr_GR_fr KGR_I45 (fun k => g50 19 k rfl) (fun k => g50 18 k rfl) (fun k => g50 36 k rfl) (fun k => g50 41 k rfl) (fun k => g50 42 k rfl) (fun k => g50 43 k rfl) (fun k => g50 45 k rfl) (fun k => g50 46 k rfl) (fun k => g50 47 k rfl) (fun k => g50 6 k rfl) (fun k => g50 7 k rfl) (fun k => g50 8 k rfl) (g50 0 3 rfl)
        have KFV_I51 := gr_FV_fr KFV_I45 (fun k => g50 87 k rfl) (fun k => g50 88 k rfl) (fun k => g50 104 k rfl) (fun k => g50 90 k rfl) (fun k => g50 91 k rfl) (fun k => g50 92 k rfl) (fun k => g50 94 k rfl) (fun k => g50 95 k rfl) (fun k => g50 97 k rfl) (fun k => g50 98 k rfl) (fun k => g50 19 k rfl) (fun k => g50 18 k rfl) (fun k => g50 41 k rfl) (fun k => g50 6 k rfl) (fun k => g50 99 k rfl) (fun k => g50 105 k rfl) (fun k => g50 107 k rfl) (fun k => g50 108 k rfl) (fun k => g50 110 k rfl) (fun k => g50 111 k rfl) (g50 0 157 rfl) (g50 0 158 rfl) (g50 0 177 rfl) (g50 0 186 rfl) (g50 0 159 rfl) hI45
        have KPL_I51 := gr_PL_fr KPL_I45 (fun k => g50 114 k rfl) (fun k => g50 115 k rfl) (fun k => g50 6 k rfl) (g50 0 3 rfl)
        have KKR_I51 := gr_KR_g KKR_I45 g50 (by decide)
        have KOX_I51 : gr_OX I51 := q50.2.2.2.2.1
        refine gv_callV hD rfl (As := [.inl a1, .inl 0]) (st := []) rfl (by decide) rfl rfl (gr_lV hws rfl) (Nat.le_of_ble_eq_true rfl) (gz_Ev_mono (d := 70) (by decide) E50) ?_
        show gv_X _ _ (44, [(0, .inr (.inr (some 0))), (1, .inl a1), (2, .inl a2), (3, .inl a3)], [.inl z50], gr_sh ++ ext, gr_h I51 J52)
        refine gv_run 2 true hD (pcₚ := 46) (lvₚ := [(0, .inr (.inr (some 0))), (1, .inl a1), (2, .inl a2), (3, .inl a3)]) (stₚ := [.inl a3]) (hₚ := gr_h I51 J52) (C := ((True ∧ True) ∧ True)) rfl ⟨⟨trivial, trivial⟩, trivial⟩ ?_
        refine gv_if_lt (t := 59) hD rfl rfl ⟨by exact gz_m 49 (by omega), by exact gz_m 50 (by omega)⟩ (fun c55 => ?_) (fun c55 => ?_)
        · refine gv_pick [] rfl ?_
          exact L59 I51 J52 hI51 FI51 FJ52 KGR_I51 KFV_I51 KPL_I51 KOX_I51 KKR_I51
        · have f56 := (gr_b_121 hI51 (Int.toNat 0))
          refine gv_run 5 true hD (pcₚ := 56) (lvₚ := [(0, .inr (.inr (some 0))), (1, .inl a1), (2, .inl a2), (3, .inl a3)]) (stₚ := [.inl (I51 121 (Int.toNat 0)), .inl a3]) (hₚ := gr_h I51 J52) (C := (((((True ∧ True) ∧ True) ∧ True) ∧ True) ∧ (0 ≤ 0 ∧ 0 < ((60 : Nat) : Int)))) rfl ⟨⟨⟨⟨⟨trivial, trivial⟩, trivial⟩, trivial⟩, trivial⟩, ⟨by exact gz_m 51 (by omega), by exact gz_m 52 (by omega)⟩⟩ ?_
          refine gv_icmp_lt (t := 61) hD rfl rfl ⟨⟨by exact gz_m 53 (by omega), by exact gz_m 54 (by omega)⟩, ⟨by exact gz_m 55 (by omega), by exact gz_m 56 (by omega)⟩⟩ (fun c57 => ?_) (fun c57 => ?_)
          · have f58 := (gr_b_120 hI51 (Int.toNat a3))
            refine gv_run 4 true hD (pcₚ := 67) (lvₚ := [(0, .inr (.inr (some 0))), (1, .inl a1), (2, .inl a2), (3, .inl a3)]) (stₚ := [.inl (I51 120 (Int.toNat a3))]) (hₚ := gr_h I51 J52) (C := ((((True ∧ True) ∧ True) ∧ True) ∧ (0 ≤ a3 ∧ a3 < ((1440 : Nat) : Int)))) rfl ⟨⟨⟨⟨trivial, trivial⟩, trivial⟩, trivial⟩, ⟨by exact gz_m 57 (by omega), by exact gz_m 58 (by omega)⟩⟩ ?_
            refine gv_run 3 true hD (pcₚ := 72) (lvₚ := [(5, .inl 0), (4, .inl (I51 120 (Int.toNat a3))), (0, .inr (.inr (some 0))), (1, .inl a1), (2, .inl a2), (3, .inl a3)]) (stₚ := []) (hₚ := gr_h I51 J52) (C := (((True ∧ True) ∧ True) ∧ True)) rfl ⟨⟨⟨trivial, trivial⟩, trivial⟩, trivial⟩ ?_
            refine gv_pick [2, 1, 0] rfl ?_
            exact L72 _ I51 J52 ((I51 120 (Int.toNat a3))) 0 (Nat.lt_succ_self _) hI51 FI51 FJ52 KGR_I51 KFV_I51 KPL_I51 KOX_I51 KKR_I51 (by exact gz_m 59 (by omega))
          · refine gv_pick [] rfl ?_
            exact L59 I51 J52 hI51 FI51 FJ52 KGR_I51 KFV_I51 KPL_I51 KOX_I51 KKR_I51
      · refine gv_run 1 true hD (pcₚ := 32) (lvₚ := [(0, .inr (.inr (some 0))), (1, .inl a1), (2, .inl a2), (3, .inl a3)]) (stₚ := [.inl (-1)]) (hₚ := gr_h I40 J41) (C := (True ∧ True)) rfl ⟨trivial, trivial⟩ ?_
        exact gv_iret hD rfl ⟨I40, J41, rfl, hI40, FI40, FJ41, KGR_I40, KFV_I40, KPL_I40, KOX_I40, ⟨_, rfl, by exact gz_m 60 (by omega), by exact gz_m 61 (by omega), KKR_I40⟩⟩
    · refine gv_pick [] rfl ?_
      exact L16 I30 J31 hI30 FI30 FJ31 KGR_I30 KFV_I30 KPL_I30 KOX_I30 KKR_I30
