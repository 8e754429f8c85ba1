set_option maxHeartbeats 8000000 in
set_option maxRecDepth 100000 in
theorem r_leaves_f {ws0 : List Cond} {tb : String → gz_T} (hws : ∀ w ∈ gr_ws, w ∈ ws0) (htb : tb RX13 = gr_T) (ext : gz_Sh) (I : gr_I) (J : gr_J) (hI : gr_Inv I) (a1 : Int) (a2 : Int) (a3 : Int) (ha1 : 0 ≤ a1 ∧ a1 ≤ 7) (ha2 : 0 ≤ a2 ∧ a2 ≤ 31) (ha3 : 0 ≤ a3 ∧ a3 ≤ 23) (x0 : gr_FO a1 (((a3 + 1 - a3) * 25 + a3) * 32 + a2) I) (x1 : a3 + 1 ≤ I 0 143) : ∃ r h', gz_Ev ws0 tb 3 (yX13_leaves, cX13_leaves, 6, none) [.inr (.inr (some 0)), .inl a1, .inl a2, .inl a3] (gr_sh ++ ext) (gr_h I J) r (gr_sh ++ ext) h' 0 0 ∧ (∃ (I' : gr_I) (J' : gr_J), h' = gr_h I' J' ∧ gr_Inv I' ∧ gr_fr [157, 158, 160] [87, 88, 89, 90, 92, 93, 94, 95, 96, 97, 104] I I' ∧ gr_fj [157, 158, 160] [87, 88, 89, 90, 92, 93, 94, 95, 96, 97, 104] J J' ∧ r = none ∧ (gr_FO a1 (((a3 + 1 - a3) * 25 + a3) * 32 + a2) I') ∧ (gr_XT I I')) := by
  have FI : gr_fr [157, 158, 160] [87, 88, 89, 90, 92, 93, 94, 95, 96, 97, 104] I I := fun _ _ _ => rfl
  have FJ : gr_fj [157, 158, 160] [87, 88, 89, 90, 92, 93, 94, 95, 96, 97, 104] J J := fun _ _ _ => rfl
  have hD : gv_D (gr_E ws0 tb 2 (yX13_leaves, cX13_leaves, 6, none) kX13_leaves) := gq_of oX13_leaves
  refine gr_ev (d := 2) (l := kX13_leaves) (Po := fun r h' => (∃ (I' : gr_I) (J' : gr_J), h' = gr_h I' J' ∧ gr_Inv I' ∧ gr_fr [157, 158, 160] [87, 88, 89, 90, 92, 93, 94, 95, 96, 97, 104] I I' ∧ gr_fj [157, 158, 160] [87, 88, 89, 90, 92, 93, 94, 95, 96, 97, 104] J J' ∧ r = none ∧ (gr_FO a1 (((a3 + 1 - a3) * 25 + a3) * 32 + a2) I') ∧ (gr_XT I I'))) htb rfl (Nat.le_of_ble_eq_true rfl) ?_
  have f1 := (gr_b_0_157 hI)
  have f2 := (gr_b_0_143 hI)
  have f3 := (gr_b_0_158 hI)
  have L3 : ∀ (n : Nat) (I4 : gr_I) (J5 : gr_J) (v4_6 : Int), (65 - v4_6).toNat < n → gr_Inv I4 → gr_fr [157, 158, 160] [87, 88, 89, 90, 92, 93, 94, 95, 96, 97, 104] I I4 → gr_fj [157, 158, 160] [87, 88, 89, 90, 92, 93, 94, 95, 96, 97, 104] J J5 → ((0 ≤ a1 ∧ a1 ≤ 7) ∧ (0 ≤ a2 ∧ a2 ≤ 31) ∧ (0 ≤ a3 ∧ a3 ≤ 23) ∧ (0 ≤ v4_6 ∧ v4_6 ≤ 64) ∧ (I4 0 143 = I 0 143) ∧ (I4 18 (Int.toNat a1) = I 18 (Int.toNat a1))) → (gr_FO a1 (((a3 + 1 - a3) * 25 + a3) * 32 + a2) I4) → (gr_XT I I4) → gv_X (gr_E ws0 tb 2 (yX13_leaves, cX13_leaves, 6, none) kX13_leaves) (gv_Q cX13_leaves none (gr_sh ++ ext) (fun r h' => (∃ (I' : gr_I) (J' : gr_J), h' = gr_h I' J' ∧ gr_Inv I' ∧ gr_fr [157, 158, 160] [87, 88, 89, 90, 92, 93, 94, 95, 96, 97, 104] I I' ∧ gr_fj [157, 158, 160] [87, 88, 89, 90, 92, 93, 94, 95, 96, 97, 104] J J' ∧ r = none ∧ (gr_FO a1 (((a3 + 1 - a3) * 25 + a3) * 32 + a2) I') ∧ (gr_XT I I')))) (3, [(0, .inr (.inr (some 0))), (1, .inl a1), (2, .inl a2), (3, .inl a3), (4, .inl v4_6)], [], gr_sh ++ ext, gr_h I4 J5) := by
    intro n
    induction n with
    | zero => intro I4 J5 v4_6 hn; exact gz_m 0 (by omega)
    | succ n ih3 =>
      intro I4 J5 v4_6 hn hI4 FI4 FJ5 m_6 e0_6 e1_6
      obtain ⟨ha1_6, ha2_6, ha3_6, hv4_6, e2_6, e3_6⟩ := m_6
      have f7 := (gr_b_0_157 hI4)
      have f8 := (gr_b_0_143 hI4)
      have f9 := (gr_b_0_158 hI4)
      have L103 : ∀ (I10 : gr_I) (J11 : gr_J) , gr_Inv I10 → gr_fr [157, 158, 160] [87, 88, 89, 90, 92, 93, 94, 95, 96, 97, 104] I I10 → gr_fj [157, 158, 160] [87, 88, 89, 90, 92, 93, 94, 95, 96, 97, 104] J J11 → ((0 ≤ a1 ∧ a1 ≤ 7) ∧ (0 ≤ a2 ∧ a2 ≤ 31) ∧ (0 ≤ a3 ∧ a3 ≤ 23) ∧ (0 ≤ v4_6 ∧ v4_6 ≤ 63) ∧ (I10 0 143 = I 0 143) ∧ (I10 18 (Int.toNat a1) = I 18 (Int.toNat a1)) ∧ (v4_6 < I10 18 (Int.toNat a1))) → (gr_FO a1 (((a3 + 1 - a3) * 25 + a3) * 32 + a2) I10) → (gr_XT I I10) → gv_X (gr_E ws0 tb 2 (yX13_leaves, cX13_leaves, 6, none) kX13_leaves) (gv_Q cX13_leaves none (gr_sh ++ ext) (fun r h' => (∃ (I' : gr_I) (J' : gr_J), h' = gr_h I' J' ∧ gr_Inv I' ∧ gr_fr [157, 158, 160] [87, 88, 89, 90, 92, 93, 94, 95, 96, 97, 104] I I' ∧ gr_fj [157, 158, 160] [87, 88, 89, 90, 92, 93, 94, 95, 96, 97, 104] J J' ∧ r = none ∧ (gr_FO a1 (((a3 + 1 - a3) * 25 + a3) * 32 + a2) I') ∧ (gr_XT I I')))) (103, [(0, .inr (.inr (some 0))), (1, .inl a1), (2, .inl a2), (3, .inl a3), (4, .inl v4_6)], [], gr_sh ++ ext, gr_h I10 J11) := by
        intro I10 J11 hI10 FI10 FJ11 m_12 e0_12 e1_12
        clear ha1_6 ha2_6 ha3_6 hv4_6 e2_6 e3_6 f7 f8 f9
        obtain ⟨ha1_12, ha2_12, ha3_12, hv4_6_12, e2_12, e3_12, e4_12⟩ := m_12
        have f13 := (gr_b_0_157 hI10)
        have f14 := (gr_b_0_143 hI10)
        have f15 := (gr_b_0_158 hI10)
        refine gv_run 2 true hD (pc' := 3) (lv' := [(4, .inl (v4_6 + 1)), (0, .inr (.inr (some 0))), (1, .inl a1), (2, .inl a2), (3, .inl a3)]) (st' := []) (h' := gr_h I10 J11) (C := ((True ∧ True) ∧ True)) rfl ⟨⟨trivial, trivial⟩, trivial⟩ ?_
        refine gv_pick [1, 2, 3, 4, 0] rfl ?_
        exact ih3 I10 J11 (v4_6 + 1) (by exact gz_m 1 (by omega)) hI10 FI10 FJ11 (by exact gz_m 2 (by omega)) e0_12 e1_12
      have L41 : ∀ (n : Nat) (I16 : gr_I) (J17 : gr_J) (v5_18 : Int), (25 - v5_18).toNat < n → gr_Inv I16 → gr_fr [157, 158, 160] [87, 88, 89, 90, 92, 93, 94, 95, 96, 97, 104] I I16 → gr_fj [157, 158, 160] [87, 88, 89, 90, 92, 93, 94, 95, 96, 97, 104] J J17 → ((0 ≤ a1 ∧ a1 ≤ 7) ∧ (0 ≤ a2 ∧ a2 ≤ 31) ∧ (0 ≤ a3 ∧ a3 ≤ 23) ∧ (0 ≤ v4_6 ∧ v4_6 ≤ 63) ∧ (0 ≤ v5_18 ∧ v5_18 ≤ 24) ∧ (I16 0 143 = I 0 143) ∧ (I16 18 (Int.toNat a1) = I 18 (Int.toNat a1)) ∧ (v4_6 < I16 18 (Int.toNat a1))) → (gr_FO a1 (((a3 + 1 - a3) * 25 + a3) * 32 + a2) I16) → (gr_XT I I16) → gv_X (gr_E ws0 tb 2 (yX13_leaves, cX13_leaves, 6, none) kX13_leaves) (gv_Q cX13_leaves none (gr_sh ++ ext) (fun r h' => (∃ (I' : gr_I) (J' : gr_J), h' = gr_h I' J' ∧ gr_Inv I' ∧ gr_fr [157, 158, 160] [87, 88, 89, 90, 92, 93, 94, 95, 96, 97, 104] I I' ∧ gr_fj [157, 158, 160] [87, 88, 89, 90, 92, 93, 94, 95, 96, 97, 104] J J' ∧ r = none ∧ (gr_FO a1 (((a3 + 1 - a3) * 25 + a3) * 32 + a2) I') ∧ (gr_XT I I')))) (41, [(0, .inr (.inr (some 0))), (1, .inl a1), (2, .inl a2), (3, .inl a3), (4, .inl v4_6), (5, .inl v5_18)], [], gr_sh ++ ext, gr_h I16 J17) := by
        intro n
        induction n with
        | zero => intro I16 J17 v5_18 hn; exact gz_m 3 (by omega)
        | succ n ih41 =>
          intro I16 J17 v5_18 hn hI16 FI16 FJ17 m_18 e0_18 e1_18
          clear ha1_6 ha2_6 ha3_6 hv4_6 e2_6 e3_6 f7 f8 f9
          obtain ⟨ha1_18, ha2_18, ha3_18, hv4_6_18, hv5_18, e2_18, e3_18, e4_18⟩ := m_18
          have f19 := (gr_b_0_157 hI16)
          have f20 := (gr_b_0_143 hI16)
          have f21 := (gr_b_0_158 hI16)
          have L97 : ∀ (I22 : gr_I) (J23 : gr_J) , gr_Inv I22 → gr_fr [157, 158, 160] [87, 88, 89, 90, 92, 93, 94, 95, 96, 97, 104] I I22 → gr_fj [157, 158, 160] [87, 88, 89, 90, 92, 93, 94, 95, 96, 97, 104] J J23 → ((0 ≤ a1 ∧ a1 ≤ 7) ∧ (0 ≤ a2 ∧ a2 ≤ 31) ∧ (0 ≤ a3 ∧ a3 ≤ 23) ∧ (0 ≤ v4_6 ∧ v4_6 ≤ 63) ∧ (0 ≤ v5_18 ∧ v5_18 ≤ 23) ∧ (I22 0 143 = I 0 143) ∧ (I22 18 (Int.toNat a1) = I 18 (Int.toNat a1)) ∧ (v4_6 < I22 18 (Int.toNat a1))) → (gr_FO a1 (((a3 + 1 - a3) * 25 + a3) * 32 + a2) I22) → (gr_XT I I22) → gv_X (gr_E ws0 tb 2 (yX13_leaves, cX13_leaves, 6, none) kX13_leaves) (gv_Q cX13_leaves none (gr_sh ++ ext) (fun r h' => (∃ (I' : gr_I) (J' : gr_J), h' = gr_h I' J' ∧ gr_Inv I' ∧ gr_fr [157, 158, 160] [87, 88, 89, 90, 92, 93, 94, 95, 96, 97, 104] I I' ∧ gr_fj [157, 158, 160] [87, 88, 89, 90, 92, 93, 94, 95, 96, 97, 104] J J' ∧ r = none ∧ (gr_FO a1 (((a3 + 1 - a3) * 25 + a3) * 32 + a2) I') ∧ (gr_XT I I')))) (97, [(0, .inr (.inr (some 0))), (1, .inl a1), (2, .inl a2), (3, .inl a3), (4, .inl v4_6), (5, .inl v5_18)], [], gr_sh ++ ext, gr_h I22 J23) := by
            intro I22 J23 hI22 FI22 FJ23 m_24 e0_24 e1_24
            clear ha1_18 ha2_18 ha3_18 hv4_6_18 hv5_18 e2_18 e3_18 e4_18 f19 f20 f21
            obtain ⟨ha1_24, ha2_24, ha3_24, hv4_6_24, hv5_18_24, e2_24, e3_24, e4_24⟩ := m_24
            have f25 := (gr_b_0_157 hI22)
            have f26 := (gr_b_0_143 hI22)
            have f27 := (gr_b_0_158 hI22)
            refine gv_run 2 true hD (pc' := 41) (lv' := [(5, .inl (v5_18 + 1)), (0, .inr (.inr (some 0))), (1, .inl a1), (2, .inl a2), (3, .inl a3), (4, .inl v4_6)]) (st' := []) (h' := gr_h I22 J23) (C := ((True ∧ True) ∧ True)) rfl ⟨⟨trivial, trivial⟩, trivial⟩ ?_
            refine gv_pick [1, 2, 3, 4, 5, 0] rfl ?_
            exact ih41 I22 J23 (v5_18 + 1) (by exact gz_m 4 (by omega)) hI22 FI22 FJ23 (by exact gz_m 5 (by omega)) e0_24 e1_24
          refine gv_run 4 true hD (pc' := 47) (lv' := [(0, .inr (.inr (some 0))), (1, .inl a1), (2, .inl a2), (3, .inl a3), (4, .inl v4_6), (5, .inl v5_18)]) (st' := [.inl v4_6, .inl a1, .inr (.inr (some 0)), .inl v5_18]) (h' := gr_h I16 J17) (C := ((((True ∧ True) ∧ True) ∧ True) ∧ True)) rfl ⟨⟨⟨⟨trivial, trivial⟩, trivial⟩, trivial⟩, trivial⟩ ?_
          obtain ⟨r28, h28, E28, P28⟩ := r_cellsOf (ws0 := ws0) (tb := tb) hws htb ext I16 J17 hI16 a1 v4_6 ⟨by exact gz_m 6 (by omega), by exact gz_m 7 (by omega)⟩ ⟨by exact gz_m 8 (by omega), by exact gz_m 9 (by omega)⟩ 
          obtain ⟨rfl, ⟨z28, rfl, q28⟩⟩ := P28
          refine gv_callV hD rfl (As := [.inl a1, .inl v4_6]) (st := [.inl v5_18]) rfl (by decide) rfl rfl (gr_lV hws rfl) (Nat.le_of_ble_eq_true rfl) (gz_Ev_mono (d := 1) (by decide) E28) ?_
          show gv_X _ _ (50, [(0, .inr (.inr (some 0))), (1, .inl a1), (2, .inl a2), (3, .inl a3), (4, .inl v4_6), (5, .inl v5_18)], [.inl z28, .inl v5_18], gr_sh ++ ext, gr_h I16 J17)
          refine gv_icmp_ge (t := 103) hD rfl rfl ⟨⟨by exact gz_m 10 (by omega), by exact gz_m 11 (by omega)⟩, ⟨by exact gz_m 12 (by omega), by exact gz_m 13 (by omega)⟩⟩ (fun c29 => ?_) (fun c29 => ?_)
          · refine gv_pick [0, 1, 2, 3, 4] rfl ?_
            exact L103 I16 J17 hI16 FI16 FJ17 (by exact gz_m 14 (by omega)) e0_18 e1_18
          · refine gv_run 7 true hD (pc' := 63) (lv' := [(0, .inr (.inr (some 0))), (1, .inl a1), (2, .inl a2), (3, .inl a3), (4, .inl v4_6), (5, .inl v5_18)]) (st' := [.inl a3, .inl ((24 * v4_6) + v5_18), .inr (.inr (some 0))]) (h' := gr_h I16 J17) (C := (((((((True ∧ True) ∧ True) ∧ True) ∧ True) ∧ True) ∧ True) ∧ True)) rfl ⟨⟨⟨⟨⟨⟨⟨trivial, trivial⟩, trivial⟩, trivial⟩, trivial⟩, trivial⟩, trivial⟩, trivial⟩ ?_
            obtain ⟨r30, h30, E30, P30⟩ := r_isWord (ws0 := ws0) (tb := tb) hws htb ext I16 J17 hI16 (((24 * v4_6) + v5_18)) a3 ⟨by exact gz_m 15 (by omega), by exact gz_m 16 (by omega)⟩ ⟨by exact gz_m 17 (by omega), by exact gz_m 18 (by omega)⟩ 
            obtain ⟨rfl, ⟨z30, rfl, q30⟩⟩ := P30
            refine gv_callV hD rfl (As := [.inl ((24 * v4_6) + v5_18), .inl a3]) (st := []) rfl (by decide) rfl rfl (gr_lV hws rfl) (Nat.le_of_ble_eq_true rfl) (gz_Ev_mono (d := 2) (by decide) E30) ?_
            show gv_X _ _ (66, [(0, .inr (.inr (some 0))), (1, .inl a1), (2, .inl a2), (3, .inl a3), (4, .inl v4_6), (5, .inl v5_18)], [.inl z30], gr_sh ++ ext, gr_h I16 J17)
            refine gv_if_eq (t := 97) hD rfl rfl ⟨by exact gz_m 19 (by omega), by exact gz_m 20 (by omega)⟩ (fun c31 => ?_) (fun c31 => ?_)
            · exact L97 I16 J17 hI16 FI16 FJ17 (by exact gz_m 21 (by omega)) e0_18 e1_18
            · refine gv_run 7 true hD (pc' := 76) (lv' := [(0, .inr (.inr (some 0))), (1, .inl a1), (2, .inl a2), (3, .inl a3), (4, .inl v4_6), (5, .inl v5_18)]) (st' := [.inl (a3 + 1), .inl a3, .inl a2, .inr (.inr (some 0)), .inr (.inr (some 0))]) (h' := gr_h I16 J17) (C := (((((((True ∧ True) ∧ True) ∧ True) ∧ True) ∧ True) ∧ True) ∧ True)) rfl ⟨⟨⟨⟨⟨⟨⟨trivial, trivial⟩, trivial⟩, trivial⟩, trivial⟩, trivial⟩, trivial⟩, trivial⟩ ?_
              refine gv_run 4 true hD (pc' := 82) (lv' := [(0, .inr (.inr (some 0))), (1, .inl a1), (2, .inl a2), (3, .inl a3), (4, .inl v4_6), (5, .inl v5_18)]) (st' := [.inl v5_18, .inl v4_6, .inl a1, .inr (.inr (some 0)), .inl (a3 + 1), .inl a3, .inl a2, .inr (.inr (some 0)), .inr (.inr (some 0))]) (h' := gr_h I16 J17) (C := ((((True ∧ True) ∧ True) ∧ True) ∧ True)) rfl ⟨⟨⟨⟨trivial, trivial⟩, trivial⟩, trivial⟩, trivial⟩ ?_
              obtain ⟨r32, h32, E32, P32⟩ := r_valuesOf (ws0 := ws0) (tb := tb) hws htb ext I16 J17 hI16 a1 v4_6 v5_18 ⟨by exact gz_m 22 (by omega), by exact gz_m 23 (by omega)⟩ ⟨by exact gz_m 24 (by omega), by exact gz_m 25 (by omega)⟩ ⟨by exact gz_m 26 (by omega), by exact gz_m 27 (by omega)⟩ 
              obtain ⟨rfl, ⟨z32, rfl, q32⟩⟩ := P32
              refine gv_callV hD rfl (As := [.inl a1, .inl v4_6, .inl v5_18]) (st := [.inl (a3 + 1), .inl a3, .inl a2, .inr (.inr (some 0)), .inr (.inr (some 0))]) rfl (by decide) rfl rfl (gr_lV hws rfl) (Nat.le_of_ble_eq_true rfl) (gz_Ev_mono (d := 1) (by decide) E32) ?_
              show gv_X _ _ (85, [(0, .inr (.inr (some 0))), (1, .inl a1), (2, .inl a2), (3, .inl a3), (4, .inl v4_6), (5, .inl v5_18)], [.inl z32, .inl (a3 + 1), .inl a3, .inl a2, .inr (.inr (some 0)), .inr (.inr (some 0))], gr_sh ++ ext, gr_h I16 J17)
              obtain ⟨r33, h33, E33, P33⟩ := r_nodeOf_h (ws0 := ws0) (tb := tb) hws htb ext a1 I16 J17 hI16 a2 a3 (a3 + 1) z32 ⟨by exact gz_m 28 (by omega), by exact gz_m 29 (by omega)⟩ ⟨by exact gz_m 30 (by omega), by exact gz_m 31 (by omega)⟩ ⟨by exact gz_m 32 (by omega), by exact gz_m 33 (by omega)⟩ ⟨by exact gz_m 34 (by omega), by exact gz_m 35 (by omega)⟩ e0_18 (by exact gz_m 36 (by omega)) (by exact gz_m 37 (by omega)) (by exact gz_m 38 (by omega))
              obtain ⟨I34, J35, rfl, hI34, g33, k33, ⟨z33, rfl, q33⟩⟩ := P33
              have FI34 := gr_frt FI16 g33 rfl rfl
              have FJ35 := gr_fjt FJ17 k33 rfl rfl
              have t36 := g33 0 143 rfl
              have t37 := g33 0 158 rfl
              have t38 := g33 18 (Int.toNat a1) rfl
              have f39 := (gr_b_0_157 hI34)
              have f40 := (gr_b_0_143 hI34)
              have f41 := (gr_b_0_158 hI34)
              refine gv_callV hD rfl (As := [.inl a2, .inl a3, .inl (a3 + 1), .inl z32]) (st := [.inr (.inr (some 0))]) rfl (by decide) rfl rfl (gr_lV hws rfl) (Nat.le_of_ble_eq_true rfl) (gz_Ev_mono (d := 2) (by decide) E33) ?_
              show gv_X _ _ (88, [(0, .inr (.inr (some 0))), (1, .inl a1), (2, .inl a2), (3, .inl a3), (4, .inl v4_6), (5, .inl v5_18)], [.inl z33, .inr (.inr (some 0))], gr_sh ++ ext, gr_h I34 J35)
              refine gv_run 3 true hD (pc' := 93) (lv' := [(0, .inr (.inr (some 0))), (1, .inl a1), (2, .inl a2), (3, .inl a3), (4, .inl v4_6), (5, .inl v5_18)]) (st' := [.inl (-1), .inl v5_18, .inl v4_6, .inl z33, .inr (.inr (some 0))]) (h' := gr_h I34 J35) (C := (((True ∧ True) ∧ True) ∧ True)) rfl ⟨⟨⟨trivial, trivial⟩, trivial⟩, trivial⟩ ?_
              obtain ⟨r42, h42, E42, P42⟩ := r_wayOf_f (ws0 := ws0) (tb := tb) hws htb ext a1 (((a3 + 1 - a3) * 25 + a3) * 32 + a2) I34 J35 hI34 z33 v4_6 v5_18 (-1) ⟨by exact gz_m 39 (by omega), by exact gz_m 40 (by omega)⟩ ⟨by exact gz_m 41 (by omega), by exact gz_m 42 (by omega)⟩ ⟨by exact gz_m 43 (by omega), by exact gz_m 44 (by omega)⟩ ⟨by exact gz_m 45 (by omega), by exact gz_m 46 (by omega)⟩ (by exact gz_m 47 (by omega)) q33.2.2.1
              obtain ⟨I43, J44, rfl, hI43, g42, k42, ⟨z42, rfl, q42⟩⟩ := P42
              have FI43 := gr_frt FI34 g42 rfl rfl
              have FJ44 := gr_fjt FJ35 k42 rfl rfl
              have t45 := g42 0 157 rfl
              have t46 := g42 0 143 rfl
              have t47 := g42 18 (Int.toNat a1) rfl
              have f48 := (gr_b_0_157 hI43)
              have f49 := (gr_b_0_143 hI43)
              have f50 := (gr_b_0_158 hI43)
              refine gv_callV hD rfl (As := [.inl z33, .inl v4_6, .inl v5_18, .inl (-1)]) (st := []) rfl (by decide) rfl rfl (gr_lV hws rfl) (Nat.le_of_ble_eq_true rfl) (gz_Ev_mono (d := 1) (by decide) E42) ?_
              show gv_X _ _ (96, [(0, .inr (.inr (some 0))), (1, .inl a1), (2, .inl a2), (3, .inl a3), (4, .inl v4_6), (5, .inl v5_18)], [.inl z42], gr_sh ++ ext, gr_h I43 J44)
              refine gv_run 1 true hD (pc' := 97) (lv' := [(0, .inr (.inr (some 0))), (1, .inl a1), (2, .inl a2), (3, .inl a3), (4, .inl v4_6), (5, .inl v5_18)]) (st' := []) (h' := gr_h I43 J44) (C := (True ∧ True)) rfl ⟨trivial, trivial⟩ ?_
              exact L97 I43 J44 hI43 FI43 FJ44 (by exact gz_m 48 (by omega)) (gr_FO_lf (I := I34) q42.2.2.1 q42.2.2.2.2.2.2.2 q42.2.2.2.2.2.1 q42.2.2.2.2.2.2.1 (by exact gz_m 49 (by omega))) (gr_XT_tr (gr_XT_tr e1_18 q33.2.2.2.2.2.2.1) q42.2.2.2.1)
      have f51 := (gr_b_18 hI4 (Int.toNat a1))
      refine gv_run 5 true hD (pc' := 11) (lv' := [(0, .inr (.inr (some 0))), (1, .inl a1), (2, .inl a2), (3, .inl a3), (4, .inl v4_6)]) (st' := [.inl (I4 18 (Int.toNat a1)), .inl v4_6]) (h' := gr_h I4 J5) (C := (((((True ∧ True) ∧ True) ∧ True) ∧ True) ∧ (0 ≤ a1 ∧ a1 < ((8 : Nat) : Int)))) rfl ⟨⟨⟨⟨⟨trivial, trivial⟩, trivial⟩, trivial⟩, trivial⟩, ⟨by exact gz_m 50 (by omega), by exact gz_m 51 (by omega)⟩⟩ ?_
      refine gv_icmp_ge (t := 109) hD rfl rfl ⟨⟨by exact gz_m 52 (by omega), by exact gz_m 53 (by omega)⟩, ⟨by exact gz_m 54 (by omega), by exact gz_m 55 (by omega)⟩⟩ (fun c52 => ?_) (fun c52 => ?_)
      · exact gv_vret hD rfl ⟨I4, J5, rfl, hI4, FI4, FJ5, ⟨rfl, e0_6, e1_6⟩⟩
      · refine gv_run 7 true hD (pc' := 26) (lv' := [(0, .inr (.inr (some 0))), (1, .inl a1), (2, .inl a2), (3, .inl a3), (4, .inl v4_6)]) (st' := [.inl (64 * a1), .inr (.inr (some 36)), .inr (.inr (some 8))]) (h' := gr_h I4 J5) (C := (((((((True ∧ True) ∧ True) ∧ True) ∧ True) ∧ True) ∧ True) ∧ True)) rfl ⟨⟨⟨⟨⟨⟨⟨trivial, trivial⟩, trivial⟩, trivial⟩, trivial⟩, trivial⟩, trivial⟩, trivial⟩ ?_
        have f53 := (gr_b_36 hI4 (Int.toNat (((64 * a1) + v4_6))))
        refine gv_run 3 true hD (pc' := 30) (lv' := [(0, .inr (.inr (some 0))), (1, .inl a1), (2, .inl a2), (3, .inl a3), (4, .inl v4_6)]) (st' := [.inl (I4 36 (Int.toNat (((64 * a1) + v4_6)))), .inr (.inr (some 8))]) (h' := gr_h I4 J5) (C := (((True ∧ True) ∧ True) ∧ (0 ≤ (((64 * a1) + v4_6)) ∧ (((64 * a1) + v4_6)) < ((512 : Nat) : Int)))) rfl ⟨⟨⟨trivial, trivial⟩, trivial⟩, ⟨by exact gz_m 56 (by omega), by exact gz_m 57 (by omega)⟩⟩ ?_
        have f54 := (gr_b_8 hI4 (Int.toNat ((I4 36 (Int.toNat (((64 * a1) + v4_6)))))))
        refine gv_run 1 true hD (pc' := 31) (lv' := [(0, .inr (.inr (some 0))), (1, .inl a1), (2, .inl a2), (3, .inl a3), (4, .inl v4_6)]) (st' := [.inl (I4 8 (Int.toNat ((I4 36 (Int.toNat (((64 * a1) + v4_6)))))))]) (h' := gr_h I4 J5) (C := (True ∧ (0 ≤ ((I4 36 (Int.toNat (((64 * a1) + v4_6))))) ∧ ((I4 36 (Int.toNat (((64 * a1) + v4_6))))) < ((96 : Nat) : Int)))) rfl ⟨trivial, ⟨by exact gz_m 58 (by omega), by exact gz_m 59 (by omega)⟩⟩ ?_
        refine gv_run 1 true hD (pc' := 32) (lv' := [(0, .inr (.inr (some 0))), (1, .inl a1), (2, .inl a2), (3, .inl a3), (4, .inl v4_6)]) (st' := [.inl a2, .inl (I4 8 (Int.toNat ((I4 36 (Int.toNat (((64 * a1) + v4_6)))))))]) (h' := gr_h I4 J5) (C := (True ∧ True)) rfl ⟨trivial, trivial⟩ ?_
        refine gv_icmp_eq (t := 38) hD rfl rfl ⟨⟨by exact gz_m 60 (by omega), by exact gz_m 61 (by omega)⟩, ⟨by exact gz_m 62 (by omega), by exact gz_m 63 (by omega)⟩⟩ (fun c55 => ?_) (fun c55 => ?_)
        · refine gv_run 2 true hD (pc' := 41) (lv' := [(5, .inl 0), (0, .inr (.inr (some 0))), (1, .inl a1), (2, .inl a2), (3, .inl a3), (4, .inl v4_6)]) (st' := []) (h' := gr_h I4 J5) (C := ((True ∧ True) ∧ True)) rfl ⟨⟨trivial, trivial⟩, trivial⟩ ?_
          refine gv_pick [1, 2, 3, 4, 5, 0] rfl ?_
          exact L41 _ I4 J5 0 (Nat.lt_succ_self _) hI4 FI4 FJ5 (by exact gz_m 64 (by omega)) e0_6 e1_6
        · refine gv_run 1 true hD (pc' := 103) (lv' := [(0, .inr (.inr (some 0))), (1, .inl a1), (2, .inl a2), (3, .inl a3), (4, .inl v4_6)]) (st' := []) (h' := gr_h I4 J5) (C := (True ∧ True)) rfl ⟨trivial, trivial⟩ ?_
          exact L103 I4 J5 hI4 FI4 FJ5 (by exact gz_m 65 (by omega)) e0_6 e1_6
  refine gv_run 2 true hD (pc' := 3) (lv' := [(4, .inl 0), (0, .inr (.inr (some 0))), (1, .inl a1), (2, .inl a2), (3, .inl a3)]) (st' := []) (h' := gr_h I J) (C := ((True ∧ True) ∧ True)) rfl ⟨⟨trivial, trivial⟩, trivial⟩ ?_
  refine gv_pick [1, 2, 3, 4, 0] rfl ?_
  exact L3 _ I J 0 (Nat.lt_succ_self _) hI FI FJ (by exact gz_m 66 (by omega)) x0 (gr_XT_rf I)
