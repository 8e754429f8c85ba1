set_option maxHeartbeats 4000000 in
set_option maxRecDepth 100000 in
theorem r_side {ws0 : List Cond} {tb : String → gz_T} (hws : ∀ w ∈ gr_ws, w ∈ ws0) (htb : tb RX13 = gr_T) (ext : gz_Sh) (I : gr_I) (J : gr_J) (hI : gr_Inv I) (a1 : Int) (ha1 : 0 ≤ a1 ∧ a1 ≤ 3) (x0 : I 0 71 = 5 ∨ I 0 73 ≤ I 0 69) (x1 : I 0 72 ≤ I 0 69) (x2 : I 0 71 = 0 ∨ (I 0 72 < I 0 73 ∧ I 0 72 < I 0 69)) (x3 : I 0 71 = 3 → 2 ≤ I 0 73 - I 0 72 ∧ I 0 73 - I 0 72 ≤ 14) (x4 : I 0 72 ≤ I 0 73) (x5 : 0 ≤ I 0 6) (x6 : I 0 59 + I 0 69 - I 0 72 ≤ 1900) : ∃ r h', gz_Ev ws0 tb 12 (yX13_side, cX13_side, 3, (some .boolean)) [.inr (.inr (some 0)), .inl a1] (gr_sh ++ ext) (gr_h I J) r (gr_sh ++ ext) h' 0 0 ∧ (∃ (I' : gr_I) (J' : gr_J), h' = gr_h I' J' ∧ gr_Inv I' ∧ gr_fr [59, 71, 72, 73, 74, 75, 76, 77, 104] [51, 57, 63] I I' ∧ gr_fj [59, 71, 72, 73, 74, 75, 76, 77, 104] [51, 57, 63] J J' ∧ (∃ z : Int, r = some (.inl z) ∧ 0 ≤ z ∧ z ≤ 1 ∧ (I' 0 71 = 5 ∨ I' 0 73 ≤ I' 0 69) ∧ (I' 0 72 ≤ I' 0 69) ∧ (I' 0 71 = 0 ∨ (I' 0 72 < I' 0 73 ∧ I' 0 72 < I' 0 69)) ∧ (I' 0 71 = 3 → 2 ≤ I' 0 73 - I' 0 72 ∧ I' 0 73 - I' 0 72 ≤ 14) ∧ (I' 0 72 ≤ I' 0 73) ∧ (I' 0 69 = I 0 69) ∧ (I 0 73 ≤ I' 0 73) ∧ (I 0 72 ≤ I' 0 72) ∧ (I' 0 59 - I' 0 72 ≤ I 0 59 - I 0 72))) := by
  have FI : gr_fr [59, 71, 72, 73, 74, 75, 76, 77, 104] [51, 57, 63] I I := fun _ _ _ => rfl
  have FJ : gr_fj [59, 71, 72, 73, 74, 75, 76, 77, 104] [51, 57, 63] J J := fun _ _ _ => rfl
  have hD : gv_D (gr_E ws0 tb 11 (yX13_side, cX13_side, 3, (some .boolean)) kX13_side) := gq_ok oX13_side
  refine gr_ev (d := 11) (l := kX13_side) (Po := fun r h' => (∃ (I' : gr_I) (J' : gr_J), h' = gr_h I' J' ∧ gr_Inv I' ∧ gr_fr [59, 71, 72, 73, 74, 75, 76, 77, 104] [51, 57, 63] I I' ∧ gr_fj [59, 71, 72, 73, 74, 75, 76, 77, 104] [51, 57, 63] J J' ∧ (∃ z : Int, r = some (.inl z) ∧ 0 ≤ z ∧ z ≤ 1 ∧ (I' 0 71 = 5 ∨ I' 0 73 ≤ I' 0 69) ∧ (I' 0 72 ≤ I' 0 69) ∧ (I' 0 71 = 0 ∨ (I' 0 72 < I' 0 73 ∧ I' 0 72 < I' 0 69)) ∧ (I' 0 71 = 3 → 2 ≤ I' 0 73 - I' 0 72 ∧ I' 0 73 - I' 0 72 ≤ 14) ∧ (I' 0 72 ≤ I' 0 73) ∧ (I' 0 69 = I 0 69) ∧ (I 0 73 ≤ I' 0 73) ∧ (I 0 72 ≤ I' 0 72) ∧ (I' 0 59 - I' 0 72 ≤ I 0 59 - I 0 72)))) htb rfl (Nat.le_of_ble_eq_true rfl) ?_
  have f1 := (show 0 ≤ I 0 71 ∧ I 0 71 ≤ 5 from (hI 0 71).1)
  have f2 := (show 0 ≤ I 0 72 ∧ I 0 72 ≤ 1000 from (hI 0 72).1)
  have f3 := (show 0 ≤ I 0 73 ∧ I 0 73 ≤ 1001 from (hI 0 73).1)
  have f4 := (show 0 ≤ I 0 69 ∧ I 0 69 ≤ 1000 from (hI 0 69).1)
  have f5 := (show (-1) ≤ I 0 6 ∧ I 0 6 ≤ 7 from (hI 0 6).1)
  have f6 := (show 0 ≤ I 0 59 ∧ I 0 59 ≤ 2000 from (hI 0 59).1)
  have L2 : ∀ (n : Nat) (I7 : gr_I) (J8 : gr_J) (v2_9 : Int), (4 - v2_9).toNat < n → gr_Inv I7 → gr_fr [59, 71, 72, 73, 74, 75, 76, 77, 104] [51, 57, 63] I I7 → gr_fj [59, 71, 72, 73, 74, 75, 76, 77, 104] [51, 57, 63] J J8 → ((0 ≤ a1 ∧ a1 ≤ 3) ∧ (0 ≤ v2_9 ∧ v2_9 ≤ 3) ∧ (I7 0 71 = 5 ∨ I7 0 73 ≤ I7 0 69) ∧ (I7 0 72 ≤ I7 0 69) ∧ (I7 0 71 = 0 ∨ (I7 0 72 < I7 0 73 ∧ I7 0 72 < I7 0 69)) ∧ (I7 0 71 = 3 → 2 ≤ I7 0 73 - I7 0 72 ∧ I7 0 73 - I7 0 72 ≤ 14) ∧ (I7 0 72 ≤ I7 0 73) ∧ (I7 0 69 = I 0 69) ∧ (I 0 73 ≤ I7 0 73) ∧ (I 0 72 ≤ I7 0 72) ∧ (0 ≤ I7 0 6) ∧ (I7 0 59 - I7 0 72 ≤ I 0 59 - I 0 72)) → gv_X (gr_E ws0 tb 11 (yX13_side, cX13_side, 3, (some .boolean)) kX13_side) (gv_Q cX13_side (some .boolean) (gr_sh ++ ext) (fun r h' => (∃ (I' : gr_I) (J' : gr_J), h' = gr_h I' J' ∧ gr_Inv I' ∧ gr_fr [59, 71, 72, 73, 74, 75, 76, 77, 104] [51, 57, 63] I I' ∧ gr_fj [59, 71, 72, 73, 74, 75, 76, 77, 104] [51, 57, 63] J J' ∧ (∃ z : Int, r = some (.inl z) ∧ 0 ≤ z ∧ z ≤ 1 ∧ (I' 0 71 = 5 ∨ I' 0 73 ≤ I' 0 69) ∧ (I' 0 72 ≤ I' 0 69) ∧ (I' 0 71 = 0 ∨ (I' 0 72 < I' 0 73 ∧ I' 0 72 < I' 0 69)) ∧ (I' 0 71 = 3 → 2 ≤ I' 0 73 - I' 0 72 ∧ I' 0 73 - I' 0 72 ≤ 14) ∧ (I' 0 72 ≤ I' 0 73) ∧ (I' 0 69 = I 0 69) ∧ (I 0 73 ≤ I' 0 73) ∧ (I 0 72 ≤ I' 0 72) ∧ (I' 0 59 - I' 0 72 ≤ I 0 59 - I 0 72))))) (2, [(0, .inr (.inr (some 0))), (1, .inl a1), (2, .inl v2_9)], [], gr_sh ++ ext, gr_h I7 J8) := by
    intro n
    induction n with
    | zero => intro I7 J8 v2_9 hn; omega
    | succ n ih2 =>
      intro I7 J8 v2_9 hn hI7 FI7 FJ8 m_9
      obtain ⟨ha1_9, hv2_9, e0_9, e1_9, e2_9, e3_9, e4_9, e5_9, e6_9, e7_9, e8_9, e9_9⟩ := m_9
      have f10 := (show 0 ≤ I7 0 71 ∧ I7 0 71 ≤ 5 from (hI7 0 71).1)
      have f11 := (show 0 ≤ I7 0 72 ∧ I7 0 72 ≤ 1000 from (hI7 0 72).1)
      have f12 := (show 0 ≤ I7 0 73 ∧ I7 0 73 ≤ 1001 from (hI7 0 73).1)
      have f13 := (show 0 ≤ I7 0 69 ∧ I7 0 69 ≤ 1000 from (hI7 0 69).1)
      have f14 := (show (-1) ≤ I7 0 6 ∧ I7 0 6 ≤ 7 from (hI7 0 6).1)
      have f15 := (show 0 ≤ I7 0 59 ∧ I7 0 59 ≤ 2000 from (hI7 0 59).1)
      have L27 : ((0 ≤ a1 ∧ a1 ≤ 3) ∧ (0 ≤ v2_9 ∧ v2_9 ≤ 3) ∧ (I7 0 71 = 5 ∨ I7 0 73 ≤ I7 0 69) ∧ (I7 0 72 ≤ I7 0 69) ∧ (I7 0 71 = 0 ∨ (I7 0 72 < I7 0 73 ∧ I7 0 72 < I7 0 69)) ∧ (I7 0 71 = 3 → 2 ≤ I7 0 73 - I7 0 72 ∧ I7 0 73 - I7 0 72 ≤ 14) ∧ (I7 0 72 ≤ I7 0 73) ∧ (I7 0 69 = I 0 69) ∧ (I 0 73 ≤ I7 0 73) ∧ (I 0 72 ≤ I7 0 72) ∧ (0 ≤ I7 0 6) ∧ (I7 0 59 - I7 0 72 ≤ I 0 59 - I 0 72)) → gv_X (gr_E ws0 tb 11 (yX13_side, cX13_side, 3, (some .boolean)) kX13_side) (gv_Q cX13_side (some .boolean) (gr_sh ++ ext) (fun r h' => (∃ (I' : gr_I) (J' : gr_J), h' = gr_h I' J' ∧ gr_Inv I' ∧ gr_fr [59, 71, 72, 73, 74, 75, 76, 77, 104] [51, 57, 63] I I' ∧ gr_fj [59, 71, 72, 73, 74, 75, 76, 77, 104] [51, 57, 63] J J' ∧ (∃ z : Int, r = some (.inl z) ∧ 0 ≤ z ∧ z ≤ 1 ∧ (I' 0 71 = 5 ∨ I' 0 73 ≤ I' 0 69) ∧ (I' 0 72 ≤ I' 0 69) ∧ (I' 0 71 = 0 ∨ (I' 0 72 < I' 0 73 ∧ I' 0 72 < I' 0 69)) ∧ (I' 0 71 = 3 → 2 ≤ I' 0 73 - I' 0 72 ∧ I' 0 73 - I' 0 72 ≤ 14) ∧ (I' 0 72 ≤ I' 0 73) ∧ (I' 0 69 = I 0 69) ∧ (I 0 73 ≤ I' 0 73) ∧ (I 0 72 ≤ I' 0 72) ∧ (I' 0 59 - I' 0 72 ≤ I 0 59 - I 0 72))))) (27, [(0, .inr (.inr (some 0))), (1, .inl a1), (2, .inl v2_9)], [], gr_sh ++ ext, gr_h I7 J8) := by
        intro m_16
        obtain ⟨ha1_16, hv2_9_16, e0_16, e1_16, e2_16, e3_16, e4_16, e5_16, e6_16, e7_16, e8_16, e9_16⟩ := m_16
        have f17 := (show 0 ≤ I7 0 71 ∧ I7 0 71 ≤ 5 from (hI7 0 71).1)
        have f18 := (show 0 ≤ I7 0 72 ∧ I7 0 72 ≤ 1000 from (hI7 0 72).1)
        have f19 := (show 0 ≤ I7 0 73 ∧ I7 0 73 ≤ 1001 from (hI7 0 73).1)
        have f20 := (show 0 ≤ I7 0 69 ∧ I7 0 69 ≤ 1000 from (hI7 0 69).1)
        have f21 := (show (-1) ≤ I7 0 6 ∧ I7 0 6 ≤ 7 from (hI7 0 6).1)
        have f22 := (show 0 ≤ I7 0 59 ∧ I7 0 59 ≤ 2000 from (hI7 0 59).1)
        refine gv_run 2 true hD (pc' := 29) (lv' := [(0, .inr (.inr (some 0))), (1, .inl a1), (2, .inl v2_9)]) (st' := [.inl 3, .inl v2_9]) (h' := gr_h I7 J8) (C := ((True ∧ True) ∧ True)) rfl ⟨⟨trivial, trivial⟩, trivial⟩ ?_
        refine gv_icmp_ne (t := 38) hD rfl rfl ⟨⟨by omega, by omega⟩, ⟨by omega, by omega⟩⟩ (fun c23 => ?_) (fun c23 => ?_)
        · refine gv_run 2 true hD (pc' := 40) (lv' := [(0, .inr (.inr (some 0))), (1, .inl a1), (2, .inl v2_9)]) (st' := [.inl 1, .inr (.inr (some 0))]) (h' := gr_h I7 J8) (C := ((True ∧ True) ∧ True)) rfl ⟨⟨trivial, trivial⟩, trivial⟩ ?_
          obtain ⟨r24, h24, E24, P24⟩ := r_context (ws0 := ws0) (tb := tb) hws htb ext I7 J8 hI7 1 ⟨by omega, by omega⟩ (by omega) (by omega) (by omega) (by omega) (by omega) (by omega) (by omega)
          obtain ⟨I25, J26, rfl, hI25, g24, k24, ⟨z24, rfl, q24⟩⟩ := P24
          have FI25 := gr_frt FI7 g24 rfl rfl
          have FJ26 := gr_fjt FJ8 k24 rfl rfl
          have t27 := g24 0 69 rfl
          have t28 := g24 0 6 rfl
          have f29 := (show 0 ≤ I25 0 71 ∧ I25 0 71 ≤ 5 from (hI25 0 71).1)
          have f30 := (show 0 ≤ I25 0 72 ∧ I25 0 72 ≤ 1000 from (hI25 0 72).1)
          have f31 := (show 0 ≤ I25 0 73 ∧ I25 0 73 ≤ 1001 from (hI25 0 73).1)
          have f32 := (show 0 ≤ I25 0 69 ∧ I25 0 69 ≤ 1000 from (hI25 0 69).1)
          have f33 := (show (-1) ≤ I25 0 6 ∧ I25 0 6 ≤ 7 from (hI25 0 6).1)
          have f34 := (show 0 ≤ I25 0 59 ∧ I25 0 59 ≤ 2000 from (hI25 0 59).1)
          refine gv_callV hD rfl (As := [.inl 1]) (st := []) rfl (by decide) rfl rfl (gr_lV hws rfl) (Nat.le_of_ble_eq_true rfl) (gz_Ev_mono (d := 11) (by decide) E24) ?_
          show gv_X _ _ (43, [(0, .inr (.inr (some 0))), (1, .inl a1), (2, .inl v2_9)], [.inl z24], gr_sh ++ ext, gr_h I25 J26)
          refine gv_if_ne (t := 48) hD rfl rfl ⟨by omega, by omega⟩ (fun c35 => ?_) (fun c35 => ?_)
          · refine gv_run 7 true hD (pc' := 59) (lv' := [(2, .inl (v2_9 + 1)), (0, .inr (.inr (some 0))), (1, .inl a1)]) (st' := [.inr (.inr (some 0)), .inl (a1 + v2_9), .inr (.inr (some 63))]) (h' := gr_h I25 J26) (C := (((((((True ∧ True) ∧ True) ∧ True) ∧ True) ∧ True) ∧ True) ∧ True)) rfl ⟨⟨⟨⟨⟨⟨⟨trivial, trivial⟩, trivial⟩, trivial⟩, trivial⟩, trivial⟩, trivial⟩, trivial⟩ ?_
            have f36 := (show ((-2147483648) ≤ I25 0 104 ∧ I25 0 104 ≤ 2147483647) ∧ ((I25 0 104) = -2147483648 ∨ (I25 0 104) = 2147483647 ∨ -16 ≤ (I25 0 104) ∧ (I25 0 104) ≤ 32015) from hI25 0 104)
            refine gv_run 2 true hD (pc' := 63) (lv' := [(2, .inl (v2_9 + 1)), (0, .inr (.inr (some 0))), (1, .inl a1)]) (st' := []) (h' := gz_up (gr_h I25 J26) 63 (Int.toNat ((a1 + v2_9))) (.inl (I25 0 104))) (C := ((True ∧ True) ∧ (0 ≤ (a1 + v2_9) ∧ (a1 + v2_9) < ((6 : Nat) : Int)))) rfl ⟨⟨trivial, trivial⟩, ⟨by omega, by omega⟩⟩ ?_
            refine gr_st hI25 FI25 rfl rfl ⟨⟨by show (-2147483648) ≤ _; omega, by show _ ≤ 2147483647; omega⟩, by show ((I25 0 104) = -2147483648 ∨ (I25 0 104) = 2147483647 ∨ -16 ≤ (I25 0 104) ∧ (I25 0 104) ≤ 32015); omega⟩ (fun I37 hI37 FI37 q38 p38 => ?_)
            have t39 := p38 0 71 (fun q => absurd q.1 (by decide))
            have t40 := p38 0 72 (fun q => absurd q.1 (by decide))
            have t41 := p38 0 73 (fun q => absurd q.1 (by decide))
            have t42 := p38 0 69 (fun q => absurd q.1 (by decide))
            have t43 := p38 0 6 (fun q => absurd q.1 (by decide))
            have t44 := p38 0 59 (fun q => absurd q.1 (by decide))
            have f45 := (show 0 ≤ I37 0 71 ∧ I37 0 71 ≤ 5 from (hI37 0 71).1)
            have f46 := (show 0 ≤ I37 0 72 ∧ I37 0 72 ≤ 1000 from (hI37 0 72).1)
            have f47 := (show 0 ≤ I37 0 73 ∧ I37 0 73 ≤ 1001 from (hI37 0 73).1)
            have f48 := (show 0 ≤ I37 0 69 ∧ I37 0 69 ≤ 1000 from (hI37 0 69).1)
            have f49 := (show (-1) ≤ I37 0 6 ∧ I37 0 6 ≤ 7 from (hI37 0 6).1)
            have f50 := (show 0 ≤ I37 0 59 ∧ I37 0 59 ≤ 2000 from (hI37 0 59).1)
            refine gv_run 1 true hD (pc' := 2) (lv' := [(2, .inl (v2_9 + 1)), (0, .inr (.inr (some 0))), (1, .inl a1)]) (st' := []) (h' := gr_h I37 J26) (C := (True ∧ True)) rfl ⟨trivial, trivial⟩ ?_
            refine gv_pick [1, 2, 0] rfl ?_
            exact ih2 I37 J26 (v2_9 + 1) (by omega) hI37 FI37 FJ26 (by omega)
          · refine gv_run 1 true hD (pc' := 47) (lv' := [(0, .inr (.inr (some 0))), (1, .inl a1), (2, .inl v2_9)]) (st' := [.inl 0]) (h' := gr_h I25 J26) (C := (True ∧ True)) rfl ⟨trivial, trivial⟩ ?_
            exact gv_zret hD rfl (by omega) ⟨I25, J26, rfl, hI25, FI25, FJ26, ⟨_, rfl, by omega⟩⟩
        · refine gv_run 2 true hD (pc' := 34) (lv' := [(0, .inr (.inr (some 0))), (1, .inl a1), (2, .inl v2_9)]) (st' := [.inl 5, .inr (.inr (some 0))]) (h' := gr_h I7 J8) (C := ((True ∧ True) ∧ True)) rfl ⟨⟨trivial, trivial⟩, trivial⟩ ?_
          obtain ⟨r51, h51, E51, P51⟩ := r_no_ (ws0 := ws0) (tb := tb) hws htb ext I7 J8 hI7 5 ⟨by omega, by omega⟩ 
          obtain ⟨I52, J53, rfl, hI52, g51, k51, ⟨z51, rfl, q51⟩⟩ := P51
          have FI52 := gr_frt FI7 g51 rfl rfl
          have FJ53 := gr_fjt FJ8 k51 rfl rfl
          have t54 := g51 0 71 rfl
          have t55 := g51 0 72 rfl
          have t56 := g51 0 73 rfl
          have t57 := g51 0 69 rfl
          have t58 := g51 0 6 rfl
          have t59 := g51 0 59 rfl
          have f60 := (show 0 ≤ I52 0 71 ∧ I52 0 71 ≤ 5 from (hI52 0 71).1)
          have f61 := (show 0 ≤ I52 0 72 ∧ I52 0 72 ≤ 1000 from (hI52 0 72).1)
          have f62 := (show 0 ≤ I52 0 73 ∧ I52 0 73 ≤ 1001 from (hI52 0 73).1)
          have f63 := (show 0 ≤ I52 0 69 ∧ I52 0 69 ≤ 1000 from (hI52 0 69).1)
          have f64 := (show (-1) ≤ I52 0 6 ∧ I52 0 6 ≤ 7 from (hI52 0 6).1)
          have f65 := (show 0 ≤ I52 0 59 ∧ I52 0 59 ≤ 2000 from (hI52 0 59).1)
          refine gv_callV hD rfl (As := [.inl 5]) (st := []) rfl (by decide) rfl rfl (gr_lV hws rfl) (Nat.le_of_ble_eq_true rfl) (gz_Ev_mono (d := 2) (by decide) E51) ?_
          show gv_X _ _ (37, [(0, .inr (.inr (some 0))), (1, .inl a1), (2, .inl v2_9)], [.inl z51], gr_sh ++ ext, gr_h I52 J53)
          exact gv_zret hD rfl (by omega) ⟨I52, J53, rfl, hI52, FI52, FJ53, ⟨_, rfl, by omega⟩⟩
      have L66 : ∀ (n : Nat) (I66 : gr_I) (J67 : gr_J) (v2_68 : Int), (4 - v2_68).toNat < n → gr_Inv I66 → gr_fr [59, 71, 72, 73, 74, 75, 76, 77, 104] [51, 57, 63] I I66 → gr_fj [59, 71, 72, 73, 74, 75, 76, 77, 104] [51, 57, 63] J J67 → ((0 ≤ a1 ∧ a1 ≤ 3) ∧ (0 ≤ v2_68 ∧ v2_68 ≤ 3) ∧ (I66 0 71 = 5 ∨ I66 0 73 ≤ I66 0 69) ∧ (I66 0 72 ≤ I66 0 69) ∧ (I66 0 71 = 0 ∨ (I66 0 72 < I66 0 73 ∧ I66 0 72 < I66 0 69)) ∧ (I66 0 71 = 3 → 2 ≤ I66 0 73 - I66 0 72 ∧ I66 0 73 - I66 0 72 ≤ 14) ∧ (I66 0 72 ≤ I66 0 73) ∧ (I66 0 69 = I 0 69) ∧ (I 0 73 ≤ I66 0 73) ∧ (I 0 72 ≤ I66 0 72) ∧ (0 ≤ I66 0 6) ∧ (I66 0 59 - I66 0 72 ≤ I 0 59 - I 0 72)) → gv_X (gr_E ws0 tb 11 (yX13_side, cX13_side, 3, (some .boolean)) kX13_side) (gv_Q cX13_side (some .boolean) (gr_sh ++ ext) (fun r h' => (∃ (I' : gr_I) (J' : gr_J), h' = gr_h I' J' ∧ gr_Inv I' ∧ gr_fr [59, 71, 72, 73, 74, 75, 76, 77, 104] [51, 57, 63] I I' ∧ gr_fj [59, 71, 72, 73, 74, 75, 76, 77, 104] [51, 57, 63] J J' ∧ (∃ z : Int, r = some (.inl z) ∧ 0 ≤ z ∧ z ≤ 1 ∧ (I' 0 71 = 5 ∨ I' 0 73 ≤ I' 0 69) ∧ (I' 0 72 ≤ I' 0 69) ∧ (I' 0 71 = 0 ∨ (I' 0 72 < I' 0 73 ∧ I' 0 72 < I' 0 69)) ∧ (I' 0 71 = 3 → 2 ≤ I' 0 73 - I' 0 72 ∧ I' 0 73 - I' 0 72 ≤ 14) ∧ (I' 0 72 ≤ I' 0 73) ∧ (I' 0 69 = I 0 69) ∧ (I 0 73 ≤ I' 0 73) ∧ (I 0 72 ≤ I' 0 72) ∧ (I' 0 59 - I' 0 72 ≤ I 0 59 - I 0 72))))) (66, [(0, .inr (.inr (some 0))), (1, .inl a1), (2, .inl v2_68)], [], gr_sh ++ ext, gr_h I66 J67) := by
        intro n
        induction n with
        | zero => intro I66 J67 v2_68 hn; omega
        | succ n ih66 =>
          intro I66 J67 v2_68 hn hI66 FI66 FJ67 m_68
          obtain ⟨ha1_68, hv2_68, e0_68, e1_68, e2_68, e3_68, e4_68, e5_68, e6_68, e7_68, e8_68, e9_68⟩ := m_68
          have f69 := (show 0 ≤ I66 0 71 ∧ I66 0 71 ≤ 5 from (hI66 0 71).1)
          have f70 := (show 0 ≤ I66 0 72 ∧ I66 0 72 ≤ 1000 from (hI66 0 72).1)
          have f71 := (show 0 ≤ I66 0 73 ∧ I66 0 73 ≤ 1001 from (hI66 0 73).1)
          have f72 := (show 0 ≤ I66 0 69 ∧ I66 0 69 ≤ 1000 from (hI66 0 69).1)
          have f73 := (show (-1) ≤ I66 0 6 ∧ I66 0 6 ≤ 7 from (hI66 0 6).1)
          have f74 := (show 0 ≤ I66 0 59 ∧ I66 0 59 ≤ 2000 from (hI66 0 59).1)
          refine gv_run 2 true hD (pc' := 68) (lv' := [(0, .inr (.inr (some 0))), (1, .inl a1), (2, .inl v2_68)]) (st' := [.inl 3, .inl v2_68]) (h' := gr_h I66 J67) (C := ((True ∧ True) ∧ True)) rfl ⟨⟨trivial, trivial⟩, trivial⟩ ?_
          refine gv_icmp_ge (t := 88) hD rfl rfl ⟨⟨by omega, by omega⟩, ⟨by omega, by omega⟩⟩ (fun c75 => ?_) (fun c75 => ?_)
          · refine gv_run 1 true hD (pc' := 89) (lv' := [(0, .inr (.inr (some 0))), (1, .inl a1), (2, .inl v2_68)]) (st' := [.inl 1]) (h' := gr_h I66 J67) (C := (True ∧ True)) rfl ⟨trivial, trivial⟩ ?_
            exact gv_zret hD rfl (by omega) ⟨I66, J67, rfl, hI66, FI66, FJ67, ⟨_, rfl, by omega⟩⟩
          · refine gv_run 7 true hD (pc' := 84) (lv' := [(2, .inl (v2_68 + 1)), (0, .inr (.inr (some 0))), (1, .inl a1)]) (st' := [.inl 2147483647, .inl (a1 + v2_68), .inr (.inr (some 63))]) (h' := gr_h I66 J67) (C := (((((((True ∧ True) ∧ True) ∧ True) ∧ True) ∧ True) ∧ True) ∧ True)) rfl ⟨⟨⟨⟨⟨⟨⟨trivial, trivial⟩, trivial⟩, trivial⟩, trivial⟩, trivial⟩, trivial⟩, trivial⟩ ?_
            refine gv_run 1 true hD (pc' := 85) (lv' := [(2, .inl (v2_68 + 1)), (0, .inr (.inr (some 0))), (1, .inl a1)]) (st' := []) (h' := gz_up (gr_h I66 J67) 63 (Int.toNat ((a1 + v2_68))) (.inl 2147483647)) (C := (True ∧ (0 ≤ (a1 + v2_68) ∧ (a1 + v2_68) < ((6 : Nat) : Int)))) rfl ⟨trivial, ⟨by omega, by omega⟩⟩ ?_
            refine gr_st hI66 FI66 rfl rfl ⟨⟨by show (-2147483648) ≤ _; omega, by show _ ≤ 2147483647; omega⟩, by show (2147483647 = -2147483648 ∨ 2147483647 = 2147483647 ∨ -16 ≤ 2147483647 ∧ 2147483647 ≤ 32015); omega⟩ (fun I76 hI76 FI76 q77 p77 => ?_)
            have t78 := p77 0 71 (fun q => absurd q.1 (by decide))
            have t79 := p77 0 72 (fun q => absurd q.1 (by decide))
            have t80 := p77 0 73 (fun q => absurd q.1 (by decide))
            have t81 := p77 0 69 (fun q => absurd q.1 (by decide))
            have t82 := p77 0 6 (fun q => absurd q.1 (by decide))
            have t83 := p77 0 59 (fun q => absurd q.1 (by decide))
            have f84 := (show 0 ≤ I76 0 71 ∧ I76 0 71 ≤ 5 from (hI76 0 71).1)
            have f85 := (show 0 ≤ I76 0 72 ∧ I76 0 72 ≤ 1000 from (hI76 0 72).1)
            have f86 := (show 0 ≤ I76 0 73 ∧ I76 0 73 ≤ 1001 from (hI76 0 73).1)
            have f87 := (show 0 ≤ I76 0 69 ∧ I76 0 69 ≤ 1000 from (hI76 0 69).1)
            have f88 := (show (-1) ≤ I76 0 6 ∧ I76 0 6 ≤ 7 from (hI76 0 6).1)
            have f89 := (show 0 ≤ I76 0 59 ∧ I76 0 59 ≤ 2000 from (hI76 0 59).1)
            refine gv_run 1 true hD (pc' := 66) (lv' := [(2, .inl (v2_68 + 1)), (0, .inr (.inr (some 0))), (1, .inl a1)]) (st' := []) (h' := gr_h I76 J67) (C := (True ∧ True)) rfl ⟨trivial, trivial⟩ ?_
            refine gv_pick [1, 2, 0] rfl ?_
            exact ih66 I76 J67 (v2_68 + 1) (by omega) hI76 FI76 FJ67 (by omega)
      have f90 := (show 0 ≤ I7 0 71 ∧ I7 0 71 ≤ 5 from (hI7 0 71).1)
      refine gv_run 3 true hD (pc' := 7) (lv' := [(0, .inr (.inr (some 0))), (1, .inl a1), (2, .inl v2_9)]) (st' := [.inl 3, .inl (I7 0 71)]) (h' := gr_h I7 J8) (C := (((True ∧ True) ∧ True) ∧ True)) rfl ⟨⟨⟨trivial, trivial⟩, trivial⟩, trivial⟩ ?_
      refine gv_icmp_eq (t := 27) hD rfl rfl ⟨⟨by omega, by omega⟩, ⟨by omega, by omega⟩⟩ (fun c91 => ?_) (fun c91 => ?_)
      · exact L27 (by omega)
      · have f92 := (show 0 ≤ I7 0 71 ∧ I7 0 71 ≤ 5 from (hI7 0 71).1)
        refine gv_run 3 true hD (pc' := 15) (lv' := [(0, .inr (.inr (some 0))), (1, .inl a1), (2, .inl v2_9)]) (st' := [.inl 1, .inl (I7 0 71)]) (h' := gr_h I7 J8) (C := (((True ∧ True) ∧ True) ∧ True)) rfl ⟨⟨⟨trivial, trivial⟩, trivial⟩, trivial⟩ ?_
        refine gv_icmp_eq (t := 27) hD rfl rfl ⟨⟨by omega, by omega⟩, ⟨by omega, by omega⟩⟩ (fun c93 => ?_) (fun c93 => ?_)
        · exact L27 (by omega)
        · refine gv_run 2 true hD (pc' := 21) (lv' := [(0, .inr (.inr (some 0))), (1, .inl a1), (2, .inl v2_9)]) (st' := [.inl 35, .inr (.inr (some 0))]) (h' := gr_h I7 J8) (C := ((True ∧ True) ∧ True)) rfl ⟨⟨trivial, trivial⟩, trivial⟩ ?_
          obtain ⟨r94, h94, E94, P94⟩ := r_sign (ws0 := ws0) (tb := tb) hws htb ext I7 J8 hI7 35 ⟨by omega, by omega⟩ (by omega)
          obtain ⟨rfl, ⟨z94, rfl, q94⟩⟩ := P94
          refine gv_callV hD rfl (As := [.inl 35]) (st := []) rfl (by decide) rfl rfl (gr_lV hws rfl) (Nat.le_of_ble_eq_true rfl) (gz_Ev_mono (d := 1) (by decide) E94) ?_
          show gv_X _ _ (24, [(0, .inr (.inr (some 0))), (1, .inl a1), (2, .inl v2_9)], [.inl z94], gr_sh ++ ext, gr_h I7 J8)
          refine gv_if_eq (t := 66) hD rfl rfl ⟨by omega, by omega⟩ (fun c95 => ?_) (fun c95 => ?_)
          · exact L66 _ I7 J8 v2_9 (Nat.lt_succ_self _) hI7 FI7 FJ8 (by omega)
          · exact L27 (by omega)
  refine gv_run 2 true hD (pc' := 2) (lv' := [(2, .inl 0), (0, .inr (.inr (some 0))), (1, .inl a1)]) (st' := []) (h' := gr_h I J) (C := ((True ∧ True) ∧ True)) rfl ⟨⟨trivial, trivial⟩, trivial⟩ ?_
  refine gv_pick [1, 2, 0] rfl ?_
  exact L2 _ I J 0 (Nat.lt_succ_self _) hI FI FJ (by omega)
