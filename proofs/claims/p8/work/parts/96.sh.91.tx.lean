set_option maxHeartbeats 8000000 in
set_option maxRecDepth 100000 in
theorem r_number_t {ws0 : List Cond} {tb : String → gz_T} (hws : ∀ w ∈ gr_ws, w ∈ ws0) (htb : tb RX13 = gr_T) (ext : gz_Sh) (I : gr_I) (J : gr_J) (hI : gr_Inv I) (a1 : Int) (a2 : Int) (ha1 : (-2147483648) ≤ a1 ∧ a1 ≤ 2147483647) (ha2 : (-2147483648) ≤ a2 ∧ a2 ≤ 2147483647)  : ∃ r hₚ, gz_Ev ws0 tb 11 (yX13_number, cX13_number, 5, (some .int)) [.inr (.inr (some 0)), .inl a1, .inl a2] (gr_sh ++ ext) (gr_h I J) r (gr_sh ++ ext) hₚ 0 0 ∧ (∃ (Iₚ : gr_I) (Jₚ : gr_J), hₚ = gr_h Iₚ Jₚ ∧ gr_Inv Iₚ ∧ gr_fr [0, 68, 69, 71, 72, 73, 74, 75] [57] I Iₚ ∧ gr_fj [0, 68, 69, 71, 72, 73, 74, 75] [57] J Jₚ ∧ (∃ z : Int, r = some (.inl z) ∧ (-1) ≤ z ∧ z ≤ 383 ∧ (((0 ≤ a2 ∧ a2 ≤ 5) ∧ (a2 ≤ 2 ∨ (0 ≤ a1 ∧ a1 < I 0 1))) → Iₚ 0 68 = 0) ∧ (¬ ((0 ≤ a2 ∧ a2 ≤ 5) ∧ (a2 ≤ 2 ∨ (0 ≤ a1 ∧ a1 < I 0 1))) → Iₚ 0 68 = I 0 68))) := by
  have FI : gr_fr [0, 68, 69, 71, 72, 73, 74, 75] [57] I I := fun _ _ _ => rfl
  have FJ : gr_fj [0, 68, 69, 71, 72, 73, 74, 75] [57] J J := fun _ _ _ => rfl
  have hD : gv_D (gr_E ws0 tb 10 (yX13_number, cX13_number, 5, (some .int)) kX13_number) := gq_of oX13_number
  refine gr_ev (d := 10) (l := kX13_number) (Po := fun r hₚ => (∃ (Iₚ : gr_I) (Jₚ : gr_J), hₚ = gr_h Iₚ Jₚ ∧ gr_Inv Iₚ ∧ gr_fr [0, 68, 69, 71, 72, 73, 74, 75] [57] I Iₚ ∧ gr_fj [0, 68, 69, 71, 72, 73, 74, 75] [57] J Jₚ ∧ (∃ z : Int, r = some (.inl z) ∧ (-1) ≤ z ∧ z ≤ 383 ∧ (((0 ≤ a2 ∧ a2 ≤ 5) ∧ (a2 ≤ 2 ∨ (0 ≤ a1 ∧ a1 < I 0 1))) → Iₚ 0 68 = 0) ∧ (¬ ((0 ≤ a2 ∧ a2 ≤ 5) ∧ (a2 ≤ 2 ∨ (0 ≤ a1 ∧ a1 < I 0 1))) → Iₚ 0 68 = I 0 68)))) htb rfl (Nat.le_of_ble_eq_true rfl) ?_
  have f1 := (gr_b_0_71 hI)
  have f2 := (gr_b_0_72 hI)
  have f3 := (gr_b_0_73 hI)
  have f4 := (gr_b_0_69 hI)
  have f5 := (gr_b_0_1 hI)
  have f6 := (gr_b_0_68 hI)
  have f7 := (gr_b_0_2 hI)
  have L31 : ∀ (I8 : gr_I) (J9 : gr_J) , gr_Inv I8 → gr_fr [0, 68, 69, 71, 72, 73, 74, 75] [57] I I8 → gr_fj [0, 68, 69, 71, 72, 73, 74, 75] [57] J J9 → ((I8 0 68 = I 0 68) ∧ (¬ ((0 ≤ a2 ∧ a2 ≤ 5) ∧ (a2 ≤ 2 ∨ (0 ≤ a1 ∧ a1 < I 0 1))))) → gv_X (gr_E ws0 tb 10 (yX13_number, cX13_number, 5, (some .int)) kX13_number) (gv_Q cX13_number (some .int) (gr_sh ++ ext) (fun r hₚ => (∃ (Iₚ : gr_I) (Jₚ : gr_J), hₚ = gr_h Iₚ Jₚ ∧ gr_Inv Iₚ ∧ gr_fr [0, 68, 69, 71, 72, 73, 74, 75] [57] I Iₚ ∧ gr_fj [0, 68, 69, 71, 72, 73, 74, 75] [57] J Jₚ ∧ (∃ z : Int, r = some (.inl z) ∧ (-1) ≤ z ∧ z ≤ 383 ∧ (((0 ≤ a2 ∧ a2 ≤ 5) ∧ (a2 ≤ 2 ∨ (0 ≤ a1 ∧ a1 < I 0 1))) → Iₚ 0 68 = 0) ∧ (¬ ((0 ≤ a2 ∧ a2 ≤ 5) ∧ (a2 ≤ 2 ∨ (0 ≤ a1 ∧ a1 < I 0 1))) → Iₚ 0 68 = I 0 68))))) (31, [(0, .inr (.inr (some 0)))], [], gr_sh ++ ext, gr_h I8 J9) := by
    intro I8 J9 hI8 FI8 FJ9 m_10
    obtain ⟨e0_10, e1_10⟩ := m_10
    have f11 := (gr_b_0_71 hI8)
    have f12 := (gr_b_0_72 hI8)
    have f13 := (gr_b_0_73 hI8)
    have f14 := (gr_b_0_69 hI8)
    have f15 := (gr_b_0_1 hI8)
    have f16 := (gr_b_0_68 hI8)
    have f17 := (gr_b_0_2 hI8)
    refine gv_run 1 true hD (pcₚ := 32) (lvₚ := [(0, .inr (.inr (some 0)))]) (stₚ := [.inr (.inr (some 0))]) (hₚ := gr_h I8 J9) (C := (True ∧ True)) rfl ⟨trivial, trivial⟩ ?_
    obtain ⟨r18, h18, E18, P18⟩ := r_bad_t (ws0 := ws0) (tb := tb) hws htb ext I8 J9 hI8   
    obtain ⟨I19, J20, rfl, hI19, g18, k18, ⟨z18, rfl, q18⟩⟩ := P18
    have FI19 := gr_frt FI8 g18 rfl rfl
    have FJ20 := gr_fjt FJ9 k18 rfl rfl
    have t21 := g18 0 71 rfl
    have t22 := g18 0 72 rfl
    have t23 := g18 0 73 rfl
    have t24 := g18 0 69 rfl
    have t25 := g18 0 1 rfl
    have t26 := g18 0 68 rfl
    have t27 := g18 0 2 rfl
    have f28 := (gr_b_0_71 hI19)
    have f29 := (gr_b_0_72 hI19)
    have f30 := (gr_b_0_73 hI19)
    have f31 := (gr_b_0_69 hI19)
    have f32 := (gr_b_0_1 hI19)
    have f33 := (gr_b_0_68 hI19)
    have f34 := (gr_b_0_2 hI19)
    refine gv_callV hD rfl (As := []) (st := []) rfl (by decide) rfl rfl (gr_lV hws rfl) (Nat.le_of_ble_eq_true rfl) (gz_Ev_mono (d := 1) (by decide) E18) ?_
    show gv_X _ _ (35, [(0, .inr (.inr (some 0)))], [.inl z18], gr_sh ++ ext, gr_h I19 J20)
    exact gv_iret hD rfl ⟨I19, J20, rfl, hI19, FI19, FJ20, ⟨_, rfl, by exact gz_m 0 (by omega)⟩⟩
  have L36 : ∀ (I35 : gr_I) (J36 : gr_J) , gr_Inv I35 → gr_fr [0, 68, 69, 71, 72, 73, 74, 75] [57] I I35 → gr_fj [0, 68, 69, 71, 72, 73, 74, 75] [57] J J36 → (((-2147483648) ≤ a1 ∧ a1 ≤ 2147483647) ∧ (0 ≤ a2 ∧ a2 ≤ 5) ∧ (a2 ≤ 2 ∨ (0 ≤ a1 ∧ a1 ≤ 7)) ∧ (I35 0 68 = I 0 68) ∧ (((0 ≤ a2 ∧ a2 ≤ 5) ∧ (a2 ≤ 2 ∨ (0 ≤ a1 ∧ a1 < I 0 1))))) → gv_X (gr_E ws0 tb 10 (yX13_number, cX13_number, 5, (some .int)) kX13_number) (gv_Q cX13_number (some .int) (gr_sh ++ ext) (fun r hₚ => (∃ (Iₚ : gr_I) (Jₚ : gr_J), hₚ = gr_h Iₚ Jₚ ∧ gr_Inv Iₚ ∧ gr_fr [0, 68, 69, 71, 72, 73, 74, 75] [57] I Iₚ ∧ gr_fj [0, 68, 69, 71, 72, 73, 74, 75] [57] J Jₚ ∧ (∃ z : Int, r = some (.inl z) ∧ (-1) ≤ z ∧ z ≤ 383 ∧ (((0 ≤ a2 ∧ a2 ≤ 5) ∧ (a2 ≤ 2 ∨ (0 ≤ a1 ∧ a1 < I 0 1))) → Iₚ 0 68 = 0) ∧ (¬ ((0 ≤ a2 ∧ a2 ≤ 5) ∧ (a2 ≤ 2 ∨ (0 ≤ a1 ∧ a1 < I 0 1))) → Iₚ 0 68 = I 0 68))))) (36, [(0, .inr (.inr (some 0))), (1, .inl a1), (2, .inl a2)], [], gr_sh ++ ext, gr_h I35 J36) := by
    intro I35 J36 hI35 FI35 FJ36 m_37
    obtain ⟨ha1_37, ha2_37, e0_37, e1_37, e2_37⟩ := m_37
    have f38 := (gr_b_0_71 hI35)
    have f39 := (gr_b_0_72 hI35)
    have f40 := (gr_b_0_73 hI35)
    have f41 := (gr_b_0_69 hI35)
    have f42 := (gr_b_0_1 hI35)
    have f43 := (gr_b_0_68 hI35)
    have f44 := (gr_b_0_2 hI35)
    refine gv_run 1 true hD (pcₚ := 37) (lvₚ := [(0, .inr (.inr (some 0))), (1, .inl a1), (2, .inl a2)]) (stₚ := [.inr (.inr (some 0))]) (hₚ := gr_h I35 J36) (C := (True ∧ True)) rfl ⟨trivial, trivial⟩ ?_
    obtain ⟨r45, h45, E45, P45⟩ := r_reads_t (ws0 := ws0) (tb := tb) hws htb ext I35 J36 hI35   
    obtain ⟨I46, J47, rfl, hI46, g45, k45, ⟨rfl, q45⟩⟩ := P45
    have FI46 := gr_frt FI35 g45 rfl rfl
    have FJ47 := gr_fjt FJ36 k45 rfl rfl
    have t48 := g45 0 71 rfl
    have t49 := g45 0 72 rfl
    have t50 := g45 0 73 rfl
    have t51 := g45 0 1 rfl
    have t52 := g45 0 2 rfl
    have f53 := (gr_b_0_71 hI46)
    have f54 := (gr_b_0_72 hI46)
    have f55 := (gr_b_0_73 hI46)
    have f56 := (gr_b_0_69 hI46)
    have f57 := (gr_b_0_1 hI46)
    have f58 := (gr_b_0_68 hI46)
    have f59 := (gr_b_0_2 hI46)
    refine gv_callV hD rfl (As := []) (st := []) rfl (by decide) rfl rfl (gr_lV hws rfl) (Nat.le_of_ble_eq_true rfl) (gz_Ev_mono (d := 1) (by decide) E45) ?_
    show gv_X _ _ (40, [(0, .inr (.inr (some 0))), (1, .inl a1), (2, .inl a2)], [], gr_sh ++ ext, gr_h I46 J47)
    refine gv_run 3 true hD (pcₚ := 45) (lvₚ := [(0, .inr (.inr (some 0))), (1, .inl a1), (2, .inl a2)]) (stₚ := []) (hₚ := gz_up (gr_h I46 J47) 0 73 (.inl 0)) (C := (((True ∧ True) ∧ True) ∧ True)) rfl ⟨⟨⟨trivial, trivial⟩, trivial⟩, trivial⟩ ?_
    refine gr_st hI46 FI46 rfl rfl ⟨⟨by show 0 ≤ _; exact gz_m 1 (by omega), by show _ ≤ 1001; exact gz_m 2 (by omega)⟩, trivial⟩ (fun I60 hI60 FI60 q61 p61 => ?_)
    have t62 := p61 0 71 (by decide)
    have t63 := p61 0 72 (by decide)
    have t64 := p61 0 69 (by decide)
    have t65 := p61 0 1 (by decide)
    have t66 := p61 0 68 (by decide)
    have t67 := p61 0 2 (by decide)
    have f68 := (gr_b_0_71 hI60)
    have f69 := (gr_b_0_72 hI60)
    have f70 := (gr_b_0_73 hI60)
    have f71 := (gr_b_0_69 hI60)
    have f72 := (gr_b_0_1 hI60)
    have f73 := (gr_b_0_68 hI60)
    have f74 := (gr_b_0_2 hI60)
    refine gv_run 1 true hD (pcₚ := 46) (lvₚ := [(0, .inr (.inr (some 0))), (1, .inl a1), (2, .inl a2)]) (stₚ := [.inr (.inr (some 0))]) (hₚ := gr_h I60 J47) (C := (True ∧ True)) rfl ⟨trivial, trivial⟩ ?_
    obtain ⟨r75, h75, E75, P75⟩ := r_next (ws0 := ws0) (tb := tb) hws htb ext I60 J47 hI60   (by exact gz_m 3 (by omega))
    obtain ⟨I76, J77, rfl, hI76, g75, k75, ⟨rfl, q75⟩⟩ := P75
    have FI76 := gr_frt FI60 g75 rfl rfl
    have FJ77 := gr_fjt FJ47 k75 rfl rfl
    have t78 := g75 0 69 rfl
    have t79 := g75 0 1 rfl
    have t80 := g75 0 68 rfl
    have t81 := g75 0 2 rfl
    have f82 := (gr_b_0_71 hI76)
    have f83 := (gr_b_0_72 hI76)
    have f84 := (gr_b_0_73 hI76)
    have f85 := (gr_b_0_69 hI76)
    have f86 := (gr_b_0_1 hI76)
    have f87 := (gr_b_0_68 hI76)
    have f88 := (gr_b_0_2 hI76)
    refine gv_callV hD rfl (As := []) (st := []) rfl (by decide) rfl rfl (gr_lV hws rfl) (Nat.le_of_ble_eq_true rfl) (gz_Ev_mono (d := 10) (by decide) E75) ?_
    show gv_X _ _ (49, [(0, .inr (.inr (some 0))), (1, .inl a1), (2, .inl a2)], [], gr_sh ++ ext, gr_h I76 J77)
    have f89 := (gr_b_0_71 hI76)
    refine gv_run 3 true hD (pcₚ := 54) (lvₚ := [(0, .inr (.inr (some 0))), (1, .inl a1), (2, .inl a2)]) (stₚ := [.inl 1, .inl (I76 0 71)]) (hₚ := gr_h I76 J77) (C := (((True ∧ True) ∧ True) ∧ True)) rfl ⟨⟨⟨trivial, trivial⟩, trivial⟩, trivial⟩ ?_
    refine gv_icmp_eq (t := 59) hD rfl rfl ⟨⟨by exact gz_m 4 (by omega), by exact gz_m 5 (by omega)⟩, ⟨by exact gz_m 6 (by omega), by exact gz_m 7 (by omega)⟩⟩ (fun c90 => ?_) (fun c90 => ?_)
    · refine gv_run 4 true hD (pcₚ := 65) (lvₚ := [(3, .inr (.inl (J77 0 75))), (0, .inr (.inr (some 0))), (1, .inl a1), (2, .inl a2)]) (stₚ := [.inr (.inr (some 0))]) (hₚ := gr_h I76 J77) (C := ((((True ∧ True) ∧ True) ∧ True) ∧ True)) rfl ⟨⟨⟨⟨trivial, trivial⟩, trivial⟩, trivial⟩, trivial⟩ ?_
      obtain ⟨r91, h91, E91, P91⟩ := r_next (ws0 := ws0) (tb := tb) hws htb ext I76 J77 hI76   (by exact gz_m 8 (by omega))
      obtain ⟨I92, J93, rfl, hI92, g91, k91, ⟨rfl, q91⟩⟩ := P91
      have FI92 := gr_frt FI76 g91 rfl rfl
      have FJ93 := gr_fjt FJ77 k91 rfl rfl
      have t94 := g91 0 69 rfl
      have t95 := g91 0 1 rfl
      have t96 := g91 0 68 rfl
      have t97 := g91 0 2 rfl
      have f98 := (gr_b_0_71 hI92)
      have f99 := (gr_b_0_72 hI92)
      have f100 := (gr_b_0_73 hI92)
      have f101 := (gr_b_0_69 hI92)
      have f102 := (gr_b_0_1 hI92)
      have f103 := (gr_b_0_68 hI92)
      have f104 := (gr_b_0_2 hI92)
      refine gv_callV hD rfl (As := []) (st := []) rfl (by decide) rfl rfl (gr_lV hws rfl) (Nat.le_of_ble_eq_true rfl) (gz_Ev_mono (d := 10) (by decide) E91) ?_
      show gv_X _ _ (68, [(3, .inr (.inl (J77 0 75))), (0, .inr (.inr (some 0))), (1, .inl a1), (2, .inl a2)], [], gr_sh ++ ext, gr_h I92 J93)
      have f105 := (gr_b_0_71 hI92)
      refine gv_run 2 true hD (pcₚ := 72) (lvₚ := [(3, .inr (.inl (J77 0 75))), (0, .inr (.inr (some 0))), (1, .inl a1), (2, .inl a2)]) (stₚ := [.inl (I92 0 71)]) (hₚ := gr_h I92 J93) (C := ((True ∧ True) ∧ True)) rfl ⟨⟨trivial, trivial⟩, trivial⟩ ?_
      refine gv_if_eq (t := 77) hD rfl rfl ⟨by exact gz_m 9 (by omega), by exact gz_m 10 (by omega)⟩ (fun c106 => ?_) (fun c106 => ?_)
      · refine gv_run 1 true hD (pcₚ := 78) (lvₚ := [(3, .inr (.inl (J77 0 75))), (0, .inr (.inr (some 0))), (1, .inl a1), (2, .inl a2)]) (stₚ := [.inl a2]) (hₚ := gr_h I92 J93) (C := (True ∧ True)) rfl ⟨trivial, trivial⟩ ?_
        by_cases c107 : a2 = 0
        · refine gv_tabAt hD 0 rfl ⟨by exact gz_m 11 (by omega), by exact gz_m 12 (by omega)⟩ c107 ⟨by decide, by decide⟩ rfl (t := 112) rfl ?_
          have f108 := (gr_b_0_1 hI92)
          refine gv_run 6 true hD (pcₚ := 122) (lvₚ := [(3, .inr (.inl (J77 0 75))), (0, .inr (.inr (some 0))), (1, .inl a1), (2, .inl a2)]) (stₚ := [.inr (.inl (J77 0 75)), .inl (I92 0 1), .inl 0, .inr (.inr (some 1))]) (hₚ := gr_h I92 J93) (C := ((((((True ∧ True) ∧ True) ∧ True) ∧ True) ∧ True) ∧ True)) rfl ⟨⟨⟨⟨⟨⟨trivial, trivial⟩, trivial⟩, trivial⟩, trivial⟩, trivial⟩, trivial⟩ ?_
          obtain ⟨r109, h109, E109, P109⟩ := r_find_1 (ws0 := ws0) (tb := tb) hws htb ext I92 J93 hI92 0 (I92 0 1) (J77 0 75) ⟨by exact gz_m 13 (by omega), by exact gz_m 14 (by omega)⟩ ⟨by exact gz_m 15 (by omega), by exact gz_m 16 (by omega)⟩ (by exact gz_m 17 (by omega))
          obtain ⟨rfl, ⟨z109, rfl, q109⟩⟩ := P109
          refine gv_callS hD rfl (As := [.inr (.inr (some 1)), .inl 0, .inl (I92 0 1), .inr (.inl (J77 0 75))]) (st := []) rfl (gr_lS hws rfl) (Nat.le_of_ble_eq_true rfl) (gz_Ev_mono (d := 1) (by decide) E109) ?_
          show gv_X _ _ (125, [(3, .inr (.inl (J77 0 75))), (0, .inr (.inr (some 0))), (1, .inl a1), (2, .inl a2)], [.inl z109], gr_sh ++ ext, gr_h I92 J93)
          exact gv_iret hD rfl ⟨I92, J93, rfl, hI92, FI92, FJ93, ⟨_, rfl, by exact gz_m 18 (by omega)⟩⟩
        by_cases c110 : a2 = 1
        · refine gv_tabAt hD 1 rfl ⟨by exact gz_m 19 (by omega), by exact gz_m 20 (by omega)⟩ c110 ⟨by decide, by decide⟩ rfl (t := 126) rfl ?_
          have f111 := (gr_b_0_2 hI92)
          refine gv_run 6 true hD (pcₚ := 136) (lvₚ := [(3, .inr (.inl (J77 0 75))), (0, .inr (.inr (some 0))), (1, .inl a1), (2, .inl a2)]) (stₚ := [.inr (.inl (J77 0 75)), .inl (I92 0 2), .inl 0, .inr (.inr (some 2))]) (hₚ := gr_h I92 J93) (C := ((((((True ∧ True) ∧ True) ∧ True) ∧ True) ∧ True) ∧ True)) rfl ⟨⟨⟨⟨⟨⟨trivial, trivial⟩, trivial⟩, trivial⟩, trivial⟩, trivial⟩, trivial⟩ ?_
          obtain ⟨r112, h112, E112, P112⟩ := r_find_2 (ws0 := ws0) (tb := tb) hws htb ext I92 J93 hI92 0 (I92 0 2) (J77 0 75) ⟨by exact gz_m 21 (by omega), by exact gz_m 22 (by omega)⟩ ⟨by exact gz_m 23 (by omega), by exact gz_m 24 (by omega)⟩ (by exact gz_m 25 (by omega))
          obtain ⟨rfl, ⟨z112, rfl, q112⟩⟩ := P112
          refine gv_callS hD rfl (As := [.inr (.inr (some 2)), .inl 0, .inl (I92 0 2), .inr (.inl (J77 0 75))]) (st := []) rfl (gr_lS hws rfl) (Nat.le_of_ble_eq_true rfl) (gz_Ev_mono (d := 1) (by decide) E112) ?_
          show gv_X _ _ (139, [(3, .inr (.inl (J77 0 75))), (0, .inr (.inr (some 0))), (1, .inl a1), (2, .inl a2)], [.inl z112], gr_sh ++ ext, gr_h I92 J93)
          exact gv_iret hD rfl ⟨I92, J93, rfl, hI92, FI92, FJ93, ⟨_, rfl, by exact gz_m 26 (by omega)⟩⟩
        by_cases c113 : a2 = 2
        · refine gv_tabAt hD 2 rfl ⟨by exact gz_m 27 (by omega), by exact gz_m 28 (by omega)⟩ c113 ⟨by decide, by decide⟩ rfl (t := 140) rfl ?_
          have f114 := (gr_b_0_3 hI92)
          refine gv_run 6 true hD (pcₚ := 150) (lvₚ := [(3, .inr (.inl (J77 0 75))), (0, .inr (.inr (some 0))), (1, .inl a1), (2, .inl a2)]) (stₚ := [.inr (.inl (J77 0 75)), .inl (I92 0 3), .inl 0, .inr (.inr (some 3))]) (hₚ := gr_h I92 J93) (C := ((((((True ∧ True) ∧ True) ∧ True) ∧ True) ∧ True) ∧ True)) rfl ⟨⟨⟨⟨⟨⟨trivial, trivial⟩, trivial⟩, trivial⟩, trivial⟩, trivial⟩, trivial⟩ ?_
          obtain ⟨r115, h115, E115, P115⟩ := r_find_3 (ws0 := ws0) (tb := tb) hws htb ext I92 J93 hI92 0 (I92 0 3) (J77 0 75) ⟨by exact gz_m 29 (by omega), by exact gz_m 30 (by omega)⟩ ⟨by exact gz_m 31 (by omega), by exact gz_m 32 (by omega)⟩ (by exact gz_m 33 (by omega))
          obtain ⟨rfl, ⟨z115, rfl, q115⟩⟩ := P115
          refine gv_callS hD rfl (As := [.inr (.inr (some 3)), .inl 0, .inl (I92 0 3), .inr (.inl (J77 0 75))]) (st := []) rfl (gr_lS hws rfl) (Nat.le_of_ble_eq_true rfl) (gz_Ev_mono (d := 1) (by decide) E115) ?_
          show gv_X _ _ (153, [(3, .inr (.inl (J77 0 75))), (0, .inr (.inr (some 0))), (1, .inl a1), (2, .inl a2)], [.inl z115], gr_sh ++ ext, gr_h I92 J93)
          exact gv_iret hD rfl ⟨I92, J93, rfl, hI92, FI92, FJ93, ⟨_, rfl, by exact gz_m 34 (by omega)⟩⟩
        by_cases c116 : a2 = 3
        · refine gv_tabAt hD 3 rfl ⟨by exact gz_m 35 (by omega), by exact gz_m 36 (by omega)⟩ c116 ⟨by decide, by decide⟩ rfl (t := 154) rfl ?_
          refine gv_run 7 true hD (pcₚ := 166) (lvₚ := [(3, .inr (.inl (J77 0 75))), (0, .inr (.inr (some 0))), (1, .inl a1), (2, .inl a2)]) (stₚ := [.inr (.inr (some 13)), .inl (8 * a1), .inr (.inr (some 20))]) (hₚ := gr_h I92 J93) (C := (((((((True ∧ True) ∧ True) ∧ True) ∧ True) ∧ True) ∧ True) ∧ True)) rfl ⟨⟨⟨⟨⟨⟨⟨trivial, trivial⟩, trivial⟩, trivial⟩, trivial⟩, trivial⟩, trivial⟩, trivial⟩ ?_
          have f117 := (gr_b_13 hI92 (Int.toNat a1))
          refine gv_run 2 true hD (pcₚ := 168) (lvₚ := [(3, .inr (.inl (J77 0 75))), (0, .inr (.inr (some 0))), (1, .inl a1), (2, .inl a2)]) (stₚ := [.inl (I92 13 (Int.toNat a1)), .inl (8 * a1), .inr (.inr (some 20))]) (hₚ := gr_h I92 J93) (C := ((True ∧ True) ∧ (0 ≤ a1 ∧ a1 < ((8 : Nat) : Int)))) rfl ⟨⟨trivial, trivial⟩, ⟨by exact gz_m 37 (by omega), by exact gz_m 38 (by omega)⟩⟩ ?_
          refine gv_run 1 true hD (pcₚ := 169) (lvₚ := [(3, .inr (.inl (J77 0 75))), (0, .inr (.inr (some 0))), (1, .inl a1), (2, .inl a2)]) (stₚ := [.inr (.inl (J77 0 75)), .inl (I92 13 (Int.toNat a1)), .inl (8 * a1), .inr (.inr (some 20))]) (hₚ := gr_h I92 J93) (C := (True ∧ True)) rfl ⟨trivial, trivial⟩ ?_
          obtain ⟨r118, h118, E118, P118⟩ := r_find_20 (ws0 := ws0) (tb := tb) hws htb ext I92 J93 hI92 (8 * a1) ((I92 13 (Int.toNat a1))) (J77 0 75) ⟨by exact gz_m 39 (by omega), by exact gz_m 40 (by omega)⟩ ⟨by exact gz_m 41 (by omega), by exact gz_m 42 (by omega)⟩ (by exact gz_m 43 (by omega))
          obtain ⟨rfl, ⟨z118, rfl, q118⟩⟩ := P118
          refine gv_callS hD rfl (As := [.inr (.inr (some 20)), .inl (8 * a1), .inl (I92 13 (Int.toNat a1)), .inr (.inl (J77 0 75))]) (st := []) rfl (gr_lS hws rfl) (Nat.le_of_ble_eq_true rfl) (gz_Ev_mono (d := 1) (by decide) E118) ?_
          show gv_X _ _ (172, [(3, .inr (.inl (J77 0 75))), (0, .inr (.inr (some 0))), (1, .inl a1), (2, .inl a2)], [.inl z118], gr_sh ++ ext, gr_h I92 J93)
          exact gv_iret hD rfl ⟨I92, J93, rfl, hI92, FI92, FJ93, ⟨_, rfl, by exact gz_m 44 (by omega)⟩⟩
        by_cases c119 : a2 = 4
        · refine gv_tabAt hD 4 rfl ⟨by exact gz_m 45 (by omega), by exact gz_m 46 (by omega)⟩ c119 ⟨by decide, by decide⟩ rfl (t := 173) rfl ?_
          refine gv_run 7 true hD (pcₚ := 185) (lvₚ := [(3, .inr (.inl (J77 0 75))), (0, .inr (.inr (some 0))), (1, .inl a1), (2, .inl a2)]) (stₚ := [.inr (.inr (some 14)), .inl (48 * a1), .inr (.inr (some 21))]) (hₚ := gr_h I92 J93) (C := (((((((True ∧ True) ∧ True) ∧ True) ∧ True) ∧ True) ∧ True) ∧ True)) rfl ⟨⟨⟨⟨⟨⟨⟨trivial, trivial⟩, trivial⟩, trivial⟩, trivial⟩, trivial⟩, trivial⟩, trivial⟩ ?_
          have f120 := (gr_b_14 hI92 (Int.toNat a1))
          refine gv_run 2 true hD (pcₚ := 187) (lvₚ := [(3, .inr (.inl (J77 0 75))), (0, .inr (.inr (some 0))), (1, .inl a1), (2, .inl a2)]) (stₚ := [.inl (I92 14 (Int.toNat a1)), .inl (48 * a1), .inr (.inr (some 21))]) (hₚ := gr_h I92 J93) (C := ((True ∧ True) ∧ (0 ≤ a1 ∧ a1 < ((8 : Nat) : Int)))) rfl ⟨⟨trivial, trivial⟩, ⟨by exact gz_m 47 (by omega), by exact gz_m 48 (by omega)⟩⟩ ?_
          refine gv_run 1 true hD (pcₚ := 188) (lvₚ := [(3, .inr (.inl (J77 0 75))), (0, .inr (.inr (some 0))), (1, .inl a1), (2, .inl a2)]) (stₚ := [.inr (.inl (J77 0 75)), .inl (I92 14 (Int.toNat a1)), .inl (48 * a1), .inr (.inr (some 21))]) (hₚ := gr_h I92 J93) (C := (True ∧ True)) rfl ⟨trivial, trivial⟩ ?_
          obtain ⟨r121, h121, E121, P121⟩ := r_find_21 (ws0 := ws0) (tb := tb) hws htb ext I92 J93 hI92 (48 * a1) ((I92 14 (Int.toNat a1))) (J77 0 75) ⟨by exact gz_m 49 (by omega), by exact gz_m 50 (by omega)⟩ ⟨by exact gz_m 51 (by omega), by exact gz_m 52 (by omega)⟩ (by exact gz_m 53 (by omega))
          obtain ⟨rfl, ⟨z121, rfl, q121⟩⟩ := P121
          refine gv_callS hD rfl (As := [.inr (.inr (some 21)), .inl (48 * a1), .inl (I92 14 (Int.toNat a1)), .inr (.inl (J77 0 75))]) (st := []) rfl (gr_lS hws rfl) (Nat.le_of_ble_eq_true rfl) (gz_Ev_mono (d := 1) (by decide) E121) ?_
          show gv_X _ _ (191, [(3, .inr (.inl (J77 0 75))), (0, .inr (.inr (some 0))), (1, .inl a1), (2, .inl a2)], [.inl z121], gr_sh ++ ext, gr_h I92 J93)
          exact gv_iret hD rfl ⟨I92, J93, rfl, hI92, FI92, FJ93, ⟨_, rfl, by exact gz_m 54 (by omega)⟩⟩
        refine gv_tabOut hD rfl ⟨by exact gz_m 55 (by omega), by exact gz_m 56 (by omega)⟩ (by exact gz_m 57 (by omega)) (t := 192) rfl ?_
        refine gv_run 7 true hD (pcₚ := 204) (lvₚ := [(3, .inr (.inl (J77 0 75))), (0, .inr (.inr (some 0))), (1, .inl a1), (2, .inl a2)]) (stₚ := [.inr (.inr (some 17)), .inl (24 * a1), .inr (.inr (some 23))]) (hₚ := gr_h I92 J93) (C := (((((((True ∧ True) ∧ True) ∧ True) ∧ True) ∧ True) ∧ True) ∧ True)) rfl ⟨⟨⟨⟨⟨⟨⟨trivial, trivial⟩, trivial⟩, trivial⟩, trivial⟩, trivial⟩, trivial⟩, trivial⟩ ?_
        have f122 := (gr_b_17 hI92 (Int.toNat a1))
        refine gv_run 2 true hD (pcₚ := 206) (lvₚ := [(3, .inr (.inl (J77 0 75))), (0, .inr (.inr (some 0))), (1, .inl a1), (2, .inl a2)]) (stₚ := [.inl (I92 17 (Int.toNat a1)), .inl (24 * a1), .inr (.inr (some 23))]) (hₚ := gr_h I92 J93) (C := ((True ∧ True) ∧ (0 ≤ a1 ∧ a1 < ((8 : Nat) : Int)))) rfl ⟨⟨trivial, trivial⟩, ⟨by exact gz_m 58 (by omega), by exact gz_m 59 (by omega)⟩⟩ ?_
        refine gv_run 1 true hD (pcₚ := 207) (lvₚ := [(3, .inr (.inl (J77 0 75))), (0, .inr (.inr (some 0))), (1, .inl a1), (2, .inl a2)]) (stₚ := [.inr (.inl (J77 0 75)), .inl (I92 17 (Int.toNat a1)), .inl (24 * a1), .inr (.inr (some 23))]) (hₚ := gr_h I92 J93) (C := (True ∧ True)) rfl ⟨trivial, trivial⟩ ?_
        obtain ⟨r123, h123, E123, P123⟩ := r_find_23 (ws0 := ws0) (tb := tb) hws htb ext I92 J93 hI92 (24 * a1) ((I92 17 (Int.toNat a1))) (J77 0 75) ⟨by exact gz_m 60 (by omega), by exact gz_m 61 (by omega)⟩ ⟨by exact gz_m 62 (by omega), by exact gz_m 63 (by omega)⟩ (by exact gz_m 64 (by omega))
        obtain ⟨rfl, ⟨z123, rfl, q123⟩⟩ := P123
        refine gv_callS hD rfl (As := [.inr (.inr (some 23)), .inl (24 * a1), .inl (I92 17 (Int.toNat a1)), .inr (.inl (J77 0 75))]) (st := []) rfl (gr_lS hws rfl) (Nat.le_of_ble_eq_true rfl) (gz_Ev_mono (d := 1) (by decide) E123) ?_
        show gv_X _ _ (210, [(3, .inr (.inl (J77 0 75))), (0, .inr (.inr (some 0))), (1, .inl a1), (2, .inl a2)], [.inl z123], gr_sh ++ ext, gr_h I92 J93)
        exact gv_iret hD rfl ⟨I92, J93, rfl, hI92, FI92, FJ93, ⟨_, rfl, by exact gz_m 65 (by omega)⟩⟩
      · refine gv_run 1 true hD (pcₚ := 76) (lvₚ := [(3, .inr (.inl (J77 0 75))), (0, .inr (.inr (some 0))), (1, .inl a1), (2, .inl a2)]) (stₚ := [.inl (-1)]) (hₚ := gr_h I92 J93) (C := (True ∧ True)) rfl ⟨trivial, trivial⟩ ?_
        exact gv_iret hD rfl ⟨I92, J93, rfl, hI92, FI92, FJ93, ⟨_, rfl, by exact gz_m 66 (by omega)⟩⟩
    · refine gv_run 1 true hD (pcₚ := 58) (lvₚ := [(0, .inr (.inr (some 0))), (1, .inl a1), (2, .inl a2)]) (stₚ := [.inl (-1)]) (hₚ := gr_h I76 J77) (C := (True ∧ True)) rfl ⟨trivial, trivial⟩ ?_
      exact gv_iret hD rfl ⟨I76, J77, rfl, hI76, FI76, FJ77, ⟨_, rfl, by exact gz_m 67 (by omega)⟩⟩
  refine gv_run 3 true hD (pcₚ := 5) (lvₚ := [(0, .inr (.inr (some 0))), (1, .inl a1), (2, .inl a2)]) (stₚ := []) (hₚ := gz_up (gr_h I J) 0 0 (.inl 0)) (C := (((True ∧ True) ∧ True) ∧ True)) rfl ⟨⟨⟨trivial, trivial⟩, trivial⟩, trivial⟩ ?_
  refine gr_st hI FI rfl rfl ⟨⟨by show 0 ≤ _; exact gz_m 68 (by omega), by show _ ≤ 2; exact gz_m 69 (by omega)⟩, trivial⟩ (fun I124 hI124 FI124 q125 p125 => ?_)
  have t126 := p125 0 71 (by decide)
  have t127 := p125 0 72 (by decide)
  have t128 := p125 0 73 (by decide)
  have t129 := p125 0 69 (by decide)
  have t130 := p125 0 1 (by decide)
  have t131 := p125 0 68 (by decide)
  have t132 := p125 0 2 (by decide)
  have f133 := (gr_b_0_71 hI124)
  have f134 := (gr_b_0_72 hI124)
  have f135 := (gr_b_0_73 hI124)
  have f136 := (gr_b_0_69 hI124)
  have f137 := (gr_b_0_1 hI124)
  have f138 := (gr_b_0_68 hI124)
  have f139 := (gr_b_0_2 hI124)
  refine gv_run 1 true hD (pcₚ := 6) (lvₚ := [(0, .inr (.inr (some 0))), (1, .inl a1), (2, .inl a2)]) (stₚ := [.inl a2]) (hₚ := gr_h I124 J) (C := (True ∧ True)) rfl ⟨trivial, trivial⟩ ?_
  refine gv_if_lt (t := 31) hD rfl rfl ⟨by exact gz_m 70 (by omega), by exact gz_m 71 (by omega)⟩ (fun c140 => ?_) (fun c140 => ?_)
  · refine gv_pick [0] rfl ?_
    exact L31 I124 J hI124 FI124 FJ (by exact gz_m 72 (by omega))
  · refine gv_run 2 true hD (pcₚ := 11) (lvₚ := [(0, .inr (.inr (some 0))), (1, .inl a1), (2, .inl a2)]) (stₚ := [.inl 5, .inl a2]) (hₚ := gr_h I124 J) (C := ((True ∧ True) ∧ True)) rfl ⟨⟨trivial, trivial⟩, trivial⟩ ?_
    refine gv_icmp_gt (t := 31) hD rfl rfl ⟨⟨by exact gz_m 73 (by omega), by exact gz_m 74 (by omega)⟩, ⟨by exact gz_m 75 (by omega), by exact gz_m 76 (by omega)⟩⟩ (fun c141 => ?_) (fun c141 => ?_)
    · refine gv_pick [0] rfl ?_
      exact L31 I124 J hI124 FI124 FJ (by exact gz_m 77 (by omega))
    · refine gv_run 2 true hD (pcₚ := 16) (lvₚ := [(0, .inr (.inr (some 0))), (1, .inl a1), (2, .inl a2)]) (stₚ := [.inl 2, .inl a2]) (hₚ := gr_h I124 J) (C := ((True ∧ True) ∧ True)) rfl ⟨⟨trivial, trivial⟩, trivial⟩ ?_
      refine gv_icmp_le (t := 36) hD rfl rfl ⟨⟨by exact gz_m 78 (by omega), by exact gz_m 79 (by omega)⟩, ⟨by exact gz_m 80 (by omega), by exact gz_m 81 (by omega)⟩⟩ (fun c142 => ?_) (fun c142 => ?_)
      · exact L36 I124 J hI124 FI124 FJ (by exact gz_m 82 (by omega))
      · refine gv_run 1 true hD (pcₚ := 20) (lvₚ := [(0, .inr (.inr (some 0))), (1, .inl a1), (2, .inl a2)]) (stₚ := [.inl a1]) (hₚ := gr_h I124 J) (C := (True ∧ True)) rfl ⟨trivial, trivial⟩ ?_
        refine gv_if_lt (t := 31) hD rfl rfl ⟨by exact gz_m 83 (by omega), by exact gz_m 84 (by omega)⟩ (fun c143 => ?_) (fun c143 => ?_)
        · refine gv_pick [0] rfl ?_
          exact L31 I124 J hI124 FI124 FJ (by exact gz_m 85 (by omega))
        · have f144 := (gr_b_0_1 hI124)
          refine gv_run 3 true hD (pcₚ := 28) (lvₚ := [(0, .inr (.inr (some 0))), (1, .inl a1), (2, .inl a2)]) (stₚ := [.inl (I124 0 1), .inl a1]) (hₚ := gr_h I124 J) (C := (((True ∧ True) ∧ True) ∧ True)) rfl ⟨⟨⟨trivial, trivial⟩, trivial⟩, trivial⟩ ?_
          refine gv_icmp_lt (t := 36) hD rfl rfl ⟨⟨by exact gz_m 86 (by omega), by exact gz_m 87 (by omega)⟩, ⟨by exact gz_m 88 (by omega), by exact gz_m 89 (by omega)⟩⟩ (fun c145 => ?_) (fun c145 => ?_)
          · exact L36 I124 J hI124 FI124 FJ (by exact gz_m 90 (by omega))
          · refine gv_pick [0] rfl ?_
            exact L31 I124 J hI124 FI124 FJ (by exact gz_m 91 (by omega))
set_option maxHeartbeats 8000000 in
set_option maxRecDepth 100000 in
theorem r_parse_t {ws0 : List Cond} {tb : String → gz_T} (hws : ∀ w ∈ gr_ws, w ∈ ws0) (htb : tb RX13 = gr_T) (ext : gz_Sh) (I : gr_I) (J : gr_J) (hI : gr_Inv I) (a1 : Int) (a2 : Int) (ha1 : (-2147483648) ≤ a1 ∧ a1 ≤ 2147483647) (ha2 : (-2147483648) ≤ a2 ∧ a2 ≤ 2147483647) (KGR_I : gr_GR I) (KFV_I : gr_FV I) : ∃ r hₚ, gz_Ev ws0 tb 13 (yX13_parse, cX13_parse, 3, (some .int)) [.inr (.inr (some 0)), .inl a1, .inl a2] (gr_sh ++ ext) (gr_h I J) r (gr_sh ++ ext) hₚ 0 0 ∧ (∃ (Iₚ : gr_I) (Jₚ : gr_J), hₚ = gr_h Iₚ Jₚ ∧ gr_Inv Iₚ ∧ gr_fr [0, 68, 69, 126, 127, 128, 143, 157, 158, 159, 160, 161, 166, 167, 168, 169, 170, 177, 179, 180, 181, 186] [57, 76, 77, 78, 79, 83, 85, 87, 88, 89, 90, 91, 92, 93, 94, 95, 96, 97, 98, 99, 100, 101, 103, 104, 105, 106, 107, 108, 109, 110, 111, 112] I Iₚ ∧ gr_fj [0, 68, 69, 126, 127, 128, 143, 157, 158, 159, 160, 161, 166, 167, 168, 169, 170, 177, 179, 180, 181, 186] [57, 76, 77, 78, 79, 83, 85, 87, 88, 89, 90, 91, 92, 93, 94, 95, 96, 97, 98, 99, 100, 101, 103, 104, 105, 106, 107, 108, 109, 110, 111, 112] J Jₚ ∧ gr_GR Iₚ ∧ gr_FV Iₚ ∧ (∃ z : Int, r = some (.inl z) ∧ (-3) ≤ z ∧ z ≤ 1 ∧ (((0 ≤ a1 ∧ a1 < I 0 1) ∧ (0 ≤ a2 ∧ a2 < I 0 2)) → Iₚ 0 68 = 0) ∧ (¬ ((0 ≤ a1 ∧ a1 < I 0 1) ∧ (0 ≤ a2 ∧ a2 < I 0 2)) → Iₚ 0 68 = I 0 68) ∧ (gr_KR I Iₚ))) := by
  have FI : gr_fr [0, 68, 69, 126, 127, 128, 143, 157, 158, 159, 160, 161, 166, 167, 168, 169, 170, 177, 179, 180, 181, 186] [57, 76, 77, 78, 79, 83, 85, 87, 88, 89, 90, 91, 92, 93, 94, 95, 96, 97, 98, 99, 100, 101, 103, 104, 105, 106, 107, 108, 109, 110, 111, 112] I I := fun _ _ _ => rfl
  have FJ : gr_fj [0, 68, 69, 126, 127, 128, 143, 157, 158, 159, 160, 161, 166, 167, 168, 169, 170, 177, 179, 180, 181, 186] [57, 76, 77, 78, 79, 83, 85, 87, 88, 89, 90, 91, 92, 93, 94, 95, 96, 97, 98, 99, 100, 101, 103, 104, 105, 106, 107, 108, 109, 110, 111, 112] J J := fun _ _ _ => rfl
  have hD : gv_D (gr_E ws0 tb 12 (yX13_parse, cX13_parse, 3, (some .int)) kX13_parse) := gq_of oX13_parse
  refine gr_ev (d := 12) (l := kX13_parse) (Po := fun r hₚ => (∃ (Iₚ : gr_I) (Jₚ : gr_J), hₚ = gr_h Iₚ Jₚ ∧ gr_Inv Iₚ ∧ gr_fr [0, 68, 69, 126, 127, 128, 143, 157, 158, 159, 160, 161, 166, 167, 168, 169, 170, 177, 179, 180, 181, 186] [57, 76, 77, 78, 79, 83, 85, 87, 88, 89, 90, 91, 92, 93, 94, 95, 96, 97, 98, 99, 100, 101, 103, 104, 105, 106, 107, 108, 109, 110, 111, 112] I Iₚ ∧ gr_fj [0, 68, 69, 126, 127, 128, 143, 157, 158, 159, 160, 161, 166, 167, 168, 169, 170, 177, 179, 180, 181, 186] [57, 76, 77, 78, 79, 83, 85, 87, 88, 89, 90, 91, 92, 93, 94, 95, 96, 97, 98, 99, 100, 101, 103, 104, 105, 106, 107, 108, 109, 110, 111, 112] J Jₚ ∧ gr_GR Iₚ ∧ gr_FV Iₚ ∧ (∃ z : Int, r = some (.inl z) ∧ (-3) ≤ z ∧ z ≤ 1 ∧ (((0 ≤ a1 ∧ a1 < I 0 1) ∧ (0 ≤ a2 ∧ a2 < I 0 2)) → Iₚ 0 68 = 0) ∧ (¬ ((0 ≤ a1 ∧ a1 < I 0 1) ∧ (0 ≤ a2 ∧ a2 < I 0 2)) → Iₚ 0 68 = I 0 68) ∧ (gr_KR I Iₚ)))) htb rfl (Nat.le_of_ble_eq_true rfl) ?_
  have f1 := (gr_b_0_177 hI)
  have f2 := (gr_b_0_186 hI)
  have f3 := (gr_b_0_68 hI)
  have f4 := (gr_b_0_1 hI)
  have f5 := (gr_b_0_2 hI)
  have KKR_I : gr_KR I I := gr_KR_rf
  have L16 : ∀ (I6 : gr_I) (J7 : gr_J) , gr_Inv I6 → gr_fr [0, 68, 69, 126, 127, 128, 143, 157, 158, 159, 160, 161, 166, 167, 168, 169, 170, 177, 179, 180, 181, 186] [57, 76, 77, 78, 79, 83, 85, 87, 88, 89, 90, 91, 92, 93, 94, 95, 96, 97, 98, 99, 100, 101, 103, 104, 105, 106, 107, 108, 109, 110, 111, 112] I I6 → gr_fj [0, 68, 69, 126, 127, 128, 143, 157, 158, 159, 160, 161, 166, 167, 168, 169, 170, 177, 179, 180, 181, 186] [57, 76, 77, 78, 79, 83, 85, 87, 88, 89, 90, 91, 92, 93, 94, 95, 96, 97, 98, 99, 100, 101, 103, 104, 105, 106, 107, 108, 109, 110, 111, 112] J J7 → gr_GR I6 → gr_FV I6 → gr_KR I I6 → ((I6 0 68 = I 0 68) ∧ (¬ ((0 ≤ a1 ∧ a1 < I 0 1) ∧ (0 ≤ a2 ∧ a2 < I 0 2)))) → gv_X (gr_E ws0 tb 12 (yX13_parse, cX13_parse, 3, (some .int)) kX13_parse) (gv_Q cX13_parse (some .int) (gr_sh ++ ext) (fun r hₚ => (∃ (Iₚ : gr_I) (Jₚ : gr_J), hₚ = gr_h Iₚ Jₚ ∧ gr_Inv Iₚ ∧ gr_fr [0, 68, 69, 126, 127, 128, 143, 157, 158, 159, 160, 161, 166, 167, 168, 169, 170, 177, 179, 180, 181, 186] [57, 76, 77, 78, 79, 83, 85, 87, 88, 89, 90, 91, 92, 93, 94, 95, 96, 97, 98, 99, 100, 101, 103, 104, 105, 106, 107, 108, 109, 110, 111, 112] I Iₚ ∧ gr_fj [0, 68, 69, 126, 127, 128, 143, 157, 158, 159, 160, 161, 166, 167, 168, 169, 170, 177, 179, 180, 181, 186] [57, 76, 77, 78, 79, 83, 85, 87, 88, 89, 90, 91, 92, 93, 94, 95, 96, 97, 98, 99, 100, 101, 103, 104, 105, 106, 107, 108, 109, 110, 111, 112] J Jₚ ∧ gr_GR Iₚ ∧ gr_FV Iₚ ∧ (∃ z : Int, r = some (.inl z) ∧ (-3) ≤ z ∧ z ≤ 1 ∧ (((0 ≤ a1 ∧ a1 < I 0 1) ∧ (0 ≤ a2 ∧ a2 < I 0 2)) → Iₚ 0 68 = 0) ∧ (¬ ((0 ≤ a1 ∧ a1 < I 0 1) ∧ (0 ≤ a2 ∧ a2 < I 0 2)) → Iₚ 0 68 = I 0 68) ∧ (gr_KR I Iₚ))))) (16, [], [], gr_sh ++ ext, gr_h I6 J7) := by
    intro I6 J7 hI6 FI6 FJ7 KGR_I6 KFV_I6 KKR_I6 m_8
    obtain ⟨e0_8, e1_8⟩ := m_8
    have f9 := (gr_b_0_177 hI6)
    have f10 := (gr_b_0_186 hI6)
    have f11 := (gr_b_0_68 hI6)
    have f12 := (gr_b_0_1 hI6)
    have f13 := (gr_b_0_2 hI6)
    refine gv_run 1 true hD (pcₚ := 17) (lvₚ := []) (stₚ := [.inl 0]) (hₚ := gr_h I6 J7) (C := (True ∧ True)) rfl ⟨trivial, trivial⟩ ?_
    have b14 : (((0 ≤ a1 ∧ a1 < I 0 1) ∧ (0 ≤ a2 ∧ a2 < I 0 2)) → I6 0 68 = 0) ∧ (¬ ((0 ≤ a1 ∧ a1 < I 0 1) ∧ (0 ≤ a2 ∧ a2 < I 0 2)) → I6 0 68 = I 0 68) := by exact gz_m 0 (by omega)
    exact gv_iret hD rfl ⟨I6, J7, rfl, hI6, FI6, FJ7, KGR_I6, KFV_I6, ⟨_, rfl, by exact gz_m 1 (by omega), by exact gz_m 2 (by omega), b14.1, b14.2, KKR_I6⟩⟩
  refine gv_run 2 true hD (pcₚ := 2) (lvₚ := [(0, .inr (.inr (some 0))), (1, .inl a1), (2, .inl a2)]) (stₚ := [.inl a1, .inr (.inr (some 0))]) (hₚ := gr_h I J) (C := ((True ∧ True) ∧ True)) rfl ⟨⟨trivial, trivial⟩, trivial⟩ ?_
  obtain ⟨r15, h15, E15, P15⟩ := r_noTongue_t (ws0 := ws0) (tb := tb) hws htb ext I J hI a1 ⟨by exact gz_m 3 (by omega), by exact gz_m 4 (by omega)⟩ 
  obtain ⟨I16, J17, rfl, hI16, g15, k15, ⟨z15, rfl, q15⟩⟩ := P15
  have FI16 := gr_frt FI g15 rfl rfl
  have FJ17 := gr_fjt FJ k15 rfl rfl
  have t18 := g15 0 177 rfl
  have t19 := g15 0 186 rfl
  have t20 := g15 0 68 rfl
  have t21 := g15 0 1 rfl
  have t22 := g15 0 2 rfl
  have f23 := (gr_b_0_177 hI16)
  have f24 := (gr_b_0_186 hI16)
  have f25 := (gr_b_0_68 hI16)
  have f26 := (gr_b_0_1 hI16)
  have f27 := (gr_b_0_2 hI16)
  have KGR_I16 := gr_GR_fr KGR_I (fun k => g15 19 k rfl) (fun k => g15 18 k rfl) (fun k => g15 36 k rfl) (fun k => g15 41 k rfl) (fun k => g15 42 k rfl) (fun k => g15 43 k rfl) (fun k => g15 45 k rfl) (fun k => g15 46 k rfl) (fun k => g15 47 k rfl) (fun k => g15 6 k rfl) (fun k => g15 7 k rfl) (fun k => g15 8 k rfl) (g15 0 3 rfl)
  have KFV_I16 := gr_FV_fr KFV_I (fun k => g15 87 k rfl) (fun k => g15 88 k rfl) (fun k => g15 104 k rfl) (fun k => g15 90 k rfl) (fun k => g15 91 k rfl) (fun k => g15 92 k rfl) (fun k => g15 94 k rfl) (fun k => g15 95 k rfl) (fun k => g15 97 k rfl) (fun k => g15 98 k rfl) (fun k => g15 19 k rfl) (fun k => g15 18 k rfl) (fun k => g15 41 k rfl) (fun k => g15 6 k rfl) (fun k => g15 99 k rfl) (fun k => g15 105 k rfl) (fun k => g15 107 k rfl) (fun k => g15 108 k rfl) (fun k => g15 110 k rfl) (fun k => g15 111 k rfl) (g15 0 157 rfl) (g15 0 158 rfl) (g15 0 177 rfl) (g15 0 186 rfl) (g15 0 159 rfl) hI
  have KKR_I16 := gr_KR_g KKR_I g15 (by decide)
  refine gv_callV hD rfl (As := [.inl a1]) (st := []) rfl (by decide) rfl rfl (gr_lV hws rfl) (Nat.le_of_ble_eq_true rfl) (gz_Ev_mono (d := 1) (by decide) E15) ?_
  show gv_X _ _ (5, [(0, .inr (.inr (some 0))), (1, .inl a1), (2, .inl a2)], [.inl z15], gr_sh ++ ext, gr_h I16 J17)
  refine gv_if_ne (t := 16) hD rfl rfl ⟨by exact gz_m 5 (by omega), by exact gz_m 6 (by omega)⟩ (fun c28 => ?_) (fun c28 => ?_)
  · refine gv_pick [] rfl ?_
    exact L16 I16 J17 hI16 FI16 FJ17 KGR_I16 KFV_I16 KKR_I16 (by exact gz_m 7 (by omega))
  · refine gv_run 2 true hD (pcₚ := 10) (lvₚ := [(0, .inr (.inr (some 0))), (1, .inl a1), (2, .inl a2)]) (stₚ := [.inl a2, .inr (.inr (some 0))]) (hₚ := gr_h I16 J17) (C := ((True ∧ True) ∧ True)) rfl ⟨⟨trivial, trivial⟩, trivial⟩ ?_
    obtain ⟨r29, h29, E29, P29⟩ := r_noKind_t (ws0 := ws0) (tb := tb) hws htb ext I16 J17 hI16 a2 ⟨by exact gz_m 8 (by omega), by exact gz_m 9 (by omega)⟩ 
    obtain ⟨I30, J31, rfl, hI30, g29, k29, ⟨z29, rfl, q29⟩⟩ := P29
    have FI30 := gr_frt FI16 g29 rfl rfl
    have FJ31 := gr_fjt FJ17 k29 rfl rfl
    have t32 := g29 0 177 rfl
    have t33 := g29 0 186 rfl
    have t34 := g29 0 68 rfl
    have t35 := g29 0 1 rfl
    have t36 := g29 0 2 rfl
    have f37 := (gr_b_0_177 hI30)
    have f38 := (gr_b_0_186 hI30)
    have f39 := (gr_b_0_68 hI30)
    have f40 := (gr_b_0_1 hI30)
    have f41 := (gr_b_0_2 hI30)
    have KGR_I30 := gr_GR_fr KGR_I16 (fun k => g29 19 k rfl) (fun k => g29 18 k rfl) (fun k => g29 36 k rfl) (fun k => g29 41 k rfl) (fun k => g29 42 k rfl) (fun k => g29 43 k rfl) (fun k => g29 45 k rfl) (fun k => g29 46 k rfl) (fun k => g29 47 k rfl) (fun k => g29 6 k rfl) (fun k => g29 7 k rfl) (fun k => g29 8 k rfl) (g29 0 3 rfl)
    have KFV_I30 := gr_FV_fr KFV_I16 (fun k => g29 87 k rfl) (fun k => g29 88 k rfl) (fun k => g29 104 k rfl) (fun k => g29 90 k rfl) (fun k => g29 91 k rfl) (fun k => g29 92 k rfl) (fun k => g29 94 k rfl) (fun k => g29 95 k rfl) (fun k => g29 97 k rfl) (fun k => g29 98 k rfl) (fun k => g29 19 k rfl) (fun k => g29 18 k rfl) (fun k => g29 41 k rfl) (fun k => g29 6 k rfl) (fun k => g29 99 k rfl) (fun k => g29 105 k rfl) (fun k => g29 107 k rfl) (fun k => g29 108 k rfl) (fun k => g29 110 k rfl) (fun k => g29 111 k rfl) (g29 0 157 rfl) (g29 0 158 rfl) (g29 0 177 rfl) (g29 0 186 rfl) (g29 0 159 rfl) hI16
    have KKR_I30 := gr_KR_g KKR_I16 g29 (by decide)
    refine gv_callV hD rfl (As := [.inl a2]) (st := []) rfl (by decide) rfl rfl (gr_lV hws rfl) (Nat.le_of_ble_eq_true rfl) (gz_Ev_mono (d := 1) (by decide) E29) ?_
    show gv_X _ _ (13, [(0, .inr (.inr (some 0))), (1, .inl a1), (2, .inl a2)], [.inl z29], gr_sh ++ ext, gr_h I30 J31)
    refine gv_if_eq (t := 18) hD rfl rfl ⟨by exact gz_m 10 (by omega), by exact gz_m 11 (by omega)⟩ (fun c42 => ?_) (fun c42 => ?_)
    · refine gv_run 1 true hD (pcₚ := 19) (lvₚ := [(0, .inr (.inr (some 0))), (1, .inl a1), (2, .inl a2)]) (stₚ := [.inr (.inr (some 0))]) (hₚ := gr_h I30 J31) (C := (True ∧ True)) rfl ⟨trivial, trivial⟩ ?_
      obtain ⟨r43, h43, E43, P43⟩ := r_sentence_t (ws0 := ws0) (tb := tb) hws htb ext I30 J31 hI30   
      obtain ⟨I44, J45, rfl, hI44, g43, k43, ⟨z43, rfl, q43⟩⟩ := P43
      have FI44 := gr_frt FI30 g43 rfl rfl
      have FJ45 := gr_fjt FJ31 k43 rfl rfl
      have t46 := g43 0 177 rfl
      have t47 := g43 0 186 rfl
      have t48 := g43 0 1 rfl
      have t49 := g43 0 2 rfl
      have f50 := (gr_b_0_177 hI44)
      have f51 := (gr_b_0_186 hI44)
      have f52 := (gr_b_0_68 hI44)
      have f53 := (gr_b_0_1 hI44)
      have f54 := (gr_b_0_2 hI44)
      have KGR_I44 := gr_GR_fr KGR_I30 (fun k => g43 19 k rfl) (fun k => g43 18 k rfl) (fun k => g43 36 k rfl) (fun k => g43 41 k rfl) (fun k => g43 42 k rfl) (fun k => g43 43 k rfl) (fun k => g43 45 k rfl) (fun k => g43 46 k rfl) (fun k => g43 47 k rfl) (fun k => g43 6 k rfl) (fun k => g43 7 k rfl) (fun k => g43 8 k rfl) (g43 0 3 rfl)
      have KFV_I44 := gr_FV_fr KFV_I30 (fun k => g43 87 k rfl) (fun k => g43 88 k rfl) (fun k => g43 104 k rfl) (fun k => g43 90 k rfl) (fun k => g43 91 k rfl) (fun k => g43 92 k rfl) (fun k => g43 94 k rfl) (fun k => g43 95 k rfl) (fun k => g43 97 k rfl) (fun k => g43 98 k rfl) (fun k => g43 19 k rfl) (fun k => g43 18 k rfl) (fun k => g43 41 k rfl) (fun k => g43 6 k rfl) (fun k => g43 99 k rfl) (fun k => g43 105 k rfl) (fun k => g43 107 k rfl) (fun k => g43 108 k rfl) (fun k => g43 110 k rfl) (fun k => g43 111 k rfl) (g43 0 157 rfl) (g43 0 158 rfl) (g43 0 177 rfl) (g43 0 186 rfl) (g43 0 159 rfl) hI30
      have KKR_I44 := gr_KR_g KKR_I30 g43 (by decide)
      refine gv_callV hD rfl (As := []) (st := []) rfl (by decide) rfl rfl (gr_lV hws rfl) (Nat.le_of_ble_eq_true rfl) (gz_Ev_mono (d := 2) (by decide) E43) ?_
      show gv_X _ _ (22, [(0, .inr (.inr (some 0))), (1, .inl a1), (2, .inl a2)], [.inl z43], gr_sh ++ ext, gr_h I44 J45)
      refine gv_if_ne (t := 32) hD rfl rfl ⟨by exact gz_m 12 (by omega), by exact gz_m 13 (by omega)⟩ (fun c55 => ?_) (fun c55 => ?_)
      · refine gv_run 3 true hD (pcₚ := 37) (lvₚ := [(0, .inr (.inr (some 0))), (1, .inl a1), (2, .inl a2)]) (stₚ := []) (hₚ := gz_up (gr_h I44 J45) 0 161 (.inl 0)) (C := (((True ∧ True) ∧ True) ∧ True)) rfl ⟨⟨⟨trivial, trivial⟩, trivial⟩, trivial⟩ ?_
        refine gr_st hI44 FI44 rfl rfl ⟨⟨by show 0 ≤ _; exact gz_m 14 (by omega), by show _ ≤ 400001; exact gz_m 15 (by omega)⟩, trivial⟩ (fun I56 hI56 FI56 q57 p57 => ?_)
        have t58 := p57 0 177 (by decide)
        have t59 := p57 0 186 (by decide)
        have t60 := p57 0 68 (by decide)
        have t61 := p57 0 1 (by decide)
        have t62 := p57 0 2 (by decide)
        have f63 := (gr_b_0_177 hI56)
        have f64 := (gr_b_0_186 hI56)
        have f65 := (gr_b_0_68 hI56)
        have f66 := (gr_b_0_1 hI56)
        have f67 := (gr_b_0_2 hI56)
        have KGR_I56 := gr_GR_fr KGR_I44 (fun k => p57 19 k (fun q => absurd q.1 (by first | exact gz_ne rfl | decide))) (fun k => p57 18 k (fun q => absurd q.1 (by first | exact gz_ne rfl | decide))) (fun k => p57 36 k (fun q => absurd q.1 (by first | exact gz_ne rfl | decide))) (fun k => p57 41 k (fun q => absurd q.1 (by first | exact gz_ne rfl | decide))) (fun k => p57 42 k (fun q => absurd q.1 (by first | exact gz_ne rfl | decide))) (fun k => p57 43 k (fun q => absurd q.1 (by first | exact gz_ne rfl | decide))) (fun k => p57 45 k (fun q => absurd q.1 (by first | exact gz_ne rfl | decide))) (fun k => p57 46 k (fun q => absurd q.1 (by first | exact gz_ne rfl | decide))) (fun k => p57 47 k (fun q => absurd q.1 (by first | exact gz_ne rfl | decide))) (fun k => p57 6 k (fun q => absurd q.1 (by first | exact gz_ne rfl | decide))) (fun k => p57 7 k (fun q => absurd q.1 (by first | exact gz_ne rfl | decide))) (fun k => p57 8 k (fun q => absurd q.1 (by first | exact gz_ne rfl | decide))) (p57 0 3 (by decide))
        have KFV_I56 := gr_FV_fr KFV_I44 (fun k => p57 87 k (fun q => absurd q.1 (by first | exact gz_ne rfl | decide))) (fun k => p57 88 k (fun q => absurd q.1 (by first | exact gz_ne rfl | decide))) (fun k => p57 104 k (fun q => absurd q.1 (by first | exact gz_ne rfl | decide))) (fun k => p57 90 k (fun q => absurd q.1 (by first | exact gz_ne rfl | decide))) (fun k => p57 91 k (fun q => absurd q.1 (by first | exact gz_ne rfl | decide))) (fun k => p57 92 k (fun q => absurd q.1 (by first | exact gz_ne rfl | decide))) (fun k => p57 94 k (fun q => absurd q.1 (by first | exact gz_ne rfl | decide))) (fun k => p57 95 k (fun q => absurd q.1 (by first | exact gz_ne rfl | decide))) (fun k => p57 97 k (fun q => absurd q.1 (by first | exact gz_ne rfl | decide))) (fun k => p57 98 k (fun q => absurd q.1 (by first | exact gz_ne rfl | decide))) (fun k => p57 19 k (fun q => absurd q.1 (by first | exact gz_ne rfl | decide))) (fun k => p57 18 k (fun q => absurd q.1 (by first | exact gz_ne rfl | decide))) (fun k => p57 41 k (fun q => absurd q.1 (by first | exact gz_ne rfl | decide))) (fun k => p57 6 k (fun q => absurd q.1 (by first | exact gz_ne rfl | decide))) (fun k => p57 99 k (fun q => absurd q.1 (by first | exact gz_ne rfl | decide))) (fun k => p57 105 k (fun q => absurd q.1 (by first | exact gz_ne rfl | decide))) (fun k => p57 107 k (fun q => absurd q.1 (by first | exact gz_ne rfl | decide))) (fun k => p57 108 k (fun q => absurd q.1 (by first | exact gz_ne rfl | decide))) (fun k => p57 110 k (fun q => absurd q.1 (by first | exact gz_ne rfl | decide))) (fun k => p57 111 k (fun q => absurd q.1 (by first | exact gz_ne rfl | decide))) (p57 0 157 (by decide)) (p57 0 158 (by decide)) (p57 0 177 (by decide)) (p57 0 186 (by decide)) (p57 0 159 (by decide)) hI44
        have KKR_I56 := gr_KR_f KKR_I44 p57 (by decide)
        refine gv_run 3 true hD (pcₚ := 40) (lvₚ := [(0, .inr (.inr (some 0))), (1, .inl a1), (2, .inl a2)]) (stₚ := [.inl a2, .inl a1, .inr (.inr (some 0))]) (hₚ := gr_h I56 J45) (C := (((True ∧ True) ∧ True) ∧ True)) rfl ⟨⟨⟨trivial, trivial⟩, trivial⟩, trivial⟩ ?_
        obtain ⟨r68, h68, E68, P68⟩ := r_parsed (ws0 := ws0) (tb := tb) hws htb ext I56 J45 hI56 a1 a2 ⟨by exact gz_m 16 (by omega), by exact gz_m 17 (by omega)⟩ ⟨by exact gz_m 18 (by omega), by exact gz_m 19 (by omega)⟩ KGR_I56
        obtain ⟨I69, J70, rfl, hI69, g68, k68, KGR_I69, ⟨z68, rfl, q68⟩⟩ := P68
        have FI69 := gr_frt FI56 g68 rfl rfl
        have FJ70 := gr_fjt FJ45 k68 rfl rfl
        have t71 := g68 0 68 rfl
        have t72 := g68 0 1 rfl
        have t73 := g68 0 2 rfl
        have f74 := (gr_b_0_177 hI69)
        have f75 := (gr_b_0_186 hI69)
        have f76 := (gr_b_0_68 hI69)
        have f77 := (gr_b_0_1 hI69)
        have f78 := (gr_b_0_2 hI69)
        have l68 := q68.2.2.2
        have KKR_I69 := gr_KR_tr KKR_I56 l68
        have KFV_I69 : gr_FV I69 := q68.2.2.1
        refine gv_callV hD rfl (As := [.inl a1, .inl a2]) (st := []) rfl (by decide) rfl rfl (gr_lV hws rfl) (Nat.le_of_ble_eq_true rfl) (gz_Ev_mono (d := 12) (by decide) E68) ?_
        show gv_X _ _ (43, [(0, .inr (.inr (some 0))), (1, .inl a1), (2, .inl a2)], [.inl z68], gr_sh ++ ext, gr_h I69 J70)
        have b79 : (((0 ≤ a1 ∧ a1 < I 0 1) ∧ (0 ≤ a2 ∧ a2 < I 0 2)) → I69 0 68 = 0) ∧ (¬ ((0 ≤ a1 ∧ a1 < I 0 1) ∧ (0 ≤ a2 ∧ a2 < I 0 2)) → I69 0 68 = I 0 68) := by exact gz_m 20 (by omega)
        exact gv_iret hD rfl ⟨I69, J70, rfl, hI69, FI69, FJ70, KGR_I69, KFV_I69, ⟨_, rfl, by exact gz_m 21 (by omega), by exact gz_m 22 (by omega), b79.1, b79.2, KKR_I69⟩⟩
      · refine gv_run 1 true hD (pcₚ := 26) (lvₚ := [(0, .inr (.inr (some 0))), (1, .inl a1), (2, .inl a2)]) (stₚ := [.inr (.inr (some 0))]) (hₚ := gr_h I44 J45) (C := (True ∧ True)) rfl ⟨trivial, trivial⟩ ?_
        obtain ⟨r80, h80, E80, P80⟩ := r_noForest_f (ws0 := ws0) (tb := tb) hws htb ext I44 J45 hI44   
        obtain ⟨I81, J82, rfl, hI81, g80, k80, ⟨rfl, q80⟩⟩ := P80
        have FI81 := gr_frt FI44 g80 rfl rfl
        have FJ82 := gr_fjt FJ45 k80 rfl rfl
        have t83 := g80 0 68 rfl
        have t84 := g80 0 1 rfl
        have t85 := g80 0 2 rfl
        have f86 := (gr_b_0_177 hI81)
        have f87 := (gr_b_0_186 hI81)
        have f88 := (gr_b_0_68 hI81)
        have f89 := (gr_b_0_1 hI81)
        have f90 := (gr_b_0_2 hI81)
        have KGR_I81 := gr_GR_fr KGR_I44 (fun k => g80 19 k rfl) (fun k => g80 18 k rfl) (fun k => g80 36 k rfl) (fun k => g80 41 k rfl) (fun k => g80 42 k rfl) (fun k => g80 43 k rfl) (fun k => g80 45 k rfl) (fun k => g80 46 k rfl) (fun k => g80 47 k rfl) (fun k => g80 6 k rfl) (fun k => g80 7 k rfl) (fun k => g80 8 k rfl) (g80 0 3 rfl)
        have KKR_I81 := gr_KR_g KKR_I44 g80 (by decide)
        have KFV_I81 : gr_FV I81 := (gr_FV_no (by exact gz_m 23 (by omega)) (by exact gz_m 24 (by omega)))
        refine gv_callV hD rfl (As := []) (st := []) rfl (by decide) rfl rfl (gr_lV hws rfl) (Nat.le_of_ble_eq_true rfl) (gz_Ev_mono (d := 1) (by decide) E80) ?_
        show gv_X _ _ (29, [(0, .inr (.inr (some 0))), (1, .inl a1), (2, .inl a2)], [], gr_sh ++ ext, gr_h I81 J82)
        refine gv_run 1 true hD (pcₚ := 31) (lvₚ := [(0, .inr (.inr (some 0))), (1, .inl a1), (2, .inl a2)]) (stₚ := [.inl (-3)]) (hₚ := gr_h I81 J82) (C := (True ∧ True)) rfl ⟨trivial, trivial⟩ ?_
        have b91 : (((0 ≤ a1 ∧ a1 < I 0 1) ∧ (0 ≤ a2 ∧ a2 < I 0 2)) → I81 0 68 = 0) ∧ (¬ ((0 ≤ a1 ∧ a1 < I 0 1) ∧ (0 ≤ a2 ∧ a2 < I 0 2)) → I81 0 68 = I 0 68) := by exact gz_m 25 (by omega)
        exact gv_iret hD rfl ⟨I81, J82, rfl, hI81, FI81, FJ82, KGR_I81, KFV_I81, ⟨_, rfl, by exact gz_m 26 (by omega), by exact gz_m 27 (by omega), b91.1, b91.2, KKR_I81⟩⟩
    · refine gv_pick [] rfl ?_
      exact L16 I30 J31 hI30 FI30 FJ31 KGR_I30 KFV_I30 KKR_I30 (by exact gz_m 28 (by omega))
set_option maxHeartbeats 8000000 in
set_option maxRecDepth 100000 in
theorem r_tree_t {ws0 : List Cond} {tb : String → gz_T} (hws : ∀ w ∈ gr_ws, w ∈ ws0) (htb : tb RX13 = gr_T) (ext : gz_Sh) (I : gr_I) (J : gr_J) (hI : gr_Inv I) (a1 : Int) (ha1 : (-2147483648) ≤ a1 ∧ a1 ≤ 2147483647) (KPL_I : gr_PL I) : ∃ r hₚ, gz_Ev ws0 tb 73 (yX13_tree, cX13_tree, 3, (some .int)) [.inr (.inr (some 0)), .inl a1] (gr_sh ++ ext) (gr_h I J) r (gr_sh ++ ext) hₚ 0 0 ∧ (∃ (Iₚ : gr_I) (Jₚ : gr_J), hₚ = gr_h Iₚ Jₚ ∧ gr_Inv Iₚ ∧ gr_fr [0, 68, 69, 71, 72, 73, 74, 75, 188] [57, 113, 114, 115] I Iₚ ∧ gr_fj [0, 68, 69, 71, 72, 73, 74, 75, 188] [57, 113, 114, 115] J Jₚ ∧ gr_PL Iₚ ∧ (∃ z : Int, r = some (.inl z) ∧ (-1001) ≤ z ∧ z ≤ 2000 ∧ ((0 ≤ a1 ∧ a1 ≤ 7) → Iₚ 0 68 = 0) ∧ (¬ (0 ≤ a1 ∧ a1 ≤ 7) → Iₚ 0 68 = I 0 68))) := by
  have FI : gr_fr [0, 68, 69, 71, 72, 73, 74, 75, 188] [57, 113, 114, 115] I I := fun _ _ _ => rfl
  have FJ : gr_fj [0, 68, 69, 71, 72, 73, 74, 75, 188] [57, 113, 114, 115] J J := fun _ _ _ => rfl
  have hD : gv_D (gr_E ws0 tb 72 (yX13_tree, cX13_tree, 3, (some .int)) kX13_tree) := gq_of oX13_tree
  refine gr_ev (d := 72) (l := kX13_tree) (Po := fun r hₚ => (∃ (Iₚ : gr_I) (Jₚ : gr_J), hₚ = gr_h Iₚ Jₚ ∧ gr_Inv Iₚ ∧ gr_fr [0, 68, 69, 71, 72, 73, 74, 75, 188] [57, 113, 114, 115] I Iₚ ∧ gr_fj [0, 68, 69, 71, 72, 73, 74, 75, 188] [57, 113, 114, 115] J Jₚ ∧ gr_PL Iₚ ∧ (∃ z : Int, r = some (.inl z) ∧ (-1001) ≤ z ∧ z ≤ 2000 ∧ ((0 ≤ a1 ∧ a1 ≤ 7) → Iₚ 0 68 = 0) ∧ (¬ (0 ≤ a1 ∧ a1 ≤ 7) → Iₚ 0 68 = I 0 68)))) htb rfl (Nat.le_of_ble_eq_true rfl) ?_
  have f1 := (gr_b_0_71 hI)
  have f2 := (gr_b_0_72 hI)
  have f3 := (gr_b_0_73 hI)
  have f4 := (gr_b_0_69 hI)
  have f5 := (gr_b_0_188 hI)
  have f6 := (gr_b_0_68 hI)
  have f7 := (gr_b_0_1 hI)
  have f8 := (gr_b_0_2 hI)
  have L43 : ∀ (I9 : gr_I) (J10 : gr_J) , gr_Inv I9 → gr_fr [0, 68, 69, 71, 72, 73, 74, 75, 188] [57, 113, 114, 115] I I9 → gr_fj [0, 68, 69, 71, 72, 73, 74, 75, 188] [57, 113, 114, 115] J J10 → gr_PL I9 → ((I9 0 71 = 5 ∨ I9 0 73 ≤ I9 0 69) ∧ (I9 0 72 ≤ I9 0 69) ∧ (I9 0 71 = 0 ∨ (I9 0 72 < I9 0 73 ∧ I9 0 72 < I9 0 69)) ∧ (I9 0 71 = 3 → 2 ≤ I9 0 73 - I9 0 72 ∧ I9 0 73 - I9 0 72 ≤ 14) ∧ (I9 0 72 ≤ I9 0 73) ∧ (I9 0 68 = 0) ∧ ((0 ≤ a1 ∧ a1 ≤ 7))) → gv_X (gr_E ws0 tb 72 (yX13_tree, cX13_tree, 3, (some .int)) kX13_tree) (gv_Q cX13_tree (some .int) (gr_sh ++ ext) (fun r hₚ => (∃ (Iₚ : gr_I) (Jₚ : gr_J), hₚ = gr_h Iₚ Jₚ ∧ gr_Inv Iₚ ∧ gr_fr [0, 68, 69, 71, 72, 73, 74, 75, 188] [57, 113, 114, 115] I Iₚ ∧ gr_fj [0, 68, 69, 71, 72, 73, 74, 75, 188] [57, 113, 114, 115] J Jₚ ∧ gr_PL Iₚ ∧ (∃ z : Int, r = some (.inl z) ∧ (-1001) ≤ z ∧ z ≤ 2000 ∧ ((0 ≤ a1 ∧ a1 ≤ 7) → Iₚ 0 68 = 0) ∧ (¬ (0 ≤ a1 ∧ a1 ≤ 7) → Iₚ 0 68 = I 0 68))))) (43, [(0, .inr (.inr (some 0)))], [], gr_sh ++ ext, gr_h I9 J10) := by
    intro I9 J10 hI9 FI9 FJ10 KPL_I9 m_11
    obtain ⟨e0_11, e1_11, e2_11, e3_11, e4_11, e5_11, e6_11⟩ := m_11
    have f12 := (gr_b_0_71 hI9)
    have f13 := (gr_b_0_72 hI9)
    have f14 := (gr_b_0_73 hI9)
    have f15 := (gr_b_0_69 hI9)
    have f16 := (gr_b_0_188 hI9)
    have f17 := (gr_b_0_68 hI9)
    have f18 := (gr_b_0_1 hI9)
    have f19 := (gr_b_0_2 hI9)
    have L62 : ∀ (s0_20 : Int) (s1_20 : Int), (((-1) ≤ s0_20 ∧ s0_20 ≤ (-1)) ∧ (0 ≤ s1_20 ∧ s1_20 ≤ 1000) ∧ (I9 0 68 = 0) ∧ ((0 ≤ a1 ∧ a1 ≤ 7))) → gv_X (gr_E ws0 tb 72 (yX13_tree, cX13_tree, 3, (some .int)) kX13_tree) (gv_Q cX13_tree (some .int) (gr_sh ++ ext) (fun r hₚ => (∃ (Iₚ : gr_I) (Jₚ : gr_J), hₚ = gr_h Iₚ Jₚ ∧ gr_Inv Iₚ ∧ gr_fr [0, 68, 69, 71, 72, 73, 74, 75, 188] [57, 113, 114, 115] I Iₚ ∧ gr_fj [0, 68, 69, 71, 72, 73, 74, 75, 188] [57, 113, 114, 115] J Jₚ ∧ gr_PL Iₚ ∧ (∃ z : Int, r = some (.inl z) ∧ (-1001) ≤ z ∧ z ≤ 2000 ∧ ((0 ≤ a1 ∧ a1 ≤ 7) → Iₚ 0 68 = 0) ∧ (¬ (0 ≤ a1 ∧ a1 ≤ 7) → Iₚ 0 68 = I 0 68))))) (62, [], [.inl s1_20, .inl s0_20], gr_sh ++ ext, gr_h I9 J10) := by
      intro s0_20 s1_20 m_20
      obtain ⟨hs0_20, hs1_20, e0_20, e1_20⟩ := m_20
      have f21 := (gr_b_0_71 hI9)
      have f22 := (gr_b_0_72 hI9)
      have f23 := (gr_b_0_73 hI9)
      have f24 := (gr_b_0_69 hI9)
      have f25 := (gr_b_0_188 hI9)
      have f26 := (gr_b_0_68 hI9)
      have f27 := (gr_b_0_1 hI9)
      have f28 := (gr_b_0_2 hI9)
      refine gv_run 1 true hD (pcₚ := 63) (lvₚ := []) (stₚ := [.inl (s0_20 - s1_20)]) (hₚ := gr_h I9 J10) (C := (True ∧ True)) rfl ⟨trivial, trivial⟩ ?_
      exact gv_iret hD rfl ⟨I9, J10, rfl, hI9, FI9, FJ10, KPL_I9, ⟨_, rfl, by exact gz_m 0 (by omega)⟩⟩
    have f29 := (gr_b_0_71 hI9)
    refine gv_run 3 true hD (pcₚ := 48) (lvₚ := [(0, .inr (.inr (some 0)))]) (stₚ := [.inl (I9 0 71), .inl (-1)]) (hₚ := gr_h I9 J10) (C := (((True ∧ True) ∧ True) ∧ True)) rfl ⟨⟨⟨trivial, trivial⟩, trivial⟩, trivial⟩ ?_
    refine gv_if_ne (t := 58) hD rfl rfl ⟨by exact gz_m 1 (by omega), by exact gz_m 2 (by omega)⟩ (fun c30 => ?_) (fun c30 => ?_)
    · have f31 := (gr_b_0_72 hI9)
      refine gv_run 2 true hD (pcₚ := 62) (lvₚ := [(0, .inr (.inr (some 0)))]) (stₚ := [.inl (I9 0 72), .inl (-1)]) (hₚ := gr_h I9 J10) (C := ((True ∧ True) ∧ True)) rfl ⟨⟨trivial, trivial⟩, trivial⟩ ?_
      refine gv_pick [] rfl ?_
      exact L62 (-1) (I9 0 72) (by exact gz_m 3 (by omega))
    · have f32 := (gr_b_0_69 hI9)
      refine gv_run 3 true hD (pcₚ := 62) (lvₚ := [(0, .inr (.inr (some 0)))]) (stₚ := [.inl (I9 0 69), .inl (-1)]) (hₚ := gr_h I9 J10) (C := (((True ∧ True) ∧ True) ∧ True)) rfl ⟨⟨⟨trivial, trivial⟩, trivial⟩, trivial⟩ ?_
      refine gv_pick [] rfl ?_
      exact L62 (-1) (I9 0 69) (by exact gz_m 4 (by omega))
  have L66 : ∀ (n : Nat) (I33 : gr_I) (J34 : gr_J) (v2_35 : Int), (61 - v2_35).toNat < n → gr_Inv I33 → gr_fr [0, 68, 69, 71, 72, 73, 74, 75, 188] [57, 113, 114, 115] I I33 → gr_fj [0, 68, 69, 71, 72, 73, 74, 75, 188] [57, 113, 114, 115] J J34 → ((0 ≤ a1 ∧ a1 ≤ 7) ∧ (0 ≤ v2_35 ∧ v2_35 ≤ 60) ∧ (I33 0 188 ≤ 60) ∧ (I33 0 68 = 0) ∧ ((0 ≤ a1 ∧ a1 ≤ 7))) → (gr_CPL a1 v2_35 I33) → (gr_SG 1 0 (I33 0 188) I33) → gv_X (gr_E ws0 tb 72 (yX13_tree, cX13_tree, 3, (some .int)) kX13_tree) (gv_Q cX13_tree (some .int) (gr_sh ++ ext) (fun r hₚ => (∃ (Iₚ : gr_I) (Jₚ : gr_J), hₚ = gr_h Iₚ Jₚ ∧ gr_Inv Iₚ ∧ gr_fr [0, 68, 69, 71, 72, 73, 74, 75, 188] [57, 113, 114, 115] I Iₚ ∧ gr_fj [0, 68, 69, 71, 72, 73, 74, 75, 188] [57, 113, 114, 115] J Jₚ ∧ gr_PL Iₚ ∧ (∃ z : Int, r = some (.inl z) ∧ (-1001) ≤ z ∧ z ≤ 2000 ∧ ((0 ≤ a1 ∧ a1 ≤ 7) → Iₚ 0 68 = 0) ∧ (¬ (0 ≤ a1 ∧ a1 ≤ 7) → Iₚ 0 68 = I 0 68))))) (66, [(0, .inr (.inr (some 0))), (1, .inl a1), (2, .inl v2_35)], [], gr_sh ++ ext, gr_h I33 J34) := by
    intro n
    induction n with
    | zero => intro I33 J34 v2_35 hn; exact gz_m 5 (by omega)
    | succ n ih66 =>
      intro I33 J34 v2_35 hn hI33 FI33 FJ34 m_35 e1_35 e2_35
      obtain ⟨ha1_35, hv2_35, e0_35, e3_35, e4_35⟩ := m_35
      have f36 := (gr_b_0_71 hI33)
      have f37 := (gr_b_0_72 hI33)
      have f38 := (gr_b_0_73 hI33)
      have f39 := (gr_b_0_69 hI33)
      have f40 := (gr_b_0_188 hI33)
      have f41 := (gr_b_0_68 hI33)
      have f42 := (gr_b_0_1 hI33)
      have f43 := (gr_b_0_2 hI33)
      have f44 := (gr_b_0_188 hI33)
      refine gv_run 3 true hD (pcₚ := 71) (lvₚ := [(0, .inr (.inr (some 0))), (1, .inl a1), (2, .inl v2_35)]) (stₚ := [.inl (I33 0 188), .inl v2_35]) (hₚ := gr_h I33 J34) (C := (((True ∧ True) ∧ True) ∧ True)) rfl ⟨⟨⟨trivial, trivial⟩, trivial⟩, trivial⟩ ?_
      refine gv_icmp_ge (t := 97) hD rfl rfl ⟨⟨by exact gz_m 6 (by omega), by exact gz_m 7 (by omega)⟩, ⟨by exact gz_m 8 (by omega), by exact gz_m 9 (by omega)⟩⟩ (fun c45 => ?_) (fun c45 => ?_)
      · have f46 := (gr_b_0_188 hI33)
        refine gv_run 5 true hD (pcₚ := 106) (lvₚ := [(0, .inr (.inr (some 0))), (1, .inl a1), (2, .inl v2_35)]) (stₚ := [.inl (I33 0 188), .inl a1, .inr (.inr (some 115))]) (hₚ := gr_h I33 J34) (C := (((((True ∧ True) ∧ True) ∧ True) ∧ True) ∧ True)) rfl ⟨⟨⟨⟨⟨trivial, trivial⟩, trivial⟩, trivial⟩, trivial⟩, trivial⟩ ?_
        refine gv_run 1 true hD (pcₚ := 107) (lvₚ := [(0, .inr (.inr (some 0))), (1, .inl a1), (2, .inl v2_35)]) (stₚ := []) (hₚ := gz_up (gr_h I33 J34) 115 (Int.toNat a1) (.inl (I33 0 188))) (C := (True ∧ (0 ≤ a1 ∧ a1 < ((8 : Nat) : Int)))) rfl ⟨trivial, ⟨by exact gz_m 10 (by omega), by exact gz_m 11 (by omega)⟩⟩ ?_
        refine gr_st hI33 FI33 rfl rfl ⟨⟨by show 0 ≤ _; exact gz_m 12 (by omega), by show _ ≤ 60; exact gz_m 13 (by omega)⟩, trivial⟩ (fun I47 hI47 FI47 q48 p48 => ?_)
        have t49 := p48 0 71 (fun q => absurd q.1 (by first | exact gz_ne rfl | decide))
        have t50 := p48 0 72 (fun q => absurd q.1 (by first | exact gz_ne rfl | decide))
        have t51 := p48 0 73 (fun q => absurd q.1 (by first | exact gz_ne rfl | decide))
        have t52 := p48 0 69 (fun q => absurd q.1 (by first | exact gz_ne rfl | decide))
        have t53 := p48 0 188 (fun q => absurd q.1 (by first | exact gz_ne rfl | decide))
        have t54 := p48 0 68 (fun q => absurd q.1 (by first | exact gz_ne rfl | decide))
        have t55 := p48 0 1 (fun q => absurd q.1 (by first | exact gz_ne rfl | decide))
        have t56 := p48 0 2 (fun q => absurd q.1 (by first | exact gz_ne rfl | decide))
        have f57 := (gr_b_0_71 hI47)
        have f58 := (gr_b_0_72 hI47)
        have f59 := (gr_b_0_73 hI47)
        have f60 := (gr_b_0_69 hI47)
        have f61 := (gr_b_0_188 hI47)
        have f62 := (gr_b_0_68 hI47)
        have f63 := (gr_b_0_1 hI47)
        have f64 := (gr_b_0_2 hI47)
        have f65 := (gr_b_0_188 hI47)
        refine gv_run 2 true hD (pcₚ := 111) (lvₚ := [(0, .inr (.inr (some 0))), (1, .inl a1), (2, .inl v2_35)]) (stₚ := [.inl (I47 0 188)]) (hₚ := gr_h I47 J34) (C := ((True ∧ True) ∧ True)) rfl ⟨⟨trivial, trivial⟩, trivial⟩ ?_
        exact gv_iret hD rfl ⟨I47, J34, rfl, hI47, FI47, FJ34, (gr_PL_end e1_35 e2_35 (by exact gz_m 14 (by omega)) (by exact gz_m 15 (by omega)) p48 q48), ⟨_, rfl, by exact gz_m 16 (by omega)⟩⟩
      · refine gv_run 7 true hD (pcₚ := 84) (lvₚ := [(0, .inr (.inr (some 0))), (1, .inl a1), (2, .inl v2_35)]) (stₚ := [.inl ((60 * a1) + v2_35), .inr (.inr (some 114))]) (hₚ := gr_h I33 J34) (C := (((((((True ∧ True) ∧ True) ∧ True) ∧ True) ∧ True) ∧ True) ∧ True)) rfl ⟨⟨⟨⟨⟨⟨⟨trivial, trivial⟩, trivial⟩, trivial⟩, trivial⟩, trivial⟩, trivial⟩, trivial⟩ ?_
        have f66 := (gr_b_113 hI33 (Int.toNat v2_35))
        refine gv_run 4 true hD (pcₚ := 90) (lvₚ := [(0, .inr (.inr (some 0))), (1, .inl a1), (2, .inl v2_35)]) (stₚ := [.inl (I33 113 (Int.toNat v2_35)), .inl ((60 * a1) + v2_35), .inr (.inr (some 114))]) (hₚ := gr_h I33 J34) (C := ((((True ∧ True) ∧ True) ∧ True) ∧ (0 ≤ v2_35 ∧ v2_35 < ((2000 : Nat) : Int)))) rfl ⟨⟨⟨⟨trivial, trivial⟩, trivial⟩, trivial⟩, ⟨by exact gz_m 17 (by omega), by exact gz_m 18 (by omega)⟩⟩ ?_
        refine gv_run 1 true hD (pcₚ := 91) (lvₚ := [(0, .inr (.inr (some 0))), (1, .inl a1), (2, .inl v2_35)]) (stₚ := []) (hₚ := gz_up (gr_h I33 J34) 114 (Int.toNat (((60 * a1) + v2_35))) (.inl ((I33 113 (Int.toNat v2_35))))) (C := (True ∧ (0 ≤ (((60 * a1) + v2_35)) ∧ (((60 * a1) + v2_35)) < ((480 : Nat) : Int)))) rfl ⟨trivial, ⟨by exact gz_m 19 (by omega), by exact gz_m 20 (by omega)⟩⟩ ?_
        refine gr_st hI33 FI33 rfl rfl ⟨⟨by show 0 ≤ _; exact gz_m 21 (by omega), by show _ ≤ 95; exact gz_m 22 (by omega)⟩, trivial⟩ (fun I67 hI67 FI67 q68 p68 => ?_)
        have t69 := p68 0 71 (fun q => absurd q.1 (by first | exact gz_ne rfl | decide))
        have t70 := p68 0 72 (fun q => absurd q.1 (by first | exact gz_ne rfl | decide))
        have t71 := p68 0 73 (fun q => absurd q.1 (by first | exact gz_ne rfl | decide))
        have t72 := p68 0 69 (fun q => absurd q.1 (by first | exact gz_ne rfl | decide))
        have t73 := p68 0 188 (fun q => absurd q.1 (by first | exact gz_ne rfl | decide))
        have t74 := p68 0 68 (fun q => absurd q.1 (by first | exact gz_ne rfl | decide))
        have t75 := p68 0 1 (fun q => absurd q.1 (by first | exact gz_ne rfl | decide))
        have t76 := p68 0 2 (fun q => absurd q.1 (by first | exact gz_ne rfl | decide))
        have f77 := (gr_b_0_71 hI67)
        have f78 := (gr_b_0_72 hI67)
        have f79 := (gr_b_0_73 hI67)
        have f80 := (gr_b_0_69 hI67)
        have f81 := (gr_b_0_188 hI67)
        have f82 := (gr_b_0_68 hI67)
        have f83 := (gr_b_0_1 hI67)
        have f84 := (gr_b_0_2 hI67)
        refine gv_run 2 true hD (pcₚ := 66) (lvₚ := [(2, .inl (v2_35 + 1)), (0, .inr (.inr (some 0))), (1, .inl a1)]) (stₚ := []) (hₚ := gr_h I67 J34) (C := ((True ∧ True) ∧ True)) rfl ⟨⟨trivial, trivial⟩, trivial⟩ ?_
        refine gv_pick [1, 2, 0] rfl ?_
        exact ih66 I67 J34 (v2_35 + 1) (by exact gz_m 23 (by omega)) hI67 FI67 FJ34 (by exact gz_m 24 (by omega)) (gr_CPL_st e1_35 (by exact gz_m 25 (by omega)) (by exact gz_m 26 (by omega)) (by exact gz_m 27 (by omega)) p68 q68) (by rw [show I67 0 188 = I33 0 188 from by exact gz_m 28 (by omega)]; exact gr_SG_fr e2_35 (fun j _ _ => p68 113 j (fun q => absurd q.1 (by first | exact gz_ne rfl | decide))) (fun f _ => p68 6 f (fun q => absurd q.1 (by first | exact gz_ne rfl | decide))) (Int.le_of_eq (p68 0 3 (fun q => absurd q.1 (by first | exact gz_ne rfl | decide))).symm))
  refine gv_run 2 true hD (pcₚ := 2) (lvₚ := [(0, .inr (.inr (some 0))), (1, .inl a1)]) (stₚ := [.inl a1, .inr (.inr (some 0))]) (hₚ := gr_h I J) (C := ((True ∧ True) ∧ True)) rfl ⟨⟨trivial, trivial⟩, trivial⟩ ?_
  obtain ⟨r85, h85, E85, P85⟩ := r_noPlace_t (ws0 := ws0) (tb := tb) hws htb ext I J hI a1 ⟨by exact gz_m 29 (by omega), by exact gz_m 30 (by omega)⟩ 
  obtain ⟨I86, J87, rfl, hI86, g85, k85, ⟨z85, rfl, q85⟩⟩ := P85
  have FI86 := gr_frt FI g85 rfl rfl
  have FJ87 := gr_fjt FJ k85 rfl rfl
  have t88 := g85 0 71 rfl
  have t89 := g85 0 72 rfl
  have t90 := g85 0 73 rfl
  have t91 := g85 0 69 rfl
  have t92 := g85 0 188 rfl
  have t93 := g85 0 68 rfl
  have t94 := g85 0 1 rfl
  have t95 := g85 0 2 rfl
  have f96 := (gr_b_0_71 hI86)
  have f97 := (gr_b_0_72 hI86)
  have f98 := (gr_b_0_73 hI86)
  have f99 := (gr_b_0_69 hI86)
  have f100 := (gr_b_0_188 hI86)
  have f101 := (gr_b_0_68 hI86)
  have f102 := (gr_b_0_1 hI86)
  have f103 := (gr_b_0_2 hI86)
  have KPL_I86 := gr_PL_fr KPL_I (fun k => g85 114 k rfl) (fun k => g85 115 k rfl) (fun k => g85 6 k rfl) (g85 0 3 rfl)
  refine gv_callV hD rfl (As := [.inl a1]) (st := []) rfl (by decide) rfl rfl (gr_lV hws rfl) (Nat.le_of_ble_eq_true rfl) (gz_Ev_mono (d := 1) (by decide) E85) ?_
  show gv_X _ _ (5, [(0, .inr (.inr (some 0))), (1, .inl a1)], [.inl z85], gr_sh ++ ext, gr_h I86 J87)
  refine gv_if_eq (t := 10) hD rfl rfl ⟨by exact gz_m 31 (by omega), by exact gz_m 32 (by omega)⟩ (fun c104 => ?_) (fun c104 => ?_)
  · refine gv_run 1 true hD (pcₚ := 11) (lvₚ := [(0, .inr (.inr (some 0))), (1, .inl a1)]) (stₚ := [.inr (.inr (some 0))]) (hₚ := gr_h I86 J87) (C := (True ∧ True)) rfl ⟨trivial, trivial⟩ ?_
    obtain ⟨r105, h105, E105, P105⟩ := r_reads_t (ws0 := ws0) (tb := tb) hws htb ext I86 J87 hI86   
    obtain ⟨I106, J107, rfl, hI106, g105, k105, ⟨rfl, q105⟩⟩ := P105
    have FI106 := gr_frt FI86 g105 rfl rfl
    have FJ107 := gr_fjt FJ87 k105 rfl rfl
    have t108 := g105 0 71 rfl
    have t109 := g105 0 72 rfl
    have t110 := g105 0 73 rfl
    have t111 := g105 0 188 rfl
    have t112 := g105 0 1 rfl
    have t113 := g105 0 2 rfl
    have f114 := (gr_b_0_71 hI106)
    have f115 := (gr_b_0_72 hI106)
    have f116 := (gr_b_0_73 hI106)
    have f117 := (gr_b_0_69 hI106)
    have f118 := (gr_b_0_188 hI106)
    have f119 := (gr_b_0_68 hI106)
    have f120 := (gr_b_0_1 hI106)
    have f121 := (gr_b_0_2 hI106)
    have KPL_I106 := gr_PL_fr KPL_I86 (fun k => g105 114 k rfl) (fun k => g105 115 k rfl) (fun k => g105 6 k rfl) (g105 0 3 rfl)
    refine gv_callV hD rfl (As := []) (st := []) rfl (by decide) rfl rfl (gr_lV hws rfl) (Nat.le_of_ble_eq_true rfl) (gz_Ev_mono (d := 1) (by decide) E105) ?_
    show gv_X _ _ (14, [(0, .inr (.inr (some 0))), (1, .inl a1)], [], gr_sh ++ ext, gr_h I106 J107)
    refine gv_run 3 true hD (pcₚ := 19) (lvₚ := [(0, .inr (.inr (some 0))), (1, .inl a1)]) (stₚ := []) (hₚ := gz_up (gr_h I106 J107) 0 73 (.inl 0)) (C := (((True ∧ True) ∧ True) ∧ True)) rfl ⟨⟨⟨trivial, trivial⟩, trivial⟩, trivial⟩ ?_
    refine gr_st hI106 FI106 rfl rfl ⟨⟨by show 0 ≤ _; exact gz_m 33 (by omega), by show _ ≤ 1001; exact gz_m 34 (by omega)⟩, trivial⟩ (fun I122 hI122 FI122 q123 p123 => ?_)
    have t124 := p123 0 71 (by decide)
    have t125 := p123 0 72 (by decide)
    have t126 := p123 0 69 (by decide)
    have t127 := p123 0 188 (by decide)
    have t128 := p123 0 68 (by decide)
    have t129 := p123 0 1 (by decide)
    have t130 := p123 0 2 (by decide)
    have f131 := (gr_b_0_71 hI122)
    have f132 := (gr_b_0_72 hI122)
    have f133 := (gr_b_0_73 hI122)
    have f134 := (gr_b_0_69 hI122)
    have f135 := (gr_b_0_188 hI122)
    have f136 := (gr_b_0_68 hI122)
    have f137 := (gr_b_0_1 hI122)
    have f138 := (gr_b_0_2 hI122)
    have KPL_I122 := gr_PL_fr KPL_I106 (fun k => p123 114 k (fun q => absurd q.1 (by first | exact gz_ne rfl | decide))) (fun k => p123 115 k (fun q => absurd q.1 (by first | exact gz_ne rfl | decide))) (fun k => p123 6 k (fun q => absurd q.1 (by first | exact gz_ne rfl | decide))) (p123 0 3 (by decide))
    refine gv_run 1 true hD (pcₚ := 20) (lvₚ := [(0, .inr (.inr (some 0))), (1, .inl a1)]) (stₚ := [.inr (.inr (some 0))]) (hₚ := gr_h I122 J107) (C := (True ∧ True)) rfl ⟨trivial, trivial⟩ ?_
    obtain ⟨r139, h139, E139, P139⟩ := r_next (ws0 := ws0) (tb := tb) hws htb ext I122 J107 hI122   (by exact gz_m 35 (by omega))
    obtain ⟨I140, J141, rfl, hI140, g139, k139, ⟨rfl, q139⟩⟩ := P139
    have FI140 := gr_frt FI122 g139 rfl rfl
    have FJ141 := gr_fjt FJ107 k139 rfl rfl
    have t142 := g139 0 69 rfl
    have t143 := g139 0 188 rfl
    have t144 := g139 0 68 rfl
    have t145 := g139 0 1 rfl
    have t146 := g139 0 2 rfl
    have f147 := (gr_b_0_71 hI140)
    have f148 := (gr_b_0_72 hI140)
    have f149 := (gr_b_0_73 hI140)
    have f150 := (gr_b_0_69 hI140)
    have f151 := (gr_b_0_188 hI140)
    have f152 := (gr_b_0_68 hI140)
    have f153 := (gr_b_0_1 hI140)
    have f154 := (gr_b_0_2 hI140)
    have KPL_I140 := gr_PL_fr KPL_I122 (fun k => g139 114 k rfl) (fun k => g139 115 k rfl) (fun k => g139 6 k rfl) (g139 0 3 rfl)
    refine gv_callV hD rfl (As := []) (st := []) rfl (by decide) rfl rfl (gr_lV hws rfl) (Nat.le_of_ble_eq_true rfl) (gz_Ev_mono (d := 10) (by decide) E139) ?_
    show gv_X _ _ (23, [(0, .inr (.inr (some 0))), (1, .inl a1)], [], gr_sh ++ ext, gr_h I140 J141)
    refine gv_run 3 true hD (pcₚ := 28) (lvₚ := [(0, .inr (.inr (some 0))), (1, .inl a1)]) (stₚ := []) (hₚ := gz_up (gr_h I140 J141) 0 188 (.inl 0)) (C := (((True ∧ True) ∧ True) ∧ True)) rfl ⟨⟨⟨trivial, trivial⟩, trivial⟩, trivial⟩ ?_
    refine gr_st hI140 FI140 rfl rfl ⟨⟨by show 0 ≤ _; exact gz_m 36 (by omega), by show _ ≤ 2000; exact gz_m 37 (by omega)⟩, trivial⟩ (fun I155 hI155 FI155 q156 p156 => ?_)
    have t157 := p156 0 71 (by decide)
    have t158 := p156 0 72 (by decide)
    have t159 := p156 0 73 (by decide)
    have t160 := p156 0 69 (by decide)
    have t161 := p156 0 68 (by decide)
    have t162 := p156 0 1 (by decide)
    have t163 := p156 0 2 (by decide)
    have f164 := (gr_b_0_71 hI155)
    have f165 := (gr_b_0_72 hI155)
    have f166 := (gr_b_0_73 hI155)
    have f167 := (gr_b_0_69 hI155)
    have f168 := (gr_b_0_188 hI155)
    have f169 := (gr_b_0_68 hI155)
    have f170 := (gr_b_0_1 hI155)
    have f171 := (gr_b_0_2 hI155)
    have KPL_I155 := gr_PL_fr KPL_I140 (fun k => p156 114 k (fun q => absurd q.1 (by first | exact gz_ne rfl | decide))) (fun k => p156 115 k (fun q => absurd q.1 (by first | exact gz_ne rfl | decide))) (fun k => p156 6 k (fun q => absurd q.1 (by first | exact gz_ne rfl | decide))) (p156 0 3 (by decide))
    refine gv_run 2 true hD (pcₚ := 30) (lvₚ := [(0, .inr (.inr (some 0))), (1, .inl a1)]) (stₚ := [.inl (-1), .inr (.inr (some 0))]) (hₚ := gr_h I155 J141) (C := ((True ∧ True) ∧ True)) rfl ⟨⟨trivial, trivial⟩, trivial⟩ ?_
    obtain ⟨r172, h172, E172, P172⟩ := r_noTree_w (ws0 := ws0) (tb := tb) hws htb ext 62 I155 J141 hI155 (-1) ⟨by exact gz_m 38 (by omega), by exact gz_m 39 (by omega)⟩ (by exact gz_m 40 (by omega)) (by exact gz_m 41 (by omega)) (by exact gz_m 42 (by omega)) (by exact gz_m 43 (by omega)) (by exact gz_m 44 (by omega)) (by exact gz_m 45 (by omega)) (by exact gz_m 46 (by omega))
    obtain ⟨I173, J174, rfl, hI173, g172, k172, ⟨z172, rfl, q172⟩⟩ := P172
    have FI173 := gr_frt FI155 g172 rfl rfl
    have FJ174 := gr_fjt FJ141 k172 rfl rfl
    have t175 := g172 0 69 rfl
    have t176 := g172 0 68 rfl
    have t177 := g172 0 1 rfl
    have t178 := g172 0 2 rfl
    have f179 := (gr_b_0_71 hI173)
    have f180 := (gr_b_0_72 hI173)
    have f181 := (gr_b_0_73 hI173)
    have f182 := (gr_b_0_69 hI173)
    have f183 := (gr_b_0_188 hI173)
    have f184 := (gr_b_0_68 hI173)
    have f185 := (gr_b_0_1 hI173)
    have f186 := (gr_b_0_2 hI173)
    have KPL_I173 := gr_PL_fr KPL_I155 (fun k => g172 114 k rfl) (fun k => g172 115 k rfl) (fun k => g172 6 k rfl) (g172 0 3 rfl)
    refine gv_callV hD rfl (As := [.inl (-1)]) (st := []) rfl (by decide) rfl rfl (gr_lV hws rfl) (Nat.le_of_ble_eq_true rfl) (gz_Ev_mono (d := 72) (by decide) E172) ?_
    show gv_X _ _ (33, [(0, .inr (.inr (some 0))), (1, .inl a1)], [.inl z172], gr_sh ++ ext, gr_h I173 J174)
    refine gv_if_ne (t := 43) hD rfl rfl ⟨by exact gz_m 47 (by omega), by exact gz_m 48 (by omega)⟩ (fun c187 => ?_) (fun c187 => ?_)
    · refine gv_pick [0] rfl ?_
      exact L43 I173 J174 hI173 FI173 FJ174 KPL_I173 (by exact gz_m 49 (by omega))
    · have f188 := (gr_b_0_71 hI173)
      refine gv_run 2 true hD (pcₚ := 40) (lvₚ := [(0, .inr (.inr (some 0))), (1, .inl a1)]) (stₚ := [.inl (I173 0 71)]) (hₚ := gr_h I173 J174) (C := ((True ∧ True) ∧ True)) rfl ⟨⟨trivial, trivial⟩, trivial⟩ ?_
      refine gv_if_eq (t := 64) hD rfl rfl ⟨by exact gz_m 50 (by omega), by exact gz_m 51 (by omega)⟩ (fun c189 => ?_) (fun c189 => ?_)
      · refine gv_run 2 true hD (pcₚ := 66) (lvₚ := [(2, .inl 0), (0, .inr (.inr (some 0))), (1, .inl a1)]) (stₚ := []) (hₚ := gr_h I173 J174) (C := ((True ∧ True) ∧ True)) rfl ⟨⟨trivial, trivial⟩, trivial⟩ ?_
        refine gv_pick [1, 2, 0] rfl ?_
        exact L66 _ I173 J174 0 (Nat.lt_succ_self _) hI173 FI173 FJ174 (by exact gz_m 52 (by omega)) (gr_CPL_0 KPL_I173 ⟨by exact gz_m 53 (by omega), by exact gz_m 54 (by omega)⟩) (by have u9 := gr_o_x q172.2.2.2.2.2.2.2.2.2.2.2.2.2 (by exact gz_m 55 (by omega)); rw [show I155 0 188 = 0 from by exact gz_m 56 (by omega)] at u9; exact u9)
      · refine gv_pick [0] rfl ?_
        exact L43 I173 J174 hI173 FI173 FJ174 KPL_I173 (by exact gz_m 57 (by omega))
  · refine gv_run 1 true hD (pcₚ := 9) (lvₚ := [(0, .inr (.inr (some 0))), (1, .inl a1)]) (stₚ := [.inl 0]) (hₚ := gr_h I86 J87) (C := (True ∧ True)) rfl ⟨trivial, trivial⟩ ?_
    exact gv_iret hD rfl ⟨I86, J87, rfl, hI86, FI86, FJ87, KPL_I86, ⟨_, rfl, by exact gz_m 58 (by omega)⟩⟩
set_option maxHeartbeats 8000000 in
set_option maxRecDepth 100000 in
theorem r_add_t {ws0 : List Cond} {tb : String → gz_T} (hws : ∀ w ∈ gr_ws, w ∈ ws0) (htb : tb RX13 = gr_T) (ext : gz_Sh) (I : gr_I) (J : gr_J) (hI : gr_Inv I) (a1 : Int) (ha1 : (-2147483648) ≤ a1 ∧ a1 ≤ 2147483647) (x0 : I 0 206 ≤ 99) : ∃ r hₚ, gz_Ev ws0 tb 3 (yX13_add, cX13_add, 4, (some .int)) [.inr (.inr (some 0)), .inl a1] (gr_sh ++ ext) (gr_h I J) r (gr_sh ++ ext) hₚ 0 0 ∧ (∃ (Iₚ : gr_I) (Jₚ : gr_J), hₚ = gr_h Iₚ Jₚ ∧ gr_Inv Iₚ ∧ gr_fr [0, 68, 69, 143, 206] [57, 83, 85, 126, 127, 128, 129] I Iₚ ∧ gr_fj [0, 68, 69, 143, 206] [57, 83, 85, 126, 127, 128, 129] J Jₚ ∧ (∃ z : Int, r = some (.inl z) ∧ (-3) ≤ z ∧ z ≤ 101 ∧ (Iₚ 0 206 ≤ I 0 206 + 1) ∧ ((0 ≤ a1 ∧ a1 < I 0 1) → Iₚ 0 68 = 0) ∧ (¬ (0 ≤ a1 ∧ a1 < I 0 1) → Iₚ 0 68 = I 0 68))) := by
  have FI : gr_fr [0, 68, 69, 143, 206] [57, 83, 85, 126, 127, 128, 129] I I := fun _ _ _ => rfl
  have FJ : gr_fj [0, 68, 69, 143, 206] [57, 83, 85, 126, 127, 128, 129] J J := fun _ _ _ => rfl
  have hD : gv_D (gr_E ws0 tb 2 (yX13_add, cX13_add, 4, (some .int)) kX13_add) := gq_of oX13_add
  refine gr_ev (d := 2) (l := kX13_add) (Po := fun r hₚ => (∃ (Iₚ : gr_I) (Jₚ : gr_J), hₚ = gr_h Iₚ Jₚ ∧ gr_Inv Iₚ ∧ gr_fr [0, 68, 69, 143, 206] [57, 83, 85, 126, 127, 128, 129] I Iₚ ∧ gr_fj [0, 68, 69, 143, 206] [57, 83, 85, 126, 127, 128, 129] J Jₚ ∧ (∃ z : Int, r = some (.inl z) ∧ (-3) ≤ z ∧ z ≤ 101 ∧ (Iₚ 0 206 ≤ I 0 206 + 1) ∧ ((0 ≤ a1 ∧ a1 < I 0 1) → Iₚ 0 68 = 0) ∧ (¬ (0 ≤ a1 ∧ a1 < I 0 1) → Iₚ 0 68 = I 0 68)))) htb rfl (Nat.le_of_ble_eq_true rfl) ?_
  have f1 := (gr_b_0_206 hI)
  have f2 := (gr_b_0_143 hI)
  have f3 := (gr_b_0_68 hI)
  have f4 := (gr_b_0_1 hI)
  have f5 := (gr_b_0_2 hI)
  have L61 : ∀ (n : Nat) (I6 : gr_I) (J7 : gr_J) (v2_8 : Int), (25 - v2_8).toNat < n → gr_Inv I6 → gr_fr [0, 68, 69, 143, 206] [57, 83, 85, 126, 127, 128, 129] I I6 → gr_fj [0, 68, 69, 143, 206] [57, 83, 85, 126, 127, 128, 129] J J7 → ((0 ≤ v2_8 ∧ v2_8 ≤ 24) ∧ (I6 0 206 ≤ 99) ∧ (I6 0 68 = 0) ∧ ((0 ≤ a1 ∧ a1 < I 0 1)) ∧ (I6 0 206 = I 0 206)) → gv_X (gr_E ws0 tb 2 (yX13_add, cX13_add, 4, (some .int)) kX13_add) (gv_Q cX13_add (some .int) (gr_sh ++ ext) (fun r hₚ => (∃ (Iₚ : gr_I) (Jₚ : gr_J), hₚ = gr_h Iₚ Jₚ ∧ gr_Inv Iₚ ∧ gr_fr [0, 68, 69, 143, 206] [57, 83, 85, 126, 127, 128, 129] I Iₚ ∧ gr_fj [0, 68, 69, 143, 206] [57, 83, 85, 126, 127, 128, 129] J Jₚ ∧ (∃ z : Int, r = some (.inl z) ∧ (-3) ≤ z ∧ z ≤ 101 ∧ (Iₚ 0 206 ≤ I 0 206 + 1) ∧ ((0 ≤ a1 ∧ a1 < I 0 1) → Iₚ 0 68 = 0) ∧ (¬ (0 ≤ a1 ∧ a1 < I 0 1) → Iₚ 0 68 = I 0 68))))) (61, [(0, .inr (.inr (some 0))), (2, .inl v2_8)], [], gr_sh ++ ext, gr_h I6 J7) := by
    intro n
    induction n with
    | zero => intro I6 J7 v2_8 hn; exact gz_m 0 (by omega)
    | succ n ih61 =>
      intro I6 J7 v2_8 hn hI6 FI6 FJ7 m_8
      obtain ⟨hv2_8, e0_8, e1_8, e2_8, e3_8⟩ := m_8
      have f9 := (gr_b_0_206 hI6)
      have f10 := (gr_b_0_143 hI6)
      have f11 := (gr_b_0_68 hI6)
      have f12 := (gr_b_0_1 hI6)
      have f13 := (gr_b_0_2 hI6)
      have L91 : ∀ (n : Nat) (I14 : gr_I) (J15 : gr_J) (v3_16 : Int), (25 - v3_16).toNat < n → gr_Inv I14 → gr_fr [0, 68, 69, 143, 206] [57, 83, 85, 126, 127, 128, 129] I I14 → gr_fj [0, 68, 69, 143, 206] [57, 83, 85, 126, 127, 128, 129] J J15 → ((0 ≤ v2_8 ∧ v2_8 ≤ 23) ∧ (0 ≤ v3_16 ∧ v3_16 ≤ 24) ∧ (I14 0 206 ≤ 99) ∧ (I14 0 68 = 0) ∧ ((0 ≤ a1 ∧ a1 < I 0 1)) ∧ (I14 0 206 = I 0 206)) → gv_X (gr_E ws0 tb 2 (yX13_add, cX13_add, 4, (some .int)) kX13_add) (gv_Q cX13_add (some .int) (gr_sh ++ ext) (fun r hₚ => (∃ (Iₚ : gr_I) (Jₚ : gr_J), hₚ = gr_h Iₚ Jₚ ∧ gr_Inv Iₚ ∧ gr_fr [0, 68, 69, 143, 206] [57, 83, 85, 126, 127, 128, 129] I Iₚ ∧ gr_fj [0, 68, 69, 143, 206] [57, 83, 85, 126, 127, 128, 129] J Jₚ ∧ (∃ z : Int, r = some (.inl z) ∧ (-3) ≤ z ∧ z ≤ 101 ∧ (Iₚ 0 206 ≤ I 0 206 + 1) ∧ ((0 ≤ a1 ∧ a1 < I 0 1) → Iₚ 0 68 = 0) ∧ (¬ (0 ≤ a1 ∧ a1 < I 0 1) → Iₚ 0 68 = I 0 68))))) (91, [(0, .inr (.inr (some 0))), (2, .inl v2_8), (3, .inl v3_16)], [], gr_sh ++ ext, gr_h I14 J15) := by
        intro n
        induction n with
        | zero => intro I14 J15 v3_16 hn; exact gz_m 1 (by omega)
        | succ n ih91 =>
          intro I14 J15 v3_16 hn hI14 FI14 FJ15 m_16
          clear hv2_8 e0_8 e1_8 e2_8 e3_8 f9 f10 f11 f12 f13
          obtain ⟨hv2_8_16, hv3_16, e0_16, e1_16, e2_16, e3_16⟩ := m_16
          have f17 := (gr_b_0_206 hI14)
          have f18 := (gr_b_0_143 hI14)
          have f19 := (gr_b_0_68 hI14)
          have f20 := (gr_b_0_1 hI14)
          have f21 := (gr_b_0_2 hI14)
          have f22 := (gr_b_85 hI14 (Int.toNat v2_8))
          refine gv_run 5 true hD (pcₚ := 98) (lvₚ := [(0, .inr (.inr (some 0))), (2, .inl v2_8), (3, .inl v3_16)]) (stₚ := [.inl (I14 85 (Int.toNat v2_8)), .inl v3_16]) (hₚ := gr_h I14 J15) (C := (((((True ∧ True) ∧ True) ∧ True) ∧ True) ∧ (0 ≤ v2_8 ∧ v2_8 < ((24 : Nat) : Int)))) rfl ⟨⟨⟨⟨⟨trivial, trivial⟩, trivial⟩, trivial⟩, trivial⟩, ⟨by exact gz_m 2 (by omega), by exact gz_m 3 (by omega)⟩⟩ ?_
          refine gv_icmp_ge (t := 137) hD rfl rfl ⟨⟨by exact gz_m 4 (by omega), by exact gz_m 5 (by omega)⟩, ⟨by exact gz_m 6 (by omega), by exact gz_m 7 (by omega)⟩⟩ (fun c23 => ?_) (fun c23 => ?_)
          · refine gv_run 2 true hD (pcₚ := 61) (lvₚ := [(2, .inl (v2_8 + 1)), (0, .inr (.inr (some 0))), (3, .inl v3_16)]) (stₚ := []) (hₚ := gr_h I14 J15) (C := ((True ∧ True) ∧ True)) rfl ⟨⟨trivial, trivial⟩, trivial⟩ ?_
            refine gv_pick [1, 0] rfl ?_
            exact ih61 I14 J15 (v2_8 + 1) (by exact gz_m 8 (by omega)) hI14 FI14 FJ15 (by exact gz_m 9 (by omega))
          · have f24 := (gr_b_0_206 hI14)
            refine gv_run 7 true hD (pcₚ := 113) (lvₚ := [(0, .inr (.inr (some 0))), (2, .inl v2_8), (3, .inl v3_16)]) (stₚ := [.inl v2_8, .inl (24 * (I14 0 206)), .inr (.inr (some 126))]) (hₚ := gr_h I14 J15) (C := (((((((True ∧ True) ∧ True) ∧ True) ∧ True) ∧ True) ∧ True) ∧ True)) rfl ⟨⟨⟨⟨⟨⟨⟨trivial, trivial⟩, trivial⟩, trivial⟩, trivial⟩, trivial⟩, trivial⟩, trivial⟩ ?_
            refine gv_run 7 true hD (pcₚ := 123) (lvₚ := [(0, .inr (.inr (some 0))), (2, .inl v2_8), (3, .inl v3_16)]) (stₚ := [.inr (.inr (some 83)), .inl ((((24 * (I14 0 206)) + v2_8) * 24) + v3_16), .inr (.inr (some 126))]) (hₚ := gr_h I14 J15) (C := (((((((True ∧ True) ∧ True) ∧ True) ∧ True) ∧ True) ∧ True) ∧ True)) rfl ⟨⟨⟨⟨⟨⟨⟨trivial, trivial⟩, trivial⟩, trivial⟩, trivial⟩, trivial⟩, trivial⟩, trivial⟩ ?_
            have f25 := (gr_b_83 hI14 (Int.toNat (((24 * v2_8) + v3_16))))
            refine gv_run 6 true hD (pcₚ := 130) (lvₚ := [(0, .inr (.inr (some 0))), (2, .inl v2_8), (3, .inl v3_16)]) (stₚ := [.inl (I14 83 (Int.toNat (((24 * v2_8) + v3_16)))), .inl ((((24 * (I14 0 206)) + v2_8) * 24) + v3_16), .inr (.inr (some 126))]) (hₚ := gr_h I14 J15) (C := ((((((True ∧ True) ∧ True) ∧ True) ∧ True) ∧ True) ∧ (0 ≤ (((24 * v2_8) + v3_16)) ∧ (((24 * v2_8) + v3_16)) < ((576 : Nat) : Int)))) rfl ⟨⟨⟨⟨⟨⟨trivial, trivial⟩, trivial⟩, trivial⟩, trivial⟩, trivial⟩, ⟨by exact gz_m 10 (by omega), by exact gz_m 11 (by omega)⟩⟩ ?_
            have f26 := gw_nar_byte (x := ((I14 83 (Int.toNat (((24 * v2_8) + v3_16))))))
            refine gv_run 1 true hD (pcₚ := 131) (lvₚ := [(0, .inr (.inr (some 0))), (2, .inl v2_8), (3, .inl v3_16)]) (stₚ := []) (hₚ := gz_up (gr_h I14 J15) 126 (Int.toNat (((((24 * (I14 0 206)) + v2_8) * 24) + v3_16))) (.inl (((vp_nar .byte (Int32.ofInt ((I14 83 (Int.toNat (((24 * v2_8) + v3_16))))))).toInt)))) (C := (True ∧ (0 ≤ (((((24 * (I14 0 206)) + v2_8) * 24) + v3_16)) ∧ (((((24 * (I14 0 206)) + v2_8) * 24) + v3_16)) < ((57600 : Nat) : Int)))) rfl ⟨trivial, ⟨by exact gz_m 12 (by omega), by exact gz_m 13 (by omega)⟩⟩ ?_
            refine gr_st hI14 FI14 rfl rfl ⟨⟨by show (-128) ≤ _; exact gz_m 14 (by omega), by show _ ≤ 127; exact gz_m 15 (by omega)⟩, trivial⟩ (fun I27 hI27 FI27 q28 p28 => ?_)
            have t29 := p28 0 206 (fun q => absurd q.1 (by first | exact gz_ne rfl | decide))
            have t30 := p28 0 143 (fun q => absurd q.1 (by first | exact gz_ne rfl | decide))
            have t31 := p28 0 68 (fun q => absurd q.1 (by first | exact gz_ne rfl | decide))
            have t32 := p28 0 1 (fun q => absurd q.1 (by first | exact gz_ne rfl | decide))
            have t33 := p28 0 2 (fun q => absurd q.1 (by first | exact gz_ne rfl | decide))
            have f34 := (gr_b_0_206 hI27)
            have f35 := (gr_b_0_143 hI27)
            have f36 := (gr_b_0_68 hI27)
            have f37 := (gr_b_0_1 hI27)
            have f38 := (gr_b_0_2 hI27)
            refine gv_run 2 true hD (pcₚ := 91) (lvₚ := [(3, .inl (v3_16 + 1)), (0, .inr (.inr (some 0))), (2, .inl v2_8)]) (stₚ := []) (hₚ := gr_h I27 J15) (C := ((True ∧ True) ∧ True)) rfl ⟨⟨trivial, trivial⟩, trivial⟩ ?_
            refine gv_pick [1, 2, 0] rfl ?_
            exact ih91 I27 J15 (v3_16 + 1) (by exact gz_m 16 (by omega)) hI27 FI27 FJ15 (by exact gz_m 17 (by omega))
      have f39 := (gr_b_0_143 hI6)
      refine gv_run 3 true hD (pcₚ := 66) (lvₚ := [(0, .inr (.inr (some 0))), (2, .inl v2_8)]) (stₚ := [.inl (I6 0 143), .inl v2_8]) (hₚ := gr_h I6 J7) (C := (((True ∧ True) ∧ True) ∧ True)) rfl ⟨⟨⟨trivial, trivial⟩, trivial⟩, trivial⟩ ?_
      refine gv_icmp_ge (t := 143) hD rfl rfl ⟨⟨by exact gz_m 18 (by omega), by exact gz_m 19 (by omega)⟩, ⟨by exact gz_m 20 (by omega), by exact gz_m 21 (by omega)⟩⟩ (fun c40 => ?_) (fun c40 => ?_)
      · have f41 := (gr_b_0_206 hI6)
        refine gv_run 6 true hD (pcₚ := 151) (lvₚ := [(0, .inr (.inr (some 0))), (2, .inl v2_8)]) (stₚ := [.inl ((I6 0 206) + 1), .inr (.inr (some 0)), .inl ((I6 0 206) + 1)]) (hₚ := gr_h I6 J7) (C := ((((((True ∧ True) ∧ True) ∧ True) ∧ True) ∧ True) ∧ True)) rfl ⟨⟨⟨⟨⟨⟨trivial, trivial⟩, trivial⟩, trivial⟩, trivial⟩, trivial⟩, trivial⟩ ?_
        refine gv_run 1 true hD (pcₚ := 154) (lvₚ := [(0, .inr (.inr (some 0))), (2, .inl v2_8)]) (stₚ := [.inl ((I6 0 206) + 1)]) (hₚ := gz_up (gr_h I6 J7) 0 206 (.inl (((I6 0 206) + 1)))) (C := (True ∧ True)) rfl ⟨trivial, trivial⟩ ?_
        refine gr_st hI6 FI6 rfl rfl ⟨⟨by show 0 ≤ _; exact gz_m 22 (by omega), by show _ ≤ 100; exact gz_m 23 (by omega)⟩, trivial⟩ (fun I42 hI42 FI42 q43 p43 => ?_)
        have t44 := p43 0 143 (by decide)
        have t45 := p43 0 68 (by decide)
        have t46 := p43 0 1 (by decide)
        have t47 := p43 0 2 (by decide)
        have f48 := (gr_b_0_206 hI42)
        have f49 := (gr_b_0_143 hI42)
        have f50 := (gr_b_0_68 hI42)
        have f51 := (gr_b_0_1 hI42)
        have f52 := (gr_b_0_2 hI42)
        exact gv_iret hD rfl ⟨I42, J7, rfl, hI42, FI42, FJ7, ⟨_, rfl, by exact gz_m 24 (by omega)⟩⟩
      · have f53 := (gr_b_0_206 hI6)
        refine gv_run 7 true hD (pcₚ := 81) (lvₚ := [(0, .inr (.inr (some 0))), (2, .inl v2_8)]) (stₚ := [.inl v2_8, .inl (24 * (I6 0 206)), .inr (.inr (some 129))]) (hₚ := gr_h I6 J7) (C := (((((((True ∧ True) ∧ True) ∧ True) ∧ True) ∧ True) ∧ True) ∧ True)) rfl ⟨⟨⟨⟨⟨⟨⟨trivial, trivial⟩, trivial⟩, trivial⟩, trivial⟩, trivial⟩, trivial⟩, trivial⟩ ?_
        have f54 := (gr_b_85 hI6 (Int.toNat v2_8))
        refine gv_run 5 true hD (pcₚ := 88) (lvₚ := [(0, .inr (.inr (some 0))), (2, .inl v2_8)]) (stₚ := [.inl (I6 85 (Int.toNat v2_8)), .inl ((24 * (I6 0 206)) + v2_8), .inr (.inr (some 129))]) (hₚ := gr_h I6 J7) (C := (((((True ∧ True) ∧ True) ∧ True) ∧ True) ∧ (0 ≤ v2_8 ∧ v2_8 < ((24 : Nat) : Int)))) rfl ⟨⟨⟨⟨⟨trivial, trivial⟩, trivial⟩, trivial⟩, trivial⟩, ⟨by exact gz_m 25 (by omega), by exact gz_m 26 (by omega)⟩⟩ ?_
        refine gv_run 1 true hD (pcₚ := 89) (lvₚ := [(0, .inr (.inr (some 0))), (2, .inl v2_8)]) (stₚ := []) (hₚ := gz_up (gr_h I6 J7) 129 (Int.toNat (((24 * (I6 0 206)) + v2_8))) (.inl ((I6 85 (Int.toNat v2_8))))) (C := (True ∧ (0 ≤ (((24 * (I6 0 206)) + v2_8)) ∧ (((24 * (I6 0 206)) + v2_8)) < ((2400 : Nat) : Int)))) rfl ⟨trivial, ⟨by exact gz_m 27 (by omega), by exact gz_m 28 (by omega)⟩⟩ ?_
        refine gr_st hI6 FI6 rfl rfl ⟨⟨by show 0 ≤ _; exact gz_m 29 (by omega), by show _ ≤ 24; exact gz_m 30 (by omega)⟩, trivial⟩ (fun I55 hI55 FI55 q56 p56 => ?_)
        have t57 := p56 0 206 (fun q => absurd q.1 (by first | exact gz_ne rfl | decide))
        have t58 := p56 0 143 (fun q => absurd q.1 (by first | exact gz_ne rfl | decide))
        have t59 := p56 0 68 (fun q => absurd q.1 (by first | exact gz_ne rfl | decide))
        have t60 := p56 0 1 (fun q => absurd q.1 (by first | exact gz_ne rfl | decide))
        have t61 := p56 0 2 (fun q => absurd q.1 (by first | exact gz_ne rfl | decide))
        have f62 := (gr_b_0_206 hI55)
        have f63 := (gr_b_0_143 hI55)
        have f64 := (gr_b_0_68 hI55)
        have f65 := (gr_b_0_1 hI55)
        have f66 := (gr_b_0_2 hI55)
        refine gv_run 2 true hD (pcₚ := 91) (lvₚ := [(3, .inl 0), (0, .inr (.inr (some 0))), (2, .inl v2_8)]) (stₚ := []) (hₚ := gr_h I55 J7) (C := ((True ∧ True) ∧ True)) rfl ⟨⟨trivial, trivial⟩, trivial⟩ ?_
        refine gv_pick [1, 2, 0] rfl ?_
        exact L91 _ I55 J7 0 (Nat.lt_succ_self _) hI55 FI55 FJ7 (by exact gz_m 31 (by omega))
  refine gv_run 2 true hD (pcₚ := 2) (lvₚ := [(0, .inr (.inr (some 0))), (1, .inl a1)]) (stₚ := [.inl a1, .inr (.inr (some 0))]) (hₚ := gr_h I J) (C := ((True ∧ True) ∧ True)) rfl ⟨⟨trivial, trivial⟩, trivial⟩ ?_
  obtain ⟨r67, h67, E67, P67⟩ := r_noTongue_t (ws0 := ws0) (tb := tb) hws htb ext I J hI a1 ⟨by exact gz_m 32 (by omega), by exact gz_m 33 (by omega)⟩ 
  obtain ⟨I68, J69, rfl, hI68, g67, k67, ⟨z67, rfl, q67⟩⟩ := P67
  have FI68 := gr_frt FI g67 rfl rfl
  have FJ69 := gr_fjt FJ k67 rfl rfl
  have t70 := g67 0 206 rfl
  have t71 := g67 0 143 rfl
  have t72 := g67 0 68 rfl
  have t73 := g67 0 1 rfl
  have t74 := g67 0 2 rfl
  have f75 := (gr_b_0_206 hI68)
  have f76 := (gr_b_0_143 hI68)
  have f77 := (gr_b_0_68 hI68)
  have f78 := (gr_b_0_1 hI68)
  have f79 := (gr_b_0_2 hI68)
  refine gv_callV hD rfl (As := [.inl a1]) (st := []) rfl (by decide) rfl rfl (gr_lV hws rfl) (Nat.le_of_ble_eq_true rfl) (gz_Ev_mono (d := 1) (by decide) E67) ?_
  show gv_X _ _ (5, [(0, .inr (.inr (some 0))), (1, .inl a1)], [.inl z67], gr_sh ++ ext, gr_h I68 J69)
  refine gv_if_eq (t := 10) hD rfl rfl ⟨by exact gz_m 34 (by omega), by exact gz_m 35 (by omega)⟩ (fun c80 => ?_) (fun c80 => ?_)
  · have f81 := (gr_b_0_206 hI68)
    refine gv_run 3 true hD (pcₚ := 16) (lvₚ := [(0, .inr (.inr (some 0))), (1, .inl a1)]) (stₚ := [.inl 100, .inl (I68 0 206)]) (hₚ := gr_h I68 J69) (C := (((True ∧ True) ∧ True) ∧ True)) rfl ⟨⟨⟨trivial, trivial⟩, trivial⟩, trivial⟩ ?_
    refine gv_icmp_ne (t := 26) hD rfl rfl ⟨⟨by exact gz_m 36 (by omega), by exact gz_m 37 (by omega)⟩, ⟨by exact gz_m 38 (by omega), by exact gz_m 39 (by omega)⟩⟩ (fun c82 => ?_) (fun c82 => ?_)
    · refine gv_run 1 true hD (pcₚ := 27) (lvₚ := [(0, .inr (.inr (some 0))), (1, .inl a1)]) (stₚ := [.inr (.inr (some 0))]) (hₚ := gr_h I68 J69) (C := (True ∧ True)) rfl ⟨trivial, trivial⟩ ?_
      obtain ⟨r83, h83, E83, P83⟩ := r_sentence_t (ws0 := ws0) (tb := tb) hws htb ext I68 J69 hI68   
      obtain ⟨I84, J85, rfl, hI84, g83, k83, ⟨z83, rfl, q83⟩⟩ := P83
      have FI84 := gr_frt FI68 g83 rfl rfl
      have FJ85 := gr_fjt FJ69 k83 rfl rfl
      have t86 := g83 0 206 rfl
      have t87 := g83 0 1 rfl
      have t88 := g83 0 2 rfl
      have f89 := (gr_b_0_206 hI84)
      have f90 := (gr_b_0_143 hI84)
      have f91 := (gr_b_0_68 hI84)
      have f92 := (gr_b_0_1 hI84)
      have f93 := (gr_b_0_2 hI84)
      refine gv_callV hD rfl (As := []) (st := []) rfl (by decide) rfl rfl (gr_lV hws rfl) (Nat.le_of_ble_eq_true rfl) (gz_Ev_mono (d := 2) (by decide) E83) ?_
      show gv_X _ _ (30, [(0, .inr (.inr (some 0))), (1, .inl a1)], [.inl z83], gr_sh ++ ext, gr_h I84 J85)
      refine gv_if_ne (t := 36) hD rfl rfl ⟨by exact gz_m 40 (by omega), by exact gz_m 41 (by omega)⟩ (fun c94 => ?_) (fun c94 => ?_)
      · have f95 := (gr_b_0_206 hI84)
        have f96 := (gr_b_0_143 hI84)
        refine gv_run 6 true hD (pcₚ := 48) (lvₚ := [(0, .inr (.inr (some 0))), (1, .inl a1)]) (stₚ := [.inl (I84 0 143), .inl (I84 0 206), .inr (.inr (some 127))]) (hₚ := gr_h I84 J85) (C := ((((((True ∧ True) ∧ True) ∧ True) ∧ True) ∧ True) ∧ True)) rfl ⟨⟨⟨⟨⟨⟨trivial, trivial⟩, trivial⟩, trivial⟩, trivial⟩, trivial⟩, trivial⟩ ?_
        refine gv_run 1 true hD (pcₚ := 49) (lvₚ := [(0, .inr (.inr (some 0))), (1, .inl a1)]) (stₚ := []) (hₚ := gz_up (gr_h I84 J85) 127 (Int.toNat ((I84 0 206))) (.inl (I84 0 143))) (C := (True ∧ (0 ≤ (I84 0 206) ∧ (I84 0 206) < ((100 : Nat) : Int)))) rfl ⟨trivial, ⟨by exact gz_m 42 (by omega), by exact gz_m 43 (by omega)⟩⟩ ?_
        refine gr_st hI84 FI84 rfl rfl ⟨⟨by show 0 ≤ _; exact gz_m 44 (by omega), by show _ ≤ 24; exact gz_m 45 (by omega)⟩, trivial⟩ (fun I97 hI97 FI97 q98 p98 => ?_)
        have t99 := p98 0 206 (fun q => absurd q.1 (by first | exact gz_ne rfl | decide))
        have t100 := p98 0 143 (fun q => absurd q.1 (by first | exact gz_ne rfl | decide))
        have t101 := p98 0 68 (fun q => absurd q.1 (by first | exact gz_ne rfl | decide))
        have t102 := p98 0 1 (fun q => absurd q.1 (by first | exact gz_ne rfl | decide))
        have t103 := p98 0 2 (fun q => absurd q.1 (by first | exact gz_ne rfl | decide))
        have f104 := (gr_b_0_206 hI97)
        have f105 := (gr_b_0_143 hI97)
        have f106 := (gr_b_0_68 hI97)
        have f107 := (gr_b_0_1 hI97)
        have f108 := (gr_b_0_2 hI97)
        have f109 := (gr_b_0_206 hI97)
        refine gv_run 5 true hD (pcₚ := 58) (lvₚ := [(0, .inr (.inr (some 0))), (1, .inl a1)]) (stₚ := [.inl a1, .inl (I97 0 206), .inr (.inr (some 128))]) (hₚ := gr_h I97 J85) (C := (((((True ∧ True) ∧ True) ∧ True) ∧ True) ∧ True)) rfl ⟨⟨⟨⟨⟨trivial, trivial⟩, trivial⟩, trivial⟩, trivial⟩, trivial⟩ ?_
        refine gv_run 1 true hD (pcₚ := 59) (lvₚ := [(0, .inr (.inr (some 0))), (1, .inl a1)]) (stₚ := []) (hₚ := gz_up (gr_h I97 J85) 128 (Int.toNat ((I97 0 206))) (.inl a1)) (C := (True ∧ (0 ≤ (I97 0 206) ∧ (I97 0 206) < ((100 : Nat) : Int)))) rfl ⟨trivial, ⟨by exact gz_m 46 (by omega), by exact gz_m 47 (by omega)⟩⟩ ?_
        refine gr_st hI97 FI97 rfl rfl ⟨⟨by show 0 ≤ _; exact gz_m 48 (by omega), by show _ ≤ 7; exact gz_m 49 (by omega)⟩, trivial⟩ (fun I110 hI110 FI110 q111 p111 => ?_)
        have t112 := p111 0 206 (fun q => absurd q.1 (by first | exact gz_ne rfl | decide))
        have t113 := p111 0 143 (fun q => absurd q.1 (by first | exact gz_ne rfl | decide))
        have t114 := p111 0 68 (fun q => absurd q.1 (by first | exact gz_ne rfl | decide))
        have t115 := p111 0 1 (fun q => absurd q.1 (by first | exact gz_ne rfl | decide))
        have t116 := p111 0 2 (fun q => absurd q.1 (by first | exact gz_ne rfl | decide))
        have f117 := (gr_b_0_206 hI110)
        have f118 := (gr_b_0_143 hI110)
        have f119 := (gr_b_0_68 hI110)
        have f120 := (gr_b_0_1 hI110)
        have f121 := (gr_b_0_2 hI110)
        refine gv_run 2 true hD (pcₚ := 61) (lvₚ := [(2, .inl 0), (0, .inr (.inr (some 0))), (1, .inl a1)]) (stₚ := []) (hₚ := gr_h I110 J85) (C := ((True ∧ True) ∧ True)) rfl ⟨⟨trivial, trivial⟩, trivial⟩ ?_
        refine gv_pick [1, 0] rfl ?_
        exact L61 _ I110 J85 0 (Nat.lt_succ_self _) hI110 FI110 FJ85 (by exact gz_m 50 (by omega))
      · refine gv_run 1 true hD (pcₚ := 35) (lvₚ := [(0, .inr (.inr (some 0))), (1, .inl a1)]) (stₚ := [.inl (-3)]) (hₚ := gr_h I84 J85) (C := (True ∧ True)) rfl ⟨trivial, trivial⟩ ?_
        exact gv_iret hD rfl ⟨I84, J85, rfl, hI84, FI84, FJ85, ⟨_, rfl, by exact gz_m 51 (by omega)⟩⟩
    · refine gv_run 3 true hD (pcₚ := 24) (lvₚ := [(0, .inr (.inr (some 0))), (1, .inl a1)]) (stₚ := []) (hₚ := gz_up (gr_h I68 J69) 0 0 (.inl 2)) (C := (((True ∧ True) ∧ True) ∧ True)) rfl ⟨⟨⟨trivial, trivial⟩, trivial⟩, trivial⟩ ?_
      refine gr_st hI68 FI68 rfl rfl ⟨⟨by show 0 ≤ _; exact gz_m 52 (by omega), by show _ ≤ 2; exact gz_m 53 (by omega)⟩, trivial⟩ (fun I122 hI122 FI122 q123 p123 => ?_)
      have t124 := p123 0 206 (by decide)
      have t125 := p123 0 143 (by decide)
      have t126 := p123 0 68 (by decide)
      have t127 := p123 0 1 (by decide)
      have t128 := p123 0 2 (by decide)
      have f129 := (gr_b_0_206 hI122)
      have f130 := (gr_b_0_143 hI122)
      have f131 := (gr_b_0_68 hI122)
      have f132 := (gr_b_0_1 hI122)
      have f133 := (gr_b_0_2 hI122)
      refine gv_run 1 true hD (pcₚ := 25) (lvₚ := [(0, .inr (.inr (some 0))), (1, .inl a1)]) (stₚ := [.inl 0]) (hₚ := gr_h I122 J69) (C := (True ∧ True)) rfl ⟨trivial, trivial⟩ ?_
      exact gv_iret hD rfl ⟨I122, J69, rfl, hI122, FI122, FJ69, ⟨_, rfl, by exact gz_m 54 (by omega)⟩⟩
  · refine gv_run 1 true hD (pcₚ := 9) (lvₚ := [(0, .inr (.inr (some 0))), (1, .inl a1)]) (stₚ := [.inl 0]) (hₚ := gr_h I68 J69) (C := (True ∧ True)) rfl ⟨trivial, trivial⟩ ?_
    exact gv_iret hD rfl ⟨I68, J69, rfl, hI68, FI68, FJ69, ⟨_, rfl, by exact gz_m 55 (by omega)⟩⟩
set_option maxHeartbeats 8000000 in
set_option maxRecDepth 100000 in
theorem r_ask_t_L178 {ws0 : List Cond} {tb : String → gz_T} (hws : ∀ w ∈ gr_ws, w ∈ ws0) (htb : tb RX13 = gr_T) (ext : gz_Sh) (I : gr_I) (J : gr_J) (hI : gr_Inv I) (a1 : Int) (ha1 : (-2147483648) ≤ a1 ∧ a1 ≤ 2147483647) (v2_12 : Int) : ∀ (n : Nat) (I54 : gr_I) (J55 : gr_J) (v3_56 : Int), (101 - v3_56).toNat < n → gr_Inv I54 → gr_fr [0, 68, 69, 71, 72, 73, 74, 75, 126, 127, 128, 211] [57, 76, 77, 78, 79, 130, 131, 132, 133] I I54 → gr_fj [0, 68, 69, 71, 72, 73, 74, 75, 126, 127, 128, 211] [57, 76, 77, 78, 79, 130, 131, 132, 133] J J55 → gr_KR I I54 → ((0 ≤ a1 ∧ a1 ≤ 7) ∧ (1 ≤ v2_12 ∧ v2_12 ≤ 8) ∧ (0 ≤ v3_56 ∧ v3_56 ≤ 100) ∧ (I54 0 211 ≤ 24 * v3_56) ∧ (I54 0 68 = 0) ∧ ((0 ≤ a1 ∧ a1 < I 0 1))) → (gr_AS I54 v2_12) → gv_X (gr_E ws0 tb 10 (yX13_ask, cX13_ask, 7, (some .int)) kX13_ask) (gv_Q cX13_ask (some .int) (gr_sh ++ ext) (fun r hₚ => (∃ (Iₚ : gr_I) (Jₚ : gr_J), hₚ = gr_h Iₚ Jₚ ∧ gr_Inv Iₚ ∧ gr_fr [0, 68, 69, 71, 72, 73, 74, 75, 126, 127, 128, 211] [57, 76, 77, 78, 79, 130, 131, 132, 133] I Iₚ ∧ gr_fj [0, 68, 69, 71, 72, 73, 74, 75, 126, 127, 128, 211] [57, 76, 77, 78, 79, 130, 131, 132, 133] J Jₚ ∧ (∃ z : Int, r = some (.inl z) ∧ (-3) ≤ z ∧ z ≤ 2400 ∧ ((0 ≤ a1 ∧ a1 < I 0 1) → Iₚ 0 68 = 0) ∧ (¬ (0 ≤ a1 ∧ a1 < I 0 1) → Iₚ 0 68 = I 0 68) ∧ (gr_KR I Iₚ))))) (178, [(0, .inr (.inr (some 0))), (1, .inl a1), (2, .inl v2_12), (3, .inl v3_56)], [], gr_sh ++ ext, gr_h I54 J55) := by
  have FI : gr_fr [0, 68, 69, 71, 72, 73, 74, 75, 126, 127, 128, 211] [57, 76, 77, 78, 79, 130, 131, 132, 133] I I := fun _ _ _ => rfl
  have FJ : gr_fj [0, 68, 69, 71, 72, 73, 74, 75, 126, 127, 128, 211] [57, 76, 77, 78, 79, 130, 131, 132, 133] J J := fun _ _ _ => rfl
  have hD : gv_D (gr_E ws0 tb 10 (yX13_ask, cX13_ask, 7, (some .int)) kX13_ask) := gq_of oX13_ask
  have f1 := (gr_b_0_71 hI)
  have f2 := (gr_b_0_72 hI)
  have f3 := (gr_b_0_73 hI)
  have f4 := (gr_b_0_69 hI)
  have f5 := (gr_b_0_211 hI)
  have f6 := (gr_b_0_206 hI)
  have f7 := (gr_b_0_68 hI)
  have f8 := (gr_b_0_1 hI)
  have f9 := (gr_b_0_2 hI)
  have KKR_I : gr_KR I I := gr_KR_rf
  intro n
  induction n with
  | zero => intro I54 J55 v3_56 hn; exact gz_m 4 (by omega)
  | succ n ih178 =>
    intro I54 J55 v3_56 hn hI54 FI54 FJ55 KKR_I54 m_56 e1_56
    obtain ⟨ha1_56, hv2_12_56, hv3_56, e0_56, e2_56, e3_56⟩ := m_56
    have f57 := (gr_b_0_71 hI54)
    have f58 := (gr_b_0_72 hI54)
    have f59 := (gr_b_0_73 hI54)
    have f60 := (gr_b_0_69 hI54)
    have f61 := (gr_b_0_211 hI54)
    have f62 := (gr_b_0_206 hI54)
    have f63 := (gr_b_0_68 hI54)
    have f64 := (gr_b_0_1 hI54)
    have f65 := (gr_b_0_2 hI54)
    have L299 : ∀ (I66 : gr_I) (J67 : gr_J) , gr_Inv I66 → gr_fr [0, 68, 69, 71, 72, 73, 74, 75, 126, 127, 128, 211] [57, 76, 77, 78, 79, 130, 131, 132, 133] I I66 → gr_fj [0, 68, 69, 71, 72, 73, 74, 75, 126, 127, 128, 211] [57, 76, 77, 78, 79, 130, 131, 132, 133] J J67 → gr_KR I I66 → ((0 ≤ a1 ∧ a1 ≤ 7) ∧ (1 ≤ v2_12 ∧ v2_12 ≤ 8) ∧ (0 ≤ v3_56 ∧ v3_56 ≤ 99) ∧ (I66 0 211 ≤ 24 * v3_56 + 24) ∧ (I66 0 68 = 0) ∧ ((0 ≤ a1 ∧ a1 < I 0 1))) → (gr_AS I66 v2_12) → gv_X (gr_E ws0 tb 10 (yX13_ask, cX13_ask, 7, (some .int)) kX13_ask) (gv_Q cX13_ask (some .int) (gr_sh ++ ext) (fun r hₚ => (∃ (Iₚ : gr_I) (Jₚ : gr_J), hₚ = gr_h Iₚ Jₚ ∧ gr_Inv Iₚ ∧ gr_fr [0, 68, 69, 71, 72, 73, 74, 75, 126, 127, 128, 211] [57, 76, 77, 78, 79, 130, 131, 132, 133] I Iₚ ∧ gr_fj [0, 68, 69, 71, 72, 73, 74, 75, 126, 127, 128, 211] [57, 76, 77, 78, 79, 130, 131, 132, 133] J Jₚ ∧ (∃ z : Int, r = some (.inl z) ∧ (-3) ≤ z ∧ z ≤ 2400 ∧ ((0 ≤ a1 ∧ a1 < I 0 1) → Iₚ 0 68 = 0) ∧ (¬ (0 ≤ a1 ∧ a1 < I 0 1) → Iₚ 0 68 = I 0 68) ∧ (gr_KR I Iₚ))))) (299, [(0, .inr (.inr (some 0))), (1, .inl a1), (2, .inl v2_12), (3, .inl v3_56)], [], gr_sh ++ ext, gr_h I66 J67) := by
      intro I66 J67 hI66 FI66 FJ67 KKR_I66 m_68 e1_68
      clear ha1_56 hv2_12_56 hv3_56 e0_56 e2_56 e3_56 f57 f58 f59 f60 f61 f62 f63 f64 f65
      obtain ⟨ha1_68, hv2_12_68, hv3_56_68, e0_68, e2_68, e3_68⟩ := m_68
      have f69 := (gr_b_0_71 hI66)
      have f70 := (gr_b_0_72 hI66)
      have f71 := (gr_b_0_73 hI66)
      have f72 := (gr_b_0_69 hI66)
      have f73 := (gr_b_0_211 hI66)
      have f74 := (gr_b_0_206 hI66)
      have f75 := (gr_b_0_68 hI66)
      have f76 := (gr_b_0_1 hI66)
      have f77 := (gr_b_0_2 hI66)
      refine gv_run 2 true hD (pcₚ := 178) (lvₚ := [(3, .inl (v3_56 + 1)), (0, .inr (.inr (some 0))), (1, .inl a1), (2, .inl v2_12)]) (stₚ := []) (hₚ := gr_h I66 J67) (C := ((True ∧ True) ∧ True)) rfl ⟨⟨trivial, trivial⟩, trivial⟩ ?_
      refine gv_pick [1, 2, 3, 0] rfl ?_
      exact ih178 I66 J67 (v3_56 + 1) (by exact gz_m 5 (by omega)) hI66 FI66 FJ67 KKR_I66 (by exact gz_m 6 (by omega)) e1_68
    have L202 : ∀ (n : Nat) (I78 : gr_I) (J79 : gr_J) (v4_80 : Int), (25 - v4_80).toNat < n → gr_Inv I78 → gr_fr [0, 68, 69, 71, 72, 73, 74, 75, 126, 127, 128, 211] [57, 76, 77, 78, 79, 130, 131, 132, 133] I I78 → gr_fj [0, 68, 69, 71, 72, 73, 74, 75, 126, 127, 128, 211] [57, 76, 77, 78, 79, 130, 131, 132, 133] J J79 → gr_KR I I78 → ((0 ≤ a1 ∧ a1 ≤ 7) ∧ (1 ≤ v2_12 ∧ v2_12 ≤ 8) ∧ (0 ≤ v3_56 ∧ v3_56 ≤ 99) ∧ (0 ≤ v4_80 ∧ v4_80 ≤ 24) ∧ (I78 0 211 ≤ 24 * v3_56 + v4_80) ∧ (I78 0 68 = 0) ∧ ((0 ≤ a1 ∧ a1 < I 0 1))) → (gr_AS I78 v2_12) → gv_X (gr_E ws0 tb 10 (yX13_ask, cX13_ask, 7, (some .int)) kX13_ask) (gv_Q cX13_ask (some .int) (gr_sh ++ ext) (fun r hₚ => (∃ (Iₚ : gr_I) (Jₚ : gr_J), hₚ = gr_h Iₚ Jₚ ∧ gr_Inv Iₚ ∧ gr_fr [0, 68, 69, 71, 72, 73, 74, 75, 126, 127, 128, 211] [57, 76, 77, 78, 79, 130, 131, 132, 133] I Iₚ ∧ gr_fj [0, 68, 69, 71, 72, 73, 74, 75, 126, 127, 128, 211] [57, 76, 77, 78, 79, 130, 131, 132, 133] J Jₚ ∧ (∃ z : Int, r = some (.inl z) ∧ (-3) ≤ z ∧ z ≤ 2400 ∧ ((0 ≤ a1 ∧ a1 < I 0 1) → Iₚ 0 68 = 0) ∧ (¬ (0 ≤ a1 ∧ a1 < I 0 1) → Iₚ 0 68 = I 0 68) ∧ (gr_KR I Iₚ))))) (202, [(0, .inr (.inr (some 0))), (1, .inl a1), (2, .inl v2_12), (3, .inl v3_56), (4, .inl v4_80)], [], gr_sh ++ ext, gr_h I78 J79) := by
      intro n
      induction n with
      | zero => intro I78 J79 v4_80 hn; exact gz_m 7 (by omega)
      | succ n ih202 =>
        intro I78 J79 v4_80 hn hI78 FI78 FJ79 KKR_I78 m_80 e1_80
        clear ha1_56 hv2_12_56 hv3_56 e0_56 e2_56 e3_56 f57 f58 f59 f60 f61 f62 f63 f64 f65
        obtain ⟨ha1_80, hv2_12_80, hv3_56_80, hv4_80, e0_80, e2_80, e3_80⟩ := m_80
        have f81 := (gr_b_0_71 hI78)
        have f82 := (gr_b_0_72 hI78)
        have f83 := (gr_b_0_73 hI78)
        have f84 := (gr_b_0_69 hI78)
        have f85 := (gr_b_0_211 hI78)
        have f86 := (gr_b_0_206 hI78)
        have f87 := (gr_b_0_68 hI78)
        have f88 := (gr_b_0_1 hI78)
        have f89 := (gr_b_0_2 hI78)
        have L221 : ∀ (n : Nat) (v5_90 : Int) (v6_90 : Int), (9 - v6_90).toNat < n → ((0 ≤ a1 ∧ a1 ≤ 7) ∧ (1 ≤ v2_12 ∧ v2_12 ≤ 8) ∧ (0 ≤ v3_56 ∧ v3_56 ≤ 99) ∧ (0 ≤ v4_80 ∧ v4_80 ≤ 23) ∧ (0 ≤ v5_90 ∧ v5_90 ≤ 1) ∧ (0 ≤ v6_90 ∧ v6_90 ≤ 8) ∧ (v4_80 + v2_12 ≤ 24) ∧ (I78 0 211 ≤ 24 * v3_56 + v4_80) ∧ (I78 0 68 = 0) ∧ ((0 ≤ a1 ∧ a1 < I 0 1))) → (gr_AS I78 v2_12) → gv_X (gr_E ws0 tb 10 (yX13_ask, cX13_ask, 7, (some .int)) kX13_ask) (gv_Q cX13_ask (some .int) (gr_sh ++ ext) (fun r hₚ => (∃ (Iₚ : gr_I) (Jₚ : gr_J), hₚ = gr_h Iₚ Jₚ ∧ gr_Inv Iₚ ∧ gr_fr [0, 68, 69, 71, 72, 73, 74, 75, 126, 127, 128, 211] [57, 76, 77, 78, 79, 130, 131, 132, 133] I Iₚ ∧ gr_fj [0, 68, 69, 71, 72, 73, 74, 75, 126, 127, 128, 211] [57, 76, 77, 78, 79, 130, 131, 132, 133] J Jₚ ∧ (∃ z : Int, r = some (.inl z) ∧ (-3) ≤ z ∧ z ≤ 2400 ∧ ((0 ≤ a1 ∧ a1 < I 0 1) → Iₚ 0 68 = 0) ∧ (¬ (0 ≤ a1 ∧ a1 < I 0 1) → Iₚ 0 68 = I 0 68) ∧ (gr_KR I Iₚ))))) (221, [(0, .inr (.inr (some 0))), (1, .inl a1), (2, .inl v2_12), (3, .inl v3_56), (4, .inl v4_80), (5, .inl v5_90), (6, .inl v6_90)], [], gr_sh ++ ext, gr_h I78 J79) := by
          intro n
          induction n with
          | zero => intro v5_90 v6_90 hn; exact gz_m 8 (by omega)
          | succ n ih221 =>
            intro v5_90 v6_90 hn m_90 e1_90
            obtain ⟨ha1_90, hv2_12_90, hv3_56_90, hv4_80_90, hv5_90, hv6_90, e0_90, e2_90, e3_90, e4_90⟩ := m_90
            have f91 := (gr_b_0_71 hI78)
            have f92 := (gr_b_0_72 hI78)
            have f93 := (gr_b_0_73 hI78)
            have f94 := (gr_b_0_69 hI78)
            have f95 := (gr_b_0_211 hI78)
            have f96 := (gr_b_0_206 hI78)
            have f97 := (gr_b_0_68 hI78)
            have f98 := (gr_b_0_1 hI78)
            have f99 := (gr_b_0_2 hI78)
            have L257 : ((0 ≤ a1 ∧ a1 ≤ 7) ∧ (1 ≤ v2_12 ∧ v2_12 ≤ 8) ∧ (0 ≤ v3_56 ∧ v3_56 ≤ 99) ∧ (0 ≤ v4_80 ∧ v4_80 ≤ 23) ∧ (0 ≤ v5_90 ∧ v5_90 ≤ 1) ∧ (v4_80 + v2_12 ≤ 24) ∧ (I78 0 211 ≤ 24 * v3_56 + v4_80) ∧ (I78 0 68 = 0) ∧ ((0 ≤ a1 ∧ a1 < I 0 1))) → (gr_AS I78 v2_12) → gv_X (gr_E ws0 tb 10 (yX13_ask, cX13_ask, 7, (some .int)) kX13_ask) (gv_Q cX13_ask (some .int) (gr_sh ++ ext) (fun r hₚ => (∃ (Iₚ : gr_I) (Jₚ : gr_J), hₚ = gr_h Iₚ Jₚ ∧ gr_Inv Iₚ ∧ gr_fr [0, 68, 69, 71, 72, 73, 74, 75, 126, 127, 128, 211] [57, 76, 77, 78, 79, 130, 131, 132, 133] I Iₚ ∧ gr_fj [0, 68, 69, 71, 72, 73, 74, 75, 126, 127, 128, 211] [57, 76, 77, 78, 79, 130, 131, 132, 133] J Jₚ ∧ (∃ z : Int, r = some (.inl z) ∧ (-3) ≤ z ∧ z ≤ 2400 ∧ ((0 ≤ a1 ∧ a1 < I 0 1) → Iₚ 0 68 = 0) ∧ (¬ (0 ≤ a1 ∧ a1 < I 0 1) → Iₚ 0 68 = I 0 68) ∧ (gr_KR I Iₚ))))) (257, [(0, .inr (.inr (some 0))), (1, .inl a1), (2, .inl v2_12), (3, .inl v3_56), (4, .inl v4_80), (5, .inl v5_90)], [], gr_sh ++ ext, gr_h I78 J79) := by
              intro m_100 e1_100
              obtain ⟨ha1_100, hv2_12_100, hv3_56_100, hv4_80_100, hv5_90_100, e0_100, e2_100, e3_100, e4_100⟩ := m_100
              have f101 := (gr_b_0_71 hI78)
              have f102 := (gr_b_0_72 hI78)
              have f103 := (gr_b_0_73 hI78)
              have f104 := (gr_b_0_69 hI78)
              have f105 := (gr_b_0_211 hI78)
              have f106 := (gr_b_0_206 hI78)
              have f107 := (gr_b_0_68 hI78)
              have f108 := (gr_b_0_1 hI78)
              have f109 := (gr_b_0_2 hI78)
              have L293 : ∀ (I110 : gr_I) (J111 : gr_J) , gr_Inv I110 → gr_fr [0, 68, 69, 71, 72, 73, 74, 75, 126, 127, 128, 211] [57, 76, 77, 78, 79, 130, 131, 132, 133] I I110 → gr_fj [0, 68, 69, 71, 72, 73, 74, 75, 126, 127, 128, 211] [57, 76, 77, 78, 79, 130, 131, 132, 133] J J111 → gr_KR I I110 → ((0 ≤ a1 ∧ a1 ≤ 7) ∧ (1 ≤ v2_12 ∧ v2_12 ≤ 8) ∧ (0 ≤ v3_56 ∧ v3_56 ≤ 99) ∧ (0 ≤ v4_80 ∧ v4_80 ≤ 23) ∧ (I110 0 211 ≤ 24 * v3_56 + v4_80 + 1) ∧ (I110 0 68 = 0) ∧ ((0 ≤ a1 ∧ a1 < I 0 1))) → (gr_AS I110 v2_12) → gv_X (gr_E ws0 tb 10 (yX13_ask, cX13_ask, 7, (some .int)) kX13_ask) (gv_Q cX13_ask (some .int) (gr_sh ++ ext) (fun r hₚ => (∃ (Iₚ : gr_I) (Jₚ : gr_J), hₚ = gr_h Iₚ Jₚ ∧ gr_Inv Iₚ ∧ gr_fr [0, 68, 69, 71, 72, 73, 74, 75, 126, 127, 128, 211] [57, 76, 77, 78, 79, 130, 131, 132, 133] I Iₚ ∧ gr_fj [0, 68, 69, 71, 72, 73, 74, 75, 126, 127, 128, 211] [57, 76, 77, 78, 79, 130, 131, 132, 133] J Jₚ ∧ (∃ z : Int, r = some (.inl z) ∧ (-3) ≤ z ∧ z ≤ 2400 ∧ ((0 ≤ a1 ∧ a1 < I 0 1) → Iₚ 0 68 = 0) ∧ (¬ (0 ≤ a1 ∧ a1 < I 0 1) → Iₚ 0 68 = I 0 68) ∧ (gr_KR I Iₚ))))) (293, [(0, .inr (.inr (some 0))), (1, .inl a1), (2, .inl v2_12), (3, .inl v3_56), (4, .inl v4_80)], [], gr_sh ++ ext, gr_h I110 J111) := by
                intro I110 J111 hI110 FI110 FJ111 KKR_I110 m_112 e1_112
                clear ha1_100 hv2_12_100 hv3_56_100 hv4_80_100 hv5_90_100 e0_100 e2_100 e3_100 e4_100 f101 f102 f103 f104 f105 f106 f107 f108 f109 ha1_90 hv2_12_90 hv3_56_90 hv4_80_90 hv5_90 hv6_90 e0_90 e2_90 e3_90 e4_90 f91 f92 f93 f94 f95 f96 f97 f98 f99 ha1_80 hv2_12_80 hv3_56_80 hv4_80 e0_80 e2_80 e3_80 f81 f82 f83 f84 f85 f86 f87 f88 f89
                obtain ⟨ha1_112, hv2_12_112, hv3_56_112, hv4_80_112, e0_112, e2_112, e3_112⟩ := m_112
                have f113 := (gr_b_0_71 hI110)
                have f114 := (gr_b_0_72 hI110)
                have f115 := (gr_b_0_73 hI110)
                have f116 := (gr_b_0_69 hI110)
                have f117 := (gr_b_0_211 hI110)
                have f118 := (gr_b_0_206 hI110)
                have f119 := (gr_b_0_68 hI110)
                have f120 := (gr_b_0_1 hI110)
                have f121 := (gr_b_0_2 hI110)
                refine gv_run 2 true hD (pcₚ := 202) (lvₚ := [(4, .inl (v4_80 + 1)), (0, .inr (.inr (some 0))), (1, .inl a1), (2, .inl v2_12), (3, .inl v3_56)]) (stₚ := []) (hₚ := gr_h I110 J111) (C := ((True ∧ True) ∧ True)) rfl ⟨⟨trivial, trivial⟩, trivial⟩ ?_
                refine gv_pick [1, 2, 3, 4, 0] rfl ?_
                exact ih202 I110 J111 (v4_80 + 1) (by exact gz_m 9 (by omega)) hI110 FI110 FJ111 KKR_I110 (by exact gz_m 10 (by omega)) e1_112
              refine gv_run 1 true hD (pcₚ := 259) (lvₚ := [(0, .inr (.inr (some 0))), (1, .inl a1), (2, .inl v2_12), (3, .inl v3_56), (4, .inl v4_80), (5, .inl v5_90)]) (stₚ := [.inl v5_90]) (hₚ := gr_h I78 J79) (C := (True ∧ True)) rfl ⟨trivial, trivial⟩ ?_
              refine gv_if_ne (t := 265) hD rfl rfl ⟨by exact gz_m 11 (by omega), by exact gz_m 12 (by omega)⟩ (fun c122 => ?_) (fun c122 => ?_)
              · have f123 := (gr_b_0_211 hI78)
                refine gv_run 5 true hD (pcₚ := 274) (lvₚ := [(0, .inr (.inr (some 0))), (1, .inl a1), (2, .inl v2_12), (3, .inl v3_56), (4, .inl v4_80), (5, .inl v5_90)]) (stₚ := [.inl v3_56, .inl (I78 0 211), .inr (.inr (some 132))]) (hₚ := gr_h I78 J79) (C := (((((True ∧ True) ∧ True) ∧ True) ∧ True) ∧ True)) rfl ⟨⟨⟨⟨⟨trivial, trivial⟩, trivial⟩, trivial⟩, trivial⟩, trivial⟩ ?_
                refine gv_run 1 true hD (pcₚ := 275) (lvₚ := [(0, .inr (.inr (some 0))), (1, .inl a1), (2, .inl v2_12), (3, .inl v3_56), (4, .inl v4_80), (5, .inl v5_90)]) (stₚ := []) (hₚ := gz_up (gr_h I78 J79) 132 (Int.toNat ((I78 0 211))) (.inl v3_56)) (C := (True ∧ (0 ≤ (I78 0 211) ∧ (I78 0 211) < ((2400 : Nat) : Int)))) rfl ⟨trivial, ⟨by exact gz_m 13 (by omega), by exact gz_m 14 (by omega)⟩⟩ ?_
                refine gr_st hI78 FI78 rfl rfl ⟨⟨by show 0 ≤ _; exact gz_m 15 (by omega), by show _ ≤ 99; exact gz_m 16 (by omega)⟩, trivial⟩ (fun I124 hI124 FI124 q125 p125 => ?_)
                have t126 := p125 0 71 (fun q => absurd q.1 (by first | exact gz_ne rfl | decide))
                have t127 := p125 0 72 (fun q => absurd q.1 (by first | exact gz_ne rfl | decide))
                have t128 := p125 0 73 (fun q => absurd q.1 (by first | exact gz_ne rfl | decide))
                have t129 := p125 0 69 (fun q => absurd q.1 (by first | exact gz_ne rfl | decide))
                have t130 := p125 0 211 (fun q => absurd q.1 (by first | exact gz_ne rfl | decide))
                have t131 := p125 0 206 (fun q => absurd q.1 (by first | exact gz_ne rfl | decide))
                have t132 := p125 0 68 (fun q => absurd q.1 (by first | exact gz_ne rfl | decide))
                have t133 := p125 0 1 (fun q => absurd q.1 (by first | exact gz_ne rfl | decide))
                have t134 := p125 0 2 (fun q => absurd q.1 (by first | exact gz_ne rfl | decide))
                have t135 := p125 130 (Int.toNat v2_12) (fun q => absurd q.1 (by first | exact gz_ne rfl | decide))
                have t136 := p125 131 (Int.toNat v2_12) (fun q => absurd q.1 (by first | exact gz_ne rfl | decide))
                have f137 := (gr_b_0_71 hI124)
                have f138 := (gr_b_0_72 hI124)
                have f139 := (gr_b_0_73 hI124)
                have f140 := (gr_b_0_69 hI124)
                have f141 := (gr_b_0_211 hI124)
                have f142 := (gr_b_0_206 hI124)
                have f143 := (gr_b_0_68 hI124)
                have f144 := (gr_b_0_1 hI124)
                have f145 := (gr_b_0_2 hI124)
                have KKR_I124 := gr_KR_a (by decide) KKR_I78 p125 (by decide)
                have f146 := (gr_b_0_211 hI124)
                refine gv_run 7 true hD (pcₚ := 286) (lvₚ := [(0, .inr (.inr (some 0))), (1, .inl a1), (2, .inl v2_12), (3, .inl v3_56), (4, .inl v4_80), (5, .inl v5_90)]) (stₚ := [.inl 1, .inl (I124 0 211), .inr (.inr (some 0)), .inl (I124 0 211), .inr (.inr (some 133))]) (hₚ := gr_h I124 J79) (C := (((((((True ∧ True) ∧ True) ∧ True) ∧ True) ∧ True) ∧ True) ∧ True)) rfl ⟨⟨⟨⟨⟨⟨⟨trivial, trivial⟩, trivial⟩, trivial⟩, trivial⟩, trivial⟩, trivial⟩, trivial⟩ ?_
                refine gv_run 2 true hD (pcₚ := 290) (lvₚ := [(0, .inr (.inr (some 0))), (1, .inl a1), (2, .inl v2_12), (3, .inl v3_56), (4, .inl v4_80), (5, .inl v5_90)]) (stₚ := [.inl (I124 0 211), .inr (.inr (some 133))]) (hₚ := gz_up (gr_h I124 J79) 0 211 (.inl (((I124 0 211) + 1)))) (C := ((True ∧ True) ∧ True)) rfl ⟨⟨trivial, trivial⟩, trivial⟩ ?_
                refine gr_st hI124 FI124 rfl rfl ⟨⟨by show 0 ≤ _; exact gz_m 17 (by omega), by show _ ≤ 2400; exact gz_m 18 (by omega)⟩, trivial⟩ (fun I147 hI147 FI147 q148 p148 => ?_)
                have t149 := p148 0 71 (by decide)
                have t150 := p148 0 72 (by decide)
                have t151 := p148 0 73 (by decide)
                have t152 := p148 0 69 (by decide)
                have t153 := p148 0 206 (by decide)
                have t154 := p148 0 68 (by decide)
                have t155 := p148 0 1 (by decide)
                have t156 := p148 0 2 (by decide)
                have t157 := p148 130 (Int.toNat v2_12) (fun q => absurd q.1 (by first | exact gz_ne rfl | decide))
                have t158 := p148 131 (Int.toNat v2_12) (fun q => absurd q.1 (by first | exact gz_ne rfl | decide))
                have f159 := (gr_b_0_71 hI147)
                have f160 := (gr_b_0_72 hI147)
                have f161 := (gr_b_0_73 hI147)
                have f162 := (gr_b_0_69 hI147)
                have f163 := (gr_b_0_211 hI147)
                have f164 := (gr_b_0_206 hI147)
                have f165 := (gr_b_0_68 hI147)
                have f166 := (gr_b_0_1 hI147)
                have f167 := (gr_b_0_2 hI147)
                have KKR_I147 := gr_KR_f KKR_I124 p148 (by decide)
                refine gv_run 2 true hD (pcₚ := 293) (lvₚ := [(0, .inr (.inr (some 0))), (1, .inl a1), (2, .inl v2_12), (3, .inl v3_56), (4, .inl v4_80), (5, .inl v5_90)]) (stₚ := []) (hₚ := gz_up (gr_h I147 J79) 133 (Int.toNat ((I124 0 211))) (.inl v4_80)) (C := ((True ∧ True) ∧ (0 ≤ (I124 0 211) ∧ (I124 0 211) < ((2400 : Nat) : Int)))) rfl ⟨⟨trivial, trivial⟩, ⟨by exact gz_m 19 (by omega), by exact gz_m 20 (by omega)⟩⟩ ?_
                refine gr_st hI147 FI147 rfl rfl ⟨⟨by show 0 ≤ _; exact gz_m 21 (by omega), by show _ ≤ 23; exact gz_m 22 (by omega)⟩, trivial⟩ (fun I168 hI168 FI168 q169 p169 => ?_)
                have t170 := p169 0 71 (fun q => absurd q.1 (by first | exact gz_ne rfl | decide))
                have t171 := p169 0 72 (fun q => absurd q.1 (by first | exact gz_ne rfl | decide))
                have t172 := p169 0 73 (fun q => absurd q.1 (by first | exact gz_ne rfl | decide))
                have t173 := p169 0 69 (fun q => absurd q.1 (by first | exact gz_ne rfl | decide))
                have t174 := p169 0 211 (fun q => absurd q.1 (by first | exact gz_ne rfl | decide))
                have t175 := p169 0 206 (fun q => absurd q.1 (by first | exact gz_ne rfl | decide))
                have t176 := p169 0 68 (fun q => absurd q.1 (by first | exact gz_ne rfl | decide))
                have t177 := p169 0 1 (fun q => absurd q.1 (by first | exact gz_ne rfl | decide))
                have t178 := p169 0 2 (fun q => absurd q.1 (by first | exact gz_ne rfl | decide))
                have t179 := p169 130 (Int.toNat v2_12) (fun q => absurd q.1 (by first | exact gz_ne rfl | decide))
                have t180 := p169 131 (Int.toNat v2_12) (fun q => absurd q.1 (by first | exact gz_ne rfl | decide))
                have f181 := (gr_b_0_71 hI168)
                have f182 := (gr_b_0_72 hI168)
                have f183 := (gr_b_0_73 hI168)
                have f184 := (gr_b_0_69 hI168)
                have f185 := (gr_b_0_211 hI168)
                have f186 := (gr_b_0_206 hI168)
                have f187 := (gr_b_0_68 hI168)
                have f188 := (gr_b_0_1 hI168)
                have f189 := (gr_b_0_2 hI168)
                have KKR_I168 := gr_KR_a (by decide) KKR_I147 p169 (by decide)
                refine gv_pick [0, 1, 2, 3, 4] rfl ?_
                exact L293 I168 J79 hI168 FI168 FJ79 KKR_I168 (by exact gz_m 23 (by omega)) (gr_AS_fr (gr_AS_fr (gr_AS_fr e1_100 (fun k => p125 130 k (fun q => absurd q.1 (by first | exact gz_ne rfl | decide))) (fun k => p125 131 k (fun q => absurd q.1 (by first | exact gz_ne rfl | decide)))) (fun k => p148 130 k (fun q => absurd q.1 (by first | exact gz_ne rfl | decide))) (fun k => p148 131 k (fun q => absurd q.1 (by first | exact gz_ne rfl | decide)))) (fun k => p169 130 k (fun q => absurd q.1 (by first | exact gz_ne rfl | decide))) (fun k => p169 131 k (fun q => absurd q.1 (by first | exact gz_ne rfl | decide))))
              · refine gv_run 1 true hD (pcₚ := 293) (lvₚ := [(0, .inr (.inr (some 0))), (1, .inl a1), (2, .inl v2_12), (3, .inl v3_56), (4, .inl v4_80), (5, .inl v5_90)]) (stₚ := []) (hₚ := gr_h I78 J79) (C := (True ∧ True)) rfl ⟨trivial, trivial⟩ ?_
                refine gv_pick [0, 1, 2, 3, 4] rfl ?_
                exact L293 I78 J79 hI78 FI78 FJ79 KKR_I78 (by exact gz_m 24 (by omega)) e1_100
            refine gv_run 2 true hD (pcₚ := 224) (lvₚ := [(0, .inr (.inr (some 0))), (1, .inl a1), (2, .inl v2_12), (3, .inl v3_56), (4, .inl v4_80), (5, .inl v5_90), (6, .inl v6_90)]) (stₚ := [.inl v2_12, .inl v6_90]) (hₚ := gr_h I78 J79) (C := ((True ∧ True) ∧ True)) rfl ⟨⟨trivial, trivial⟩, trivial⟩ ?_
            refine gv_icmp_ge (t := 257) hD rfl rfl ⟨⟨by exact gz_m 25 (by omega), by exact gz_m 26 (by omega)⟩, ⟨by exact gz_m 27 (by omega), by exact gz_m 28 (by omega)⟩⟩ (fun c190 => ?_) (fun c190 => ?_)
            · refine gv_pick [0, 1, 2, 3, 4, 5] rfl ?_
              exact L257 (by exact gz_m 29 (by omega)) e1_90
            · refine gv_run 1 true hD (pcₚ := 229) (lvₚ := [(0, .inr (.inr (some 0))), (1, .inl a1), (2, .inl v2_12), (3, .inl v3_56), (4, .inl v4_80), (5, .inl v5_90), (6, .inl v6_90)]) (stₚ := [.inl v5_90]) (hₚ := gr_h I78 J79) (C := (True ∧ True)) rfl ⟨trivial, trivial⟩ ?_
              refine gv_if_eq (t := 257) hD rfl rfl ⟨by exact gz_m 30 (by omega), by exact gz_m 31 (by omega)⟩ (fun c191 => ?_) (fun c191 => ?_)
              · refine gv_pick [0, 1, 2, 3, 4, 5] rfl ?_
                exact L257 (by exact gz_m 32 (by omega)) e1_90
              · refine gv_run 7 true hD (pcₚ := 242) (lvₚ := [(0, .inr (.inr (some 0))), (1, .inl a1), (2, .inl v2_12), (3, .inl v3_56), (4, .inl v4_80), (5, .inl v5_90), (6, .inl v6_90)]) (stₚ := [.inl v4_80, .inl (24 * v3_56), .inl v6_90, .inl a1, .inr (.inr (some 0))]) (hₚ := gr_h I78 J79) (C := (((((((True ∧ True) ∧ True) ∧ True) ∧ True) ∧ True) ∧ True) ∧ True)) rfl ⟨⟨⟨⟨⟨⟨⟨trivial, trivial⟩, trivial⟩, trivial⟩, trivial⟩, trivial⟩, trivial⟩, trivial⟩ ?_
                refine gv_run 3 true hD (pcₚ := 246) (lvₚ := [(0, .inr (.inr (some 0))), (1, .inl a1), (2, .inl v2_12), (3, .inl v3_56), (4, .inl v4_80), (5, .inl v5_90), (6, .inl v6_90)]) (stₚ := [.inl (((24 * v3_56) + v4_80) + v6_90), .inl v6_90, .inl a1, .inr (.inr (some 0))]) (hₚ := gr_h I78 J79) (C := (((True ∧ True) ∧ True) ∧ True)) rfl ⟨⟨⟨trivial, trivial⟩, trivial⟩, trivial⟩ ?_
                have t192 := e1_90 v6_90 (by exact gz_m 33 (by omega)) (by exact gz_m 34 (by omega))
                obtain ⟨r193, h193, E193, P193⟩ := r_hitsWord (ws0 := ws0) (tb := tb) hws htb ext I78 J79 hI78 a1 v6_90 ((((24 * v3_56) + v4_80) + v6_90)) ⟨by exact gz_m 35 (by omega), by exact gz_m 36 (by omega)⟩ ⟨by exact gz_m 37 (by omega), by exact gz_m 38 (by omega)⟩ ⟨by exact gz_m 39 (by omega), by exact gz_m 40 (by omega)⟩ (by exact gz_m 41 (by omega)) (by exact gz_m 42 (by omega))
                obtain ⟨rfl, ⟨z193, rfl, q193⟩⟩ := P193
                refine gv_callV hD rfl (As := [.inl a1, .inl v6_90, .inl (((24 * v3_56) + v4_80) + v6_90)]) (st := []) rfl (by decide) rfl rfl (gr_lV hws rfl) (Nat.le_of_ble_eq_true rfl) (gz_Ev_mono (d := 2) (by decide) E193) ?_
                show gv_X _ _ (249, [(0, .inr (.inr (some 0))), (1, .inl a1), (2, .inl v2_12), (3, .inl v3_56), (4, .inl v4_80), (5, .inl v5_90), (6, .inl v6_90)], [.inl z193], gr_sh ++ ext, gr_h I78 J79)
                refine gv_run 3 true hD (pcₚ := 221) (lvₚ := [(6, .inl (v6_90 + 1)), (5, .inl z193), (0, .inr (.inr (some 0))), (1, .inl a1), (2, .inl v2_12), (3, .inl v3_56), (4, .inl v4_80)]) (stₚ := []) (hₚ := gr_h I78 J79) (C := (((True ∧ True) ∧ True) ∧ True)) rfl ⟨⟨⟨trivial, trivial⟩, trivial⟩, trivial⟩ ?_
                refine gv_pick [2, 3, 4, 5, 6, 1, 0] rfl ?_
                exact ih221 z193 (v6_90 + 1) (by exact gz_m 43 (by omega)) (by exact gz_m 44 (by omega)) e1_90
        have f194 := (gr_b_127 hI78 (Int.toNat v3_56))
        refine gv_run 7 true hD (pcₚ := 212) (lvₚ := [(0, .inr (.inr (some 0))), (1, .inl a1), (2, .inl v2_12), (3, .inl v3_56), (4, .inl v4_80)]) (stₚ := [.inl (I78 127 (Int.toNat v3_56)), .inl (v4_80 + v2_12)]) (hₚ := gr_h I78 J79) (C := (((((((True ∧ True) ∧ True) ∧ True) ∧ True) ∧ True) ∧ True) ∧ (0 ≤ v3_56 ∧ v3_56 < ((100 : Nat) : Int)))) rfl ⟨⟨⟨⟨⟨⟨⟨trivial, trivial⟩, trivial⟩, trivial⟩, trivial⟩, trivial⟩, trivial⟩, ⟨by exact gz_m 45 (by omega), by exact gz_m 46 (by omega)⟩⟩ ?_
        refine gv_icmp_gt (t := 299) hD rfl rfl ⟨⟨by exact gz_m 47 (by omega), by exact gz_m 48 (by omega)⟩, ⟨by exact gz_m 49 (by omega), by exact gz_m 50 (by omega)⟩⟩ (fun c195 => ?_) (fun c195 => ?_)
        · refine gv_pick [0, 1, 2, 3] rfl ?_
          exact L299 I78 J79 hI78 FI78 FJ79 KKR_I78 (by exact gz_m 51 (by omega)) e1_80
        · refine gv_run 4 true hD (pcₚ := 221) (lvₚ := [(6, .inl 0), (5, .inl 1), (0, .inr (.inr (some 0))), (1, .inl a1), (2, .inl v2_12), (3, .inl v3_56), (4, .inl v4_80)]) (stₚ := []) (hₚ := gr_h I78 J79) (C := ((((True ∧ True) ∧ True) ∧ True) ∧ True)) rfl ⟨⟨⟨⟨trivial, trivial⟩, trivial⟩, trivial⟩, trivial⟩ ?_
          refine gv_pick [2, 3, 4, 5, 6, 1, 0] rfl ?_
          exact L221 _ 1 0 (Nat.lt_succ_self _) (by exact gz_m 52 (by omega)) e1_80
    have f196 := (gr_b_0_206 hI54)
    refine gv_run 3 true hD (pcₚ := 183) (lvₚ := [(0, .inr (.inr (some 0))), (1, .inl a1), (2, .inl v2_12), (3, .inl v3_56)]) (stₚ := [.inl (I54 0 206), .inl v3_56]) (hₚ := gr_h I54 J55) (C := (((True ∧ True) ∧ True) ∧ True)) rfl ⟨⟨⟨trivial, trivial⟩, trivial⟩, trivial⟩ ?_
    refine gv_icmp_ge (t := 305) hD rfl rfl ⟨⟨by exact gz_m 53 (by omega), by exact gz_m 54 (by omega)⟩, ⟨by exact gz_m 55 (by omega), by exact gz_m 56 (by omega)⟩⟩ (fun c197 => ?_) (fun c197 => ?_)
    · have f198 := (gr_b_0_211 hI54)
      refine gv_run 2 true hD (pcₚ := 309) (lvₚ := [(0, .inr (.inr (some 0))), (1, .inl a1), (2, .inl v2_12), (3, .inl v3_56)]) (stₚ := [.inl (I54 0 211)]) (hₚ := gr_h I54 J55) (C := ((True ∧ True) ∧ True)) rfl ⟨⟨trivial, trivial⟩, trivial⟩ ?_
      have b199 : ((0 ≤ a1 ∧ a1 < I 0 1) → I54 0 68 = 0) ∧ (¬ (0 ≤ a1 ∧ a1 < I 0 1) → I54 0 68 = I 0 68) := by exact gz_m 57 (by omega)
      exact gv_iret hD rfl ⟨I54, J55, rfl, hI54, FI54, FJ55, ⟨_, rfl, by exact gz_m 58 (by omega), by exact gz_m 59 (by omega), b199.1, b199.2, KKR_I54⟩⟩
    · have f200 := (gr_b_128 hI54 (Int.toNat v3_56))
      refine gv_run 4 true hD (pcₚ := 192) (lvₚ := [(0, .inr (.inr (some 0))), (1, .inl a1), (2, .inl v2_12), (3, .inl v3_56)]) (stₚ := [.inl (I54 128 (Int.toNat v3_56))]) (hₚ := gr_h I54 J55) (C := ((((True ∧ True) ∧ True) ∧ True) ∧ (0 ≤ v3_56 ∧ v3_56 < ((100 : Nat) : Int)))) rfl ⟨⟨⟨⟨trivial, trivial⟩, trivial⟩, trivial⟩, ⟨by exact gz_m 60 (by omega), by exact gz_m 61 (by omega)⟩⟩ ?_
      refine gv_run 1 true hD (pcₚ := 193) (lvₚ := [(0, .inr (.inr (some 0))), (1, .inl a1), (2, .inl v2_12), (3, .inl v3_56)]) (stₚ := [.inl a1, .inl (I54 128 (Int.toNat v3_56))]) (hₚ := gr_h I54 J55) (C := (True ∧ True)) rfl ⟨trivial, trivial⟩ ?_
      refine gv_icmp_eq (t := 199) hD rfl rfl ⟨⟨by exact gz_m 62 (by omega), by exact gz_m 63 (by omega)⟩, ⟨by exact gz_m 64 (by omega), by exact gz_m 65 (by omega)⟩⟩ (fun c201 => ?_) (fun c201 => ?_)
      · refine gv_run 2 true hD (pcₚ := 202) (lvₚ := [(4, .inl 0), (0, .inr (.inr (some 0))), (1, .inl a1), (2, .inl v2_12), (3, .inl v3_56)]) (stₚ := []) (hₚ := gr_h I54 J55) (C := ((True ∧ True) ∧ True)) rfl ⟨⟨trivial, trivial⟩, trivial⟩ ?_
        refine gv_pick [1, 2, 3, 4, 0] rfl ?_
        exact L202 _ I54 J55 0 (Nat.lt_succ_self _) hI54 FI54 FJ55 KKR_I54 (by exact gz_m 66 (by omega)) e1_56
      · refine gv_run 1 true hD (pcₚ := 299) (lvₚ := [(0, .inr (.inr (some 0))), (1, .inl a1), (2, .inl v2_12), (3, .inl v3_56)]) (stₚ := []) (hₚ := gr_h I54 J55) (C := (True ∧ True)) rfl ⟨trivial, trivial⟩ ?_
        exact L299 I54 J55 hI54 FI54 FJ55 KKR_I54 (by exact gz_m 67 (by omega)) e1_56
set_option maxHeartbeats 8000000 in
set_option maxRecDepth 100000 in
theorem r_ask_t {ws0 : List Cond} {tb : String → gz_T} (hws : ∀ w ∈ gr_ws, w ∈ ws0) (htb : tb RX13 = gr_T) (ext : gz_Sh) (I : gr_I) (J : gr_J) (hI : gr_Inv I) (a1 : Int) (ha1 : (-2147483648) ≤ a1 ∧ a1 ≤ 2147483647)  : ∃ r hₚ, gz_Ev ws0 tb 11 (yX13_ask, cX13_ask, 7, (some .int)) [.inr (.inr (some 0)), .inl a1] (gr_sh ++ ext) (gr_h I J) r (gr_sh ++ ext) hₚ 0 0 ∧ (∃ (Iₚ : gr_I) (Jₚ : gr_J), hₚ = gr_h Iₚ Jₚ ∧ gr_Inv Iₚ ∧ gr_fr [0, 68, 69, 71, 72, 73, 74, 75, 126, 127, 128, 211] [57, 76, 77, 78, 79, 130, 131, 132, 133] I Iₚ ∧ gr_fj [0, 68, 69, 71, 72, 73, 74, 75, 126, 127, 128, 211] [57, 76, 77, 78, 79, 130, 131, 132, 133] J Jₚ ∧ (∃ z : Int, r = some (.inl z) ∧ (-3) ≤ z ∧ z ≤ 2400 ∧ ((0 ≤ a1 ∧ a1 < I 0 1) → Iₚ 0 68 = 0) ∧ (¬ (0 ≤ a1 ∧ a1 < I 0 1) → Iₚ 0 68 = I 0 68) ∧ (gr_KR I Iₚ))) := by
  have FI : gr_fr [0, 68, 69, 71, 72, 73, 74, 75, 126, 127, 128, 211] [57, 76, 77, 78, 79, 130, 131, 132, 133] I I := fun _ _ _ => rfl
  have FJ : gr_fj [0, 68, 69, 71, 72, 73, 74, 75, 126, 127, 128, 211] [57, 76, 77, 78, 79, 130, 131, 132, 133] J J := fun _ _ _ => rfl
  have hD : gv_D (gr_E ws0 tb 10 (yX13_ask, cX13_ask, 7, (some .int)) kX13_ask) := gq_of oX13_ask
  refine gr_ev (d := 10) (l := kX13_ask) (Po := fun r hₚ => (∃ (Iₚ : gr_I) (Jₚ : gr_J), hₚ = gr_h Iₚ Jₚ ∧ gr_Inv Iₚ ∧ gr_fr [0, 68, 69, 71, 72, 73, 74, 75, 126, 127, 128, 211] [57, 76, 77, 78, 79, 130, 131, 132, 133] I Iₚ ∧ gr_fj [0, 68, 69, 71, 72, 73, 74, 75, 126, 127, 128, 211] [57, 76, 77, 78, 79, 130, 131, 132, 133] J Jₚ ∧ (∃ z : Int, r = some (.inl z) ∧ (-3) ≤ z ∧ z ≤ 2400 ∧ ((0 ≤ a1 ∧ a1 < I 0 1) → Iₚ 0 68 = 0) ∧ (¬ (0 ≤ a1 ∧ a1 < I 0 1) → Iₚ 0 68 = I 0 68) ∧ (gr_KR I Iₚ)))) htb rfl (Nat.le_of_ble_eq_true rfl) ?_
  have f1 := (gr_b_0_71 hI)
  have f2 := (gr_b_0_72 hI)
  have f3 := (gr_b_0_73 hI)
  have f4 := (gr_b_0_69 hI)
  have f5 := (gr_b_0_211 hI)
  have f6 := (gr_b_0_206 hI)
  have f7 := (gr_b_0_68 hI)
  have f8 := (gr_b_0_1 hI)
  have f9 := (gr_b_0_2 hI)
  have KKR_I : gr_KR I I := gr_KR_rf
  have L30 : ∀ (n : Nat) (I10 : gr_I) (J11 : gr_J) (v2_12 : Int), (1001 - I10 0 72).toNat < n → gr_Inv I10 → gr_fr [0, 68, 69, 71, 72, 73, 74, 75, 126, 127, 128, 211] [57, 76, 77, 78, 79, 130, 131, 132, 133] I I10 → gr_fj [0, 68, 69, 71, 72, 73, 74, 75, 126, 127, 128, 211] [57, 76, 77, 78, 79, 130, 131, 132, 133] J J11 → gr_KR I I10 → ((0 ≤ a1 ∧ a1 ≤ 7) ∧ (0 ≤ v2_12 ∧ v2_12 ≤ 8) ∧ (I10 0 71 = 5 ∨ I10 0 73 ≤ I10 0 69) ∧ (I10 0 72 ≤ I10 0 69) ∧ (I10 0 71 = 0 ∨ (I10 0 72 < I10 0 73 ∧ I10 0 72 < I10 0 69)) ∧ (I10 0 71 = 3 → 2 ≤ I10 0 73 - I10 0 72 ∧ I10 0 73 - I10 0 72 ≤ 14) ∧ (I10 0 72 ≤ I10 0 73) ∧ (I10 0 211 ≤ 0) ∧ (I10 0 68 = 0) ∧ ((0 ≤ a1 ∧ a1 < I 0 1))) → (gr_AS I10 v2_12) → gv_X (gr_E ws0 tb 10 (yX13_ask, cX13_ask, 7, (some .int)) kX13_ask) (gv_Q cX13_ask (some .int) (gr_sh ++ ext) (fun r hₚ => (∃ (Iₚ : gr_I) (Jₚ : gr_J), hₚ = gr_h Iₚ Jₚ ∧ gr_Inv Iₚ ∧ gr_fr [0, 68, 69, 71, 72, 73, 74, 75, 126, 127, 128, 211] [57, 76, 77, 78, 79, 130, 131, 132, 133] I Iₚ ∧ gr_fj [0, 68, 69, 71, 72, 73, 74, 75, 126, 127, 128, 211] [57, 76, 77, 78, 79, 130, 131, 132, 133] J Jₚ ∧ (∃ z : Int, r = some (.inl z) ∧ (-3) ≤ z ∧ z ≤ 2400 ∧ ((0 ≤ a1 ∧ a1 < I 0 1) → Iₚ 0 68 = 0) ∧ (¬ (0 ≤ a1 ∧ a1 < I 0 1) → Iₚ 0 68 = I 0 68) ∧ (gr_KR I Iₚ))))) (30, [(0, .inr (.inr (some 0))), (1, .inl a1), (2, .inl v2_12)], [], gr_sh ++ ext, gr_h I10 J11) := by
    intro n
    induction n with
    | zero => intro I10 J11 v2_12 hn; exact gz_m 0 (by omega)
    | succ n ih30 =>
      intro I10 J11 v2_12 hn hI10 FI10 FJ11 KKR_I10 m_12 e5_12
      obtain ⟨ha1_12, hv2_12, e0_12, e1_12, e2_12, e3_12, e4_12, e6_12, e7_12, e8_12⟩ := m_12
      have f13 := (gr_b_0_71 hI10)
      have f14 := (gr_b_0_72 hI10)
      have f15 := (gr_b_0_73 hI10)
      have f16 := (gr_b_0_69 hI10)
      have f17 := (gr_b_0_211 hI10)
      have f18 := (gr_b_0_206 hI10)
      have f19 := (gr_b_0_68 hI10)
      have f20 := (gr_b_0_1 hI10)
      have f21 := (gr_b_0_2 hI10)
      have L154 : ∀ (I22 : gr_I) (J23 : gr_J) , gr_Inv I22 → gr_fr [0, 68, 69, 71, 72, 73, 74, 75, 126, 127, 128, 211] [57, 76, 77, 78, 79, 130, 131, 132, 133] I I22 → gr_fj [0, 68, 69, 71, 72, 73, 74, 75, 126, 127, 128, 211] [57, 76, 77, 78, 79, 130, 131, 132, 133] J J23 → gr_KR I I22 → ((0 ≤ a1 ∧ a1 ≤ 7) ∧ (0 ≤ v2_12 ∧ v2_12 ≤ 7) ∧ (I22 0 71 = 5 ∨ I22 0 73 ≤ I22 0 69) ∧ (I22 0 72 ≤ I22 0 69) ∧ (I22 0 71 = 0 ∨ (I22 0 72 < I22 0 73 ∧ I22 0 72 < I22 0 69)) ∧ (I22 0 71 = 3 → 2 ≤ I22 0 73 - I22 0 72 ∧ I22 0 73 - I22 0 72 ≤ 14) ∧ (I22 0 72 ≤ I22 0 73) ∧ (I22 0 211 ≤ 0) ∧ (¬ I22 0 71 = 0) ∧ (¬ I22 0 71 = 5) ∧ (I10 0 72 = I22 0 72) ∧ (I22 0 68 = 0) ∧ ((0 ≤ a1 ∧ a1 < I 0 1))) → (gr_AS I22 (v2_12 + 1)) → gv_X (gr_E ws0 tb 10 (yX13_ask, cX13_ask, 7, (some .int)) kX13_ask) (gv_Q cX13_ask (some .int) (gr_sh ++ ext) (fun r hₚ => (∃ (Iₚ : gr_I) (Jₚ : gr_J), hₚ = gr_h Iₚ Jₚ ∧ gr_Inv Iₚ ∧ gr_fr [0, 68, 69, 71, 72, 73, 74, 75, 126, 127, 128, 211] [57, 76, 77, 78, 79, 130, 131, 132, 133] I Iₚ ∧ gr_fj [0, 68, 69, 71, 72, 73, 74, 75, 126, 127, 128, 211] [57, 76, 77, 78, 79, 130, 131, 132, 133] J Jₚ ∧ (∃ z : Int, r = some (.inl z) ∧ (-3) ≤ z ∧ z ≤ 2400 ∧ ((0 ≤ a1 ∧ a1 < I 0 1) → Iₚ 0 68 = 0) ∧ (¬ (0 ≤ a1 ∧ a1 < I 0 1) → Iₚ 0 68 = I 0 68) ∧ (gr_KR I Iₚ))))) (154, [(0, .inr (.inr (some 0))), (1, .inl a1), (2, .inl v2_12)], [], gr_sh ++ ext, gr_h I22 J23) := by
        intro I22 J23 hI22 FI22 FJ23 KKR_I22 m_24 e5_24
        clear ha1_12 hv2_12 e0_12 e1_12 e2_12 e3_12 e4_12 e6_12 e7_12 e8_12 f13 f14 f15 f16 f17 f18 f19 f20 f21
        obtain ⟨ha1_24, hv2_12_24, e0_24, e1_24, e2_24, e3_24, e4_24, e6_24, e7_24, e8_24, e9_24, e10_24, e11_24⟩ := m_24
        have f25 := (gr_b_0_71 hI22)
        have f26 := (gr_b_0_72 hI22)
        have f27 := (gr_b_0_73 hI22)
        have f28 := (gr_b_0_69 hI22)
        have f29 := (gr_b_0_211 hI22)
        have f30 := (gr_b_0_206 hI22)
        have f31 := (gr_b_0_68 hI22)
        have f32 := (gr_b_0_1 hI22)
        have f33 := (gr_b_0_2 hI22)
        refine gv_run 2 true hD (pcₚ := 158) (lvₚ := [(2, .inl (v2_12 + 1)), (0, .inr (.inr (some 0))), (1, .inl a1)]) (stₚ := [.inr (.inr (some 0))]) (hₚ := gr_h I22 J23) (C := ((True ∧ True) ∧ True)) rfl ⟨⟨trivial, trivial⟩, trivial⟩ ?_
        obtain ⟨r34, h34, E34, P34⟩ := r_next (ws0 := ws0) (tb := tb) hws htb ext I22 J23 hI22   (by exact gz_m 1 (by omega))
        obtain ⟨I35, J36, rfl, hI35, g34, k34, ⟨rfl, q34⟩⟩ := P34
        have FI35 := gr_frt FI22 g34 rfl rfl
        have FJ36 := gr_fjt FJ23 k34 rfl rfl
        have t37 := g34 0 69 rfl
        have t38 := g34 0 211 rfl
        have t39 := g34 0 206 rfl
        have t40 := g34 0 68 rfl
        have t41 := g34 0 1 rfl
        have t42 := g34 0 2 rfl
        have t43 := g34 130 (Int.toNat ((v2_12 + 1))) rfl
        have t44 := g34 131 (Int.toNat ((v2_12 + 1))) rfl
        have f45 := (gr_b_0_71 hI35)
        have f46 := (gr_b_0_72 hI35)
        have f47 := (gr_b_0_73 hI35)
        have f48 := (gr_b_0_69 hI35)
        have f49 := (gr_b_0_211 hI35)
        have f50 := (gr_b_0_206 hI35)
        have f51 := (gr_b_0_68 hI35)
        have f52 := (gr_b_0_1 hI35)
        have f53 := (gr_b_0_2 hI35)
        have KKR_I35 := gr_KR_g KKR_I22 g34 (by decide)
        refine gv_callV hD rfl (As := []) (st := []) rfl (by decide) rfl rfl (gr_lV hws rfl) (Nat.le_of_ble_eq_true rfl) (gz_Ev_mono (d := 10) (by decide) E34) ?_
        show gv_X _ _ (161, [(2, .inl (v2_12 + 1)), (0, .inr (.inr (some 0))), (1, .inl a1)], [], gr_sh ++ ext, gr_h I35 J36)
        refine gv_run 1 true hD (pcₚ := 30) (lvₚ := [(2, .inl (v2_12 + 1)), (0, .inr (.inr (some 0))), (1, .inl a1)]) (stₚ := []) (hₚ := gr_h I35 J36) (C := (True ∧ True)) rfl ⟨trivial, trivial⟩ ?_
        refine gv_pick [1, 2, 0] rfl ?_
        exact ih30 I35 J36 (v2_12 + 1) (by exact gz_m 2 (by omega)) hI35 FI35 FJ36 KKR_I35 (by exact gz_m 3 (by omega)) (gr_AS_fr e5_24 (fun k => g34 130 k rfl) (fun k => g34 131 k rfl))
      have L178 : ∀ (n : Nat) (I54 : gr_I) (J55 : gr_J) (v3_56 : Int), (101 - v3_56).toNat < n → gr_Inv I54 → gr_fr [0, 68, 69, 71, 72, 73, 74, 75, 126, 127, 128, 211] [57, 76, 77, 78, 79, 130, 131, 132, 133] I I54 → gr_fj [0, 68, 69, 71, 72, 73, 74, 75, 126, 127, 128, 211] [57, 76, 77, 78, 79, 130, 131, 132, 133] J J55 → gr_KR I I54 → ((0 ≤ a1 ∧ a1 ≤ 7) ∧ (1 ≤ v2_12 ∧ v2_12 ≤ 8) ∧ (0 ≤ v3_56 ∧ v3_56 ≤ 100) ∧ (I54 0 211 ≤ 24 * v3_56) ∧ (I54 0 68 = 0) ∧ ((0 ≤ a1 ∧ a1 < I 0 1))) → (gr_AS I54 v2_12) → gv_X (gr_E ws0 tb 10 (yX13_ask, cX13_ask, 7, (some .int)) kX13_ask) (gv_Q cX13_ask (some .int) (gr_sh ++ ext) (fun r hₚ => (∃ (Iₚ : gr_I) (Jₚ : gr_J), hₚ = gr_h Iₚ Jₚ ∧ gr_Inv Iₚ ∧ gr_fr [0, 68, 69, 71, 72, 73, 74, 75, 126, 127, 128, 211] [57, 76, 77, 78, 79, 130, 131, 132, 133] I Iₚ ∧ gr_fj [0, 68, 69, 71, 72, 73, 74, 75, 126, 127, 128, 211] [57, 76, 77, 78, 79, 130, 131, 132, 133] J Jₚ ∧ (∃ z : Int, r = some (.inl z) ∧ (-3) ≤ z ∧ z ≤ 2400 ∧ ((0 ≤ a1 ∧ a1 < I 0 1) → Iₚ 0 68 = 0) ∧ (¬ (0 ≤ a1 ∧ a1 < I 0 1) → Iₚ 0 68 = I 0 68) ∧ (gr_KR I Iₚ))))) (178, [(0, .inr (.inr (some 0))), (1, .inl a1), (2, .inl v2_12), (3, .inl v3_56)], [], gr_sh ++ ext, gr_h I54 J55) := r_ask_t_L178 (ws0 := ws0) (tb := tb) hws htb ext I J hI a1 ha1 v2_12
      have f202 := (gr_b_0_71 hI10)
      refine gv_run 2 true hD (pcₚ := 34) (lvₚ := [(0, .inr (.inr (some 0))), (1, .inl a1), (2, .inl v2_12)]) (stₚ := [.inl (I10 0 71)]) (hₚ := gr_h I10 J11) (C := ((True ∧ True) ∧ True)) rfl ⟨⟨trivial, trivial⟩, trivial⟩ ?_
      refine gv_if_eq (t := 164) hD rfl rfl ⟨by exact gz_m 68 (by omega), by exact gz_m 69 (by omega)⟩ (fun c203 => ?_) (fun c203 => ?_)
      · refine gv_run 1 true hD (pcₚ := 165) (lvₚ := [(0, .inr (.inr (some 0))), (1, .inl a1), (2, .inl v2_12)]) (stₚ := [.inl v2_12]) (hₚ := gr_h I10 J11) (C := (True ∧ True)) rfl ⟨trivial, trivial⟩ ?_
        refine gv_if_ne (t := 171) hD rfl rfl ⟨by exact gz_m 70 (by omega), by exact gz_m 71 (by omega)⟩ (fun c204 => ?_) (fun c204 => ?_)
        · refine gv_run 2 true hD (pcₚ := 173) (lvₚ := [(0, .inr (.inr (some 0))), (1, .inl a1), (2, .inl v2_12)]) (stₚ := [.inl a1, .inr (.inr (some 0))]) (hₚ := gr_h I10 J11) (C := ((True ∧ True) ∧ True)) rfl ⟨⟨trivial, trivial⟩, trivial⟩ ?_
          obtain ⟨r205, h205, E205, P205⟩ := r_forms_k (ws0 := ws0) (tb := tb) hws htb ext I10 J11 hI10 a1 ⟨by exact gz_m 72 (by omega), by exact gz_m 73 (by omega)⟩ 
          obtain ⟨I206, J207, rfl, hI206, g205, k205, ⟨rfl, q205⟩⟩ := P205
          have FI206 := gr_frt FI10 g205 rfl rfl
          have FJ207 := gr_fjt FJ11 k205 rfl rfl
          have t208 := g205 0 71 rfl
          have t209 := g205 0 72 rfl
          have t210 := g205 0 73 rfl
          have t211 := g205 0 69 rfl
          have t212 := g205 0 211 rfl
          have t213 := g205 0 206 rfl
          have t214 := g205 0 68 rfl
          have t215 := g205 0 1 rfl
          have t216 := g205 0 2 rfl
          have t217 := g205 130 (Int.toNat v2_12) rfl
          have t218 := g205 131 (Int.toNat v2_12) rfl
          have f219 := (gr_b_0_71 hI206)
          have f220 := (gr_b_0_72 hI206)
          have f221 := (gr_b_0_73 hI206)
          have f222 := (gr_b_0_69 hI206)
          have f223 := (gr_b_0_211 hI206)
          have f224 := (gr_b_0_206 hI206)
          have f225 := (gr_b_0_68 hI206)
          have f226 := (gr_b_0_1 hI206)
          have f227 := (gr_b_0_2 hI206)
          have l205 := q205
          have KKR_I206 := gr_KR_tr KKR_I10 l205
          refine gv_callV hD rfl (As := [.inl a1]) (st := []) rfl (by decide) rfl rfl (gr_lV hws rfl) (Nat.le_of_ble_eq_true rfl) (gz_Ev_mono (d := 6) (by decide) E205) ?_
          show gv_X _ _ (176, [(0, .inr (.inr (some 0))), (1, .inl a1), (2, .inl v2_12)], [], gr_sh ++ ext, gr_h I206 J207)
          refine gv_run 2 true hD (pcₚ := 178) (lvₚ := [(3, .inl 0), (0, .inr (.inr (some 0))), (1, .inl a1), (2, .inl v2_12)]) (stₚ := []) (hₚ := gr_h I206 J207) (C := ((True ∧ True) ∧ True)) rfl ⟨⟨trivial, trivial⟩, trivial⟩ ?_
          refine gv_pick [1, 2, 3, 0] rfl ?_
          exact L178 _ I206 J207 0 (Nat.lt_succ_self _) hI206 FI206 FJ207 KKR_I206 (by exact gz_m 74 (by omega)) (gr_AS_fr e5_12 (fun k => g205 130 k rfl) (fun k => g205 131 k rfl))
        · refine gv_run 1 true hD (pcₚ := 170) (lvₚ := [(0, .inr (.inr (some 0))), (1, .inl a1), (2, .inl v2_12)]) (stₚ := [.inl (-3)]) (hₚ := gr_h I10 J11) (C := (True ∧ True)) rfl ⟨trivial, trivial⟩ ?_
          have b228 : ((0 ≤ a1 ∧ a1 < I 0 1) → I10 0 68 = 0) ∧ (¬ (0 ≤ a1 ∧ a1 < I 0 1) → I10 0 68 = I 0 68) := by exact gz_m 75 (by omega)
          exact gv_iret hD rfl ⟨I10, J11, rfl, hI10, FI10, FJ11, ⟨_, rfl, by exact gz_m 76 (by omega), by exact gz_m 77 (by omega), b228.1, b228.2, KKR_I10⟩⟩
      · refine gv_run 2 true hD (pcₚ := 40) (lvₚ := [(0, .inr (.inr (some 0))), (1, .inl a1), (2, .inl v2_12)]) (stₚ := [.inl 8, .inl v2_12]) (hₚ := gr_h I10 J11) (C := ((True ∧ True) ∧ True)) rfl ⟨⟨trivial, trivial⟩, trivial⟩ ?_
        refine gv_icmp_ne (t := 46) hD rfl rfl ⟨⟨by exact gz_m 78 (by omega), by exact gz_m 79 (by omega)⟩, ⟨by exact gz_m 80 (by omega), by exact gz_m 81 (by omega)⟩⟩ (fun c229 => ?_) (fun c229 => ?_)
        · have f230 := (gr_b_0_71 hI10)
          refine gv_run 3 true hD (pcₚ := 51) (lvₚ := [(0, .inr (.inr (some 0))), (1, .inl a1), (2, .inl v2_12)]) (stₚ := [.inl 3, .inl (I10 0 71)]) (hₚ := gr_h I10 J11) (C := (((True ∧ True) ∧ True) ∧ True)) rfl ⟨⟨⟨trivial, trivial⟩, trivial⟩, trivial⟩ ?_
          refine gv_icmp_ne (t := 79) hD rfl rfl ⟨⟨by exact gz_m 82 (by omega), by exact gz_m 83 (by omega)⟩, ⟨by exact gz_m 84 (by omega), by exact gz_m 85 (by omega)⟩⟩ (fun c231 => ?_) (fun c231 => ?_)
          · have f232 := (gr_b_0_71 hI10)
            refine gv_run 3 true hD (pcₚ := 84) (lvₚ := [(0, .inr (.inr (some 0))), (1, .inl a1), (2, .inl v2_12)]) (stₚ := [.inl 1, .inl (I10 0 71)]) (hₚ := gr_h I10 J11) (C := (((True ∧ True) ∧ True) ∧ True)) rfl ⟨⟨⟨trivial, trivial⟩, trivial⟩, trivial⟩ ?_
            refine gv_icmp_ne (t := 131) hD rfl rfl ⟨⟨by exact gz_m 86 (by omega), by exact gz_m 87 (by omega)⟩, ⟨by exact gz_m 88 (by omega), by exact gz_m 89 (by omega)⟩⟩ (fun c233 => ?_) (fun c233 => ?_)
            · refine gv_run 2 true hD (pcₚ := 134) (lvₚ := [(0, .inr (.inr (some 0))), (1, .inl a1), (2, .inl v2_12)]) (stₚ := [.inl 42, .inr (.inr (some 0))]) (hₚ := gr_h I10 J11) (C := ((True ∧ True) ∧ True)) rfl ⟨⟨trivial, trivial⟩, trivial⟩ ?_
              obtain ⟨r234, h234, E234, P234⟩ := r_sign (ws0 := ws0) (tb := tb) hws htb ext I10 J11 hI10 42 ⟨by exact gz_m 90 (by omega), by exact gz_m 91 (by omega)⟩ (by exact gz_m 92 (by omega))
              obtain ⟨rfl, ⟨z234, rfl, q234⟩⟩ := P234
              refine gv_callV hD rfl (As := [.inl 42]) (st := []) rfl (by decide) rfl rfl (gr_lV hws rfl) (Nat.le_of_ble_eq_true rfl) (gz_Ev_mono (d := 1) (by decide) E234) ?_
              show gv_X _ _ (137, [(0, .inr (.inr (some 0))), (1, .inl a1), (2, .inl v2_12)], [.inl z234], gr_sh ++ ext, gr_h I10 J11)
              refine gv_if_eq (t := 151) hD rfl rfl ⟨by exact gz_m 93 (by omega), by exact gz_m 94 (by omega)⟩ (fun c235 => ?_) (fun c235 => ?_)
              · refine gv_run 1 true hD (pcₚ := 153) (lvₚ := [(0, .inr (.inr (some 0))), (1, .inl a1), (2, .inl v2_12)]) (stₚ := [.inl (-3)]) (hₚ := gr_h I10 J11) (C := (True ∧ True)) rfl ⟨trivial, trivial⟩ ?_
                have b236 : ((0 ≤ a1 ∧ a1 < I 0 1) → I10 0 68 = 0) ∧ (¬ (0 ≤ a1 ∧ a1 < I 0 1) → I10 0 68 = I 0 68) := by exact gz_m 95 (by omega)
                exact gv_iret hD rfl ⟨I10, J11, rfl, hI10, FI10, FJ11, ⟨_, rfl, by exact gz_m 96 (by omega), by exact gz_m 97 (by omega), b236.1, b236.2, KKR_I10⟩⟩
              · refine gv_run 4 true hD (pcₚ := 147) (lvₚ := [(0, .inr (.inr (some 0))), (1, .inl a1), (2, .inl v2_12)]) (stₚ := [.inl (-2), .inl v2_12, .inr (.inr (some 131))]) (hₚ := gr_h I10 J11) (C := ((((True ∧ True) ∧ True) ∧ True) ∧ True)) rfl ⟨⟨⟨⟨trivial, trivial⟩, trivial⟩, trivial⟩, trivial⟩ ?_
                refine gv_run 1 true hD (pcₚ := 148) (lvₚ := [(0, .inr (.inr (some 0))), (1, .inl a1), (2, .inl v2_12)]) (stₚ := []) (hₚ := gz_up (gr_h I10 J11) 131 (Int.toNat v2_12) (.inl (-2))) (C := (True ∧ (0 ≤ v2_12 ∧ v2_12 < ((8 : Nat) : Int)))) rfl ⟨trivial, ⟨by exact gz_m 98 (by omega), by exact gz_m 99 (by omega)⟩⟩ ?_
                refine gr_st hI10 FI10 rfl rfl ⟨⟨by show (-2) ≤ _; exact gz_m 100 (by omega), by show _ ≤ 12; exact gz_m 101 (by omega)⟩, trivial⟩ (fun I237 hI237 FI237 q238 p238 => ?_)
                have t239 := p238 0 71 (fun q => absurd q.1 (by first | exact gz_ne rfl | decide))
                have t240 := p238 0 72 (fun q => absurd q.1 (by first | exact gz_ne rfl | decide))
                have t241 := p238 0 73 (fun q => absurd q.1 (by first | exact gz_ne rfl | decide))
                have t242 := p238 0 69 (fun q => absurd q.1 (by first | exact gz_ne rfl | decide))
                have t243 := p238 0 211 (fun q => absurd q.1 (by first | exact gz_ne rfl | decide))
                have t244 := p238 0 206 (fun q => absurd q.1 (by first | exact gz_ne rfl | decide))
                have t245 := p238 0 68 (fun q => absurd q.1 (by first | exact gz_ne rfl | decide))
                have t246 := p238 0 1 (fun q => absurd q.1 (by first | exact gz_ne rfl | decide))
                have t247 := p238 0 2 (fun q => absurd q.1 (by first | exact gz_ne rfl | decide))
                have t248 := p238 130 (Int.toNat v2_12) (fun q => absurd q.1 (by first | exact gz_ne rfl | decide))
                have f249 := (gr_b_0_71 hI237)
                have f250 := (gr_b_0_72 hI237)
                have f251 := (gr_b_0_73 hI237)
                have f252 := (gr_b_0_69 hI237)
                have f253 := (gr_b_0_211 hI237)
                have f254 := (gr_b_0_206 hI237)
                have f255 := (gr_b_0_68 hI237)
                have f256 := (gr_b_0_1 hI237)
                have f257 := (gr_b_0_2 hI237)
                have KKR_I237 := gr_KR_a (by decide) KKR_I10 p238 (by decide)
                refine gv_run 1 true hD (pcₚ := 154) (lvₚ := [(0, .inr (.inr (some 0))), (1, .inl a1), (2, .inl v2_12)]) (stₚ := []) (hₚ := gr_h I237 J11) (C := (True ∧ True)) rfl ⟨trivial, trivial⟩ ?_
                exact L154 I237 J11 hI237 FI237 FJ11 KKR_I237 (by exact gz_m 102 (by omega)) (gr_AS_nx e5_12 (by exact gz_m 103 (by omega)) (fun a j hj => by rw [p238 a j (fun q => by have := q.2; exact gz_m 104 (by omega))]) (by have h9 : (-1 : Int) ≤ I237 130 (Int.toNat v2_12) ∧ I237 130 (Int.toNat v2_12) ≤ 1001 := (hI237 130 (Int.toNat v2_12)).1; exact gz_m 105 (by omega)))
            · refine gv_run 7 true hD (pcₚ := 98) (lvₚ := [(0, .inr (.inr (some 0))), (1, .inl a1), (2, .inl v2_12)]) (stₚ := [.inr (.inr (some 0)), .inl 0, .inr (.inr (some 2)), .inl v2_12, .inr (.inr (some 130))]) (hₚ := gr_h I10 J11) (C := (((((((True ∧ True) ∧ True) ∧ True) ∧ True) ∧ True) ∧ True) ∧ True)) rfl ⟨⟨⟨⟨⟨⟨⟨trivial, trivial⟩, trivial⟩, trivial⟩, trivial⟩, trivial⟩, trivial⟩, trivial⟩ ?_
              have f258 := (gr_b_0_2 hI10)
              refine gv_run 3 true hD (pcₚ := 105) (lvₚ := [(0, .inr (.inr (some 0))), (1, .inl a1), (2, .inl v2_12)]) (stₚ := [.inr (.inl (J11 0 75)), .inl (I10 0 2), .inl 0, .inr (.inr (some 2)), .inl v2_12, .inr (.inr (some 130))]) (hₚ := gr_h I10 J11) (C := (((True ∧ True) ∧ True) ∧ True)) rfl ⟨⟨⟨trivial, trivial⟩, trivial⟩, trivial⟩ ?_
              obtain ⟨r259, h259, E259, P259⟩ := r_find_2 (ws0 := ws0) (tb := tb) hws htb ext I10 J11 hI10 0 (I10 0 2) (J11 0 75) ⟨by exact gz_m 106 (by omega), by exact gz_m 107 (by omega)⟩ ⟨by exact gz_m 108 (by omega), by exact gz_m 109 (by omega)⟩ (by exact gz_m 110 (by omega))
              obtain ⟨rfl, ⟨z259, rfl, q259⟩⟩ := P259
              refine gv_callS hD rfl (As := [.inr (.inr (some 2)), .inl 0, .inl (I10 0 2), .inr (.inl (J11 0 75))]) (st := [.inl v2_12, .inr (.inr (some 130))]) rfl (gr_lS hws rfl) (Nat.le_of_ble_eq_true rfl) (gz_Ev_mono (d := 1) (by decide) E259) ?_
              show gv_X _ _ (108, [(0, .inr (.inr (some 0))), (1, .inl a1), (2, .inl v2_12)], [.inl z259, .inl v2_12, .inr (.inr (some 130))], gr_sh ++ ext, gr_h I10 J11)
              refine gv_run 1 true hD (pcₚ := 109) (lvₚ := [(0, .inr (.inr (some 0))), (1, .inl a1), (2, .inl v2_12)]) (stₚ := []) (hₚ := gz_up (gr_h I10 J11) 130 (Int.toNat v2_12) (.inl z259)) (C := (True ∧ (0 ≤ v2_12 ∧ v2_12 < ((8 : Nat) : Int)))) rfl ⟨trivial, ⟨by exact gz_m 111 (by omega), by exact gz_m 112 (by omega)⟩⟩ ?_
              refine gr_st hI10 FI10 rfl rfl ⟨⟨by show (-1) ≤ _; exact gz_m 113 (by omega), by show _ ≤ 1001; exact gz_m 114 (by omega)⟩, trivial⟩ (fun I260 hI260 FI260 q261 p261 => ?_)
              have t262 := p261 0 71 (fun q => absurd q.1 (by first | exact gz_ne rfl | decide))
              have t263 := p261 0 72 (fun q => absurd q.1 (by first | exact gz_ne rfl | decide))
              have t264 := p261 0 73 (fun q => absurd q.1 (by first | exact gz_ne rfl | decide))
              have t265 := p261 0 69 (fun q => absurd q.1 (by first | exact gz_ne rfl | decide))
              have t266 := p261 0 211 (fun q => absurd q.1 (by first | exact gz_ne rfl | decide))
              have t267 := p261 0 206 (fun q => absurd q.1 (by first | exact gz_ne rfl | decide))
              have t268 := p261 0 68 (fun q => absurd q.1 (by first | exact gz_ne rfl | decide))
              have t269 := p261 0 1 (fun q => absurd q.1 (by first | exact gz_ne rfl | decide))
              have t270 := p261 0 2 (fun q => absurd q.1 (by first | exact gz_ne rfl | decide))
              have t271 := p261 131 (Int.toNat v2_12) (fun q => absurd q.1 (by first | exact gz_ne rfl | decide))
              have f272 := (gr_b_0_71 hI260)
              have f273 := (gr_b_0_72 hI260)
              have f274 := (gr_b_0_73 hI260)
              have f275 := (gr_b_0_69 hI260)
              have f276 := (gr_b_0_211 hI260)
              have f277 := (gr_b_0_206 hI260)
              have f278 := (gr_b_0_68 hI260)
              have f279 := (gr_b_0_1 hI260)
              have f280 := (gr_b_0_2 hI260)
              have KKR_I260 := gr_KR_a (by decide) KKR_I10 p261 (by decide)
              have f281 := (gr_b_130 hI260 (Int.toNat v2_12))
              refine gv_run 4 true hD (pcₚ := 115) (lvₚ := [(0, .inr (.inr (some 0))), (1, .inl a1), (2, .inl v2_12)]) (stₚ := [.inl (I260 130 (Int.toNat v2_12))]) (hₚ := gr_h I260 J11) (C := ((((True ∧ True) ∧ True) ∧ True) ∧ (0 ≤ v2_12 ∧ v2_12 < ((8 : Nat) : Int)))) rfl ⟨⟨⟨⟨trivial, trivial⟩, trivial⟩, trivial⟩, ⟨by exact gz_m 115 (by omega), by exact gz_m 116 (by omega)⟩⟩ ?_
              refine gv_if_ge (t := 121) hD rfl rfl ⟨by exact gz_m 117 (by omega), by exact gz_m 118 (by omega)⟩ (fun c282 => ?_) (fun c282 => ?_)
              · refine gv_run 4 true hD (pcₚ := 127) (lvₚ := [(0, .inr (.inr (some 0))), (1, .inl a1), (2, .inl v2_12)]) (stₚ := [.inl (-1), .inl v2_12, .inr (.inr (some 131))]) (hₚ := gr_h I260 J11) (C := ((((True ∧ True) ∧ True) ∧ True) ∧ True)) rfl ⟨⟨⟨⟨trivial, trivial⟩, trivial⟩, trivial⟩, trivial⟩ ?_
                refine gv_run 1 true hD (pcₚ := 128) (lvₚ := [(0, .inr (.inr (some 0))), (1, .inl a1), (2, .inl v2_12)]) (stₚ := []) (hₚ := gz_up (gr_h I260 J11) 131 (Int.toNat v2_12) (.inl (-1))) (C := (True ∧ (0 ≤ v2_12 ∧ v2_12 < ((8 : Nat) : Int)))) rfl ⟨trivial, ⟨by exact gz_m 119 (by omega), by exact gz_m 120 (by omega)⟩⟩ ?_
                refine gr_st hI260 FI260 rfl rfl ⟨⟨by show (-2) ≤ _; exact gz_m 121 (by omega), by show _ ≤ 12; exact gz_m 122 (by omega)⟩, trivial⟩ (fun I283 hI283 FI283 q284 p284 => ?_)
                have t285 := p284 0 71 (fun q => absurd q.1 (by first | exact gz_ne rfl | decide))
                have t286 := p284 0 72 (fun q => absurd q.1 (by first | exact gz_ne rfl | decide))
                have t287 := p284 0 73 (fun q => absurd q.1 (by first | exact gz_ne rfl | decide))
                have t288 := p284 0 69 (fun q => absurd q.1 (by first | exact gz_ne rfl | decide))
                have t289 := p284 0 211 (fun q => absurd q.1 (by first | exact gz_ne rfl | decide))
                have t290 := p284 0 206 (fun q => absurd q.1 (by first | exact gz_ne rfl | decide))
                have t291 := p284 0 68 (fun q => absurd q.1 (by first | exact gz_ne rfl | decide))
                have t292 := p284 0 1 (fun q => absurd q.1 (by first | exact gz_ne rfl | decide))
                have t293 := p284 0 2 (fun q => absurd q.1 (by first | exact gz_ne rfl | decide))
                have t294 := p284 130 (Int.toNat v2_12) (fun q => absurd q.1 (by first | exact gz_ne rfl | decide))
                have f295 := (gr_b_0_71 hI283)
                have f296 := (gr_b_0_72 hI283)
                have f297 := (gr_b_0_73 hI283)
                have f298 := (gr_b_0_69 hI283)
                have f299 := (gr_b_0_211 hI283)
                have f300 := (gr_b_0_206 hI283)
                have f301 := (gr_b_0_68 hI283)
                have f302 := (gr_b_0_1 hI283)
                have f303 := (gr_b_0_2 hI283)
                have KKR_I283 := gr_KR_a (by decide) KKR_I260 p284 (by decide)
                refine gv_run 1 true hD (pcₚ := 154) (lvₚ := [(0, .inr (.inr (some 0))), (1, .inl a1), (2, .inl v2_12)]) (stₚ := []) (hₚ := gr_h I283 J11) (C := (True ∧ True)) rfl ⟨trivial, trivial⟩ ?_
                exact L154 I283 J11 hI283 FI283 FJ11 KKR_I283 (by exact gz_m 123 (by omega)) (gr_AS_nx e5_12 (by exact gz_m 124 (by omega)) (fun a j hj => by rw [p284 a j (fun q => by have := q.2; exact gz_m 125 (by omega)), p261 a j (fun q => by have := q.2; exact gz_m 126 (by omega))]) (by have h9 : (-1 : Int) ≤ I283 130 (Int.toNat v2_12) ∧ I283 130 (Int.toNat v2_12) ≤ 1001 := (hI283 130 (Int.toNat v2_12)).1; exact gz_m 127 (by omega)))
              · refine gv_run 1 true hD (pcₚ := 120) (lvₚ := [(0, .inr (.inr (some 0))), (1, .inl a1), (2, .inl v2_12)]) (stₚ := [.inl (-3)]) (hₚ := gr_h I260 J11) (C := (True ∧ True)) rfl ⟨trivial, trivial⟩ ?_
                have b304 : ((0 ≤ a1 ∧ a1 < I 0 1) → I260 0 68 = 0) ∧ (¬ (0 ≤ a1 ∧ a1 < I 0 1) → I260 0 68 = I 0 68) := by exact gz_m 128 (by omega)
                exact gv_iret hD rfl ⟨I260, J11, rfl, hI260, FI260, FJ11, ⟨_, rfl, by exact gz_m 129 (by omega), by exact gz_m 130 (by omega), b304.1, b304.2, KKR_I260⟩⟩
          · have f305 := (gr_b_0_72 hI10)
            refine gv_run 7 true hD (pcₚ := 65) (lvₚ := [(0, .inr (.inr (some 0))), (1, .inl a1), (2, .inl v2_12)]) (stₚ := [.inl ((I10 0 72) + 1), .inl v2_12, .inr (.inr (some 130))]) (hₚ := gr_h I10 J11) (C := (((((((True ∧ True) ∧ True) ∧ True) ∧ True) ∧ True) ∧ True) ∧ True)) rfl ⟨⟨⟨⟨⟨⟨⟨trivial, trivial⟩, trivial⟩, trivial⟩, trivial⟩, trivial⟩, trivial⟩, trivial⟩ ?_
            refine gv_run 1 true hD (pcₚ := 66) (lvₚ := [(0, .inr (.inr (some 0))), (1, .inl a1), (2, .inl v2_12)]) (stₚ := []) (hₚ := gz_up (gr_h I10 J11) 130 (Int.toNat v2_12) (.inl (((I10 0 72) + 1)))) (C := (True ∧ (0 ≤ v2_12 ∧ v2_12 < ((8 : Nat) : Int)))) rfl ⟨trivial, ⟨by exact gz_m 131 (by omega), by exact gz_m 132 (by omega)⟩⟩ ?_
            refine gr_st hI10 FI10 rfl rfl ⟨⟨by show (-1) ≤ _; exact gz_m 133 (by omega), by show _ ≤ 1001; exact gz_m 134 (by omega)⟩, trivial⟩ (fun I306 hI306 FI306 q307 p307 => ?_)
            have t308 := p307 0 71 (fun q => absurd q.1 (by first | exact gz_ne rfl | decide))
            have t309 := p307 0 72 (fun q => absurd q.1 (by first | exact gz_ne rfl | decide))
            have t310 := p307 0 73 (fun q => absurd q.1 (by first | exact gz_ne rfl | decide))
            have t311 := p307 0 69 (fun q => absurd q.1 (by first | exact gz_ne rfl | decide))
            have t312 := p307 0 211 (fun q => absurd q.1 (by first | exact gz_ne rfl | decide))
            have t313 := p307 0 206 (fun q => absurd q.1 (by first | exact gz_ne rfl | decide))
            have t314 := p307 0 68 (fun q => absurd q.1 (by first | exact gz_ne rfl | decide))
            have t315 := p307 0 1 (fun q => absurd q.1 (by first | exact gz_ne rfl | decide))
            have t316 := p307 0 2 (fun q => absurd q.1 (by first | exact gz_ne rfl | decide))
            have t317 := p307 131 (Int.toNat v2_12) (fun q => absurd q.1 (by first | exact gz_ne rfl | decide))
            have f318 := (gr_b_0_71 hI306)
            have f319 := (gr_b_0_72 hI306)
            have f320 := (gr_b_0_73 hI306)
            have f321 := (gr_b_0_69 hI306)
            have f322 := (gr_b_0_211 hI306)
            have f323 := (gr_b_0_206 hI306)
            have f324 := (gr_b_0_68 hI306)
            have f325 := (gr_b_0_1 hI306)
            have f326 := (gr_b_0_2 hI306)
            have KKR_I306 := gr_KR_a (by decide) KKR_I10 p307 (by decide)
            refine gv_run 4 true hD (pcₚ := 72) (lvₚ := [(0, .inr (.inr (some 0))), (1, .inl a1), (2, .inl v2_12)]) (stₚ := [.inr (.inr (some 0)), .inl v2_12, .inr (.inr (some 131))]) (hₚ := gr_h I306 J11) (C := ((((True ∧ True) ∧ True) ∧ True) ∧ True)) rfl ⟨⟨⟨⟨trivial, trivial⟩, trivial⟩, trivial⟩, trivial⟩ ?_
            obtain ⟨r327, h327, E327, P327⟩ := r_size (ws0 := ws0) (tb := tb) hws htb ext I306 J11 hI306   
            obtain ⟨rfl, ⟨z327, rfl, q327⟩⟩ := P327
            refine gv_callV hD rfl (As := []) (st := [.inl v2_12, .inr (.inr (some 131))]) rfl (by decide) rfl rfl (gr_lV hws rfl) (Nat.le_of_ble_eq_true rfl) (gz_Ev_mono (d := 1) (by decide) E327) ?_
            show gv_X _ _ (75, [(0, .inr (.inr (some 0))), (1, .inl a1), (2, .inl v2_12)], [.inl z327, .inl v2_12, .inr (.inr (some 131))], gr_sh ++ ext, gr_h I306 J11)
            refine gv_run 1 true hD (pcₚ := 76) (lvₚ := [(0, .inr (.inr (some 0))), (1, .inl a1), (2, .inl v2_12)]) (stₚ := []) (hₚ := gz_up (gr_h I306 J11) 131 (Int.toNat v2_12) (.inl z327)) (C := (True ∧ (0 ≤ v2_12 ∧ v2_12 < ((8 : Nat) : Int)))) rfl ⟨trivial, ⟨by exact gz_m 135 (by omega), by exact gz_m 136 (by omega)⟩⟩ ?_
            refine gr_st hI306 FI306 rfl rfl ⟨⟨by show (-2) ≤ _; exact gz_m 137 (by omega), by show _ ≤ 12; exact gz_m 138 (by omega)⟩, trivial⟩ (fun I328 hI328 FI328 q329 p329 => ?_)
            have t330 := p329 0 71 (fun q => absurd q.1 (by first | exact gz_ne rfl | decide))
            have t331 := p329 0 72 (fun q => absurd q.1 (by first | exact gz_ne rfl | decide))
            have t332 := p329 0 73 (fun q => absurd q.1 (by first | exact gz_ne rfl | decide))
            have t333 := p329 0 69 (fun q => absurd q.1 (by first | exact gz_ne rfl | decide))
            have t334 := p329 0 211 (fun q => absurd q.1 (by first | exact gz_ne rfl | decide))
            have t335 := p329 0 206 (fun q => absurd q.1 (by first | exact gz_ne rfl | decide))
            have t336 := p329 0 68 (fun q => absurd q.1 (by first | exact gz_ne rfl | decide))
            have t337 := p329 0 1 (fun q => absurd q.1 (by first | exact gz_ne rfl | decide))
            have t338 := p329 0 2 (fun q => absurd q.1 (by first | exact gz_ne rfl | decide))
            have t339 := p329 130 (Int.toNat v2_12) (fun q => absurd q.1 (by first | exact gz_ne rfl | decide))
            have f340 := (gr_b_0_71 hI328)
            have f341 := (gr_b_0_72 hI328)
            have f342 := (gr_b_0_73 hI328)
            have f343 := (gr_b_0_69 hI328)
            have f344 := (gr_b_0_211 hI328)
            have f345 := (gr_b_0_206 hI328)
            have f346 := (gr_b_0_68 hI328)
            have f347 := (gr_b_0_1 hI328)
            have f348 := (gr_b_0_2 hI328)
            have KKR_I328 := gr_KR_a (by decide) KKR_I306 p329 (by decide)
            refine gv_run 1 true hD (pcₚ := 154) (lvₚ := [(0, .inr (.inr (some 0))), (1, .inl a1), (2, .inl v2_12)]) (stₚ := []) (hₚ := gr_h I328 J11) (C := (True ∧ True)) rfl ⟨trivial, trivial⟩ ?_
            exact L154 I328 J11 hI328 FI328 FJ11 KKR_I328 (by exact gz_m 139 (by omega)) (gr_AS_nx e5_12 (by exact gz_m 140 (by omega)) (fun a j hj => by rw [p329 a j (fun q => by have := q.2; exact gz_m 141 (by omega)), p307 a j (fun q => by have := q.2; exact gz_m 142 (by omega))]) (by have h9 : (-1 : Int) ≤ I328 130 (Int.toNat v2_12) ∧ I328 130 (Int.toNat v2_12) ≤ 1001 := (hI328 130 (Int.toNat v2_12)).1; exact gz_m 143 (by omega)))
        · refine gv_run 1 true hD (pcₚ := 45) (lvₚ := [(0, .inr (.inr (some 0))), (1, .inl a1), (2, .inl v2_12)]) (stₚ := [.inl (-3)]) (hₚ := gr_h I10 J11) (C := (True ∧ True)) rfl ⟨trivial, trivial⟩ ?_
          have b349 : ((0 ≤ a1 ∧ a1 < I 0 1) → I10 0 68 = 0) ∧ (¬ (0 ≤ a1 ∧ a1 < I 0 1) → I10 0 68 = I 0 68) := by exact gz_m 144 (by omega)
          exact gv_iret hD rfl ⟨I10, J11, rfl, hI10, FI10, FJ11, ⟨_, rfl, by exact gz_m 145 (by omega), by exact gz_m 146 (by omega), b349.1, b349.2, KKR_I10⟩⟩
  refine gv_run 2 true hD (pcₚ := 2) (lvₚ := [(0, .inr (.inr (some 0))), (1, .inl a1)]) (stₚ := [.inl a1, .inr (.inr (some 0))]) (hₚ := gr_h I J) (C := ((True ∧ True) ∧ True)) rfl ⟨⟨trivial, trivial⟩, trivial⟩ ?_
  obtain ⟨r350, h350, E350, P350⟩ := r_noTongue_t (ws0 := ws0) (tb := tb) hws htb ext I J hI a1 ⟨by exact gz_m 147 (by omega), by exact gz_m 148 (by omega)⟩ 
  obtain ⟨I351, J352, rfl, hI351, g350, k350, ⟨z350, rfl, q350⟩⟩ := P350
  have FI351 := gr_frt FI g350 rfl rfl
  have FJ352 := gr_fjt FJ k350 rfl rfl
  have t353 := g350 0 71 rfl
  have t354 := g350 0 72 rfl
  have t355 := g350 0 73 rfl
  have t356 := g350 0 69 rfl
  have t357 := g350 0 211 rfl
  have t358 := g350 0 206 rfl
  have t359 := g350 0 68 rfl
  have t360 := g350 0 1 rfl
  have t361 := g350 0 2 rfl
  have f362 := (gr_b_0_71 hI351)
  have f363 := (gr_b_0_72 hI351)
  have f364 := (gr_b_0_73 hI351)
  have f365 := (gr_b_0_69 hI351)
  have f366 := (gr_b_0_211 hI351)
  have f367 := (gr_b_0_206 hI351)
  have f368 := (gr_b_0_68 hI351)
  have f369 := (gr_b_0_1 hI351)
  have f370 := (gr_b_0_2 hI351)
  have KKR_I351 := gr_KR_g KKR_I g350 (by decide)
  refine gv_callV hD rfl (As := [.inl a1]) (st := []) rfl (by decide) rfl rfl (gr_lV hws rfl) (Nat.le_of_ble_eq_true rfl) (gz_Ev_mono (d := 1) (by decide) E350) ?_
  show gv_X _ _ (5, [(0, .inr (.inr (some 0))), (1, .inl a1)], [.inl z350], gr_sh ++ ext, gr_h I351 J352)
  refine gv_if_eq (t := 10) hD rfl rfl ⟨by exact gz_m 149 (by omega), by exact gz_m 150 (by omega)⟩ (fun c371 => ?_) (fun c371 => ?_)
  · refine gv_run 1 true hD (pcₚ := 11) (lvₚ := [(0, .inr (.inr (some 0))), (1, .inl a1)]) (stₚ := [.inr (.inr (some 0))]) (hₚ := gr_h I351 J352) (C := (True ∧ True)) rfl ⟨trivial, trivial⟩ ?_
    obtain ⟨r372, h372, E372, P372⟩ := r_reads_t (ws0 := ws0) (tb := tb) hws htb ext I351 J352 hI351   
    obtain ⟨I373, J374, rfl, hI373, g372, k372, ⟨rfl, q372⟩⟩ := P372
    have FI373 := gr_frt FI351 g372 rfl rfl
    have FJ374 := gr_fjt FJ352 k372 rfl rfl
    have t375 := g372 0 71 rfl
    have t376 := g372 0 72 rfl
    have t377 := g372 0 73 rfl
    have t378 := g372 0 211 rfl
    have t379 := g372 0 206 rfl
    have t380 := g372 0 1 rfl
    have t381 := g372 0 2 rfl
    have f382 := (gr_b_0_71 hI373)
    have f383 := (gr_b_0_72 hI373)
    have f384 := (gr_b_0_73 hI373)
    have f385 := (gr_b_0_69 hI373)
    have f386 := (gr_b_0_211 hI373)
    have f387 := (gr_b_0_206 hI373)
    have f388 := (gr_b_0_68 hI373)
    have f389 := (gr_b_0_1 hI373)
    have f390 := (gr_b_0_2 hI373)
    have KKR_I373 := gr_KR_g KKR_I351 g372 (by decide)
    refine gv_callV hD rfl (As := []) (st := []) rfl (by decide) rfl rfl (gr_lV hws rfl) (Nat.le_of_ble_eq_true rfl) (gz_Ev_mono (d := 1) (by decide) E372) ?_
    show gv_X _ _ (14, [(0, .inr (.inr (some 0))), (1, .inl a1)], [], gr_sh ++ ext, gr_h I373 J374)
    refine gv_run 3 true hD (pcₚ := 19) (lvₚ := [(0, .inr (.inr (some 0))), (1, .inl a1)]) (stₚ := []) (hₚ := gz_up (gr_h I373 J374) 0 73 (.inl 0)) (C := (((True ∧ True) ∧ True) ∧ True)) rfl ⟨⟨⟨trivial, trivial⟩, trivial⟩, trivial⟩ ?_
    refine gr_st hI373 FI373 rfl rfl ⟨⟨by show 0 ≤ _; exact gz_m 151 (by omega), by show _ ≤ 1001; exact gz_m 152 (by omega)⟩, trivial⟩ (fun I391 hI391 FI391 q392 p392 => ?_)
    have t393 := p392 0 71 (by decide)
    have t394 := p392 0 72 (by decide)
    have t395 := p392 0 69 (by decide)
    have t396 := p392 0 211 (by decide)
    have t397 := p392 0 206 (by decide)
    have t398 := p392 0 68 (by decide)
    have t399 := p392 0 1 (by decide)
    have t400 := p392 0 2 (by decide)
    have f401 := (gr_b_0_71 hI391)
    have f402 := (gr_b_0_72 hI391)
    have f403 := (gr_b_0_73 hI391)
    have f404 := (gr_b_0_69 hI391)
    have f405 := (gr_b_0_211 hI391)
    have f406 := (gr_b_0_206 hI391)
    have f407 := (gr_b_0_68 hI391)
    have f408 := (gr_b_0_1 hI391)
    have f409 := (gr_b_0_2 hI391)
    have KKR_I391 := gr_KR_f KKR_I373 p392 (by decide)
    refine gv_run 1 true hD (pcₚ := 20) (lvₚ := [(0, .inr (.inr (some 0))), (1, .inl a1)]) (stₚ := [.inr (.inr (some 0))]) (hₚ := gr_h I391 J374) (C := (True ∧ True)) rfl ⟨trivial, trivial⟩ ?_
    obtain ⟨r410, h410, E410, P410⟩ := r_next (ws0 := ws0) (tb := tb) hws htb ext I391 J374 hI391   (by exact gz_m 153 (by omega))
    obtain ⟨I411, J412, rfl, hI411, g410, k410, ⟨rfl, q410⟩⟩ := P410
    have FI411 := gr_frt FI391 g410 rfl rfl
    have FJ412 := gr_fjt FJ374 k410 rfl rfl
    have t413 := g410 0 69 rfl
    have t414 := g410 0 211 rfl
    have t415 := g410 0 206 rfl
    have t416 := g410 0 68 rfl
    have t417 := g410 0 1 rfl
    have t418 := g410 0 2 rfl
    have f419 := (gr_b_0_71 hI411)
    have f420 := (gr_b_0_72 hI411)
    have f421 := (gr_b_0_73 hI411)
    have f422 := (gr_b_0_69 hI411)
    have f423 := (gr_b_0_211 hI411)
    have f424 := (gr_b_0_206 hI411)
    have f425 := (gr_b_0_68 hI411)
    have f426 := (gr_b_0_1 hI411)
    have f427 := (gr_b_0_2 hI411)
    have KKR_I411 := gr_KR_g KKR_I391 g410 (by decide)
    refine gv_callV hD rfl (As := []) (st := []) rfl (by decide) rfl rfl (gr_lV hws rfl) (Nat.le_of_ble_eq_true rfl) (gz_Ev_mono (d := 10) (by decide) E410) ?_
    show gv_X _ _ (23, [(0, .inr (.inr (some 0))), (1, .inl a1)], [], gr_sh ++ ext, gr_h I411 J412)
    refine gv_run 3 true hD (pcₚ := 28) (lvₚ := [(0, .inr (.inr (some 0))), (1, .inl a1)]) (stₚ := []) (hₚ := gz_up (gr_h I411 J412) 0 211 (.inl 0)) (C := (((True ∧ True) ∧ True) ∧ True)) rfl ⟨⟨⟨trivial, trivial⟩, trivial⟩, trivial⟩ ?_
    refine gr_st hI411 FI411 rfl rfl ⟨⟨by show 0 ≤ _; exact gz_m 154 (by omega), by show _ ≤ 2400; exact gz_m 155 (by omega)⟩, trivial⟩ (fun I428 hI428 FI428 q429 p429 => ?_)
    have t430 := p429 0 71 (by decide)
    have t431 := p429 0 72 (by decide)
    have t432 := p429 0 73 (by decide)
    have t433 := p429 0 69 (by decide)
    have t434 := p429 0 206 (by decide)
    have t435 := p429 0 68 (by decide)
    have t436 := p429 0 1 (by decide)
    have t437 := p429 0 2 (by decide)
    have f438 := (gr_b_0_71 hI428)
    have f439 := (gr_b_0_72 hI428)
    have f440 := (gr_b_0_73 hI428)
    have f441 := (gr_b_0_69 hI428)
    have f442 := (gr_b_0_211 hI428)
    have f443 := (gr_b_0_206 hI428)
    have f444 := (gr_b_0_68 hI428)
    have f445 := (gr_b_0_1 hI428)
    have f446 := (gr_b_0_2 hI428)
    have KKR_I428 := gr_KR_f KKR_I411 p429 (by decide)
    refine gv_run 2 true hD (pcₚ := 30) (lvₚ := [(2, .inl 0), (0, .inr (.inr (some 0))), (1, .inl a1)]) (stₚ := []) (hₚ := gr_h I428 J412) (C := ((True ∧ True) ∧ True)) rfl ⟨⟨trivial, trivial⟩, trivial⟩ ?_
    refine gv_pick [1, 2, 0] rfl ?_
    exact L30 _ I428 J412 0 (Nat.lt_succ_self _) hI428 FI428 FJ412 KKR_I428 (by exact gz_m 156 (by omega)) (fun k a b => by exact gz_m 157 (by omega))
  · refine gv_run 1 true hD (pcₚ := 9) (lvₚ := [(0, .inr (.inr (some 0))), (1, .inl a1)]) (stₚ := [.inl 0]) (hₚ := gr_h I351 J352) (C := (True ∧ True)) rfl ⟨trivial, trivial⟩ ?_
    have b447 : ((0 ≤ a1 ∧ a1 < I 0 1) → I351 0 68 = 0) ∧ (¬ (0 ≤ a1 ∧ a1 < I 0 1) → I351 0 68 = I 0 68) := by exact gz_m 158 (by omega)
    exact gv_iret hD rfl ⟨I351, J352, rfl, hI351, FI351, FJ352, ⟨_, rfl, by exact gz_m 159 (by omega), by exact gz_m 160 (by omega), b447.1, b447.2, KKR_I351⟩⟩
set_option maxHeartbeats 8000000 in
set_option maxRecDepth 100000 in
theorem r_swap_t_L69 {ws0 : List Cond} {tb : String → gz_T} (hws : ∀ w ∈ gr_ws, w ∈ ws0) (htb : tb RX13 = gr_T) (ext : gz_Sh) (I : gr_I) (J : gr_J) (hI : gr_Inv I) (a1 : Int) (a2 : Int) (a3 : Int) (ha1 : (-2147483648) ≤ a1 ∧ a1 ≤ 2147483647) (ha2 : (-2147483648) ≤ a2 ∧ a2 ≤ 2147483647) (ha3 : (-2147483648) ≤ a3 ∧ a3 ≤ 2147483647) (KGR_I : gr_GR I) (KFV_I : gr_FV I) (KPL_I : gr_PL I) (KOX_I : gr_OX I) : ∀ (n : Nat) (I19 : gr_I) (J20 : gr_J) (v4_21 : Int), (17 - v4_21).toNat < n → gr_Inv I19 → gr_fr [0, 68, 69, 126, 127, 128, 143, 157, 158, 159, 160, 161, 166, 167, 168, 169, 170, 177, 179, 180, 181, 186, 188, 201] [57, 76, 77, 78, 79, 83, 85, 87, 88, 89, 90, 91, 92, 93, 94, 95, 96, 97, 98, 99, 100, 101, 103, 104, 105, 106, 107, 108, 109, 110, 111, 112, 113, 116, 117, 118, 119, 120, 121, 122, 123, 124, 125] I I19 → gr_fj [0, 68, 69, 126, 127, 128, 143, 157, 158, 159, 160, 161, 166, 167, 168, 169, 170, 177, 179, 180, 181, 186, 188, 201] [57, 76, 77, 78, 79, 83, 85, 87, 88, 89, 90, 91, 92, 93, 94, 95, 96, 97, 98, 99, 100, 101, 103, 104, 105, 106, 107, 108, 109, 110, 111, 112, 113, 116, 117, 118, 119, 120, 121, 122, 123, 124, 125] J J20 → gr_GR I19 → gr_FV I19 → gr_PL I19 → gr_OX I19 → gr_KR I I19 → ((0 ≤ a3 ∧ a3 ≤ 7) ∧ (0 ≤ v4_21 ∧ v4_21 ≤ 16) ∧ (I19 0 201 ≤ v4_21) ∧ (I19 0 68 = 0) ∧ (((0 ≤ a1 ∧ a1 < I 0 1) ∧ (0 ≤ a2 ∧ a2 < I 0 2) ∧ (0 ≤ a3 ∧ a3 < I 0 1)))) → gv_X (gr_E ws0 tb 800 (yX13_swap, cX13_swap, 9, (some .int)) kX13_swap) (gv_Q cX13_swap (some .int) (gr_sh ++ ext) (fun r hₚ => (∃ (Iₚ : gr_I) (Jₚ : gr_J), hₚ = gr_h Iₚ Jₚ ∧ gr_Inv Iₚ ∧ gr_fr [0, 68, 69, 126, 127, 128, 143, 157, 158, 159, 160, 161, 166, 167, 168, 169, 170, 177, 179, 180, 181, 186, 188, 201] [57, 76, 77, 78, 79, 83, 85, 87, 88, 89, 90, 91, 92, 93, 94, 95, 96, 97, 98, 99, 100, 101, 103, 104, 105, 106, 107, 108, 109, 110, 111, 112, 113, 116, 117, 118, 119, 120, 121, 122, 123, 124, 125] I Iₚ ∧ gr_fj [0, 68, 69, 126, 127, 128, 143, 157, 158, 159, 160, 161, 166, 167, 168, 169, 170, 177, 179, 180, 181, 186, 188, 201] [57, 76, 77, 78, 79, 83, 85, 87, 88, 89, 90, 91, 92, 93, 94, 95, 96, 97, 98, 99, 100, 101, 103, 104, 105, 106, 107, 108, 109, 110, 111, 112, 113, 116, 117, 118, 119, 120, 121, 122, 123, 124, 125] J Jₚ ∧ gr_GR Iₚ ∧ gr_FV Iₚ ∧ gr_PL Iₚ ∧ gr_OX Iₚ ∧ (∃ z : Int, r = some (.inl z) ∧ (-3) ≤ z ∧ z ≤ 16 ∧ (((0 ≤ a1 ∧ a1 < I 0 1) ∧ (0 ≤ a2 ∧ a2 < I 0 2) ∧ (0 ≤ a3 ∧ a3 < I 0 1)) → Iₚ 0 68 = 0) ∧ (¬ ((0 ≤ a1 ∧ a1 < I 0 1) ∧ (0 ≤ a2 ∧ a2 < I 0 2) ∧ (0 ≤ a3 ∧ a3 < I 0 1)) → Iₚ 0 68 = I 0 68) ∧ (gr_KR I Iₚ))))) (69, [(0, .inr (.inr (some 0))), (3, .inl a3), (4, .inl v4_21)], [], gr_sh ++ ext, gr_h I19 J20) := by
  have FI : gr_fr [0, 68, 69, 126, 127, 128, 143, 157, 158, 159, 160, 161, 166, 167, 168, 169, 170, 177, 179, 180, 181, 186, 188, 201] [57, 76, 77, 78, 79, 83, 85, 87, 88, 89, 90, 91, 92, 93, 94, 95, 96, 97, 98, 99, 100, 101, 103, 104, 105, 106, 107, 108, 109, 110, 111, 112, 113, 116, 117, 118, 119, 120, 121, 122, 123, 124, 125] I I := fun _ _ _ => rfl
  have FJ : gr_fj [0, 68, 69, 126, 127, 128, 143, 157, 158, 159, 160, 161, 166, 167, 168, 169, 170, 177, 179, 180, 181, 186, 188, 201] [57, 76, 77, 78, 79, 83, 85, 87, 88, 89, 90, 91, 92, 93, 94, 95, 96, 97, 98, 99, 100, 101, 103, 104, 105, 106, 107, 108, 109, 110, 111, 112, 113, 116, 117, 118, 119, 120, 121, 122, 123, 124, 125] J J := fun _ _ _ => rfl
  have hD : gv_D (gr_E ws0 tb 800 (yX13_swap, cX13_swap, 9, (some .int)) kX13_swap) := gq_of oX13_swap
  have f1 := (gr_b_0_188 hI)
  have f2 := (gr_b_0_186 hI)
  have f3 := (gr_b_0_201 hI)
  have f4 := (gr_b_0_177 hI)
  have f5 := (gr_b_0_68 hI)
  have f6 := (gr_b_0_1 hI)
  have f7 := (gr_b_0_2 hI)
  have KKR_I : gr_KR I I := gr_KR_rf
  intro n
  induction n with
  | zero => intro I19 J20 v4_21 hn; exact gz_m 3 (by omega)
  | succ n ih69 =>
    intro I19 J20 v4_21 hn hI19 FI19 FJ20 KGR_I19 KFV_I19 KPL_I19 KOX_I19 KKR_I19 m_21
    obtain ⟨ha3_21, hv4_21, e0_21, e1_21, e2_21⟩ := m_21
    have f22 := (gr_b_0_188 hI19)
    have f23 := (gr_b_0_186 hI19)
    have f24 := (gr_b_0_201 hI19)
    have f25 := (gr_b_0_177 hI19)
    have f26 := (gr_b_0_68 hI19)
    have f27 := (gr_b_0_1 hI19)
    have f28 := (gr_b_0_2 hI19)
    have L339 : ∀ (I29 : gr_I) (J30 : gr_J) , gr_Inv I29 → gr_fr [0, 68, 69, 126, 127, 128, 143, 157, 158, 159, 160, 161, 166, 167, 168, 169, 170, 177, 179, 180, 181, 186, 188, 201] [57, 76, 77, 78, 79, 83, 85, 87, 88, 89, 90, 91, 92, 93, 94, 95, 96, 97, 98, 99, 100, 101, 103, 104, 105, 106, 107, 108, 109, 110, 111, 112, 113, 116, 117, 118, 119, 120, 121, 122, 123, 124, 125] I I29 → gr_fj [0, 68, 69, 126, 127, 128, 143, 157, 158, 159, 160, 161, 166, 167, 168, 169, 170, 177, 179, 180, 181, 186, 188, 201] [57, 76, 77, 78, 79, 83, 85, 87, 88, 89, 90, 91, 92, 93, 94, 95, 96, 97, 98, 99, 100, 101, 103, 104, 105, 106, 107, 108, 109, 110, 111, 112, 113, 116, 117, 118, 119, 120, 121, 122, 123, 124, 125] J J30 → gr_GR I29 → gr_FV I29 → gr_PL I29 → gr_OX I29 → gr_KR I I29 → ((0 ≤ a3 ∧ a3 ≤ 7) ∧ (0 ≤ v4_21 ∧ v4_21 ≤ 15) ∧ (I29 0 201 ≤ v4_21 + 1) ∧ (I29 0 68 = 0) ∧ (((0 ≤ a1 ∧ a1 < I 0 1) ∧ (0 ≤ a2 ∧ a2 < I 0 2) ∧ (0 ≤ a3 ∧ a3 < I 0 1)))) → gv_X (gr_E ws0 tb 800 (yX13_swap, cX13_swap, 9, (some .int)) kX13_swap) (gv_Q cX13_swap (some .int) (gr_sh ++ ext) (fun r hₚ => (∃ (Iₚ : gr_I) (Jₚ : gr_J), hₚ = gr_h Iₚ Jₚ ∧ gr_Inv Iₚ ∧ gr_fr [0, 68, 69, 126, 127, 128, 143, 157, 158, 159, 160, 161, 166, 167, 168, 169, 170, 177, 179, 180, 181, 186, 188, 201] [57, 76, 77, 78, 79, 83, 85, 87, 88, 89, 90, 91, 92, 93, 94, 95, 96, 97, 98, 99, 100, 101, 103, 104, 105, 106, 107, 108, 109, 110, 111, 112, 113, 116, 117, 118, 119, 120, 121, 122, 123, 124, 125] I Iₚ ∧ gr_fj [0, 68, 69, 126, 127, 128, 143, 157, 158, 159, 160, 161, 166, 167, 168, 169, 170, 177, 179, 180, 181, 186, 188, 201] [57, 76, 77, 78, 79, 83, 85, 87, 88, 89, 90, 91, 92, 93, 94, 95, 96, 97, 98, 99, 100, 101, 103, 104, 105, 106, 107, 108, 109, 110, 111, 112, 113, 116, 117, 118, 119, 120, 121, 122, 123, 124, 125] J Jₚ ∧ gr_GR Iₚ ∧ gr_FV Iₚ ∧ gr_PL Iₚ ∧ gr_OX Iₚ ∧ (∃ z : Int, r = some (.inl z) ∧ (-3) ≤ z ∧ z ≤ 16 ∧ (((0 ≤ a1 ∧ a1 < I 0 1) ∧ (0 ≤ a2 ∧ a2 < I 0 2) ∧ (0 ≤ a3 ∧ a3 < I 0 1)) → Iₚ 0 68 = 0) ∧ (¬ ((0 ≤ a1 ∧ a1 < I 0 1) ∧ (0 ≤ a2 ∧ a2 < I 0 2) ∧ (0 ≤ a3 ∧ a3 < I 0 1)) → Iₚ 0 68 = I 0 68) ∧ (gr_KR I Iₚ))))) (339, [(0, .inr (.inr (some 0))), (3, .inl a3), (4, .inl v4_21)], [], gr_sh ++ ext, gr_h I29 J30) := by
      intro I29 J30 hI29 FI29 FJ30 KGR_I29 KFV_I29 KPL_I29 KOX_I29 KKR_I29 m_31
      clear ha3_21 hv4_21 e0_21 e1_21 e2_21 f22 f23 f24 f25 f26 f27 f28
      obtain ⟨ha3_31, hv4_21_31, e0_31, e1_31, e2_31⟩ := m_31
      have f32 := (gr_b_0_188 hI29)
      have f33 := (gr_b_0_186 hI29)
      have f34 := (gr_b_0_201 hI29)
      have f35 := (gr_b_0_177 hI29)
      have f36 := (gr_b_0_68 hI29)
      have f37 := (gr_b_0_1 hI29)
      have f38 := (gr_b_0_2 hI29)
      refine gv_run 2 true hD (pcₚ := 69) (lvₚ := [(4, .inl (v4_21 + 1)), (0, .inr (.inr (some 0))), (3, .inl a3)]) (stₚ := []) (hₚ := gr_h I29 J30) (C := ((True ∧ True) ∧ True)) rfl ⟨⟨trivial, trivial⟩, trivial⟩ ?_
      refine gv_pick [1, 2, 0] rfl ?_
      exact ih69 I29 J30 (v4_21 + 1) (by exact gz_m 4 (by omega)) hI29 FI29 FJ30 KGR_I29 KFV_I29 KPL_I29 KOX_I29 KKR_I29 (by exact gz_m 5 (by omega))
    have L146 : ∀ (n : Nat) (I39 : gr_I) (J40 : gr_J) (v5_41 : Int) (v6_41 : Int) (v7_41 : Int), (17 - v7_41).toNat < n → gr_Inv I39 → gr_fr [0, 68, 69, 126, 127, 128, 143, 157, 158, 159, 160, 161, 166, 167, 168, 169, 170, 177, 179, 180, 181, 186, 188, 201] [57, 76, 77, 78, 79, 83, 85, 87, 88, 89, 90, 91, 92, 93, 94, 95, 96, 97, 98, 99, 100, 101, 103, 104, 105, 106, 107, 108, 109, 110, 111, 112, 113, 116, 117, 118, 119, 120, 121, 122, 123, 124, 125] I I39 → gr_fj [0, 68, 69, 126, 127, 128, 143, 157, 158, 159, 160, 161, 166, 167, 168, 169, 170, 177, 179, 180, 181, 186, 188, 201] [57, 76, 77, 78, 79, 83, 85, 87, 88, 89, 90, 91, 92, 93, 94, 95, 96, 97, 98, 99, 100, 101, 103, 104, 105, 106, 107, 108, 109, 110, 111, 112, 113, 116, 117, 118, 119, 120, 121, 122, 123, 124, 125] J J40 → gr_GR I39 → gr_FV I39 → gr_PL I39 → gr_OX I39 → gr_KR I I39 → ((0 ≤ a3 ∧ a3 ≤ 7) ∧ (0 ≤ v4_21 ∧ v4_21 ≤ 15) ∧ (0 ≤ v5_41 ∧ v5_41 ≤ 1439) ∧ (0 ≤ v6_41 ∧ v6_41 ≤ 1) ∧ (0 ≤ v7_41 ∧ v7_41 ≤ 16) ∧ (I39 0 201 ≤ v4_21) ∧ (v4_21 < I39 0 186) ∧ (I39 0 68 = 0) ∧ (((0 ≤ a1 ∧ a1 < I 0 1) ∧ (0 ≤ a2 ∧ a2 < I 0 2) ∧ (0 ≤ a3 ∧ a3 < I 0 1)))) → gv_X (gr_E ws0 tb 800 (yX13_swap, cX13_swap, 9, (some .int)) kX13_swap) (gv_Q cX13_swap (some .int) (gr_sh ++ ext) (fun r hₚ => (∃ (Iₚ : gr_I) (Jₚ : gr_J), hₚ = gr_h Iₚ Jₚ ∧ gr_Inv Iₚ ∧ gr_fr [0, 68, 69, 126, 127, 128, 143, 157, 158, 159, 160, 161, 166, 167, 168, 169, 170, 177, 179, 180, 181, 186, 188, 201] [57, 76, 77, 78, 79, 83, 85, 87, 88, 89, 90, 91, 92, 93, 94, 95, 96, 97, 98, 99, 100, 101, 103, 104, 105, 106, 107, 108, 109, 110, 111, 112, 113, 116, 117, 118, 119, 120, 121, 122, 123, 124, 125] I Iₚ ∧ gr_fj [0, 68, 69, 126, 127, 128, 143, 157, 158, 159, 160, 161, 166, 167, 168, 169, 170, 177, 179, 180, 181, 186, 188, 201] [57, 76, 77, 78, 79, 83, 85, 87, 88, 89, 90, 91, 92, 93, 94, 95, 96, 97, 98, 99, 100, 101, 103, 104, 105, 106, 107, 108, 109, 110, 111, 112, 113, 116, 117, 118, 119, 120, 121, 122, 123, 124, 125] J Jₚ ∧ gr_GR Iₚ ∧ gr_FV Iₚ ∧ gr_PL Iₚ ∧ gr_OX Iₚ ∧ (∃ z : Int, r = some (.inl z) ∧ (-3) ≤ z ∧ z ≤ 16 ∧ (((0 ≤ a1 ∧ a1 < I 0 1) ∧ (0 ≤ a2 ∧ a2 < I 0 2) ∧ (0 ≤ a3 ∧ a3 < I 0 1)) → Iₚ 0 68 = 0) ∧ (¬ ((0 ≤ a1 ∧ a1 < I 0 1) ∧ (0 ≤ a2 ∧ a2 < I 0 2) ∧ (0 ≤ a3 ∧ a3 < I 0 1)) → Iₚ 0 68 = I 0 68) ∧ (gr_KR I Iₚ))))) (146, [(0, .inr (.inr (some 0))), (3, .inl a3), (4, .inl v4_21), (5, .inl v5_41), (6, .inl v6_41), (7, .inl v7_41)], [], gr_sh ++ ext, gr_h I39 J40) := by
      intro n
      induction n with
      | zero => intro I39 J40 v5_41 v6_41 v7_41 hn; exact gz_m 6 (by omega)
      | succ n ih146 =>
        intro I39 J40 v5_41 v6_41 v7_41 hn hI39 FI39 FJ40 KGR_I39 KFV_I39 KPL_I39 KOX_I39 KKR_I39 m_41
        clear ha3_21 hv4_21 e0_21 e1_21 e2_21 f22 f23 f24 f25 f26 f27 f28
        obtain ⟨ha3_41, hv4_21_41, hv5_41, hv6_41, hv7_41, e0_41, e1_41, e2_41, e3_41⟩ := m_41
        have f42 := (gr_b_0_188 hI39)
        have f43 := (gr_b_0_186 hI39)
        have f44 := (gr_b_0_201 hI39)
        have f45 := (gr_b_0_177 hI39)
        have f46 := (gr_b_0_68 hI39)
        have f47 := (gr_b_0_1 hI39)
        have f48 := (gr_b_0_2 hI39)
        have L182 : ∀ (s0_49 : Int), ((0 ≤ a3 ∧ a3 ≤ 7) ∧ (0 ≤ v4_21 ∧ v4_21 ≤ 15) ∧ (0 ≤ v5_41 ∧ v5_41 ≤ 1439) ∧ (0 ≤ v7_41 ∧ v7_41 ≤ 15) ∧ (0 ≤ s0_49 ∧ s0_49 ≤ 1) ∧ (I39 0 201 ≤ v4_21) ∧ (v4_21 < I39 0 186) ∧ (I39 0 68 = 0) ∧ (((0 ≤ a1 ∧ a1 < I 0 1) ∧ (0 ≤ a2 ∧ a2 < I 0 2) ∧ (0 ≤ a3 ∧ a3 < I 0 1)))) → gv_X (gr_E ws0 tb 800 (yX13_swap, cX13_swap, 9, (some .int)) kX13_swap) (gv_Q cX13_swap (some .int) (gr_sh ++ ext) (fun r hₚ => (∃ (Iₚ : gr_I) (Jₚ : gr_J), hₚ = gr_h Iₚ Jₚ ∧ gr_Inv Iₚ ∧ gr_fr [0, 68, 69, 126, 127, 128, 143, 157, 158, 159, 160, 161, 166, 167, 168, 169, 170, 177, 179, 180, 181, 186, 188, 201] [57, 76, 77, 78, 79, 83, 85, 87, 88, 89, 90, 91, 92, 93, 94, 95, 96, 97, 98, 99, 100, 101, 103, 104, 105, 106, 107, 108, 109, 110, 111, 112, 113, 116, 117, 118, 119, 120, 121, 122, 123, 124, 125] I Iₚ ∧ gr_fj [0, 68, 69, 126, 127, 128, 143, 157, 158, 159, 160, 161, 166, 167, 168, 169, 170, 177, 179, 180, 181, 186, 188, 201] [57, 76, 77, 78, 79, 83, 85, 87, 88, 89, 90, 91, 92, 93, 94, 95, 96, 97, 98, 99, 100, 101, 103, 104, 105, 106, 107, 108, 109, 110, 111, 112, 113, 116, 117, 118, 119, 120, 121, 122, 123, 124, 125] J Jₚ ∧ gr_GR Iₚ ∧ gr_FV Iₚ ∧ gr_PL Iₚ ∧ gr_OX Iₚ ∧ (∃ z : Int, r = some (.inl z) ∧ (-3) ≤ z ∧ z ≤ 16 ∧ (((0 ≤ a1 ∧ a1 < I 0 1) ∧ (0 ≤ a2 ∧ a2 < I 0 2) ∧ (0 ≤ a3 ∧ a3 < I 0 1)) → Iₚ 0 68 = 0) ∧ (¬ ((0 ≤ a1 ∧ a1 < I 0 1) ∧ (0 ≤ a2 ∧ a2 < I 0 2) ∧ (0 ≤ a3 ∧ a3 < I 0 1)) → Iₚ 0 68 = I 0 68) ∧ (gr_KR I Iₚ))))) (182, [(0, .inr (.inr (some 0))), (3, .inl a3), (4, .inl v4_21), (5, .inl v5_41), (7, .inl v7_41)], [.inl s0_49], gr_sh ++ ext, gr_h I39 J40) := by
          intro s0_49 m_49
          obtain ⟨ha3_49, hv4_21_49, hv5_41_49, hv7_41_49, hs0_49, e0_49, e1_49, e2_49, e3_49⟩ := m_49
          have f50 := (gr_b_0_188 hI39)
          have f51 := (gr_b_0_186 hI39)
          have f52 := (gr_b_0_201 hI39)
          have f53 := (gr_b_0_177 hI39)
          have f54 := (gr_b_0_68 hI39)
          have f55 := (gr_b_0_1 hI39)
          have f56 := (gr_b_0_2 hI39)
          have L187 : ∀ (n : Nat) (v6_57 : Int) (v8_57 : Int), (201 - v8_57).toNat < n → ((0 ≤ a3 ∧ a3 ≤ 7) ∧ (0 ≤ v4_21 ∧ v4_21 ≤ 15) ∧ (0 ≤ v5_41 ∧ v5_41 ≤ 1439) ∧ (0 ≤ v6_57 ∧ v6_57 ≤ 1) ∧ (0 ≤ v7_41 ∧ v7_41 ≤ 15) ∧ (0 ≤ v8_57 ∧ v8_57 ≤ 200) ∧ (I39 0 201 ≤ v4_21) ∧ (v4_21 < I39 0 186) ∧ (I39 0 68 = 0) ∧ (((0 ≤ a1 ∧ a1 < I 0 1) ∧ (0 ≤ a2 ∧ a2 < I 0 2) ∧ (0 ≤ a3 ∧ a3 < I 0 1)))) → gv_X (gr_E ws0 tb 800 (yX13_swap, cX13_swap, 9, (some .int)) kX13_swap) (gv_Q cX13_swap (some .int) (gr_sh ++ ext) (fun r hₚ => (∃ (Iₚ : gr_I) (Jₚ : gr_J), hₚ = gr_h Iₚ Jₚ ∧ gr_Inv Iₚ ∧ gr_fr [0, 68, 69, 126, 127, 128, 143, 157, 158, 159, 160, 161, 166, 167, 168, 169, 170, 177, 179, 180, 181, 186, 188, 201] [57, 76, 77, 78, 79, 83, 85, 87, 88, 89, 90, 91, 92, 93, 94, 95, 96, 97, 98, 99, 100, 101, 103, 104, 105, 106, 107, 108, 109, 110, 111, 112, 113, 116, 117, 118, 119, 120, 121, 122, 123, 124, 125] I Iₚ ∧ gr_fj [0, 68, 69, 126, 127, 128, 143, 157, 158, 159, 160, 161, 166, 167, 168, 169, 170, 177, 179, 180, 181, 186, 188, 201] [57, 76, 77, 78, 79, 83, 85, 87, 88, 89, 90, 91, 92, 93, 94, 95, 96, 97, 98, 99, 100, 101, 103, 104, 105, 106, 107, 108, 109, 110, 111, 112, 113, 116, 117, 118, 119, 120, 121, 122, 123, 124, 125] J Jₚ ∧ gr_GR Iₚ ∧ gr_FV Iₚ ∧ gr_PL Iₚ ∧ gr_OX Iₚ ∧ (∃ z : Int, r = some (.inl z) ∧ (-3) ≤ z ∧ z ≤ 16 ∧ (((0 ≤ a1 ∧ a1 < I 0 1) ∧ (0 ≤ a2 ∧ a2 < I 0 2) ∧ (0 ≤ a3 ∧ a3 < I 0 1)) → Iₚ 0 68 = 0) ∧ (¬ ((0 ≤ a1 ∧ a1 < I 0 1) ∧ (0 ≤ a2 ∧ a2 < I 0 2) ∧ (0 ≤ a3 ∧ a3 < I 0 1)) → Iₚ 0 68 = I 0 68) ∧ (gr_KR I Iₚ))))) (187, [(0, .inr (.inr (some 0))), (3, .inl a3), (4, .inl v4_21), (5, .inl v5_41), (6, .inl v6_57), (7, .inl v7_41), (8, .inl v8_57)], [], gr_sh ++ ext, gr_h I39 J40) := by
            intro n
            induction n with
            | zero => intro v6_57 v8_57 hn; exact gz_m 7 (by omega)
            | succ n ih187 =>
              intro v6_57 v8_57 hn m_57
              obtain ⟨ha3_57, hv4_21_57, hv5_41_57, hv6_57, hv7_41_57, hv8_57, e0_57, e1_57, e2_57, e3_57⟩ := m_57
              have f58 := (gr_b_0_188 hI39)
              have f59 := (gr_b_0_186 hI39)
              have f60 := (gr_b_0_201 hI39)
              have f61 := (gr_b_0_177 hI39)
              have f62 := (gr_b_0_68 hI39)
              have f63 := (gr_b_0_1 hI39)
              have f64 := (gr_b_0_2 hI39)
              have L240 : ∀ (s0_65 : Int), ((0 ≤ a3 ∧ a3 ≤ 7) ∧ (0 ≤ v4_21 ∧ v4_21 ≤ 15) ∧ (0 ≤ v5_41 ∧ v5_41 ≤ 1439) ∧ (0 ≤ v7_41 ∧ v7_41 ≤ 15) ∧ (0 ≤ v8_57 ∧ v8_57 ≤ 199) ∧ (0 ≤ s0_65 ∧ s0_65 ≤ 1) ∧ (I39 0 201 ≤ v4_21) ∧ (v4_21 < I39 0 186) ∧ (I39 0 68 = 0) ∧ (((0 ≤ a1 ∧ a1 < I 0 1) ∧ (0 ≤ a2 ∧ a2 < I 0 2) ∧ (0 ≤ a3 ∧ a3 < I 0 1)))) → gv_X (gr_E ws0 tb 800 (yX13_swap, cX13_swap, 9, (some .int)) kX13_swap) (gv_Q cX13_swap (some .int) (gr_sh ++ ext) (fun r hₚ => (∃ (Iₚ : gr_I) (Jₚ : gr_J), hₚ = gr_h Iₚ Jₚ ∧ gr_Inv Iₚ ∧ gr_fr [0, 68, 69, 126, 127, 128, 143, 157, 158, 159, 160, 161, 166, 167, 168, 169, 170, 177, 179, 180, 181, 186, 188, 201] [57, 76, 77, 78, 79, 83, 85, 87, 88, 89, 90, 91, 92, 93, 94, 95, 96, 97, 98, 99, 100, 101, 103, 104, 105, 106, 107, 108, 109, 110, 111, 112, 113, 116, 117, 118, 119, 120, 121, 122, 123, 124, 125] I Iₚ ∧ gr_fj [0, 68, 69, 126, 127, 128, 143, 157, 158, 159, 160, 161, 166, 167, 168, 169, 170, 177, 179, 180, 181, 186, 188, 201] [57, 76, 77, 78, 79, 83, 85, 87, 88, 89, 90, 91, 92, 93, 94, 95, 96, 97, 98, 99, 100, 101, 103, 104, 105, 106, 107, 108, 109, 110, 111, 112, 113, 116, 117, 118, 119, 120, 121, 122, 123, 124, 125] J Jₚ ∧ gr_GR Iₚ ∧ gr_FV Iₚ ∧ gr_PL Iₚ ∧ gr_OX Iₚ ∧ (∃ z : Int, r = some (.inl z) ∧ (-3) ≤ z ∧ z ≤ 16 ∧ (((0 ≤ a1 ∧ a1 < I 0 1) ∧ (0 ≤ a2 ∧ a2 < I 0 2) ∧ (0 ≤ a3 ∧ a3 < I 0 1)) → Iₚ 0 68 = 0) ∧ (¬ ((0 ≤ a1 ∧ a1 < I 0 1) ∧ (0 ≤ a2 ∧ a2 < I 0 2) ∧ (0 ≤ a3 ∧ a3 < I 0 1)) → Iₚ 0 68 = I 0 68) ∧ (gr_KR I Iₚ))))) (240, [(0, .inr (.inr (some 0))), (3, .inl a3), (4, .inl v4_21), (5, .inl v5_41), (7, .inl v7_41), (8, .inl v8_57)], [.inl s0_65], gr_sh ++ ext, gr_h I39 J40) := by
                intro s0_65 m_65
                obtain ⟨ha3_65, hv4_21_65, hv5_41_65, hv7_41_65, hv8_57_65, hs0_65, e0_65, e1_65, e2_65, e3_65⟩ := m_65
                have f66 := (gr_b_0_188 hI39)
                have f67 := (gr_b_0_186 hI39)
                have f68 := (gr_b_0_201 hI39)
                have f69 := (gr_b_0_177 hI39)
                have f70 := (gr_b_0_68 hI39)
                have f71 := (gr_b_0_1 hI39)
                have f72 := (gr_b_0_2 hI39)
                refine gv_run 3 true hD (pcₚ := 187) (lvₚ := [(8, .inl (v8_57 + 1)), (6, .inl s0_65), (0, .inr (.inr (some 0))), (3, .inl a3), (4, .inl v4_21), (5, .inl v5_41), (7, .inl v7_41)]) (stₚ := []) (hₚ := gr_h I39 J40) (C := (((True ∧ True) ∧ True) ∧ True)) rfl ⟨⟨⟨trivial, trivial⟩, trivial⟩, trivial⟩ ?_
                refine gv_pick [2, 3, 4, 5, 1, 6, 0] rfl ?_
                exact ih187 s0_65 (v8_57 + 1) (by exact gz_m 8 (by omega)) (by exact gz_m 9 (by omega))
              have L248 : ((0 ≤ a3 ∧ a3 ≤ 7) ∧ (0 ≤ v4_21 ∧ v4_21 ≤ 15) ∧ (0 ≤ v5_41 ∧ v5_41 ≤ 1439) ∧ (0 ≤ v6_57 ∧ v6_57 ≤ 1) ∧ (0 ≤ v7_41 ∧ v7_41 ≤ 15) ∧ (I39 0 201 ≤ v4_21) ∧ (v4_21 < I39 0 186) ∧ (I39 0 68 = 0) ∧ (((0 ≤ a1 ∧ a1 < I 0 1) ∧ (0 ≤ a2 ∧ a2 < I 0 2) ∧ (0 ≤ a3 ∧ a3 < I 0 1)))) → gv_X (gr_E ws0 tb 800 (yX13_swap, cX13_swap, 9, (some .int)) kX13_swap) (gv_Q cX13_swap (some .int) (gr_sh ++ ext) (fun r hₚ => (∃ (Iₚ : gr_I) (Jₚ : gr_J), hₚ = gr_h Iₚ Jₚ ∧ gr_Inv Iₚ ∧ gr_fr [0, 68, 69, 126, 127, 128, 143, 157, 158, 159, 160, 161, 166, 167, 168, 169, 170, 177, 179, 180, 181, 186, 188, 201] [57, 76, 77, 78, 79, 83, 85, 87, 88, 89, 90, 91, 92, 93, 94, 95, 96, 97, 98, 99, 100, 101, 103, 104, 105, 106, 107, 108, 109, 110, 111, 112, 113, 116, 117, 118, 119, 120, 121, 122, 123, 124, 125] I Iₚ ∧ gr_fj [0, 68, 69, 126, 127, 128, 143, 157, 158, 159, 160, 161, 166, 167, 168, 169, 170, 177, 179, 180, 181, 186, 188, 201] [57, 76, 77, 78, 79, 83, 85, 87, 88, 89, 90, 91, 92, 93, 94, 95, 96, 97, 98, 99, 100, 101, 103, 104, 105, 106, 107, 108, 109, 110, 111, 112, 113, 116, 117, 118, 119, 120, 121, 122, 123, 124, 125] J Jₚ ∧ gr_GR Iₚ ∧ gr_FV Iₚ ∧ gr_PL Iₚ ∧ gr_OX Iₚ ∧ (∃ z : Int, r = some (.inl z) ∧ (-3) ≤ z ∧ z ≤ 16 ∧ (((0 ≤ a1 ∧ a1 < I 0 1) ∧ (0 ≤ a2 ∧ a2 < I 0 2) ∧ (0 ≤ a3 ∧ a3 < I 0 1)) → Iₚ 0 68 = 0) ∧ (¬ ((0 ≤ a1 ∧ a1 < I 0 1) ∧ (0 ≤ a2 ∧ a2 < I 0 2) ∧ (0 ≤ a3 ∧ a3 < I 0 1)) → Iₚ 0 68 = I 0 68) ∧ (gr_KR I Iₚ))))) (248, [(0, .inr (.inr (some 0))), (3, .inl a3), (4, .inl v4_21), (5, .inl v5_41), (6, .inl v6_57), (7, .inl v7_41)], [], gr_sh ++ ext, gr_h I39 J40) := by
                intro m_73
                obtain ⟨ha3_73, hv4_21_73, hv5_41_73, hv6_57_73, hv7_41_73, e0_73, e1_73, e2_73, e3_73⟩ := m_73
                have f74 := (gr_b_0_188 hI39)
                have f75 := (gr_b_0_186 hI39)
                have f76 := (gr_b_0_201 hI39)
                have f77 := (gr_b_0_177 hI39)
                have f78 := (gr_b_0_68 hI39)
                have f79 := (gr_b_0_1 hI39)
                have f80 := (gr_b_0_2 hI39)
                refine gv_run 2 true hD (pcₚ := 146) (lvₚ := [(7, .inl (v7_41 + 1)), (0, .inr (.inr (some 0))), (3, .inl a3), (4, .inl v4_21), (5, .inl v5_41), (6, .inl v6_57)]) (stₚ := []) (hₚ := gr_h I39 J40) (C := ((True ∧ True) ∧ True)) rfl ⟨⟨trivial, trivial⟩, trivial⟩ ?_
                refine gv_pick [1, 2, 3, 4, 5, 0] rfl ?_
                exact ih146 I39 J40 v5_41 v6_57 (v7_41 + 1) (by exact gz_m 10 (by omega)) hI39 FI39 FJ40 KGR_I39 KFV_I39 KPL_I39 KOX_I39 KKR_I39 (by exact gz_m 11 (by omega))
              have f81 := (gr_b_117 hI39 (Int.toNat v5_41))
              refine gv_run 5 true hD (pcₚ := 196) (lvₚ := [(0, .inr (.inr (some 0))), (3, .inl a3), (4, .inl v4_21), (5, .inl v5_41), (6, .inl v6_57), (7, .inl v7_41), (8, .inl v8_57)]) (stₚ := [.inl (I39 117 (Int.toNat v5_41)), .inl v8_57]) (hₚ := gr_h I39 J40) (C := (((((True ∧ True) ∧ True) ∧ True) ∧ True) ∧ (0 ≤ v5_41 ∧ v5_41 < ((1440 : Nat) : Int)))) rfl ⟨⟨⟨⟨⟨trivial, trivial⟩, trivial⟩, trivial⟩, trivial⟩, ⟨by exact gz_m 12 (by omega), by exact gz_m 13 (by omega)⟩⟩ ?_
              refine gv_icmp_ge (t := 248) hD rfl rfl ⟨⟨by exact gz_m 14 (by omega), by exact gz_m 15 (by omega)⟩, ⟨by exact gz_m 16 (by omega), by exact gz_m 17 (by omega)⟩⟩ (fun c82 => ?_) (fun c82 => ?_)
              · refine gv_pick [0, 1, 2, 3, 4, 5] rfl ?_
                exact L248 (by exact gz_m 18 (by omega))
              · refine gv_run 1 true hD (pcₚ := 201) (lvₚ := [(0, .inr (.inr (some 0))), (3, .inl a3), (4, .inl v4_21), (5, .inl v5_41), (6, .inl v6_57), (7, .inl v7_41), (8, .inl v8_57)]) (stₚ := [.inl v6_57]) (hₚ := gr_h I39 J40) (C := (True ∧ True)) rfl ⟨trivial, trivial⟩ ?_
                refine gv_if_eq (t := 248) hD rfl rfl ⟨by exact gz_m 19 (by omega), by exact gz_m 20 (by omega)⟩ (fun c83 => ?_) (fun c83 => ?_)
                · refine gv_pick [0, 1, 2, 3, 4, 5] rfl ?_
                  exact L248 (by exact gz_m 21 (by omega))
                · refine gv_run 7 true hD (pcₚ := 217) (lvₚ := [(0, .inr (.inr (some 0))), (3, .inl a3), (4, .inl v4_21), (5, .inl v5_41), (6, .inl v6_57), (7, .inl v7_41), (8, .inl v8_57)]) (stₚ := [.inl ((200 * v7_41) + v8_57), .inr (.inr (some 124))]) (hₚ := gr_h I39 J40) (C := (((((((True ∧ True) ∧ True) ∧ True) ∧ True) ∧ True) ∧ True) ∧ True)) rfl ⟨⟨⟨⟨⟨⟨⟨trivial, trivial⟩, trivial⟩, trivial⟩, trivial⟩, trivial⟩, trivial⟩, trivial⟩ ?_
                  have f84 := (gr_b_124 hI39 (Int.toNat (((200 * v7_41) + v8_57))))
                  refine gv_run 1 true hD (pcₚ := 218) (lvₚ := [(0, .inr (.inr (some 0))), (3, .inl a3), (4, .inl v4_21), (5, .inl v5_41), (6, .inl v6_57), (7, .inl v7_41), (8, .inl v8_57)]) (stₚ := [.inl (I39 124 (Int.toNat (((200 * v7_41) + v8_57))))]) (hₚ := gr_h I39 J40) (C := (True ∧ (0 ≤ (((200 * v7_41) + v8_57)) ∧ (((200 * v7_41) + v8_57)) < ((3200 : Nat) : Int)))) rfl ⟨trivial, ⟨by exact gz_m 22 (by omega), by exact gz_m 23 (by omega)⟩⟩ ?_
                  refine gv_run 7 true hD (pcₚ := 231) (lvₚ := [(0, .inr (.inr (some 0))), (3, .inl a3), (4, .inl v4_21), (5, .inl v5_41), (6, .inl v6_57), (7, .inl v7_41), (8, .inl v8_57)]) (stₚ := [.inl ((200 * v5_41) + v8_57), .inr (.inr (some 116)), .inl (I39 124 (Int.toNat (((200 * v7_41) + v8_57))))]) (hₚ := gr_h I39 J40) (C := (((((((True ∧ True) ∧ True) ∧ True) ∧ True) ∧ True) ∧ True) ∧ True)) rfl ⟨⟨⟨⟨⟨⟨⟨trivial, trivial⟩, trivial⟩, trivial⟩, trivial⟩, trivial⟩, trivial⟩, trivial⟩ ?_
                  have f85 := (gr_b_116 hI39 (Int.toNat (((200 * v5_41) + v8_57))))
                  refine gv_run 1 true hD (pcₚ := 232) (lvₚ := [(0, .inr (.inr (some 0))), (3, .inl a3), (4, .inl v4_21), (5, .inl v5_41), (6, .inl v6_57), (7, .inl v7_41), (8, .inl v8_57)]) (stₚ := [.inl (I39 116 (Int.toNat (((200 * v5_41) + v8_57)))), .inl (I39 124 (Int.toNat (((200 * v7_41) + v8_57))))]) (hₚ := gr_h I39 J40) (C := (True ∧ (0 ≤ (((200 * v5_41) + v8_57)) ∧ (((200 * v5_41) + v8_57)) < ((288000 : Nat) : Int)))) rfl ⟨trivial, ⟨by exact gz_m 24 (by omega), by exact gz_m 25 (by omega)⟩⟩ ?_
                  refine gv_icmp_ne (t := 239) hD rfl rfl ⟨⟨by exact gz_m 26 (by omega), by exact gz_m 27 (by omega)⟩, ⟨by exact gz_m 28 (by omega), by exact gz_m 29 (by omega)⟩⟩ (fun c86 => ?_) (fun c86 => ?_)
                  · refine gv_run 1 true hD (pcₚ := 240) (lvₚ := [(0, .inr (.inr (some 0))), (3, .inl a3), (4, .inl v4_21), (5, .inl v5_41), (6, .inl v6_57), (7, .inl v7_41), (8, .inl v8_57)]) (stₚ := [.inl 0]) (hₚ := gr_h I39 J40) (C := (True ∧ True)) rfl ⟨trivial, trivial⟩ ?_
                    refine gv_pick [0, 1, 2, 3, 5, 6] rfl ?_
                    exact L240 0 (by exact gz_m 30 (by omega))
                  · refine gv_run 2 true hD (pcₚ := 240) (lvₚ := [(0, .inr (.inr (some 0))), (3, .inl a3), (4, .inl v4_21), (5, .inl v5_41), (6, .inl v6_57), (7, .inl v7_41), (8, .inl v8_57)]) (stₚ := [.inl 1]) (hₚ := gr_h I39 J40) (C := ((True ∧ True) ∧ True)) rfl ⟨⟨trivial, trivial⟩, trivial⟩ ?_
                    refine gv_pick [0, 1, 2, 3, 5, 6] rfl ?_
                    exact L240 1 (by exact gz_m 31 (by omega))
          refine gv_run 3 true hD (pcₚ := 187) (lvₚ := [(8, .inl 0), (6, .inl s0_49), (0, .inr (.inr (some 0))), (3, .inl a3), (4, .inl v4_21), (5, .inl v5_41), (7, .inl v7_41)]) (stₚ := []) (hₚ := gr_h I39 J40) (C := (((True ∧ True) ∧ True) ∧ True)) rfl ⟨⟨⟨trivial, trivial⟩, trivial⟩, trivial⟩ ?_
          refine gv_pick [2, 3, 4, 5, 1, 6, 0] rfl ?_
          exact L187 _ s0_49 0 (Nat.lt_succ_self _) (by exact gz_m 32 (by omega))
        have L254 : ((0 ≤ a3 ∧ a3 ≤ 7) ∧ (0 ≤ v4_21 ∧ v4_21 ≤ 15) ∧ (0 ≤ v5_41 ∧ v5_41 ≤ 1439) ∧ (0 ≤ v6_41 ∧ v6_41 ≤ 1) ∧ (I39 0 201 ≤ v4_21) ∧ (v4_21 < I39 0 186) ∧ (I39 0 68 = 0) ∧ (((0 ≤ a1 ∧ a1 < I 0 1) ∧ (0 ≤ a2 ∧ a2 < I 0 2) ∧ (0 ≤ a3 ∧ a3 < I 0 1)))) → gv_X (gr_E ws0 tb 800 (yX13_swap, cX13_swap, 9, (some .int)) kX13_swap) (gv_Q cX13_swap (some .int) (gr_sh ++ ext) (fun r hₚ => (∃ (Iₚ : gr_I) (Jₚ : gr_J), hₚ = gr_h Iₚ Jₚ ∧ gr_Inv Iₚ ∧ gr_fr [0, 68, 69, 126, 127, 128, 143, 157, 158, 159, 160, 161, 166, 167, 168, 169, 170, 177, 179, 180, 181, 186, 188, 201] [57, 76, 77, 78, 79, 83, 85, 87, 88, 89, 90, 91, 92, 93, 94, 95, 96, 97, 98, 99, 100, 101, 103, 104, 105, 106, 107, 108, 109, 110, 111, 112, 113, 116, 117, 118, 119, 120, 121, 122, 123, 124, 125] I Iₚ ∧ gr_fj [0, 68, 69, 126, 127, 128, 143, 157, 158, 159, 160, 161, 166, 167, 168, 169, 170, 177, 179, 180, 181, 186, 188, 201] [57, 76, 77, 78, 79, 83, 85, 87, 88, 89, 90, 91, 92, 93, 94, 95, 96, 97, 98, 99, 100, 101, 103, 104, 105, 106, 107, 108, 109, 110, 111, 112, 113, 116, 117, 118, 119, 120, 121, 122, 123, 124, 125] J Jₚ ∧ gr_GR Iₚ ∧ gr_FV Iₚ ∧ gr_PL Iₚ ∧ gr_OX Iₚ ∧ (∃ z : Int, r = some (.inl z) ∧ (-3) ≤ z ∧ z ≤ 16 ∧ (((0 ≤ a1 ∧ a1 < I 0 1) ∧ (0 ≤ a2 ∧ a2 < I 0 2) ∧ (0 ≤ a3 ∧ a3 < I 0 1)) → Iₚ 0 68 = 0) ∧ (¬ ((0 ≤ a1 ∧ a1 < I 0 1) ∧ (0 ≤ a2 ∧ a2 < I 0 2) ∧ (0 ≤ a3 ∧ a3 < I 0 1)) → Iₚ 0 68 = I 0 68) ∧ (gr_KR I Iₚ))))) (254, [(0, .inr (.inr (some 0))), (3, .inl a3), (4, .inl v4_21), (5, .inl v5_41), (6, .inl v6_41)], [], gr_sh ++ ext, gr_h I39 J40) := by
          intro m_87
          obtain ⟨ha3_87, hv4_21_87, hv5_41_87, hv6_41_87, e0_87, e1_87, e2_87, e3_87⟩ := m_87
          have f88 := (gr_b_0_188 hI39)
          have f89 := (gr_b_0_186 hI39)
          have f90 := (gr_b_0_201 hI39)
          have f91 := (gr_b_0_177 hI39)
          have f92 := (gr_b_0_68 hI39)
          have f93 := (gr_b_0_1 hI39)
          have f94 := (gr_b_0_2 hI39)
          have L281 : ∀ (n : Nat) (I95 : gr_I) (J96 : gr_J) (v7_97 : Int), (201 - v7_97).toNat < n → gr_Inv I95 → gr_fr [0, 68, 69, 126, 127, 128, 143, 157, 158, 159, 160, 161, 166, 167, 168, 169, 170, 177, 179, 180, 181, 186, 188, 201] [57, 76, 77, 78, 79, 83, 85, 87, 88, 89, 90, 91, 92, 93, 94, 95, 96, 97, 98, 99, 100, 101, 103, 104, 105, 106, 107, 108, 109, 110, 111, 112, 113, 116, 117, 118, 119, 120, 121, 122, 123, 124, 125] I I95 → gr_fj [0, 68, 69, 126, 127, 128, 143, 157, 158, 159, 160, 161, 166, 167, 168, 169, 170, 177, 179, 180, 181, 186, 188, 201] [57, 76, 77, 78, 79, 83, 85, 87, 88, 89, 90, 91, 92, 93, 94, 95, 96, 97, 98, 99, 100, 101, 103, 104, 105, 106, 107, 108, 109, 110, 111, 112, 113, 116, 117, 118, 119, 120, 121, 122, 123, 124, 125] J J96 → gr_GR I95 → gr_FV I95 → gr_PL I95 → gr_OX I95 → gr_KR I I95 → ((0 ≤ a3 ∧ a3 ≤ 7) ∧ (0 ≤ v4_21 ∧ v4_21 ≤ 15) ∧ (0 ≤ v5_41 ∧ v5_41 ≤ 1439) ∧ (0 ≤ v7_97 ∧ v7_97 ≤ 200) ∧ (I95 0 201 ≤ v4_21) ∧ (v4_21 < I95 0 186) ∧ (I95 0 68 = 0) ∧ (((0 ≤ a1 ∧ a1 < I 0 1) ∧ (0 ≤ a2 ∧ a2 < I 0 2) ∧ (0 ≤ a3 ∧ a3 < I 0 1)))) → gv_X (gr_E ws0 tb 800 (yX13_swap, cX13_swap, 9, (some .int)) kX13_swap) (gv_Q cX13_swap (some .int) (gr_sh ++ ext) (fun r hₚ => (∃ (Iₚ : gr_I) (Jₚ : gr_J), hₚ = gr_h Iₚ Jₚ ∧ gr_Inv Iₚ ∧ gr_fr [0, 68, 69, 126, 127, 128, 143, 157, 158, 159, 160, 161, 166, 167, 168, 169, 170, 177, 179, 180, 181, 186, 188, 201] [57, 76, 77, 78, 79, 83, 85, 87, 88, 89, 90, 91, 92, 93, 94, 95, 96, 97, 98, 99, 100, 101, 103, 104, 105, 106, 107, 108, 109, 110, 111, 112, 113, 116, 117, 118, 119, 120, 121, 122, 123, 124, 125] I Iₚ ∧ gr_fj [0, 68, 69, 126, 127, 128, 143, 157, 158, 159, 160, 161, 166, 167, 168, 169, 170, 177, 179, 180, 181, 186, 188, 201] [57, 76, 77, 78, 79, 83, 85, 87, 88, 89, 90, 91, 92, 93, 94, 95, 96, 97, 98, 99, 100, 101, 103, 104, 105, 106, 107, 108, 109, 110, 111, 112, 113, 116, 117, 118, 119, 120, 121, 122, 123, 124, 125] J Jₚ ∧ gr_GR Iₚ ∧ gr_FV Iₚ ∧ gr_PL Iₚ ∧ gr_OX Iₚ ∧ (∃ z : Int, r = some (.inl z) ∧ (-3) ≤ z ∧ z ≤ 16 ∧ (((0 ≤ a1 ∧ a1 < I 0 1) ∧ (0 ≤ a2 ∧ a2 < I 0 2) ∧ (0 ≤ a3 ∧ a3 < I 0 1)) → Iₚ 0 68 = 0) ∧ (¬ ((0 ≤ a1 ∧ a1 < I 0 1) ∧ (0 ≤ a2 ∧ a2 < I 0 2) ∧ (0 ≤ a3 ∧ a3 < I 0 1)) → Iₚ 0 68 = I 0 68) ∧ (gr_KR I Iₚ))))) (281, [(0, .inr (.inr (some 0))), (3, .inl a3), (4, .inl v4_21), (5, .inl v5_41), (7, .inl v7_97)], [], gr_sh ++ ext, gr_h I95 J96) := by
            intro n
            induction n with
            | zero => intro I95 J96 v7_97 hn; exact gz_m 33 (by omega)
            | succ n ih281 =>
              intro I95 J96 v7_97 hn hI95 FI95 FJ96 KGR_I95 KFV_I95 KPL_I95 KOX_I95 KKR_I95 m_97
              clear ha3_87 hv4_21_87 hv5_41_87 hv6_41_87 e0_87 e1_87 e2_87 e3_87 f88 f89 f90 f91 f92 f93 f94 ha3_41 hv4_21_41 hv5_41 hv6_41 hv7_41 e0_41 e1_41 e2_41 e3_41 f42 f43 f44 f45 f46 f47 f48
              obtain ⟨ha3_97, hv4_21_97, hv5_41_97, hv7_97, e0_97, e1_97, e2_97, e3_97⟩ := m_97
              have f98 := (gr_b_0_188 hI95)
              have f99 := (gr_b_0_186 hI95)
              have f100 := (gr_b_0_201 hI95)
              have f101 := (gr_b_0_177 hI95)
              have f102 := (gr_b_0_68 hI95)
              have f103 := (gr_b_0_1 hI95)
              have f104 := (gr_b_0_2 hI95)
              have f105 := (gr_b_117 hI95 (Int.toNat v5_41))
              refine gv_run 5 true hD (pcₚ := 290) (lvₚ := [(0, .inr (.inr (some 0))), (3, .inl a3), (4, .inl v4_21), (5, .inl v5_41), (7, .inl v7_97)]) (stₚ := [.inl (I95 117 (Int.toNat v5_41)), .inl v7_97]) (hₚ := gr_h I95 J96) (C := (((((True ∧ True) ∧ True) ∧ True) ∧ True) ∧ (0 ≤ v5_41 ∧ v5_41 < ((1440 : Nat) : Int)))) rfl ⟨⟨⟨⟨⟨trivial, trivial⟩, trivial⟩, trivial⟩, trivial⟩, ⟨by exact gz_m 34 (by omega), by exact gz_m 35 (by omega)⟩⟩ ?_
              refine gv_icmp_ge (t := 329) hD rfl rfl ⟨⟨by exact gz_m 36 (by omega), by exact gz_m 37 (by omega)⟩, ⟨by exact gz_m 38 (by omega), by exact gz_m 39 (by omega)⟩⟩ (fun c106 => ?_) (fun c106 => ?_)
              · have f107 := (gr_b_0_201 hI95)
                refine gv_run 5 true hD (pcₚ := 336) (lvₚ := [(0, .inr (.inr (some 0))), (3, .inl a3), (4, .inl v4_21), (5, .inl v5_41), (7, .inl v7_97)]) (stₚ := [.inl ((I95 0 201) + 1), .inr (.inr (some 0))]) (hₚ := gr_h I95 J96) (C := (((((True ∧ True) ∧ True) ∧ True) ∧ True) ∧ True)) rfl ⟨⟨⟨⟨⟨trivial, trivial⟩, trivial⟩, trivial⟩, trivial⟩, trivial⟩ ?_
                refine gv_run 1 true hD (pcₚ := 339) (lvₚ := [(0, .inr (.inr (some 0))), (3, .inl a3), (4, .inl v4_21), (5, .inl v5_41), (7, .inl v7_97)]) (stₚ := []) (hₚ := gz_up (gr_h I95 J96) 0 201 (.inl (((I95 0 201) + 1)))) (C := (True ∧ True)) rfl ⟨trivial, trivial⟩ ?_
                refine gr_st hI95 FI95 rfl rfl ⟨⟨by show 0 ≤ _; exact gz_m 40 (by omega), by show _ ≤ 16; exact gz_m 41 (by omega)⟩, trivial⟩ (fun I108 hI108 FI108 q109 p109 => ?_)
                have t110 := p109 0 188 (by decide)
                have t111 := p109 0 186 (by decide)
                have t112 := p109 0 177 (by decide)
                have t113 := p109 0 68 (by decide)
                have t114 := p109 0 1 (by decide)
                have t115 := p109 0 2 (by decide)
                have f116 := (gr_b_0_188 hI108)
                have f117 := (gr_b_0_186 hI108)
                have f118 := (gr_b_0_201 hI108)
                have f119 := (gr_b_0_177 hI108)
                have f120 := (gr_b_0_68 hI108)
                have f121 := (gr_b_0_1 hI108)
                have f122 := (gr_b_0_2 hI108)
                have KGR_I108 := gr_GR_fr KGR_I95 (fun k => p109 19 k (fun q => absurd q.1 (by first | exact gz_ne rfl | decide))) (fun k => p109 18 k (fun q => absurd q.1 (by first | exact gz_ne rfl | decide))) (fun k => p109 36 k (fun q => absurd q.1 (by first | exact gz_ne rfl | decide))) (fun k => p109 41 k (fun q => absurd q.1 (by first | exact gz_ne rfl | decide))) (fun k => p109 42 k (fun q => absurd q.1 (by first | exact gz_ne rfl | decide))) (fun k => p109 43 k (fun q => absurd q.1 (by first | exact gz_ne rfl | decide))) (fun k => p109 45 k (fun q => absurd q.1 (by first | exact gz_ne rfl | decide))) (fun k => p109 46 k (fun q => absurd q.1 (by first | exact gz_ne rfl | decide))) (fun k => p109 47 k (fun q => absurd q.1 (by first | exact gz_ne rfl | decide))) (fun k => p109 6 k (fun q => absurd q.1 (by first | exact gz_ne rfl | decide))) (fun k => p109 7 k (fun q => absurd q.1 (by first | exact gz_ne rfl | decide))) (fun k => p109 8 k (fun q => absurd q.1 (by first | exact gz_ne rfl | decide))) (p109 0 3 (by decide))
                have KFV_I108 := gr_FV_fr KFV_I95 (fun k => p109 87 k (fun q => absurd q.1 (by first | exact gz_ne rfl | decide))) (fun k => p109 88 k (fun q => absurd q.1 (by first | exact gz_ne rfl | decide))) (fun k => p109 104 k (fun q => absurd q.1 (by first | exact gz_ne rfl | decide))) (fun k => p109 90 k (fun q => absurd q.1 (by first | exact gz_ne rfl | decide))) (fun k => p109 91 k (fun q => absurd q.1 (by first | exact gz_ne rfl | decide))) (fun k => p109 92 k (fun q => absurd q.1 (by first | exact gz_ne rfl | decide))) (fun k => p109 94 k (fun q => absurd q.1 (by first | exact gz_ne rfl | decide))) (fun k => p109 95 k (fun q => absurd q.1 (by first | exact gz_ne rfl | decide))) (fun k => p109 97 k (fun q => absurd q.1 (by first | exact gz_ne rfl | decide))) (fun k => p109 98 k (fun q => absurd q.1 (by first | exact gz_ne rfl | decide))) (fun k => p109 19 k (fun q => absurd q.1 (by first | exact gz_ne rfl | decide))) (fun k => p109 18 k (fun q => absurd q.1 (by first | exact gz_ne rfl | decide))) (fun k => p109 41 k (fun q => absurd q.1 (by first | exact gz_ne rfl | decide))) (fun k => p109 6 k (fun q => absurd q.1 (by first | exact gz_ne rfl | decide))) (fun k => p109 99 k (fun q => absurd q.1 (by first | exact gz_ne rfl | decide))) (fun k => p109 105 k (fun q => absurd q.1 (by first | exact gz_ne rfl | decide))) (fun k => p109 107 k (fun q => absurd q.1 (by first | exact gz_ne rfl | decide))) (fun k => p109 108 k (fun q => absurd q.1 (by first | exact gz_ne rfl | decide))) (fun k => p109 110 k (fun q => absurd q.1 (by first | exact gz_ne rfl | decide))) (fun k => p109 111 k (fun q => absurd q.1 (by first | exact gz_ne rfl | decide))) (p109 0 157 (by decide)) (p109 0 158 (by decide)) (p109 0 177 (by decide)) (p109 0 186 (by decide)) (p109 0 159 (by decide)) hI95
                have KPL_I108 := gr_PL_fr KPL_I95 (fun k => p109 114 k (fun q => absurd q.1 (by first | exact gz_ne rfl | decide))) (fun k => p109 115 k (fun q => absurd q.1 (by first | exact gz_ne rfl | decide))) (fun k => p109 6 k (fun q => absurd q.1 (by first | exact gz_ne rfl | decide))) (p109 0 3 (by decide))
                have KOX_I108 := gr_OX_fr KOX_I95 (fun k => p109 121 k (fun q => absurd q.1 (by first | exact gz_ne rfl | decide))) (fun k => p109 120 k (fun q => absurd q.1 (by first | exact gz_ne rfl | decide)))
                have KKR_I108 := gr_KR_f KKR_I95 p109 (by decide)
                refine gv_pick [0, 1, 2] rfl ?_
                exact L339 I108 J96 hI108 FI108 FJ96 KGR_I108 KFV_I108 KPL_I108 KOX_I108 KKR_I108 (by exact gz_m 42 (by omega))
              · have f123 := (gr_b_0_201 hI95)
                refine gv_run 7 true hD (pcₚ := 307) (lvₚ := [(0, .inr (.inr (some 0))), (3, .inl a3), (4, .inl v4_21), (5, .inl v5_41), (7, .inl v7_97)]) (stₚ := [.inl v7_97, .inl (200 * (I95 0 201)), .inr (.inr (some 124))]) (hₚ := gr_h I95 J96) (C := (((((((True ∧ True) ∧ True) ∧ True) ∧ True) ∧ True) ∧ True) ∧ True)) rfl ⟨⟨⟨⟨⟨⟨⟨trivial, trivial⟩, trivial⟩, trivial⟩, trivial⟩, trivial⟩, trivial⟩, trivial⟩ ?_
                refine gv_run 7 true hD (pcₚ := 320) (lvₚ := [(0, .inr (.inr (some 0))), (3, .inl a3), (4, .inl v4_21), (5, .inl v5_41), (7, .inl v7_97)]) (stₚ := [.inl v7_97, .inl (200 * v5_41), .inr (.inr (some 116)), .inl ((200 * (I95 0 201)) + v7_97), .inr (.inr (some 124))]) (hₚ := gr_h I95 J96) (C := (((((((True ∧ True) ∧ True) ∧ True) ∧ True) ∧ True) ∧ True) ∧ True)) rfl ⟨⟨⟨⟨⟨⟨⟨trivial, trivial⟩, trivial⟩, trivial⟩, trivial⟩, trivial⟩, trivial⟩, trivial⟩ ?_
                have f124 := (gr_b_116 hI95 (Int.toNat (((200 * v5_41) + v7_97))))
                refine gv_run 2 true hD (pcₚ := 322) (lvₚ := [(0, .inr (.inr (some 0))), (3, .inl a3), (4, .inl v4_21), (5, .inl v5_41), (7, .inl v7_97)]) (stₚ := [.inl (I95 116 (Int.toNat (((200 * v5_41) + v7_97)))), .inl ((200 * (I95 0 201)) + v7_97), .inr (.inr (some 124))]) (hₚ := gr_h I95 J96) (C := ((True ∧ True) ∧ (0 ≤ (((200 * v5_41) + v7_97)) ∧ (((200 * v5_41) + v7_97)) < ((288000 : Nat) : Int)))) rfl ⟨⟨trivial, trivial⟩, ⟨by exact gz_m 43 (by omega), by exact gz_m 44 (by omega)⟩⟩ ?_
                have f125 := gw_nar_byte (x := ((I95 116 (Int.toNat (((200 * v5_41) + v7_97))))))
                refine gv_run 1 true hD (pcₚ := 323) (lvₚ := [(0, .inr (.inr (some 0))), (3, .inl a3), (4, .inl v4_21), (5, .inl v5_41), (7, .inl v7_97)]) (stₚ := []) (hₚ := gz_up (gr_h I95 J96) 124 (Int.toNat (((200 * (I95 0 201)) + v7_97))) (.inl (((vp_nar .byte (Int32.ofInt ((I95 116 (Int.toNat (((200 * v5_41) + v7_97))))))).toInt)))) (C := (True ∧ (0 ≤ (((200 * (I95 0 201)) + v7_97)) ∧ (((200 * (I95 0 201)) + v7_97)) < ((3200 : Nat) : Int)))) rfl ⟨trivial, ⟨by exact gz_m 45 (by omega), by exact gz_m 46 (by omega)⟩⟩ ?_
                refine gr_st hI95 FI95 rfl rfl ⟨⟨by show (-128) ≤ _; exact gz_m 47 (by omega), by show _ ≤ 127; exact gz_m 48 (by omega)⟩, trivial⟩ (fun I126 hI126 FI126 q127 p127 => ?_)
                have t128 := p127 0 188 (fun q => absurd q.1 (by first | exact gz_ne rfl | decide))
                have t129 := p127 0 186 (fun q => absurd q.1 (by first | exact gz_ne rfl | decide))
                have t130 := p127 0 201 (fun q => absurd q.1 (by first | exact gz_ne rfl | decide))
                have t131 := p127 0 177 (fun q => absurd q.1 (by first | exact gz_ne rfl | decide))
                have t132 := p127 0 68 (fun q => absurd q.1 (by first | exact gz_ne rfl | decide))
                have t133 := p127 0 1 (fun q => absurd q.1 (by first | exact gz_ne rfl | decide))
                have t134 := p127 0 2 (fun q => absurd q.1 (by first | exact gz_ne rfl | decide))
                have f135 := (gr_b_0_188 hI126)
                have f136 := (gr_b_0_186 hI126)
                have f137 := (gr_b_0_201 hI126)
                have f138 := (gr_b_0_177 hI126)
                have f139 := (gr_b_0_68 hI126)
                have f140 := (gr_b_0_1 hI126)
                have f141 := (gr_b_0_2 hI126)
                have KGR_I126 := gr_GR_fr KGR_I95 (fun k => p127 19 k (fun q => absurd q.1 (by first | exact gz_ne rfl | decide))) (fun k => p127 18 k (fun q => absurd q.1 (by first | exact gz_ne rfl | decide))) (fun k => p127 36 k (fun q => absurd q.1 (by first | exact gz_ne rfl | decide))) (fun k => p127 41 k (fun q => absurd q.1 (by first | exact gz_ne rfl | decide))) (fun k => p127 42 k (fun q => absurd q.1 (by first | exact gz_ne rfl | decide))) (fun k => p127 43 k (fun q => absurd q.1 (by first | exact gz_ne rfl | decide))) (fun k => p127 45 k (fun q => absurd q.1 (by first | exact gz_ne rfl | decide))) (fun k => p127 46 k (fun q => absurd q.1 (by first | exact gz_ne rfl | decide))) (fun k => p127 47 k (fun q => absurd q.1 (by first | exact gz_ne rfl | decide))) (fun k => p127 6 k (fun q => absurd q.1 (by first | exact gz_ne rfl | decide))) (fun k => p127 7 k (fun q => absurd q.1 (by first | exact gz_ne rfl | decide))) (fun k => p127 8 k (fun q => absurd q.1 (by first | exact gz_ne rfl | decide))) (p127 0 3 (fun q => absurd q.1 (by first | exact gz_ne rfl | decide)))
                have KFV_I126 := gr_FV_fr KFV_I95 (fun k => p127 87 k (fun q => absurd q.1 (by first | exact gz_ne rfl | decide))) (fun k => p127 88 k (fun q => absurd q.1 (by first | exact gz_ne rfl | decide))) (fun k => p127 104 k (fun q => absurd q.1 (by first | exact gz_ne rfl | decide))) (fun k => p127 90 k (fun q => absurd q.1 (by first | exact gz_ne rfl | decide))) (fun k => p127 91 k (fun q => absurd q.1 (by first | exact gz_ne rfl | decide))) (fun k => p127 92 k (fun q => absurd q.1 (by first | exact gz_ne rfl | decide))) (fun k => p127 94 k (fun q => absurd q.1 (by first | exact gz_ne rfl | decide))) (fun k => p127 95 k (fun q => absurd q.1 (by first | exact gz_ne rfl | decide))) (fun k => p127 97 k (fun q => absurd q.1 (by first | exact gz_ne rfl | decide))) (fun k => p127 98 k (fun q => absurd q.1 (by first | exact gz_ne rfl | decide))) (fun k => p127 19 k (fun q => absurd q.1 (by first | exact gz_ne rfl | decide))) (fun k => p127 18 k (fun q => absurd q.1 (by first | exact gz_ne rfl | decide))) (fun k => p127 41 k (fun q => absurd q.1 (by first | exact gz_ne rfl | decide))) (fun k => p127 6 k (fun q => absurd q.1 (by first | exact gz_ne rfl | decide))) (fun k => p127 99 k (fun q => absurd q.1 (by first | exact gz_ne rfl | decide))) (fun k => p127 105 k (fun q => absurd q.1 (by first | exact gz_ne rfl | decide))) (fun k => p127 107 k (fun q => absurd q.1 (by first | exact gz_ne rfl | decide))) (fun k => p127 108 k (fun q => absurd q.1 (by first | exact gz_ne rfl | decide))) (fun k => p127 110 k (fun q => absurd q.1 (by first | exact gz_ne rfl | decide))) (fun k => p127 111 k (fun q => absurd q.1 (by first | exact gz_ne rfl | decide))) (p127 0 157 (fun q => absurd q.1 (by first | exact gz_ne rfl | decide))) (p127 0 158 (fun q => absurd q.1 (by first | exact gz_ne rfl | decide))) (p127 0 177 (fun q => absurd q.1 (by first | exact gz_ne rfl | decide))) (p127 0 186 (fun q => absurd q.1 (by first | exact gz_ne rfl | decide))) (p127 0 159 (fun q => absurd q.1 (by first | exact gz_ne rfl | decide))) hI95
                have KPL_I126 := gr_PL_fr KPL_I95 (fun k => p127 114 k (fun q => absurd q.1 (by first | exact gz_ne rfl | decide))) (fun k => p127 115 k (fun q => absurd q.1 (by first | exact gz_ne rfl | decide))) (fun k => p127 6 k (fun q => absurd q.1 (by first | exact gz_ne rfl | decide))) (p127 0 3 (fun q => absurd q.1 (by first | exact gz_ne rfl | decide)))
                have KOX_I126 := gr_OX_fr KOX_I95 (fun k => p127 121 k (fun q => absurd q.1 (by first | exact gz_ne rfl | decide))) (fun k => p127 120 k (fun q => absurd q.1 (by first | exact gz_ne rfl | decide)))
                have KKR_I126 := gr_KR_a (by decide) KKR_I95 p127 (by decide)
                refine gv_run 2 true hD (pcₚ := 281) (lvₚ := [(7, .inl (v7_97 + 1)), (0, .inr (.inr (some 0))), (3, .inl a3), (4, .inl v4_21), (5, .inl v5_41)]) (stₚ := []) (hₚ := gr_h I126 J96) (C := ((True ∧ True) ∧ True)) rfl ⟨⟨trivial, trivial⟩, trivial⟩ ?_
                refine gv_pick [1, 2, 3, 4, 0] rfl ?_
                exact ih281 I126 J96 (v7_97 + 1) (by exact gz_m 49 (by omega)) hI126 FI126 FJ96 KGR_I126 KFV_I126 KPL_I126 KOX_I126 KKR_I126 (by exact gz_m 50 (by omega))
          refine gv_run 1 true hD (pcₚ := 256) (lvₚ := [(0, .inr (.inr (some 0))), (3, .inl a3), (4, .inl v4_21), (5, .inl v5_41), (6, .inl v6_41)]) (stₚ := [.inl v6_41]) (hₚ := gr_h I39 J40) (C := (True ∧ True)) rfl ⟨trivial, trivial⟩ ?_
          refine gv_if_eq (t := 262) hD rfl rfl ⟨by exact gz_m 51 (by omega), by exact gz_m 52 (by omega)⟩ (fun c142 => ?_) (fun c142 => ?_)
          · have f143 := (gr_b_0_201 hI39)
            refine gv_run 7 true hD (pcₚ := 276) (lvₚ := [(0, .inr (.inr (some 0))), (3, .inl a3), (4, .inl v4_21), (5, .inl v5_41), (6, .inl v6_41)]) (stₚ := [.inl v5_41, .inr (.inr (some 117)), .inl (I39 0 201), .inr (.inr (some 125))]) (hₚ := gr_h I39 J40) (C := (((((((True ∧ True) ∧ True) ∧ True) ∧ True) ∧ True) ∧ True) ∧ True)) rfl ⟨⟨⟨⟨⟨⟨⟨trivial, trivial⟩, trivial⟩, trivial⟩, trivial⟩, trivial⟩, trivial⟩, trivial⟩ ?_
            have f144 := (gr_b_117 hI39 (Int.toNat v5_41))
            refine gv_run 1 true hD (pcₚ := 277) (lvₚ := [(0, .inr (.inr (some 0))), (3, .inl a3), (4, .inl v4_21), (5, .inl v5_41), (6, .inl v6_41)]) (stₚ := [.inl (I39 117 (Int.toNat v5_41)), .inl (I39 0 201), .inr (.inr (some 125))]) (hₚ := gr_h I39 J40) (C := (True ∧ (0 ≤ v5_41 ∧ v5_41 < ((1440 : Nat) : Int)))) rfl ⟨trivial, ⟨by exact gz_m 53 (by omega), by exact gz_m 54 (by omega)⟩⟩ ?_
            refine gv_run 1 true hD (pcₚ := 278) (lvₚ := [(0, .inr (.inr (some 0))), (3, .inl a3), (4, .inl v4_21), (5, .inl v5_41), (6, .inl v6_41)]) (stₚ := []) (hₚ := gz_up (gr_h I39 J40) 125 (Int.toNat ((I39 0 201))) (.inl ((I39 117 (Int.toNat v5_41))))) (C := (True ∧ (0 ≤ (I39 0 201) ∧ (I39 0 201) < ((16 : Nat) : Int)))) rfl ⟨trivial, ⟨by exact gz_m 55 (by omega), by exact gz_m 56 (by omega)⟩⟩ ?_
            refine gr_st hI39 FI39 rfl rfl ⟨⟨by show 0 ≤ _; exact gz_m 57 (by omega), by show _ ≤ 200; exact gz_m 58 (by omega)⟩, trivial⟩ (fun I145 hI145 FI145 q146 p146 => ?_)
            have t147 := p146 0 188 (fun q => absurd q.1 (by first | exact gz_ne rfl | decide))
            have t148 := p146 0 186 (fun q => absurd q.1 (by first | exact gz_ne rfl | decide))
            have t149 := p146 0 201 (fun q => absurd q.1 (by first | exact gz_ne rfl | decide))
            have t150 := p146 0 177 (fun q => absurd q.1 (by first | exact gz_ne rfl | decide))
            have t151 := p146 0 68 (fun q => absurd q.1 (by first | exact gz_ne rfl | decide))
            have t152 := p146 0 1 (fun q => absurd q.1 (by first | exact gz_ne rfl | decide))
            have t153 := p146 0 2 (fun q => absurd q.1 (by first | exact gz_ne rfl | decide))
            have f154 := (gr_b_0_188 hI145)
            have f155 := (gr_b_0_186 hI145)
            have f156 := (gr_b_0_201 hI145)
            have f157 := (gr_b_0_177 hI145)
            have f158 := (gr_b_0_68 hI145)
            have f159 := (gr_b_0_1 hI145)
            have f160 := (gr_b_0_2 hI145)
            have KGR_I145 := gr_GR_fr KGR_I39 (fun k => p146 19 k (fun q => absurd q.1 (by first | exact gz_ne rfl | decide))) (fun k => p146 18 k (fun q => absurd q.1 (by first | exact gz_ne rfl | decide))) (fun k => p146 36 k (fun q => absurd q.1 (by first | exact gz_ne rfl | decide))) (fun k => p146 41 k (fun q => absurd q.1 (by first | exact gz_ne rfl | decide))) (fun k => p146 42 k (fun q => absurd q.1 (by first | exact gz_ne rfl | decide))) (fun k => p146 43 k (fun q => absurd q.1 (by first | exact gz_ne rfl | decide))) (fun k => p146 45 k (fun q => absurd q.1 (by first | exact gz_ne rfl | decide))) (fun k => p146 46 k (fun q => absurd q.1 (by first | exact gz_ne rfl | decide))) (fun k => p146 47 k (fun q => absurd q.1 (by first | exact gz_ne rfl | decide))) (fun k => p146 6 k (fun q => absurd q.1 (by first | exact gz_ne rfl | decide))) (fun k => p146 7 k (fun q => absurd q.1 (by first | exact gz_ne rfl | decide))) (fun k => p146 8 k (fun q => absurd q.1 (by first | exact gz_ne rfl | decide))) (p146 0 3 (fun q => absurd q.1 (by first | exact gz_ne rfl | decide)))
            have KFV_I145 := gr_FV_fr KFV_I39 (fun k => p146 87 k (fun q => absurd q.1 (by first | exact gz_ne rfl | decide))) (fun k => p146 88 k (fun q => absurd q.1 (by first | exact gz_ne rfl | decide))) (fun k => p146 104 k (fun q => absurd q.1 (by first | exact gz_ne rfl | decide))) (fun k => p146 90 k (fun q => absurd q.1 (by first | exact gz_ne rfl | decide))) (fun k => p146 91 k (fun q => absurd q.1 (by first | exact gz_ne rfl | decide))) (fun k => p146 92 k (fun q => absurd q.1 (by first | exact gz_ne rfl | decide))) (fun k => p146 94 k (fun q => absurd q.1 (by first | exact gz_ne rfl | decide))) (fun k => p146 95 k (fun q => absurd q.1 (by first | exact gz_ne rfl | decide))) (fun k => p146 97 k (fun q => absurd q.1 (by first | exact gz_ne rfl | decide))) (fun k => p146 98 k (fun q => absurd q.1 (by first | exact gz_ne rfl | decide))) (fun k => p146 19 k (fun q => absurd q.1 (by first | exact gz_ne rfl | decide))) (fun k => p146 18 k (fun q => absurd q.1 (by first | exact gz_ne rfl | decide))) (fun k => p146 41 k (fun q => absurd q.1 (by first | exact gz_ne rfl | decide))) (fun k => p146 6 k (fun q => absurd q.1 (by first | exact gz_ne rfl | decide))) (fun k => p146 99 k (fun q => absurd q.1 (by first | exact gz_ne rfl | decide))) (fun k => p146 105 k (fun q => absurd q.1 (by first | exact gz_ne rfl | decide))) (fun k => p146 107 k (fun q => absurd q.1 (by first | exact gz_ne rfl | decide))) (fun k => p146 108 k (fun q => absurd q.1 (by first | exact gz_ne rfl | decide))) (fun k => p146 110 k (fun q => absurd q.1 (by first | exact gz_ne rfl | decide))) (fun k => p146 111 k (fun q => absurd q.1 (by first | exact gz_ne rfl | decide))) (p146 0 157 (fun q => absurd q.1 (by first | exact gz_ne rfl | decide))) (p146 0 158 (fun q => absurd q.1 (by first | exact gz_ne rfl | decide))) (p146 0 177 (fun q => absurd q.1 (by first | exact gz_ne rfl | decide))) (p146 0 186 (fun q => absurd q.1 (by first | exact gz_ne rfl | decide))) (p146 0 159 (fun q => absurd q.1 (by first | exact gz_ne rfl | decide))) hI39
            have KPL_I145 := gr_PL_fr KPL_I39 (fun k => p146 114 k (fun q => absurd q.1 (by first | exact gz_ne rfl | decide))) (fun k => p146 115 k (fun q => absurd q.1 (by first | exact gz_ne rfl | decide))) (fun k => p146 6 k (fun q => absurd q.1 (by first | exact gz_ne rfl | decide))) (p146 0 3 (fun q => absurd q.1 (by first | exact gz_ne rfl | decide)))
            have KOX_I145 := gr_OX_fr KOX_I39 (fun k => p146 121 k (fun q => absurd q.1 (by first | exact gz_ne rfl | decide))) (fun k => p146 120 k (fun q => absurd q.1 (by first | exact gz_ne rfl | decide)))
            have KKR_I145 := gr_KR_a (by decide) KKR_I39 p146 (by decide)
            refine gv_run 2 true hD (pcₚ := 281) (lvₚ := [(7, .inl 0), (0, .inr (.inr (some 0))), (3, .inl a3), (4, .inl v4_21), (5, .inl v5_41), (6, .inl v6_41)]) (stₚ := []) (hₚ := gr_h I145 J40) (C := ((True ∧ True) ∧ True)) rfl ⟨⟨trivial, trivial⟩, trivial⟩ ?_
            refine gv_pick [1, 2, 3, 4, 0] rfl ?_
            exact L281 _ I145 J40 0 (Nat.lt_succ_self _) hI145 FI145 FJ40 KGR_I145 KFV_I145 KPL_I145 KOX_I145 KKR_I145 (by exact gz_m 59 (by omega))
          · refine gv_run 1 true hD (pcₚ := 339) (lvₚ := [(0, .inr (.inr (some 0))), (3, .inl a3), (4, .inl v4_21), (5, .inl v5_41), (6, .inl v6_41)]) (stₚ := []) (hₚ := gr_h I39 J40) (C := (True ∧ True)) rfl ⟨trivial, trivial⟩ ?_
            refine gv_pick [0, 1, 2] rfl ?_
            exact L339 I39 J40 hI39 FI39 FJ40 KGR_I39 KFV_I39 KPL_I39 KOX_I39 KKR_I39 (by exact gz_m 60 (by omega))
        have f161 := (gr_b_0_201 hI39)
        refine gv_run 3 true hD (pcₚ := 152) (lvₚ := [(0, .inr (.inr (some 0))), (3, .inl a3), (4, .inl v4_21), (5, .inl v5_41), (6, .inl v6_41), (7, .inl v7_41)]) (stₚ := [.inl (I39 0 201), .inl v7_41]) (hₚ := gr_h I39 J40) (C := (((True ∧ True) ∧ True) ∧ True)) rfl ⟨⟨⟨trivial, trivial⟩, trivial⟩, trivial⟩ ?_
        refine gv_icmp_ge (t := 254) hD rfl rfl ⟨⟨by exact gz_m 61 (by omega), by exact gz_m 62 (by omega)⟩, ⟨by exact gz_m 63 (by omega), by exact gz_m 64 (by omega)⟩⟩ (fun c162 => ?_) (fun c162 => ?_)
        · refine gv_pick [0, 1, 2, 3, 4] rfl ?_
          exact L254 (by exact gz_m 65 (by omega))
        · refine gv_run 1 true hD (pcₚ := 157) (lvₚ := [(0, .inr (.inr (some 0))), (3, .inl a3), (4, .inl v4_21), (5, .inl v5_41), (6, .inl v6_41), (7, .inl v7_41)]) (stₚ := [.inl v6_41]) (hₚ := gr_h I39 J40) (C := (True ∧ True)) rfl ⟨trivial, trivial⟩ ?_
          refine gv_if_ne (t := 254) hD rfl rfl ⟨by exact gz_m 66 (by omega), by exact gz_m 67 (by omega)⟩ (fun c163 => ?_) (fun c163 => ?_)
          · refine gv_pick [0, 1, 2, 3, 4] rfl ?_
            exact L254 (by exact gz_m 68 (by omega))
          · have f164 := (gr_b_125 hI39 (Int.toNat v7_41))
            refine gv_run 4 true hD (pcₚ := 167) (lvₚ := [(0, .inr (.inr (some 0))), (3, .inl a3), (4, .inl v4_21), (5, .inl v5_41), (6, .inl v6_41), (7, .inl v7_41)]) (stₚ := [.inl (I39 125 (Int.toNat v7_41))]) (hₚ := gr_h I39 J40) (C := ((((True ∧ True) ∧ True) ∧ True) ∧ (0 ≤ v7_41 ∧ v7_41 < ((16 : Nat) : Int)))) rfl ⟨⟨⟨⟨trivial, trivial⟩, trivial⟩, trivial⟩, ⟨by exact gz_m 69 (by omega), by exact gz_m 70 (by omega)⟩⟩ ?_
            have f165 := (gr_b_117 hI39 (Int.toNat v5_41))
            refine gv_run 4 true hD (pcₚ := 174) (lvₚ := [(0, .inr (.inr (some 0))), (3, .inl a3), (4, .inl v4_21), (5, .inl v5_41), (6, .inl v6_41), (7, .inl v7_41)]) (stₚ := [.inl (I39 117 (Int.toNat v5_41)), .inl (I39 125 (Int.toNat v7_41))]) (hₚ := gr_h I39 J40) (C := ((((True ∧ True) ∧ True) ∧ True) ∧ (0 ≤ v5_41 ∧ v5_41 < ((1440 : Nat) : Int)))) rfl ⟨⟨⟨⟨trivial, trivial⟩, trivial⟩, trivial⟩, ⟨by exact gz_m 71 (by omega), by exact gz_m 72 (by omega)⟩⟩ ?_
            refine gv_icmp_ne (t := 181) hD rfl rfl ⟨⟨by exact gz_m 73 (by omega), by exact gz_m 74 (by omega)⟩, ⟨by exact gz_m 75 (by omega), by exact gz_m 76 (by omega)⟩⟩ (fun c166 => ?_) (fun c166 => ?_)
            · refine gv_run 1 true hD (pcₚ := 182) (lvₚ := [(0, .inr (.inr (some 0))), (3, .inl a3), (4, .inl v4_21), (5, .inl v5_41), (6, .inl v6_41), (7, .inl v7_41)]) (stₚ := [.inl 0]) (hₚ := gr_h I39 J40) (C := (True ∧ True)) rfl ⟨trivial, trivial⟩ ?_
              refine gv_pick [0, 1, 2, 3, 5] rfl ?_
              exact L182 0 (by exact gz_m 77 (by omega))
            · refine gv_run 2 true hD (pcₚ := 182) (lvₚ := [(0, .inr (.inr (some 0))), (3, .inl a3), (4, .inl v4_21), (5, .inl v5_41), (6, .inl v6_41), (7, .inl v7_41)]) (stₚ := [.inl 1]) (hₚ := gr_h I39 J40) (C := ((True ∧ True) ∧ True)) rfl ⟨⟨trivial, trivial⟩, trivial⟩ ?_
              refine gv_pick [0, 1, 2, 3, 5] rfl ?_
              exact L182 1 (by exact gz_m 78 (by omega))
    have f167 := (gr_b_0_186 hI19)
    refine gv_run 3 true hD (pcₚ := 75) (lvₚ := [(0, .inr (.inr (some 0))), (3, .inl a3), (4, .inl v4_21)]) (stₚ := [.inl (I19 0 186), .inl v4_21]) (hₚ := gr_h I19 J20) (C := (((True ∧ True) ∧ True) ∧ True)) rfl ⟨⟨⟨trivial, trivial⟩, trivial⟩, trivial⟩ ?_
    refine gv_icmp_ge (t := 345) hD rfl rfl ⟨⟨by exact gz_m 79 (by omega), by exact gz_m 80 (by omega)⟩, ⟨by exact gz_m 81 (by omega), by exact gz_m 82 (by omega)⟩⟩ (fun c168 => ?_) (fun c168 => ?_)
    · have f169 := (gr_b_0_201 hI19)
      refine gv_run 2 true hD (pcₚ := 349) (lvₚ := [(0, .inr (.inr (some 0))), (3, .inl a3), (4, .inl v4_21)]) (stₚ := [.inl (I19 0 201)]) (hₚ := gr_h I19 J20) (C := ((True ∧ True) ∧ True)) rfl ⟨⟨trivial, trivial⟩, trivial⟩ ?_
      have b170 : (((0 ≤ a1 ∧ a1 < I 0 1) ∧ (0 ≤ a2 ∧ a2 < I 0 2) ∧ (0 ≤ a3 ∧ a3 < I 0 1)) → I19 0 68 = 0) ∧ (¬ ((0 ≤ a1 ∧ a1 < I 0 1) ∧ (0 ≤ a2 ∧ a2 < I 0 2) ∧ (0 ≤ a3 ∧ a3 < I 0 1)) → I19 0 68 = I 0 68) := by exact gz_m 83 (by omega)
      exact gv_iret hD rfl ⟨I19, J20, rfl, hI19, FI19, FJ20, KGR_I19, KFV_I19, KPL_I19, KOX_I19, ⟨_, rfl, by exact gz_m 84 (by omega), by exact gz_m 85 (by omega), b170.1, b170.2, KKR_I19⟩⟩
    · refine gv_run 3 true hD (pcₚ := 83) (lvₚ := [(0, .inr (.inr (some 0))), (3, .inl a3), (4, .inl v4_21)]) (stₚ := []) (hₚ := gz_up (gr_h I19 J20) 0 188 (.inl 0)) (C := (((True ∧ True) ∧ True) ∧ True)) rfl ⟨⟨⟨trivial, trivial⟩, trivial⟩, trivial⟩ ?_
      refine gr_st hI19 FI19 rfl rfl ⟨⟨by show 0 ≤ _; exact gz_m 86 (by omega), by show _ ≤ 2000; exact gz_m 87 (by omega)⟩, trivial⟩ (fun I171 hI171 FI171 q172 p172 => ?_)
      have t173 := p172 0 186 (by decide)
      have t174 := p172 0 201 (by decide)
      have t175 := p172 0 177 (by decide)
      have t176 := p172 0 68 (by decide)
      have t177 := p172 0 1 (by decide)
      have t178 := p172 0 2 (by decide)
      have f179 := (gr_b_0_188 hI171)
      have f180 := (gr_b_0_186 hI171)
      have f181 := (gr_b_0_201 hI171)
      have f182 := (gr_b_0_177 hI171)
      have f183 := (gr_b_0_68 hI171)
      have f184 := (gr_b_0_1 hI171)
      have f185 := (gr_b_0_2 hI171)
      have KGR_I171 := gr_GR_fr KGR_I19 (fun k => p172 19 k (fun q => absurd q.1 (by first | exact gz_ne rfl | decide))) (fun k => p172 18 k (fun q => absurd q.1 (by first | exact gz_ne rfl | decide))) (fun k => p172 36 k (fun q => absurd q.1 (by first | exact gz_ne rfl | decide))) (fun k => p172 41 k (fun q => absurd q.1 (by first | exact gz_ne rfl | decide))) (fun k => p172 42 k (fun q => absurd q.1 (by first | exact gz_ne rfl | decide))) (fun k => p172 43 k (fun q => absurd q.1 (by first | exact gz_ne rfl | decide))) (fun k => p172 45 k (fun q => absurd q.1 (by first | exact gz_ne rfl | decide))) (fun k => p172 46 k (fun q => absurd q.1 (by first | exact gz_ne rfl | decide))) (fun k => p172 47 k (fun q => absurd q.1 (by first | exact gz_ne rfl | decide))) (fun k => p172 6 k (fun q => absurd q.1 (by first | exact gz_ne rfl | decide))) (fun k => p172 7 k (fun q => absurd q.1 (by first | exact gz_ne rfl | decide))) (fun k => p172 8 k (fun q => absurd q.1 (by first | exact gz_ne rfl | decide))) (p172 0 3 (by decide))
      have KFV_I171 := gr_FV_fr KFV_I19 (fun k => p172 87 k (fun q => absurd q.1 (by first | exact gz_ne rfl | decide))) (fun k => p172 88 k (fun q => absurd q.1 (by first | exact gz_ne rfl | decide))) (fun k => p172 104 k (fun q => absurd q.1 (by first | exact gz_ne rfl | decide))) (fun k => p172 90 k (fun q => absurd q.1 (by first | exact gz_ne rfl | decide))) (fun k => p172 91 k (fun q => absurd q.1 (by first | exact gz_ne rfl | decide))) (fun k => p172 92 k (fun q => absurd q.1 (by first | exact gz_ne rfl | decide))) (fun k => p172 94 k (fun q => absurd q.1 (by first | exact gz_ne rfl | decide))) (fun k => p172 95 k (fun q => absurd q.1 (by first | exact gz_ne rfl | decide))) (fun k => p172 97 k (fun q => absurd q.1 (by first | exact gz_ne rfl | decide))) (fun k => p172 98 k (fun q => absurd q.1 (by first | exact gz_ne rfl | decide))) (fun k => p172 19 k (fun q => absurd q.1 (by first | exact gz_ne rfl | decide))) (fun k => p172 18 k (fun q => absurd q.1 (by first | exact gz_ne rfl | decide))) (fun k => p172 41 k (fun q => absurd q.1 (by first | exact gz_ne rfl | decide))) (fun k => p172 6 k (fun q => absurd q.1 (by first | exact gz_ne rfl | decide))) (fun k => p172 99 k (fun q => absurd q.1 (by first | exact gz_ne rfl | decide))) (fun k => p172 105 k (fun q => absurd q.1 (by first | exact gz_ne rfl | decide))) (fun k => p172 107 k (fun q => absurd q.1 (by first | exact gz_ne rfl | decide))) (fun k => p172 108 k (fun q => absurd q.1 (by first | exact gz_ne rfl | decide))) (fun k => p172 110 k (fun q => absurd q.1 (by first | exact gz_ne rfl | decide))) (fun k => p172 111 k (fun q => absurd q.1 (by first | exact gz_ne rfl | decide))) (p172 0 157 (by decide)) (p172 0 158 (by decide)) (p172 0 177 (by decide)) (p172 0 186 (by decide)) (p172 0 159 (by decide)) hI19
      have KPL_I171 := gr_PL_fr KPL_I19 (fun k => p172 114 k (fun q => absurd q.1 (by first | exact gz_ne rfl | decide))) (fun k => p172 115 k (fun q => absurd q.1 (by first | exact gz_ne rfl | decide))) (fun k => p172 6 k (fun q => absurd q.1 (by first | exact gz_ne rfl | decide))) (p172 0 3 (by decide))
      have KOX_I171 := gr_OX_fr KOX_I19 (fun k => p172 121 k (fun q => absurd q.1 (by first | exact gz_ne rfl | decide))) (fun k => p172 120 k (fun q => absurd q.1 (by first | exact gz_ne rfl | decide)))
      have KKR_I171 := gr_KR_f KKR_I19 p172 (by decide)
      have f186 := (gr_b_110 hI171 (Int.toNat v4_21))
      refine gv_run 5 true hD (pcₚ := 91) (lvₚ := [(0, .inr (.inr (some 0))), (3, .inl a3), (4, .inl v4_21)]) (stₚ := [.inl (I171 110 (Int.toNat v4_21)), .inr (.inr (some 0))]) (hₚ := gr_h I171 J20) (C := (((((True ∧ True) ∧ True) ∧ True) ∧ True) ∧ (0 ≤ v4_21 ∧ v4_21 < ((16 : Nat) : Int)))) rfl ⟨⟨⟨⟨⟨trivial, trivial⟩, trivial⟩, trivial⟩, trivial⟩, ⟨by exact gz_m 88 (by omega), by exact gz_m 89 (by omega)⟩⟩ ?_
      have f187 := (gr_b_111 hI171 (Int.toNat v4_21))
      refine gv_run 4 true hD (pcₚ := 98) (lvₚ := [(0, .inr (.inr (some 0))), (3, .inl a3), (4, .inl v4_21)]) (stₚ := [.inl (I171 111 (Int.toNat v4_21)), .inl (I171 110 (Int.toNat v4_21)), .inr (.inr (some 0))]) (hₚ := gr_h I171 J20) (C := ((((True ∧ True) ∧ True) ∧ True) ∧ (0 ≤ v4_21 ∧ v4_21 < ((16 : Nat) : Int)))) rfl ⟨⟨⟨⟨trivial, trivial⟩, trivial⟩, trivial⟩, ⟨by exact gz_m 90 (by omega), by exact gz_m 91 (by omega)⟩⟩ ?_
      have t188 := (gr_FV_s KFV_I171 (by exact gz_m 92 (by omega))).2.2.2 (Int.toNat v4_21) (by exact gz_m 93 (by omega)) (by exact gz_m 94 (by omega))
      have t189 := (gr_b_88 hI171 (Int.toNat (I171 110 (Int.toNat v4_21))))
      have t190 := (gr_b_104 hI171 (Int.toNat (I171 110 (Int.toNat v4_21))))
      have t191 := (gr_b_87 hI171 (Int.toNat (I171 110 (Int.toNat v4_21))))
      obtain ⟨r192, h192, E192, P192⟩ := r_read (ws0 := ws0) (tb := tb) hws htb ext 800 I171 J20 hI171 ((I171 110 (Int.toNat v4_21))) ((I171 111 (Int.toNat v4_21))) ⟨by exact gz_m 95 (by omega), by exact gz_m 96 (by omega)⟩ ⟨by exact gz_m 97 (by omega), by exact gz_m 98 (by omega)⟩ KGR_I171 (gr_FV_s KFV_I171 (by exact gz_m 99 (by omega))).2.1 (gr_FV_s KFV_I171 (by exact gz_m 100 (by omega))).2.2.1 (by exact gz_m 101 (by omega)) (by exact gz_m 102 (by omega)) (by exact gz_m 103 (by omega)) (by exact gz_m 104 (by omega))
      obtain ⟨I193, J194, rfl, hI193, g192, k192, ⟨rfl, q192⟩⟩ := P192
      have FI193 := gr_frt FI171 g192 rfl rfl
      have FJ194 := gr_fjt FJ20 k192 rfl rfl
      have t195 := g192 0 186 rfl
      have t196 := g192 0 201 rfl
      have t197 := g192 0 177 rfl
      have t198 := g192 0 68 rfl
      have t199 := g192 0 1 rfl
      have t200 := g192 0 2 rfl
      have f201 := (gr_b_0_188 hI193)
      have f202 := (gr_b_0_186 hI193)
      have f203 := (gr_b_0_201 hI193)
      have f204 := (gr_b_0_177 hI193)
      have f205 := (gr_b_0_68 hI193)
      have f206 := (gr_b_0_1 hI193)
      have f207 := (gr_b_0_2 hI193)
      have KGR_I193 := gr_GR_fr KGR_I171 (fun k => g192 19 k rfl) (fun k => g192 18 k rfl) (fun k => g192 36 k rfl) (fun k => g192 41 k rfl) (fun k => g192 42 k rfl) (fun k => g192 43 k rfl) (fun k => g192 45 k rfl) (fun k => g192 46 k rfl) (fun k => g192 47 k rfl) (fun k => g192 6 k rfl) (fun k => g192 7 k rfl) (fun k => g192 8 k rfl) (g192 0 3 rfl)
      have KFV_I193 := gr_FV_fr KFV_I171 (fun k => g192 87 k rfl) (fun k => g192 88 k rfl) (fun k => g192 104 k rfl) (fun k => g192 90 k rfl) (fun k => g192 91 k rfl) (fun k => g192 92 k rfl) (fun k => g192 94 k rfl) (fun k => g192 95 k rfl) (fun k => g192 97 k rfl) (fun k => g192 98 k rfl) (fun k => g192 19 k rfl) (fun k => g192 18 k rfl) (fun k => g192 41 k rfl) (fun k => g192 6 k rfl) (fun k => g192 99 k rfl) (fun k => g192 105 k rfl) (fun k => g192 107 k rfl) (fun k => g192 108 k rfl) (fun k => g192 110 k rfl) (fun k => g192 111 k rfl) (g192 0 157 rfl) (g192 0 158 rfl) (g192 0 177 rfl) (g192 0 186 rfl) (g192 0 159 rfl) hI171
      have KPL_I193 := gr_PL_fr KPL_I171 (fun k => g192 114 k rfl) (fun k => g192 115 k rfl) (fun k => g192 6 k rfl) (g192 0 3 rfl)
      have KOX_I193 := gr_OX_fr KOX_I171 (fun k => g192 121 k rfl) (fun k => g192 120 k rfl)
      have KKR_I193 := gr_KR_g KKR_I171 g192 (by decide)
      refine gv_callV hD rfl (As := [.inl (I171 110 (Int.toNat v4_21)), .inl (I171 111 (Int.toNat v4_21))]) (st := []) rfl (by decide) rfl rfl (gr_lV hws rfl) (Nat.le_of_ble_eq_true rfl) (gz_Ev_mono (d := 800) (by decide) E192) ?_
      show gv_X _ _ (101, [(0, .inr (.inr (some 0))), (3, .inl a3), (4, .inl v4_21)], [], gr_sh ++ ext, gr_h I193 J194)
      have f208 := (gr_b_0_188 hI193)
      refine gv_run 3 true hD (pcₚ := 107) (lvₚ := [(0, .inr (.inr (some 0))), (3, .inl a3), (4, .inl v4_21)]) (stₚ := [.inl 60, .inl (I193 0 188)]) (hₚ := gr_h I193 J194) (C := (((True ∧ True) ∧ True) ∧ True)) rfl ⟨⟨⟨trivial, trivial⟩, trivial⟩, trivial⟩ ?_
      refine gv_icmp_le (t := 113) hD rfl rfl ⟨⟨by exact gz_m 105 (by omega), by exact gz_m 106 (by omega)⟩, ⟨by exact gz_m 107 (by omega), by exact gz_m 108 (by omega)⟩⟩ (fun c209 => ?_) (fun c209 => ?_)
      · refine gv_run 3 true hD (pcₚ := 116) (lvₚ := [(0, .inr (.inr (some 0))), (3, .inl a3), (4, .inl v4_21)]) (stₚ := [.inl 0, .inl a3, .inr (.inr (some 0))]) (hₚ := gr_h I193 J194) (C := (((True ∧ True) ∧ True) ∧ True)) rfl ⟨⟨⟨trivial, trivial⟩, trivial⟩, trivial⟩ ?_
        obtain ⟨r210, h210, E210, P210⟩ := r_options_x (ws0 := ws0) (tb := tb) hws htb ext (I193 0 188) 61 I193 J194 hI193 a3 0 ⟨by exact gz_m 109 (by omega), by exact gz_m 110 (by omega)⟩ ⟨by exact gz_m 111 (by omega), by exact gz_m 112 (by omega)⟩ (by have u9 := q192.2.2.2; rw [show I171 0 188 = 0 from by exact gz_m 113 (by omega)] at u9; exact gr_PX_of (gr_CD_of u9) ⟨by exact gz_m 114 (by omega), by exact gz_m 115 (by omega)⟩) (by exact gz_m 116 (by omega)) KGR_I193 KOX_I193 (by exact gz_m 117 (by omega))
        obtain ⟨I211, J212, rfl, hI211, g210, k210, ⟨z210, rfl, q210⟩⟩ := P210
        have FI211 := gr_frt FI193 g210 rfl rfl
        have FJ212 := gr_fjt FJ194 k210 rfl rfl
        have t213 := g210 0 188 rfl
        have t214 := g210 0 186 rfl
        have t215 := g210 0 201 rfl
        have t216 := g210 0 177 rfl
        have t217 := g210 0 68 rfl
        have t218 := g210 0 1 rfl
        have t219 := g210 0 2 rfl
        have f220 := (gr_b_0_188 hI211)
        have f221 := (gr_b_0_186 hI211)
        have f222 := (gr_b_0_201 hI211)
        have f223 := (gr_b_0_177 hI211)
        have f224 := (gr_b_0_68 hI211)
        have f225 := (gr_b_0_1 hI211)
        have f226 := (gr_b_0_2 hI211)
        have KGR_I211 := gr_GR_fr KGR_I193 (fun k => g210 19 k rfl) (fun k => g210 18 k rfl) (fun k => g210 36 k rfl) (fun k => g210 41 k rfl) (fun k => g210 42 k rfl) (fun k => g210 43 k rfl) (fun k => g210 45 k rfl) (fun k => g210 46 k rfl) (fun k => g210 47 k rfl) (fun k => g210 6 k rfl) (fun k => g210 7 k rfl) (fun k => g210 8 k rfl) (g210 0 3 rfl)
        have KFV_I211 := gr_FV_fr KFV_I193 (fun k => g210 87 k rfl) (fun k => g210 88 k rfl) (fun k => g210 104 k rfl) (fun k => g210 90 k rfl) (fun k => g210 91 k rfl) (fun k => g210 92 k rfl) (fun k => g210 94 k rfl) (fun k => g210 95 k rfl) (fun k => g210 97 k rfl) (fun k => g210 98 k rfl) (fun k => g210 19 k rfl) (fun k => g210 18 k rfl) (fun k => g210 41 k rfl) (fun k => g210 6 k rfl) (fun k => g210 99 k rfl) (fun k => g210 105 k rfl) (fun k => g210 107 k rfl) (fun k => g210 108 k rfl) (fun k => g210 110 k rfl) (fun k => g210 111 k rfl) (g210 0 157 rfl) (g210 0 158 rfl) (g210 0 177 rfl) (g210 0 186 rfl) (g210 0 159 rfl) hI193
        have KPL_I211 := gr_PL_fr KPL_I193 (fun k => g210 114 k rfl) (fun k => g210 115 k rfl) (fun k => g210 6 k rfl) (g210 0 3 rfl)
        have KKR_I211 := gr_KR_g KKR_I193 g210 (by decide)
        have KOX_I211 : gr_OX I211 := q210.2.2.2.2.1
        refine gv_callV hD rfl (As := [.inl a3, .inl 0]) (st := []) rfl (by decide) rfl rfl (gr_lV hws rfl) (Nat.le_of_ble_eq_true rfl) (gz_Ev_mono (d := 70) (by decide) E210) ?_
        show gv_X _ _ (119, [(0, .inr (.inr (some 0))), (3, .inl a3), (4, .inl v4_21)], [.inl z210], gr_sh ++ ext, gr_h I211 J212)
        have f227 := (gr_b_121 hI211 (Int.toNat 0))
        refine gv_run 5 true hD (pcₚ := 126) (lvₚ := [(0, .inr (.inr (some 0))), (3, .inl a3), (4, .inl v4_21)]) (stₚ := [.inl (I211 121 (Int.toNat 0))]) (hₚ := gr_h I211 J212) (C := (((((True ∧ True) ∧ True) ∧ True) ∧ True) ∧ (0 ≤ 0 ∧ 0 < ((60 : Nat) : Int)))) rfl ⟨⟨⟨⟨⟨trivial, trivial⟩, trivial⟩, trivial⟩, trivial⟩, ⟨by exact gz_m 118 (by omega), by exact gz_m 119 (by omega)⟩⟩ ?_
        refine gv_if_ne (t := 132) hD rfl rfl ⟨by exact gz_m 120 (by omega), by exact gz_m 121 (by omega)⟩ (fun c228 => ?_) (fun c228 => ?_)
        · have f229 := (gr_b_120 hI211 (Int.toNat 0))
          refine gv_run 4 true hD (pcₚ := 138) (lvₚ := [(0, .inr (.inr (some 0))), (3, .inl a3), (4, .inl v4_21)]) (stₚ := [.inl (I211 120 (Int.toNat 0))]) (hₚ := gr_h I211 J212) (C := ((((True ∧ True) ∧ True) ∧ True) ∧ (0 ≤ 0 ∧ 0 < ((1440 : Nat) : Int)))) rfl ⟨⟨⟨⟨trivial, trivial⟩, trivial⟩, trivial⟩, ⟨by exact gz_m 122 (by omega), by exact gz_m 123 (by omega)⟩⟩ ?_
          refine gv_run 5 true hD (pcₚ := 146) (lvₚ := [(7, .inl 0), (6, .inl 0), (5, .inl (I211 120 (Int.toNat 0))), (0, .inr (.inr (some 0))), (3, .inl a3), (4, .inl v4_21)]) (stₚ := []) (hₚ := gr_h I211 J212) (C := (((((True ∧ True) ∧ True) ∧ True) ∧ True) ∧ True)) rfl ⟨⟨⟨⟨⟨trivial, trivial⟩, trivial⟩, trivial⟩, trivial⟩, trivial⟩ ?_
          refine gv_pick [3, 4, 5, 2, 1, 0] rfl ?_
          exact L146 _ I211 J212 ((I211 120 (Int.toNat 0))) 0 0 (Nat.lt_succ_self _) hI211 FI211 FJ212 KGR_I211 KFV_I211 KPL_I211 KOX_I211 KKR_I211 (by exact gz_m 124 (by omega))
        · refine gv_run 1 true hD (pcₚ := 339) (lvₚ := [(0, .inr (.inr (some 0))), (3, .inl a3), (4, .inl v4_21)]) (stₚ := []) (hₚ := gr_h I211 J212) (C := (True ∧ True)) rfl ⟨trivial, trivial⟩ ?_
          exact L339 I211 J212 hI211 FI211 FJ212 KGR_I211 KFV_I211 KPL_I211 KOX_I211 KKR_I211 (by exact gz_m 125 (by omega))
      · refine gv_run 1 true hD (pcₚ := 339) (lvₚ := [(0, .inr (.inr (some 0))), (3, .inl a3), (4, .inl v4_21)]) (stₚ := []) (hₚ := gr_h I193 J194) (C := (True ∧ True)) rfl ⟨trivial, trivial⟩ ?_
        exact L339 I193 J194 hI193 FI193 FJ194 KGR_I193 KFV_I193 KPL_I193 KOX_I193 KKR_I193 (by exact gz_m 126 (by omega))
set_option maxHeartbeats 8000000 in
set_option maxRecDepth 100000 in
theorem r_swap_t {ws0 : List Cond} {tb : String → gz_T} (hws : ∀ w ∈ gr_ws, w ∈ ws0) (htb : tb RX13 = gr_T) (ext : gz_Sh) (I : gr_I) (J : gr_J) (hI : gr_Inv I) (a1 : Int) (a2 : Int) (a3 : Int) (ha1 : (-2147483648) ≤ a1 ∧ a1 ≤ 2147483647) (ha2 : (-2147483648) ≤ a2 ∧ a2 ≤ 2147483647) (ha3 : (-2147483648) ≤ a3 ∧ a3 ≤ 2147483647) (KGR_I : gr_GR I) (KFV_I : gr_FV I) (KPL_I : gr_PL I) (KOX_I : gr_OX I) : ∃ r hₚ, gz_Ev ws0 tb 801 (yX13_swap, cX13_swap, 9, (some .int)) [.inr (.inr (some 0)), .inl a1, .inl a2, .inl a3] (gr_sh ++ ext) (gr_h I J) r (gr_sh ++ ext) hₚ 0 0 ∧ (∃ (Iₚ : gr_I) (Jₚ : gr_J), hₚ = gr_h Iₚ Jₚ ∧ gr_Inv Iₚ ∧ gr_fr [0, 68, 69, 126, 127, 128, 143, 157, 158, 159, 160, 161, 166, 167, 168, 169, 170, 177, 179, 180, 181, 186, 188, 201] [57, 76, 77, 78, 79, 83, 85, 87, 88, 89, 90, 91, 92, 93, 94, 95, 96, 97, 98, 99, 100, 101, 103, 104, 105, 106, 107, 108, 109, 110, 111, 112, 113, 116, 117, 118, 119, 120, 121, 122, 123, 124, 125] I Iₚ ∧ gr_fj [0, 68, 69, 126, 127, 128, 143, 157, 158, 159, 160, 161, 166, 167, 168, 169, 170, 177, 179, 180, 181, 186, 188, 201] [57, 76, 77, 78, 79, 83, 85, 87, 88, 89, 90, 91, 92, 93, 94, 95, 96, 97, 98, 99, 100, 101, 103, 104, 105, 106, 107, 108, 109, 110, 111, 112, 113, 116, 117, 118, 119, 120, 121, 122, 123, 124, 125] J Jₚ ∧ gr_GR Iₚ ∧ gr_FV Iₚ ∧ gr_PL Iₚ ∧ gr_OX Iₚ ∧ (∃ z : Int, r = some (.inl z) ∧ (-3) ≤ z ∧ z ≤ 16 ∧ (((0 ≤ a1 ∧ a1 < I 0 1) ∧ (0 ≤ a2 ∧ a2 < I 0 2) ∧ (0 ≤ a3 ∧ a3 < I 0 1)) → Iₚ 0 68 = 0) ∧ (¬ ((0 ≤ a1 ∧ a1 < I 0 1) ∧ (0 ≤ a2 ∧ a2 < I 0 2) ∧ (0 ≤ a3 ∧ a3 < I 0 1)) → Iₚ 0 68 = I 0 68) ∧ (gr_KR I Iₚ))) := by
  have FI : gr_fr [0, 68, 69, 126, 127, 128, 143, 157, 158, 159, 160, 161, 166, 167, 168, 169, 170, 177, 179, 180, 181, 186, 188, 201] [57, 76, 77, 78, 79, 83, 85, 87, 88, 89, 90, 91, 92, 93, 94, 95, 96, 97, 98, 99, 100, 101, 103, 104, 105, 106, 107, 108, 109, 110, 111, 112, 113, 116, 117, 118, 119, 120, 121, 122, 123, 124, 125] I I := fun _ _ _ => rfl
  have FJ : gr_fj [0, 68, 69, 126, 127, 128, 143, 157, 158, 159, 160, 161, 166, 167, 168, 169, 170, 177, 179, 180, 181, 186, 188, 201] [57, 76, 77, 78, 79, 83, 85, 87, 88, 89, 90, 91, 92, 93, 94, 95, 96, 97, 98, 99, 100, 101, 103, 104, 105, 106, 107, 108, 109, 110, 111, 112, 113, 116, 117, 118, 119, 120, 121, 122, 123, 124, 125] J J := fun _ _ _ => rfl
  have hD : gv_D (gr_E ws0 tb 800 (yX13_swap, cX13_swap, 9, (some .int)) kX13_swap) := gq_of oX13_swap
  refine gr_ev (d := 800) (l := kX13_swap) (Po := fun r hₚ => (∃ (Iₚ : gr_I) (Jₚ : gr_J), hₚ = gr_h Iₚ Jₚ ∧ gr_Inv Iₚ ∧ gr_fr [0, 68, 69, 126, 127, 128, 143, 157, 158, 159, 160, 161, 166, 167, 168, 169, 170, 177, 179, 180, 181, 186, 188, 201] [57, 76, 77, 78, 79, 83, 85, 87, 88, 89, 90, 91, 92, 93, 94, 95, 96, 97, 98, 99, 100, 101, 103, 104, 105, 106, 107, 108, 109, 110, 111, 112, 113, 116, 117, 118, 119, 120, 121, 122, 123, 124, 125] I Iₚ ∧ gr_fj [0, 68, 69, 126, 127, 128, 143, 157, 158, 159, 160, 161, 166, 167, 168, 169, 170, 177, 179, 180, 181, 186, 188, 201] [57, 76, 77, 78, 79, 83, 85, 87, 88, 89, 90, 91, 92, 93, 94, 95, 96, 97, 98, 99, 100, 101, 103, 104, 105, 106, 107, 108, 109, 110, 111, 112, 113, 116, 117, 118, 119, 120, 121, 122, 123, 124, 125] J Jₚ ∧ gr_GR Iₚ ∧ gr_FV Iₚ ∧ gr_PL Iₚ ∧ gr_OX Iₚ ∧ (∃ z : Int, r = some (.inl z) ∧ (-3) ≤ z ∧ z ≤ 16 ∧ (((0 ≤ a1 ∧ a1 < I 0 1) ∧ (0 ≤ a2 ∧ a2 < I 0 2) ∧ (0 ≤ a3 ∧ a3 < I 0 1)) → Iₚ 0 68 = 0) ∧ (¬ ((0 ≤ a1 ∧ a1 < I 0 1) ∧ (0 ≤ a2 ∧ a2 < I 0 2) ∧ (0 ≤ a3 ∧ a3 < I 0 1)) → Iₚ 0 68 = I 0 68) ∧ (gr_KR I Iₚ)))) htb rfl (Nat.le_of_ble_eq_true rfl) ?_
  have f1 := (gr_b_0_188 hI)
  have f2 := (gr_b_0_186 hI)
  have f3 := (gr_b_0_201 hI)
  have f4 := (gr_b_0_177 hI)
  have f5 := (gr_b_0_68 hI)
  have f6 := (gr_b_0_1 hI)
  have f7 := (gr_b_0_2 hI)
  have KKR_I : gr_KR I I := gr_KR_rf
  have L24 : ∀ (I8 : gr_I) (J9 : gr_J) , gr_Inv I8 → gr_fr [0, 68, 69, 126, 127, 128, 143, 157, 158, 159, 160, 161, 166, 167, 168, 169, 170, 177, 179, 180, 181, 186, 188, 201] [57, 76, 77, 78, 79, 83, 85, 87, 88, 89, 90, 91, 92, 93, 94, 95, 96, 97, 98, 99, 100, 101, 103, 104, 105, 106, 107, 108, 109, 110, 111, 112, 113, 116, 117, 118, 119, 120, 121, 122, 123, 124, 125] I I8 → gr_fj [0, 68, 69, 126, 127, 128, 143, 157, 158, 159, 160, 161, 166, 167, 168, 169, 170, 177, 179, 180, 181, 186, 188, 201] [57, 76, 77, 78, 79, 83, 85, 87, 88, 89, 90, 91, 92, 93, 94, 95, 96, 97, 98, 99, 100, 101, 103, 104, 105, 106, 107, 108, 109, 110, 111, 112, 113, 116, 117, 118, 119, 120, 121, 122, 123, 124, 125] J J9 → gr_GR I8 → gr_FV I8 → gr_PL I8 → gr_OX I8 → gr_KR I I8 → ((I8 0 68 = I 0 68) ∧ (¬ ((0 ≤ a1 ∧ a1 < I 0 1) ∧ (0 ≤ a2 ∧ a2 < I 0 2) ∧ (0 ≤ a3 ∧ a3 < I 0 1)))) → gv_X (gr_E ws0 tb 800 (yX13_swap, cX13_swap, 9, (some .int)) kX13_swap) (gv_Q cX13_swap (some .int) (gr_sh ++ ext) (fun r hₚ => (∃ (Iₚ : gr_I) (Jₚ : gr_J), hₚ = gr_h Iₚ Jₚ ∧ gr_Inv Iₚ ∧ gr_fr [0, 68, 69, 126, 127, 128, 143, 157, 158, 159, 160, 161, 166, 167, 168, 169, 170, 177, 179, 180, 181, 186, 188, 201] [57, 76, 77, 78, 79, 83, 85, 87, 88, 89, 90, 91, 92, 93, 94, 95, 96, 97, 98, 99, 100, 101, 103, 104, 105, 106, 107, 108, 109, 110, 111, 112, 113, 116, 117, 118, 119, 120, 121, 122, 123, 124, 125] I Iₚ ∧ gr_fj [0, 68, 69, 126, 127, 128, 143, 157, 158, 159, 160, 161, 166, 167, 168, 169, 170, 177, 179, 180, 181, 186, 188, 201] [57, 76, 77, 78, 79, 83, 85, 87, 88, 89, 90, 91, 92, 93, 94, 95, 96, 97, 98, 99, 100, 101, 103, 104, 105, 106, 107, 108, 109, 110, 111, 112, 113, 116, 117, 118, 119, 120, 121, 122, 123, 124, 125] J Jₚ ∧ gr_GR Iₚ ∧ gr_FV Iₚ ∧ gr_PL Iₚ ∧ gr_OX Iₚ ∧ (∃ z : Int, r = some (.inl z) ∧ (-3) ≤ z ∧ z ≤ 16 ∧ (((0 ≤ a1 ∧ a1 < I 0 1) ∧ (0 ≤ a2 ∧ a2 < I 0 2) ∧ (0 ≤ a3 ∧ a3 < I 0 1)) → Iₚ 0 68 = 0) ∧ (¬ ((0 ≤ a1 ∧ a1 < I 0 1) ∧ (0 ≤ a2 ∧ a2 < I 0 2) ∧ (0 ≤ a3 ∧ a3 < I 0 1)) → Iₚ 0 68 = I 0 68) ∧ (gr_KR I Iₚ))))) (24, [], [], gr_sh ++ ext, gr_h I8 J9) := by
    intro I8 J9 hI8 FI8 FJ9 KGR_I8 KFV_I8 KPL_I8 KOX_I8 KKR_I8 m_10
    obtain ⟨e0_10, e1_10⟩ := m_10
    have f11 := (gr_b_0_188 hI8)
    have f12 := (gr_b_0_186 hI8)
    have f13 := (gr_b_0_201 hI8)
    have f14 := (gr_b_0_177 hI8)
    have f15 := (gr_b_0_68 hI8)
    have f16 := (gr_b_0_1 hI8)
    have f17 := (gr_b_0_2 hI8)
    refine gv_run 1 true hD (pcₚ := 25) (lvₚ := []) (stₚ := [.inl 0]) (hₚ := gr_h I8 J9) (C := (True ∧ True)) rfl ⟨trivial, trivial⟩ ?_
    have b18 : (((0 ≤ a1 ∧ a1 < I 0 1) ∧ (0 ≤ a2 ∧ a2 < I 0 2) ∧ (0 ≤ a3 ∧ a3 < I 0 1)) → I8 0 68 = 0) ∧ (¬ ((0 ≤ a1 ∧ a1 < I 0 1) ∧ (0 ≤ a2 ∧ a2 < I 0 2) ∧ (0 ≤ a3 ∧ a3 < I 0 1)) → I8 0 68 = I 0 68) := by exact gz_m 0 (by omega)
    exact gv_iret hD rfl ⟨I8, J9, rfl, hI8, FI8, FJ9, KGR_I8, KFV_I8, KPL_I8, KOX_I8, ⟨_, rfl, by exact gz_m 1 (by omega), by exact gz_m 2 (by omega), b18.1, b18.2, KKR_I8⟩⟩
  have L69 : ∀ (n : Nat) (I19 : gr_I) (J20 : gr_J) (v4_21 : Int), (17 - v4_21).toNat < n → gr_Inv I19 → gr_fr [0, 68, 69, 126, 127, 128, 143, 157, 158, 159, 160, 161, 166, 167, 168, 169, 170, 177, 179, 180, 181, 186, 188, 201] [57, 76, 77, 78, 79, 83, 85, 87, 88, 89, 90, 91, 92, 93, 94, 95, 96, 97, 98, 99, 100, 101, 103, 104, 105, 106, 107, 108, 109, 110, 111, 112, 113, 116, 117, 118, 119, 120, 121, 122, 123, 124, 125] I I19 → gr_fj [0, 68, 69, 126, 127, 128, 143, 157, 158, 159, 160, 161, 166, 167, 168, 169, 170, 177, 179, 180, 181, 186, 188, 201] [57, 76, 77, 78, 79, 83, 85, 87, 88, 89, 90, 91, 92, 93, 94, 95, 96, 97, 98, 99, 100, 101, 103, 104, 105, 106, 107, 108, 109, 110, 111, 112, 113, 116, 117, 118, 119, 120, 121, 122, 123, 124, 125] J J20 → gr_GR I19 → gr_FV I19 → gr_PL I19 → gr_OX I19 → gr_KR I I19 → ((0 ≤ a3 ∧ a3 ≤ 7) ∧ (0 ≤ v4_21 ∧ v4_21 ≤ 16) ∧ (I19 0 201 ≤ v4_21) ∧ (I19 0 68 = 0) ∧ (((0 ≤ a1 ∧ a1 < I 0 1) ∧ (0 ≤ a2 ∧ a2 < I 0 2) ∧ (0 ≤ a3 ∧ a3 < I 0 1)))) → gv_X (gr_E ws0 tb 800 (yX13_swap, cX13_swap, 9, (some .int)) kX13_swap) (gv_Q cX13_swap (some .int) (gr_sh ++ ext) (fun r hₚ => (∃ (Iₚ : gr_I) (Jₚ : gr_J), hₚ = gr_h Iₚ Jₚ ∧ gr_Inv Iₚ ∧ gr_fr [0, 68, 69, 126, 127, 128, 143, 157, 158, 159, 160, 161, 166, 167, 168, 169, 170, 177, 179, 180, 181, 186, 188, 201] [57, 76, 77, 78, 79, 83, 85, 87, 88, 89, 90, 91, 92, 93, 94, 95, 96, 97, 98, 99, 100, 101, 103, 104, 105, 106, 107, 108, 109, 110, 111, 112, 113, 116, 117, 118, 119, 120, 121, 122, 123, 124, 125] I Iₚ ∧ gr_fj [0, 68, 69, 126, 127, 128, 143, 157, 158, 159, 160, 161, 166, 167, 168, 169, 170, 177, 179, 180, 181, 186, 188, 201] [57, 76, 77, 78, 79, 83, 85, 87, 88, 89, 90, 91, 92, 93, 94, 95, 96, 97, 98, 99, 100, 101, 103, 104, 105, 106, 107, 108, 109, 110, 111, 112, 113, 116, 117, 118, 119, 120, 121, 122, 123, 124, 125] J Jₚ ∧ gr_GR Iₚ ∧ gr_FV Iₚ ∧ gr_PL Iₚ ∧ gr_OX Iₚ ∧ (∃ z : Int, r = some (.inl z) ∧ (-3) ≤ z ∧ z ≤ 16 ∧ (((0 ≤ a1 ∧ a1 < I 0 1) ∧ (0 ≤ a2 ∧ a2 < I 0 2) ∧ (0 ≤ a3 ∧ a3 < I 0 1)) → Iₚ 0 68 = 0) ∧ (¬ ((0 ≤ a1 ∧ a1 < I 0 1) ∧ (0 ≤ a2 ∧ a2 < I 0 2) ∧ (0 ≤ a3 ∧ a3 < I 0 1)) → Iₚ 0 68 = I 0 68) ∧ (gr_KR I Iₚ))))) (69, [(0, .inr (.inr (some 0))), (3, .inl a3), (4, .inl v4_21)], [], gr_sh ++ ext, gr_h I19 J20) := r_swap_t_L69 (ws0 := ws0) (tb := tb) hws htb ext I J hI a1 a2 a3 ha1 ha2 ha3 KGR_I KFV_I KPL_I KOX_I
  refine gv_run 2 true hD (pcₚ := 2) (lvₚ := [(0, .inr (.inr (some 0))), (1, .inl a1), (2, .inl a2), (3, .inl a3)]) (stₚ := [.inl a1, .inr (.inr (some 0))]) (hₚ := gr_h I J) (C := ((True ∧ True) ∧ True)) rfl ⟨⟨trivial, trivial⟩, trivial⟩ ?_
  obtain ⟨r230, h230, E230, P230⟩ := r_noTongue_t (ws0 := ws0) (tb := tb) hws htb ext I J hI a1 ⟨by exact gz_m 127 (by omega), by exact gz_m 128 (by omega)⟩ 
  obtain ⟨I231, J232, rfl, hI231, g230, k230, ⟨z230, rfl, q230⟩⟩ := P230
  have FI231 := gr_frt FI g230 rfl rfl
  have FJ232 := gr_fjt FJ k230 rfl rfl
  have t233 := g230 0 188 rfl
  have t234 := g230 0 186 rfl
  have t235 := g230 0 201 rfl
  have t236 := g230 0 177 rfl
  have t237 := g230 0 68 rfl
  have t238 := g230 0 1 rfl
  have t239 := g230 0 2 rfl
  have f240 := (gr_b_0_188 hI231)
  have f241 := (gr_b_0_186 hI231)
  have f242 := (gr_b_0_201 hI231)
  have f243 := (gr_b_0_177 hI231)
  have f244 := (gr_b_0_68 hI231)
  have f245 := (gr_b_0_1 hI231)
  have f246 := (gr_b_0_2 hI231)
  have KGR_I231 := gr_GR_fr KGR_I (fun k => g230 19 k rfl) (fun k => g230 18 k rfl) (fun k => g230 36 k rfl) (fun k => g230 41 k rfl) (fun k => g230 42 k rfl) (fun k => g230 43 k rfl) (fun k => g230 45 k rfl) (fun k => g230 46 k rfl) (fun k => g230 47 k rfl) (fun k => g230 6 k rfl) (fun k => g230 7 k rfl) (fun k => g230 8 k rfl) (g230 0 3 rfl)
  have KFV_I231 := gr_FV_fr KFV_I (fun k => g230 87 k rfl) (fun k => g230 88 k rfl) (fun k => g230 104 k rfl) (fun k => g230 90 k rfl) (fun k => g230 91 k rfl) (fun k => g230 92 k rfl) (fun k => g230 94 k rfl) (fun k => g230 95 k rfl) (fun k => g230 97 k rfl) (fun k => g230 98 k rfl) (fun k => g230 19 k rfl) (fun k => g230 18 k rfl) (fun k => g230 41 k rfl) (fun k => g230 6 k rfl) (fun k => g230 99 k rfl) (fun k => g230 105 k rfl) (fun k => g230 107 k rfl) (fun k => g230 108 k rfl) (fun k => g230 110 k rfl) (fun k => g230 111 k rfl) (g230 0 157 rfl) (g230 0 158 rfl) (g230 0 177 rfl) (g230 0 186 rfl) (g230 0 159 rfl) hI
  have KPL_I231 := gr_PL_fr KPL_I (fun k => g230 114 k rfl) (fun k => g230 115 k rfl) (fun k => g230 6 k rfl) (g230 0 3 rfl)
  have KOX_I231 := gr_OX_fr KOX_I (fun k => g230 121 k rfl) (fun k => g230 120 k rfl)
  have KKR_I231 := gr_KR_g KKR_I g230 (by decide)
  refine gv_callV hD rfl (As := [.inl a1]) (st := []) rfl (by decide) rfl rfl (gr_lV hws rfl) (Nat.le_of_ble_eq_true rfl) (gz_Ev_mono (d := 1) (by decide) E230) ?_
  show gv_X _ _ (5, [(0, .inr (.inr (some 0))), (1, .inl a1), (2, .inl a2), (3, .inl a3)], [.inl z230], gr_sh ++ ext, gr_h I231 J232)
  refine gv_if_ne (t := 24) hD rfl rfl ⟨by exact gz_m 129 (by omega), by exact gz_m 130 (by omega)⟩ (fun c247 => ?_) (fun c247 => ?_)
  · refine gv_pick [] rfl ?_
    exact L24 I231 J232 hI231 FI231 FJ232 KGR_I231 KFV_I231 KPL_I231 KOX_I231 KKR_I231 (by exact gz_m 131 (by omega))
  · refine gv_run 2 true hD (pcₚ := 10) (lvₚ := [(0, .inr (.inr (some 0))), (1, .inl a1), (2, .inl a2), (3, .inl a3)]) (stₚ := [.inl a2, .inr (.inr (some 0))]) (hₚ := gr_h I231 J232) (C := ((True ∧ True) ∧ True)) rfl ⟨⟨trivial, trivial⟩, trivial⟩ ?_
    obtain ⟨r248, h248, E248, P248⟩ := r_noKind_t (ws0 := ws0) (tb := tb) hws htb ext I231 J232 hI231 a2 ⟨by exact gz_m 132 (by omega), by exact gz_m 133 (by omega)⟩ 
    obtain ⟨I249, J250, rfl, hI249, g248, k248, ⟨z248, rfl, q248⟩⟩ := P248
    have FI249 := gr_frt FI231 g248 rfl rfl
    have FJ250 := gr_fjt FJ232 k248 rfl rfl
    have t251 := g248 0 188 rfl
    have t252 := g248 0 186 rfl
    have t253 := g248 0 201 rfl
    have t254 := g248 0 177 rfl
    have t255 := g248 0 68 rfl
    have t256 := g248 0 1 rfl
    have t257 := g248 0 2 rfl
    have f258 := (gr_b_0_188 hI249)
    have f259 := (gr_b_0_186 hI249)
    have f260 := (gr_b_0_201 hI249)
    have f261 := (gr_b_0_177 hI249)
    have f262 := (gr_b_0_68 hI249)
    have f263 := (gr_b_0_1 hI249)
    have f264 := (gr_b_0_2 hI249)
    have KGR_I249 := gr_GR_fr KGR_I231 (fun k => g248 19 k rfl) (fun k => g248 18 k rfl) (fun k => g248 36 k rfl) (fun k => g248 41 k rfl) (fun k => g248 42 k rfl) (fun k => g248 43 k rfl) (fun k => g248 45 k rfl) (fun k => g248 46 k rfl) (fun k => g248 47 k rfl) (fun k => g248 6 k rfl) (fun k => g248 7 k rfl) (fun k => g248 8 k rfl) (g248 0 3 rfl)
    have KFV_I249 := gr_FV_fr KFV_I231 (fun k => g248 87 k rfl) (fun k => g248 88 k rfl) (fun k => g248 104 k rfl) (fun k => g248 90 k rfl) (fun k => g248 91 k rfl) (fun k => g248 92 k rfl) (fun k => g248 94 k rfl) (fun k => g248 95 k rfl) (fun k => g248 97 k rfl) (fun k => g248 98 k rfl) (fun k => g248 19 k rfl) (fun k => g248 18 k rfl) (fun k => g248 41 k rfl) (fun k => g248 6 k rfl) (fun k => g248 99 k rfl) (fun k => g248 105 k rfl) (fun k => g248 107 k rfl) (fun k => g248 108 k rfl) (fun k => g248 110 k rfl) (fun k => g248 111 k rfl) (g248 0 157 rfl) (g248 0 158 rfl) (g248 0 177 rfl) (g248 0 186 rfl) (g248 0 159 rfl) hI231
    have KPL_I249 := gr_PL_fr KPL_I231 (fun k => g248 114 k rfl) (fun k => g248 115 k rfl) (fun k => g248 6 k rfl) (g248 0 3 rfl)
    have KOX_I249 := gr_OX_fr KOX_I231 (fun k => g248 121 k rfl) (fun k => g248 120 k rfl)
    have KKR_I249 := gr_KR_g KKR_I231 g248 (by decide)
    refine gv_callV hD rfl (As := [.inl a2]) (st := []) rfl (by decide) rfl rfl (gr_lV hws rfl) (Nat.le_of_ble_eq_true rfl) (gz_Ev_mono (d := 1) (by decide) E248) ?_
    show gv_X _ _ (13, [(0, .inr (.inr (some 0))), (1, .inl a1), (2, .inl a2), (3, .inl a3)], [.inl z248], gr_sh ++ ext, gr_h I249 J250)
    refine gv_if_ne (t := 24) hD rfl rfl ⟨by exact gz_m 134 (by omega), by exact gz_m 135 (by omega)⟩ (fun c265 => ?_) (fun c265 => ?_)
    · refine gv_pick [] rfl ?_
      exact L24 I249 J250 hI249 FI249 FJ250 KGR_I249 KFV_I249 KPL_I249 KOX_I249 KKR_I249 (by exact gz_m 136 (by omega))
    · refine gv_run 2 true hD (pcₚ := 18) (lvₚ := [(0, .inr (.inr (some 0))), (1, .inl a1), (2, .inl a2), (3, .inl a3)]) (stₚ := [.inl a3, .inr (.inr (some 0))]) (hₚ := gr_h I249 J250) (C := ((True ∧ True) ∧ True)) rfl ⟨⟨trivial, trivial⟩, trivial⟩ ?_
      obtain ⟨r266, h266, E266, P266⟩ := r_noTongue_t (ws0 := ws0) (tb := tb) hws htb ext I249 J250 hI249 a3 ⟨by exact gz_m 137 (by omega), by exact gz_m 138 (by omega)⟩ 
      obtain ⟨I267, J268, rfl, hI267, g266, k266, ⟨z266, rfl, q266⟩⟩ := P266
      have FI267 := gr_frt FI249 g266 rfl rfl
      have FJ268 := gr_fjt FJ250 k266 rfl rfl
      have t269 := g266 0 188 rfl
      have t270 := g266 0 186 rfl
      have t271 := g266 0 201 rfl
      have t272 := g266 0 177 rfl
      have t273 := g266 0 68 rfl
      have t274 := g266 0 1 rfl
      have t275 := g266 0 2 rfl
      have f276 := (gr_b_0_188 hI267)
      have f277 := (gr_b_0_186 hI267)
      have f278 := (gr_b_0_201 hI267)
      have f279 := (gr_b_0_177 hI267)
      have f280 := (gr_b_0_68 hI267)
      have f281 := (gr_b_0_1 hI267)
      have f282 := (gr_b_0_2 hI267)
      have KGR_I267 := gr_GR_fr KGR_I249 (fun k => g266 19 k rfl) (fun k => g266 18 k rfl) (fun k => g266 36 k rfl) (fun k => g266 41 k rfl) (fun k => g266 42 k rfl) (fun k => g266 43 k rfl) (fun k => g266 45 k rfl) (fun k => g266 46 k rfl) (fun k => g266 47 k rfl) (fun k => g266 6 k rfl) (fun k => g266 7 k rfl) (fun k => g266 8 k rfl) (g266 0 3 rfl)
      have KFV_I267 := gr_FV_fr KFV_I249 (fun k => g266 87 k rfl) (fun k => g266 88 k rfl) (fun k => g266 104 k rfl) (fun k => g266 90 k rfl) (fun k => g266 91 k rfl) (fun k => g266 92 k rfl) (fun k => g266 94 k rfl) (fun k => g266 95 k rfl) (fun k => g266 97 k rfl) (fun k => g266 98 k rfl) (fun k => g266 19 k rfl) (fun k => g266 18 k rfl) (fun k => g266 41 k rfl) (fun k => g266 6 k rfl) (fun k => g266 99 k rfl) (fun k => g266 105 k rfl) (fun k => g266 107 k rfl) (fun k => g266 108 k rfl) (fun k => g266 110 k rfl) (fun k => g266 111 k rfl) (g266 0 157 rfl) (g266 0 158 rfl) (g266 0 177 rfl) (g266 0 186 rfl) (g266 0 159 rfl) hI249
      have KPL_I267 := gr_PL_fr KPL_I249 (fun k => g266 114 k rfl) (fun k => g266 115 k rfl) (fun k => g266 6 k rfl) (g266 0 3 rfl)
      have KOX_I267 := gr_OX_fr KOX_I249 (fun k => g266 121 k rfl) (fun k => g266 120 k rfl)
      have KKR_I267 := gr_KR_g KKR_I249 g266 (by decide)
      refine gv_callV hD rfl (As := [.inl a3]) (st := []) rfl (by decide) rfl rfl (gr_lV hws rfl) (Nat.le_of_ble_eq_true rfl) (gz_Ev_mono (d := 1) (by decide) E266) ?_
      show gv_X _ _ (21, [(0, .inr (.inr (some 0))), (1, .inl a1), (2, .inl a2), (3, .inl a3)], [.inl z266], gr_sh ++ ext, gr_h I267 J268)
      refine gv_if_eq (t := 26) hD rfl rfl ⟨by exact gz_m 139 (by omega), by exact gz_m 140 (by omega)⟩ (fun c283 => ?_) (fun c283 => ?_)
      · refine gv_run 3 true hD (pcₚ := 31) (lvₚ := [(0, .inr (.inr (some 0))), (1, .inl a1), (2, .inl a2), (3, .inl a3)]) (stₚ := []) (hₚ := gz_up (gr_h I267 J268) 0 201 (.inl 0)) (C := (((True ∧ True) ∧ True) ∧ True)) rfl ⟨⟨⟨trivial, trivial⟩, trivial⟩, trivial⟩ ?_
        refine gr_st hI267 FI267 rfl rfl ⟨⟨by show 0 ≤ _; exact gz_m 141 (by omega), by show _ ≤ 16; exact gz_m 142 (by omega)⟩, trivial⟩ (fun I284 hI284 FI284 q285 p285 => ?_)
        have t286 := p285 0 188 (by decide)
        have t287 := p285 0 186 (by decide)
        have t288 := p285 0 177 (by decide)
        have t289 := p285 0 68 (by decide)
        have t290 := p285 0 1 (by decide)
        have t291 := p285 0 2 (by decide)
        have f292 := (gr_b_0_188 hI284)
        have f293 := (gr_b_0_186 hI284)
        have f294 := (gr_b_0_201 hI284)
        have f295 := (gr_b_0_177 hI284)
        have f296 := (gr_b_0_68 hI284)
        have f297 := (gr_b_0_1 hI284)
        have f298 := (gr_b_0_2 hI284)
        have KGR_I284 := gr_GR_fr KGR_I267 (fun k => p285 19 k (fun q => absurd q.1 (by first | exact gz_ne rfl | decide))) (fun k => p285 18 k (fun q => absurd q.1 (by first | exact gz_ne rfl | decide))) (fun k => p285 36 k (fun q => absurd q.1 (by first | exact gz_ne rfl | decide))) (fun k => p285 41 k (fun q => absurd q.1 (by first | exact gz_ne rfl | decide))) (fun k => p285 42 k (fun q => absurd q.1 (by first | exact gz_ne rfl | decide))) (fun k => p285 43 k (fun q => absurd q.1 (by first | exact gz_ne rfl | decide))) (fun k => p285 45 k (fun q => absurd q.1 (by first | exact gz_ne rfl | decide))) (fun k => p285 46 k (fun q => absurd q.1 (by first | exact gz_ne rfl | decide))) (fun k => p285 47 k (fun q => absurd q.1 (by first | exact gz_ne rfl | decide))) (fun k => p285 6 k (fun q => absurd q.1 (by first | exact gz_ne rfl | decide))) (fun k => p285 7 k (fun q => absurd q.1 (by first | exact gz_ne rfl | decide))) (fun k => p285 8 k (fun q => absurd q.1 (by first | exact gz_ne rfl | decide))) (p285 0 3 (by decide))
        have KFV_I284 := gr_FV_fr KFV_I267 (fun k => p285 87 k (fun q => absurd q.1 (by first | exact gz_ne rfl | decide))) (fun k => p285 88 k (fun q => absurd q.1 (by first | exact gz_ne rfl | decide))) (fun k => p285 104 k (fun q => absurd q.1 (by first | exact gz_ne rfl | decide))) (fun k => p285 90 k (fun q => absurd q.1 (by first | exact gz_ne rfl | decide))) (fun k => p285 91 k (fun q => absurd q.1 (by first | exact gz_ne rfl | decide))) (fun k => p285 92 k (fun q => absurd q.1 (by first | exact gz_ne rfl | decide))) (fun k => p285 94 k (fun q => absurd q.1 (by first | exact gz_ne rfl | decide))) (fun k => p285 95 k (fun q => absurd q.1 (by first | exact gz_ne rfl | decide))) (fun k => p285 97 k (fun q => absurd q.1 (by first | exact gz_ne rfl | decide))) (fun k => p285 98 k (fun q => absurd q.1 (by first | exact gz_ne rfl | decide))) (fun k => p285 19 k (fun q => absurd q.1 (by first | exact gz_ne rfl | decide))) (fun k => p285 18 k (fun q => absurd q.1 (by first | exact gz_ne rfl | decide))) (fun k => p285 41 k (fun q => absurd q.1 (by first | exact gz_ne rfl | decide))) (fun k => p285 6 k (fun q => absurd q.1 (by first | exact gz_ne rfl | decide))) (fun k => p285 99 k (fun q => absurd q.1 (by first | exact gz_ne rfl | decide))) (fun k => p285 105 k (fun q => absurd q.1 (by first | exact gz_ne rfl | decide))) (fun k => p285 107 k (fun q => absurd q.1 (by first | exact gz_ne rfl | decide))) (fun k => p285 108 k (fun q => absurd q.1 (by first | exact gz_ne rfl | decide))) (fun k => p285 110 k (fun q => absurd q.1 (by first | exact gz_ne rfl | decide))) (fun k => p285 111 k (fun q => absurd q.1 (by first | exact gz_ne rfl | decide))) (p285 0 157 (by decide)) (p285 0 158 (by decide)) (p285 0 177 (by decide)) (p285 0 186 (by decide)) (p285 0 159 (by decide)) hI267
        have KPL_I284 := gr_PL_fr KPL_I267 (fun k => p285 114 k (fun q => absurd q.1 (by first | exact gz_ne rfl | decide))) (fun k => p285 115 k (fun q => absurd q.1 (by first | exact gz_ne rfl | decide))) (fun k => p285 6 k (fun q => absurd q.1 (by first | exact gz_ne rfl | decide))) (p285 0 3 (by decide))
        have KOX_I284 := gr_OX_fr KOX_I267 (fun k => p285 121 k (fun q => absurd q.1 (by first | exact gz_ne rfl | decide))) (fun k => p285 120 k (fun q => absurd q.1 (by first | exact gz_ne rfl | decide)))
        have KKR_I284 := gr_KR_f KKR_I267 p285 (by decide)
        refine gv_run 1 true hD (pcₚ := 32) (lvₚ := [(0, .inr (.inr (some 0))), (1, .inl a1), (2, .inl a2), (3, .inl a3)]) (stₚ := [.inr (.inr (some 0))]) (hₚ := gr_h I284 J268) (C := (True ∧ True)) rfl ⟨trivial, trivial⟩ ?_
        obtain ⟨r299, h299, E299, P299⟩ := r_sentence_t (ws0 := ws0) (tb := tb) hws htb ext I284 J268 hI284   
        obtain ⟨I300, J301, rfl, hI300, g299, k299, ⟨z299, rfl, q299⟩⟩ := P299
        have FI300 := gr_frt FI284 g299 rfl rfl
        have FJ301 := gr_fjt FJ268 k299 rfl rfl
        have t302 := g299 0 188 rfl
        have t303 := g299 0 186 rfl
        have t304 := g299 0 201 rfl
        have t305 := g299 0 177 rfl
        have t306 := g299 0 1 rfl
        have t307 := g299 0 2 rfl
        have f308 := (gr_b_0_188 hI300)
        have f309 := (gr_b_0_186 hI300)
        have f310 := (gr_b_0_201 hI300)
        have f311 := (gr_b_0_177 hI300)
        have f312 := (gr_b_0_68 hI300)
        have f313 := (gr_b_0_1 hI300)
        have f314 := (gr_b_0_2 hI300)
        have KGR_I300 := gr_GR_fr KGR_I284 (fun k => g299 19 k rfl) (fun k => g299 18 k rfl) (fun k => g299 36 k rfl) (fun k => g299 41 k rfl) (fun k => g299 42 k rfl) (fun k => g299 43 k rfl) (fun k => g299 45 k rfl) (fun k => g299 46 k rfl) (fun k => g299 47 k rfl) (fun k => g299 6 k rfl) (fun k => g299 7 k rfl) (fun k => g299 8 k rfl) (g299 0 3 rfl)
        have KFV_I300 := gr_FV_fr KFV_I284 (fun k => g299 87 k rfl) (fun k => g299 88 k rfl) (fun k => g299 104 k rfl) (fun k => g299 90 k rfl) (fun k => g299 91 k rfl) (fun k => g299 92 k rfl) (fun k => g299 94 k rfl) (fun k => g299 95 k rfl) (fun k => g299 97 k rfl) (fun k => g299 98 k rfl) (fun k => g299 19 k rfl) (fun k => g299 18 k rfl) (fun k => g299 41 k rfl) (fun k => g299 6 k rfl) (fun k => g299 99 k rfl) (fun k => g299 105 k rfl) (fun k => g299 107 k rfl) (fun k => g299 108 k rfl) (fun k => g299 110 k rfl) (fun k => g299 111 k rfl) (g299 0 157 rfl) (g299 0 158 rfl) (g299 0 177 rfl) (g299 0 186 rfl) (g299 0 159 rfl) hI284
        have KPL_I300 := gr_PL_fr KPL_I284 (fun k => g299 114 k rfl) (fun k => g299 115 k rfl) (fun k => g299 6 k rfl) (g299 0 3 rfl)
        have KOX_I300 := gr_OX_fr KOX_I284 (fun k => g299 121 k rfl) (fun k => g299 120 k rfl)
        have KKR_I300 := gr_KR_g KKR_I284 g299 (by decide)
        refine gv_callV hD rfl (As := []) (st := []) rfl (by decide) rfl rfl (gr_lV hws rfl) (Nat.le_of_ble_eq_true rfl) (gz_Ev_mono (d := 2) (by decide) E299) ?_
        show gv_X _ _ (35, [(0, .inr (.inr (some 0))), (1, .inl a1), (2, .inl a2), (3, .inl a3)], [.inl z299], gr_sh ++ ext, gr_h I300 J301)
        refine gv_if_ne (t := 45) hD rfl rfl ⟨by exact gz_m 143 (by omega), by exact gz_m 144 (by omega)⟩ (fun c315 => ?_) (fun c315 => ?_)
        · refine gv_run 3 true hD (pcₚ := 50) (lvₚ := [(0, .inr (.inr (some 0))), (1, .inl a1), (2, .inl a2), (3, .inl a3)]) (stₚ := []) (hₚ := gz_up (gr_h I300 J301) 0 161 (.inl 0)) (C := (((True ∧ True) ∧ True) ∧ True)) rfl ⟨⟨⟨trivial, trivial⟩, trivial⟩, trivial⟩ ?_
          refine gr_st hI300 FI300 rfl rfl ⟨⟨by show 0 ≤ _; exact gz_m 145 (by omega), by show _ ≤ 400001; exact gz_m 146 (by omega)⟩, trivial⟩ (fun I316 hI316 FI316 q317 p317 => ?_)
          have t318 := p317 0 188 (by decide)
          have t319 := p317 0 186 (by decide)
          have t320 := p317 0 201 (by decide)
          have t321 := p317 0 177 (by decide)
          have t322 := p317 0 68 (by decide)
          have t323 := p317 0 1 (by decide)
          have t324 := p317 0 2 (by decide)
          have f325 := (gr_b_0_188 hI316)
          have f326 := (gr_b_0_186 hI316)
          have f327 := (gr_b_0_201 hI316)
          have f328 := (gr_b_0_177 hI316)
          have f329 := (gr_b_0_68 hI316)
          have f330 := (gr_b_0_1 hI316)
          have f331 := (gr_b_0_2 hI316)
          have KGR_I316 := gr_GR_fr KGR_I300 (fun k => p317 19 k (fun q => absurd q.1 (by first | exact gz_ne rfl | decide))) (fun k => p317 18 k (fun q => absurd q.1 (by first | exact gz_ne rfl | decide))) (fun k => p317 36 k (fun q => absurd q.1 (by first | exact gz_ne rfl | decide))) (fun k => p317 41 k (fun q => absurd q.1 (by first | exact gz_ne rfl | decide))) (fun k => p317 42 k (fun q => absurd q.1 (by first | exact gz_ne rfl | decide))) (fun k => p317 43 k (fun q => absurd q.1 (by first | exact gz_ne rfl | decide))) (fun k => p317 45 k (fun q => absurd q.1 (by first | exact gz_ne rfl | decide))) (fun k => p317 46 k (fun q => absurd q.1 (by first | exact gz_ne rfl | decide))) (fun k => p317 47 k (fun q => absurd q.1 (by first | exact gz_ne rfl | decide))) (fun k => p317 6 k (fun q => absurd q.1 (by first | exact gz_ne rfl | decide))) (fun k => p317 7 k (fun q => absurd q.1 (by first | exact gz_ne rfl | decide))) (fun k => p317 8 k (fun q => absurd q.1 (by first | exact gz_ne rfl | decide))) (p317 0 3 (by decide))
          have KFV_I316 := gr_FV_fr KFV_I300 (fun k => p317 87 k (fun q => absurd q.1 (by first | exact gz_ne rfl | decide))) (fun k => p317 88 k (fun q => absurd q.1 (by first | exact gz_ne rfl | decide))) (fun k => p317 104 k (fun q => absurd q.1 (by first | exact gz_ne rfl | decide))) (fun k => p317 90 k (fun q => absurd q.1 (by first | exact gz_ne rfl | decide))) (fun k => p317 91 k (fun q => absurd q.1 (by first | exact gz_ne rfl | decide))) (fun k => p317 92 k (fun q => absurd q.1 (by first | exact gz_ne rfl | decide))) (fun k => p317 94 k (fun q => absurd q.1 (by first | exact gz_ne rfl | decide))) (fun k => p317 95 k (fun q => absurd q.1 (by first | exact gz_ne rfl | decide))) (fun k => p317 97 k (fun q => absurd q.1 (by first | exact gz_ne rfl | decide))) (fun k => p317 98 k (fun q => absurd q.1 (by first | exact gz_ne rfl | decide))) (fun k => p317 19 k (fun q => absurd q.1 (by first | exact gz_ne rfl | decide))) (fun k => p317 18 k (fun q => absurd q.1 (by first | exact gz_ne rfl | decide))) (fun k => p317 41 k (fun q => absurd q.1 (by first | exact gz_ne rfl | decide))) (fun k => p317 6 k (fun q => absurd q.1 (by first | exact gz_ne rfl | decide))) (fun k => p317 99 k (fun q => absurd q.1 (by first | exact gz_ne rfl | decide))) (fun k => p317 105 k (fun q => absurd q.1 (by first | exact gz_ne rfl | decide))) (fun k => p317 107 k (fun q => absurd q.1 (by first | exact gz_ne rfl | decide))) (fun k => p317 108 k (fun q => absurd q.1 (by first | exact gz_ne rfl | decide))) (fun k => p317 110 k (fun q => absurd q.1 (by first | exact gz_ne rfl | decide))) (fun k => p317 111 k (fun q => absurd q.1 (by first | exact gz_ne rfl | decide))) (p317 0 157 (by decide)) (p317 0 158 (by decide)) (p317 0 177 (by decide)) (p317 0 186 (by decide)) (p317 0 159 (by decide)) hI300
          have KPL_I316 := gr_PL_fr KPL_I300 (fun k => p317 114 k (fun q => absurd q.1 (by first | exact gz_ne rfl | decide))) (fun k => p317 115 k (fun q => absurd q.1 (by first | exact gz_ne rfl | decide))) (fun k => p317 6 k (fun q => absurd q.1 (by first | exact gz_ne rfl | decide))) (p317 0 3 (by decide))
          have KOX_I316 := gr_OX_fr KOX_I300 (fun k => p317 121 k (fun q => absurd q.1 (by first | exact gz_ne rfl | decide))) (fun k => p317 120 k (fun q => absurd q.1 (by first | exact gz_ne rfl | decide)))
          have KKR_I316 := gr_KR_f KKR_I300 p317 (by decide)
          refine gv_run 3 true hD (pcₚ := 53) (lvₚ := [(0, .inr (.inr (some 0))), (1, .inl a1), (2, .inl a2), (3, .inl a3)]) (stₚ := [.inl a2, .inl a1, .inr (.inr (some 0))]) (hₚ := gr_h I316 J301) (C := (((True ∧ True) ∧ True) ∧ True)) rfl ⟨⟨⟨trivial, trivial⟩, trivial⟩, trivial⟩ ?_
          obtain ⟨r332, h332, E332, P332⟩ := r_parsed (ws0 := ws0) (tb := tb) hws htb ext I316 J301 hI316 a1 a2 ⟨by exact gz_m 147 (by omega), by exact gz_m 148 (by omega)⟩ ⟨by exact gz_m 149 (by omega), by exact gz_m 150 (by omega)⟩ KGR_I316
          obtain ⟨I333, J334, rfl, hI333, g332, k332, KGR_I333, ⟨z332, rfl, q332⟩⟩ := P332
          have FI333 := gr_frt FI316 g332 rfl rfl
          have FJ334 := gr_fjt FJ301 k332 rfl rfl
          have t335 := g332 0 188 rfl
          have t336 := g332 0 201 rfl
          have t337 := g332 0 68 rfl
          have t338 := g332 0 1 rfl
          have t339 := g332 0 2 rfl
          have f340 := (gr_b_0_188 hI333)
          have f341 := (gr_b_0_186 hI333)
          have f342 := (gr_b_0_201 hI333)
          have f343 := (gr_b_0_177 hI333)
          have f344 := (gr_b_0_68 hI333)
          have f345 := (gr_b_0_1 hI333)
          have f346 := (gr_b_0_2 hI333)
          have KPL_I333 := gr_PL_fr KPL_I316 (fun k => g332 114 k rfl) (fun k => g332 115 k rfl) (fun k => g332 6 k rfl) (g332 0 3 rfl)
          have KOX_I333 := gr_OX_fr KOX_I316 (fun k => g332 121 k rfl) (fun k => g332 120 k rfl)
          have l332 := q332.2.2.2
          have KKR_I333 := gr_KR_tr KKR_I316 l332
          have KFV_I333 : gr_FV I333 := q332.2.2.1
          refine gv_callV hD rfl (As := [.inl a1, .inl a2]) (st := []) rfl (by decide) rfl rfl (gr_lV hws rfl) (Nat.le_of_ble_eq_true rfl) (gz_Ev_mono (d := 12) (by decide) E332) ?_
          show gv_X _ _ (56, [(0, .inr (.inr (some 0))), (1, .inl a1), (2, .inl a2), (3, .inl a3)], [.inl z332], gr_sh ++ ext, gr_h I333 J334)
          refine gv_if_ge (t := 61) hD rfl rfl ⟨by exact gz_m 151 (by omega), by exact gz_m 152 (by omega)⟩ (fun c347 => ?_) (fun c347 => ?_)
          · refine gv_run 2 true hD (pcₚ := 63) (lvₚ := [(0, .inr (.inr (some 0))), (1, .inl a1), (2, .inl a2), (3, .inl a3)]) (stₚ := [.inl a3, .inr (.inr (some 0))]) (hₚ := gr_h I333 J334) (C := ((True ∧ True) ∧ True)) rfl ⟨⟨trivial, trivial⟩, trivial⟩ ?_
            obtain ⟨r348, h348, E348, P348⟩ := r_forms_k (ws0 := ws0) (tb := tb) hws htb ext I333 J334 hI333 a3 ⟨by exact gz_m 153 (by omega), by exact gz_m 154 (by omega)⟩ 
            obtain ⟨I349, J350, rfl, hI349, g348, k348, ⟨rfl, q348⟩⟩ := P348
            have FI349 := gr_frt FI333 g348 rfl rfl
            have FJ350 := gr_fjt FJ334 k348 rfl rfl
            have t351 := g348 0 188 rfl
            have t352 := g348 0 186 rfl
            have t353 := g348 0 201 rfl
            have t354 := g348 0 177 rfl
            have t355 := g348 0 68 rfl
            have t356 := g348 0 1 rfl
            have t357 := g348 0 2 rfl
            have f358 := (gr_b_0_188 hI349)
            have f359 := (gr_b_0_186 hI349)
            have f360 := (gr_b_0_201 hI349)
            have f361 := (gr_b_0_177 hI349)
            have f362 := (gr_b_0_68 hI349)
            have f363 := (gr_b_0_1 hI349)
            have f364 := (gr_b_0_2 hI349)
            have KGR_I349 := gr_GR_fr KGR_I333 (fun k => g348 19 k rfl) (fun k => g348 18 k rfl) (fun k => g348 36 k rfl) (fun k => g348 41 k rfl) (fun k => g348 42 k rfl) (fun k => g348 43 k rfl) (fun k => g348 45 k rfl) (fun k => g348 46 k rfl) (fun k => g348 47 k rfl) (fun k => g348 6 k rfl) (fun k => g348 7 k rfl) (fun k => g348 8 k rfl) (g348 0 3 rfl)
            have KFV_I349 := gr_FV_fr KFV_I333 (fun k => g348 87 k rfl) (fun k => g348 88 k rfl) (fun k => g348 104 k rfl) (fun k => g348 90 k rfl) (fun k => g348 91 k rfl) (fun k => g348 92 k rfl) (fun k => g348 94 k rfl) (fun k => g348 95 k rfl) (fun k => g348 97 k rfl) (fun k => g348 98 k rfl) (fun k => g348 19 k rfl) (fun k => g348 18 k rfl) (fun k => g348 41 k rfl) (fun k => g348 6 k rfl) (fun k => g348 99 k rfl) (fun k => g348 105 k rfl) (fun k => g348 107 k rfl) (fun k => g348 108 k rfl) (fun k => g348 110 k rfl) (fun k => g348 111 k rfl) (g348 0 157 rfl) (g348 0 158 rfl) (g348 0 177 rfl) (g348 0 186 rfl) (g348 0 159 rfl) hI333
            have KPL_I349 := gr_PL_fr KPL_I333 (fun k => g348 114 k rfl) (fun k => g348 115 k rfl) (fun k => g348 6 k rfl) (g348 0 3 rfl)
            have KOX_I349 := gr_OX_fr KOX_I333 (fun k => g348 121 k rfl) (fun k => g348 120 k rfl)
            have l348 := q348
            have KKR_I349 := gr_KR_tr KKR_I333 l348
            refine gv_callV hD rfl (As := [.inl a3]) (st := []) rfl (by decide) rfl rfl (gr_lV hws rfl) (Nat.le_of_ble_eq_true rfl) (gz_Ev_mono (d := 6) (by decide) E348) ?_
            show gv_X _ _ (66, [(0, .inr (.inr (some 0))), (1, .inl a1), (2, .inl a2), (3, .inl a3)], [], gr_sh ++ ext, gr_h I349 J350)
            refine gv_run 2 true hD (pcₚ := 69) (lvₚ := [(4, .inl 0), (0, .inr (.inr (some 0))), (1, .inl a1), (2, .inl a2), (3, .inl a3)]) (stₚ := []) (hₚ := gr_h I349 J350) (C := ((True ∧ True) ∧ True)) rfl ⟨⟨trivial, trivial⟩, trivial⟩ ?_
            refine gv_pick [1, 4, 0] rfl ?_
            exact L69 _ I349 J350 0 (Nat.lt_succ_self _) hI349 FI349 FJ350 KGR_I349 KFV_I349 KPL_I349 KOX_I349 KKR_I349 (by exact gz_m 155 (by omega))
          · refine gv_run 1 true hD (pcₚ := 60) (lvₚ := [(0, .inr (.inr (some 0))), (1, .inl a1), (2, .inl a2), (3, .inl a3)]) (stₚ := [.inl (-1)]) (hₚ := gr_h I333 J334) (C := (True ∧ True)) rfl ⟨trivial, trivial⟩ ?_
            have b365 : (((0 ≤ a1 ∧ a1 < I 0 1) ∧ (0 ≤ a2 ∧ a2 < I 0 2) ∧ (0 ≤ a3 ∧ a3 < I 0 1)) → I333 0 68 = 0) ∧ (¬ ((0 ≤ a1 ∧ a1 < I 0 1) ∧ (0 ≤ a2 ∧ a2 < I 0 2) ∧ (0 ≤ a3 ∧ a3 < I 0 1)) → I333 0 68 = I 0 68) := by exact gz_m 156 (by omega)
            exact gv_iret hD rfl ⟨I333, J334, rfl, hI333, FI333, FJ334, KGR_I333, KFV_I333, KPL_I333, KOX_I333, ⟨_, rfl, by exact gz_m 157 (by omega), by exact gz_m 158 (by omega), b365.1, b365.2, KKR_I333⟩⟩
        · refine gv_run 1 true hD (pcₚ := 39) (lvₚ := [(0, .inr (.inr (some 0))), (1, .inl a1), (2, .inl a2), (3, .inl a3)]) (stₚ := [.inr (.inr (some 0))]) (hₚ := gr_h I300 J301) (C := (True ∧ True)) rfl ⟨trivial, trivial⟩ ?_
          obtain ⟨r366, h366, E366, P366⟩ := r_noForest_f (ws0 := ws0) (tb := tb) hws htb ext I300 J301 hI300   
          obtain ⟨I367, J368, rfl, hI367, g366, k366, ⟨rfl, q366⟩⟩ := P366
          have FI367 := gr_frt FI300 g366 rfl rfl
          have FJ368 := gr_fjt FJ301 k366 rfl rfl
          have t369 := g366 0 188 rfl
          have t370 := g366 0 201 rfl
          have t371 := g366 0 68 rfl
          have t372 := g366 0 1 rfl
          have t373 := g366 0 2 rfl
          have f374 := (gr_b_0_188 hI367)
          have f375 := (gr_b_0_186 hI367)
          have f376 := (gr_b_0_201 hI367)
          have f377 := (gr_b_0_177 hI367)
          have f378 := (gr_b_0_68 hI367)
          have f379 := (gr_b_0_1 hI367)
          have f380 := (gr_b_0_2 hI367)
          have KGR_I367 := gr_GR_fr KGR_I300 (fun k => g366 19 k rfl) (fun k => g366 18 k rfl) (fun k => g366 36 k rfl) (fun k => g366 41 k rfl) (fun k => g366 42 k rfl) (fun k => g366 43 k rfl) (fun k => g366 45 k rfl) (fun k => g366 46 k rfl) (fun k => g366 47 k rfl) (fun k => g366 6 k rfl) (fun k => g366 7 k rfl) (fun k => g366 8 k rfl) (g366 0 3 rfl)
          have KPL_I367 := gr_PL_fr KPL_I300 (fun k => g366 114 k rfl) (fun k => g366 115 k rfl) (fun k => g366 6 k rfl) (g366 0 3 rfl)
          have KOX_I367 := gr_OX_fr KOX_I300 (fun k => g366 121 k rfl) (fun k => g366 120 k rfl)
          have KKR_I367 := gr_KR_g KKR_I300 g366 (by decide)
          have KFV_I367 : gr_FV I367 := (gr_FV_no (by exact gz_m 159 (by omega)) (by exact gz_m 160 (by omega)))
          refine gv_callV hD rfl (As := []) (st := []) rfl (by decide) rfl rfl (gr_lV hws rfl) (Nat.le_of_ble_eq_true rfl) (gz_Ev_mono (d := 1) (by decide) E366) ?_
          show gv_X _ _ (42, [(0, .inr (.inr (some 0))), (1, .inl a1), (2, .inl a2), (3, .inl a3)], [], gr_sh ++ ext, gr_h I367 J368)
          refine gv_run 1 true hD (pcₚ := 44) (lvₚ := [(0, .inr (.inr (some 0))), (1, .inl a1), (2, .inl a2), (3, .inl a3)]) (stₚ := [.inl (-3)]) (hₚ := gr_h I367 J368) (C := (True ∧ True)) rfl ⟨trivial, trivial⟩ ?_
          have b381 : (((0 ≤ a1 ∧ a1 < I 0 1) ∧ (0 ≤ a2 ∧ a2 < I 0 2) ∧ (0 ≤ a3 ∧ a3 < I 0 1)) → I367 0 68 = 0) ∧ (¬ ((0 ≤ a1 ∧ a1 < I 0 1) ∧ (0 ≤ a2 ∧ a2 < I 0 2) ∧ (0 ≤ a3 ∧ a3 < I 0 1)) → I367 0 68 = I 0 68) := by exact gz_m 161 (by omega)
          exact gv_iret hD rfl ⟨I367, J368, rfl, hI367, FI367, FJ368, KGR_I367, KFV_I367, KPL_I367, KOX_I367, ⟨_, rfl, by exact gz_m 162 (by omega), by exact gz_m 163 (by omega), b381.1, b381.2, KKR_I367⟩⟩
      · refine gv_pick [] rfl ?_
        exact L24 I267 J268 hI267 FI267 FJ268 KGR_I267 KFV_I267 KPL_I267 KOX_I267 KKR_I267 (by exact gz_m 164 (by omega))
set_option maxHeartbeats 8000000 in
set_option maxRecDepth 100000 in
theorem r_mend_t {ws0 : List Cond} {tb : String → gz_T} (hws : ∀ w ∈ gr_ws, w ∈ ws0) (htb : tb RX13 = gr_T) (ext : gz_Sh) (I : gr_I) (J : gr_J) (hI : gr_Inv I) (a1 : Int) (a2 : Int) (ha1 : (-2147483648) ≤ a1 ∧ a1 ≤ 2147483647) (ha2 : (-2147483648) ≤ a2 ∧ a2 ≤ 2147483647) (KGR_I : gr_GR I) (KFV_I : gr_FV I) : ∃ r hₚ, gz_Ev ws0 tb 14 (yX13_mend, cX13_mend, 4, (some .int)) [.inr (.inr (some 0)), .inl a1, .inl a2] (gr_sh ++ ext) (gr_h I J) r (gr_sh ++ ext) hₚ 0 0 ∧ (∃ (Iₚ : gr_I) (Jₚ : gr_J), hₚ = gr_h Iₚ Jₚ ∧ gr_Inv Iₚ ∧ gr_fr [0, 68, 69, 70, 126, 127, 128, 143, 157, 158, 159, 160, 161, 166, 167, 168, 169, 170, 177, 179, 180, 181, 186] [57, 58, 76, 77, 78, 79, 83, 84, 85, 86, 87, 88, 89, 90, 91, 92, 93, 94, 95, 96, 97, 98, 99, 100, 101, 103, 104, 105, 106, 107, 108, 109, 110, 111, 112] I Iₚ ∧ gr_fj [0, 68, 69, 70, 126, 127, 128, 143, 157, 158, 159, 160, 161, 166, 167, 168, 169, 170, 177, 179, 180, 181, 186] [57, 58, 76, 77, 78, 79, 83, 84, 85, 86, 87, 88, 89, 90, 91, 92, 93, 94, 95, 96, 97, 98, 99, 100, 101, 103, 104, 105, 106, 107, 108, 109, 110, 111, 112] J Jₚ ∧ gr_GR Iₚ ∧ gr_FV Iₚ ∧ (∃ z : Int, r = some (.inl z) ∧ (-3) ≤ z ∧ z ≤ 3 ∧ (((0 ≤ a1 ∧ a1 < I 0 1) ∧ (0 ≤ a2 ∧ a2 < I 0 2)) → Iₚ 0 68 = 0) ∧ (¬ ((0 ≤ a1 ∧ a1 < I 0 1) ∧ (0 ≤ a2 ∧ a2 < I 0 2)) → Iₚ 0 68 = I 0 68) ∧ (gr_KR I Iₚ))) := by
  have FI : gr_fr [0, 68, 69, 70, 126, 127, 128, 143, 157, 158, 159, 160, 161, 166, 167, 168, 169, 170, 177, 179, 180, 181, 186] [57, 58, 76, 77, 78, 79, 83, 84, 85, 86, 87, 88, 89, 90, 91, 92, 93, 94, 95, 96, 97, 98, 99, 100, 101, 103, 104, 105, 106, 107, 108, 109, 110, 111, 112] I I := fun _ _ _ => rfl
  have FJ : gr_fj [0, 68, 69, 70, 126, 127, 128, 143, 157, 158, 159, 160, 161, 166, 167, 168, 169, 170, 177, 179, 180, 181, 186] [57, 58, 76, 77, 78, 79, 83, 84, 85, 86, 87, 88, 89, 90, 91, 92, 93, 94, 95, 96, 97, 98, 99, 100, 101, 103, 104, 105, 106, 107, 108, 109, 110, 111, 112] J J := fun _ _ _ => rfl
  have hD : gv_D (gr_E ws0 tb 13 (yX13_mend, cX13_mend, 4, (some .int)) kX13_mend) := gq_of oX13_mend
  refine gr_ev (d := 13) (l := kX13_mend) (Po := fun r hₚ => (∃ (Iₚ : gr_I) (Jₚ : gr_J), hₚ = gr_h Iₚ Jₚ ∧ gr_Inv Iₚ ∧ gr_fr [0, 68, 69, 70, 126, 127, 128, 143, 157, 158, 159, 160, 161, 166, 167, 168, 169, 170, 177, 179, 180, 181, 186] [57, 58, 76, 77, 78, 79, 83, 84, 85, 86, 87, 88, 89, 90, 91, 92, 93, 94, 95, 96, 97, 98, 99, 100, 101, 103, 104, 105, 106, 107, 108, 109, 110, 111, 112] I Iₚ ∧ gr_fj [0, 68, 69, 70, 126, 127, 128, 143, 157, 158, 159, 160, 161, 166, 167, 168, 169, 170, 177, 179, 180, 181, 186] [57, 58, 76, 77, 78, 79, 83, 84, 85, 86, 87, 88, 89, 90, 91, 92, 93, 94, 95, 96, 97, 98, 99, 100, 101, 103, 104, 105, 106, 107, 108, 109, 110, 111, 112] J Jₚ ∧ gr_GR Iₚ ∧ gr_FV Iₚ ∧ (∃ z : Int, r = some (.inl z) ∧ (-3) ≤ z ∧ z ≤ 3 ∧ (((0 ≤ a1 ∧ a1 < I 0 1) ∧ (0 ≤ a2 ∧ a2 < I 0 2)) → Iₚ 0 68 = 0) ∧ (¬ ((0 ≤ a1 ∧ a1 < I 0 1) ∧ (0 ≤ a2 ∧ a2 < I 0 2)) → Iₚ 0 68 = I 0 68) ∧ (gr_KR I Iₚ)))) htb rfl (Nat.le_of_ble_eq_true rfl) ?_
  have f1 := (gr_b_0_143 hI)
  have f2 := (gr_b_0_177 hI)
  have f3 := (gr_b_0_186 hI)
  have f4 := (gr_b_0_68 hI)
  have f5 := (gr_b_0_1 hI)
  have f6 := (gr_b_0_2 hI)
  have KKR_I : gr_KR I I := gr_KR_rf
  have L16 : ∀ (I7 : gr_I) (J8 : gr_J) , gr_Inv I7 → gr_fr [0, 68, 69, 70, 126, 127, 128, 143, 157, 158, 159, 160, 161, 166, 167, 168, 169, 170, 177, 179, 180, 181, 186] [57, 58, 76, 77, 78, 79, 83, 84, 85, 86, 87, 88, 89, 90, 91, 92, 93, 94, 95, 96, 97, 98, 99, 100, 101, 103, 104, 105, 106, 107, 108, 109, 110, 111, 112] I I7 → gr_fj [0, 68, 69, 70, 126, 127, 128, 143, 157, 158, 159, 160, 161, 166, 167, 168, 169, 170, 177, 179, 180, 181, 186] [57, 58, 76, 77, 78, 79, 83, 84, 85, 86, 87, 88, 89, 90, 91, 92, 93, 94, 95, 96, 97, 98, 99, 100, 101, 103, 104, 105, 106, 107, 108, 109, 110, 111, 112] J J8 → gr_GR I7 → gr_FV I7 → gr_KR I I7 → ((I7 0 68 = I 0 68) ∧ (¬ ((0 ≤ a1 ∧ a1 < I 0 1) ∧ (0 ≤ a2 ∧ a2 < I 0 2)))) → gv_X (gr_E ws0 tb 13 (yX13_mend, cX13_mend, 4, (some .int)) kX13_mend) (gv_Q cX13_mend (some .int) (gr_sh ++ ext) (fun r hₚ => (∃ (Iₚ : gr_I) (Jₚ : gr_J), hₚ = gr_h Iₚ Jₚ ∧ gr_Inv Iₚ ∧ gr_fr [0, 68, 69, 70, 126, 127, 128, 143, 157, 158, 159, 160, 161, 166, 167, 168, 169, 170, 177, 179, 180, 181, 186] [57, 58, 76, 77, 78, 79, 83, 84, 85, 86, 87, 88, 89, 90, 91, 92, 93, 94, 95, 96, 97, 98, 99, 100, 101, 103, 104, 105, 106, 107, 108, 109, 110, 111, 112] I Iₚ ∧ gr_fj [0, 68, 69, 70, 126, 127, 128, 143, 157, 158, 159, 160, 161, 166, 167, 168, 169, 170, 177, 179, 180, 181, 186] [57, 58, 76, 77, 78, 79, 83, 84, 85, 86, 87, 88, 89, 90, 91, 92, 93, 94, 95, 96, 97, 98, 99, 100, 101, 103, 104, 105, 106, 107, 108, 109, 110, 111, 112] J Jₚ ∧ gr_GR Iₚ ∧ gr_FV Iₚ ∧ (∃ z : Int, r = some (.inl z) ∧ (-3) ≤ z ∧ z ≤ 3 ∧ (((0 ≤ a1 ∧ a1 < I 0 1) ∧ (0 ≤ a2 ∧ a2 < I 0 2)) → Iₚ 0 68 = 0) ∧ (¬ ((0 ≤ a1 ∧ a1 < I 0 1) ∧ (0 ≤ a2 ∧ a2 < I 0 2)) → Iₚ 0 68 = I 0 68) ∧ (gr_KR I Iₚ))))) (16, [], [], gr_sh ++ ext, gr_h I7 J8) := by
    intro I7 J8 hI7 FI7 FJ8 KGR_I7 KFV_I7 KKR_I7 m_9
    obtain ⟨e0_9, e1_9⟩ := m_9
    have f10 := (gr_b_0_143 hI7)
    have f11 := (gr_b_0_177 hI7)
    have f12 := (gr_b_0_186 hI7)
    have f13 := (gr_b_0_68 hI7)
    have f14 := (gr_b_0_1 hI7)
    have f15 := (gr_b_0_2 hI7)
    refine gv_run 1 true hD (pcₚ := 17) (lvₚ := []) (stₚ := [.inl 0]) (hₚ := gr_h I7 J8) (C := (True ∧ True)) rfl ⟨trivial, trivial⟩ ?_
    have b16 : (((0 ≤ a1 ∧ a1 < I 0 1) ∧ (0 ≤ a2 ∧ a2 < I 0 2)) → I7 0 68 = 0) ∧ (¬ ((0 ≤ a1 ∧ a1 < I 0 1) ∧ (0 ≤ a2 ∧ a2 < I 0 2)) → I7 0 68 = I 0 68) := by exact gz_m 0 (by omega)
    exact gv_iret hD rfl ⟨I7, J8, rfl, hI7, FI7, FJ8, KGR_I7, KFV_I7, ⟨_, rfl, by exact gz_m 1 (by omega), by exact gz_m 2 (by omega), b16.1, b16.2, KKR_I7⟩⟩
  have L39 : ∀ (I17 : gr_I) (J18 : gr_J) , gr_Inv I17 → gr_fr [0, 68, 69, 70, 126, 127, 128, 143, 157, 158, 159, 160, 161, 166, 167, 168, 169, 170, 177, 179, 180, 181, 186] [57, 58, 76, 77, 78, 79, 83, 84, 85, 86, 87, 88, 89, 90, 91, 92, 93, 94, 95, 96, 97, 98, 99, 100, 101, 103, 104, 105, 106, 107, 108, 109, 110, 111, 112] I I17 → gr_fj [0, 68, 69, 70, 126, 127, 128, 143, 157, 158, 159, 160, 161, 166, 167, 168, 169, 170, 177, 179, 180, 181, 186] [57, 58, 76, 77, 78, 79, 83, 84, 85, 86, 87, 88, 89, 90, 91, 92, 93, 94, 95, 96, 97, 98, 99, 100, 101, 103, 104, 105, 106, 107, 108, 109, 110, 111, 112] J J18 → gr_GR I17 → gr_FV I17 → gr_KR I I17 → ((I17 0 68 = 0) ∧ (((0 ≤ a1 ∧ a1 < I 0 1) ∧ (0 ≤ a2 ∧ a2 < I 0 2)))) → gv_X (gr_E ws0 tb 13 (yX13_mend, cX13_mend, 4, (some .int)) kX13_mend) (gv_Q cX13_mend (some .int) (gr_sh ++ ext) (fun r hₚ => (∃ (Iₚ : gr_I) (Jₚ : gr_J), hₚ = gr_h Iₚ Jₚ ∧ gr_Inv Iₚ ∧ gr_fr [0, 68, 69, 70, 126, 127, 128, 143, 157, 158, 159, 160, 161, 166, 167, 168, 169, 170, 177, 179, 180, 181, 186] [57, 58, 76, 77, 78, 79, 83, 84, 85, 86, 87, 88, 89, 90, 91, 92, 93, 94, 95, 96, 97, 98, 99, 100, 101, 103, 104, 105, 106, 107, 108, 109, 110, 111, 112] I Iₚ ∧ gr_fj [0, 68, 69, 70, 126, 127, 128, 143, 157, 158, 159, 160, 161, 166, 167, 168, 169, 170, 177, 179, 180, 181, 186] [57, 58, 76, 77, 78, 79, 83, 84, 85, 86, 87, 88, 89, 90, 91, 92, 93, 94, 95, 96, 97, 98, 99, 100, 101, 103, 104, 105, 106, 107, 108, 109, 110, 111, 112] J Jₚ ∧ gr_GR Iₚ ∧ gr_FV Iₚ ∧ (∃ z : Int, r = some (.inl z) ∧ (-3) ≤ z ∧ z ≤ 3 ∧ (((0 ≤ a1 ∧ a1 < I 0 1) ∧ (0 ≤ a2 ∧ a2 < I 0 2)) → Iₚ 0 68 = 0) ∧ (¬ ((0 ≤ a1 ∧ a1 < I 0 1) ∧ (0 ≤ a2 ∧ a2 < I 0 2)) → Iₚ 0 68 = I 0 68) ∧ (gr_KR I Iₚ))))) (39, [(0, .inr (.inr (some 0)))], [], gr_sh ++ ext, gr_h I17 J18) := by
    intro I17 J18 hI17 FI17 FJ18 KGR_I17 KFV_I17 KKR_I17 m_19
    obtain ⟨e0_19, e1_19⟩ := m_19
    have f20 := (gr_b_0_143 hI17)
    have f21 := (gr_b_0_177 hI17)
    have f22 := (gr_b_0_186 hI17)
    have f23 := (gr_b_0_68 hI17)
    have f24 := (gr_b_0_1 hI17)
    have f25 := (gr_b_0_2 hI17)
    refine gv_run 1 true hD (pcₚ := 40) (lvₚ := [(0, .inr (.inr (some 0)))]) (stₚ := [.inr (.inr (some 0))]) (hₚ := gr_h I17 J18) (C := (True ∧ True)) rfl ⟨trivial, trivial⟩ ?_
    obtain ⟨r26, h26, E26, P26⟩ := r_noForest_f (ws0 := ws0) (tb := tb) hws htb ext I17 J18 hI17   
    obtain ⟨I27, J28, rfl, hI27, g26, k26, ⟨rfl, q26⟩⟩ := P26
    have FI27 := gr_frt FI17 g26 rfl rfl
    have FJ28 := gr_fjt FJ18 k26 rfl rfl
    have t29 := g26 0 143 rfl
    have t30 := g26 0 68 rfl
    have t31 := g26 0 1 rfl
    have t32 := g26 0 2 rfl
    have f33 := (gr_b_0_143 hI27)
    have f34 := (gr_b_0_177 hI27)
    have f35 := (gr_b_0_186 hI27)
    have f36 := (gr_b_0_68 hI27)
    have f37 := (gr_b_0_1 hI27)
    have f38 := (gr_b_0_2 hI27)
    have KGR_I27 := gr_GR_fr KGR_I17 (fun k => g26 19 k rfl) (fun k => g26 18 k rfl) (fun k => g26 36 k rfl) (fun k => g26 41 k rfl) (fun k => g26 42 k rfl) (fun k => g26 43 k rfl) (fun k => g26 45 k rfl) (fun k => g26 46 k rfl) (fun k => g26 47 k rfl) (fun k => g26 6 k rfl) (fun k => g26 7 k rfl) (fun k => g26 8 k rfl) (g26 0 3 rfl)
    have KKR_I27 := gr_KR_g KKR_I17 g26 (by decide)
    have KFV_I27 : gr_FV I27 := (gr_FV_no (by exact gz_m 3 (by omega)) (by exact gz_m 4 (by omega)))
    refine gv_callV hD rfl (As := []) (st := []) rfl (by decide) rfl rfl (gr_lV hws rfl) (Nat.le_of_ble_eq_true rfl) (gz_Ev_mono (d := 1) (by decide) E26) ?_
    show gv_X _ _ (43, [(0, .inr (.inr (some 0)))], [], gr_sh ++ ext, gr_h I27 J28)
    refine gv_run 1 true hD (pcₚ := 45) (lvₚ := [(0, .inr (.inr (some 0)))]) (stₚ := [.inl (-3)]) (hₚ := gr_h I27 J28) (C := (True ∧ True)) rfl ⟨trivial, trivial⟩ ?_
    have b39 : (((0 ≤ a1 ∧ a1 < I 0 1) ∧ (0 ≤ a2 ∧ a2 < I 0 2)) → I27 0 68 = 0) ∧ (¬ ((0 ≤ a1 ∧ a1 < I 0 1) ∧ (0 ≤ a2 ∧ a2 < I 0 2)) → I27 0 68 = I 0 68) := by exact gz_m 5 (by omega)
    exact gv_iret hD rfl ⟨I27, J28, rfl, hI27, FI27, FJ28, KGR_I27, KFV_I27, ⟨_, rfl, by exact gz_m 6 (by omega), by exact gz_m 7 (by omega), b39.1, b39.2, KKR_I27⟩⟩
  have L73 : ∀ (I40 : gr_I) (J41 : gr_J) (v3_42 : Int), gr_Inv I40 → gr_fr [0, 68, 69, 70, 126, 127, 128, 143, 157, 158, 159, 160, 161, 166, 167, 168, 169, 170, 177, 179, 180, 181, 186] [57, 58, 76, 77, 78, 79, 83, 84, 85, 86, 87, 88, 89, 90, 91, 92, 93, 94, 95, 96, 97, 98, 99, 100, 101, 103, 104, 105, 106, 107, 108, 109, 110, 111, 112] I I40 → gr_fj [0, 68, 69, 70, 126, 127, 128, 143, 157, 158, 159, 160, 161, 166, 167, 168, 169, 170, 177, 179, 180, 181, 186] [57, 58, 76, 77, 78, 79, 83, 84, 85, 86, 87, 88, 89, 90, 91, 92, 93, 94, 95, 96, 97, 98, 99, 100, 101, 103, 104, 105, 106, 107, 108, 109, 110, 111, 112] J J41 → gr_GR I40 → gr_FV I40 → gr_KR I I40 → (((-1) ≤ v3_42 ∧ v3_42 ≤ 3) ∧ (I40 0 68 = 0) ∧ (((0 ≤ a1 ∧ a1 < I 0 1) ∧ (0 ≤ a2 ∧ a2 < I 0 2)))) → gv_X (gr_E ws0 tb 13 (yX13_mend, cX13_mend, 4, (some .int)) kX13_mend) (gv_Q cX13_mend (some .int) (gr_sh ++ ext) (fun r hₚ => (∃ (Iₚ : gr_I) (Jₚ : gr_J), hₚ = gr_h Iₚ Jₚ ∧ gr_Inv Iₚ ∧ gr_fr [0, 68, 69, 70, 126, 127, 128, 143, 157, 158, 159, 160, 161, 166, 167, 168, 169, 170, 177, 179, 180, 181, 186] [57, 58, 76, 77, 78, 79, 83, 84, 85, 86, 87, 88, 89, 90, 91, 92, 93, 94, 95, 96, 97, 98, 99, 100, 101, 103, 104, 105, 106, 107, 108, 109, 110, 111, 112] I Iₚ ∧ gr_fj [0, 68, 69, 70, 126, 127, 128, 143, 157, 158, 159, 160, 161, 166, 167, 168, 169, 170, 177, 179, 180, 181, 186] [57, 58, 76, 77, 78, 79, 83, 84, 85, 86, 87, 88, 89, 90, 91, 92, 93, 94, 95, 96, 97, 98, 99, 100, 101, 103, 104, 105, 106, 107, 108, 109, 110, 111, 112] J Jₚ ∧ gr_GR Iₚ ∧ gr_FV Iₚ ∧ (∃ z : Int, r = some (.inl z) ∧ (-3) ≤ z ∧ z ≤ 3 ∧ (((0 ≤ a1 ∧ a1 < I 0 1) ∧ (0 ≤ a2 ∧ a2 < I 0 2)) → Iₚ 0 68 = 0) ∧ (¬ ((0 ≤ a1 ∧ a1 < I 0 1) ∧ (0 ≤ a2 ∧ a2 < I 0 2)) → Iₚ 0 68 = I 0 68) ∧ (gr_KR I Iₚ))))) (73, [(3, .inl v3_42)], [], gr_sh ++ ext, gr_h I40 J41) := by
    intro I40 J41 v3_42 hI40 FI40 FJ41 KGR_I40 KFV_I40 KKR_I40 m_42
    obtain ⟨hv3_42, e0_42, e1_42⟩ := m_42
    have f43 := (gr_b_0_143 hI40)
    have f44 := (gr_b_0_177 hI40)
    have f45 := (gr_b_0_186 hI40)
    have f46 := (gr_b_0_68 hI40)
    have f47 := (gr_b_0_1 hI40)
    have f48 := (gr_b_0_2 hI40)
    refine gv_run 1 true hD (pcₚ := 74) (lvₚ := [(3, .inl v3_42)]) (stₚ := [.inl v3_42]) (hₚ := gr_h I40 J41) (C := (True ∧ True)) rfl ⟨trivial, trivial⟩ ?_
    have b49 : (((0 ≤ a1 ∧ a1 < I 0 1) ∧ (0 ≤ a2 ∧ a2 < I 0 2)) → I40 0 68 = 0) ∧ (¬ ((0 ≤ a1 ∧ a1 < I 0 1) ∧ (0 ≤ a2 ∧ a2 < I 0 2)) → I40 0 68 = I 0 68) := by exact gz_m 8 (by omega)
    exact gv_iret hD rfl ⟨I40, J41, rfl, hI40, FI40, FJ41, KGR_I40, KFV_I40, ⟨_, rfl, by exact gz_m 9 (by omega), by exact gz_m 10 (by omega), b49.1, b49.2, KKR_I40⟩⟩
  refine gv_run 2 true hD (pcₚ := 2) (lvₚ := [(0, .inr (.inr (some 0))), (1, .inl a1), (2, .inl a2)]) (stₚ := [.inl a1, .inr (.inr (some 0))]) (hₚ := gr_h I J) (C := ((True ∧ True) ∧ True)) rfl ⟨⟨trivial, trivial⟩, trivial⟩ ?_
  obtain ⟨r50, h50, E50, P50⟩ := r_noTongue_t (ws0 := ws0) (tb := tb) hws htb ext I J hI a1 ⟨by exact gz_m 11 (by omega), by exact gz_m 12 (by omega)⟩ 
  obtain ⟨I51, J52, rfl, hI51, g50, k50, ⟨z50, rfl, q50⟩⟩ := P50
  have FI51 := gr_frt FI g50 rfl rfl
  have FJ52 := gr_fjt FJ k50 rfl rfl
  have t53 := g50 0 143 rfl
  have t54 := g50 0 177 rfl
  have t55 := g50 0 186 rfl
  have t56 := g50 0 68 rfl
  have t57 := g50 0 1 rfl
  have t58 := g50 0 2 rfl
  have f59 := (gr_b_0_143 hI51)
  have f60 := (gr_b_0_177 hI51)
  have f61 := (gr_b_0_186 hI51)
  have f62 := (gr_b_0_68 hI51)
  have f63 := (gr_b_0_1 hI51)
  have f64 := (gr_b_0_2 hI51)
  have KGR_I51 := gr_GR_fr KGR_I (fun k => g50 19 k rfl) (fun k => g50 18 k rfl) (fun k => g50 36 k rfl) (fun k => g50 41 k rfl) (fun k => g50 42 k rfl) (fun k => g50 43 k rfl) (fun k => g50 45 k rfl) (fun k => g50 46 k rfl) (fun k => g50 47 k rfl) (fun k => g50 6 k rfl) (fun k => g50 7 k rfl) (fun k => g50 8 k rfl) (g50 0 3 rfl)
  have KFV_I51 := gr_FV_fr KFV_I (fun k => g50 87 k rfl) (fun k => g50 88 k rfl) (fun k => g50 104 k rfl) (fun k => g50 90 k rfl) (fun k => g50 91 k rfl) (fun k => g50 92 k rfl) (fun k => g50 94 k rfl) (fun k => g50 95 k rfl) (fun k => g50 97 k rfl) (fun k => g50 98 k rfl) (fun k => g50 19 k rfl) (fun k => g50 18 k rfl) (fun k => g50 41 k rfl) (fun k => g50 6 k rfl) (fun k => g50 99 k rfl) (fun k => g50 105 k rfl) (fun k => g50 107 k rfl) (fun k => g50 108 k rfl) (fun k => g50 110 k rfl) (fun k => g50 111 k rfl) (g50 0 157 rfl) (g50 0 158 rfl) (g50 0 177 rfl) (g50 0 186 rfl) (g50 0 159 rfl) hI
  have KKR_I51 := gr_KR_g KKR_I g50 (by decide)
  refine gv_callV hD rfl (As := [.inl a1]) (st := []) rfl (by decide) rfl rfl (gr_lV hws rfl) (Nat.le_of_ble_eq_true rfl) (gz_Ev_mono (d := 1) (by decide) E50) ?_
  show gv_X _ _ (5, [(0, .inr (.inr (some 0))), (1, .inl a1), (2, .inl a2)], [.inl z50], gr_sh ++ ext, gr_h I51 J52)
  refine gv_if_ne (t := 16) hD rfl rfl ⟨by exact gz_m 13 (by omega), by exact gz_m 14 (by omega)⟩ (fun c65 => ?_) (fun c65 => ?_)
  · refine gv_pick [] rfl ?_
    exact L16 I51 J52 hI51 FI51 FJ52 KGR_I51 KFV_I51 KKR_I51 (by exact gz_m 15 (by omega))
  · refine gv_run 2 true hD (pcₚ := 10) (lvₚ := [(0, .inr (.inr (some 0))), (1, .inl a1), (2, .inl a2)]) (stₚ := [.inl a2, .inr (.inr (some 0))]) (hₚ := gr_h I51 J52) (C := ((True ∧ True) ∧ True)) rfl ⟨⟨trivial, trivial⟩, trivial⟩ ?_
    obtain ⟨r66, h66, E66, P66⟩ := r_noKind_t (ws0 := ws0) (tb := tb) hws htb ext I51 J52 hI51 a2 ⟨by exact gz_m 16 (by omega), by exact gz_m 17 (by omega)⟩ 
    obtain ⟨I67, J68, rfl, hI67, g66, k66, ⟨z66, rfl, q66⟩⟩ := P66
    have FI67 := gr_frt FI51 g66 rfl rfl
    have FJ68 := gr_fjt FJ52 k66 rfl rfl
    have t69 := g66 0 143 rfl
    have t70 := g66 0 177 rfl
    have t71 := g66 0 186 rfl
    have t72 := g66 0 68 rfl
    have t73 := g66 0 1 rfl
    have t74 := g66 0 2 rfl
    have f75 := (gr_b_0_143 hI67)
    have f76 := (gr_b_0_177 hI67)
    have f77 := (gr_b_0_186 hI67)
    have f78 := (gr_b_0_68 hI67)
    have f79 := (gr_b_0_1 hI67)
    have f80 := (gr_b_0_2 hI67)
    have KGR_I67 := gr_GR_fr KGR_I51 (fun k => g66 19 k rfl) (fun k => g66 18 k rfl) (fun k => g66 36 k rfl) (fun k => g66 41 k rfl) (fun k => g66 42 k rfl) (fun k => g66 43 k rfl) (fun k => g66 45 k rfl) (fun k => g66 46 k rfl) (fun k => g66 47 k rfl) (fun k => g66 6 k rfl) (fun k => g66 7 k rfl) (fun k => g66 8 k rfl) (g66 0 3 rfl)
    have KFV_I67 := gr_FV_fr KFV_I51 (fun k => g66 87 k rfl) (fun k => g66 88 k rfl) (fun k => g66 104 k rfl) (fun k => g66 90 k rfl) (fun k => g66 91 k rfl) (fun k => g66 92 k rfl) (fun k => g66 94 k rfl) (fun k => g66 95 k rfl) (fun k => g66 97 k rfl) (fun k => g66 98 k rfl) (fun k => g66 19 k rfl) (fun k => g66 18 k rfl) (fun k => g66 41 k rfl) (fun k => g66 6 k rfl) (fun k => g66 99 k rfl) (fun k => g66 105 k rfl) (fun k => g66 107 k rfl) (fun k => g66 108 k rfl) (fun k => g66 110 k rfl) (fun k => g66 111 k rfl) (g66 0 157 rfl) (g66 0 158 rfl) (g66 0 177 rfl) (g66 0 186 rfl) (g66 0 159 rfl) hI51
    have KKR_I67 := gr_KR_g KKR_I51 g66 (by decide)
    refine gv_callV hD rfl (As := [.inl a2]) (st := []) rfl (by decide) rfl rfl (gr_lV hws rfl) (Nat.le_of_ble_eq_true rfl) (gz_Ev_mono (d := 1) (by decide) E66) ?_
    show gv_X _ _ (13, [(0, .inr (.inr (some 0))), (1, .inl a1), (2, .inl a2)], [.inl z66], gr_sh ++ ext, gr_h I67 J68)
    refine gv_if_eq (t := 18) hD rfl rfl ⟨by exact gz_m 18 (by omega), by exact gz_m 19 (by omega)⟩ (fun c81 => ?_) (fun c81 => ?_)
    · refine gv_run 3 true hD (pcₚ := 23) (lvₚ := [(0, .inr (.inr (some 0))), (1, .inl a1), (2, .inl a2)]) (stₚ := []) (hₚ := gz_up (gr_h I67 J68) 0 70 (.inl 0)) (C := (((True ∧ True) ∧ True) ∧ True)) rfl ⟨⟨⟨trivial, trivial⟩, trivial⟩, trivial⟩ ?_
      refine gr_st hI67 FI67 rfl rfl ⟨⟨by show 0 ≤ _; exact gz_m 20 (by omega), by show _ ≤ 1000; exact gz_m 21 (by omega)⟩, trivial⟩ (fun I82 hI82 FI82 q83 p83 => ?_)
      have t84 := p83 0 143 (by decide)
      have t85 := p83 0 177 (by decide)
      have t86 := p83 0 186 (by decide)
      have t87 := p83 0 68 (by decide)
      have t88 := p83 0 1 (by decide)
      have t89 := p83 0 2 (by decide)
      have f90 := (gr_b_0_143 hI82)
      have f91 := (gr_b_0_177 hI82)
      have f92 := (gr_b_0_186 hI82)
      have f93 := (gr_b_0_68 hI82)
      have f94 := (gr_b_0_1 hI82)
      have f95 := (gr_b_0_2 hI82)
      have KGR_I82 := gr_GR_fr KGR_I67 (fun k => p83 19 k (fun q => absurd q.1 (by first | exact gz_ne rfl | decide))) (fun k => p83 18 k (fun q => absurd q.1 (by first | exact gz_ne rfl | decide))) (fun k => p83 36 k (fun q => absurd q.1 (by first | exact gz_ne rfl | decide))) (fun k => p83 41 k (fun q => absurd q.1 (by first | exact gz_ne rfl | decide))) (fun k => p83 42 k (fun q => absurd q.1 (by first | exact gz_ne rfl | decide))) (fun k => p83 43 k (fun q => absurd q.1 (by first | exact gz_ne rfl | decide))) (fun k => p83 45 k (fun q => absurd q.1 (by first | exact gz_ne rfl | decide))) (fun k => p83 46 k (fun q => absurd q.1 (by first | exact gz_ne rfl | decide))) (fun k => p83 47 k (fun q => absurd q.1 (by first | exact gz_ne rfl | decide))) (fun k => p83 6 k (fun q => absurd q.1 (by first | exact gz_ne rfl | decide))) (fun k => p83 7 k (fun q => absurd q.1 (by first | exact gz_ne rfl | decide))) (fun k => p83 8 k (fun q => absurd q.1 (by first | exact gz_ne rfl | decide))) (p83 0 3 (by decide))
      have KFV_I82 := gr_FV_fr KFV_I67 (fun k => p83 87 k (fun q => absurd q.1 (by first | exact gz_ne rfl | decide))) (fun k => p83 88 k (fun q => absurd q.1 (by first | exact gz_ne rfl | decide))) (fun k => p83 104 k (fun q => absurd q.1 (by first | exact gz_ne rfl | decide))) (fun k => p83 90 k (fun q => absurd q.1 (by first | exact gz_ne rfl | decide))) (fun k => p83 91 k (fun q => absurd q.1 (by first | exact gz_ne rfl | decide))) (fun k => p83 92 k (fun q => absurd q.1 (by first | exact gz_ne rfl | decide))) (fun k => p83 94 k (fun q => absurd q.1 (by first | exact gz_ne rfl | decide))) (fun k => p83 95 k (fun q => absurd q.1 (by first | exact gz_ne rfl | decide))) (fun k => p83 97 k (fun q => absurd q.1 (by first | exact gz_ne rfl | decide))) (fun k => p83 98 k (fun q => absurd q.1 (by first | exact gz_ne rfl | decide))) (fun k => p83 19 k (fun q => absurd q.1 (by first | exact gz_ne rfl | decide))) (fun k => p83 18 k (fun q => absurd q.1 (by first | exact gz_ne rfl | decide))) (fun k => p83 41 k (fun q => absurd q.1 (by first | exact gz_ne rfl | decide))) (fun k => p83 6 k (fun q => absurd q.1 (by first | exact gz_ne rfl | decide))) (fun k => p83 99 k (fun q => absurd q.1 (by first | exact gz_ne rfl | decide))) (fun k => p83 105 k (fun q => absurd q.1 (by first | exact gz_ne rfl | decide))) (fun k => p83 107 k (fun q => absurd q.1 (by first | exact gz_ne rfl | decide))) (fun k => p83 108 k (fun q => absurd q.1 (by first | exact gz_ne rfl | decide))) (fun k => p83 110 k (fun q => absurd q.1 (by first | exact gz_ne rfl | decide))) (fun k => p83 111 k (fun q => absurd q.1 (by first | exact gz_ne rfl | decide))) (p83 0 157 (by decide)) (p83 0 158 (by decide)) (p83 0 177 (by decide)) (p83 0 186 (by decide)) (p83 0 159 (by decide)) hI67
      have KKR_I82 := gr_KR_f KKR_I67 p83 (by decide)
      refine gv_run 1 true hD (pcₚ := 24) (lvₚ := [(0, .inr (.inr (some 0))), (1, .inl a1), (2, .inl a2)]) (stₚ := [.inr (.inr (some 0))]) (hₚ := gr_h I82 J68) (C := (True ∧ True)) rfl ⟨trivial, trivial⟩ ?_
      obtain ⟨r96, h96, E96, P96⟩ := r_sentence_t (ws0 := ws0) (tb := tb) hws htb ext I82 J68 hI82   
      obtain ⟨I97, J98, rfl, hI97, g96, k96, ⟨z96, rfl, q96⟩⟩ := P96
      have FI97 := gr_frt FI82 g96 rfl rfl
      have FJ98 := gr_fjt FJ68 k96 rfl rfl
      have t99 := g96 0 177 rfl
      have t100 := g96 0 186 rfl
      have t101 := g96 0 1 rfl
      have t102 := g96 0 2 rfl
      have f103 := (gr_b_0_143 hI97)
      have f104 := (gr_b_0_177 hI97)
      have f105 := (gr_b_0_186 hI97)
      have f106 := (gr_b_0_68 hI97)
      have f107 := (gr_b_0_1 hI97)
      have f108 := (gr_b_0_2 hI97)
      have KGR_I97 := gr_GR_fr KGR_I82 (fun k => g96 19 k rfl) (fun k => g96 18 k rfl) (fun k => g96 36 k rfl) (fun k => g96 41 k rfl) (fun k => g96 42 k rfl) (fun k => g96 43 k rfl) (fun k => g96 45 k rfl) (fun k => g96 46 k rfl) (fun k => g96 47 k rfl) (fun k => g96 6 k rfl) (fun k => g96 7 k rfl) (fun k => g96 8 k rfl) (g96 0 3 rfl)
      have KFV_I97 := gr_FV_fr KFV_I82 (fun k => g96 87 k rfl) (fun k => g96 88 k rfl) (fun k => g96 104 k rfl) (fun k => g96 90 k rfl) (fun k => g96 91 k rfl) (fun k => g96 92 k rfl) (fun k => g96 94 k rfl) (fun k => g96 95 k rfl) (fun k => g96 97 k rfl) (fun k => g96 98 k rfl) (fun k => g96 19 k rfl) (fun k => g96 18 k rfl) (fun k => g96 41 k rfl) (fun k => g96 6 k rfl) (fun k => g96 99 k rfl) (fun k => g96 105 k rfl) (fun k => g96 107 k rfl) (fun k => g96 108 k rfl) (fun k => g96 110 k rfl) (fun k => g96 111 k rfl) (g96 0 157 rfl) (g96 0 158 rfl) (g96 0 177 rfl) (g96 0 186 rfl) (g96 0 159 rfl) hI82
      have KKR_I97 := gr_KR_g KKR_I82 g96 (by decide)
      refine gv_callV hD rfl (As := []) (st := []) rfl (by decide) rfl rfl (gr_lV hws rfl) (Nat.le_of_ble_eq_true rfl) (gz_Ev_mono (d := 2) (by decide) E96) ?_
      show gv_X _ _ (27, [(0, .inr (.inr (some 0))), (1, .inl a1), (2, .inl a2)], [.inl z96], gr_sh ++ ext, gr_h I97 J98)
      refine gv_if_eq (t := 39) hD rfl rfl ⟨by exact gz_m 22 (by omega), by exact gz_m 23 (by omega)⟩ (fun c109 => ?_) (fun c109 => ?_)
      · refine gv_pick [0] rfl ?_
        exact L39 I97 J98 hI97 FI97 FJ98 KGR_I97 KFV_I97 KKR_I97 (by exact gz_m 24 (by omega))
      · have f110 := (gr_b_0_143 hI97)
        refine gv_run 3 true hD (pcₚ := 36) (lvₚ := [(0, .inr (.inr (some 0))), (1, .inl a1), (2, .inl a2)]) (stₚ := [.inl 12, .inl (I97 0 143)]) (hₚ := gr_h I97 J98) (C := (((True ∧ True) ∧ True) ∧ True)) rfl ⟨⟨⟨trivial, trivial⟩, trivial⟩, trivial⟩ ?_
        refine gv_icmp_le (t := 46) hD rfl rfl ⟨⟨by exact gz_m 25 (by omega), by exact gz_m 26 (by omega)⟩, ⟨by exact gz_m 27 (by omega), by exact gz_m 28 (by omega)⟩⟩ (fun c111 => ?_) (fun c111 => ?_)
        · refine gv_run 3 true hD (pcₚ := 51) (lvₚ := [(0, .inr (.inr (some 0))), (1, .inl a1), (2, .inl a2)]) (stₚ := []) (hₚ := gz_up (gr_h I97 J98) 0 161 (.inl 0)) (C := (((True ∧ True) ∧ True) ∧ True)) rfl ⟨⟨⟨trivial, trivial⟩, trivial⟩, trivial⟩ ?_
          refine gr_st hI97 FI97 rfl rfl ⟨⟨by show 0 ≤ _; exact gz_m 29 (by omega), by show _ ≤ 400001; exact gz_m 30 (by omega)⟩, trivial⟩ (fun I112 hI112 FI112 q113 p113 => ?_)
          have t114 := p113 0 143 (by decide)
          have t115 := p113 0 177 (by decide)
          have t116 := p113 0 186 (by decide)
          have t117 := p113 0 68 (by decide)
          have t118 := p113 0 1 (by decide)
          have t119 := p113 0 2 (by decide)
          have f120 := (gr_b_0_143 hI112)
          have f121 := (gr_b_0_177 hI112)
          have f122 := (gr_b_0_186 hI112)
          have f123 := (gr_b_0_68 hI112)
          have f124 := (gr_b_0_1 hI112)
          have f125 := (gr_b_0_2 hI112)
          have KGR_I112 := gr_GR_fr KGR_I97 (fun k => p113 19 k (fun q => absurd q.1 (by first | exact gz_ne rfl | decide))) (fun k => p113 18 k (fun q => absurd q.1 (by first | exact gz_ne rfl | decide))) (fun k => p113 36 k (fun q => absurd q.1 (by first | exact gz_ne rfl | decide))) (fun k => p113 41 k (fun q => absurd q.1 (by first | exact gz_ne rfl | decide))) (fun k => p113 42 k (fun q => absurd q.1 (by first | exact gz_ne rfl | decide))) (fun k => p113 43 k (fun q => absurd q.1 (by first | exact gz_ne rfl | decide))) (fun k => p113 45 k (fun q => absurd q.1 (by first | exact gz_ne rfl | decide))) (fun k => p113 46 k (fun q => absurd q.1 (by first | exact gz_ne rfl | decide))) (fun k => p113 47 k (fun q => absurd q.1 (by first | exact gz_ne rfl | decide))) (fun k => p113 6 k (fun q => absurd q.1 (by first | exact gz_ne rfl | decide))) (fun k => p113 7 k (fun q => absurd q.1 (by first | exact gz_ne rfl | decide))) (fun k => p113 8 k (fun q => absurd q.1 (by first | exact gz_ne rfl | decide))) (p113 0 3 (by decide))
          have KFV_I112 := gr_FV_fr KFV_I97 (fun k => p113 87 k (fun q => absurd q.1 (by first | exact gz_ne rfl | decide))) (fun k => p113 88 k (fun q => absurd q.1 (by first | exact gz_ne rfl | decide))) (fun k => p113 104 k (fun q => absurd q.1 (by first | exact gz_ne rfl | decide))) (fun k => p113 90 k (fun q => absurd q.1 (by first | exact gz_ne rfl | decide))) (fun k => p113 91 k (fun q => absurd q.1 (by first | exact gz_ne rfl | decide))) (fun k => p113 92 k (fun q => absurd q.1 (by first | exact gz_ne rfl | decide))) (fun k => p113 94 k (fun q => absurd q.1 (by first | exact gz_ne rfl | decide))) (fun k => p113 95 k (fun q => absurd q.1 (by first | exact gz_ne rfl | decide))) (fun k => p113 97 k (fun q => absurd q.1 (by first | exact gz_ne rfl | decide))) (fun k => p113 98 k (fun q => absurd q.1 (by first | exact gz_ne rfl | decide))) (fun k => p113 19 k (fun q => absurd q.1 (by first | exact gz_ne rfl | decide))) (fun k => p113 18 k (fun q => absurd q.1 (by first | exact gz_ne rfl | decide))) (fun k => p113 41 k (fun q => absurd q.1 (by first | exact gz_ne rfl | decide))) (fun k => p113 6 k (fun q => absurd q.1 (by first | exact gz_ne rfl | decide))) (fun k => p113 99 k (fun q => absurd q.1 (by first | exact gz_ne rfl | decide))) (fun k => p113 105 k (fun q => absurd q.1 (by first | exact gz_ne rfl | decide))) (fun k => p113 107 k (fun q => absurd q.1 (by first | exact gz_ne rfl | decide))) (fun k => p113 108 k (fun q => absurd q.1 (by first | exact gz_ne rfl | decide))) (fun k => p113 110 k (fun q => absurd q.1 (by first | exact gz_ne rfl | decide))) (fun k => p113 111 k (fun q => absurd q.1 (by first | exact gz_ne rfl | decide))) (p113 0 157 (by decide)) (p113 0 158 (by decide)) (p113 0 177 (by decide)) (p113 0 186 (by decide)) (p113 0 159 (by decide)) hI97
          have KKR_I112 := gr_KR_f KKR_I97 p113 (by decide)
          refine gv_run 3 true hD (pcₚ := 54) (lvₚ := [(0, .inr (.inr (some 0))), (1, .inl a1), (2, .inl a2)]) (stₚ := [.inl a2, .inl a1, .inr (.inr (some 0))]) (hₚ := gr_h I112 J98) (C := (((True ∧ True) ∧ True) ∧ True)) rfl ⟨⟨⟨trivial, trivial⟩, trivial⟩, trivial⟩ ?_
          obtain ⟨r126, h126, E126, P126⟩ := r_mended (ws0 := ws0) (tb := tb) hws htb ext I112 J98 hI112 a1 a2 ⟨by exact gz_m 31 (by omega), by exact gz_m 32 (by omega)⟩ ⟨by exact gz_m 33 (by omega), by exact gz_m 34 (by omega)⟩ (by exact gz_m 35 (by omega)) KGR_I112 KFV_I112
          obtain ⟨I127, J128, rfl, hI127, g126, k126, KGR_I127, KFV_I127, ⟨z126, rfl, q126⟩⟩ := P126
          have FI127 := gr_frt FI112 g126 rfl rfl
          have FJ128 := gr_fjt FJ98 k126 rfl rfl
          have t129 := g126 0 68 rfl
          have t130 := g126 0 1 rfl
          have t131 := g126 0 2 rfl
          have f132 := (gr_b_0_143 hI127)
          have f133 := (gr_b_0_177 hI127)
          have f134 := (gr_b_0_186 hI127)
          have f135 := (gr_b_0_68 hI127)
          have f136 := (gr_b_0_1 hI127)
          have f137 := (gr_b_0_2 hI127)
          have l126 := q126.2.2
          have KKR_I127 := gr_KR_tr KKR_I112 l126
          refine gv_callV hD rfl (As := [.inl a1, .inl a2]) (st := []) rfl (by decide) rfl rfl (gr_lV hws rfl) (Nat.le_of_ble_eq_true rfl) (gz_Ev_mono (d := 13) (by decide) E126) ?_
          show gv_X _ _ (57, [(0, .inr (.inr (some 0))), (1, .inl a1), (2, .inl a2)], [.inl z126], gr_sh ++ ext, gr_h I127 J128)
          refine gv_run 2 true hD (pcₚ := 59) (lvₚ := [(3, .inl z126), (0, .inr (.inr (some 0))), (1, .inl a1), (2, .inl a2)]) (stₚ := [.inl z126]) (hₚ := gr_h I127 J128) (C := ((True ∧ True) ∧ True)) rfl ⟨⟨trivial, trivial⟩, trivial⟩ ?_
          refine gv_if_ge (t := 69) hD rfl rfl ⟨by exact gz_m 36 (by omega), by exact gz_m 37 (by omega)⟩ (fun c138 => ?_) (fun c138 => ?_)
          · refine gv_run 1 true hD (pcₚ := 70) (lvₚ := [(3, .inl z126), (0, .inr (.inr (some 0))), (1, .inl a1), (2, .inl a2)]) (stₚ := [.inr (.inr (some 0))]) (hₚ := gr_h I127 J128) (C := (True ∧ True)) rfl ⟨trivial, trivial⟩ ?_
            obtain ⟨r139, h139, E139, P139⟩ := r_outSentence (ws0 := ws0) (tb := tb) hws htb ext I127 J128 hI127   
            obtain ⟨I140, J141, rfl, hI140, g139, k139, rfl⟩ := P139
            have FI140 := gr_frt FI127 g139 rfl rfl
            have FJ141 := gr_fjt FJ128 k139 rfl rfl
            have t142 := g139 0 143 rfl
            have t143 := g139 0 177 rfl
            have t144 := g139 0 186 rfl
            have t145 := g139 0 68 rfl
            have t146 := g139 0 1 rfl
            have t147 := g139 0 2 rfl
            have f148 := (gr_b_0_143 hI140)
            have f149 := (gr_b_0_177 hI140)
            have f150 := (gr_b_0_186 hI140)
            have f151 := (gr_b_0_68 hI140)
            have f152 := (gr_b_0_1 hI140)
            have f153 := (gr_b_0_2 hI140)
            have KGR_I140 := gr_GR_fr KGR_I127 (fun k => g139 19 k rfl) (fun k => g139 18 k rfl) (fun k => g139 36 k rfl) (fun k => g139 41 k rfl) (fun k => g139 42 k rfl) (fun k => g139 43 k rfl) (fun k => g139 45 k rfl) (fun k => g139 46 k rfl) (fun k => g139 47 k rfl) (fun k => g139 6 k rfl) (fun k => g139 7 k rfl) (fun k => g139 8 k rfl) (g139 0 3 rfl)
            have KFV_I140 := gr_FV_fr KFV_I127 (fun k => g139 87 k rfl) (fun k => g139 88 k rfl) (fun k => g139 104 k rfl) (fun k => g139 90 k rfl) (fun k => g139 91 k rfl) (fun k => g139 92 k rfl) (fun k => g139 94 k rfl) (fun k => g139 95 k rfl) (fun k => g139 97 k rfl) (fun k => g139 98 k rfl) (fun k => g139 19 k rfl) (fun k => g139 18 k rfl) (fun k => g139 41 k rfl) (fun k => g139 6 k rfl) (fun k => g139 99 k rfl) (fun k => g139 105 k rfl) (fun k => g139 107 k rfl) (fun k => g139 108 k rfl) (fun k => g139 110 k rfl) (fun k => g139 111 k rfl) (g139 0 157 rfl) (g139 0 158 rfl) (g139 0 177 rfl) (g139 0 186 rfl) (g139 0 159 rfl) hI127
            have KKR_I140 := gr_KR_g KKR_I127 g139 (by decide)
            refine gv_callV hD rfl (As := []) (st := []) rfl (by decide) rfl rfl (gr_lV hws rfl) (Nat.le_of_ble_eq_true rfl) (gz_Ev_mono (d := 2) (by decide) E139) ?_
            show gv_X _ _ (73, [(3, .inl z126), (0, .inr (.inr (some 0))), (1, .inl a1), (2, .inl a2)], [], gr_sh ++ ext, gr_h I140 J141)
            refine gv_pick [0] rfl ?_
            exact L73 I140 J141 z126 hI140 FI140 FJ141 KGR_I140 KFV_I140 KKR_I140 (by exact gz_m 38 (by omega))
          · refine gv_run 1 true hD (pcₚ := 63) (lvₚ := [(3, .inl z126), (0, .inr (.inr (some 0))), (1, .inl a1), (2, .inl a2)]) (stₚ := [.inr (.inr (some 0))]) (hₚ := gr_h I127 J128) (C := (True ∧ True)) rfl ⟨trivial, trivial⟩ ?_
            obtain ⟨r154, h154, E154, P154⟩ := r_noForest_f (ws0 := ws0) (tb := tb) hws htb ext I127 J128 hI127   
            obtain ⟨I155, J156, rfl, hI155, g154, k154, ⟨rfl, q154⟩⟩ := P154
            have FI155 := gr_frt FI127 g154 rfl rfl
            have FJ156 := gr_fjt FJ128 k154 rfl rfl
            have t157 := g154 0 143 rfl
            have t158 := g154 0 68 rfl
            have t159 := g154 0 1 rfl
            have t160 := g154 0 2 rfl
            have f161 := (gr_b_0_143 hI155)
            have f162 := (gr_b_0_177 hI155)
            have f163 := (gr_b_0_186 hI155)
            have f164 := (gr_b_0_68 hI155)
            have f165 := (gr_b_0_1 hI155)
            have f166 := (gr_b_0_2 hI155)
            have KGR_I155 := gr_GR_fr KGR_I127 (fun k => g154 19 k rfl) (fun k => g154 18 k rfl) (fun k => g154 36 k rfl) (fun k => g154 41 k rfl) (fun k => g154 42 k rfl) (fun k => g154 43 k rfl) (fun k => g154 45 k rfl) (fun k => g154 46 k rfl) (fun k => g154 47 k rfl) (fun k => g154 6 k rfl) (fun k => g154 7 k rfl) (fun k => g154 8 k rfl) (g154 0 3 rfl)
            have KKR_I155 := gr_KR_g KKR_I127 g154 (by decide)
            have KFV_I155 : gr_FV I155 := (gr_FV_no (by exact gz_m 39 (by omega)) (by exact gz_m 40 (by omega)))
            refine gv_callV hD rfl (As := []) (st := []) rfl (by decide) rfl rfl (gr_lV hws rfl) (Nat.le_of_ble_eq_true rfl) (gz_Ev_mono (d := 1) (by decide) E154) ?_
            show gv_X _ _ (66, [(3, .inl z126), (0, .inr (.inr (some 0))), (1, .inl a1), (2, .inl a2)], [], gr_sh ++ ext, gr_h I155 J156)
            refine gv_run 1 true hD (pcₚ := 73) (lvₚ := [(3, .inl z126), (0, .inr (.inr (some 0))), (1, .inl a1), (2, .inl a2)]) (stₚ := []) (hₚ := gr_h I155 J156) (C := (True ∧ True)) rfl ⟨trivial, trivial⟩ ?_
            refine gv_pick [0] rfl ?_
            exact L73 I155 J156 z126 hI155 FI155 FJ156 KGR_I155 KFV_I155 KKR_I155 (by exact gz_m 41 (by omega))
        · refine gv_pick [0] rfl ?_
          exact L39 I97 J98 hI97 FI97 FJ98 KGR_I97 KFV_I97 KKR_I97 (by exact gz_m 42 (by omega))
    · refine gv_pick [] rfl ?_
      exact L16 I67 J68 hI67 FI67 FJ68 KGR_I67 KFV_I67 KKR_I67 (by exact gz_m 43 (by omega))
