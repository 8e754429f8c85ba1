def gs_par (β : Int → Int) (N : Int) (I : gr_I) (J : gr_J) (p : Int) : Int := if gs_T β N (gs_X β N p) = 1 then (if gs_lt J 23 (24 * I 0 6) (I 17 (Int.toNat (I 0 6))) (gs_rn β N (gs_X β N p)) < 0 then -1 - gs_A β N (gs_X β N p) else gs_X β N (gs_X β N p)) else -1 - gs_A β N (gs_X β N p)
set_option maxHeartbeats 8000000 in
set_option maxRecDepth 100000 in
theorem d_X6_placeCell_p {ws0 : List Cond} {tb : String → gz_T} (hws : gc_Ws ws0) (htb : gc_tbs tb) (sh : gz_Sh) (ro : Nat → Nat) (I : gr_I) (J : gr_J) (A : gc_A) (hI : gc_Inv ro I) (V : List fo_e) (x9 : fo_e)  (hb : gc_Base sh ro A)  (x0 : 0 ≤ I 41 0 ∧ I 41 0 ≤ 16777215 ∧ 0 ≤ I 41 1 ∧ I 41 1 ≤ 2000 ∧ -1 ≤ I 41 2 ∧ I 41 2 ≤ 2000) (x1 : gs_CM I V) (x2 : gs_cr9 I x9) : ∃ r h', gz_Ev ws0 tb 2 (yX6_placeCell, cX6_placeCell, 2, (some .boolean)) [.inr (.inr (some 39))] sh (gc_h sh I J A) r sh h' 0 0 ∧ (∃ (I' : gr_I) (J' : gr_J), h' = gc_h sh I' J' A ∧ gc_Inv ro I' ∧ (∀ q j : Nat, ((q = 39 ∧ j = 8) ∨ q = 40) ∨ I' q j = I q j) ∧ (∀ q j : Nat, (False) ∨ J' q j = J q j) ∧ (∃ z : Int, r = some (.inl z) ∧ 0 ≤ z ∧ z ≤ 1 ∧ ((z = 1 ∧ gs_CM I' (gs_inc V x9)) ∨ (z = 0 ∧ 25 ≤ (((gs_inc V x9).length : Nat) : Int))))) := by
  have FI : ∀ q j : Nat, ((q = 39 ∧ j = 8) ∨ q = 40) ∨ I q j = I q j := fun _ _ => Or.inr rfl
  have FJ : ∀ q j : Nat, (False) ∨ J q j = J q j := fun _ _ => Or.inr rfl
  have A_39_10 : A 39 10 = some 41 := gc_bA_39_10 hb
  have A_39_9 : A 39 9 = some 40 := gc_bA_39_9 hb
  have B_39 : 39 < 1000000 := by decide
  have B_40 : 40 < 1000000 := by decide
  have B_41 : 41 < 1000000 := by decide
  have R_39 : ro 39 = 42 := gc_bR_39 hb
  have R_40 : ro 40 = 39 := gc_bR_40 hb
  have R_41 : ro 41 = 0 := gc_bR_41 hb
  have S_39 : sh[39]? = some (false, 6, 19) := gc_bS_39 hb
  have S_40 : sh[40]? = some (true, 1, 72) := gc_bS_40 hb
  have S_41 : sh[41]? = some (true, 1, 25) := gc_bS_41 hb
  have hD : gv_D (gc_E6 ws0 tb 1 (yX6_placeCell, cX6_placeCell, 2, (some .boolean)) kX6_placeCell) := gq_of oX6_placeCell
  refine gc_ev6 (d := 1) (l := kX6_placeCell) (Po := fun r h' => (∃ (I' : gr_I) (J' : gr_J), h' = gc_h sh I' J' A ∧ gc_Inv ro I' ∧ (∀ q j : Nat, ((q = 39 ∧ j = 8) ∨ q = 40) ∨ I' q j = I q j) ∧ (∀ q j : Nat, (False) ∨ J' q j = J q j) ∧ (∃ z : Int, r = some (.inl z) ∧ 0 ≤ z ∧ z ≤ 1 ∧ ((z = 1 ∧ gs_CM I' (gs_inc V x9)) ∨ (z = 0 ∧ 25 ≤ (((gs_inc V x9).length : Nat) : Int)))))) htb rfl (Nat.le_of_ble_eq_true rfl) ?_
  have f1 := (gc_b_42_8 hI R_39)
  have L2 : ∀ (n9 : Nat) (v1_2 : Int), (25 - v1_2).toNat < n9 → ((0 ≤ v1_2 ∧ v1_2 ≤ 24) ∧ (v1_2 ≤ I 39 8)) → (∀ j : Nat, (j : Int) < v1_2 → ¬ I 40 (3 * j) = I 41 0) → gv_X (gc_E6 ws0 tb 1 (yX6_placeCell, cX6_placeCell, 2, (some .boolean)) kX6_placeCell) (gv_Q cX6_placeCell (some .boolean) sh (fun r h' => (∃ (I' : gr_I) (J' : gr_J), h' = gc_h sh I' J' A ∧ gc_Inv ro I' ∧ (∀ q j : Nat, ((q = 39 ∧ j = 8) ∨ q = 40) ∨ I' q j = I q j) ∧ (∀ q j : Nat, (False) ∨ J' q j = J q j) ∧ (∃ z : Int, r = some (.inl z) ∧ 0 ≤ z ∧ z ≤ 1 ∧ ((z = 1 ∧ gs_CM I' (gs_inc V x9)) ∨ (z = 0 ∧ 25 ≤ (((gs_inc V x9).length : Nat) : Int))))))) (2, [(0, .inr (.inr (some 39))), (1, .inl v1_2)], [], sh, gc_h sh I J A) := by
    intro n9
    induction n9 with
    | zero => intro v1_2 hn; exact gz_m 0 (by omega)
    | succ n9 ih2 =>
      intro v1_2 hn m_2 e0_2
      obtain ⟨hv1_2, e1_2⟩ := m_2
      have f3 := (gc_b_42_8 hI R_39)
      have L33 : ((0 ≤ v1_2 ∧ v1_2 ≤ 24) ∧ ((v1_2 < I 39 8 ∧ I 40 (Int.toNat (v1_2 * 3)) = I 41 0) ∨ v1_2 = I 39 8)) → (∀ j : Nat, (j : Int) < v1_2 → ¬ I 40 (3 * j) = I 41 0) → gv_X (gc_E6 ws0 tb 1 (yX6_placeCell, cX6_placeCell, 2, (some .boolean)) kX6_placeCell) (gv_Q cX6_placeCell (some .boolean) sh (fun r h' => (∃ (I' : gr_I) (J' : gr_J), h' = gc_h sh I' J' A ∧ gc_Inv ro I' ∧ (∀ q j : Nat, ((q = 39 ∧ j = 8) ∨ q = 40) ∨ I' q j = I q j) ∧ (∀ q j : Nat, (False) ∨ J' q j = J q j) ∧ (∃ z : Int, r = some (.inl z) ∧ 0 ≤ z ∧ z ≤ 1 ∧ ((z = 1 ∧ gs_CM I' (gs_inc V x9)) ∨ (z = 0 ∧ 25 ≤ (((gs_inc V x9).length : Nat) : Int))))))) (33, [(0, .inr (.inr (some 39))), (1, .inl v1_2)], [], sh, gc_h sh I J A) := by
        intro m_4 e0_4
        obtain ⟨hv1_2_4, e1_4⟩ := m_4
        have f5 := (gc_b_42_8 hI R_39)
        refine gv_run 2 true hD (pc' := 36) (lv' := [(0, .inr (.inr (some 39))), (1, .inl v1_2)]) (st' := [.inl 24, .inl v1_2]) (h' := gc_h sh I J A) (C := ((True ∧ True) ∧ True)) rfl ⟨⟨trivial, trivial⟩, trivial⟩ ?_
        refine gv_icmp_lt (t := 41) hD rfl rfl ⟨⟨by exact gz_m 1 (by omega), by exact gz_m 2 (by omega)⟩, ⟨by exact gz_m 3 (by omega), by exact gz_m 4 (by omega)⟩⟩ (fun c6 => ?_) (fun c6 => ?_)
        · show gv_X _ _ (41, [(0, .inr (.inr (some 39))), (1, .inl v1_2)], [], sh, gc_h sh I J A)
          refine gv_run 1 true hD (pc' := 42) (lv' := [(0, .inr (.inr (some 39))), (1, .inl v1_2)]) (st' := [.inr (.inr (some 39))]) (h' := gc_h sh I J A) (C := (True ∧ True)) rfl ⟨trivial, trivial⟩ ?_
          refine gv_get hD rfl rfl S_39 ⟨by decide, B_39⟩ (gc_hA S_39 rfl A_39_10) ?_
          show gv_X _ _ (45, [(0, .inr (.inr (some 39))), (1, .inl v1_2)], [.inr (.inr (some 41))], sh, gc_h sh I J A)
          refine gv_run 2 true hD (pc' := 47) (lv' := [(0, .inr (.inr (some 39))), (1, .inl v1_2)]) (st' := [.inr (.inr (some 39)), .inl 0, .inr (.inr (some 41))]) (h' := gc_h sh I J A) (C := ((True ∧ True) ∧ True)) rfl ⟨⟨trivial, trivial⟩, trivial⟩ ?_
          refine gv_get hD rfl rfl S_39 ⟨by decide, B_39⟩ (gc_hA S_39 rfl A_39_9) ?_
          show gv_X _ _ (50, [(0, .inr (.inr (some 39))), (1, .inl v1_2)], [.inr (.inr (some 40)), .inl 0, .inr (.inr (some 41))], sh, gc_h sh I J A)
          refine gv_run 4 true hD (pc' := 54) (lv' := [(0, .inr (.inr (some 39))), (1, .inl v1_2)]) (st' := [.inl 3, .inl (v1_2 * 3), .inr (.inr (some 40)), .inl 0, .inr (.inr (some 41))]) (h' := gc_h sh I J A) (C := ((((True ∧ True) ∧ True) ∧ True) ∧ True)) rfl ⟨⟨⟨⟨trivial, trivial⟩, trivial⟩, trivial⟩, trivial⟩ ?_
          refine gv_copy hD rfl (gc_lC6_263 hws) (Nat.le_of_ble_eq_true rfl) ⟨B_41, B_40⟩ S_41 S_40 (by decide) ⟨by decide, by decide⟩ ⟨by exact gz_m 5 (by omega), by exact gz_m 6 (by omega), by exact gz_m 7 (by omega)⟩ (by exact gz_m 8 (by omega)) (by exact gz_m 9 (by omega)) (fun h => absurd h (gz_ne rfl)) ?_
          refine gc_cp hI S_41 S_40 (by decide) (fun j hj => gc_RL_cp (gc_RL_of x0) R_40 (by exact gz_m 10 (by omega)) (by decide) hj) (fun I8 hI8 p7 q7 => ?_)
          have FI8 := gc_frp (W := fun q j => (q = 39 ∧ j = 8) ∨ q = 40) (V := fun q j => q = 40 ∧ Int.toNat (v1_2 * 3) ≤ j ∧ j < Int.toNat (v1_2 * 3) + Int.toNat 3) FI (fun q j h => (Or.inr h.1)) p7
          have t10 := p7 39 8 (fun h => absurd h.1 (gz_ne rfl))
          have f11 := (gc_b_42_8 hI8 R_39)
          show gv_X _ _ (57, [(0, .inr (.inr (some 39))), (1, .inl v1_2)], [], sh, gc_h sh I8 J A)
          refine gv_run 2 true hD (pc' := 59) (lv' := [(0, .inr (.inr (some 39))), (1, .inl v1_2)]) (st' := [.inr (.inr (some 39)), .inr (.inr (some 39))]) (h' := gc_h sh I8 J A) (C := ((True ∧ True) ∧ True)) rfl ⟨⟨trivial, trivial⟩, trivial⟩ ?_
          have f12 := (gc_b_42_8 hI8 R_39)
          refine gv_get hD rfl rfl S_39 ⟨by decide, B_39⟩ (gc_hI S_39 rfl) ?_
          show gv_X _ _ (62, [(0, .inr (.inr (some 39))), (1, .inl v1_2)], [.inl (I8 39 8), .inr (.inr (some 39))], sh, gc_h sh I8 J A)
          refine gv_run 3 true hD (pc' := 65) (lv' := [(0, .inr (.inr (some 39))), (1, .inl v1_2)]) (st' := [.inl (v1_2 + 1), .inl (I8 39 8), .inr (.inr (some 39))]) (h' := gc_h sh I8 J A) (C := (((True ∧ True) ∧ True) ∧ True)) rfl ⟨⟨⟨trivial, trivial⟩, trivial⟩, trivial⟩ ?_
          obtain ⟨z13, E13, q13⟩ := gj_max (ws0 := ws0) (tb := tb) (sh := sh) (h := gc_h sh I8 J A) (I8 39 8) (v1_2 + 1) ⟨by exact gz_m 11 (by omega), by exact gz_m 12 (by omega)⟩ ⟨by exact gz_m 13 (by omega), by exact gz_m 14 (by omega)⟩
          refine gv_callS hD rfl (As := [.inl (I8 39 8), .inl (v1_2 + 1)]) (st := [.inr (.inr (some 39))]) rfl (gc_lS6 hws rfl) (Nat.le_of_ble_eq_true rfl) (gz_Ev_mono (d := 1) (by decide) E13) ?_
          show gv_X _ _ (68, [(0, .inr (.inr (some 39))), (1, .inl v1_2)], [.inl z13, .inr (.inr (some 39))], sh, gc_h sh I8 J A)
          refine gv_put hD rfl rfl S_39 ⟨by decide, B_39⟩ rfl trivial ?_
          refine gc_st (k := 8) hI8 S_39 rfl R_39 (lo := 0) (hi := 24) rfl rfl (by exact gz_m 15 (by omega)) (by exact gz_m 16 (by omega)) (fun I14 hI14 q15 p15 => ?_)
          have FI14 := gc_frs (W := fun q j => (q = 39 ∧ j = 8) ∨ q = 40) FI8 (Or.inl ⟨rfl, rfl⟩) p15
          have f16 := (gc_b_42_8 hI14 R_39)
          show gv_X _ _ (71, [(0, .inr (.inr (some 39))), (1, .inl v1_2)], [], sh, gc_h sh I14 J A)
          refine gv_run 1 true hD (pc' := 72) (lv' := [(0, .inr (.inr (some 39))), (1, .inl v1_2)]) (st' := [.inl 1]) (h' := gc_h sh I14 J A) (C := (True ∧ True)) rfl ⟨trivial, trivial⟩ ?_
          exact gv_zret hD rfl (by exact gz_m 17 (by omega)) ⟨I14, J, rfl, hI14, FI14, FJ, ⟨_, rfl, by exact gz_m 18 (by omega), by exact gz_m 19 (by omega), (Or.inl ⟨by exact gz_m 20 (by omega), gs_CM_put x1 x2 e0_4 (by exact gz_m 21 (by omega)) (by exact gz_m 22 (by omega)) (fun d hd => ((p15 40 (3 * Int.toNat v1_2 + d) (by exact gz_m 23 (by omega)))).trans (by have h9 := q7 d (by exact gz_m 24 (by omega)); rw [show Int.toNat (v1_2 * 3) = 3 * Int.toNat v1_2 from by exact gz_m 25 (by omega), show Int.toNat 0 + d = d from by exact gz_m 26 (by omega)] at h9; exact h9)) (fun j hj d hd => ((p15 40 (3 * j + d) (by exact gz_m 27 (by omega)))).trans (p7 40 (3 * j + d) (fun h => by have h9 := h.2; exact gz_m 28 (by omega)))) ((p15 1 17 (by exact gz_m 29 (by omega))).trans (p7 1 17 (fun h => absurd h.1 (by exact gz_m 30 (by omega))))) (fun j => ((p15 20 j (by exact gz_m 31 (by omega))).trans (p7 20 j (fun h => absurd h.1 (by exact gz_m 32 (by omega))))))⟩)⟩⟩
        · show gv_X _ _ (39, [(0, .inr (.inr (some 39))), (1, .inl v1_2)], [], sh, gc_h sh I J A)
          refine gv_run 1 true hD (pc' := 40) (lv' := [(0, .inr (.inr (some 39))), (1, .inl v1_2)]) (st' := [.inl 0]) (h' := gc_h sh I J A) (C := (True ∧ True)) rfl ⟨trivial, trivial⟩ ?_
          exact gv_zret hD rfl (by exact gz_m 33 (by omega)) ⟨I, J, rfl, hI, FI, FJ, ⟨_, rfl, by exact gz_m 34 (by omega), by exact gz_m 35 (by omega), (Or.inr ⟨by exact gz_m 36 (by omega), gs_CM_full x1 x2 e0_4 (by exact gz_m 37 (by omega)) (by exact gz_m 38 (by omega))⟩)⟩⟩
      refine gv_run 2 true hD (pc' := 4) (lv' := [(0, .inr (.inr (some 39))), (1, .inl v1_2)]) (st' := [.inr (.inr (some 39)), .inl v1_2]) (h' := gc_h sh I J A) (C := ((True ∧ True) ∧ True)) rfl ⟨⟨trivial, trivial⟩, trivial⟩ ?_
      have f17 := (gc_b_42_8 hI R_39)
      refine gv_get hD rfl rfl S_39 ⟨by decide, B_39⟩ (gc_hI S_39 rfl) ?_
      show gv_X _ _ (7, [(0, .inr (.inr (some 39))), (1, .inl v1_2)], [.inl (I 39 8), .inl v1_2], sh, gc_h sh I J A)
      refine gv_icmp_ge (t := 33) hD rfl rfl ⟨⟨by exact gz_m 39 (by omega), by exact gz_m 40 (by omega)⟩, ⟨by exact gz_m 41 (by omega), by exact gz_m 42 (by omega)⟩⟩ (fun c18 => ?_) (fun c18 => ?_)
      · show gv_X _ _ (33, [(0, .inr (.inr (some 39))), (1, .inl v1_2)], [], sh, gc_h sh I J A)
        exact L33 (by exact gz_m 43 (by omega)) e0_2
      · show gv_X _ _ (10, [(0, .inr (.inr (some 39))), (1, .inl v1_2)], [], sh, gc_h sh I J A)
        refine gv_run 1 true hD (pc' := 11) (lv' := [(0, .inr (.inr (some 39))), (1, .inl v1_2)]) (st' := [.inr (.inr (some 39))]) (h' := gc_h sh I J A) (C := (True ∧ True)) rfl ⟨trivial, trivial⟩ ?_
        refine gv_get hD rfl rfl S_39 ⟨by decide, B_39⟩ (gc_hA S_39 rfl A_39_9) ?_
        show gv_X _ _ (14, [(0, .inr (.inr (some 39))), (1, .inl v1_2)], [.inr (.inr (some 40))], sh, gc_h sh I J A)
        refine gv_run 3 true hD (pc' := 17) (lv' := [(0, .inr (.inr (some 39))), (1, .inl v1_2)]) (st' := [.inl (v1_2 * 3), .inr (.inr (some 40))]) (h' := gc_h sh I J A) (C := (((True ∧ True) ∧ True) ∧ True)) rfl ⟨⟨⟨trivial, trivial⟩, trivial⟩, trivial⟩ ?_
        have f19 := (show 0 ≤ I 40 (Int.toNat (v1_2 * 3)) ∧ I 40 (Int.toNat (v1_2 * 3)) ≤ 16777215 from gc_inm (c := 0) hI R_40 rfl rfl (by exact gz_m 44 (by omega)) rfl rfl)
        refine gv_iald hD rfl S_40 rfl ⟨by decide, B_40⟩ ⟨by exact gz_m 45 (by omega), by exact gz_m 46 (by omega)⟩ (gc_iI S_40 rfl) ?_
        show gv_X _ _ (18, [(0, .inr (.inr (some 39))), (1, .inl v1_2)], [.inl (I 40 (Int.toNat (v1_2 * 3)))], sh, gc_h sh I J A)
        refine gv_run 1 true hD (pc' := 19) (lv' := [(0, .inr (.inr (some 39))), (1, .inl v1_2)]) (st' := [.inr (.inr (some 39)), .inl (I 40 (Int.toNat (v1_2 * 3)))]) (h' := gc_h sh I J A) (C := (True ∧ True)) rfl ⟨trivial, trivial⟩ ?_
        refine gv_get hD rfl rfl S_39 ⟨by decide, B_39⟩ (gc_hA S_39 rfl A_39_10) ?_
        show gv_X _ _ (22, [(0, .inr (.inr (some 39))), (1, .inl v1_2)], [.inr (.inr (some 41)), .inl (I 40 (Int.toNat (v1_2 * 3)))], sh, gc_h sh I J A)
        refine gv_run 1 true hD (pc' := 23) (lv' := [(0, .inr (.inr (some 39))), (1, .inl v1_2)]) (st' := [.inl 0, .inr (.inr (some 41)), .inl (I 40 (Int.toNat (v1_2 * 3)))]) (h' := gc_h sh I J A) (C := (True ∧ True)) rfl ⟨trivial, trivial⟩ ?_
        have f20 := (gc_b_0_0 hI R_41)
        refine gv_iald hD rfl S_41 rfl ⟨by decide, B_41⟩ ⟨by exact gz_m 47 (by omega), by exact gz_m 48 (by omega)⟩ (gc_iI S_41 rfl) ?_
        show gv_X _ _ (24, [(0, .inr (.inr (some 39))), (1, .inl v1_2)], [.inl (I 41 0), .inl (I 40 (Int.toNat (v1_2 * 3)))], sh, gc_h sh I J A)
        refine gv_icmp_eq (t := 33) hD rfl rfl ⟨⟨by exact gz_m 49 (by omega), by exact gz_m 50 (by omega)⟩, ⟨by exact gz_m 51 (by omega), by exact gz_m 52 (by omega)⟩⟩ (fun c21 => ?_) (fun c21 => ?_)
        · show gv_X _ _ (33, [(0, .inr (.inr (some 39))), (1, .inl v1_2)], [], sh, gc_h sh I J A)
          exact L33 (by exact gz_m 53 (by omega)) e0_2
        · show gv_X _ _ (27, [(0, .inr (.inr (some 39))), (1, .inl v1_2)], [], sh, gc_h sh I J A)
          refine gv_run 2 true hD (pc' := 2) (lv' := [(1, .inl (v1_2 + 1)), (0, .inr (.inr (some 39)))]) (st' := []) (h' := gc_h sh I J A) (C := ((True ∧ True) ∧ True)) rfl ⟨⟨trivial, trivial⟩, trivial⟩ ?_
          refine gv_pick [1, 0] rfl ?_
          exact ih2 (v1_2 + 1) (by exact gz_m 54 (by omega)) (by exact gz_m 55 (by omega)) (fun j h => by by_cases c : j = Int.toNat v1_2; (rw [c, show 3 * Int.toNat v1_2 = Int.toNat (v1_2 * 3) from by exact gz_m 56 (by omega)]; exact gz_m 57 (by omega)); exact e0_2 j (by exact gz_m 58 (by omega)))
  refine gv_run 2 true hD (pc' := 2) (lv' := [(1, .inl 0), (0, .inr (.inr (some 39)))]) (st' := []) (h' := gc_h sh I J A) (C := ((True ∧ True) ∧ True)) rfl ⟨⟨trivial, trivial⟩, trivial⟩ ?_
  refine gv_pick [1, 0] rfl ?_
  exact L2 _ 0 (Nat.lt_succ_self _) (by exact gz_m 59 (by omega)) (fun j h => absurd h (by exact gz_m 60 (by omega)))
set_option maxHeartbeats 8000000 in
set_option maxRecDepth 100000 in
theorem d_X6_readParent_p {ws0 : List Cond} {tb : String → gz_T} (hws : gc_Ws ws0) (htb : gc_tbs tb) (sh : gz_Sh) (ro : Nat → Nat) (I : gr_I) (J : gr_J) (A : gc_A) (hI : gc_Inv ro I) (t : Nat) (β : Int → Int) (η : Int) (p9 : Int) (Ir : gr_I) (Jr : gr_J)  (hb : gc_Base sh ro A) (h_t : gc_isTongue sh ro A t) (G_t : 144 ≤ t)  (x0 : I 23 7 = 1) (x1 : gc_AT β η p9 23 I J) (x2 : 0 ≤ p9) (x3 : I (t + 11) 1 = Ir 17 (Int.toNat (Ir 0 6))) (x4 : gs_NA (I (t + 11) 1) (J (t + 12)) (fun k => Jr 23 (Int.toNat (24 * Ir 0 6 + (k : Int))))) (x5 : gs_PT Ir I t) (x6 : gs_PM Ir I t) (x7 : I 39 2 = (t : Int)) (KLT_I : gc_LT I) (KTK_I : gc_TK I) : ∃ r h', gz_Ev ws0 tb 4 (yX6_readParent, cX6_readParent, 2, (some .boolean)) [.inr (.inr (some 39))] sh (gc_h sh I J A) r sh h' 0 0 ∧ (∃ (I' : gr_I) (J' : gr_J), h' = gc_h sh I' J' A ∧ gc_Inv ro I' ∧ (∀ q j : Nat, ((q = 39 ∧ j = 3) ∨ (q = 39 ∧ j = 4) ∨ (q = 23 ∧ j = 5) ∨ (q = 23 ∧ j = 6) ∨ (q = 23 ∧ j = 7) ∨ (q = 23 ∧ j = 8) ∨ (q = 39 ∧ j = 8) ∨ q = 40) ∨ I' q j = I q j) ∧ (∀ q j : Nat, ((q = 23 ∧ j = 9)) ∨ J' q j = J q j) ∧ gc_LT I' ∧ gc_TK I' ∧ (∃ z : Int, r = some (.inl z) ∧ 0 ≤ z ∧ z ≤ 1 ∧ (I' 23 1 = I 23 1) ∧ (I 23 5 ≤ I' 23 5) ∧ (gs_Or z (0 ≤ (gs_par β η Ir Jr p9) ∧ gc_AT β η (gs_par β η Ir Jr p9) 23 I' J' ∧ gs_CM I' (gs_dl Ir (Ir 0 6) (gs_lt Jr 23 (24 * Ir 0 6) (Ir 17 (Int.toNat (Ir 0 6))) (gs_rn β η (gs_X β η p9)))) ∧ gs_qtO β η Ir Jr (gs_X β η p9) = gs_qt2 β η Ir Jr (gs_dl Ir (Ir 0 6) (gs_lt Jr 23 (24 * Ir 0 6) (Ir 17 (Int.toNat (Ir 0 6))) (gs_rn β η (gs_X β η p9)))) (gs_par β η Ir Jr p9)) ((gs_par β η Ir Jr p9) < 0 ∧ I' 39 4 = -1 - (gs_par β η Ir Jr p9) ∧ gs_qtO β η Ir Jr (gs_X β η p9) = ((gs_par β η Ir Jr p9), []))))) := by
  have FI : ∀ q j : Nat, ((q = 39 ∧ j = 3) ∨ (q = 39 ∧ j = 4) ∨ (q = 23 ∧ j = 5) ∨ (q = 23 ∧ j = 6) ∨ (q = 23 ∧ j = 7) ∨ (q = 23 ∧ j = 8) ∨ (q = 39 ∧ j = 8) ∨ q = 40) ∨ I q j = I q j := fun _ _ => Or.inr rfl
  have FJ : ∀ q j : Nat, ((q = 23 ∧ j = 9)) ∨ J q j = J q j := fun _ _ => Or.inr rfl
  have A_39_1 : A 39 1 = some 23 := gc_bA_39_1 hb
  have A_39_9 : A 39 9 = some 40 := gc_bA_39_9 hb
  have B_23 : 23 < 1000000 := by decide
  have B_39 : 39 < 1000000 := by decide
  have B_40 : 40 < 1000000 := by decide
  have R_23 : ro 23 = 3 := gc_bR_23 hb
  have R_39 : ro 39 = 42 := gc_bR_39 hb
  have R_40 : ro 40 = 39 := gc_bR_40 hb
  have S_23 : sh[23]? = some (false, 9, 10) := gc_bS_23 hb
  have S_39 : sh[39]? = some (false, 6, 19) := gc_bS_39 hb
  have S_40 : sh[40]? = some (true, 1, 72) := gc_bS_40 hb
  obtain ⟨S_t, R_t, B_t, A_t_0, h_t_1, A_t_1, h_t_3, A_t_2, S_t_5, R_t_5, B_t_5, A_t_3, S_t_6, R_t_6, B_t_6, A_t_4, h_t_7, A_t_5, S_t_9, R_t_9, B_t_9, A_t_7, S_t_10, R_t_10, B_t_10, A_t_8, h_t_11, A_t_9, S_t_13, R_t_13, B_t_13, A_t_10, S_t_14, R_t_14, B_t_14, A_t_12, S_t_15, R_t_15, B_t_15, A_t_14, S_t_16, R_t_16, B_t_16, A_t_15, h_t_17⟩ := id h_t
  obtain ⟨S_t_1, R_t_1, B_t_1, A_t_1_0, S_t_1_1, R_t_1_1, B_t_1_1, Q0_t_1, Q1_t_1, Q2_t_1⟩ := id h_t_1
  obtain ⟨S_t_3, R_t_3, B_t_3, A_t_3_0, S_t_3_1, R_t_3_1, B_t_3_1, Q0_t_3, Q1_t_3, Q2_t_3⟩ := id h_t_3
  obtain ⟨S_t_7, R_t_7, B_t_7, A_t_7_0, S_t_7_1, R_t_7_1, B_t_7_1, Q0_t_7, Q1_t_7, Q2_t_7⟩ := id h_t_7
  obtain ⟨S_t_11, R_t_11, B_t_11, A_t_11_0, S_t_11_1, R_t_11_1, B_t_11_1, Q0_t_11, Q1_t_11, Q2_t_11⟩ := id h_t_11
  obtain ⟨S_t_17, R_t_17, B_t_17, A_t_17_0, S_20, R_20, B_20, A_t_17_1, S_t_17_1, R_t_17_1, B_t_17_1, A_t_17_2, S_t_17_2, R_t_17_2, B_t_17_2, A_t_17_3, S_t_17_3, R_t_17_3, B_t_17_3, A_t_17_4, S_t_17_4, R_t_17_4, B_t_17_4, A_t_17_5, S_t_17_5, R_t_17_5, B_t_17_5, S_t_17_6, R_t_17_6, B_t_17_6, S_t_17_7, R_t_17_7, B_t_17_7⟩ := id h_t_17
  have hD : gv_D (gc_E6 ws0 tb 3 (yX6_readParent, cX6_readParent, 2, (some .boolean)) kX6_readParent) := gq_of oX6_readParent
  refine gc_ev6 (d := 3) (l := kX6_readParent) (Po := fun r h' => (∃ (I' : gr_I) (J' : gr_J), h' = gc_h sh I' J' A ∧ gc_Inv ro I' ∧ (∀ q j : Nat, ((q = 39 ∧ j = 3) ∨ (q = 39 ∧ j = 4) ∨ (q = 23 ∧ j = 5) ∨ (q = 23 ∧ j = 6) ∨ (q = 23 ∧ j = 7) ∨ (q = 23 ∧ j = 8) ∨ (q = 39 ∧ j = 8) ∨ q = 40) ∨ I' q j = I q j) ∧ (∀ q j : Nat, ((q = 23 ∧ j = 9)) ∨ J' q j = J q j) ∧ gc_LT I' ∧ gc_TK I' ∧ (∃ z : Int, r = some (.inl z) ∧ 0 ≤ z ∧ z ≤ 1 ∧ (I' 23 1 = I 23 1) ∧ (I 23 5 ≤ I' 23 5) ∧ (gs_Or z (0 ≤ (gs_par β η Ir Jr p9) ∧ gc_AT β η (gs_par β η Ir Jr p9) 23 I' J' ∧ gs_CM I' (gs_dl Ir (Ir 0 6) (gs_lt Jr 23 (24 * Ir 0 6) (Ir 17 (Int.toNat (Ir 0 6))) (gs_rn β η (gs_X β η p9)))) ∧ gs_qtO β η Ir Jr (gs_X β η p9) = gs_qt2 β η Ir Jr (gs_dl Ir (Ir 0 6) (gs_lt Jr 23 (24 * Ir 0 6) (Ir 17 (Int.toNat (Ir 0 6))) (gs_rn β η (gs_X β η p9)))) (gs_par β η Ir Jr p9)) ((gs_par β η Ir Jr p9) < 0 ∧ I' 39 4 = -1 - (gs_par β η Ir Jr p9) ∧ gs_qtO β η Ir Jr (gs_X β η p9) = ((gs_par β η Ir Jr p9), [])))))) htb rfl (Nat.le_of_ble_eq_true rfl) ?_
  have N_t_11__40 : ¬ ((t + 11) = 40) := by exact gz_m 0 (by omega)
  have t1 := gc_TK_mo KTK_I
  have f2 := (gc_b_3_1 hI R_23)
  have f3 := (gc_b_3_5 hI R_23)
  have f4 := (gc_b_3_6 hI R_23)
  have f5 := (gc_b_3_7 hI R_23)
  have f6 := (show 0 ≤ I (t + 11) 1 ∧ I (t + 11) 1 ≤ 24 from gc_in2 hI R_t_11 rfl rfl rfl)
  have f7 := (gc_b_42_8 hI R_39)
  have f8 := (gc_b_42_2 hI R_39)
  have tAT := gc_AT_l x1
  refine gv_run 1 true hD (pc' := 1) (lv' := [(0, .inr (.inr (some 39)))]) (st' := [.inr (.inr (some 39))]) (h' := gc_h sh I J A) (C := (True ∧ True)) rfl ⟨trivial, trivial⟩ ?_
  refine gv_get hD rfl rfl S_39 ⟨by decide, B_39⟩ (gc_hA S_39 rfl A_39_1) ?_
  show gv_X _ _ (4, [(0, .inr (.inr (some 39)))], [.inr (.inr (some 23))], sh, gc_h sh I J A)
  have t10 := gc_TK_nx KTK_I (by exact gz_m 1 (by omega))
  obtain ⟨r9, h9, E9, P9⟩ := d_X9_advance_p (ws0 := ws0) (tb := tb) hws htb sh ro I J A hI 23 β η  (gc_b23 hb)    (by exact gz_m 2 (by omega)) x1.1.1 x1.1.2 
  obtain ⟨I11, J12, rfl, hI11, g9, k9, ⟨rfl, V9_0, V9_1, V9_2, V9_3, V9_4, q9⟩⟩ := P9
  have FI11 := gc_frc (W := fun q j => (q = 39 ∧ j = 3) ∨ (q = 39 ∧ j = 4) ∨ (q = 23 ∧ j = 5) ∨ (q = 23 ∧ j = 6) ∨ (q = 23 ∧ j = 7) ∨ (q = 23 ∧ j = 8) ∨ (q = 39 ∧ j = 8) ∨ q = 40) (V := fun q j => (q = 23 ∧ j = 5) ∨ (q = 23 ∧ j = 6) ∨ (q = 23 ∧ j = 7) ∨ (q = 23 ∧ j = 8)) FI (fun q j h => (h.elim (fun h => (Or.inr (Or.inr (Or.inl h)))) (fun h => (h.elim (fun h => (Or.inr (Or.inr (Or.inr (Or.inl h))))) (fun h => (h.elim (fun h => (Or.inr (Or.inr (Or.inr (Or.inr (Or.inl h)))))) (fun h => (Or.inr (Or.inr (Or.inr (Or.inr (Or.inr (Or.inl h))))))))))))) g9
  have FJ12 := gc_frc (W := fun q j => (q = 23 ∧ j = 9)) (V := fun q j => (q = 23 ∧ j = 9)) FJ (fun q j h => h) k9
  have t13 := (g9 23 1).resolve_left (fun h => h.elim (fun h => absurd h.2 (gz_ne rfl)) (fun h => h.elim (fun h => absurd h.2 (gz_ne rfl)) (fun h => h.elim (fun h => absurd h.2 (gz_ne rfl)) (fun h => absurd h.2 (gz_ne rfl)))))
  have t14 := (g9 (t + 11) 1).resolve_left (fun h => h.elim (fun h => absurd h.2 (gz_ne rfl)) (fun h => h.elim (fun h => absurd h.2 (gz_ne rfl)) (fun h => h.elim (fun h => absurd h.2 (gz_ne rfl)) (fun h => absurd h.2 (gz_ne rfl)))))
  have t15 := (g9 39 8).resolve_left (fun h => h.elim (fun h => absurd h.2 (gz_ne rfl)) (fun h => h.elim (fun h => absurd h.2 (gz_ne rfl)) (fun h => h.elim (fun h => absurd h.2 (gz_ne rfl)) (fun h => absurd h.1 (gz_ne rfl)))))
  have t16 := (g9 39 2).resolve_left (fun h => h.elim (fun h => absurd h.2 (gz_ne rfl)) (fun h => h.elim (fun h => absurd h.2 (gz_ne rfl)) (fun h => h.elim (fun h => absurd h.2 (gz_ne rfl)) (fun h => absurd h.2 (gz_ne rfl)))))
  have f17 := (gc_b_3_5 hI11 R_23)
  have f18 := (gc_b_3_6 hI11 R_23)
  have f19 := (gc_b_3_7 hI11 R_23)
  have KLT_I11 : gc_LT I11 := q9.2.2.1
  have KTK_I11 : gc_TK I11 := And.intro V9_0 (And.intro V9_1 (And.intro V9_2 (And.intro V9_3 V9_4)))
  have t20 := gc_TK_mo KTK_I11
  clear V9_0 V9_1 V9_2 V9_3 V9_4
  have A21 := gc_AT_nx x1 q9.2.2.2
  have t22 := gc_AT_l A21
  refine gv_callV hD rfl (As := []) (st := []) rfl B_23 S_23 rfl (gc_lV6 hws rfl) (Nat.le_of_ble_eq_true rfl) (gz_Ev_mono (d := 2) (by decide) E9) ?_
  show gv_X _ _ (7, [(0, .inr (.inr (some 39)))], [], sh, gc_h sh I11 J12 A)
  refine gv_run 2 true hD (pc' := 9) (lv' := [(0, .inr (.inr (some 39)))]) (st' := [.inr (.inr (some 39)), .inr (.inr (some 39))]) (h' := gc_h sh I11 J12 A) (C := ((True ∧ True) ∧ True)) rfl ⟨⟨trivial, trivial⟩, trivial⟩ ?_
  refine gv_get hD rfl rfl S_39 ⟨by decide, B_39⟩ (gc_h5 (t := t) S_39 rfl (by exact gz_m 3 (by omega))) ?_
  show gv_X _ _ (12, [(0, .inr (.inr (some 39)))], [.inr (.inr (some t)), .inr (.inr (some 39))], sh, gc_h sh I11 J12 A)
  refine gv_get hD rfl rfl S_t ⟨by decide, B_t⟩ (gc_hA S_t rfl A_t_8) ?_
  show gv_X _ _ (15, [(0, .inr (.inr (some 39)))], [.inr (.inr (some (t + 11))), .inr (.inr (some 39))], sh, gc_h sh I11 J12 A)
  obtain ⟨r23, h23, E23, P23⟩ := d_X6_needKnown_p (ws0 := ws0) (tb := tb) hws htb sh ro I11 J12 A hI11  24 8 β η (gs_X β η p9) (t + 11) hb h_t_11   A21 (by exact gz_m 4 (by omega)) 
  obtain ⟨I24, J25, rfl, hI24, g23, k23, ⟨z23, rfl, q23⟩⟩ := P23
  have FI24 := gc_frc (W := fun q j => (q = 39 ∧ j = 3) ∨ (q = 39 ∧ j = 4) ∨ (q = 23 ∧ j = 5) ∨ (q = 23 ∧ j = 6) ∨ (q = 23 ∧ j = 7) ∨ (q = 23 ∧ j = 8) ∨ (q = 39 ∧ j = 8) ∨ q = 40) (V := fun q j => (q = 39 ∧ j = 3) ∨ (q = 39 ∧ j = 4)) FI11 (fun q j h => (h.elim (fun h => (Or.inl h)) (fun h => (Or.inr (Or.inl h))))) g23
  have t26 := (g23 23 1).resolve_left (fun h => h.elim (fun h => absurd h.2 (gz_ne rfl)) (fun h => absurd h.2 (gz_ne rfl)))
  have t27 := (g23 23 5).resolve_left (fun h => h.elim (fun h => absurd h.2 (gz_ne rfl)) (fun h => absurd h.2 (gz_ne rfl)))
  have t28 := (g23 23 6).resolve_left (fun h => h.elim (fun h => absurd h.2 (gz_ne rfl)) (fun h => absurd h.2 (gz_ne rfl)))
  have t29 := (g23 23 7).resolve_left (fun h => h.elim (fun h => absurd h.2 (gz_ne rfl)) (fun h => absurd h.2 (gz_ne rfl)))
  have t30 := (g23 (t + 11) 1).resolve_left (fun h => h.elim (fun h => absurd h.2 (gz_ne rfl)) (fun h => absurd h.2 (gz_ne rfl)))
  have t31 := (g23 39 8).resolve_left (fun h => h.elim (fun h => absurd h.2 (gz_ne rfl)) (fun h => absurd h.2 (gz_ne rfl)))
  have t32 := (g23 39 2).resolve_left (fun h => h.elim (fun h => absurd h.2 (gz_ne rfl)) (fun h => absurd h.2 (gz_ne rfl)))
  obtain rfl : J12 = J25 := funext fun q => funext fun j => ((k23 q j).resolve_left id).symm
  have KLT_I24 := gc_LT_fr KLT_I11 ((g23 23 5).resolve_left (fun h => h.elim (fun h => absurd h.2 (gz_ne rfl)) (fun h => absurd h.2 (gz_ne rfl)))) ((g23 23 6).resolve_left (fun h => h.elim (fun h => absurd h.2 (gz_ne rfl)) (fun h => absurd h.2 (gz_ne rfl)))) ((g23 23 7).resolve_left (fun h => h.elim (fun h => absurd h.2 (gz_ne rfl)) (fun h => absurd h.2 (gz_ne rfl)))) (fun k => (g23 24 k).resolve_left (fun h => h.elim (fun h => absurd h.1 (gz_ne rfl)) (fun h => absurd h.1 (gz_ne rfl))))
  have KTK_I24 := gc_TK_fr KTK_I11 ((g23 23 1).resolve_left (fun h => h.elim (fun h => absurd h.2 (gz_ne rfl)) (fun h => absurd h.2 (gz_ne rfl)))) ((g23 23 5).resolve_left (fun h => h.elim (fun h => absurd h.2 (gz_ne rfl)) (fun h => absurd h.2 (gz_ne rfl)))) ((g23 23 6).resolve_left (fun h => h.elim (fun h => absurd h.2 (gz_ne rfl)) (fun h => absurd h.2 (gz_ne rfl)))) ((g23 23 7).resolve_left (fun h => h.elim (fun h => absurd h.2 (gz_ne rfl)) (fun h => absurd h.2 (gz_ne rfl))))
  have A33 := gc_AT_I A21 ((g23 23 1).resolve_left (fun h => h.elim (fun h => absurd h.2 (gz_ne rfl)) (fun h => absurd h.2 (gz_ne rfl)))) ((g23 23 5).resolve_left (fun h => h.elim (fun h => absurd h.2 (gz_ne rfl)) (fun h => absurd h.2 (gz_ne rfl)))) ((g23 23 6).resolve_left (fun h => h.elim (fun h => absurd h.2 (gz_ne rfl)) (fun h => absurd h.2 (gz_ne rfl)))) ((g23 23 7).resolve_left (fun h => h.elim (fun h => absurd h.2 (gz_ne rfl)) (fun h => absurd h.2 (gz_ne rfl)))) ((g23 23 8).resolve_left (fun h => h.elim (fun h => absurd h.2 (gz_ne rfl)) (fun h => absurd h.2 (gz_ne rfl)))) (fun k => (g23 24 k).resolve_left (fun h => h.elim (fun h => absurd h.1 (gz_ne rfl)) (fun h => absurd h.1 (gz_ne rfl))))
  have t34 := gc_AT_l A33
  refine gv_callV hD rfl (As := [.inr (.inr (some (t + 11)))]) (st := []) rfl B_39 S_39 rfl (gc_lV6 hws rfl) (Nat.le_of_ble_eq_true rfl) (gz_Ev_mono (d := 3) (by decide) E23) ?_
  show gv_X _ _ (18, [(0, .inr (.inr (some 39)))], [.inl z23], sh, gc_h sh I24 J12 A)
  refine gv_if_ne (t := 23) hD rfl rfl ⟨by exact gz_m 5 (by omega), by exact gz_m 6 (by omega)⟩ (fun c35 => ?_) (fun c35 => ?_)
  · show gv_X _ _ (23, [(0, .inr (.inr (some 39)))], [], sh, gc_h sh I24 J12 A)
    have u36 := gs_or1 q23.2.2.2 (by exact gz_m 7 (by omega))
    have L23 : gs_T β η (gs_X β η p9) = 1 → gc_fd (J12 ((t + 11) + 1)) (gs_M β η (gs_X β η p9)) (Int.toNat (I11 (t + 11) 1)) = gs_lt Jr 23 (24 * Ir 0 6) (Ir 17 (Int.toNat (Ir 0 6))) (gs_rn β η (gs_X β η p9)) := (fun h => by rw [show I11 (t + 11) 1 = I (t + 11) 1 from ((g9 (t + 11) 1).resolve_left (by exact gz_m 8 (by omega))), show J12 ((t + 11) + 1) = J ((t + 11) + 1) from funext fun j => ((k9 (t + 12) j).resolve_left (by exact gz_m 9 (by omega)))]; exact gs_NA_lt x4 x3 h)
    have t37 := L23 (by exact gz_m 10 (by omega))
    refine gv_run 1 true hD (pc' := 24) (lv' := [(0, .inr (.inr (some 39)))]) (st' := [.inr (.inr (some 39))]) (h' := gc_h sh I24 J12 A) (C := (True ∧ True)) rfl ⟨trivial, trivial⟩ ?_
    refine gv_get hD rfl rfl S_39 ⟨by decide, B_39⟩ (gc_h5 (t := t) S_39 rfl (by exact gz_m 11 (by omega))) ?_
    show gv_X _ _ (27, [(0, .inr (.inr (some 39)))], [.inr (.inr (some t))], sh, gc_h sh I24 J12 A)
    refine gv_get hD rfl rfl S_t ⟨by decide, B_t⟩ (gc_hA S_t rfl A_t_8) ?_
    show gv_X _ _ (30, [(0, .inr (.inr (some 39)))], [.inr (.inr (some (t + 11)))], sh, gc_h sh I24 J12 A)
    refine gv_run 1 true hD (pc' := 31) (lv' := [(0, .inr (.inr (some 39)))]) (st' := [.inr (.inr (some 39)), .inr (.inr (some (t + 11)))]) (h' := gc_h sh I24 J12 A) (C := (True ∧ True)) rfl ⟨trivial, trivial⟩ ?_
    refine gv_get hD rfl rfl S_39 ⟨by decide, B_39⟩ (gc_hA S_39 rfl A_39_1) ?_
    show gv_X _ _ (34, [(0, .inr (.inr (some 39)))], [.inr (.inr (some 23)), .inr (.inr (some (t + 11)))], sh, gc_h sh I24 J12 A)
    refine gv_get hD rfl rfl S_23 ⟨by decide, B_23⟩ (gc_hJ S_23 rfl) ?_
    show gv_X _ _ (37, [(0, .inr (.inr (some 39)))], [.inr (.inl (J12 23 9)), .inr (.inr (some (t + 11)))], sh, gc_h sh I24 J12 A)
    obtain ⟨r38, h38, E38, P38⟩ := d_X4_find (ws0 := ws0) (tb := tb) hws htb sh ro I24 J12 A hI24 (t + 11) 24 8 (J12 23 9) h_t_11     
    obtain ⟨rfl, ⟨z38, rfl, q38⟩⟩ := P38
    have t39 : z38 = gs_lt Jr 23 (24 * Ir 0 6) (Ir 17 (Int.toNat (Ir 0 6))) (gs_rn β η (gs_X β η p9)) := q38.2.2.2.trans (by rw [gc_AT_m A33 (by exact gz_m 12 (by omega))]; exact (show gs_T β η (gs_X β η p9) = 1 → gc_fd (J12 ((t + 11) + 1)) (gs_M β η (gs_X β η p9)) (Int.toNat (I24 (t + 11) 1)) = gs_lt Jr 23 (24 * Ir 0 6) (Ir 17 (Int.toNat (Ir 0 6))) (gs_rn β η (gs_X β η p9)) from (fun h => by rw [show I24 (t + 11) 1 = I (t + 11) 1 from (((g23 (t + 11) 1).resolve_left (by exact gz_m 13 (by omega))).trans ((g9 (t + 11) 1).resolve_left (by exact gz_m 14 (by omega)))), show J12 ((t + 11) + 1) = J ((t + 11) + 1) from funext fun j => ((k9 (t + 12) j).resolve_left (by exact gz_m 15 (by omega)))]; exact gs_NA_lt x4 x3 h)) (by exact gz_m 16 (by omega)))
    refine gv_callV hD rfl (As := [.inr (.inl (J12 23 9))]) (st := []) rfl B_t_11 S_t_11 rfl (gc_lV6 hws rfl) (Nat.le_of_ble_eq_true rfl) (gz_Ev_mono (d := 1) (by decide) E38) ?_
    show gv_X _ _ (40, [(0, .inr (.inr (some 39)))], [.inl z38], sh, gc_h sh I24 J12 A)
    refine gv_run 3 true hD (pc' := 43) (lv' := [(1, .inl z38), (0, .inr (.inr (some 39)))]) (st' := [.inr (.inr (some 39)), .inr (.inr (some 39))]) (h' := gc_h sh I24 J12 A) (C := (((True ∧ True) ∧ True) ∧ True)) rfl ⟨⟨⟨trivial, trivial⟩, trivial⟩, trivial⟩ ?_
    refine gv_get hD rfl rfl S_39 ⟨by decide, B_39⟩ (gc_h5 (t := t) S_39 rfl (by exact gz_m 17 (by omega))) ?_
    show gv_X _ _ (46, [(1, .inl z38), (0, .inr (.inr (some 39)))], [.inr (.inr (some t)), .inr (.inr (some 39))], sh, gc_h sh I24 J12 A)
    refine gv_get hD rfl rfl S_t ⟨by decide, B_t⟩ (gc_hA S_t rfl A_t_9) ?_
    show gv_X _ _ (49, [(1, .inl z38), (0, .inr (.inr (some 39)))], [.inr (.inr (some (t + 13))), .inr (.inr (some 39))], sh, gc_h sh I24 J12 A)
    refine gv_run 1 true hD (pc' := 50) (lv' := [(1, .inl z38), (0, .inr (.inr (some 39)))]) (st' := [.inl z38, .inr (.inr (some (t + 13))), .inr (.inr (some 39))]) (h' := gc_h sh I24 J12 A) (C := (True ∧ True)) rfl ⟨trivial, trivial⟩ ?_
    have f40 := (show 0 ≤ I24 (t + 13) (Int.toNat z38) ∧ I24 (t + 13) (Int.toNat z38) ≤ 24 from gc_in2 hI24 R_t_13 rfl rfl rfl)
    refine gv_iald hD rfl S_t_13 rfl ⟨by decide, B_t_13⟩ ⟨by exact gz_m 18 (by omega), by exact gz_m 19 (by omega)⟩ (gc_iI S_t_13 rfl) ?_
    show gv_X _ _ (51, [(1, .inl z38), (0, .inr (.inr (some 39)))], [.inl (I24 (t + 13) (Int.toNat z38)), .inr (.inr (some 39))], sh, gc_h sh I24 J12 A)
    refine gv_put hD rfl rfl S_39 ⟨by decide, B_39⟩ rfl trivial ?_
    refine gc_st (k := 8) hI24 S_39 rfl R_39 (lo := 0) (hi := 24) rfl rfl (by exact gz_m 20 (by omega)) (by exact gz_m 21 (by omega)) (fun I41 hI41 q42 p42 => ?_)
    have FI41 := gc_frs (W := fun q j => (q = 39 ∧ j = 3) ∨ (q = 39 ∧ j = 4) ∨ (q = 23 ∧ j = 5) ∨ (q = 23 ∧ j = 6) ∨ (q = 23 ∧ j = 7) ∨ (q = 23 ∧ j = 8) ∨ (q = 39 ∧ j = 8) ∨ q = 40) FI24 (Or.inr (Or.inr (Or.inr (Or.inr (Or.inr (Or.inr (Or.inl ⟨rfl, rfl⟩))))))) p42
    have t43 := p42 23 1 (fun h => absurd h.2 (gz_ne rfl))
    have t44 := p42 23 5 (fun h => absurd h.2 (gz_ne rfl))
    have t45 := p42 23 6 (fun h => absurd h.2 (gz_ne rfl))
    have t46 := p42 23 7 (fun h => absurd h.2 (gz_ne rfl))
    have t47 := p42 (t + 11) 1 (fun h => absurd h.2 (gz_ne rfl))
    have t48 := p42 39 2 (fun h => absurd h.2 (gz_ne rfl))
    have f49 := (gc_b_42_8 hI41 R_39)
    have KLT_I41 := gc_LT_fr KLT_I24 (p42 23 5 (fun h => absurd h.2 (gz_ne rfl))) (p42 23 6 (fun h => absurd h.2 (gz_ne rfl))) (p42 23 7 (fun h => absurd h.2 (gz_ne rfl))) (fun k => p42 24 k (fun h => absurd h.1 (gz_ne rfl)))
    have KTK_I41 := gc_TK_fr KTK_I24 (p42 23 1 (fun h => absurd h.2 (gz_ne rfl))) (p42 23 5 (fun h => absurd h.2 (gz_ne rfl))) (p42 23 6 (fun h => absurd h.2 (gz_ne rfl))) (p42 23 7 (fun h => absurd h.2 (gz_ne rfl)))
    have A50 := gc_AT_I A33 (p42 23 1 (fun h => absurd h.2 (gz_ne rfl))) (p42 23 5 (fun h => absurd h.2 (gz_ne rfl))) (p42 23 6 (fun h => absurd h.2 (gz_ne rfl))) (p42 23 7 (fun h => absurd h.2 (gz_ne rfl))) (p42 23 8 (fun h => absurd h.1 (gz_ne rfl))) (fun k => p42 24 k (fun h => absurd h.1 (gz_ne rfl)))
    show gv_X _ _ (54, [(1, .inl z38), (0, .inr (.inr (some 39)))], [], sh, gc_h sh I41 J12 A)
    refine gv_run 1 true hD (pc' := 55) (lv' := [(1, .inl z38), (0, .inr (.inr (some 39)))]) (st' := [.inr (.inr (some 39))]) (h' := gc_h sh I41 J12 A) (C := (True ∧ True)) rfl ⟨trivial, trivial⟩ ?_
    refine gv_get hD rfl rfl S_39 ⟨by decide, B_39⟩ (gc_h5 (t := t) S_39 rfl (by exact gz_m 22 (by omega))) ?_
    show gv_X _ _ (58, [(1, .inl z38), (0, .inr (.inr (some 39)))], [.inr (.inr (some t))], sh, gc_h sh I41 J12 A)
    refine gv_get hD rfl rfl S_t ⟨by decide, B_t⟩ (gc_hA S_t rfl A_t_10) ?_
    show gv_X _ _ (61, [(1, .inl z38), (0, .inr (.inr (some 39)))], [.inr (.inr (some (t + 14)))], sh, gc_h sh I41 J12 A)
    refine gv_run 6 true hD (pc' := 68) (lv' := [(1, .inl z38), (0, .inr (.inr (some 39)))]) (st' := [.inr (.inr (some 39)), .inl ((z38 * 24) * 3), .inr (.inr (some (t + 14)))]) (h' := gc_h sh I41 J12 A) (C := ((((((True ∧ True) ∧ True) ∧ True) ∧ True) ∧ True) ∧ True)) rfl ⟨⟨⟨⟨⟨⟨trivial, trivial⟩, trivial⟩, trivial⟩, trivial⟩, trivial⟩, trivial⟩ ?_
    refine gv_get hD rfl rfl S_39 ⟨by decide, B_39⟩ (gc_hA S_39 rfl A_39_9) ?_
    show gv_X _ _ (71, [(1, .inl z38), (0, .inr (.inr (some 39)))], [.inr (.inr (some 40)), .inl ((z38 * 24) * 3), .inr (.inr (some (t + 14)))], sh, gc_h sh I41 J12 A)
    refine gv_run 2 true hD (pc' := 73) (lv' := [(1, .inl z38), (0, .inr (.inr (some 39)))]) (st' := [.inr (.inr (some 39)), .inl 0, .inr (.inr (some 40)), .inl ((z38 * 24) * 3), .inr (.inr (some (t + 14)))]) (h' := gc_h sh I41 J12 A) (C := ((True ∧ True) ∧ True)) rfl ⟨⟨trivial, trivial⟩, trivial⟩ ?_
    have f51 := (gc_b_42_8 hI41 R_39)
    refine gv_get hD rfl rfl S_39 ⟨by decide, B_39⟩ (gc_hI S_39 rfl) ?_
    show gv_X _ _ (76, [(1, .inl z38), (0, .inr (.inr (some 39)))], [.inl (I41 39 8), .inl 0, .inr (.inr (some 40)), .inl ((z38 * 24) * 3), .inr (.inr (some (t + 14)))], sh, gc_h sh I41 J12 A)
    refine gv_run 2 true hD (pc' := 78) (lv' := [(1, .inl z38), (0, .inr (.inr (some 39)))]) (st' := [.inl ((I41 39 8) * 3), .inl 0, .inr (.inr (some 40)), .inl ((z38 * 24) * 3), .inr (.inr (some (t + 14)))]) (h' := gc_h sh I41 J12 A) (C := ((True ∧ True) ∧ True)) rfl ⟨⟨trivial, trivial⟩, trivial⟩ ?_
    refine gv_copy hD rfl (gc_lC6_263 hws) (Nat.le_of_ble_eq_true rfl) ⟨B_t_14, B_40⟩ S_t_14 S_40 (by decide) ⟨by decide, by decide⟩ ⟨by exact gz_m 23 (by omega), by exact gz_m 24 (by omega), by exact gz_m 25 (by omega)⟩ (by exact gz_m 26 (by omega)) (by exact gz_m 27 (by omega)) (fun h => absurd h (gz_ne rfl)) ?_
    refine gc_cp hI41 S_t_14 S_40 (by decide) (fun j hj => gc_cprg (m := 2) hI41 R_t_14 R_40 rfl rfl (by exact gz_m 28 (by omega))) (fun I53 hI53 p52 q52 => ?_)
    have FI53 := gc_frp (W := fun q j => (q = 39 ∧ j = 3) ∨ (q = 39 ∧ j = 4) ∨ (q = 23 ∧ j = 5) ∨ (q = 23 ∧ j = 6) ∨ (q = 23 ∧ j = 7) ∨ (q = 23 ∧ j = 8) ∨ (q = 39 ∧ j = 8) ∨ q = 40) (V := fun q j => q = 40 ∧ Int.toNat 0 ≤ j ∧ j < Int.toNat 0 + Int.toNat (((I41 39 8) * 3))) FI41 (fun q j h => (Or.inr (Or.inr (Or.inr (Or.inr (Or.inr (Or.inr (Or.inr h.1)))))))) p52
    have KLT_I53 := gc_LT_fr KLT_I41 (p52 23 5 (fun h => absurd h.1 (gz_ne rfl))) (p52 23 6 (fun h => absurd h.1 (gz_ne rfl))) (p52 23 7 (fun h => absurd h.1 (gz_ne rfl))) (fun k => p52 24 k (fun h => absurd h.1 (gz_ne rfl)))
    have KTK_I53 := gc_TK_fr KTK_I41 (p52 23 1 (fun h => absurd h.1 (gz_ne rfl))) (p52 23 5 (fun h => absurd h.1 (gz_ne rfl))) (p52 23 6 (fun h => absurd h.1 (gz_ne rfl))) (p52 23 7 (fun h => absurd h.1 (gz_ne rfl)))
    have t55 := p52 23 1 (fun h => absurd h.1 (gz_ne rfl))
    have t56 := p52 23 5 (fun h => absurd h.1 (gz_ne rfl))
    have t57 := p52 23 6 (fun h => absurd h.1 (gz_ne rfl))
    have t58 := p52 23 7 (fun h => absurd h.1 (gz_ne rfl))
    have t59 := p52 (t + 11) 1 (fun h => absurd h.1 N_t_11__40)
    have t60 := p52 39 8 (fun h => absurd h.1 (gz_ne rfl))
    have t61 := p52 39 2 (fun h => absurd h.1 (gz_ne rfl))
    have t62 := gc_TK_mo KTK_I53
    have f63 := (gc_b_3_1 hI53 R_23)
    have f64 := (gc_b_3_5 hI53 R_23)
    have f65 := (gc_b_3_6 hI53 R_23)
    have f66 := (gc_b_3_7 hI53 R_23)
    have f67 := (show 0 ≤ I53 (t + 11) 1 ∧ I53 (t + 11) 1 ≤ 24 from gc_in2 hI53 R_t_11 rfl rfl rfl)
    have f68 := (gc_b_42_8 hI53 R_39)
    have f69 := (gc_b_42_2 hI53 R_39)
    have A70 := gc_AT_I A50 (p52 23 1 (fun h => absurd h.1 (gz_ne rfl))) (p52 23 5 (fun h => absurd h.1 (gz_ne rfl))) (p52 23 6 (fun h => absurd h.1 (gz_ne rfl))) (p52 23 7 (fun h => absurd h.1 (gz_ne rfl))) (p52 23 8 (fun h => absurd h.1 (gz_ne rfl))) (fun k => p52 24 k (fun h => absurd h.1 (gz_ne rfl)))
    show gv_X _ _ (81, [(1, .inl z38), (0, .inr (.inr (some 39)))], [], sh, gc_h sh I53 J12 A)
    refine gv_run 1 true hD (pc' := 82) (lv' := [(1, .inl z38), (0, .inr (.inr (some 39)))]) (st' := [.inr (.inr (some 39))]) (h' := gc_h sh I53 J12 A) (C := (True ∧ True)) rfl ⟨trivial, trivial⟩ ?_
    refine gv_get hD rfl rfl S_39 ⟨by decide, B_39⟩ (gc_hA S_39 rfl A_39_1) ?_
    show gv_X _ _ (85, [(1, .inl z38), (0, .inr (.inr (some 39)))], [.inr (.inr (some 23))], sh, gc_h sh I53 J12 A)
    have t72 := gc_TK_nx KTK_I53 (by exact gz_m 29 (by omega))
    obtain ⟨r71, h71, E71, P71⟩ := d_X9_advance_p (ws0 := ws0) (tb := tb) hws htb sh ro I53 J12 A hI53 23 β η  (gc_b23 hb)    (by exact gz_m 30 (by omega)) A70.1.1 A70.1.2 
    obtain ⟨I73, J74, rfl, hI73, g71, k71, ⟨rfl, V71_0, V71_1, V71_2, V71_3, V71_4, q71⟩⟩ := P71
    have FI73 := gc_frc (W := fun q j => (q = 39 ∧ j = 3) ∨ (q = 39 ∧ j = 4) ∨ (q = 23 ∧ j = 5) ∨ (q = 23 ∧ j = 6) ∨ (q = 23 ∧ j = 7) ∨ (q = 23 ∧ j = 8) ∨ (q = 39 ∧ j = 8) ∨ q = 40) (V := fun q j => (q = 23 ∧ j = 5) ∨ (q = 23 ∧ j = 6) ∨ (q = 23 ∧ j = 7) ∨ (q = 23 ∧ j = 8)) FI53 (fun q j h => (h.elim (fun h => (Or.inr (Or.inr (Or.inl h)))) (fun h => (h.elim (fun h => (Or.inr (Or.inr (Or.inr (Or.inl h))))) (fun h => (h.elim (fun h => (Or.inr (Or.inr (Or.inr (Or.inr (Or.inl h)))))) (fun h => (Or.inr (Or.inr (Or.inr (Or.inr (Or.inr (Or.inl h))))))))))))) g71
    have FJ74 := gc_frc (W := fun q j => (q = 23 ∧ j = 9)) (V := fun q j => (q = 23 ∧ j = 9)) FJ12 (fun q j h => h) k71
    have t75 := (g71 23 1).resolve_left (fun h => h.elim (fun h => absurd h.2 (gz_ne rfl)) (fun h => h.elim (fun h => absurd h.2 (gz_ne rfl)) (fun h => h.elim (fun h => absurd h.2 (gz_ne rfl)) (fun h => absurd h.2 (gz_ne rfl)))))
    have t76 := (g71 (t + 11) 1).resolve_left (fun h => h.elim (fun h => absurd h.2 (gz_ne rfl)) (fun h => h.elim (fun h => absurd h.2 (gz_ne rfl)) (fun h => h.elim (fun h => absurd h.2 (gz_ne rfl)) (fun h => absurd h.2 (gz_ne rfl)))))
    have t77 := (g71 39 8).resolve_left (fun h => h.elim (fun h => absurd h.2 (gz_ne rfl)) (fun h => h.elim (fun h => absurd h.2 (gz_ne rfl)) (fun h => h.elim (fun h => absurd h.2 (gz_ne rfl)) (fun h => absurd h.1 (gz_ne rfl)))))
    have t78 := (g71 39 2).resolve_left (fun h => h.elim (fun h => absurd h.2 (gz_ne rfl)) (fun h => h.elim (fun h => absurd h.2 (gz_ne rfl)) (fun h => h.elim (fun h => absurd h.2 (gz_ne rfl)) (fun h => absurd h.2 (gz_ne rfl)))))
    have f79 := (gc_b_3_5 hI73 R_23)
    have f80 := (gc_b_3_6 hI73 R_23)
    have f81 := (gc_b_3_7 hI73 R_23)
    have KLT_I73 : gc_LT I73 := q71.2.2.1
    have KTK_I73 : gc_TK I73 := And.intro V71_0 (And.intro V71_1 (And.intro V71_2 (And.intro V71_3 V71_4)))
    have t82 := gc_TK_mo KTK_I73
    clear V71_0 V71_1 V71_2 V71_3 V71_4
    have A83 := gc_AT_nx A70 q71.2.2.2
    have t84 := gc_AT_l A83
    refine gv_callV hD rfl (As := []) (st := []) rfl B_23 S_23 rfl (gc_lV6 hws rfl) (Nat.le_of_ble_eq_true rfl) (gz_Ev_mono (d := 2) (by decide) E71) ?_
    show gv_X _ _ (88, [(1, .inl z38), (0, .inr (.inr (some 39)))], [], sh, gc_h sh I73 J74 A)
    refine gv_run 1 true hD (pc' := 89) (lv' := [(1, .inl z38), (0, .inr (.inr (some 39)))]) (st' := [.inl 1]) (h' := gc_h sh I73 J74 A) (C := (True ∧ True)) rfl ⟨trivial, trivial⟩ ?_
    exact gv_zret hD rfl (by exact gz_m 31 (by omega)) ⟨I73, J74, rfl, hI73, FI73, FJ74, KLT_I73, KTK_I73, ⟨_, rfl, by exact gz_m 32 (by omega), by exact gz_m 33 (by omega), by exact gz_m 34 (by omega), by exact gz_m 35 (by omega), (Or.inl ⟨by exact gz_m 36 (by omega), by have e9 : (gs_par β η Ir Jr p9) = (gs_X β η (gs_X β η p9)) := (by first | (exfalso; exact gz_m 37 (by omega)) | (unfold gs_par; (repeat first | rw [if_pos (by exact gz_m 38 (by omega))] | rw [if_neg (by exact gz_m 39 (by omega))]))); have e8 : gs_qtO β η Ir Jr (gs_X β η p9) = gs_qt2 β η Ir Jr (gs_dl Ir (Ir 0 6) (gs_lt Jr 23 (24 * Ir 0 6) (Ir 17 (Int.toNat (Ir 0 6))) (gs_rn β η (gs_X β η p9)))) (gs_par β η Ir Jr p9) := (by first | (exfalso; exact gz_m 40 (by omega)) | (rw [e9]; unfold gs_qtO gs_qtP; (repeat first | rw [if_pos (by exact gz_m 41 (by omega))] | rw [if_neg (by exact gz_m 42 (by omega))]))); rw [e9] at e8 ⊢; exact ⟨by exact gz_m 43 (by omega), A83, (by rw [show (gs_lt Jr 23 (24 * Ir 0 6) (Ir 17 (Int.toNat (Ir 0 6))) (gs_rn β η (gs_X β η p9))) = z38 from by exact gz_m 44 (by omega)]; exact gs_CM_par x5 x6 (by exact gz_m 45 (by omega)) (by have h9 : I41 (t + 11) 1 = I (t + 11) 1 := (((p42 (t + 11) 1 (by exact gz_m 46 (by omega))).trans ((g23 (t + 11) 1).resolve_left (by exact gz_m 47 (by omega)))).trans ((g9 (t + 11) 1).resolve_left (by exact gz_m 48 (by omega)))); exact gz_m 49 (by omega)) (by have h9 : I24 (t + 13) (Int.toNat z38) = I (t + 13) (Int.toNat z38) := (((g23 (t + 13) (Int.toNat z38)).resolve_left (by exact gz_m 50 (by omega))).trans ((g9 (t + 13) (Int.toNat z38)).resolve_left (by exact gz_m 51 (by omega)))); have h8 := q42; exact gz_m 52 (by omega)) (by have h9 : I24 (t + 13) (Int.toNat z38) = I (t + 13) (Int.toNat z38) := (((g23 (t + 13) (Int.toNat z38)).resolve_left (by exact gz_m 53 (by omega))).trans ((g9 (t + 13) (Int.toNat z38)).resolve_left (by exact gz_m 54 (by omega)))); have h8 := q42; exact gz_m 55 (by omega)) (fun k hk => (((g71 40 k).resolve_left (by exact gz_m 56 (by omega)))).trans (by have h9 := q52 k (by have h9 : I24 (t + 13) (Int.toNat z38) = I (t + 13) (Int.toNat z38) := (((g23 (t + 13) (Int.toNat z38)).resolve_left (by exact gz_m 57 (by omega))).trans ((g9 (t + 13) (Int.toNat z38)).resolve_left (by exact gz_m 58 (by omega)))); have h8 := q42; exact gz_m 59 (by omega)); rw [show Int.toNat 0 + k = k from by exact gz_m 60 (by omega)] at h9; rw [h9, show Int.toNat (z38 * 24 * 3) = Int.toNat (72 * z38) from by exact gz_m 61 (by omega)]; exact (((p42 (t + 14) (Int.toNat (72 * z38) + k) (by exact gz_m 62 (by omega))).trans ((g23 (t + 14) (Int.toNat (72 * z38) + k)).resolve_left (by exact gz_m 63 (by omega)))).trans ((g9 (t + 14) (Int.toNat (72 * z38) + k)).resolve_left (by exact gz_m 64 (by omega)))))) (gc_PKs_fr gc_PKs_rf ((((((g71 1 17).resolve_left (by exact gz_m 65 (by omega))).trans (p52 1 17 (fun h => absurd h.1 (by exact gz_m 66 (by omega))))).trans (p42 1 17 (by exact gz_m 67 (by omega)))).trans ((g23 1 17).resolve_left (by exact gz_m 68 (by omega)))).trans ((g9 1 17).resolve_left (by exact gz_m 69 (by omega)))) (fun k => ((((((g71 20 k).resolve_left (by exact gz_m 70 (by omega))).trans (p52 20 k (fun h => absurd h.1 (by exact gz_m 71 (by omega))))).trans (p42 20 k (by exact gz_m 72 (by omega)))).trans ((g23 20 k).resolve_left (by exact gz_m 73 (by omega)))).trans ((g9 20 k).resolve_left (by exact gz_m 74 (by omega))))))), e8⟩⟩)⟩⟩
  · show gv_X _ _ (21, [(0, .inr (.inr (some 39)))], [], sh, gc_h sh I24 J12 A)
    have u85 := gs_or0 q23.2.2.2 (by exact gz_m 75 (by omega))
    have L23 : gs_T β η (gs_X β η p9) = 1 → gc_fd (J12 ((t + 11) + 1)) (gs_M β η (gs_X β η p9)) (Int.toNat (I11 (t + 11) 1)) = gs_lt Jr 23 (24 * Ir 0 6) (Ir 17 (Int.toNat (Ir 0 6))) (gs_rn β η (gs_X β η p9)) := (fun h => by rw [show I11 (t + 11) 1 = I (t + 11) 1 from ((g9 (t + 11) 1).resolve_left (by exact gz_m 76 (by omega))), show J12 ((t + 11) + 1) = J ((t + 11) + 1) from funext fun j => ((k9 (t + 12) j).resolve_left (by exact gz_m 77 (by omega)))]; exact gs_NA_lt x4 x3 h)
    refine gv_run 1 true hD (pc' := 22) (lv' := [(0, .inr (.inr (some 39)))]) (st' := [.inl 0]) (h' := gc_h sh I24 J12 A) (C := (True ∧ True)) rfl ⟨trivial, trivial⟩ ?_
    exact gv_zret hD rfl (by exact gz_m 78 (by omega)) ⟨I24, J12, rfl, hI24, FI24, FJ12, KLT_I24, KTK_I24, ⟨_, rfl, by exact gz_m 79 (by omega), by exact gz_m 80 (by omega), by exact gz_m 81 (by omega), by exact gz_m 82 (by omega), (Or.inr ⟨by exact gz_m 83 (by omega), by first | (exfalso; exact gz_m 84 (by omega)) | (unfold gs_par; by_cases c9 : gs_T β η (gs_X β η p9) = 1; (have h9 := L23 c9; (repeat first | rw [if_pos (by exact gz_m 85 (by omega))] | rw [if_neg (by exact gz_m 86 (by omega))]); exact ⟨by exact gz_m 87 (by omega), by exact gz_m 88 (by omega), (by unfold gs_qtO gs_qtP; (repeat first | rw [if_pos (by exact gz_m 89 (by omega))] | rw [if_neg (by exact gz_m 90 (by omega))]))⟩); (repeat first | rw [if_pos (by exact gz_m 91 (by omega))] | rw [if_neg (by exact gz_m 92 (by omega))]); exact ⟨by exact gz_m 93 (by omega), by exact gz_m 94 (by omega), (by unfold gs_qtO gs_qtP; (repeat first | rw [if_pos (by exact gz_m 95 (by omega))] | rw [if_neg (by exact gz_m 96 (by omega))]))⟩)⟩)⟩⟩
