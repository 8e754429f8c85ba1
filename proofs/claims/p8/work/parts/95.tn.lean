/-! PARITY, the class's side: what a LIN says -/
/-- an argument has a place, on both sides -/
def gs_SO (I : gr_I) (a1 : Nat) (nf : Int) (a : Nat → Int) : Prop := ∀ j : Nat, j < 4 → (0 ≤ I (a1 + 6) j ↔ ((j : Int) < nf ∧ 0 ≤ a j))
theorem gs_SO_fr {I I' : gr_I} {a1 : Nat} {nf : Int} {a : Nat → Int} (h : gs_SO I a1 nf a) (e : ∀ k, I' (a1 + 6) k = I (a1 + 6) k) : gs_SO I' a1 nf a := fun j hj => by
  rw [e]
  exact h j hj
theorem gs_ao_t {β : Int → Int} {N nf : Int} {a : Nat → Int} {p : Int} (h : ¬ gs_T β N p = 2) : gs_ao β N nf a p = -1 - gs_A β N p := if_neg h
theorem gs_ao_g {I : gr_I} {a1 : Nat} {β : Int → Int} {N nf : Int} {a : Nat → Int} {p : Int} (h : gs_SO I a1 nf a) (hT : gs_T β N p = 2) (h1 : 1 ≤ gs_V β N p) (h4 : gs_V β N p ≤ 4) (hs : 0 ≤ I (a1 + 6) (Int.toNat (gs_V β N p - 1))) : gs_ao β N nf a p = gs_X β N p := by
  have x := (h (Int.toNat (gs_V β N p - 1)) (by omega)).mp hs
  exact (if_pos hT).trans (if_neg (by omega))
set_option maxHeartbeats 8000000 in
theorem gs_ao_b {I : gr_I} {a1 : Nat} {β : Int → Int} {N nf : Int} {a : Nat → Int} {p : Int} (h : gs_SO I a1 nf a) (hn : nf ≤ 4) (hT : gs_T β N p = 2) (hb : gs_V β N p < 1 ∨ 4 < gs_V β N p ∨ I (a1 + 6) (Int.toNat (gs_V β N p - 1)) < 0) : gs_ao β N nf a p = -1 - gs_A β N p := by
  refine (if_pos hT).trans (if_pos ?_)
  by_cases c : gs_V β N p < 1 ∨ 4 < gs_V β N p
  · exact gz_m 0 (by omega)
  · have x := h (Int.toNat (gs_V β N p - 1)) (by exact gz_m 1 (by omega))
    by_cases d : nf < gs_V β N p
    · exact Or.inr (Or.inl d)
    · refine Or.inr (Or.inr ?_)
      by_cases e : 0 ≤ a (Int.toNat (gs_V β N p - 1))
      · have := x.mpr ⟨by exact gz_m 2 (by omega), e⟩
        exact gz_m 3 (by omega)
      · exact gz_m 4 (by omega)
theorem gs_ls_c {β : Int → Int} {N : Int} {I : gr_I} {J : gr_J} {nf : Int} {a : Nat → Int} {m : Nat} {ns q : Int} (hT : gs_T β N q = 44) (h : ¬ gs_said β N I J nf ns a (gs_X β N q) < 0) : gs_ls β N I J nf a (m + 1) ns q = gs_ls β N I J nf a m (ns + 1) (gs_said β N I J nf ns a (gs_X β N q)) := (if_pos hT).trans (if_neg h)
theorem gs_ls_f {β : Int → Int} {N : Int} {I : gr_I} {J : gr_J} {nf : Int} {a : Nat → Int} {m : Nat} {ns q : Int} (hT : gs_T β N q = 44) (h : gs_said β N I J nf ns a (gs_X β N q) < 0) : gs_ls β N I J nf a (m + 1) ns q = gs_said β N I J nf ns a (gs_X β N q) := (if_pos hT).trans (if_pos h)
set_option maxHeartbeats 8000000 in
set_option maxRecDepth 100000 in
theorem d_X6_needArgument_p {ws0 : List Cond} {tb : String → gz_T} (hws : gc_Ws ws0) (htb : gc_tbs tb) (sh : gz_Sh) (ro : Nat → Nat) (I : gr_I) (J : gr_J) (A : gc_A) (hI : gc_Inv ro I) (β : Int → Int) (η : Int) (p9 : Int) (nf9 : Int) (a9 : Nat → Int) (a1 : Nat) (hb : gc_Base sh ro A) (h_a1 : gc_isLin sh ro A a1) (G_a1 : 144 ≤ a1)  (x0 : gc_AT β η p9 23 I J) (x1 : 0 ≤ p9) (x2 : gs_SO I a1 nf9 a9) (x3 : nf9 ≤ 4) : ∃ r h', gz_Ev ws0 tb 3 (yX6_needArgument, cX6_needArgument, 3, (some .boolean)) [.inr (.inr (some 39)), .inr (.inr (some a1))] sh (gc_h sh I J A) r sh h' 0 0 ∧ (∃ (I' : gr_I) (J' : gr_J), h' = gc_h sh I' J' A ∧ gc_Inv ro I' ∧ (∀ q j : Nat, ((q = 39 ∧ j = 3) ∨ (q = 39 ∧ j = 4)) ∨ I' q j = I q j) ∧ (∀ q j : Nat, (False) ∨ J' q j = J q j) ∧ (∃ z : Int, r = some (.inl z) ∧ 0 ≤ z ∧ z ≤ 1 ∧ (z = 0 ∨ (I 23 7 = 2 ∧ (1 ≤ I' 23 8 ∧ I' 23 8 ≤ 4 ∧ 0 ≤ I' (a1 + 6) (Int.toNat ((I' 23 8) - 1))))) ∧ (gs_Or z (gs_ao β η nf9 a9 p9 = gs_X β η p9) (gs_ao β η nf9 a9 p9 = -1 - gs_A β η p9 ∧ I' 39 4 = gs_A β η p9)))) := by
  have FI : ∀ q j : Nat, ((q = 39 ∧ j = 3) ∨ (q = 39 ∧ j = 4)) ∨ I q j = I q j := fun _ _ => Or.inr rfl
  have FJ : ∀ q j : Nat, (False) ∨ J q j = J q j := fun _ _ => Or.inr rfl
  have A_39_1 : A 39 1 = some 23 := gc_bA_39_1 hb
  have B_23 : 23 < 1000000 := by decide
  have B_39 : 39 < 1000000 := by decide
  have R_23 : ro 23 = 3 := gc_bR_23 hb
  have S_23 : sh[23]? = some (false, 9, 10) := gc_bS_23 hb
  have S_39 : sh[39]? = some (false, 6, 19) := gc_bS_39 hb
  obtain ⟨S_a1, R_a1, B_a1, A_a1_5, S_a1_1, R_a1_1, B_a1_1, A_a1_6, S_a1_2, R_a1_2, B_a1_2, A_a1_7, S_a1_3, R_a1_3, B_a1_3, A_a1_9, S_a1_4, R_a1_4, B_a1_4, A_a1_10, S_a1_5, R_a1_5, B_a1_5, A_a1_11, S_a1_6, R_a1_6, B_a1_6, A_a1_13, S_a1_7, R_a1_7, B_a1_7, A_a1_15, S_a1_8, R_a1_8, B_a1_8⟩ := id h_a1
  have hD : gv_D (gc_E6 ws0 tb 2 (yX6_needArgument, cX6_needArgument, 3, (some .boolean)) kX6_needArgument) := gq_of oX6_needArgument
  refine gc_ev6 (d := 2) (l := kX6_needArgument) (Po := fun r h' => (∃ (I' : gr_I) (J' : gr_J), h' = gc_h sh I' J' A ∧ gc_Inv ro I' ∧ (∀ q j : Nat, ((q = 39 ∧ j = 3) ∨ (q = 39 ∧ j = 4)) ∨ I' q j = I q j) ∧ (∀ q j : Nat, (False) ∨ J' q j = J q j) ∧ (∃ z : Int, r = some (.inl z) ∧ 0 ≤ z ∧ z ≤ 1 ∧ (z = 0 ∨ (I 23 7 = 2 ∧ (1 ≤ I' 23 8 ∧ I' 23 8 ≤ 4 ∧ 0 ≤ I' (a1 + 6) (Int.toNat ((I' 23 8) - 1))))) ∧ (gs_Or z (gs_ao β η nf9 a9 p9 = gs_X β η p9) (gs_ao β η nf9 a9 p9 = -1 - gs_A β η p9 ∧ I' 39 4 = gs_A β η p9))))) htb rfl (Nat.le_of_ble_eq_true rfl) ?_
  have f1 := (gc_b_3_5 hI R_23)
  have f2 := (gc_b_3_7 hI R_23)
  have f3 := (gc_b_3_8 hI R_23)
  have f4 := (gc_b_3_6 hI R_23)
  have tAT := gc_AT_l x0
  refine gv_run 2 true hD (pc' := 2) (lv' := [(0, .inr (.inr (some 39))), (1, .inr (.inr (some a1)))]) (st' := [.inl 2, .inr (.inr (some 39))]) (h' := gc_h sh I J A) (C := ((True ∧ True) ∧ True)) rfl ⟨⟨trivial, trivial⟩, trivial⟩ ?_
  obtain ⟨r5, h5, E5, P5⟩ := d_X6_need_p (ws0 := ws0) (tb := tb) hws htb sh ro I J A hI  β η p9 2 hb   ⟨by exact gz_m 0 (by omega), by exact gz_m 1 (by omega)⟩ x0 (by exact gz_m 2 (by omega)) 
  obtain ⟨I6, J7, rfl, hI6, g5, k5, ⟨z5, rfl, q5⟩⟩ := P5
  have FI6 := gc_frc (W := fun q j => (q = 39 ∧ j = 3) ∨ (q = 39 ∧ j = 4)) (V := fun q j => (q = 39 ∧ j = 3) ∨ (q = 39 ∧ j = 4)) FI (fun q j h => (h.elim (fun h => (Or.inl h)) (fun h => (Or.inr h)))) g5
  have t8 := (g5 23 5).resolve_left (fun h => h.elim (fun h => absurd h.2 (gz_ne rfl)) (fun h => absurd h.2 (gz_ne rfl)))
  have t9 := (g5 23 7).resolve_left (fun h => h.elim (fun h => absurd h.2 (gz_ne rfl)) (fun h => absurd h.2 (gz_ne rfl)))
  have t10 := (g5 23 8).resolve_left (fun h => h.elim (fun h => absurd h.2 (gz_ne rfl)) (fun h => absurd h.2 (gz_ne rfl)))
  have t11 := (g5 23 6).resolve_left (fun h => h.elim (fun h => absurd h.2 (gz_ne rfl)) (fun h => absurd h.2 (gz_ne rfl)))
  obtain rfl : J = J7 := funext fun q => funext fun j => ((k5 q j).resolve_left id).symm
  have A12 := gc_AT_I x0 ((g5 23 1).resolve_left (fun h => h.elim (fun h => absurd h.2 (gz_ne rfl)) (fun h => absurd h.2 (gz_ne rfl)))) ((g5 23 5).resolve_left (fun h => h.elim (fun h => absurd h.2 (gz_ne rfl)) (fun h => absurd h.2 (gz_ne rfl)))) ((g5 23 6).resolve_left (fun h => h.elim (fun h => absurd h.2 (gz_ne rfl)) (fun h => absurd h.2 (gz_ne rfl)))) ((g5 23 7).resolve_left (fun h => h.elim (fun h => absurd h.2 (gz_ne rfl)) (fun h => absurd h.2 (gz_ne rfl)))) ((g5 23 8).resolve_left (fun h => h.elim (fun h => absurd h.2 (gz_ne rfl)) (fun h => absurd h.2 (gz_ne rfl)))) (fun k => (g5 24 k).resolve_left (fun h => h.elim (fun h => absurd h.1 (gz_ne rfl)) (fun h => absurd h.1 (gz_ne rfl))))
  have t13 := gc_AT_l A12
  refine gv_callV hD rfl (As := [.inl 2]) (st := []) rfl B_39 S_39 rfl (gc_lV6 hws rfl) (Nat.le_of_ble_eq_true rfl) (gz_Ev_mono (d := 2) (by decide) E5) ?_
  show gv_X _ _ (5, [(0, .inr (.inr (some 39))), (1, .inr (.inr (some a1)))], [.inl z5], sh, gc_h sh I6 J A)
  refine gv_if_ne (t := 10) hD rfl rfl ⟨by exact gz_m 3 (by omega), by exact gz_m 4 (by omega)⟩ (fun c14 => ?_) (fun c14 => ?_)
  · show gv_X _ _ (10, [(0, .inr (.inr (some 39))), (1, .inr (.inr (some a1)))], [], sh, gc_h sh I6 J A)
    have u15 := gs_or1 q5.2.2.2 (by exact gz_m 5 (by omega))
    have t16 := (gc_AT_v A12 (by exact gz_m 6 (by omega)))
    refine gv_run 1 true hD (pc' := 11) (lv' := [(0, .inr (.inr (some 39))), (1, .inr (.inr (some a1)))]) (st' := [.inr (.inr (some 39))]) (h' := gc_h sh I6 J A) (C := (True ∧ True)) rfl ⟨trivial, trivial⟩ ?_
    refine gv_get hD rfl rfl S_39 ⟨by decide, B_39⟩ (gc_hA S_39 rfl A_39_1) ?_
    show gv_X _ _ (14, [(0, .inr (.inr (some 39))), (1, .inr (.inr (some a1)))], [.inr (.inr (some 23))], sh, gc_h sh I6 J A)
    have f17 := (gc_b_3_8 hI6 R_23)
    refine gv_get hD rfl rfl S_23 ⟨by decide, B_23⟩ (gc_hI S_23 rfl) ?_
    show gv_X _ _ (17, [(0, .inr (.inr (some 39))), (1, .inr (.inr (some a1)))], [.inl (I6 23 8)], sh, gc_h sh I6 J A)
    refine gv_run 4 true hD (pc' := 21) (lv' := [(2, .inl ((I6 23 8) - 1)), (0, .inr (.inr (some 39))), (1, .inr (.inr (some a1)))]) (st' := [.inl ((I6 23 8) - 1)]) (h' := gc_h sh I6 J A) (C := ((((True ∧ True) ∧ True) ∧ True) ∧ True)) rfl ⟨⟨⟨⟨trivial, trivial⟩, trivial⟩, trivial⟩, trivial⟩ ?_
    refine gv_if_lt (t := 38) hD rfl rfl ⟨by exact gz_m 7 (by omega), by exact gz_m 8 (by omega)⟩ (fun c18 => ?_) (fun c18 => ?_)
    · show gv_X _ _ (38, [(2, .inl ((I6 23 8) - 1)), (0, .inr (.inr (some 39))), (1, .inr (.inr (some a1)))], [], sh, gc_h sh I6 J A)
      refine gv_run 3 true hD (pc' := 41) (lv' := [(2, .inl ((I6 23 8) - 1)), (0, .inr (.inr (some 39))), (1, .inr (.inr (some a1)))]) (st' := [.inr (.inr (some 39)), .inl 5, .inr (.inr (some 39))]) (h' := gc_h sh I6 J A) (C := (((True ∧ True) ∧ True) ∧ True)) rfl ⟨⟨⟨trivial, trivial⟩, trivial⟩, trivial⟩ ?_
      refine gv_get hD rfl rfl S_39 ⟨by decide, B_39⟩ (gc_hA S_39 rfl A_39_1) ?_
      show gv_X _ _ (44, [(2, .inl ((I6 23 8) - 1)), (0, .inr (.inr (some 39))), (1, .inr (.inr (some a1)))], [.inr (.inr (some 23)), .inl 5, .inr (.inr (some 39))], sh, gc_h sh I6 J A)
      have f19 := (gc_b_3_5 hI6 R_23)
      refine gv_get hD rfl rfl S_23 ⟨by decide, B_23⟩ (gc_hI S_23 rfl) ?_
      show gv_X _ _ (47, [(2, .inl ((I6 23 8) - 1)), (0, .inr (.inr (some 39))), (1, .inr (.inr (some a1)))], [.inl (I6 23 5), .inl 5, .inr (.inr (some 39))], sh, gc_h sh I6 J A)
      obtain ⟨r20, h20, E20, P20⟩ := d_X6_wrong_p (ws0 := ws0) (tb := tb) hws htb sh ro I6 J A hI6  5 (I6 23 5) hb   ⟨by exact gz_m 9 (by omega), by exact gz_m 10 (by omega)⟩ ⟨by exact gz_m 11 (by omega), by exact gz_m 12 (by omega)⟩  
      obtain ⟨I21, J22, rfl, hI21, g20, k20, ⟨z20, rfl, q20⟩⟩ := P20
      have FI21 := gc_frc (W := fun q j => (q = 39 ∧ j = 3) ∨ (q = 39 ∧ j = 4)) (V := fun q j => (q = 39 ∧ j = 3) ∨ (q = 39 ∧ j = 4)) FI6 (fun q j h => (h.elim (fun h => (Or.inl h)) (fun h => (Or.inr h)))) g20
      have t23 := (g20 23 5).resolve_left (fun h => h.elim (fun h => absurd h.2 (gz_ne rfl)) (fun h => absurd h.2 (gz_ne rfl)))
      have t24 := (g20 23 7).resolve_left (fun h => h.elim (fun h => absurd h.2 (gz_ne rfl)) (fun h => absurd h.2 (gz_ne rfl)))
      have t25 := (g20 23 8).resolve_left (fun h => h.elim (fun h => absurd h.2 (gz_ne rfl)) (fun h => absurd h.2 (gz_ne rfl)))
      have t26 := (g20 23 6).resolve_left (fun h => h.elim (fun h => absurd h.2 (gz_ne rfl)) (fun h => absurd h.2 (gz_ne rfl)))
      obtain rfl : J = J22 := funext fun q => funext fun j => ((k20 q j).resolve_left id).symm
      have A27 := gc_AT_I A12 ((g20 23 1).resolve_left (fun h => h.elim (fun h => absurd h.2 (gz_ne rfl)) (fun h => absurd h.2 (gz_ne rfl)))) ((g20 23 5).resolve_left (fun h => h.elim (fun h => absurd h.2 (gz_ne rfl)) (fun h => absurd h.2 (gz_ne rfl)))) ((g20 23 6).resolve_left (fun h => h.elim (fun h => absurd h.2 (gz_ne rfl)) (fun h => absurd h.2 (gz_ne rfl)))) ((g20 23 7).resolve_left (fun h => h.elim (fun h => absurd h.2 (gz_ne rfl)) (fun h => absurd h.2 (gz_ne rfl)))) ((g20 23 8).resolve_left (fun h => h.elim (fun h => absurd h.2 (gz_ne rfl)) (fun h => absurd h.2 (gz_ne rfl)))) (fun k => (g20 24 k).resolve_left (fun h => h.elim (fun h => absurd h.1 (gz_ne rfl)) (fun h => absurd h.1 (gz_ne rfl))))
      have t28 := gc_AT_l A27
      refine gv_callV hD rfl (As := [.inl 5, .inl (I6 23 5)]) (st := []) rfl B_39 S_39 rfl (gc_lV6 hws rfl) (Nat.le_of_ble_eq_true rfl) (gz_Ev_mono (d := 1) (by decide) E20) ?_
      show gv_X _ _ (50, [(2, .inl ((I6 23 8) - 1)), (0, .inr (.inr (some 39))), (1, .inr (.inr (some a1)))], [.inl z20], sh, gc_h sh I21 J A)
      refine gv_if_eq (t := 57) hD rfl rfl ⟨by exact gz_m 13 (by omega), by exact gz_m 14 (by omega)⟩ (fun c29 => ?_) (fun c29 => ?_)
      · show gv_X _ _ (57, [(2, .inl ((I6 23 8) - 1)), (0, .inr (.inr (some 39))), (1, .inr (.inr (some a1)))], [], sh, gc_h sh I21 J A)
        refine gv_run 1 true hD (pc' := 58) (lv' := [(2, .inl ((I6 23 8) - 1)), (0, .inr (.inr (some 39))), (1, .inr (.inr (some a1)))]) (st' := [.inl 0]) (h' := gc_h sh I21 J A) (C := (True ∧ True)) rfl ⟨trivial, trivial⟩ ?_
        exact gv_zret hD rfl (by exact gz_m 15 (by omega)) ⟨I21, J, rfl, hI21, FI21, FJ, ⟨_, rfl, by exact gz_m 16 (by omega), by exact gz_m 17 (by omega), by exact gz_m 18 (by omega), (Or.inr ⟨by exact gz_m 19 (by omega), gs_ao_b (gs_SO_fr x2 (fun k => ((g5 (a1 + 6) k).resolve_left (by exact gz_m 20 (by omega))))) (by exact gz_m 21 (by omega)) (by exact gz_m 22 (by omega)) (by rw [show gs_V β η p9 = I6 23 8 from by exact gz_m 23 (by omega)]; exact gz_m 24 (by omega)), by exact gz_m 25 (by omega)⟩)⟩⟩
      · show gv_X _ _ (53, [(2, .inl ((I6 23 8) - 1)), (0, .inr (.inr (some 39))), (1, .inr (.inr (some a1)))], [], sh, gc_h sh I21 J A)
        refine gv_run 2 true hD (pc' := 58) (lv' := [(2, .inl ((I6 23 8) - 1)), (0, .inr (.inr (some 39))), (1, .inr (.inr (some a1)))]) (st' := [.inl 1]) (h' := gc_h sh I21 J A) (C := ((True ∧ True) ∧ True)) rfl ⟨⟨trivial, trivial⟩, trivial⟩ ?_
        exact gv_zret hD rfl (by exact gz_m 26 (by omega)) ⟨I21, J, rfl, hI21, FI21, FJ, ⟨_, rfl, by exact gz_m 27 (by omega), by exact gz_m 28 (by omega), by exact gz_m 29 (by omega), (Or.inl ⟨by exact gz_m 30 (by omega), by first | (exfalso; exact gz_m 31 (by omega)) | exact gs_ao_g (gs_SO_fr x2 (fun k => ((g5 (a1 + 6) k).resolve_left (by exact gz_m 32 (by omega))))) (by exact gz_m 33 (by omega)) (by exact gz_m 34 (by omega)) (by exact gz_m 35 (by omega)) (by rw [show gs_V β η p9 = I6 23 8 from by exact gz_m 36 (by omega)]; exact gz_m 37 (by omega))⟩)⟩⟩
    · show gv_X _ _ (24, [(2, .inl ((I6 23 8) - 1)), (0, .inr (.inr (some 39))), (1, .inr (.inr (some a1)))], [], sh, gc_h sh I6 J A)
      refine gv_run 2 true hD (pc' := 26) (lv' := [(2, .inl ((I6 23 8) - 1)), (0, .inr (.inr (some 39))), (1, .inr (.inr (some a1)))]) (st' := [.inl 4, .inl ((I6 23 8) - 1)]) (h' := gc_h sh I6 J A) (C := ((True ∧ True) ∧ True)) rfl ⟨⟨trivial, trivial⟩, trivial⟩ ?_
      refine gv_icmp_ge (t := 38) hD rfl rfl ⟨⟨by exact gz_m 38 (by omega), by exact gz_m 39 (by omega)⟩, ⟨by exact gz_m 40 (by omega), by exact gz_m 41 (by omega)⟩⟩ (fun c30 => ?_) (fun c30 => ?_)
      · show gv_X _ _ (38, [(2, .inl ((I6 23 8) - 1)), (0, .inr (.inr (some 39))), (1, .inr (.inr (some a1)))], [], sh, gc_h sh I6 J A)
        refine gv_run 3 true hD (pc' := 41) (lv' := [(2, .inl ((I6 23 8) - 1)), (0, .inr (.inr (some 39))), (1, .inr (.inr (some a1)))]) (st' := [.inr (.inr (some 39)), .inl 5, .inr (.inr (some 39))]) (h' := gc_h sh I6 J A) (C := (((True ∧ True) ∧ True) ∧ True)) rfl ⟨⟨⟨trivial, trivial⟩, trivial⟩, trivial⟩ ?_
        refine gv_get hD rfl rfl S_39 ⟨by decide, B_39⟩ (gc_hA S_39 rfl A_39_1) ?_
        show gv_X _ _ (44, [(2, .inl ((I6 23 8) - 1)), (0, .inr (.inr (some 39))), (1, .inr (.inr (some a1)))], [.inr (.inr (some 23)), .inl 5, .inr (.inr (some 39))], sh, gc_h sh I6 J A)
        have f31 := (gc_b_3_5 hI6 R_23)
        refine gv_get hD rfl rfl S_23 ⟨by decide, B_23⟩ (gc_hI S_23 rfl) ?_
        show gv_X _ _ (47, [(2, .inl ((I6 23 8) - 1)), (0, .inr (.inr (some 39))), (1, .inr (.inr (some a1)))], [.inl (I6 23 5), .inl 5, .inr (.inr (some 39))], sh, gc_h sh I6 J A)
        obtain ⟨r32, h32, E32, P32⟩ := d_X6_wrong_p (ws0 := ws0) (tb := tb) hws htb sh ro I6 J A hI6  5 (I6 23 5) hb   ⟨by exact gz_m 42 (by omega), by exact gz_m 43 (by omega)⟩ ⟨by exact gz_m 44 (by omega), by exact gz_m 45 (by omega)⟩  
        obtain ⟨I33, J34, rfl, hI33, g32, k32, ⟨z32, rfl, q32⟩⟩ := P32
        have FI33 := gc_frc (W := fun q j => (q = 39 ∧ j = 3) ∨ (q = 39 ∧ j = 4)) (V := fun q j => (q = 39 ∧ j = 3) ∨ (q = 39 ∧ j = 4)) FI6 (fun q j h => (h.elim (fun h => (Or.inl h)) (fun h => (Or.inr h)))) g32
        have t35 := (g32 23 5).resolve_left (fun h => h.elim (fun h => absurd h.2 (gz_ne rfl)) (fun h => absurd h.2 (gz_ne rfl)))
        have t36 := (g32 23 7).resolve_left (fun h => h.elim (fun h => absurd h.2 (gz_ne rfl)) (fun h => absurd h.2 (gz_ne rfl)))
        have t37 := (g32 23 8).resolve_left (fun h => h.elim (fun h => absurd h.2 (gz_ne rfl)) (fun h => absurd h.2 (gz_ne rfl)))
        have t38 := (g32 23 6).resolve_left (fun h => h.elim (fun h => absurd h.2 (gz_ne rfl)) (fun h => absurd h.2 (gz_ne rfl)))
        obtain rfl : J = J34 := funext fun q => funext fun j => ((k32 q j).resolve_left id).symm
        have A39 := gc_AT_I A12 ((g32 23 1).resolve_left (fun h => h.elim (fun h => absurd h.2 (gz_ne rfl)) (fun h => absurd h.2 (gz_ne rfl)))) ((g32 23 5).resolve_left (fun h => h.elim (fun h => absurd h.2 (gz_ne rfl)) (fun h => absurd h.2 (gz_ne rfl)))) ((g32 23 6).resolve_left (fun h => h.elim (fun h => absurd h.2 (gz_ne rfl)) (fun h => absurd h.2 (gz_ne rfl)))) ((g32 23 7).resolve_left (fun h => h.elim (fun h => absurd h.2 (gz_ne rfl)) (fun h => absurd h.2 (gz_ne rfl)))) ((g32 23 8).resolve_left (fun h => h.elim (fun h => absurd h.2 (gz_ne rfl)) (fun h => absurd h.2 (gz_ne rfl)))) (fun k => (g32 24 k).resolve_left (fun h => h.elim (fun h => absurd h.1 (gz_ne rfl)) (fun h => absurd h.1 (gz_ne rfl))))
        have t40 := gc_AT_l A39
        refine gv_callV hD rfl (As := [.inl 5, .inl (I6 23 5)]) (st := []) rfl B_39 S_39 rfl (gc_lV6 hws rfl) (Nat.le_of_ble_eq_true rfl) (gz_Ev_mono (d := 1) (by decide) E32) ?_
        show gv_X _ _ (50, [(2, .inl ((I6 23 8) - 1)), (0, .inr (.inr (some 39))), (1, .inr (.inr (some a1)))], [.inl z32], sh, gc_h sh I33 J A)
        refine gv_if_eq (t := 57) hD rfl rfl ⟨by exact gz_m 46 (by omega), by exact gz_m 47 (by omega)⟩ (fun c41 => ?_) (fun c41 => ?_)
        · show gv_X _ _ (57, [(2, .inl ((I6 23 8) - 1)), (0, .inr (.inr (some 39))), (1, .inr (.inr (some a1)))], [], sh, gc_h sh I33 J A)
          refine gv_run 1 true hD (pc' := 58) (lv' := [(2, .inl ((I6 23 8) - 1)), (0, .inr (.inr (some 39))), (1, .inr (.inr (some a1)))]) (st' := [.inl 0]) (h' := gc_h sh I33 J A) (C := (True ∧ True)) rfl ⟨trivial, trivial⟩ ?_
          exact gv_zret hD rfl (by exact gz_m 48 (by omega)) ⟨I33, J, rfl, hI33, FI33, FJ, ⟨_, rfl, by exact gz_m 49 (by omega), by exact gz_m 50 (by omega), by exact gz_m 51 (by omega), (Or.inr ⟨by exact gz_m 52 (by omega), gs_ao_b (gs_SO_fr x2 (fun k => ((g5 (a1 + 6) k).resolve_left (by exact gz_m 53 (by omega))))) (by exact gz_m 54 (by omega)) (by exact gz_m 55 (by omega)) (by rw [show gs_V β η p9 = I6 23 8 from by exact gz_m 56 (by omega)]; exact gz_m 57 (by omega)), by exact gz_m 58 (by omega)⟩)⟩⟩
        · show gv_X _ _ (53, [(2, .inl ((I6 23 8) - 1)), (0, .inr (.inr (some 39))), (1, .inr (.inr (some a1)))], [], sh, gc_h sh I33 J A)
          refine gv_run 2 true hD (pc' := 58) (lv' := [(2, .inl ((I6 23 8) - 1)), (0, .inr (.inr (some 39))), (1, .inr (.inr (some a1)))]) (st' := [.inl 1]) (h' := gc_h sh I33 J A) (C := ((True ∧ True) ∧ True)) rfl ⟨⟨trivial, trivial⟩, trivial⟩ ?_
          exact gv_zret hD rfl (by exact gz_m 59 (by omega)) ⟨I33, J, rfl, hI33, FI33, FJ, ⟨_, rfl, by exact gz_m 60 (by omega), by exact gz_m 61 (by omega), by exact gz_m 62 (by omega), (Or.inl ⟨by exact gz_m 63 (by omega), by first | (exfalso; exact gz_m 64 (by omega)) | exact gs_ao_g (gs_SO_fr x2 (fun k => ((g5 (a1 + 6) k).resolve_left (by exact gz_m 65 (by omega))))) (by exact gz_m 66 (by omega)) (by exact gz_m 67 (by omega)) (by exact gz_m 68 (by omega)) (by rw [show gs_V β η p9 = I6 23 8 from by exact gz_m 69 (by omega)]; exact gz_m 70 (by omega))⟩)⟩⟩
      · show gv_X _ _ (29, [(2, .inl ((I6 23 8) - 1)), (0, .inr (.inr (some 39))), (1, .inr (.inr (some a1)))], [], sh, gc_h sh I6 J A)
        refine gv_run 1 true hD (pc' := 30) (lv' := [(2, .inl ((I6 23 8) - 1)), (0, .inr (.inr (some 39))), (1, .inr (.inr (some a1)))]) (st' := [.inr (.inr (some a1))]) (h' := gc_h sh I6 J A) (C := (True ∧ True)) rfl ⟨trivial, trivial⟩ ?_
        refine gv_get hD rfl rfl S_a1 ⟨by decide, B_a1⟩ (gc_hA S_a1 rfl A_a1_11) ?_
        show gv_X _ _ (33, [(2, .inl ((I6 23 8) - 1)), (0, .inr (.inr (some 39))), (1, .inr (.inr (some a1)))], [.inr (.inr (some (a1 + 6)))], sh, gc_h sh I6 J A)
        refine gv_run 1 true hD (pc' := 34) (lv' := [(2, .inl ((I6 23 8) - 1)), (0, .inr (.inr (some 39))), (1, .inr (.inr (some a1)))]) (st' := [.inl ((I6 23 8) - 1), .inr (.inr (some (a1 + 6)))]) (h' := gc_h sh I6 J A) (C := (True ∧ True)) rfl ⟨trivial, trivial⟩ ?_
        have f42 := (show (-1) ≤ I6 (a1 + 6) (Int.toNat (((I6 23 8) - 1))) ∧ I6 (a1 + 6) (Int.toNat (((I6 23 8) - 1))) ≤ 3 from gc_in2 hI6 R_a1_6 rfl rfl rfl)
        refine gv_iald hD rfl S_a1_6 rfl ⟨by decide, B_a1_6⟩ ⟨by exact gz_m 71 (by omega), by exact gz_m 72 (by omega)⟩ (gc_iI S_a1_6 rfl) ?_
        show gv_X _ _ (35, [(2, .inl ((I6 23 8) - 1)), (0, .inr (.inr (some 39))), (1, .inr (.inr (some a1)))], [.inl (I6 (a1 + 6) (Int.toNat (((I6 23 8) - 1))))], sh, gc_h sh I6 J A)
        refine gv_if_ge (t := 53) hD rfl rfl ⟨by exact gz_m 73 (by omega), by exact gz_m 74 (by omega)⟩ (fun c43 => ?_) (fun c43 => ?_)
        · show gv_X _ _ (53, [(2, .inl ((I6 23 8) - 1)), (0, .inr (.inr (some 39))), (1, .inr (.inr (some a1)))], [], sh, gc_h sh I6 J A)
          refine gv_run 2 true hD (pc' := 58) (lv' := [(2, .inl ((I6 23 8) - 1)), (0, .inr (.inr (some 39))), (1, .inr (.inr (some a1)))]) (st' := [.inl 1]) (h' := gc_h sh I6 J A) (C := ((True ∧ True) ∧ True)) rfl ⟨⟨trivial, trivial⟩, trivial⟩ ?_
          exact gv_zret hD rfl (by exact gz_m 75 (by omega)) ⟨I6, J, rfl, hI6, FI6, FJ, ⟨_, rfl, by exact gz_m 76 (by omega), by exact gz_m 77 (by omega), by exact gz_m 78 (by omega), (Or.inl ⟨by exact gz_m 79 (by omega), by first | (exfalso; exact gz_m 80 (by omega)) | exact gs_ao_g (gs_SO_fr x2 (fun k => ((g5 (a1 + 6) k).resolve_left (by exact gz_m 81 (by omega))))) (by exact gz_m 82 (by omega)) (by exact gz_m 83 (by omega)) (by exact gz_m 84 (by omega)) (by rw [show gs_V β η p9 = I6 23 8 from by exact gz_m 85 (by omega)]; exact gz_m 86 (by omega))⟩)⟩⟩
        · show gv_X _ _ (38, [(2, .inl ((I6 23 8) - 1)), (0, .inr (.inr (some 39))), (1, .inr (.inr (some a1)))], [], sh, gc_h sh I6 J A)
          refine gv_run 3 true hD (pc' := 41) (lv' := [(2, .inl ((I6 23 8) - 1)), (0, .inr (.inr (some 39))), (1, .inr (.inr (some a1)))]) (st' := [.inr (.inr (some 39)), .inl 5, .inr (.inr (some 39))]) (h' := gc_h sh I6 J A) (C := (((True ∧ True) ∧ True) ∧ True)) rfl ⟨⟨⟨trivial, trivial⟩, trivial⟩, trivial⟩ ?_
          refine gv_get hD rfl rfl S_39 ⟨by decide, B_39⟩ (gc_hA S_39 rfl A_39_1) ?_
          show gv_X _ _ (44, [(2, .inl ((I6 23 8) - 1)), (0, .inr (.inr (some 39))), (1, .inr (.inr (some a1)))], [.inr (.inr (some 23)), .inl 5, .inr (.inr (some 39))], sh, gc_h sh I6 J A)
          have f44 := (gc_b_3_5 hI6 R_23)
          refine gv_get hD rfl rfl S_23 ⟨by decide, B_23⟩ (gc_hI S_23 rfl) ?_
          show gv_X _ _ (47, [(2, .inl ((I6 23 8) - 1)), (0, .inr (.inr (some 39))), (1, .inr (.inr (some a1)))], [.inl (I6 23 5), .inl 5, .inr (.inr (some 39))], sh, gc_h sh I6 J A)
          obtain ⟨r45, h45, E45, P45⟩ := d_X6_wrong_p (ws0 := ws0) (tb := tb) hws htb sh ro I6 J A hI6  5 (I6 23 5) hb   ⟨by exact gz_m 87 (by omega), by exact gz_m 88 (by omega)⟩ ⟨by exact gz_m 89 (by omega), by exact gz_m 90 (by omega)⟩  
          obtain ⟨I46, J47, rfl, hI46, g45, k45, ⟨z45, rfl, q45⟩⟩ := P45
          have FI46 := gc_frc (W := fun q j => (q = 39 ∧ j = 3) ∨ (q = 39 ∧ j = 4)) (V := fun q j => (q = 39 ∧ j = 3) ∨ (q = 39 ∧ j = 4)) FI6 (fun q j h => (h.elim (fun h => (Or.inl h)) (fun h => (Or.inr h)))) g45
          have t48 := (g45 23 5).resolve_left (fun h => h.elim (fun h => absurd h.2 (gz_ne rfl)) (fun h => absurd h.2 (gz_ne rfl)))
          have t49 := (g45 23 7).resolve_left (fun h => h.elim (fun h => absurd h.2 (gz_ne rfl)) (fun h => absurd h.2 (gz_ne rfl)))
          have t50 := (g45 23 8).resolve_left (fun h => h.elim (fun h => absurd h.2 (gz_ne rfl)) (fun h => absurd h.2 (gz_ne rfl)))
          have t51 := (g45 23 6).resolve_left (fun h => h.elim (fun h => absurd h.2 (gz_ne rfl)) (fun h => absurd h.2 (gz_ne rfl)))
          obtain rfl : J = J47 := funext fun q => funext fun j => ((k45 q j).resolve_left id).symm
          have A52 := gc_AT_I A12 ((g45 23 1).resolve_left (fun h => h.elim (fun h => absurd h.2 (gz_ne rfl)) (fun h => absurd h.2 (gz_ne rfl)))) ((g45 23 5).resolve_left (fun h => h.elim (fun h => absurd h.2 (gz_ne rfl)) (fun h => absurd h.2 (gz_ne rfl)))) ((g45 23 6).resolve_left (fun h => h.elim (fun h => absurd h.2 (gz_ne rfl)) (fun h => absurd h.2 (gz_ne rfl)))) ((g45 23 7).resolve_left (fun h => h.elim (fun h => absurd h.2 (gz_ne rfl)) (fun h => absurd h.2 (gz_ne rfl)))) ((g45 23 8).resolve_left (fun h => h.elim (fun h => absurd h.2 (gz_ne rfl)) (fun h => absurd h.2 (gz_ne rfl)))) (fun k => (g45 24 k).resolve_left (fun h => h.elim (fun h => absurd h.1 (gz_ne rfl)) (fun h => absurd h.1 (gz_ne rfl))))
          have t53 := gc_AT_l A52
          refine gv_callV hD rfl (As := [.inl 5, .inl (I6 23 5)]) (st := []) rfl B_39 S_39 rfl (gc_lV6 hws rfl) (Nat.le_of_ble_eq_true rfl) (gz_Ev_mono (d := 1) (by decide) E45) ?_
          show gv_X _ _ (50, [(2, .inl ((I6 23 8) - 1)), (0, .inr (.inr (some 39))), (1, .inr (.inr (some a1)))], [.inl z45], sh, gc_h sh I46 J A)
          refine gv_if_eq (t := 57) hD rfl rfl ⟨by exact gz_m 91 (by omega), by exact gz_m 92 (by omega)⟩ (fun c54 => ?_) (fun c54 => ?_)
          · show gv_X _ _ (57, [(2, .inl ((I6 23 8) - 1)), (0, .inr (.inr (some 39))), (1, .inr (.inr (some a1)))], [], sh, gc_h sh I46 J A)
            refine gv_run 1 true hD (pc' := 58) (lv' := [(2, .inl ((I6 23 8) - 1)), (0, .inr (.inr (some 39))), (1, .inr (.inr (some a1)))]) (st' := [.inl 0]) (h' := gc_h sh I46 J A) (C := (True ∧ True)) rfl ⟨trivial, trivial⟩ ?_
            exact gv_zret hD rfl (by exact gz_m 93 (by omega)) ⟨I46, J, rfl, hI46, FI46, FJ, ⟨_, rfl, by exact gz_m 94 (by omega), by exact gz_m 95 (by omega), by exact gz_m 96 (by omega), (Or.inr ⟨by exact gz_m 97 (by omega), gs_ao_b (gs_SO_fr x2 (fun k => ((g5 (a1 + 6) k).resolve_left (by exact gz_m 98 (by omega))))) (by exact gz_m 99 (by omega)) (by exact gz_m 100 (by omega)) (by rw [show gs_V β η p9 = I6 23 8 from by exact gz_m 101 (by omega)]; exact gz_m 102 (by omega)), by exact gz_m 103 (by omega)⟩)⟩⟩
          · show gv_X _ _ (53, [(2, .inl ((I6 23 8) - 1)), (0, .inr (.inr (some 39))), (1, .inr (.inr (some a1)))], [], sh, gc_h sh I46 J A)
            refine gv_run 2 true hD (pc' := 58) (lv' := [(2, .inl ((I6 23 8) - 1)), (0, .inr (.inr (some 39))), (1, .inr (.inr (some a1)))]) (st' := [.inl 1]) (h' := gc_h sh I46 J A) (C := ((True ∧ True) ∧ True)) rfl ⟨⟨trivial, trivial⟩, trivial⟩ ?_
            exact gv_zret hD rfl (by exact gz_m 104 (by omega)) ⟨I46, J, rfl, hI46, FI46, FJ, ⟨_, rfl, by exact gz_m 105 (by omega), by exact gz_m 106 (by omega), by exact gz_m 107 (by omega), (Or.inl ⟨by exact gz_m 108 (by omega), by first | (exfalso; exact gz_m 109 (by omega)) | exact gs_ao_g (gs_SO_fr x2 (fun k => ((g5 (a1 + 6) k).resolve_left (by exact gz_m 110 (by omega))))) (by exact gz_m 111 (by omega)) (by exact gz_m 112 (by omega)) (by exact gz_m 113 (by omega)) (by rw [show gs_V β η p9 = I6 23 8 from by exact gz_m 114 (by omega)]; exact gz_m 115 (by omega))⟩)⟩⟩
  · show gv_X _ _ (8, [(0, .inr (.inr (some 39))), (1, .inr (.inr (some a1)))], [], sh, gc_h sh I6 J A)
    have u55 := gs_or0 q5.2.2.2 (by exact gz_m 116 (by omega))
    refine gv_run 1 true hD (pc' := 9) (lv' := [(0, .inr (.inr (some 39))), (1, .inr (.inr (some a1)))]) (st' := [.inl 0]) (h' := gc_h sh I6 J A) (C := (True ∧ True)) rfl ⟨trivial, trivial⟩ ?_
    exact gv_zret hD rfl (by exact gz_m 117 (by omega)) ⟨I6, J, rfl, hI6, FI6, FJ, ⟨_, rfl, by exact gz_m 118 (by omega), by exact gz_m 119 (by omega), by exact gz_m 120 (by omega), (Or.inr ⟨by exact gz_m 121 (by omega), gs_ao_t u55.1, by exact gz_m 122 (by omega)⟩)⟩⟩
set_option maxHeartbeats 8000000 in
set_option maxRecDepth 100000 in
theorem d_X6_readAgree_p {ws0 : List Cond} {tb : String → gz_T} (hws : gc_Ws ws0) (htb : gc_tbs tb) (sh : gz_Sh) (ro : Nat → Nat) (I : gr_I) (J : gr_J) (A : gc_A) (hI : gc_Inv ro I) (t : Nat) (β : Int → Int) (η : Int) (p9 : Int) (Ir : gr_I) (Jr : gr_J) (nf9 : Int) (a9 : Nat → Int) (a1 : Nat) (hb : gc_Base sh ro A) (h_a1 : gc_isLin sh ro A a1) (G_a1 : 144 ≤ a1) (h_t : gc_isTongue sh ro A t) (G_t : 144 ≤ t)  (x0 : I a1 12 ≤ 5) (x1 : gc_AT β η p9 23 I J) (x2 : 0 ≤ p9) (x3 : gs_SO I a1 nf9 a9) (x4 : nf9 ≤ 4) (x5 : I (t + 1) 1 = Ir 13 (Int.toNat (Ir 0 6))) (x6 : gs_NA (I (t + 1) 1) (J (t + 2)) (fun k => Jr 20 (Int.toNat (8 * Ir 0 6 + (k : Int))))) (x7 : I 39 2 = (t : Int)) (KLT_I : gc_LT I) (KTK_I : gc_TK I) : ∃ r h', gz_Ev ws0 tb 4 (yX6_readAgree, cX6_readAgree, 4, (some .boolean)) [.inr (.inr (some 39)), .inr (.inr (some a1))] sh (gc_h sh I J A) r sh h' 0 0 ∧ (∃ (I' : gr_I) (J' : gr_J), h' = gc_h sh I' J' A ∧ gc_Inv ro I' ∧ (∀ q j : Nat, ((q = 39 ∧ j = 3) ∨ (q = 39 ∧ j = 4) ∨ (q = 23 ∧ j = 5) ∨ (q = 23 ∧ j = 6) ∨ (q = 23 ∧ j = 7) ∨ (q = 23 ∧ j = 8) ∨ q = (a1 + 7) ∨ (q = a1 ∧ j = 12)) ∨ I' q j = I q j) ∧ (∀ q j : Nat, ((q = 23 ∧ j = 9)) ∨ J' q j = J q j) ∧ gc_LT I' ∧ gc_TK I' ∧ (∃ z : Int, r = some (.inl z) ∧ 0 ≤ z ∧ z ≤ 1 ∧ (I' 23 1 = I 23 1) ∧ (I 23 5 ≤ I' 23 5) ∧ (I' a1 12 ≤ I a1 12 + 1) ∧ (gs_Or z (0 ≤ (gs_sa1 β η Ir Jr nf9 a9 (gs_ao β η nf9 a9 p9)) ∧ gc_AT β η (gs_sa1 β η Ir Jr nf9 a9 (gs_ao β η nf9 a9 p9)) 23 I' J' ∧ I' a1 12 = I a1 12 + 1) ((gs_sa1 β η Ir Jr nf9 a9 (gs_ao β η nf9 a9 p9)) < 0 ∧ I' 39 4 = -1 - (gs_sa1 β η Ir Jr nf9 a9 (gs_ao β η nf9 a9 p9)))))) := by
  have FI : ∀ q j : Nat, ((q = 39 ∧ j = 3) ∨ (q = 39 ∧ j = 4) ∨ (q = 23 ∧ j = 5) ∨ (q = 23 ∧ j = 6) ∨ (q = 23 ∧ j = 7) ∨ (q = 23 ∧ j = 8) ∨ q = (a1 + 7) ∨ (q = a1 ∧ j = 12)) ∨ I q j = I q j := fun _ _ => Or.inr rfl
  have FJ : ∀ q j : Nat, ((q = 23 ∧ j = 9)) ∨ J q j = J q j := fun _ _ => Or.inr rfl
  have A_39_1 : A 39 1 = some 23 := gc_bA_39_1 hb
  have B_23 : 23 < 1000000 := by decide
  have B_39 : 39 < 1000000 := by decide
  have R_23 : ro 23 = 3 := gc_bR_23 hb
  have R_39 : ro 39 = 42 := gc_bR_39 hb
  have S_23 : sh[23]? = some (false, 9, 10) := gc_bS_23 hb
  have S_39 : sh[39]? = some (false, 6, 19) := gc_bS_39 hb
  obtain ⟨S_a1, R_a1, B_a1, A_a1_5, S_a1_1, R_a1_1, B_a1_1, A_a1_6, S_a1_2, R_a1_2, B_a1_2, A_a1_7, S_a1_3, R_a1_3, B_a1_3, A_a1_9, S_a1_4, R_a1_4, B_a1_4, A_a1_10, S_a1_5, R_a1_5, B_a1_5, A_a1_11, S_a1_6, R_a1_6, B_a1_6, A_a1_13, S_a1_7, R_a1_7, B_a1_7, A_a1_15, S_a1_8, R_a1_8, B_a1_8⟩ := id h_a1
  obtain ⟨S_t, R_t, B_t, A_t_0, h_t_1, A_t_1, h_t_3, A_t_2, S_t_5, R_t_5, B_t_5, A_t_3, S_t_6, R_t_6, B_t_6, A_t_4, h_t_7, A_t_5, S_t_9, R_t_9, B_t_9, A_t_7, S_t_10, R_t_10, B_t_10, A_t_8, h_t_11, A_t_9, S_t_13, R_t_13, B_t_13, A_t_10, S_t_14, R_t_14, B_t_14, A_t_12, S_t_15, R_t_15, B_t_15, A_t_14, S_t_16, R_t_16, B_t_16, A_t_15, h_t_17⟩ := id h_t
  obtain ⟨S_t_1, R_t_1, B_t_1, A_t_1_0, S_t_1_1, R_t_1_1, B_t_1_1, Q0_t_1, Q1_t_1, Q2_t_1⟩ := id h_t_1
  obtain ⟨S_t_3, R_t_3, B_t_3, A_t_3_0, S_t_3_1, R_t_3_1, B_t_3_1, Q0_t_3, Q1_t_3, Q2_t_3⟩ := id h_t_3
  obtain ⟨S_t_7, R_t_7, B_t_7, A_t_7_0, S_t_7_1, R_t_7_1, B_t_7_1, Q0_t_7, Q1_t_7, Q2_t_7⟩ := id h_t_7
  obtain ⟨S_t_11, R_t_11, B_t_11, A_t_11_0, S_t_11_1, R_t_11_1, B_t_11_1, Q0_t_11, Q1_t_11, Q2_t_11⟩ := id h_t_11
  obtain ⟨S_t_17, R_t_17, B_t_17, A_t_17_0, S_20, R_20, B_20, A_t_17_1, S_t_17_1, R_t_17_1, B_t_17_1, A_t_17_2, S_t_17_2, R_t_17_2, B_t_17_2, A_t_17_3, S_t_17_3, R_t_17_3, B_t_17_3, A_t_17_4, S_t_17_4, R_t_17_4, B_t_17_4, A_t_17_5, S_t_17_5, R_t_17_5, B_t_17_5, S_t_17_6, R_t_17_6, B_t_17_6, S_t_17_7, R_t_17_7, B_t_17_7⟩ := id h_t_17
  have N1 := gc_dj_LT h_a1 h_t
  have hD : gv_D (gc_E6 ws0 tb 3 (yX6_readAgree, cX6_readAgree, 4, (some .boolean)) kX6_readAgree) := gq_of oX6_readAgree
  refine gc_ev6 (d := 3) (l := kX6_readAgree) (Po := fun r h' => (∃ (I' : gr_I) (J' : gr_J), h' = gc_h sh I' J' A ∧ gc_Inv ro I' ∧ (∀ q j : Nat, ((q = 39 ∧ j = 3) ∨ (q = 39 ∧ j = 4) ∨ (q = 23 ∧ j = 5) ∨ (q = 23 ∧ j = 6) ∨ (q = 23 ∧ j = 7) ∨ (q = 23 ∧ j = 8) ∨ q = (a1 + 7) ∨ (q = a1 ∧ j = 12)) ∨ I' q j = I q j) ∧ (∀ q j : Nat, ((q = 23 ∧ j = 9)) ∨ J' q j = J q j) ∧ gc_LT I' ∧ gc_TK I' ∧ (∃ z : Int, r = some (.inl z) ∧ 0 ≤ z ∧ z ≤ 1 ∧ (I' 23 1 = I 23 1) ∧ (I 23 5 ≤ I' 23 5) ∧ (I' a1 12 ≤ I a1 12 + 1) ∧ (gs_Or z (0 ≤ (gs_sa1 β η Ir Jr nf9 a9 (gs_ao β η nf9 a9 p9)) ∧ gc_AT β η (gs_sa1 β η Ir Jr nf9 a9 (gs_ao β η nf9 a9 p9)) 23 I' J' ∧ I' a1 12 = I a1 12 + 1) ((gs_sa1 β η Ir Jr nf9 a9 (gs_ao β η nf9 a9 p9)) < 0 ∧ I' 39 4 = -1 - (gs_sa1 β η Ir Jr nf9 a9 (gs_ao β η nf9 a9 p9))))))) htb rfl (Nat.le_of_ble_eq_true rfl) ?_
  have N_23__a1_7 : ¬ (23 = (a1 + 7)) := by exact gz_m 0 (by omega)
  have N_a1__a1_7 : ¬ (a1 = (a1 + 7)) := by exact gz_m 1 (by omega)
  have N_t_1__a1_7 : ¬ ((t + 1) = (a1 + 7)) := by exact gz_m 2 (by omega)
  have N_39__a1_7 : ¬ (39 = (a1 + 7)) := by exact gz_m 3 (by omega)
  have N_24__a1_7 : ¬ (24 = (a1 + 7)) := by exact gz_m 4 (by omega)
  have N_24__a1 : ¬ (24 = a1) := by exact gz_m 5 (by omega)
  have t1 := gc_TK_mo KTK_I
  have f2 := (gc_b_3_1 hI R_23)
  have f3 := (gc_b_3_5 hI R_23)
  have f4 := (gc_b_3_6 hI R_23)
  have f5 := (gc_b_3_7 hI R_23)
  have f6 := (show 0 ≤ I a1 12 ∧ I a1 12 ≤ 6 from gc_in2 hI R_a1 rfl rfl rfl)
  have f7 := (gc_b_3_8 hI R_23)
  have f8 := (show 0 ≤ I (t + 1) 1 ∧ I (t + 1) 1 ≤ 8 from gc_in2 hI R_t_1 rfl rfl rfl)
  have f9 := (gc_b_42_2 hI R_39)
  have tAT := gc_AT_l x1
  have L9 : ∀ (n9 : Nat) (I10 : gr_I) (J11 : gr_J) (v2_12 : Int) (v3_12 : Int) (p_12 : Int), (3 - v3_12).toNat < n9 → gc_Inv ro I10 → (∀ q j : Nat, ((q = 39 ∧ j = 3) ∨ (q = 39 ∧ j = 4) ∨ (q = 23 ∧ j = 5) ∨ (q = 23 ∧ j = 6) ∨ (q = 23 ∧ j = 7) ∨ (q = 23 ∧ j = 8) ∨ q = (a1 + 7) ∨ (q = a1 ∧ j = 12)) ∨ I10 q j = I q j) → (∀ q j : Nat, ((q = 23 ∧ j = 9)) ∨ J11 q j = J q j) → gc_LT I10 → gc_TK I10 → ((0 ≤ v2_12 ∧ v2_12 ≤ 15) ∧ (0 ≤ v3_12 ∧ v3_12 ≤ 2) ∧ (v2_12 = 3 * I10 a1 12) ∧ (I10 a1 12 = I a1 12) ∧ (0 ≤ p_12) ∧ (I10 23 1 = I 23 1) ∧ (I 23 5 ≤ I10 23 5) ∧ (I10 39 2 = (t : Int))) → (gc_AT β η p_12 23 I10 J11) → ((v3_12 = 0 ∧ (gs_sa1 β η Ir Jr nf9 a9 (gs_ao β η nf9 a9 p9)) = gs_sa1 β η Ir Jr nf9 a9 (gs_ao β η nf9 a9 p_12)) ∨ (v3_12 = 1 ∧ (gs_sa1 β η Ir Jr nf9 a9 (gs_ao β η nf9 a9 p9)) = gs_sa2 β η Ir Jr (gs_ao β η nf9 a9 p_12)) ∨ (v3_12 = 2 ∧ (gs_sa1 β η Ir Jr nf9 a9 (gs_ao β η nf9 a9 p9)) = gs_fo β η Ir Jr p_12)) → gv_X (gc_E6 ws0 tb 3 (yX6_readAgree, cX6_readAgree, 4, (some .boolean)) kX6_readAgree) (gv_Q cX6_readAgree (some .boolean) sh (fun r h' => (∃ (I' : gr_I) (J' : gr_J), h' = gc_h sh I' J' A ∧ gc_Inv ro I' ∧ (∀ q j : Nat, ((q = 39 ∧ j = 3) ∨ (q = 39 ∧ j = 4) ∨ (q = 23 ∧ j = 5) ∨ (q = 23 ∧ j = 6) ∨ (q = 23 ∧ j = 7) ∨ (q = 23 ∧ j = 8) ∨ q = (a1 + 7) ∨ (q = a1 ∧ j = 12)) ∨ I' q j = I q j) ∧ (∀ q j : Nat, ((q = 23 ∧ j = 9)) ∨ J' q j = J q j) ∧ gc_LT I' ∧ gc_TK I' ∧ (∃ z : Int, r = some (.inl z) ∧ 0 ≤ z ∧ z ≤ 1 ∧ (I' 23 1 = I 23 1) ∧ (I 23 5 ≤ I' 23 5) ∧ (I' a1 12 ≤ I a1 12 + 1) ∧ (gs_Or z (0 ≤ (gs_sa1 β η Ir Jr nf9 a9 (gs_ao β η nf9 a9 p9)) ∧ gc_AT β η (gs_sa1 β η Ir Jr nf9 a9 (gs_ao β η nf9 a9 p9)) 23 I' J' ∧ I' a1 12 = I a1 12 + 1) ((gs_sa1 β η Ir Jr nf9 a9 (gs_ao β η nf9 a9 p9)) < 0 ∧ I' 39 4 = -1 - (gs_sa1 β η Ir Jr nf9 a9 (gs_ao β η nf9 a9 p9)))))))) (9, [(0, .inr (.inr (some 39))), (1, .inr (.inr (some a1))), (2, .inl v2_12), (3, .inl v3_12)], [], sh, gc_h sh I10 J11 A) := by
    intro n9
    induction n9 with
    | zero => intro I10 J11 v2_12 v3_12 p_12 hn; exact gz_m 6 (by omega)
    | succ n9 ih9 =>
      intro I10 J11 v2_12 v3_12 p_12 hn hI10 FI10 FJ11 KLT_I10 KTK_I10 m_12 e3_12 e4_12
      obtain ⟨hv2_12, hv3_12, e0_12, e1_12, e2_12, e5_12, e6_12, e7_12⟩ := m_12
      have t13 := gc_TK_mo KTK_I10
      have f14 := (gc_b_3_1 hI10 R_23)
      have f15 := (gc_b_3_5 hI10 R_23)
      have f16 := (gc_b_3_6 hI10 R_23)
      have f17 := (gc_b_3_7 hI10 R_23)
      have f18 := (show 0 ≤ I10 a1 12 ∧ I10 a1 12 ≤ 6 from gc_in2 hI10 R_a1 rfl rfl rfl)
      have f19 := (gc_b_3_8 hI10 R_23)
      have f20 := (show 0 ≤ I10 (t + 1) 1 ∧ I10 (t + 1) 1 ≤ 8 from gc_in2 hI10 R_t_1 rfl rfl rfl)
      have f21 := (gc_b_42_2 hI10 R_39)
      have t22 := gc_AT_l e3_12
      refine gv_run 2 true hD (pc' := 11) (lv' := [(0, .inr (.inr (some 39))), (1, .inr (.inr (some a1))), (2, .inl v2_12), (3, .inl v3_12)]) (st' := [.inl 2, .inl v3_12]) (h' := gc_h sh I10 J11 A) (C := ((True ∧ True) ∧ True)) rfl ⟨⟨trivial, trivial⟩, trivial⟩ ?_
      refine gv_icmp_ge (t := 59) hD rfl rfl ⟨⟨by exact gz_m 7 (by omega), by exact gz_m 8 (by omega)⟩, ⟨by exact gz_m 9 (by omega), by exact gz_m 10 (by omega)⟩⟩ (fun c23 => ?_) (fun c23 => ?_)
      · show gv_X _ _ (59, [(0, .inr (.inr (some 39))), (1, .inr (.inr (some a1))), (2, .inl v2_12), (3, .inl v3_12)], [], sh, gc_h sh I10 J11 A)
        refine gv_run 2 true hD (pc' := 61) (lv' := [(0, .inr (.inr (some 39))), (1, .inr (.inr (some a1))), (2, .inl v2_12), (3, .inl v3_12)]) (st' := [.inr (.inr (some 39)), .inr (.inr (some 39))]) (h' := gc_h sh I10 J11 A) (C := ((True ∧ True) ∧ True)) rfl ⟨⟨trivial, trivial⟩, trivial⟩ ?_
        refine gv_get hD rfl rfl S_39 ⟨by decide, B_39⟩ (gc_h5 (t := t) S_39 rfl (by exact gz_m 11 (by omega))) ?_
        show gv_X _ _ (64, [(0, .inr (.inr (some 39))), (1, .inr (.inr (some a1))), (2, .inl v2_12), (3, .inl v3_12)], [.inr (.inr (some t)), .inr (.inr (some 39))], sh, gc_h sh I10 J11 A)
        refine gv_get hD rfl rfl S_t ⟨by decide, B_t⟩ (gc_hA S_t rfl A_t_0) ?_
        show gv_X _ _ (67, [(0, .inr (.inr (some 39))), (1, .inr (.inr (some a1))), (2, .inl v2_12), (3, .inl v3_12)], [.inr (.inr (some (t + 1))), .inr (.inr (some 39))], sh, gc_h sh I10 J11 A)
        obtain ⟨r24, h24, E24, P24⟩ := d_X6_needKnown_p (ws0 := ws0) (tb := tb) hws htb sh ro I10 J11 A hI10  8 6 β η p_12 (t + 1) hb h_t_1   e3_12 (by exact gz_m 12 (by omega)) 
        obtain ⟨I25, J26, rfl, hI25, g24, k24, ⟨z24, rfl, q24⟩⟩ := P24
        have FI25 := gc_frc (W := fun q j => (q = 39 ∧ j = 3) ∨ (q = 39 ∧ j = 4) ∨ (q = 23 ∧ j = 5) ∨ (q = 23 ∧ j = 6) ∨ (q = 23 ∧ j = 7) ∨ (q = 23 ∧ j = 8) ∨ q = (a1 + 7) ∨ (q = a1 ∧ j = 12)) (V := fun q j => (q = 39 ∧ j = 3) ∨ (q = 39 ∧ j = 4)) FI10 (fun q j h => (h.elim (fun h => (Or.inl h)) (fun h => (Or.inr (Or.inl h))))) g24
        have t27 := (g24 23 1).resolve_left (fun h => h.elim (fun h => absurd h.2 (gz_ne rfl)) (fun h => absurd h.2 (gz_ne rfl)))
        have t28 := (g24 23 5).resolve_left (fun h => h.elim (fun h => absurd h.2 (gz_ne rfl)) (fun h => absurd h.2 (gz_ne rfl)))
        have t29 := (g24 23 6).resolve_left (fun h => h.elim (fun h => absurd h.2 (gz_ne rfl)) (fun h => absurd h.2 (gz_ne rfl)))
        have t30 := (g24 23 7).resolve_left (fun h => h.elim (fun h => absurd h.2 (gz_ne rfl)) (fun h => absurd h.2 (gz_ne rfl)))
        have t31 := (g24 a1 12).resolve_left (fun h => h.elim (fun h => absurd h.2 (gz_ne rfl)) (fun h => absurd h.2 (gz_ne rfl)))
        have t32 := (g24 23 8).resolve_left (fun h => h.elim (fun h => absurd h.2 (gz_ne rfl)) (fun h => absurd h.2 (gz_ne rfl)))
        have t33 := (g24 (t + 1) 1).resolve_left (fun h => h.elim (fun h => absurd h.2 (gz_ne rfl)) (fun h => absurd h.2 (gz_ne rfl)))
        have t34 := (g24 39 2).resolve_left (fun h => h.elim (fun h => absurd h.2 (gz_ne rfl)) (fun h => absurd h.2 (gz_ne rfl)))
        obtain rfl : J11 = J26 := funext fun q => funext fun j => ((k24 q j).resolve_left id).symm
        have KLT_I25 := gc_LT_fr KLT_I10 ((g24 23 5).resolve_left (fun h => h.elim (fun h => absurd h.2 (gz_ne rfl)) (fun h => absurd h.2 (gz_ne rfl)))) ((g24 23 6).resolve_left (fun h => h.elim (fun h => absurd h.2 (gz_ne rfl)) (fun h => absurd h.2 (gz_ne rfl)))) ((g24 23 7).resolve_left (fun h => h.elim (fun h => absurd h.2 (gz_ne rfl)) (fun h => absurd h.2 (gz_ne rfl)))) (fun k => (g24 24 k).resolve_left (fun h => h.elim (fun h => absurd h.1 (gz_ne rfl)) (fun h => absurd h.1 (gz_ne rfl))))
        have KTK_I25 := gc_TK_fr KTK_I10 ((g24 23 1).resolve_left (fun h => h.elim (fun h => absurd h.2 (gz_ne rfl)) (fun h => absurd h.2 (gz_ne rfl)))) ((g24 23 5).resolve_left (fun h => h.elim (fun h => absurd h.2 (gz_ne rfl)) (fun h => absurd h.2 (gz_ne rfl)))) ((g24 23 6).resolve_left (fun h => h.elim (fun h => absurd h.2 (gz_ne rfl)) (fun h => absurd h.2 (gz_ne rfl)))) ((g24 23 7).resolve_left (fun h => h.elim (fun h => absurd h.2 (gz_ne rfl)) (fun h => absurd h.2 (gz_ne rfl))))
        have A35 := gc_AT_I e3_12 ((g24 23 1).resolve_left (fun h => h.elim (fun h => absurd h.2 (gz_ne rfl)) (fun h => absurd h.2 (gz_ne rfl)))) ((g24 23 5).resolve_left (fun h => h.elim (fun h => absurd h.2 (gz_ne rfl)) (fun h => absurd h.2 (gz_ne rfl)))) ((g24 23 6).resolve_left (fun h => h.elim (fun h => absurd h.2 (gz_ne rfl)) (fun h => absurd h.2 (gz_ne rfl)))) ((g24 23 7).resolve_left (fun h => h.elim (fun h => absurd h.2 (gz_ne rfl)) (fun h => absurd h.2 (gz_ne rfl)))) ((g24 23 8).resolve_left (fun h => h.elim (fun h => absurd h.2 (gz_ne rfl)) (fun h => absurd h.2 (gz_ne rfl)))) (fun k => (g24 24 k).resolve_left (fun h => h.elim (fun h => absurd h.1 (gz_ne rfl)) (fun h => absurd h.1 (gz_ne rfl))))
        have t36 := gc_AT_l A35
        refine gv_callV hD rfl (As := [.inr (.inr (some (t + 1)))]) (st := []) rfl B_39 S_39 rfl (gc_lV6 hws rfl) (Nat.le_of_ble_eq_true rfl) (gz_Ev_mono (d := 3) (by decide) E24) ?_
        show gv_X _ _ (70, [(0, .inr (.inr (some 39))), (1, .inr (.inr (some a1))), (2, .inl v2_12), (3, .inl v3_12)], [.inl z24], sh, gc_h sh I25 J11 A)
        refine gv_if_ne (t := 75) hD rfl rfl ⟨by exact gz_m 13 (by omega), by exact gz_m 14 (by omega)⟩ (fun c37 => ?_) (fun c37 => ?_)
        · show gv_X _ _ (75, [(0, .inr (.inr (some 39))), (1, .inr (.inr (some a1))), (2, .inl v2_12), (3, .inl v3_12)], [], sh, gc_h sh I25 J11 A)
          have u38 := gs_or1 q24.2.2.2 (by exact gz_m 15 (by omega))
          have L24 : gs_T β η p_12 = 1 → gc_fd (J11 ((t + 1) + 1)) (gs_M β η p_12) (Int.toNat (I10 (t + 1) 1)) = gs_lt Jr 20 (8 * Ir 0 6) (Ir 13 (Int.toNat (Ir 0 6))) (gs_rn β η p_12) := (fun h => by rw [show I10 (t + 1) 1 = I (t + 1) 1 from ((FI10 (t + 1) 1).resolve_left (by exact gz_m 16 (by omega))), show J11 ((t + 1) + 1) = J ((t + 1) + 1) from funext fun j => ((FJ11 (t + 2) j).resolve_left (by exact gz_m 17 (by omega)))]; exact gs_NA_lt x6 x5 h)
          have t39 := L24 (by exact gz_m 18 (by omega))
          refine gv_run 1 true hD (pc' := 76) (lv' := [(0, .inr (.inr (some 39))), (1, .inr (.inr (some a1))), (2, .inl v2_12), (3, .inl v3_12)]) (st' := [.inr (.inr (some a1))]) (h' := gc_h sh I25 J11 A) (C := (True ∧ True)) rfl ⟨trivial, trivial⟩ ?_
          refine gv_get hD rfl rfl S_a1 ⟨by decide, B_a1⟩ (gc_hA S_a1 rfl A_a1_13) ?_
          show gv_X _ _ (79, [(0, .inr (.inr (some 39))), (1, .inr (.inr (some a1))), (2, .inl v2_12), (3, .inl v3_12)], [.inr (.inr (some (a1 + 7)))], sh, gc_h sh I25 J11 A)
          refine gv_run 4 true hD (pc' := 83) (lv' := [(0, .inr (.inr (some 39))), (1, .inr (.inr (some a1))), (2, .inl v2_12), (3, .inl v3_12)]) (st' := [.inr (.inr (some 39)), .inl (v2_12 + 2), .inr (.inr (some (a1 + 7)))]) (h' := gc_h sh I25 J11 A) (C := ((((True ∧ True) ∧ True) ∧ True) ∧ True)) rfl ⟨⟨⟨⟨trivial, trivial⟩, trivial⟩, trivial⟩, trivial⟩ ?_
          refine gv_get hD rfl rfl S_39 ⟨by decide, B_39⟩ (gc_h5 (t := t) S_39 rfl (by exact gz_m 19 (by omega))) ?_
          show gv_X _ _ (86, [(0, .inr (.inr (some 39))), (1, .inr (.inr (some a1))), (2, .inl v2_12), (3, .inl v3_12)], [.inr (.inr (some t)), .inl (v2_12 + 2), .inr (.inr (some (a1 + 7)))], sh, gc_h sh I25 J11 A)
          refine gv_get hD rfl rfl S_t ⟨by decide, B_t⟩ (gc_hA S_t rfl A_t_0) ?_
          show gv_X _ _ (89, [(0, .inr (.inr (some 39))), (1, .inr (.inr (some a1))), (2, .inl v2_12), (3, .inl v3_12)], [.inr (.inr (some (t + 1))), .inl (v2_12 + 2), .inr (.inr (some (a1 + 7)))], sh, gc_h sh I25 J11 A)
          refine gv_run 1 true hD (pc' := 90) (lv' := [(0, .inr (.inr (some 39))), (1, .inr (.inr (some a1))), (2, .inl v2_12), (3, .inl v3_12)]) (st' := [.inr (.inr (some 39)), .inr (.inr (some (t + 1))), .inl (v2_12 + 2), .inr (.inr (some (a1 + 7)))]) (h' := gc_h sh I25 J11 A) (C := (True ∧ True)) rfl ⟨trivial, trivial⟩ ?_
          refine gv_get hD rfl rfl S_39 ⟨by decide, B_39⟩ (gc_hA S_39 rfl A_39_1) ?_
          show gv_X _ _ (93, [(0, .inr (.inr (some 39))), (1, .inr (.inr (some a1))), (2, .inl v2_12), (3, .inl v3_12)], [.inr (.inr (some 23)), .inr (.inr (some (t + 1))), .inl (v2_12 + 2), .inr (.inr (some (a1 + 7)))], sh, gc_h sh I25 J11 A)
          refine gv_get hD rfl rfl S_23 ⟨by decide, B_23⟩ (gc_hJ S_23 rfl) ?_
          show gv_X _ _ (96, [(0, .inr (.inr (some 39))), (1, .inr (.inr (some a1))), (2, .inl v2_12), (3, .inl v3_12)], [.inr (.inl (J11 23 9)), .inr (.inr (some (t + 1))), .inl (v2_12 + 2), .inr (.inr (some (a1 + 7)))], sh, gc_h sh I25 J11 A)
          obtain ⟨r40, h40, E40, P40⟩ := d_X4_find (ws0 := ws0) (tb := tb) hws htb sh ro I25 J11 A hI25 (t + 1) 8 6 (J11 23 9) h_t_1     
          obtain ⟨rfl, ⟨z40, rfl, q40⟩⟩ := P40
          have t41 : z40 = gs_lt Jr 20 (8 * Ir 0 6) (Ir 13 (Int.toNat (Ir 0 6))) (gs_rn β η p_12) := q40.2.2.2.trans (by rw [gc_AT_m A35 (by exact gz_m 20 (by omega))]; exact (show gs_T β η p_12 = 1 → gc_fd (J11 ((t + 1) + 1)) (gs_M β η p_12) (Int.toNat (I25 (t + 1) 1)) = gs_lt Jr 20 (8 * Ir 0 6) (Ir 13 (Int.toNat (Ir 0 6))) (gs_rn β η p_12) from (fun h => by rw [show I25 (t + 1) 1 = I (t + 1) 1 from (((g24 (t + 1) 1).resolve_left (by exact gz_m 21 (by omega))).trans ((FI10 (t + 1) 1).resolve_left (by exact gz_m 22 (by omega)))), show J11 ((t + 1) + 1) = J ((t + 1) + 1) from funext fun j => ((FJ11 (t + 2) j).resolve_left (by exact gz_m 23 (by omega)))]; exact gs_NA_lt x6 x5 h)) (by exact gz_m 24 (by omega)))
          refine gv_callV hD rfl (As := [.inr (.inl (J11 23 9))]) (st := [.inl (v2_12 + 2), .inr (.inr (some (a1 + 7)))]) rfl B_t_1 S_t_1 rfl (gc_lV6 hws rfl) (Nat.le_of_ble_eq_true rfl) (gz_Ev_mono (d := 1) (by decide) E40) ?_
          show gv_X _ _ (99, [(0, .inr (.inr (some 39))), (1, .inr (.inr (some a1))), (2, .inl v2_12), (3, .inl v3_12)], [.inl z40, .inl (v2_12 + 2), .inr (.inr (some (a1 + 7)))], sh, gc_h sh I25 J11 A)
          obtain ⟨r42, h42, E42, P42⟩ := d_X11_shiftOf (ws0 := ws0) (tb := tb) hws htb sh ro I25 J11 A hI25  z40    ⟨by exact gz_m 25 (by omega), by exact gz_m 26 (by omega)⟩  
          obtain ⟨rfl, ⟨z42, rfl, q42⟩⟩ := P42
          refine gv_callS hD rfl (As := [.inl z40]) (st := [.inl (v2_12 + 2), .inr (.inr (some (a1 + 7)))]) rfl (gc_lS6 hws rfl) (Nat.le_of_ble_eq_true rfl) (gz_Ev_mono (d := 1) (by decide) E42) ?_
          show gv_X _ _ (102, [(0, .inr (.inr (some 39))), (1, .inr (.inr (some a1))), (2, .inl v2_12), (3, .inl v3_12)], [.inl z42, .inl (v2_12 + 2), .inr (.inr (some (a1 + 7)))], sh, gc_h sh I25 J11 A)
          refine gv_iast hD rfl S_a1_7 ⟨by decide, B_a1_7⟩ ⟨by exact gz_m 27 (by omega), by exact gz_m 28 (by omega)⟩ ?_
          refine gc_st hI25 S_a1_7 rfl R_a1_7 (lo := 0) (hi := 21) (gc_lom (c := 2) rfl (by exact gz_m 29 (by omega)) rfl) (gc_him (c := 2) rfl (by exact gz_m 30 (by omega)) rfl) (by exact gz_m 31 (by omega)) (by exact gz_m 32 (by omega)) (fun I43 hI43 q44 p44 => ?_)
          have FI43 := gc_frs (W := fun q j => (q = 39 ∧ j = 3) ∨ (q = 39 ∧ j = 4) ∨ (q = 23 ∧ j = 5) ∨ (q = 23 ∧ j = 6) ∨ (q = 23 ∧ j = 7) ∨ (q = 23 ∧ j = 8) ∨ q = (a1 + 7) ∨ (q = a1 ∧ j = 12)) FI25 (Or.inr (Or.inr (Or.inr (Or.inr (Or.inr (Or.inr (Or.inl rfl))))))) p44
          have t45 := p44 23 1 (fun h => absurd h.1 N_23__a1_7)
          have t46 := p44 23 5 (fun h => absurd h.1 N_23__a1_7)
          have t47 := p44 23 6 (fun h => absurd h.1 N_23__a1_7)
          have t48 := p44 23 7 (fun h => absurd h.1 N_23__a1_7)
          have t49 := p44 a1 12 (fun h => absurd h.1 N_a1__a1_7)
          have t50 := p44 23 8 (fun h => absurd h.1 N_23__a1_7)
          have t51 := p44 (t + 1) 1 (fun h => absurd h.1 N_t_1__a1_7)
          have t52 := p44 39 2 (fun h => absurd h.1 N_39__a1_7)
          have KLT_I43 := gc_LT_fr KLT_I25 (p44 23 5 (fun h => absurd h.1 N_23__a1_7)) (p44 23 6 (fun h => absurd h.1 N_23__a1_7)) (p44 23 7 (fun h => absurd h.1 N_23__a1_7)) (fun k => p44 24 k (fun h => absurd h.1 N_24__a1_7))
          have KTK_I43 := gc_TK_fr KTK_I25 (p44 23 1 (fun h => absurd h.1 N_23__a1_7)) (p44 23 5 (fun h => absurd h.1 N_23__a1_7)) (p44 23 6 (fun h => absurd h.1 N_23__a1_7)) (p44 23 7 (fun h => absurd h.1 N_23__a1_7))
          have A53 := gc_AT_I A35 (p44 23 1 (fun h => absurd h.1 N_23__a1_7)) (p44 23 5 (fun h => absurd h.1 N_23__a1_7)) (p44 23 6 (fun h => absurd h.1 N_23__a1_7)) (p44 23 7 (fun h => absurd h.1 N_23__a1_7)) (p44 23 8 (fun h => absurd h.1 N_23__a1_7)) (fun k => p44 24 k (fun h => absurd h.1 N_24__a1_7))
          show gv_X _ _ (103, [(0, .inr (.inr (some 39))), (1, .inr (.inr (some a1))), (2, .inl v2_12), (3, .inl v3_12)], [], sh, gc_h sh I43 J11 A)
          refine gv_run 1 true hD (pc' := 104) (lv' := [(0, .inr (.inr (some 39))), (1, .inr (.inr (some a1))), (2, .inl v2_12), (3, .inl v3_12)]) (st' := [.inr (.inr (some 39))]) (h' := gc_h sh I43 J11 A) (C := (True ∧ True)) rfl ⟨trivial, trivial⟩ ?_
          refine gv_get hD rfl rfl S_39 ⟨by decide, B_39⟩ (gc_hA S_39 rfl A_39_1) ?_
          show gv_X _ _ (107, [(0, .inr (.inr (some 39))), (1, .inr (.inr (some a1))), (2, .inl v2_12), (3, .inl v3_12)], [.inr (.inr (some 23))], sh, gc_h sh I43 J11 A)
          have t55 := gc_TK_nx KTK_I43 (by exact gz_m 33 (by omega))
          obtain ⟨r54, h54, E54, P54⟩ := d_X9_advance_p (ws0 := ws0) (tb := tb) hws htb sh ro I43 J11 A hI43 23 β η  (gc_b23 hb)    (by exact gz_m 34 (by omega)) A53.1.1 A53.1.2 
          obtain ⟨I56, J57, rfl, hI56, g54, k54, ⟨rfl, V54_0, V54_1, V54_2, V54_3, V54_4, q54⟩⟩ := P54
          have FI56 := gc_frc (W := fun q j => (q = 39 ∧ j = 3) ∨ (q = 39 ∧ j = 4) ∨ (q = 23 ∧ j = 5) ∨ (q = 23 ∧ j = 6) ∨ (q = 23 ∧ j = 7) ∨ (q = 23 ∧ j = 8) ∨ q = (a1 + 7) ∨ (q = a1 ∧ j = 12)) (V := fun q j => (q = 23 ∧ j = 5) ∨ (q = 23 ∧ j = 6) ∨ (q = 23 ∧ j = 7) ∨ (q = 23 ∧ j = 8)) FI43 (fun q j h => (h.elim (fun h => (Or.inr (Or.inr (Or.inl h)))) (fun h => (h.elim (fun h => (Or.inr (Or.inr (Or.inr (Or.inl h))))) (fun h => (h.elim (fun h => (Or.inr (Or.inr (Or.inr (Or.inr (Or.inl h)))))) (fun h => (Or.inr (Or.inr (Or.inr (Or.inr (Or.inr (Or.inl h))))))))))))) g54
          have FJ57 := gc_frc (W := fun q j => (q = 23 ∧ j = 9)) (V := fun q j => (q = 23 ∧ j = 9)) FJ11 (fun q j h => h) k54
          have t58 := (g54 23 1).resolve_left (fun h => h.elim (fun h => absurd h.2 (gz_ne rfl)) (fun h => h.elim (fun h => absurd h.2 (gz_ne rfl)) (fun h => h.elim (fun h => absurd h.2 (gz_ne rfl)) (fun h => absurd h.2 (gz_ne rfl)))))
          have t59 := (g54 a1 12).resolve_left (fun h => h.elim (fun h => absurd h.2 (gz_ne rfl)) (fun h => h.elim (fun h => absurd h.2 (gz_ne rfl)) (fun h => h.elim (fun h => absurd h.2 (gz_ne rfl)) (fun h => absurd h.2 (gz_ne rfl)))))
          have t60 := (g54 (t + 1) 1).resolve_left (fun h => h.elim (fun h => absurd h.2 (gz_ne rfl)) (fun h => h.elim (fun h => absurd h.2 (gz_ne rfl)) (fun h => h.elim (fun h => absurd h.2 (gz_ne rfl)) (fun h => absurd h.2 (gz_ne rfl)))))
          have t61 := (g54 39 2).resolve_left (fun h => h.elim (fun h => absurd h.2 (gz_ne rfl)) (fun h => h.elim (fun h => absurd h.2 (gz_ne rfl)) (fun h => h.elim (fun h => absurd h.2 (gz_ne rfl)) (fun h => absurd h.2 (gz_ne rfl)))))
          have f62 := (gc_b_3_5 hI56 R_23)
          have f63 := (gc_b_3_6 hI56 R_23)
          have f64 := (gc_b_3_7 hI56 R_23)
          have f65 := (gc_b_3_8 hI56 R_23)
          have KLT_I56 : gc_LT I56 := q54.2.2.1
          have KTK_I56 : gc_TK I56 := And.intro V54_0 (And.intro V54_1 (And.intro V54_2 (And.intro V54_3 V54_4)))
          have t66 := gc_TK_mo KTK_I56
          clear V54_0 V54_1 V54_2 V54_3 V54_4
          have A67 := gc_AT_nx A53 q54.2.2.2
          have t68 := gc_AT_l A67
          refine gv_callV hD rfl (As := []) (st := []) rfl B_23 S_23 rfl (gc_lV6 hws rfl) (Nat.le_of_ble_eq_true rfl) (gz_Ev_mono (d := 2) (by decide) E54) ?_
          show gv_X _ _ (110, [(0, .inr (.inr (some 39))), (1, .inr (.inr (some a1))), (2, .inl v2_12), (3, .inl v3_12)], [], sh, gc_h sh I56 J57 A)
          refine gv_run 2 true hD (pc' := 112) (lv' := [(0, .inr (.inr (some 39))), (1, .inr (.inr (some a1))), (2, .inl v2_12), (3, .inl v3_12)]) (st' := [.inr (.inr (some a1)), .inr (.inr (some a1))]) (h' := gc_h sh I56 J57 A) (C := ((True ∧ True) ∧ True)) rfl ⟨⟨trivial, trivial⟩, trivial⟩ ?_
          have f69 := (show 0 ≤ I56 a1 12 ∧ I56 a1 12 ≤ 6 from gc_in2 hI56 R_a1 rfl rfl rfl)
          refine gv_get hD rfl rfl S_a1 ⟨by decide, B_a1⟩ (gc_hI S_a1 rfl) ?_
          show gv_X _ _ (115, [(0, .inr (.inr (some 39))), (1, .inr (.inr (some a1))), (2, .inl v2_12), (3, .inl v3_12)], [.inl (I56 a1 12), .inr (.inr (some a1))], sh, gc_h sh I56 J57 A)
          refine gv_run 2 true hD (pc' := 117) (lv' := [(0, .inr (.inr (some 39))), (1, .inr (.inr (some a1))), (2, .inl v2_12), (3, .inl v3_12)]) (st' := [.inl ((I56 a1 12) + 1), .inr (.inr (some a1))]) (h' := gc_h sh I56 J57 A) (C := ((True ∧ True) ∧ True)) rfl ⟨⟨trivial, trivial⟩, trivial⟩ ?_
          refine gv_put hD rfl rfl S_a1 ⟨by decide, B_a1⟩ rfl trivial ?_
          refine gc_st (k := 12) hI56 S_a1 rfl R_a1 (lo := 0) (hi := 6) rfl rfl (by exact gz_m 35 (by omega)) (by exact gz_m 36 (by omega)) (fun I70 hI70 q71 p71 => ?_)
          have FI70 := gc_frs (W := fun q j => (q = 39 ∧ j = 3) ∨ (q = 39 ∧ j = 4) ∨ (q = 23 ∧ j = 5) ∨ (q = 23 ∧ j = 6) ∨ (q = 23 ∧ j = 7) ∨ (q = 23 ∧ j = 8) ∨ q = (a1 + 7) ∨ (q = a1 ∧ j = 12)) FI56 (Or.inr (Or.inr (Or.inr (Or.inr (Or.inr (Or.inr (Or.inr ⟨rfl, rfl⟩))))))) p71
          have t72 := p71 23 1 (fun h => absurd h.2 (gz_ne rfl))
          have t73 := p71 23 5 (fun h => absurd h.2 (gz_ne rfl))
          have t74 := p71 23 6 (fun h => absurd h.2 (gz_ne rfl))
          have t75 := p71 23 7 (fun h => absurd h.2 (gz_ne rfl))
          have t76 := p71 23 8 (fun h => absurd h.2 (gz_ne rfl))
          have t77 := p71 (t + 1) 1 (fun h => absurd h.2 (gz_ne rfl))
          have t78 := p71 39 2 (fun h => absurd h.2 (gz_ne rfl))
          have f79 := (show 0 ≤ I70 a1 12 ∧ I70 a1 12 ≤ 6 from gc_in2 hI70 R_a1 rfl rfl rfl)
          have KLT_I70 := gc_LT_fr KLT_I56 (p71 23 5 (fun h => absurd h.2 (gz_ne rfl))) (p71 23 6 (fun h => absurd h.2 (gz_ne rfl))) (p71 23 7 (fun h => absurd h.2 (gz_ne rfl))) (fun k => p71 24 k (fun h => absurd h.1 N_24__a1))
          have KTK_I70 := gc_TK_fr KTK_I56 (p71 23 1 (fun h => absurd h.2 (gz_ne rfl))) (p71 23 5 (fun h => absurd h.2 (gz_ne rfl))) (p71 23 6 (fun h => absurd h.2 (gz_ne rfl))) (p71 23 7 (fun h => absurd h.2 (gz_ne rfl)))
          have A80 := gc_AT_I A67 (p71 23 1 (fun h => absurd h.2 (gz_ne rfl))) (p71 23 5 (fun h => absurd h.2 (gz_ne rfl))) (p71 23 6 (fun h => absurd h.2 (gz_ne rfl))) (p71 23 7 (fun h => absurd h.2 (gz_ne rfl))) (p71 23 8 (fun h => absurd h.2 (gz_ne rfl))) (fun k => p71 24 k (fun h => absurd h.1 N_24__a1))
          show gv_X _ _ (120, [(0, .inr (.inr (some 39))), (1, .inr (.inr (some a1))), (2, .inl v2_12), (3, .inl v3_12)], [], sh, gc_h sh I70 J57 A)
          refine gv_run 1 true hD (pc' := 121) (lv' := [(0, .inr (.inr (some 39))), (1, .inr (.inr (some a1))), (2, .inl v2_12), (3, .inl v3_12)]) (st' := [.inl 1]) (h' := gc_h sh I70 J57 A) (C := (True ∧ True)) rfl ⟨trivial, trivial⟩ ?_
          exact gv_zret hD rfl (by exact gz_m 37 (by omega)) ⟨I70, J57, rfl, hI70, FI70, FJ57, KLT_I70, KTK_I70, ⟨_, rfl, by exact gz_m 38 (by omega), by exact gz_m 39 (by omega), by exact gz_m 40 (by omega), by exact gz_m 41 (by omega), by exact gz_m 42 (by omega), (Or.inl ⟨by exact gz_m 43 (by omega), by have e8 : (gs_sa1 β η Ir Jr nf9 a9 (gs_ao β η nf9 a9 p9)) = gs_fo β η Ir Jr p_12 := (e4_12.elim (fun h => absurd h.1 (by exact gz_m 44 (by omega))) (fun h => h.elim (fun h => absurd h.1 (by exact gz_m 45 (by omega))) (fun h => h.2))); have e9 : (gs_sa1 β η Ir Jr nf9 a9 (gs_ao β η nf9 a9 p9)) = (gs_X β η p_12) := (by first | (exfalso; exact gz_m 46 (by omega)) | (rw [e8]; unfold gs_fo; (repeat first | rw [if_pos (by exact gz_m 47 (by omega))] | rw [if_neg (by exact gz_m 48 (by omega))]))); rw [e9]; exact ⟨by exact gz_m 49 (by omega), A80, by exact gz_m 50 (by omega)⟩⟩)⟩⟩
        · show gv_X _ _ (73, [(0, .inr (.inr (some 39))), (1, .inr (.inr (some a1))), (2, .inl v2_12), (3, .inl v3_12)], [], sh, gc_h sh I25 J11 A)
          have u81 := gs_or0 q24.2.2.2 (by exact gz_m 51 (by omega))
          have L24 : gs_T β η p_12 = 1 → gc_fd (J11 ((t + 1) + 1)) (gs_M β η p_12) (Int.toNat (I10 (t + 1) 1)) = gs_lt Jr 20 (8 * Ir 0 6) (Ir 13 (Int.toNat (Ir 0 6))) (gs_rn β η p_12) := (fun h => by rw [show I10 (t + 1) 1 = I (t + 1) 1 from ((FI10 (t + 1) 1).resolve_left (by exact gz_m 52 (by omega))), show J11 ((t + 1) + 1) = J ((t + 1) + 1) from funext fun j => ((FJ11 (t + 2) j).resolve_left (by exact gz_m 53 (by omega)))]; exact gs_NA_lt x6 x5 h)
          refine gv_run 1 true hD (pc' := 74) (lv' := [(0, .inr (.inr (some 39))), (1, .inr (.inr (some a1))), (2, .inl v2_12), (3, .inl v3_12)]) (st' := [.inl 0]) (h' := gc_h sh I25 J11 A) (C := (True ∧ True)) rfl ⟨trivial, trivial⟩ ?_
          exact gv_zret hD rfl (by exact gz_m 54 (by omega)) ⟨I25, J11, rfl, hI25, FI25, FJ11, KLT_I25, KTK_I25, ⟨_, rfl, by exact gz_m 55 (by omega), by exact gz_m 56 (by omega), by exact gz_m 57 (by omega), by exact gz_m 58 (by omega), by exact gz_m 59 (by omega), (Or.inr ⟨by exact gz_m 60 (by omega), by first | (exfalso; exact gz_m 61 (by omega)) | (have e8 : (gs_sa1 β η Ir Jr nf9 a9 (gs_ao β η nf9 a9 p9)) = gs_fo β η Ir Jr p_12 := (e4_12.elim (fun h => absurd h.1 (by exact gz_m 62 (by omega))) (fun h => h.elim (fun h => absurd h.1 (by exact gz_m 63 (by omega))) (fun h => h.2))); rw [e8]; unfold gs_fo; by_cases c9 : gs_T β η p_12 = 1; (have h9 := L24 c9; (repeat first | rw [if_pos (by exact gz_m 64 (by omega))] | rw [if_neg (by exact gz_m 65 (by omega))]); exact ⟨by exact gz_m 66 (by omega), by exact gz_m 67 (by omega)⟩); (repeat first | rw [if_pos (by exact gz_m 68 (by omega))] | rw [if_neg (by exact gz_m 69 (by omega))]); exact ⟨by exact gz_m 70 (by omega), by exact gz_m 71 (by omega)⟩)⟩)⟩⟩
      · show gv_X _ _ (14, [(0, .inr (.inr (some 39))), (1, .inr (.inr (some a1))), (2, .inl v2_12), (3, .inl v3_12)], [], sh, gc_h sh I10 J11 A)
        refine gv_run 2 true hD (pc' := 16) (lv' := [(0, .inr (.inr (some 39))), (1, .inr (.inr (some a1))), (2, .inl v2_12), (3, .inl v3_12)]) (st' := [.inr (.inr (some a1)), .inr (.inr (some 39))]) (h' := gc_h sh I10 J11 A) (C := ((True ∧ True) ∧ True)) rfl ⟨⟨trivial, trivial⟩, trivial⟩ ?_
        obtain ⟨r82, h82, E82, P82⟩ := d_X6_needArgument_p (ws0 := ws0) (tb := tb) hws htb sh ro I10 J11 A hI10  β η p_12 nf9 a9 a1 hb h_a1 G_a1   e3_12 (by exact gz_m 72 (by omega)) (gs_SO_fr x3 (fun k => ((FI10 (a1 + 6) k).resolve_left (by exact gz_m 73 (by omega))))) (by exact gz_m 74 (by omega)) 
        obtain ⟨I83, J84, rfl, hI83, g82, k82, ⟨z82, rfl, q82⟩⟩ := P82
        have FI83 := gc_frc (W := fun q j => (q = 39 ∧ j = 3) ∨ (q = 39 ∧ j = 4) ∨ (q = 23 ∧ j = 5) ∨ (q = 23 ∧ j = 6) ∨ (q = 23 ∧ j = 7) ∨ (q = 23 ∧ j = 8) ∨ q = (a1 + 7) ∨ (q = a1 ∧ j = 12)) (V := fun q j => (q = 39 ∧ j = 3) ∨ (q = 39 ∧ j = 4)) FI10 (fun q j h => (h.elim (fun h => (Or.inl h)) (fun h => (Or.inr (Or.inl h))))) g82
        have t85 := (g82 23 1).resolve_left (fun h => h.elim (fun h => absurd h.2 (gz_ne rfl)) (fun h => absurd h.2 (gz_ne rfl)))
        have t86 := (g82 23 5).resolve_left (fun h => h.elim (fun h => absurd h.2 (gz_ne rfl)) (fun h => absurd h.2 (gz_ne rfl)))
        have t87 := (g82 23 6).resolve_left (fun h => h.elim (fun h => absurd h.2 (gz_ne rfl)) (fun h => absurd h.2 (gz_ne rfl)))
        have t88 := (g82 23 7).resolve_left (fun h => h.elim (fun h => absurd h.2 (gz_ne rfl)) (fun h => absurd h.2 (gz_ne rfl)))
        have t89 := (g82 a1 12).resolve_left (fun h => h.elim (fun h => absurd h.2 (gz_ne rfl)) (fun h => absurd h.2 (gz_ne rfl)))
        have t90 := (g82 23 8).resolve_left (fun h => h.elim (fun h => absurd h.2 (gz_ne rfl)) (fun h => absurd h.2 (gz_ne rfl)))
        have t91 := (g82 (t + 1) 1).resolve_left (fun h => h.elim (fun h => absurd h.2 (gz_ne rfl)) (fun h => absurd h.2 (gz_ne rfl)))
        have t92 := (g82 39 2).resolve_left (fun h => h.elim (fun h => absurd h.2 (gz_ne rfl)) (fun h => absurd h.2 (gz_ne rfl)))
        obtain rfl : J11 = J84 := funext fun q => funext fun j => ((k82 q j).resolve_left id).symm
        have KLT_I83 := gc_LT_fr KLT_I10 ((g82 23 5).resolve_left (fun h => h.elim (fun h => absurd h.2 (gz_ne rfl)) (fun h => absurd h.2 (gz_ne rfl)))) ((g82 23 6).resolve_left (fun h => h.elim (fun h => absurd h.2 (gz_ne rfl)) (fun h => absurd h.2 (gz_ne rfl)))) ((g82 23 7).resolve_left (fun h => h.elim (fun h => absurd h.2 (gz_ne rfl)) (fun h => absurd h.2 (gz_ne rfl)))) (fun k => (g82 24 k).resolve_left (fun h => h.elim (fun h => absurd h.1 (gz_ne rfl)) (fun h => absurd h.1 (gz_ne rfl))))
        have KTK_I83 := gc_TK_fr KTK_I10 ((g82 23 1).resolve_left (fun h => h.elim (fun h => absurd h.2 (gz_ne rfl)) (fun h => absurd h.2 (gz_ne rfl)))) ((g82 23 5).resolve_left (fun h => h.elim (fun h => absurd h.2 (gz_ne rfl)) (fun h => absurd h.2 (gz_ne rfl)))) ((g82 23 6).resolve_left (fun h => h.elim (fun h => absurd h.2 (gz_ne rfl)) (fun h => absurd h.2 (gz_ne rfl)))) ((g82 23 7).resolve_left (fun h => h.elim (fun h => absurd h.2 (gz_ne rfl)) (fun h => absurd h.2 (gz_ne rfl))))
        have A93 := gc_AT_I e3_12 ((g82 23 1).resolve_left (fun h => h.elim (fun h => absurd h.2 (gz_ne rfl)) (fun h => absurd h.2 (gz_ne rfl)))) ((g82 23 5).resolve_left (fun h => h.elim (fun h => absurd h.2 (gz_ne rfl)) (fun h => absurd h.2 (gz_ne rfl)))) ((g82 23 6).resolve_left (fun h => h.elim (fun h => absurd h.2 (gz_ne rfl)) (fun h => absurd h.2 (gz_ne rfl)))) ((g82 23 7).resolve_left (fun h => h.elim (fun h => absurd h.2 (gz_ne rfl)) (fun h => absurd h.2 (gz_ne rfl)))) ((g82 23 8).resolve_left (fun h => h.elim (fun h => absurd h.2 (gz_ne rfl)) (fun h => absurd h.2 (gz_ne rfl)))) (fun k => (g82 24 k).resolve_left (fun h => h.elim (fun h => absurd h.1 (gz_ne rfl)) (fun h => absurd h.1 (gz_ne rfl))))
        have t94 := gc_AT_l A93
        refine gv_callV hD rfl (As := [.inr (.inr (some a1))]) (st := []) rfl B_39 S_39 rfl (gc_lV6 hws rfl) (Nat.le_of_ble_eq_true rfl) (gz_Ev_mono (d := 3) (by decide) E82) ?_
        show gv_X _ _ (19, [(0, .inr (.inr (some 39))), (1, .inr (.inr (some a1))), (2, .inl v2_12), (3, .inl v3_12)], [.inl z82], sh, gc_h sh I83 J11 A)
        refine gv_if_ne (t := 24) hD rfl rfl ⟨by exact gz_m 75 (by omega), by exact gz_m 76 (by omega)⟩ (fun c95 => ?_) (fun c95 => ?_)
        · show gv_X _ _ (24, [(0, .inr (.inr (some 39))), (1, .inr (.inr (some a1))), (2, .inl v2_12), (3, .inl v3_12)], [], sh, gc_h sh I83 J11 A)
          have u96 := gs_or1 q82.2.2.2 (by exact gz_m 77 (by omega))
          refine gv_run 1 true hD (pc' := 25) (lv' := [(0, .inr (.inr (some 39))), (1, .inr (.inr (some a1))), (2, .inl v2_12), (3, .inl v3_12)]) (st' := [.inr (.inr (some a1))]) (h' := gc_h sh I83 J11 A) (C := (True ∧ True)) rfl ⟨trivial, trivial⟩ ?_
          refine gv_get hD rfl rfl S_a1 ⟨by decide, B_a1⟩ (gc_hA S_a1 rfl A_a1_13) ?_
          show gv_X _ _ (28, [(0, .inr (.inr (some 39))), (1, .inr (.inr (some a1))), (2, .inl v2_12), (3, .inl v3_12)], [.inr (.inr (some (a1 + 7)))], sh, gc_h sh I83 J11 A)
          refine gv_run 4 true hD (pc' := 32) (lv' := [(0, .inr (.inr (some 39))), (1, .inr (.inr (some a1))), (2, .inl v2_12), (3, .inl v3_12)]) (st' := [.inr (.inr (some a1)), .inl (v2_12 + v3_12), .inr (.inr (some (a1 + 7)))]) (h' := gc_h sh I83 J11 A) (C := ((((True ∧ True) ∧ True) ∧ True) ∧ True)) rfl ⟨⟨⟨⟨trivial, trivial⟩, trivial⟩, trivial⟩, trivial⟩ ?_
          refine gv_get hD rfl rfl S_a1 ⟨by decide, B_a1⟩ (gc_hA S_a1 rfl A_a1_11) ?_
          show gv_X _ _ (35, [(0, .inr (.inr (some 39))), (1, .inr (.inr (some a1))), (2, .inl v2_12), (3, .inl v3_12)], [.inr (.inr (some (a1 + 6))), .inl (v2_12 + v3_12), .inr (.inr (some (a1 + 7)))], sh, gc_h sh I83 J11 A)
          refine gv_run 1 true hD (pc' := 36) (lv' := [(0, .inr (.inr (some 39))), (1, .inr (.inr (some a1))), (2, .inl v2_12), (3, .inl v3_12)]) (st' := [.inr (.inr (some 39)), .inr (.inr (some (a1 + 6))), .inl (v2_12 + v3_12), .inr (.inr (some (a1 + 7)))]) (h' := gc_h sh I83 J11 A) (C := (True ∧ True)) rfl ⟨trivial, trivial⟩ ?_
          refine gv_get hD rfl rfl S_39 ⟨by decide, B_39⟩ (gc_hA S_39 rfl A_39_1) ?_
          show gv_X _ _ (39, [(0, .inr (.inr (some 39))), (1, .inr (.inr (some a1))), (2, .inl v2_12), (3, .inl v3_12)], [.inr (.inr (some 23)), .inr (.inr (some (a1 + 6))), .inl (v2_12 + v3_12), .inr (.inr (some (a1 + 7)))], sh, gc_h sh I83 J11 A)
          have f97 := (gc_b_3_8 hI83 R_23)
          refine gv_get hD rfl rfl S_23 ⟨by decide, B_23⟩ (gc_hI S_23 rfl) ?_
          show gv_X _ _ (42, [(0, .inr (.inr (some 39))), (1, .inr (.inr (some a1))), (2, .inl v2_12), (3, .inl v3_12)], [.inl (I83 23 8), .inr (.inr (some (a1 + 6))), .inl (v2_12 + v3_12), .inr (.inr (some (a1 + 7)))], sh, gc_h sh I83 J11 A)
          refine gv_run 2 true hD (pc' := 44) (lv' := [(0, .inr (.inr (some 39))), (1, .inr (.inr (some a1))), (2, .inl v2_12), (3, .inl v3_12)]) (st' := [.inl ((I83 23 8) - 1), .inr (.inr (some (a1 + 6))), .inl (v2_12 + v3_12), .inr (.inr (some (a1 + 7)))]) (h' := gc_h sh I83 J11 A) (C := ((True ∧ True) ∧ True)) rfl ⟨⟨trivial, trivial⟩, trivial⟩ ?_
          have f98 := (show (-1) ≤ I83 (a1 + 6) (Int.toNat (((I83 23 8) - 1))) ∧ I83 (a1 + 6) (Int.toNat (((I83 23 8) - 1))) ≤ 3 from gc_in2 hI83 R_a1_6 rfl rfl rfl)
          refine gv_iald hD rfl S_a1_6 rfl ⟨by decide, B_a1_6⟩ ⟨by exact gz_m 78 (by omega), by exact gz_m 79 (by omega)⟩ (gc_iI S_a1_6 rfl) ?_
          show gv_X _ _ (45, [(0, .inr (.inr (some 39))), (1, .inr (.inr (some a1))), (2, .inl v2_12), (3, .inl v3_12)], [.inl (I83 (a1 + 6) (Int.toNat (((I83 23 8) - 1)))), .inl (v2_12 + v3_12), .inr (.inr (some (a1 + 7)))], sh, gc_h sh I83 J11 A)
          refine gv_iast hD rfl S_a1_7 ⟨by decide, B_a1_7⟩ ⟨by exact gz_m 80 (by omega), by exact gz_m 81 (by omega)⟩ ?_
          refine gc_st hI83 S_a1_7 rfl R_a1_7 (lo := 0) (hi := 3) ((show (Int.toNat (v2_12 + v3_12)) % 3 = 0 ∨ (Int.toNat (v2_12 + v3_12)) % 3 = 1 from by exact gz_m 82 (by omega)).elim (fun h => gc_lom rfl h rfl) (fun h => gc_lom rfl h rfl)) ((show (Int.toNat (v2_12 + v3_12)) % 3 = 0 ∨ (Int.toNat (v2_12 + v3_12)) % 3 = 1 from by exact gz_m 83 (by omega)).elim (fun h => gc_him rfl h rfl) (fun h => gc_him rfl h rfl)) (by exact gz_m 84 (by omega)) (by exact gz_m 85 (by omega)) (fun I99 hI99 q100 p100 => ?_)
          have FI99 := gc_frs (W := fun q j => (q = 39 ∧ j = 3) ∨ (q = 39 ∧ j = 4) ∨ (q = 23 ∧ j = 5) ∨ (q = 23 ∧ j = 6) ∨ (q = 23 ∧ j = 7) ∨ (q = 23 ∧ j = 8) ∨ q = (a1 + 7) ∨ (q = a1 ∧ j = 12)) FI83 (Or.inr (Or.inr (Or.inr (Or.inr (Or.inr (Or.inr (Or.inl rfl))))))) p100
          have t101 := p100 23 1 (fun h => absurd h.1 N_23__a1_7)
          have t102 := p100 23 5 (fun h => absurd h.1 N_23__a1_7)
          have t103 := p100 23 6 (fun h => absurd h.1 N_23__a1_7)
          have t104 := p100 23 7 (fun h => absurd h.1 N_23__a1_7)
          have t105 := p100 a1 12 (fun h => absurd h.1 N_a1__a1_7)
          have t106 := p100 23 8 (fun h => absurd h.1 N_23__a1_7)
          have t107 := p100 (t + 1) 1 (fun h => absurd h.1 N_t_1__a1_7)
          have t108 := p100 39 2 (fun h => absurd h.1 N_39__a1_7)
          have KLT_I99 := gc_LT_fr KLT_I83 (p100 23 5 (fun h => absurd h.1 N_23__a1_7)) (p100 23 6 (fun h => absurd h.1 N_23__a1_7)) (p100 23 7 (fun h => absurd h.1 N_23__a1_7)) (fun k => p100 24 k (fun h => absurd h.1 N_24__a1_7))
          have KTK_I99 := gc_TK_fr KTK_I83 (p100 23 1 (fun h => absurd h.1 N_23__a1_7)) (p100 23 5 (fun h => absurd h.1 N_23__a1_7)) (p100 23 6 (fun h => absurd h.1 N_23__a1_7)) (p100 23 7 (fun h => absurd h.1 N_23__a1_7))
          have A109 := gc_AT_I A93 (p100 23 1 (fun h => absurd h.1 N_23__a1_7)) (p100 23 5 (fun h => absurd h.1 N_23__a1_7)) (p100 23 6 (fun h => absurd h.1 N_23__a1_7)) (p100 23 7 (fun h => absurd h.1 N_23__a1_7)) (p100 23 8 (fun h => absurd h.1 N_23__a1_7)) (fun k => p100 24 k (fun h => absurd h.1 N_24__a1_7))
          show gv_X _ _ (46, [(0, .inr (.inr (some 39))), (1, .inr (.inr (some a1))), (2, .inl v2_12), (3, .inl v3_12)], [], sh, gc_h sh I99 J11 A)
          refine gv_run 1 true hD (pc' := 47) (lv' := [(0, .inr (.inr (some 39))), (1, .inr (.inr (some a1))), (2, .inl v2_12), (3, .inl v3_12)]) (st' := [.inr (.inr (some 39))]) (h' := gc_h sh I99 J11 A) (C := (True ∧ True)) rfl ⟨trivial, trivial⟩ ?_
          refine gv_get hD rfl rfl S_39 ⟨by decide, B_39⟩ (gc_hA S_39 rfl A_39_1) ?_
          show gv_X _ _ (50, [(0, .inr (.inr (some 39))), (1, .inr (.inr (some a1))), (2, .inl v2_12), (3, .inl v3_12)], [.inr (.inr (some 23))], sh, gc_h sh I99 J11 A)
          have t111 := gc_TK_nx KTK_I99 (by exact gz_m 86 (by omega))
          obtain ⟨r110, h110, E110, P110⟩ := d_X9_advance_p (ws0 := ws0) (tb := tb) hws htb sh ro I99 J11 A hI99 23 β η  (gc_b23 hb)    (by exact gz_m 87 (by omega)) A109.1.1 A109.1.2 
          obtain ⟨I112, J113, rfl, hI112, g110, k110, ⟨rfl, V110_0, V110_1, V110_2, V110_3, V110_4, q110⟩⟩ := P110
          have FI112 := gc_frc (W := fun q j => (q = 39 ∧ j = 3) ∨ (q = 39 ∧ j = 4) ∨ (q = 23 ∧ j = 5) ∨ (q = 23 ∧ j = 6) ∨ (q = 23 ∧ j = 7) ∨ (q = 23 ∧ j = 8) ∨ q = (a1 + 7) ∨ (q = a1 ∧ j = 12)) (V := fun q j => (q = 23 ∧ j = 5) ∨ (q = 23 ∧ j = 6) ∨ (q = 23 ∧ j = 7) ∨ (q = 23 ∧ j = 8)) FI99 (fun q j h => (h.elim (fun h => (Or.inr (Or.inr (Or.inl h)))) (fun h => (h.elim (fun h => (Or.inr (Or.inr (Or.inr (Or.inl h))))) (fun h => (h.elim (fun h => (Or.inr (Or.inr (Or.inr (Or.inr (Or.inl h)))))) (fun h => (Or.inr (Or.inr (Or.inr (Or.inr (Or.inr (Or.inl h))))))))))))) g110
          have FJ113 := gc_frc (W := fun q j => (q = 23 ∧ j = 9)) (V := fun q j => (q = 23 ∧ j = 9)) FJ11 (fun q j h => h) k110
          have t114 := (g110 23 1).resolve_left (fun h => h.elim (fun h => absurd h.2 (gz_ne rfl)) (fun h => h.elim (fun h => absurd h.2 (gz_ne rfl)) (fun h => h.elim (fun h => absurd h.2 (gz_ne rfl)) (fun h => absurd h.2 (gz_ne rfl)))))
          have t115 := (g110 a1 12).resolve_left (fun h => h.elim (fun h => absurd h.2 (gz_ne rfl)) (fun h => h.elim (fun h => absurd h.2 (gz_ne rfl)) (fun h => h.elim (fun h => absurd h.2 (gz_ne rfl)) (fun h => absurd h.2 (gz_ne rfl)))))
          have t116 := (g110 (t + 1) 1).resolve_left (fun h => h.elim (fun h => absurd h.2 (gz_ne rfl)) (fun h => h.elim (fun h => absurd h.2 (gz_ne rfl)) (fun h => h.elim (fun h => absurd h.2 (gz_ne rfl)) (fun h => absurd h.2 (gz_ne rfl)))))
          have t117 := (g110 39 2).resolve_left (fun h => h.elim (fun h => absurd h.2 (gz_ne rfl)) (fun h => h.elim (fun h => absurd h.2 (gz_ne rfl)) (fun h => h.elim (fun h => absurd h.2 (gz_ne rfl)) (fun h => absurd h.2 (gz_ne rfl)))))
          have f118 := (gc_b_3_5 hI112 R_23)
          have f119 := (gc_b_3_6 hI112 R_23)
          have f120 := (gc_b_3_7 hI112 R_23)
          have f121 := (gc_b_3_8 hI112 R_23)
          have KLT_I112 : gc_LT I112 := q110.2.2.1
          have KTK_I112 : gc_TK I112 := And.intro V110_0 (And.intro V110_1 (And.intro V110_2 (And.intro V110_3 V110_4)))
          have t122 := gc_TK_mo KTK_I112
          clear V110_0 V110_1 V110_2 V110_3 V110_4
          have A123 := gc_AT_nx A109 q110.2.2.2
          have t124 := gc_AT_l A123
          refine gv_callV hD rfl (As := []) (st := []) rfl B_23 S_23 rfl (gc_lV6 hws rfl) (Nat.le_of_ble_eq_true rfl) (gz_Ev_mono (d := 2) (by decide) E110) ?_
          show gv_X _ _ (53, [(0, .inr (.inr (some 39))), (1, .inr (.inr (some a1))), (2, .inl v2_12), (3, .inl v3_12)], [], sh, gc_h sh I112 J113 A)
          refine gv_run 2 true hD (pc' := 9) (lv' := [(3, .inl (v3_12 + 1)), (0, .inr (.inr (some 39))), (1, .inr (.inr (some a1))), (2, .inl v2_12)]) (st' := []) (h' := gc_h sh I112 J113 A) (C := ((True ∧ True) ∧ True)) rfl ⟨⟨trivial, trivial⟩, trivial⟩ ?_
          refine gv_pick [1, 2, 3, 0] rfl ?_
          exact ih9 I112 J113 v2_12 (v3_12 + 1) (gs_X β η p_12) (by exact gz_m 88 (by omega)) hI112 FI112 FJ113 KLT_I112 KTK_I112 (by exact gz_m 89 (by omega)) A123 (e4_12.elim (fun h => Or.inr (Or.inl ⟨by have h9 := h.1; exact gz_m 90 (by omega), h.2.trans (by rw [u96]; unfold gs_sa1; (repeat first | rw [if_pos (by exact gz_m 91 (by omega))] | rw [if_neg (by exact gz_m 92 (by omega))]))⟩)) (fun h => h.elim (fun h => Or.inr (Or.inr ⟨by have h9 := h.1; exact gz_m 93 (by omega), h.2.trans (by rw [u96]; unfold gs_sa2; (repeat first | rw [if_pos (by exact gz_m 94 (by omega))] | rw [if_neg (by exact gz_m 95 (by omega))]))⟩)) (fun h => absurd h.1 (by exact gz_m 96 (by omega)))))
        · show gv_X _ _ (22, [(0, .inr (.inr (some 39))), (1, .inr (.inr (some a1))), (2, .inl v2_12), (3, .inl v3_12)], [], sh, gc_h sh I83 J11 A)
          have u125 := gs_or0 q82.2.2.2 (by exact gz_m 97 (by omega))
          refine gv_run 1 true hD (pc' := 23) (lv' := [(0, .inr (.inr (some 39))), (1, .inr (.inr (some a1))), (2, .inl v2_12), (3, .inl v3_12)]) (st' := [.inl 0]) (h' := gc_h sh I83 J11 A) (C := (True ∧ True)) rfl ⟨trivial, trivial⟩ ?_
          exact gv_zret hD rfl (by exact gz_m 98 (by omega)) ⟨I83, J11, rfl, hI83, FI83, FJ11, KLT_I83, KTK_I83, ⟨_, rfl, by exact gz_m 99 (by omega), by exact gz_m 100 (by omega), by exact gz_m 101 (by omega), by exact gz_m 102 (by omega), by exact gz_m 103 (by omega), (Or.inr ⟨by exact gz_m 104 (by omega), by have e9 : (gs_sa1 β η Ir Jr nf9 a9 (gs_ao β η nf9 a9 p9)) = -1 - gs_A β η p_12 := (e4_12.elim (fun h => h.2.trans (by rw [u125.1]; unfold gs_sa1; (repeat first | rw [if_pos (by exact gz_m 105 (by omega))] | rw [if_neg (by exact gz_m 106 (by omega))]))) (fun h => h.elim (fun h => h.2.trans (by rw [u125.1]; unfold gs_sa2; (repeat first | rw [if_pos (by exact gz_m 107 (by omega))] | rw [if_neg (by exact gz_m 108 (by omega))]))) (fun h => absurd h.1 (by exact gz_m 109 (by omega))))); rw [e9]; exact ⟨by exact gz_m 110 (by omega), by exact gz_m 111 (by omega)⟩⟩)⟩⟩
  refine gv_run 2 true hD (pc' := 2) (lv' := [(0, .inr (.inr (some 39))), (1, .inr (.inr (some a1)))]) (st' := [.inr (.inr (some a1)), .inl 3]) (h' := gc_h sh I J A) (C := ((True ∧ True) ∧ True)) rfl ⟨⟨trivial, trivial⟩, trivial⟩ ?_
  have f126 := (show 0 ≤ I a1 12 ∧ I a1 12 ≤ 6 from gc_in2 hI R_a1 rfl rfl rfl)
  refine gv_get hD rfl rfl S_a1 ⟨by decide, B_a1⟩ (gc_hI S_a1 rfl) ?_
  show gv_X _ _ (5, [(0, .inr (.inr (some 39))), (1, .inr (.inr (some a1)))], [.inl (I a1 12), .inl 3], sh, gc_h sh I J A)
  refine gv_run 4 true hD (pc' := 9) (lv' := [(3, .inl 0), (2, .inl (3 * (I a1 12))), (0, .inr (.inr (some 39))), (1, .inr (.inr (some a1)))]) (st' := []) (h' := gc_h sh I J A) (C := ((((True ∧ True) ∧ True) ∧ True) ∧ True)) rfl ⟨⟨⟨⟨trivial, trivial⟩, trivial⟩, trivial⟩, trivial⟩ ?_
  refine gv_pick [2, 3, 1, 0] rfl ?_
  exact L9 _ I J ((3 * (I a1 12))) 0 p9 (Nat.lt_succ_self _) hI FI FJ KLT_I KTK_I (by exact gz_m 112 (by omega)) x1 (Or.inl ⟨rfl, rfl⟩)
set_option maxHeartbeats 8000000 in
set_option maxRecDepth 100000 in
theorem d_X6_readGive_p {ws0 : List Cond} {tb : String → gz_T} (hws : gc_Ws ws0) (htb : gc_tbs tb) (sh : gz_Sh) (ro : Nat → Nat) (I : gr_I) (J : gr_J) (A : gc_A) (hI : gc_Inv ro I) (t : Nat) (β : Int → Int) (η : Int) (p9 : Int) (Ir : gr_I) (Jr : gr_J) (nf9 : Int) (a9 : Nat → Int) (a1 : Nat) (hb : gc_Base sh ro A) (h_a1 : gc_isLin sh ro A a1) (G_a1 : 144 ≤ a1) (h_t : gc_isTongue sh ro A t) (G_t : 144 ≤ t)  (x0 : I a1 14 ≤ 5) (x1 : gc_AT β η p9 23 I J) (x2 : 0 ≤ p9) (x3 : gs_SO I a1 nf9 a9) (x4 : nf9 ≤ 4) (x5 : I (t + 1) 1 = Ir 13 (Int.toNat (Ir 0 6))) (x6 : gs_NA (I (t + 1) 1) (J (t + 2)) (fun k => Jr 20 (Int.toNat (8 * Ir 0 6 + (k : Int))))) (x7 : I (t + 3) 1 = Ir 14 (Int.toNat (Ir 0 6))) (x8 : gs_NA (I (t + 3) 1) (J (t + 4)) (fun k => Jr 21 (Int.toNat (48 * Ir 0 6 + (k : Int))))) (x9 : I 39 2 = (t : Int)) (KLT_I : gc_LT I) (KTK_I : gc_TK I) : ∃ r h', gz_Ev ws0 tb 4 (yX6_readGive, cX6_readGive, 4, (some .boolean)) [.inr (.inr (some 39)), .inr (.inr (some a1))] sh (gc_h sh I J A) r sh h' 0 0 ∧ (∃ (I' : gr_I) (J' : gr_J), h' = gc_h sh I' J' A ∧ gc_Inv ro I' ∧ (∀ q j : Nat, ((q = 39 ∧ j = 3) ∨ (q = 39 ∧ j = 4) ∨ (q = 23 ∧ j = 5) ∨ (q = 23 ∧ j = 6) ∨ (q = 23 ∧ j = 7) ∨ (q = 23 ∧ j = 8) ∨ q = (a1 + 8) ∨ (q = a1 ∧ j = 14)) ∨ I' q j = I q j) ∧ (∀ q j : Nat, ((q = 23 ∧ j = 9)) ∨ J' q j = J q j) ∧ gc_LT I' ∧ gc_TK I' ∧ (∃ z : Int, r = some (.inl z) ∧ 0 ≤ z ∧ z ≤ 1 ∧ (I' 23 1 = I 23 1) ∧ (I 23 5 ≤ I' 23 5) ∧ (I' a1 14 ≤ I a1 14 + 1) ∧ (gs_Or z (0 ≤ (gs_sg β η Ir Jr nf9 a9 p9) ∧ gc_AT β η (gs_sg β η Ir Jr nf9 a9 p9) 23 I' J' ∧ I' a1 14 = I a1 14 + 1) ((gs_sg β η Ir Jr nf9 a9 p9) < 0 ∧ I' 39 4 = -1 - (gs_sg β η Ir Jr nf9 a9 p9))))) := by
  have FI : ∀ q j : Nat, ((q = 39 ∧ j = 3) ∨ (q = 39 ∧ j = 4) ∨ (q = 23 ∧ j = 5) ∨ (q = 23 ∧ j = 6) ∨ (q = 23 ∧ j = 7) ∨ (q = 23 ∧ j = 8) ∨ q = (a1 + 8) ∨ (q = a1 ∧ j = 14)) ∨ I q j = I q j := fun _ _ => Or.inr rfl
  have FJ : ∀ q j : Nat, ((q = 23 ∧ j = 9)) ∨ J q j = J q j := fun _ _ => Or.inr rfl
  have A_39_1 : A 39 1 = some 23 := gc_bA_39_1 hb
  have B_23 : 23 < 1000000 := by decide
  have B_39 : 39 < 1000000 := by decide
  have R_23 : ro 23 = 3 := gc_bR_23 hb
  have R_39 : ro 39 = 42 := gc_bR_39 hb
  have S_23 : sh[23]? = some (false, 9, 10) := gc_bS_23 hb
  have S_39 : sh[39]? = some (false, 6, 19) := gc_bS_39 hb
  obtain ⟨S_a1, R_a1, B_a1, A_a1_5, S_a1_1, R_a1_1, B_a1_1, A_a1_6, S_a1_2, R_a1_2, B_a1_2, A_a1_7, S_a1_3, R_a1_3, B_a1_3, A_a1_9, S_a1_4, R_a1_4, B_a1_4, A_a1_10, S_a1_5, R_a1_5, B_a1_5, A_a1_11, S_a1_6, R_a1_6, B_a1_6, A_a1_13, S_a1_7, R_a1_7, B_a1_7, A_a1_15, S_a1_8, R_a1_8, B_a1_8⟩ := id h_a1
  obtain ⟨S_t, R_t, B_t, A_t_0, h_t_1, A_t_1, h_t_3, A_t_2, S_t_5, R_t_5, B_t_5, A_t_3, S_t_6, R_t_6, B_t_6, A_t_4, h_t_7, A_t_5, S_t_9, R_t_9, B_t_9, A_t_7, S_t_10, R_t_10, B_t_10, A_t_8, h_t_11, A_t_9, S_t_13, R_t_13, B_t_13, A_t_10, S_t_14, R_t_14, B_t_14, A_t_12, S_t_15, R_t_15, B_t_15, A_t_14, S_t_16, R_t_16, B_t_16, A_t_15, h_t_17⟩ := id h_t
  obtain ⟨S_t_1, R_t_1, B_t_1, A_t_1_0, S_t_1_1, R_t_1_1, B_t_1_1, Q0_t_1, Q1_t_1, Q2_t_1⟩ := id h_t_1
  obtain ⟨S_t_3, R_t_3, B_t_3, A_t_3_0, S_t_3_1, R_t_3_1, B_t_3_1, Q0_t_3, Q1_t_3, Q2_t_3⟩ := id h_t_3
  obtain ⟨S_t_7, R_t_7, B_t_7, A_t_7_0, S_t_7_1, R_t_7_1, B_t_7_1, Q0_t_7, Q1_t_7, Q2_t_7⟩ := id h_t_7
  obtain ⟨S_t_11, R_t_11, B_t_11, A_t_11_0, S_t_11_1, R_t_11_1, B_t_11_1, Q0_t_11, Q1_t_11, Q2_t_11⟩ := id h_t_11
  obtain ⟨S_t_17, R_t_17, B_t_17, A_t_17_0, S_20, R_20, B_20, A_t_17_1, S_t_17_1, R_t_17_1, B_t_17_1, A_t_17_2, S_t_17_2, R_t_17_2, B_t_17_2, A_t_17_3, S_t_17_3, R_t_17_3, B_t_17_3, A_t_17_4, S_t_17_4, R_t_17_4, B_t_17_4, A_t_17_5, S_t_17_5, R_t_17_5, B_t_17_5, S_t_17_6, R_t_17_6, B_t_17_6, S_t_17_7, R_t_17_7, B_t_17_7⟩ := id h_t_17
  have N1 := gc_dj_LT h_a1 h_t
  have hD : gv_D (gc_E6 ws0 tb 3 (yX6_readGive, cX6_readGive, 4, (some .boolean)) kX6_readGive) := gq_of oX6_readGive
  refine gc_ev6 (d := 3) (l := kX6_readGive) (Po := fun r h' => (∃ (I' : gr_I) (J' : gr_J), h' = gc_h sh I' J' A ∧ gc_Inv ro I' ∧ (∀ q j : Nat, ((q = 39 ∧ j = 3) ∨ (q = 39 ∧ j = 4) ∨ (q = 23 ∧ j = 5) ∨ (q = 23 ∧ j = 6) ∨ (q = 23 ∧ j = 7) ∨ (q = 23 ∧ j = 8) ∨ q = (a1 + 8) ∨ (q = a1 ∧ j = 14)) ∨ I' q j = I q j) ∧ (∀ q j : Nat, ((q = 23 ∧ j = 9)) ∨ J' q j = J q j) ∧ gc_LT I' ∧ gc_TK I' ∧ (∃ z : Int, r = some (.inl z) ∧ 0 ≤ z ∧ z ≤ 1 ∧ (I' 23 1 = I 23 1) ∧ (I 23 5 ≤ I' 23 5) ∧ (I' a1 14 ≤ I a1 14 + 1) ∧ (gs_Or z (0 ≤ (gs_sg β η Ir Jr nf9 a9 p9) ∧ gc_AT β η (gs_sg β η Ir Jr nf9 a9 p9) 23 I' J' ∧ I' a1 14 = I a1 14 + 1) ((gs_sg β η Ir Jr nf9 a9 p9) < 0 ∧ I' 39 4 = -1 - (gs_sg β η Ir Jr nf9 a9 p9)))))) htb rfl (Nat.le_of_ble_eq_true rfl) ?_
  have N_23__a1_8 : ¬ (23 = (a1 + 8)) := by exact gz_m 0 (by omega)
  have N_a1__a1_8 : ¬ (a1 = (a1 + 8)) := by exact gz_m 1 (by omega)
  have N_t_1__a1_8 : ¬ ((t + 1) = (a1 + 8)) := by exact gz_m 2 (by omega)
  have N_t_3__a1_8 : ¬ ((t + 3) = (a1 + 8)) := by exact gz_m 3 (by omega)
  have N_39__a1_8 : ¬ (39 = (a1 + 8)) := by exact gz_m 4 (by omega)
  have N_24__a1_8 : ¬ (24 = (a1 + 8)) := by exact gz_m 5 (by omega)
  have N_24__a1 : ¬ (24 = a1) := by exact gz_m 6 (by omega)
  have t1 := gc_TK_mo KTK_I
  have f2 := (gc_b_3_1 hI R_23)
  have f3 := (gc_b_3_5 hI R_23)
  have f4 := (gc_b_3_6 hI R_23)
  have f5 := (gc_b_3_7 hI R_23)
  have f6 := (show 0 ≤ I a1 14 ∧ I a1 14 ≤ 6 from gc_in2 hI R_a1 rfl rfl rfl)
  have f7 := (gc_b_3_8 hI R_23)
  have f8 := (show 0 ≤ I (t + 1) 1 ∧ I (t + 1) 1 ≤ 8 from gc_in2 hI R_t_1 rfl rfl rfl)
  have f9 := (show 0 ≤ I (t + 3) 1 ∧ I (t + 3) 1 ≤ 48 from gc_in2 hI R_t_3 rfl rfl rfl)
  have f10 := (gc_b_42_2 hI R_39)
  have tAT := gc_AT_l x1
  refine gv_run 2 true hD (pc' := 2) (lv' := [(0, .inr (.inr (some 39))), (1, .inr (.inr (some a1)))]) (st' := [.inr (.inr (some a1)), .inl 3]) (h' := gc_h sh I J A) (C := ((True ∧ True) ∧ True)) rfl ⟨⟨trivial, trivial⟩, trivial⟩ ?_
  have f11 := (show 0 ≤ I a1 14 ∧ I a1 14 ≤ 6 from gc_in2 hI R_a1 rfl rfl rfl)
  refine gv_get hD rfl rfl S_a1 ⟨by decide, B_a1⟩ (gc_hI S_a1 rfl) ?_
  show gv_X _ _ (5, [(0, .inr (.inr (some 39))), (1, .inr (.inr (some a1)))], [.inl (I a1 14), .inl 3], sh, gc_h sh I J A)
  refine gv_run 3 true hD (pc' := 8) (lv' := [(2, .inl (3 * (I a1 14))), (0, .inr (.inr (some 39))), (1, .inr (.inr (some a1)))]) (st' := [.inr (.inr (some 39))]) (h' := gc_h sh I J A) (C := (((True ∧ True) ∧ True) ∧ True)) rfl ⟨⟨⟨trivial, trivial⟩, trivial⟩, trivial⟩ ?_
  refine gv_get hD rfl rfl S_39 ⟨by decide, B_39⟩ (gc_hA S_39 rfl A_39_1) ?_
  show gv_X _ _ (11, [(2, .inl (3 * (I a1 14))), (0, .inr (.inr (some 39))), (1, .inr (.inr (some a1)))], [.inr (.inr (some 23))], sh, gc_h sh I J A)
  have f12 := (gc_b_3_7 hI R_23)
  refine gv_get hD rfl rfl S_23 ⟨by decide, B_23⟩ (gc_hI S_23 rfl) ?_
  show gv_X _ _ (14, [(2, .inl (3 * (I a1 14))), (0, .inr (.inr (some 39))), (1, .inr (.inr (some a1)))], [.inl (I 23 7)], sh, gc_h sh I J A)
  refine gv_run 1 true hD (pc' := 15) (lv' := [(2, .inl (3 * (I a1 14))), (0, .inr (.inr (some 39))), (1, .inr (.inr (some a1)))]) (st' := [.inl 2, .inl (I 23 7)]) (h' := gc_h sh I J A) (C := (True ∧ True)) rfl ⟨trivial, trivial⟩ ?_
  refine gv_icmp_ne (t := 102) hD rfl rfl ⟨⟨by exact gz_m 7 (by omega), by exact gz_m 8 (by omega)⟩, ⟨by exact gz_m 9 (by omega), by exact gz_m 10 (by omega)⟩⟩ (fun c13 => ?_) (fun c13 => ?_)
  · show gv_X _ _ (102, [(2, .inl (3 * (I a1 14))), (0, .inr (.inr (some 39))), (1, .inr (.inr (some a1)))], [], sh, gc_h sh I J A)
    refine gv_run 2 true hD (pc' := 104) (lv' := [(2, .inl (3 * (I a1 14))), (0, .inr (.inr (some 39))), (1, .inr (.inr (some a1)))]) (st' := [.inr (.inr (some 39)), .inr (.inr (some 39))]) (h' := gc_h sh I J A) (C := ((True ∧ True) ∧ True)) rfl ⟨⟨trivial, trivial⟩, trivial⟩ ?_
    refine gv_get hD rfl rfl S_39 ⟨by decide, B_39⟩ (gc_h5 (t := t) S_39 rfl (by exact gz_m 11 (by omega))) ?_
    show gv_X _ _ (107, [(2, .inl (3 * (I a1 14))), (0, .inr (.inr (some 39))), (1, .inr (.inr (some a1)))], [.inr (.inr (some t)), .inr (.inr (some 39))], sh, gc_h sh I J A)
    refine gv_get hD rfl rfl S_t ⟨by decide, B_t⟩ (gc_hA S_t rfl A_t_1) ?_
    show gv_X _ _ (110, [(2, .inl (3 * (I a1 14))), (0, .inr (.inr (some 39))), (1, .inr (.inr (some a1)))], [.inr (.inr (some (t + 3))), .inr (.inr (some 39))], sh, gc_h sh I J A)
    obtain ⟨r14, h14, E14, P14⟩ := d_X6_needKnown_p (ws0 := ws0) (tb := tb) hws htb sh ro I J A hI  48 10 β η p9 (t + 3) hb h_t_3   x1 (by exact gz_m 12 (by omega)) 
    obtain ⟨I15, J16, rfl, hI15, g14, k14, ⟨z14, rfl, q14⟩⟩ := P14
    have FI15 := gc_frc (W := fun q j => (q = 39 ∧ j = 3) ∨ (q = 39 ∧ j = 4) ∨ (q = 23 ∧ j = 5) ∨ (q = 23 ∧ j = 6) ∨ (q = 23 ∧ j = 7) ∨ (q = 23 ∧ j = 8) ∨ q = (a1 + 8) ∨ (q = a1 ∧ j = 14)) (V := fun q j => (q = 39 ∧ j = 3) ∨ (q = 39 ∧ j = 4)) FI (fun q j h => (h.elim (fun h => (Or.inl h)) (fun h => (Or.inr (Or.inl h))))) g14
    have t17 := (g14 23 1).resolve_left (fun h => h.elim (fun h => absurd h.2 (gz_ne rfl)) (fun h => absurd h.2 (gz_ne rfl)))
    have t18 := (g14 23 5).resolve_left (fun h => h.elim (fun h => absurd h.2 (gz_ne rfl)) (fun h => absurd h.2 (gz_ne rfl)))
    have t19 := (g14 23 6).resolve_left (fun h => h.elim (fun h => absurd h.2 (gz_ne rfl)) (fun h => absurd h.2 (gz_ne rfl)))
    have t20 := (g14 23 7).resolve_left (fun h => h.elim (fun h => absurd h.2 (gz_ne rfl)) (fun h => absurd h.2 (gz_ne rfl)))
    have t21 := (g14 a1 14).resolve_left (fun h => h.elim (fun h => absurd h.2 (gz_ne rfl)) (fun h => absurd h.2 (gz_ne rfl)))
    have t22 := (g14 23 8).resolve_left (fun h => h.elim (fun h => absurd h.2 (gz_ne rfl)) (fun h => absurd h.2 (gz_ne rfl)))
    have t23 := (g14 (t + 1) 1).resolve_left (fun h => h.elim (fun h => absurd h.2 (gz_ne rfl)) (fun h => absurd h.2 (gz_ne rfl)))
    have t24 := (g14 (t + 3) 1).resolve_left (fun h => h.elim (fun h => absurd h.2 (gz_ne rfl)) (fun h => absurd h.2 (gz_ne rfl)))
    have t25 := (g14 39 2).resolve_left (fun h => h.elim (fun h => absurd h.2 (gz_ne rfl)) (fun h => absurd h.2 (gz_ne rfl)))
    obtain rfl : J = J16 := funext fun q => funext fun j => ((k14 q j).resolve_left id).symm
    have KLT_I15 := gc_LT_fr KLT_I ((g14 23 5).resolve_left (fun h => h.elim (fun h => absurd h.2 (gz_ne rfl)) (fun h => absurd h.2 (gz_ne rfl)))) ((g14 23 6).resolve_left (fun h => h.elim (fun h => absurd h.2 (gz_ne rfl)) (fun h => absurd h.2 (gz_ne rfl)))) ((g14 23 7).resolve_left (fun h => h.elim (fun h => absurd h.2 (gz_ne rfl)) (fun h => absurd h.2 (gz_ne rfl)))) (fun k => (g14 24 k).resolve_left (fun h => h.elim (fun h => absurd h.1 (gz_ne rfl)) (fun h => absurd h.1 (gz_ne rfl))))
    have KTK_I15 := gc_TK_fr KTK_I ((g14 23 1).resolve_left (fun h => h.elim (fun h => absurd h.2 (gz_ne rfl)) (fun h => absurd h.2 (gz_ne rfl)))) ((g14 23 5).resolve_left (fun h => h.elim (fun h => absurd h.2 (gz_ne rfl)) (fun h => absurd h.2 (gz_ne rfl)))) ((g14 23 6).resolve_left (fun h => h.elim (fun h => absurd h.2 (gz_ne rfl)) (fun h => absurd h.2 (gz_ne rfl)))) ((g14 23 7).resolve_left (fun h => h.elim (fun h => absurd h.2 (gz_ne rfl)) (fun h => absurd h.2 (gz_ne rfl))))
    have A26 := gc_AT_I x1 ((g14 23 1).resolve_left (fun h => h.elim (fun h => absurd h.2 (gz_ne rfl)) (fun h => absurd h.2 (gz_ne rfl)))) ((g14 23 5).resolve_left (fun h => h.elim (fun h => absurd h.2 (gz_ne rfl)) (fun h => absurd h.2 (gz_ne rfl)))) ((g14 23 6).resolve_left (fun h => h.elim (fun h => absurd h.2 (gz_ne rfl)) (fun h => absurd h.2 (gz_ne rfl)))) ((g14 23 7).resolve_left (fun h => h.elim (fun h => absurd h.2 (gz_ne rfl)) (fun h => absurd h.2 (gz_ne rfl)))) ((g14 23 8).resolve_left (fun h => h.elim (fun h => absurd h.2 (gz_ne rfl)) (fun h => absurd h.2 (gz_ne rfl)))) (fun k => (g14 24 k).resolve_left (fun h => h.elim (fun h => absurd h.1 (gz_ne rfl)) (fun h => absurd h.1 (gz_ne rfl))))
    have t27 := gc_AT_l A26
    refine gv_callV hD rfl (As := [.inr (.inr (some (t + 3)))]) (st := []) rfl B_39 S_39 rfl (gc_lV6 hws rfl) (Nat.le_of_ble_eq_true rfl) (gz_Ev_mono (d := 3) (by decide) E14) ?_
    show gv_X _ _ (113, [(2, .inl (3 * (I a1 14))), (0, .inr (.inr (some 39))), (1, .inr (.inr (some a1)))], [.inl z14], sh, gc_h sh I15 J A)
    refine gv_if_ne (t := 118) hD rfl rfl ⟨by exact gz_m 13 (by omega), by exact gz_m 14 (by omega)⟩ (fun c28 => ?_) (fun c28 => ?_)
    · show gv_X _ _ (118, [(2, .inl (3 * (I a1 14))), (0, .inr (.inr (some 39))), (1, .inr (.inr (some a1)))], [], sh, gc_h sh I15 J A)
      have u29 := gs_or1 q14.2.2.2 (by exact gz_m 15 (by omega))
      have L14 : gs_T β η p9 = 1 → gc_fd (J ((t + 3) + 1)) (gs_M β η p9) (Int.toNat (I (t + 3) 1)) = gs_lt Jr 21 (48 * Ir 0 6) (Ir 14 (Int.toNat (Ir 0 6))) (gs_rn β η p9) := (fun h => by exact gs_NA_lt x8 x7 h)
      have t30 := L14 (by exact gz_m 16 (by omega))
      refine gv_run 1 true hD (pc' := 119) (lv' := [(2, .inl (3 * (I a1 14))), (0, .inr (.inr (some 39))), (1, .inr (.inr (some a1)))]) (st' := [.inr (.inr (some 39))]) (h' := gc_h sh I15 J A) (C := (True ∧ True)) rfl ⟨trivial, trivial⟩ ?_
      refine gv_get hD rfl rfl S_39 ⟨by decide, B_39⟩ (gc_h5 (t := t) S_39 rfl (by exact gz_m 17 (by omega))) ?_
      show gv_X _ _ (122, [(2, .inl (3 * (I a1 14))), (0, .inr (.inr (some 39))), (1, .inr (.inr (some a1)))], [.inr (.inr (some t))], sh, gc_h sh I15 J A)
      refine gv_get hD rfl rfl S_t ⟨by decide, B_t⟩ (gc_hA S_t rfl A_t_1) ?_
      show gv_X _ _ (125, [(2, .inl (3 * (I a1 14))), (0, .inr (.inr (some 39))), (1, .inr (.inr (some a1)))], [.inr (.inr (some (t + 3)))], sh, gc_h sh I15 J A)
      refine gv_run 1 true hD (pc' := 126) (lv' := [(2, .inl (3 * (I a1 14))), (0, .inr (.inr (some 39))), (1, .inr (.inr (some a1)))]) (st' := [.inr (.inr (some 39)), .inr (.inr (some (t + 3)))]) (h' := gc_h sh I15 J A) (C := (True ∧ True)) rfl ⟨trivial, trivial⟩ ?_
      refine gv_get hD rfl rfl S_39 ⟨by decide, B_39⟩ (gc_hA S_39 rfl A_39_1) ?_
      show gv_X _ _ (129, [(2, .inl (3 * (I a1 14))), (0, .inr (.inr (some 39))), (1, .inr (.inr (some a1)))], [.inr (.inr (some 23)), .inr (.inr (some (t + 3)))], sh, gc_h sh I15 J A)
      refine gv_get hD rfl rfl S_23 ⟨by decide, B_23⟩ (gc_hJ S_23 rfl) ?_
      show gv_X _ _ (132, [(2, .inl (3 * (I a1 14))), (0, .inr (.inr (some 39))), (1, .inr (.inr (some a1)))], [.inr (.inl (J 23 9)), .inr (.inr (some (t + 3)))], sh, gc_h sh I15 J A)
      obtain ⟨r31, h31, E31, P31⟩ := d_X4_find (ws0 := ws0) (tb := tb) hws htb sh ro I15 J A hI15 (t + 3) 48 10 (J 23 9) h_t_3     
      obtain ⟨rfl, ⟨z31, rfl, q31⟩⟩ := P31
      have t32 : z31 = gs_lt Jr 21 (48 * Ir 0 6) (Ir 14 (Int.toNat (Ir 0 6))) (gs_rn β η p9) := q31.2.2.2.trans (by rw [gc_AT_m A26 (by exact gz_m 18 (by omega))]; exact (show gs_T β η p9 = 1 → gc_fd (J ((t + 3) + 1)) (gs_M β η p9) (Int.toNat (I15 (t + 3) 1)) = gs_lt Jr 21 (48 * Ir 0 6) (Ir 14 (Int.toNat (Ir 0 6))) (gs_rn β η p9) from (fun h => by rw [show I15 (t + 3) 1 = I (t + 3) 1 from ((g14 (t + 3) 1).resolve_left (by exact gz_m 19 (by omega)))]; exact gs_NA_lt x8 x7 h)) (by exact gz_m 20 (by omega)))
      refine gv_callV hD rfl (As := [.inr (.inl (J 23 9))]) (st := []) rfl B_t_3 S_t_3 rfl (gc_lV6 hws rfl) (Nat.le_of_ble_eq_true rfl) (gz_Ev_mono (d := 1) (by decide) E31) ?_
      show gv_X _ _ (135, [(2, .inl (3 * (I a1 14))), (0, .inr (.inr (some 39))), (1, .inr (.inr (some a1)))], [.inl z31], sh, gc_h sh I15 J A)
      refine gv_run 2 true hD (pc' := 137) (lv' := [(3, .inl z31), (2, .inl (3 * (I a1 14))), (0, .inr (.inr (some 39))), (1, .inr (.inr (some a1)))]) (st' := [.inr (.inr (some a1))]) (h' := gc_h sh I15 J A) (C := ((True ∧ True) ∧ True)) rfl ⟨⟨trivial, trivial⟩, trivial⟩ ?_
      refine gv_get hD rfl rfl S_a1 ⟨by decide, B_a1⟩ (gc_hA S_a1 rfl A_a1_15) ?_
      show gv_X _ _ (140, [(3, .inl z31), (2, .inl (3 * (I a1 14))), (0, .inr (.inr (some 39))), (1, .inr (.inr (some a1)))], [.inr (.inr (some (a1 + 8)))], sh, gc_h sh I15 J A)
      refine gv_run 2 true hD (pc' := 142) (lv' := [(3, .inl z31), (2, .inl (3 * (I a1 14))), (0, .inr (.inr (some 39))), (1, .inr (.inr (some a1)))]) (st' := [.inl (-1), .inl (3 * (I a1 14)), .inr (.inr (some (a1 + 8)))]) (h' := gc_h sh I15 J A) (C := ((True ∧ True) ∧ True)) rfl ⟨⟨trivial, trivial⟩, trivial⟩ ?_
      refine gv_iast hD rfl S_a1_8 ⟨by decide, B_a1_8⟩ ⟨by exact gz_m 21 (by omega), by exact gz_m 22 (by omega)⟩ ?_
      refine gc_st hI15 S_a1_8 rfl R_a1_8 (lo := (-1)) (hi := 3) (gc_lom (c := 0) rfl (by exact gz_m 23 (by omega)) rfl) (gc_him (c := 0) rfl (by exact gz_m 24 (by omega)) rfl) (by exact gz_m 25 (by omega)) (by exact gz_m 26 (by omega)) (fun I33 hI33 q34 p34 => ?_)
      have FI33 := gc_frs (W := fun q j => (q = 39 ∧ j = 3) ∨ (q = 39 ∧ j = 4) ∨ (q = 23 ∧ j = 5) ∨ (q = 23 ∧ j = 6) ∨ (q = 23 ∧ j = 7) ∨ (q = 23 ∧ j = 8) ∨ q = (a1 + 8) ∨ (q = a1 ∧ j = 14)) FI15 (Or.inr (Or.inr (Or.inr (Or.inr (Or.inr (Or.inr (Or.inl rfl))))))) p34
      have t35 := p34 23 1 (fun h => absurd h.1 N_23__a1_8)
      have t36 := p34 23 5 (fun h => absurd h.1 N_23__a1_8)
      have t37 := p34 23 6 (fun h => absurd h.1 N_23__a1_8)
      have t38 := p34 23 7 (fun h => absurd h.1 N_23__a1_8)
      have t39 := p34 a1 14 (fun h => absurd h.1 N_a1__a1_8)
      have t40 := p34 23 8 (fun h => absurd h.1 N_23__a1_8)
      have t41 := p34 (t + 1) 1 (fun h => absurd h.1 N_t_1__a1_8)
      have t42 := p34 (t + 3) 1 (fun h => absurd h.1 N_t_3__a1_8)
      have t43 := p34 39 2 (fun h => absurd h.1 N_39__a1_8)
      have KLT_I33 := gc_LT_fr KLT_I15 (p34 23 5 (fun h => absurd h.1 N_23__a1_8)) (p34 23 6 (fun h => absurd h.1 N_23__a1_8)) (p34 23 7 (fun h => absurd h.1 N_23__a1_8)) (fun k => p34 24 k (fun h => absurd h.1 N_24__a1_8))
      have KTK_I33 := gc_TK_fr KTK_I15 (p34 23 1 (fun h => absurd h.1 N_23__a1_8)) (p34 23 5 (fun h => absurd h.1 N_23__a1_8)) (p34 23 6 (fun h => absurd h.1 N_23__a1_8)) (p34 23 7 (fun h => absurd h.1 N_23__a1_8))
      have A44 := gc_AT_I A26 (p34 23 1 (fun h => absurd h.1 N_23__a1_8)) (p34 23 5 (fun h => absurd h.1 N_23__a1_8)) (p34 23 6 (fun h => absurd h.1 N_23__a1_8)) (p34 23 7 (fun h => absurd h.1 N_23__a1_8)) (p34 23 8 (fun h => absurd h.1 N_23__a1_8)) (fun k => p34 24 k (fun h => absurd h.1 N_24__a1_8))
      show gv_X _ _ (143, [(3, .inl z31), (2, .inl (3 * (I a1 14))), (0, .inr (.inr (some 39))), (1, .inr (.inr (some a1)))], [], sh, gc_h sh I33 J A)
      refine gv_run 1 true hD (pc' := 144) (lv' := [(3, .inl z31), (2, .inl (3 * (I a1 14))), (0, .inr (.inr (some 39))), (1, .inr (.inr (some a1)))]) (st' := [.inr (.inr (some a1))]) (h' := gc_h sh I33 J A) (C := (True ∧ True)) rfl ⟨trivial, trivial⟩ ?_
      refine gv_get hD rfl rfl S_a1 ⟨by decide, B_a1⟩ (gc_hA S_a1 rfl A_a1_15) ?_
      show gv_X _ _ (147, [(3, .inl z31), (2, .inl (3 * (I a1 14))), (0, .inr (.inr (some 39))), (1, .inr (.inr (some a1)))], [.inr (.inr (some (a1 + 8)))], sh, gc_h sh I33 J A)
      refine gv_run 4 true hD (pc' := 151) (lv' := [(3, .inl z31), (2, .inl (3 * (I a1 14))), (0, .inr (.inr (some 39))), (1, .inr (.inr (some a1)))]) (st' := [.inr (.inr (some 39)), .inl ((3 * (I a1 14)) + 1), .inr (.inr (some (a1 + 8)))]) (h' := gc_h sh I33 J A) (C := ((((True ∧ True) ∧ True) ∧ True) ∧ True)) rfl ⟨⟨⟨⟨trivial, trivial⟩, trivial⟩, trivial⟩, trivial⟩ ?_
      refine gv_get hD rfl rfl S_39 ⟨by decide, B_39⟩ (gc_h5 (t := t) S_39 rfl (by exact gz_m 27 (by omega))) ?_
      show gv_X _ _ (154, [(3, .inl z31), (2, .inl (3 * (I a1 14))), (0, .inr (.inr (some 39))), (1, .inr (.inr (some a1)))], [.inr (.inr (some t)), .inl ((3 * (I a1 14)) + 1), .inr (.inr (some (a1 + 8)))], sh, gc_h sh I33 J A)
      refine gv_get hD rfl rfl S_t ⟨by decide, B_t⟩ (gc_hA S_t rfl A_t_2) ?_
      show gv_X _ _ (157, [(3, .inl z31), (2, .inl (3 * (I a1 14))), (0, .inr (.inr (some 39))), (1, .inr (.inr (some a1)))], [.inr (.inr (some (t + 5))), .inl ((3 * (I a1 14)) + 1), .inr (.inr (some (a1 + 8)))], sh, gc_h sh I33 J A)
      refine gv_run 1 true hD (pc' := 158) (lv' := [(3, .inl z31), (2, .inl (3 * (I a1 14))), (0, .inr (.inr (some 39))), (1, .inr (.inr (some a1)))]) (st' := [.inl z31, .inr (.inr (some (t + 5))), .inl ((3 * (I a1 14)) + 1), .inr (.inr (some (a1 + 8)))]) (h' := gc_h sh I33 J A) (C := (True ∧ True)) rfl ⟨trivial, trivial⟩ ?_
      have f45 := (show 0 ≤ I33 (t + 5) (Int.toNat z31) ∧ I33 (t + 5) (Int.toNat z31) ≤ 7 from gc_in2 hI33 R_t_5 rfl rfl rfl)
      refine gv_iald hD rfl S_t_5 rfl ⟨by decide, B_t_5⟩ ⟨by exact gz_m 28 (by omega), by exact gz_m 29 (by omega)⟩ (gc_iI S_t_5 rfl) ?_
      show gv_X _ _ (159, [(3, .inl z31), (2, .inl (3 * (I a1 14))), (0, .inr (.inr (some 39))), (1, .inr (.inr (some a1)))], [.inl (I33 (t + 5) (Int.toNat z31)), .inl ((3 * (I a1 14)) + 1), .inr (.inr (some (a1 + 8)))], sh, gc_h sh I33 J A)
      obtain ⟨r46, h46, E46, P46⟩ := d_X11_shiftOf (ws0 := ws0) (tb := tb) hws htb sh ro I33 J A hI33  ((I33 (t + 5) (Int.toNat z31)))    ⟨by exact gz_m 30 (by omega), by exact gz_m 31 (by omega)⟩  
      obtain ⟨rfl, ⟨z46, rfl, q46⟩⟩ := P46
      refine gv_callS hD rfl (As := [.inl (I33 (t + 5) (Int.toNat z31))]) (st := [.inl ((3 * (I a1 14)) + 1), .inr (.inr (some (a1 + 8)))]) rfl (gc_lS6 hws rfl) (Nat.le_of_ble_eq_true rfl) (gz_Ev_mono (d := 1) (by decide) E46) ?_
      show gv_X _ _ (162, [(3, .inl z31), (2, .inl (3 * (I a1 14))), (0, .inr (.inr (some 39))), (1, .inr (.inr (some a1)))], [.inl z46, .inl ((3 * (I a1 14)) + 1), .inr (.inr (some (a1 + 8)))], sh, gc_h sh I33 J A)
      refine gv_iast hD rfl S_a1_8 ⟨by decide, B_a1_8⟩ ⟨by exact gz_m 32 (by omega), by exact gz_m 33 (by omega)⟩ ?_
      refine gc_st hI33 S_a1_8 rfl R_a1_8 (lo := 0) (hi := 21) (gc_lom (c := 1) rfl (by exact gz_m 34 (by omega)) rfl) (gc_him (c := 1) rfl (by exact gz_m 35 (by omega)) rfl) (by exact gz_m 36 (by omega)) (by exact gz_m 37 (by omega)) (fun I47 hI47 q48 p48 => ?_)
      have FI47 := gc_frs (W := fun q j => (q = 39 ∧ j = 3) ∨ (q = 39 ∧ j = 4) ∨ (q = 23 ∧ j = 5) ∨ (q = 23 ∧ j = 6) ∨ (q = 23 ∧ j = 7) ∨ (q = 23 ∧ j = 8) ∨ q = (a1 + 8) ∨ (q = a1 ∧ j = 14)) FI33 (Or.inr (Or.inr (Or.inr (Or.inr (Or.inr (Or.inr (Or.inl rfl))))))) p48
      have t49 := p48 23 1 (fun h => absurd h.1 N_23__a1_8)
      have t50 := p48 23 5 (fun h => absurd h.1 N_23__a1_8)
      have t51 := p48 23 6 (fun h => absurd h.1 N_23__a1_8)
      have t52 := p48 23 7 (fun h => absurd h.1 N_23__a1_8)
      have t53 := p48 a1 14 (fun h => absurd h.1 N_a1__a1_8)
      have t54 := p48 23 8 (fun h => absurd h.1 N_23__a1_8)
      have t55 := p48 (t + 1) 1 (fun h => absurd h.1 N_t_1__a1_8)
      have t56 := p48 (t + 3) 1 (fun h => absurd h.1 N_t_3__a1_8)
      have t57 := p48 39 2 (fun h => absurd h.1 N_39__a1_8)
      have KLT_I47 := gc_LT_fr KLT_I33 (p48 23 5 (fun h => absurd h.1 N_23__a1_8)) (p48 23 6 (fun h => absurd h.1 N_23__a1_8)) (p48 23 7 (fun h => absurd h.1 N_23__a1_8)) (fun k => p48 24 k (fun h => absurd h.1 N_24__a1_8))
      have KTK_I47 := gc_TK_fr KTK_I33 (p48 23 1 (fun h => absurd h.1 N_23__a1_8)) (p48 23 5 (fun h => absurd h.1 N_23__a1_8)) (p48 23 6 (fun h => absurd h.1 N_23__a1_8)) (p48 23 7 (fun h => absurd h.1 N_23__a1_8))
      have A58 := gc_AT_I A44 (p48 23 1 (fun h => absurd h.1 N_23__a1_8)) (p48 23 5 (fun h => absurd h.1 N_23__a1_8)) (p48 23 6 (fun h => absurd h.1 N_23__a1_8)) (p48 23 7 (fun h => absurd h.1 N_23__a1_8)) (p48 23 8 (fun h => absurd h.1 N_23__a1_8)) (fun k => p48 24 k (fun h => absurd h.1 N_24__a1_8))
      show gv_X _ _ (163, [(3, .inl z31), (2, .inl (3 * (I a1 14))), (0, .inr (.inr (some 39))), (1, .inr (.inr (some a1)))], [], sh, gc_h sh I47 J A)
      refine gv_run 1 true hD (pc' := 164) (lv' := [(3, .inl z31), (2, .inl (3 * (I a1 14))), (0, .inr (.inr (some 39))), (1, .inr (.inr (some a1)))]) (st' := [.inr (.inr (some a1))]) (h' := gc_h sh I47 J A) (C := (True ∧ True)) rfl ⟨trivial, trivial⟩ ?_
      refine gv_get hD rfl rfl S_a1 ⟨by decide, B_a1⟩ (gc_hA S_a1 rfl A_a1_15) ?_
      show gv_X _ _ (167, [(3, .inl z31), (2, .inl (3 * (I a1 14))), (0, .inr (.inr (some 39))), (1, .inr (.inr (some a1)))], [.inr (.inr (some (a1 + 8)))], sh, gc_h sh I47 J A)
      refine gv_run 4 true hD (pc' := 171) (lv' := [(3, .inl z31), (2, .inl (3 * (I a1 14))), (0, .inr (.inr (some 39))), (1, .inr (.inr (some a1)))]) (st' := [.inr (.inr (some 39)), .inl ((3 * (I a1 14)) + 2), .inr (.inr (some (a1 + 8)))]) (h' := gc_h sh I47 J A) (C := ((((True ∧ True) ∧ True) ∧ True) ∧ True)) rfl ⟨⟨⟨⟨trivial, trivial⟩, trivial⟩, trivial⟩, trivial⟩ ?_
      refine gv_get hD rfl rfl S_39 ⟨by decide, B_39⟩ (gc_h5 (t := t) S_39 rfl (by exact gz_m 38 (by omega))) ?_
      show gv_X _ _ (174, [(3, .inl z31), (2, .inl (3 * (I a1 14))), (0, .inr (.inr (some 39))), (1, .inr (.inr (some a1)))], [.inr (.inr (some t)), .inl ((3 * (I a1 14)) + 2), .inr (.inr (some (a1 + 8)))], sh, gc_h sh I47 J A)
      refine gv_get hD rfl rfl S_t ⟨by decide, B_t⟩ (gc_hA S_t rfl A_t_3) ?_
      show gv_X _ _ (177, [(3, .inl z31), (2, .inl (3 * (I a1 14))), (0, .inr (.inr (some 39))), (1, .inr (.inr (some a1)))], [.inr (.inr (some (t + 6))), .inl ((3 * (I a1 14)) + 2), .inr (.inr (some (a1 + 8)))], sh, gc_h sh I47 J A)
      refine gv_run 1 true hD (pc' := 178) (lv' := [(3, .inl z31), (2, .inl (3 * (I a1 14))), (0, .inr (.inr (some 39))), (1, .inr (.inr (some a1)))]) (st' := [.inl z31, .inr (.inr (some (t + 6))), .inl ((3 * (I a1 14)) + 2), .inr (.inr (some (a1 + 8)))]) (h' := gc_h sh I47 J A) (C := (True ∧ True)) rfl ⟨trivial, trivial⟩ ?_
      have f59 := (show 0 ≤ I47 (t + 6) (Int.toNat z31) ∧ I47 (t + 6) (Int.toNat z31) ≤ 6 from gc_in2 hI47 R_t_6 rfl rfl rfl)
      refine gv_iald hD rfl S_t_6 rfl ⟨by decide, B_t_6⟩ ⟨by exact gz_m 39 (by omega), by exact gz_m 40 (by omega)⟩ (gc_iI S_t_6 rfl) ?_
      show gv_X _ _ (179, [(3, .inl z31), (2, .inl (3 * (I a1 14))), (0, .inr (.inr (some 39))), (1, .inr (.inr (some a1)))], [.inl (I47 (t + 6) (Int.toNat z31)), .inl ((3 * (I a1 14)) + 2), .inr (.inr (some (a1 + 8)))], sh, gc_h sh I47 J A)
      refine gv_iast hD rfl S_a1_8 ⟨by decide, B_a1_8⟩ ⟨by exact gz_m 41 (by omega), by exact gz_m 42 (by omega)⟩ ?_
      refine gc_st hI47 S_a1_8 rfl R_a1_8 (lo := 0) (hi := 7) (gc_lom (c := 2) rfl (by exact gz_m 43 (by omega)) rfl) (gc_him (c := 2) rfl (by exact gz_m 44 (by omega)) rfl) (by exact gz_m 45 (by omega)) (by exact gz_m 46 (by omega)) (fun I60 hI60 q61 p61 => ?_)
      have FI60 := gc_frs (W := fun q j => (q = 39 ∧ j = 3) ∨ (q = 39 ∧ j = 4) ∨ (q = 23 ∧ j = 5) ∨ (q = 23 ∧ j = 6) ∨ (q = 23 ∧ j = 7) ∨ (q = 23 ∧ j = 8) ∨ q = (a1 + 8) ∨ (q = a1 ∧ j = 14)) FI47 (Or.inr (Or.inr (Or.inr (Or.inr (Or.inr (Or.inr (Or.inl rfl))))))) p61
      have t62 := p61 23 1 (fun h => absurd h.1 N_23__a1_8)
      have t63 := p61 23 5 (fun h => absurd h.1 N_23__a1_8)
      have t64 := p61 23 6 (fun h => absurd h.1 N_23__a1_8)
      have t65 := p61 23 7 (fun h => absurd h.1 N_23__a1_8)
      have t66 := p61 a1 14 (fun h => absurd h.1 N_a1__a1_8)
      have t67 := p61 23 8 (fun h => absurd h.1 N_23__a1_8)
      have t68 := p61 (t + 1) 1 (fun h => absurd h.1 N_t_1__a1_8)
      have t69 := p61 (t + 3) 1 (fun h => absurd h.1 N_t_3__a1_8)
      have t70 := p61 39 2 (fun h => absurd h.1 N_39__a1_8)
      have KLT_I60 := gc_LT_fr KLT_I47 (p61 23 5 (fun h => absurd h.1 N_23__a1_8)) (p61 23 6 (fun h => absurd h.1 N_23__a1_8)) (p61 23 7 (fun h => absurd h.1 N_23__a1_8)) (fun k => p61 24 k (fun h => absurd h.1 N_24__a1_8))
      have KTK_I60 := gc_TK_fr KTK_I47 (p61 23 1 (fun h => absurd h.1 N_23__a1_8)) (p61 23 5 (fun h => absurd h.1 N_23__a1_8)) (p61 23 6 (fun h => absurd h.1 N_23__a1_8)) (p61 23 7 (fun h => absurd h.1 N_23__a1_8))
      have A71 := gc_AT_I A58 (p61 23 1 (fun h => absurd h.1 N_23__a1_8)) (p61 23 5 (fun h => absurd h.1 N_23__a1_8)) (p61 23 6 (fun h => absurd h.1 N_23__a1_8)) (p61 23 7 (fun h => absurd h.1 N_23__a1_8)) (p61 23 8 (fun h => absurd h.1 N_23__a1_8)) (fun k => p61 24 k (fun h => absurd h.1 N_24__a1_8))
      show gv_X _ _ (180, [(3, .inl z31), (2, .inl (3 * (I a1 14))), (0, .inr (.inr (some 39))), (1, .inr (.inr (some a1)))], [], sh, gc_h sh I60 J A)
      refine gv_run 1 true hD (pc' := 181) (lv' := [(3, .inl z31), (2, .inl (3 * (I a1 14))), (0, .inr (.inr (some 39))), (1, .inr (.inr (some a1)))]) (st' := [.inr (.inr (some 39))]) (h' := gc_h sh I60 J A) (C := (True ∧ True)) rfl ⟨trivial, trivial⟩ ?_
      refine gv_get hD rfl rfl S_39 ⟨by decide, B_39⟩ (gc_hA S_39 rfl A_39_1) ?_
      show gv_X _ _ (184, [(3, .inl z31), (2, .inl (3 * (I a1 14))), (0, .inr (.inr (some 39))), (1, .inr (.inr (some a1)))], [.inr (.inr (some 23))], sh, gc_h sh I60 J A)
      have t73 := gc_TK_nx KTK_I60 (by exact gz_m 47 (by omega))
      obtain ⟨r72, h72, E72, P72⟩ := d_X9_advance_p (ws0 := ws0) (tb := tb) hws htb sh ro I60 J A hI60 23 β η  (gc_b23 hb)    (by exact gz_m 48 (by omega)) A71.1.1 A71.1.2 
      obtain ⟨I74, J75, rfl, hI74, g72, k72, ⟨rfl, V72_0, V72_1, V72_2, V72_3, V72_4, q72⟩⟩ := P72
      have FI74 := gc_frc (W := fun q j => (q = 39 ∧ j = 3) ∨ (q = 39 ∧ j = 4) ∨ (q = 23 ∧ j = 5) ∨ (q = 23 ∧ j = 6) ∨ (q = 23 ∧ j = 7) ∨ (q = 23 ∧ j = 8) ∨ q = (a1 + 8) ∨ (q = a1 ∧ j = 14)) (V := fun q j => (q = 23 ∧ j = 5) ∨ (q = 23 ∧ j = 6) ∨ (q = 23 ∧ j = 7) ∨ (q = 23 ∧ j = 8)) FI60 (fun q j h => (h.elim (fun h => (Or.inr (Or.inr (Or.inl h)))) (fun h => (h.elim (fun h => (Or.inr (Or.inr (Or.inr (Or.inl h))))) (fun h => (h.elim (fun h => (Or.inr (Or.inr (Or.inr (Or.inr (Or.inl h)))))) (fun h => (Or.inr (Or.inr (Or.inr (Or.inr (Or.inr (Or.inl h))))))))))))) g72
      have FJ75 := gc_frc (W := fun q j => (q = 23 ∧ j = 9)) (V := fun q j => (q = 23 ∧ j = 9)) FJ (fun q j h => h) k72
      have t76 := (g72 23 1).resolve_left (fun h => h.elim (fun h => absurd h.2 (gz_ne rfl)) (fun h => h.elim (fun h => absurd h.2 (gz_ne rfl)) (fun h => h.elim (fun h => absurd h.2 (gz_ne rfl)) (fun h => absurd h.2 (gz_ne rfl)))))
      have t77 := (g72 a1 14).resolve_left (fun h => h.elim (fun h => absurd h.2 (gz_ne rfl)) (fun h => h.elim (fun h => absurd h.2 (gz_ne rfl)) (fun h => h.elim (fun h => absurd h.2 (gz_ne rfl)) (fun h => absurd h.2 (gz_ne rfl)))))
      have t78 := (g72 (t + 1) 1).resolve_left (fun h => h.elim (fun h => absurd h.2 (gz_ne rfl)) (fun h => h.elim (fun h => absurd h.2 (gz_ne rfl)) (fun h => h.elim (fun h => absurd h.2 (gz_ne rfl)) (fun h => absurd h.2 (gz_ne rfl)))))
      have t79 := (g72 (t + 3) 1).resolve_left (fun h => h.elim (fun h => absurd h.2 (gz_ne rfl)) (fun h => h.elim (fun h => absurd h.2 (gz_ne rfl)) (fun h => h.elim (fun h => absurd h.2 (gz_ne rfl)) (fun h => absurd h.2 (gz_ne rfl)))))
      have t80 := (g72 39 2).resolve_left (fun h => h.elim (fun h => absurd h.2 (gz_ne rfl)) (fun h => h.elim (fun h => absurd h.2 (gz_ne rfl)) (fun h => h.elim (fun h => absurd h.2 (gz_ne rfl)) (fun h => absurd h.2 (gz_ne rfl)))))
      have f81 := (gc_b_3_5 hI74 R_23)
      have f82 := (gc_b_3_6 hI74 R_23)
      have f83 := (gc_b_3_7 hI74 R_23)
      have f84 := (gc_b_3_8 hI74 R_23)
      have KLT_I74 : gc_LT I74 := q72.2.2.1
      have KTK_I74 : gc_TK I74 := And.intro V72_0 (And.intro V72_1 (And.intro V72_2 (And.intro V72_3 V72_4)))
      have t85 := gc_TK_mo KTK_I74
      clear V72_0 V72_1 V72_2 V72_3 V72_4
      have A86 := gc_AT_nx A71 q72.2.2.2
      have t87 := gc_AT_l A86
      refine gv_callV hD rfl (As := []) (st := []) rfl B_23 S_23 rfl (gc_lV6 hws rfl) (Nat.le_of_ble_eq_true rfl) (gz_Ev_mono (d := 2) (by decide) E72) ?_
      show gv_X _ _ (187, [(3, .inl z31), (2, .inl (3 * (I a1 14))), (0, .inr (.inr (some 39))), (1, .inr (.inr (some a1)))], [], sh, gc_h sh I74 J75 A)
      refine gv_run 2 true hD (pc' := 189) (lv' := [(3, .inl z31), (2, .inl (3 * (I a1 14))), (0, .inr (.inr (some 39))), (1, .inr (.inr (some a1)))]) (st' := [.inr (.inr (some a1)), .inr (.inr (some a1))]) (h' := gc_h sh I74 J75 A) (C := ((True ∧ True) ∧ True)) rfl ⟨⟨trivial, trivial⟩, trivial⟩ ?_
      have f88 := (show 0 ≤ I74 a1 14 ∧ I74 a1 14 ≤ 6 from gc_in2 hI74 R_a1 rfl rfl rfl)
      refine gv_get hD rfl rfl S_a1 ⟨by decide, B_a1⟩ (gc_hI S_a1 rfl) ?_
      show gv_X _ _ (192, [(3, .inl z31), (2, .inl (3 * (I a1 14))), (0, .inr (.inr (some 39))), (1, .inr (.inr (some a1)))], [.inl (I74 a1 14), .inr (.inr (some a1))], sh, gc_h sh I74 J75 A)
      refine gv_run 2 true hD (pc' := 194) (lv' := [(3, .inl z31), (2, .inl (3 * (I a1 14))), (0, .inr (.inr (some 39))), (1, .inr (.inr (some a1)))]) (st' := [.inl ((I74 a1 14) + 1), .inr (.inr (some a1))]) (h' := gc_h sh I74 J75 A) (C := ((True ∧ True) ∧ True)) rfl ⟨⟨trivial, trivial⟩, trivial⟩ ?_
      refine gv_put hD rfl rfl S_a1 ⟨by decide, B_a1⟩ rfl trivial ?_
      refine gc_st (k := 14) hI74 S_a1 rfl R_a1 (lo := 0) (hi := 6) rfl rfl (by exact gz_m 49 (by omega)) (by exact gz_m 50 (by omega)) (fun I89 hI89 q90 p90 => ?_)
      have FI89 := gc_frs (W := fun q j => (q = 39 ∧ j = 3) ∨ (q = 39 ∧ j = 4) ∨ (q = 23 ∧ j = 5) ∨ (q = 23 ∧ j = 6) ∨ (q = 23 ∧ j = 7) ∨ (q = 23 ∧ j = 8) ∨ q = (a1 + 8) ∨ (q = a1 ∧ j = 14)) FI74 (Or.inr (Or.inr (Or.inr (Or.inr (Or.inr (Or.inr (Or.inr ⟨rfl, rfl⟩))))))) p90
      have t91 := p90 23 1 (fun h => absurd h.2 (gz_ne rfl))
      have t92 := p90 23 5 (fun h => absurd h.2 (gz_ne rfl))
      have t93 := p90 23 6 (fun h => absurd h.2 (gz_ne rfl))
      have t94 := p90 23 7 (fun h => absurd h.2 (gz_ne rfl))
      have t95 := p90 23 8 (fun h => absurd h.2 (gz_ne rfl))
      have t96 := p90 (t + 1) 1 (fun h => absurd h.2 (gz_ne rfl))
      have t97 := p90 (t + 3) 1 (fun h => absurd h.2 (gz_ne rfl))
      have t98 := p90 39 2 (fun h => absurd h.2 (gz_ne rfl))
      have f99 := (show 0 ≤ I89 a1 14 ∧ I89 a1 14 ≤ 6 from gc_in2 hI89 R_a1 rfl rfl rfl)
      have KLT_I89 := gc_LT_fr KLT_I74 (p90 23 5 (fun h => absurd h.2 (gz_ne rfl))) (p90 23 6 (fun h => absurd h.2 (gz_ne rfl))) (p90 23 7 (fun h => absurd h.2 (gz_ne rfl))) (fun k => p90 24 k (fun h => absurd h.1 N_24__a1))
      have KTK_I89 := gc_TK_fr KTK_I74 (p90 23 1 (fun h => absurd h.2 (gz_ne rfl))) (p90 23 5 (fun h => absurd h.2 (gz_ne rfl))) (p90 23 6 (fun h => absurd h.2 (gz_ne rfl))) (p90 23 7 (fun h => absurd h.2 (gz_ne rfl)))
      have A100 := gc_AT_I A86 (p90 23 1 (fun h => absurd h.2 (gz_ne rfl))) (p90 23 5 (fun h => absurd h.2 (gz_ne rfl))) (p90 23 6 (fun h => absurd h.2 (gz_ne rfl))) (p90 23 7 (fun h => absurd h.2 (gz_ne rfl))) (p90 23 8 (fun h => absurd h.2 (gz_ne rfl))) (fun k => p90 24 k (fun h => absurd h.1 N_24__a1))
      show gv_X _ _ (197, [(3, .inl z31), (2, .inl (3 * (I a1 14))), (0, .inr (.inr (some 39))), (1, .inr (.inr (some a1)))], [], sh, gc_h sh I89 J75 A)
      refine gv_run 1 true hD (pc' := 198) (lv' := [(3, .inl z31), (2, .inl (3 * (I a1 14))), (0, .inr (.inr (some 39))), (1, .inr (.inr (some a1)))]) (st' := [.inl 1]) (h' := gc_h sh I89 J75 A) (C := (True ∧ True)) rfl ⟨trivial, trivial⟩ ?_
      exact gv_zret hD rfl (by exact gz_m 51 (by omega)) ⟨I89, J75, rfl, hI89, FI89, FJ75, KLT_I89, KTK_I89, ⟨_, rfl, by exact gz_m 52 (by omega), by exact gz_m 53 (by omega), by exact gz_m 54 (by omega), by exact gz_m 55 (by omega), by exact gz_m 56 (by omega), (Or.inl ⟨by exact gz_m 57 (by omega), by have e9 : (gs_sg β η Ir Jr nf9 a9 p9) = (gs_X β η p9) := (by first | (exfalso; exact gz_m 58 (by omega)) | (unfold gs_sg gs_sv gs_vl9; (repeat first | rw [if_pos (by exact gz_m 59 (by omega))] | rw [if_neg (by exact gz_m 60 (by omega))]))); rw [e9]; exact ⟨by exact gz_m 61 (by omega), A100, by exact gz_m 62 (by omega)⟩⟩)⟩⟩
    · show gv_X _ _ (116, [(2, .inl (3 * (I a1 14))), (0, .inr (.inr (some 39))), (1, .inr (.inr (some a1)))], [], sh, gc_h sh I15 J A)
      have u101 := gs_or0 q14.2.2.2 (by exact gz_m 63 (by omega))
      have L14 : gs_T β η p9 = 1 → gc_fd (J ((t + 3) + 1)) (gs_M β η p9) (Int.toNat (I (t + 3) 1)) = gs_lt Jr 21 (48 * Ir 0 6) (Ir 14 (Int.toNat (Ir 0 6))) (gs_rn β η p9) := (fun h => by exact gs_NA_lt x8 x7 h)
      refine gv_run 1 true hD (pc' := 117) (lv' := [(2, .inl (3 * (I a1 14))), (0, .inr (.inr (some 39))), (1, .inr (.inr (some a1)))]) (st' := [.inl 0]) (h' := gc_h sh I15 J A) (C := (True ∧ True)) rfl ⟨trivial, trivial⟩ ?_
      exact gv_zret hD rfl (by exact gz_m 64 (by omega)) ⟨I15, J, rfl, hI15, FI15, FJ, KLT_I15, KTK_I15, ⟨_, rfl, by exact gz_m 65 (by omega), by exact gz_m 66 (by omega), by exact gz_m 67 (by omega), by exact gz_m 68 (by omega), by exact gz_m 69 (by omega), (Or.inr ⟨by exact gz_m 70 (by omega), by first | (exfalso; exact gz_m 71 (by omega)) | (unfold gs_sg gs_sv gs_vl9; by_cases c9 : gs_T β η p9 = 1; (have h9 := L14 c9; (repeat first | rw [if_pos (by exact gz_m 72 (by omega))] | rw [if_neg (by exact gz_m 73 (by omega))]); exact ⟨by exact gz_m 74 (by omega), by exact gz_m 75 (by omega)⟩); (repeat first | rw [if_pos (by exact gz_m 76 (by omega))] | rw [if_neg (by exact gz_m 77 (by omega))]); exact ⟨by exact gz_m 78 (by omega), by exact gz_m 79 (by omega)⟩)⟩)⟩⟩
  · show gv_X _ _ (18, [(2, .inl (3 * (I a1 14))), (0, .inr (.inr (some 39))), (1, .inr (.inr (some a1)))], [], sh, gc_h sh I J A)
    refine gv_run 2 true hD (pc' := 20) (lv' := [(2, .inl (3 * (I a1 14))), (0, .inr (.inr (some 39))), (1, .inr (.inr (some a1)))]) (st' := [.inr (.inr (some a1)), .inr (.inr (some 39))]) (h' := gc_h sh I J A) (C := ((True ∧ True) ∧ True)) rfl ⟨⟨trivial, trivial⟩, trivial⟩ ?_
    obtain ⟨r102, h102, E102, P102⟩ := d_X6_needArgument_p (ws0 := ws0) (tb := tb) hws htb sh ro I J A hI  β η p9 nf9 a9 a1 hb h_a1 G_a1   x1 (by exact gz_m 80 (by omega)) (gs_SO_fr x3 (fun k => rfl)) (by exact gz_m 81 (by omega)) 
    obtain ⟨I103, J104, rfl, hI103, g102, k102, ⟨z102, rfl, q102⟩⟩ := P102
    have FI103 := gc_frc (W := fun q j => (q = 39 ∧ j = 3) ∨ (q = 39 ∧ j = 4) ∨ (q = 23 ∧ j = 5) ∨ (q = 23 ∧ j = 6) ∨ (q = 23 ∧ j = 7) ∨ (q = 23 ∧ j = 8) ∨ q = (a1 + 8) ∨ (q = a1 ∧ j = 14)) (V := fun q j => (q = 39 ∧ j = 3) ∨ (q = 39 ∧ j = 4)) FI (fun q j h => (h.elim (fun h => (Or.inl h)) (fun h => (Or.inr (Or.inl h))))) g102
    have t105 := (g102 23 1).resolve_left (fun h => h.elim (fun h => absurd h.2 (gz_ne rfl)) (fun h => absurd h.2 (gz_ne rfl)))
    have t106 := (g102 23 5).resolve_left (fun h => h.elim (fun h => absurd h.2 (gz_ne rfl)) (fun h => absurd h.2 (gz_ne rfl)))
    have t107 := (g102 23 6).resolve_left (fun h => h.elim (fun h => absurd h.2 (gz_ne rfl)) (fun h => absurd h.2 (gz_ne rfl)))
    have t108 := (g102 23 7).resolve_left (fun h => h.elim (fun h => absurd h.2 (gz_ne rfl)) (fun h => absurd h.2 (gz_ne rfl)))
    have t109 := (g102 a1 14).resolve_left (fun h => h.elim (fun h => absurd h.2 (gz_ne rfl)) (fun h => absurd h.2 (gz_ne rfl)))
    have t110 := (g102 23 8).resolve_left (fun h => h.elim (fun h => absurd h.2 (gz_ne rfl)) (fun h => absurd h.2 (gz_ne rfl)))
    have t111 := (g102 (t + 1) 1).resolve_left (fun h => h.elim (fun h => absurd h.2 (gz_ne rfl)) (fun h => absurd h.2 (gz_ne rfl)))
    have t112 := (g102 (t + 3) 1).resolve_left (fun h => h.elim (fun h => absurd h.2 (gz_ne rfl)) (fun h => absurd h.2 (gz_ne rfl)))
    have t113 := (g102 39 2).resolve_left (fun h => h.elim (fun h => absurd h.2 (gz_ne rfl)) (fun h => absurd h.2 (gz_ne rfl)))
    obtain rfl : J = J104 := funext fun q => funext fun j => ((k102 q j).resolve_left id).symm
    have KLT_I103 := gc_LT_fr KLT_I ((g102 23 5).resolve_left (fun h => h.elim (fun h => absurd h.2 (gz_ne rfl)) (fun h => absurd h.2 (gz_ne rfl)))) ((g102 23 6).resolve_left (fun h => h.elim (fun h => absurd h.2 (gz_ne rfl)) (fun h => absurd h.2 (gz_ne rfl)))) ((g102 23 7).resolve_left (fun h => h.elim (fun h => absurd h.2 (gz_ne rfl)) (fun h => absurd h.2 (gz_ne rfl)))) (fun k => (g102 24 k).resolve_left (fun h => h.elim (fun h => absurd h.1 (gz_ne rfl)) (fun h => absurd h.1 (gz_ne rfl))))
    have KTK_I103 := gc_TK_fr KTK_I ((g102 23 1).resolve_left (fun h => h.elim (fun h => absurd h.2 (gz_ne rfl)) (fun h => absurd h.2 (gz_ne rfl)))) ((g102 23 5).resolve_left (fun h => h.elim (fun h => absurd h.2 (gz_ne rfl)) (fun h => absurd h.2 (gz_ne rfl)))) ((g102 23 6).resolve_left (fun h => h.elim (fun h => absurd h.2 (gz_ne rfl)) (fun h => absurd h.2 (gz_ne rfl)))) ((g102 23 7).resolve_left (fun h => h.elim (fun h => absurd h.2 (gz_ne rfl)) (fun h => absurd h.2 (gz_ne rfl))))
    have A114 := gc_AT_I x1 ((g102 23 1).resolve_left (fun h => h.elim (fun h => absurd h.2 (gz_ne rfl)) (fun h => absurd h.2 (gz_ne rfl)))) ((g102 23 5).resolve_left (fun h => h.elim (fun h => absurd h.2 (gz_ne rfl)) (fun h => absurd h.2 (gz_ne rfl)))) ((g102 23 6).resolve_left (fun h => h.elim (fun h => absurd h.2 (gz_ne rfl)) (fun h => absurd h.2 (gz_ne rfl)))) ((g102 23 7).resolve_left (fun h => h.elim (fun h => absurd h.2 (gz_ne rfl)) (fun h => absurd h.2 (gz_ne rfl)))) ((g102 23 8).resolve_left (fun h => h.elim (fun h => absurd h.2 (gz_ne rfl)) (fun h => absurd h.2 (gz_ne rfl)))) (fun k => (g102 24 k).resolve_left (fun h => h.elim (fun h => absurd h.1 (gz_ne rfl)) (fun h => absurd h.1 (gz_ne rfl))))
    have t115 := gc_AT_l A114
    refine gv_callV hD rfl (As := [.inr (.inr (some a1))]) (st := []) rfl B_39 S_39 rfl (gc_lV6 hws rfl) (Nat.le_of_ble_eq_true rfl) (gz_Ev_mono (d := 3) (by decide) E102) ?_
    show gv_X _ _ (23, [(2, .inl (3 * (I a1 14))), (0, .inr (.inr (some 39))), (1, .inr (.inr (some a1)))], [.inl z102], sh, gc_h sh I103 J A)
    refine gv_if_ne (t := 28) hD rfl rfl ⟨by exact gz_m 82 (by omega), by exact gz_m 83 (by omega)⟩ (fun c116 => ?_) (fun c116 => ?_)
    · show gv_X _ _ (28, [(2, .inl (3 * (I a1 14))), (0, .inr (.inr (some 39))), (1, .inr (.inr (some a1)))], [], sh, gc_h sh I103 J A)
      have u117 := gs_or1 q102.2.2.2 (by exact gz_m 84 (by omega))
      refine gv_run 1 true hD (pc' := 29) (lv' := [(2, .inl (3 * (I a1 14))), (0, .inr (.inr (some 39))), (1, .inr (.inr (some a1)))]) (st' := [.inr (.inr (some a1))]) (h' := gc_h sh I103 J A) (C := (True ∧ True)) rfl ⟨trivial, trivial⟩ ?_
      refine gv_get hD rfl rfl S_a1 ⟨by decide, B_a1⟩ (gc_hA S_a1 rfl A_a1_15) ?_
      show gv_X _ _ (32, [(2, .inl (3 * (I a1 14))), (0, .inr (.inr (some 39))), (1, .inr (.inr (some a1)))], [.inr (.inr (some (a1 + 8)))], sh, gc_h sh I103 J A)
      refine gv_run 2 true hD (pc' := 34) (lv' := [(2, .inl (3 * (I a1 14))), (0, .inr (.inr (some 39))), (1, .inr (.inr (some a1)))]) (st' := [.inr (.inr (some a1)), .inl (3 * (I a1 14)), .inr (.inr (some (a1 + 8)))]) (h' := gc_h sh I103 J A) (C := ((True ∧ True) ∧ True)) rfl ⟨⟨trivial, trivial⟩, trivial⟩ ?_
      refine gv_get hD rfl rfl S_a1 ⟨by decide, B_a1⟩ (gc_hA S_a1 rfl A_a1_11) ?_
      show gv_X _ _ (37, [(2, .inl (3 * (I a1 14))), (0, .inr (.inr (some 39))), (1, .inr (.inr (some a1)))], [.inr (.inr (some (a1 + 6))), .inl (3 * (I a1 14)), .inr (.inr (some (a1 + 8)))], sh, gc_h sh I103 J A)
      refine gv_run 1 true hD (pc' := 38) (lv' := [(2, .inl (3 * (I a1 14))), (0, .inr (.inr (some 39))), (1, .inr (.inr (some a1)))]) (st' := [.inr (.inr (some 39)), .inr (.inr (some (a1 + 6))), .inl (3 * (I a1 14)), .inr (.inr (some (a1 + 8)))]) (h' := gc_h sh I103 J A) (C := (True ∧ True)) rfl ⟨trivial, trivial⟩ ?_
      refine gv_get hD rfl rfl S_39 ⟨by decide, B_39⟩ (gc_hA S_39 rfl A_39_1) ?_
      show gv_X _ _ (41, [(2, .inl (3 * (I a1 14))), (0, .inr (.inr (some 39))), (1, .inr (.inr (some a1)))], [.inr (.inr (some 23)), .inr (.inr (some (a1 + 6))), .inl (3 * (I a1 14)), .inr (.inr (some (a1 + 8)))], sh, gc_h sh I103 J A)
      have f118 := (gc_b_3_8 hI103 R_23)
      refine gv_get hD rfl rfl S_23 ⟨by decide, B_23⟩ (gc_hI S_23 rfl) ?_
      show gv_X _ _ (44, [(2, .inl (3 * (I a1 14))), (0, .inr (.inr (some 39))), (1, .inr (.inr (some a1)))], [.inl (I103 23 8), .inr (.inr (some (a1 + 6))), .inl (3 * (I a1 14)), .inr (.inr (some (a1 + 8)))], sh, gc_h sh I103 J A)
      refine gv_run 2 true hD (pc' := 46) (lv' := [(2, .inl (3 * (I a1 14))), (0, .inr (.inr (some 39))), (1, .inr (.inr (some a1)))]) (st' := [.inl ((I103 23 8) - 1), .inr (.inr (some (a1 + 6))), .inl (3 * (I a1 14)), .inr (.inr (some (a1 + 8)))]) (h' := gc_h sh I103 J A) (C := ((True ∧ True) ∧ True)) rfl ⟨⟨trivial, trivial⟩, trivial⟩ ?_
      have f119 := (show (-1) ≤ I103 (a1 + 6) (Int.toNat (((I103 23 8) - 1))) ∧ I103 (a1 + 6) (Int.toNat (((I103 23 8) - 1))) ≤ 3 from gc_in2 hI103 R_a1_6 rfl rfl rfl)
      refine gv_iald hD rfl S_a1_6 rfl ⟨by decide, B_a1_6⟩ ⟨by exact gz_m 85 (by omega), by exact gz_m 86 (by omega)⟩ (gc_iI S_a1_6 rfl) ?_
      show gv_X _ _ (47, [(2, .inl (3 * (I a1 14))), (0, .inr (.inr (some 39))), (1, .inr (.inr (some a1)))], [.inl (I103 (a1 + 6) (Int.toNat (((I103 23 8) - 1)))), .inl (3 * (I a1 14)), .inr (.inr (some (a1 + 8)))], sh, gc_h sh I103 J A)
      refine gv_iast hD rfl S_a1_8 ⟨by decide, B_a1_8⟩ ⟨by exact gz_m 87 (by omega), by exact gz_m 88 (by omega)⟩ ?_
      refine gc_st hI103 S_a1_8 rfl R_a1_8 (lo := (-1)) (hi := 3) (gc_lom (c := 0) rfl (by exact gz_m 89 (by omega)) rfl) (gc_him (c := 0) rfl (by exact gz_m 90 (by omega)) rfl) (by exact gz_m 91 (by omega)) (by exact gz_m 92 (by omega)) (fun I120 hI120 q121 p121 => ?_)
      have FI120 := gc_frs (W := fun q j => (q = 39 ∧ j = 3) ∨ (q = 39 ∧ j = 4) ∨ (q = 23 ∧ j = 5) ∨ (q = 23 ∧ j = 6) ∨ (q = 23 ∧ j = 7) ∨ (q = 23 ∧ j = 8) ∨ q = (a1 + 8) ∨ (q = a1 ∧ j = 14)) FI103 (Or.inr (Or.inr (Or.inr (Or.inr (Or.inr (Or.inr (Or.inl rfl))))))) p121
      have t122 := p121 23 1 (fun h => absurd h.1 N_23__a1_8)
      have t123 := p121 23 5 (fun h => absurd h.1 N_23__a1_8)
      have t124 := p121 23 6 (fun h => absurd h.1 N_23__a1_8)
      have t125 := p121 23 7 (fun h => absurd h.1 N_23__a1_8)
      have t126 := p121 a1 14 (fun h => absurd h.1 N_a1__a1_8)
      have t127 := p121 23 8 (fun h => absurd h.1 N_23__a1_8)
      have t128 := p121 (t + 1) 1 (fun h => absurd h.1 N_t_1__a1_8)
      have t129 := p121 (t + 3) 1 (fun h => absurd h.1 N_t_3__a1_8)
      have t130 := p121 39 2 (fun h => absurd h.1 N_39__a1_8)
      have KLT_I120 := gc_LT_fr KLT_I103 (p121 23 5 (fun h => absurd h.1 N_23__a1_8)) (p121 23 6 (fun h => absurd h.1 N_23__a1_8)) (p121 23 7 (fun h => absurd h.1 N_23__a1_8)) (fun k => p121 24 k (fun h => absurd h.1 N_24__a1_8))
      have KTK_I120 := gc_TK_fr KTK_I103 (p121 23 1 (fun h => absurd h.1 N_23__a1_8)) (p121 23 5 (fun h => absurd h.1 N_23__a1_8)) (p121 23 6 (fun h => absurd h.1 N_23__a1_8)) (p121 23 7 (fun h => absurd h.1 N_23__a1_8))
      have A131 := gc_AT_I A114 (p121 23 1 (fun h => absurd h.1 N_23__a1_8)) (p121 23 5 (fun h => absurd h.1 N_23__a1_8)) (p121 23 6 (fun h => absurd h.1 N_23__a1_8)) (p121 23 7 (fun h => absurd h.1 N_23__a1_8)) (p121 23 8 (fun h => absurd h.1 N_23__a1_8)) (fun k => p121 24 k (fun h => absurd h.1 N_24__a1_8))
      show gv_X _ _ (48, [(2, .inl (3 * (I a1 14))), (0, .inr (.inr (some 39))), (1, .inr (.inr (some a1)))], [], sh, gc_h sh I120 J A)
      refine gv_run 1 true hD (pc' := 49) (lv' := [(2, .inl (3 * (I a1 14))), (0, .inr (.inr (some 39))), (1, .inr (.inr (some a1)))]) (st' := [.inr (.inr (some 39))]) (h' := gc_h sh I120 J A) (C := (True ∧ True)) rfl ⟨trivial, trivial⟩ ?_
      refine gv_get hD rfl rfl S_39 ⟨by decide, B_39⟩ (gc_hA S_39 rfl A_39_1) ?_
      show gv_X _ _ (52, [(2, .inl (3 * (I a1 14))), (0, .inr (.inr (some 39))), (1, .inr (.inr (some a1)))], [.inr (.inr (some 23))], sh, gc_h sh I120 J A)
      have t133 := gc_TK_nx KTK_I120 (by exact gz_m 93 (by omega))
      obtain ⟨r132, h132, E132, P132⟩ := d_X9_advance_p (ws0 := ws0) (tb := tb) hws htb sh ro I120 J A hI120 23 β η  (gc_b23 hb)    (by exact gz_m 94 (by omega)) A131.1.1 A131.1.2 
      obtain ⟨I134, J135, rfl, hI134, g132, k132, ⟨rfl, V132_0, V132_1, V132_2, V132_3, V132_4, q132⟩⟩ := P132
      have FI134 := gc_frc (W := fun q j => (q = 39 ∧ j = 3) ∨ (q = 39 ∧ j = 4) ∨ (q = 23 ∧ j = 5) ∨ (q = 23 ∧ j = 6) ∨ (q = 23 ∧ j = 7) ∨ (q = 23 ∧ j = 8) ∨ q = (a1 + 8) ∨ (q = a1 ∧ j = 14)) (V := fun q j => (q = 23 ∧ j = 5) ∨ (q = 23 ∧ j = 6) ∨ (q = 23 ∧ j = 7) ∨ (q = 23 ∧ j = 8)) FI120 (fun q j h => (h.elim (fun h => (Or.inr (Or.inr (Or.inl h)))) (fun h => (h.elim (fun h => (Or.inr (Or.inr (Or.inr (Or.inl h))))) (fun h => (h.elim (fun h => (Or.inr (Or.inr (Or.inr (Or.inr (Or.inl h)))))) (fun h => (Or.inr (Or.inr (Or.inr (Or.inr (Or.inr (Or.inl h))))))))))))) g132
      have FJ135 := gc_frc (W := fun q j => (q = 23 ∧ j = 9)) (V := fun q j => (q = 23 ∧ j = 9)) FJ (fun q j h => h) k132
      have t136 := (g132 23 1).resolve_left (fun h => h.elim (fun h => absurd h.2 (gz_ne rfl)) (fun h => h.elim (fun h => absurd h.2 (gz_ne rfl)) (fun h => h.elim (fun h => absurd h.2 (gz_ne rfl)) (fun h => absurd h.2 (gz_ne rfl)))))
      have t137 := (g132 a1 14).resolve_left (fun h => h.elim (fun h => absurd h.2 (gz_ne rfl)) (fun h => h.elim (fun h => absurd h.2 (gz_ne rfl)) (fun h => h.elim (fun h => absurd h.2 (gz_ne rfl)) (fun h => absurd h.2 (gz_ne rfl)))))
      have t138 := (g132 (t + 1) 1).resolve_left (fun h => h.elim (fun h => absurd h.2 (gz_ne rfl)) (fun h => h.elim (fun h => absurd h.2 (gz_ne rfl)) (fun h => h.elim (fun h => absurd h.2 (gz_ne rfl)) (fun h => absurd h.2 (gz_ne rfl)))))
      have t139 := (g132 (t + 3) 1).resolve_left (fun h => h.elim (fun h => absurd h.2 (gz_ne rfl)) (fun h => h.elim (fun h => absurd h.2 (gz_ne rfl)) (fun h => h.elim (fun h => absurd h.2 (gz_ne rfl)) (fun h => absurd h.2 (gz_ne rfl)))))
      have t140 := (g132 39 2).resolve_left (fun h => h.elim (fun h => absurd h.2 (gz_ne rfl)) (fun h => h.elim (fun h => absurd h.2 (gz_ne rfl)) (fun h => h.elim (fun h => absurd h.2 (gz_ne rfl)) (fun h => absurd h.2 (gz_ne rfl)))))
      have f141 := (gc_b_3_5 hI134 R_23)
      have f142 := (gc_b_3_6 hI134 R_23)
      have f143 := (gc_b_3_7 hI134 R_23)
      have f144 := (gc_b_3_8 hI134 R_23)
      have KLT_I134 : gc_LT I134 := q132.2.2.1
      have KTK_I134 : gc_TK I134 := And.intro V132_0 (And.intro V132_1 (And.intro V132_2 (And.intro V132_3 V132_4)))
      have t145 := gc_TK_mo KTK_I134
      clear V132_0 V132_1 V132_2 V132_3 V132_4
      have A146 := gc_AT_nx A131 q132.2.2.2
      have t147 := gc_AT_l A146
      refine gv_callV hD rfl (As := []) (st := []) rfl B_23 S_23 rfl (gc_lV6 hws rfl) (Nat.le_of_ble_eq_true rfl) (gz_Ev_mono (d := 2) (by decide) E132) ?_
      show gv_X _ _ (55, [(2, .inl (3 * (I a1 14))), (0, .inr (.inr (some 39))), (1, .inr (.inr (some a1)))], [], sh, gc_h sh I134 J135 A)
      refine gv_run 2 true hD (pc' := 57) (lv' := [(2, .inl (3 * (I a1 14))), (0, .inr (.inr (some 39))), (1, .inr (.inr (some a1)))]) (st' := [.inr (.inr (some 39)), .inr (.inr (some 39))]) (h' := gc_h sh I134 J135 A) (C := ((True ∧ True) ∧ True)) rfl ⟨⟨trivial, trivial⟩, trivial⟩ ?_
      refine gv_get hD rfl rfl S_39 ⟨by decide, B_39⟩ (gc_h5 (t := t) S_39 rfl (by exact gz_m 95 (by omega))) ?_
      show gv_X _ _ (60, [(2, .inl (3 * (I a1 14))), (0, .inr (.inr (some 39))), (1, .inr (.inr (some a1)))], [.inr (.inr (some t)), .inr (.inr (some 39))], sh, gc_h sh I134 J135 A)
      refine gv_get hD rfl rfl S_t ⟨by decide, B_t⟩ (gc_hA S_t rfl A_t_0) ?_
      show gv_X _ _ (63, [(2, .inl (3 * (I a1 14))), (0, .inr (.inr (some 39))), (1, .inr (.inr (some a1)))], [.inr (.inr (some (t + 1))), .inr (.inr (some 39))], sh, gc_h sh I134 J135 A)
      obtain ⟨r148, h148, E148, P148⟩ := d_X6_needKnown_p (ws0 := ws0) (tb := tb) hws htb sh ro I134 J135 A hI134  8 6 β η (gs_X β η p9) (t + 1) hb h_t_1   A146 (by exact gz_m 96 (by omega)) 
      obtain ⟨I149, J150, rfl, hI149, g148, k148, ⟨z148, rfl, q148⟩⟩ := P148
      have FI149 := gc_frc (W := fun q j => (q = 39 ∧ j = 3) ∨ (q = 39 ∧ j = 4) ∨ (q = 23 ∧ j = 5) ∨ (q = 23 ∧ j = 6) ∨ (q = 23 ∧ j = 7) ∨ (q = 23 ∧ j = 8) ∨ q = (a1 + 8) ∨ (q = a1 ∧ j = 14)) (V := fun q j => (q = 39 ∧ j = 3) ∨ (q = 39 ∧ j = 4)) FI134 (fun q j h => (h.elim (fun h => (Or.inl h)) (fun h => (Or.inr (Or.inl h))))) g148
      have t151 := (g148 23 1).resolve_left (fun h => h.elim (fun h => absurd h.2 (gz_ne rfl)) (fun h => absurd h.2 (gz_ne rfl)))
      have t152 := (g148 23 5).resolve_left (fun h => h.elim (fun h => absurd h.2 (gz_ne rfl)) (fun h => absurd h.2 (gz_ne rfl)))
      have t153 := (g148 23 6).resolve_left (fun h => h.elim (fun h => absurd h.2 (gz_ne rfl)) (fun h => absurd h.2 (gz_ne rfl)))
      have t154 := (g148 23 7).resolve_left (fun h => h.elim (fun h => absurd h.2 (gz_ne rfl)) (fun h => absurd h.2 (gz_ne rfl)))
      have t155 := (g148 a1 14).resolve_left (fun h => h.elim (fun h => absurd h.2 (gz_ne rfl)) (fun h => absurd h.2 (gz_ne rfl)))
      have t156 := (g148 23 8).resolve_left (fun h => h.elim (fun h => absurd h.2 (gz_ne rfl)) (fun h => absurd h.2 (gz_ne rfl)))
      have t157 := (g148 (t + 1) 1).resolve_left (fun h => h.elim (fun h => absurd h.2 (gz_ne rfl)) (fun h => absurd h.2 (gz_ne rfl)))
      have t158 := (g148 (t + 3) 1).resolve_left (fun h => h.elim (fun h => absurd h.2 (gz_ne rfl)) (fun h => absurd h.2 (gz_ne rfl)))
      have t159 := (g148 39 2).resolve_left (fun h => h.elim (fun h => absurd h.2 (gz_ne rfl)) (fun h => absurd h.2 (gz_ne rfl)))
      obtain rfl : J135 = J150 := funext fun q => funext fun j => ((k148 q j).resolve_left id).symm
      have KLT_I149 := gc_LT_fr KLT_I134 ((g148 23 5).resolve_left (fun h => h.elim (fun h => absurd h.2 (gz_ne rfl)) (fun h => absurd h.2 (gz_ne rfl)))) ((g148 23 6).resolve_left (fun h => h.elim (fun h => absurd h.2 (gz_ne rfl)) (fun h => absurd h.2 (gz_ne rfl)))) ((g148 23 7).resolve_left (fun h => h.elim (fun h => absurd h.2 (gz_ne rfl)) (fun h => absurd h.2 (gz_ne rfl)))) (fun k => (g148 24 k).resolve_left (fun h => h.elim (fun h => absurd h.1 (gz_ne rfl)) (fun h => absurd h.1 (gz_ne rfl))))
      have KTK_I149 := gc_TK_fr KTK_I134 ((g148 23 1).resolve_left (fun h => h.elim (fun h => absurd h.2 (gz_ne rfl)) (fun h => absurd h.2 (gz_ne rfl)))) ((g148 23 5).resolve_left (fun h => h.elim (fun h => absurd h.2 (gz_ne rfl)) (fun h => absurd h.2 (gz_ne rfl)))) ((g148 23 6).resolve_left (fun h => h.elim (fun h => absurd h.2 (gz_ne rfl)) (fun h => absurd h.2 (gz_ne rfl)))) ((g148 23 7).resolve_left (fun h => h.elim (fun h => absurd h.2 (gz_ne rfl)) (fun h => absurd h.2 (gz_ne rfl))))
      have A160 := gc_AT_I A146 ((g148 23 1).resolve_left (fun h => h.elim (fun h => absurd h.2 (gz_ne rfl)) (fun h => absurd h.2 (gz_ne rfl)))) ((g148 23 5).resolve_left (fun h => h.elim (fun h => absurd h.2 (gz_ne rfl)) (fun h => absurd h.2 (gz_ne rfl)))) ((g148 23 6).resolve_left (fun h => h.elim (fun h => absurd h.2 (gz_ne rfl)) (fun h => absurd h.2 (gz_ne rfl)))) ((g148 23 7).resolve_left (fun h => h.elim (fun h => absurd h.2 (gz_ne rfl)) (fun h => absurd h.2 (gz_ne rfl)))) ((g148 23 8).resolve_left (fun h => h.elim (fun h => absurd h.2 (gz_ne rfl)) (fun h => absurd h.2 (gz_ne rfl)))) (fun k => (g148 24 k).resolve_left (fun h => h.elim (fun h => absurd h.1 (gz_ne rfl)) (fun h => absurd h.1 (gz_ne rfl))))
      have t161 := gc_AT_l A160
      refine gv_callV hD rfl (As := [.inr (.inr (some (t + 1)))]) (st := []) rfl B_39 S_39 rfl (gc_lV6 hws rfl) (Nat.le_of_ble_eq_true rfl) (gz_Ev_mono (d := 3) (by decide) E148) ?_
      show gv_X _ _ (66, [(2, .inl (3 * (I a1 14))), (0, .inr (.inr (some 39))), (1, .inr (.inr (some a1)))], [.inl z148], sh, gc_h sh I149 J135 A)
      refine gv_if_ne (t := 71) hD rfl rfl ⟨by exact gz_m 97 (by omega), by exact gz_m 98 (by omega)⟩ (fun c162 => ?_) (fun c162 => ?_)
      · show gv_X _ _ (71, [(2, .inl (3 * (I a1 14))), (0, .inr (.inr (some 39))), (1, .inr (.inr (some a1)))], [], sh, gc_h sh I149 J135 A)
        have u163 := gs_or1 q148.2.2.2 (by exact gz_m 99 (by omega))
        have L148 : gs_T β η (gs_X β η p9) = 1 → gc_fd (J135 ((t + 1) + 1)) (gs_M β η (gs_X β η p9)) (Int.toNat (I134 (t + 1) 1)) = gs_lt Jr 20 (8 * Ir 0 6) (Ir 13 (Int.toNat (Ir 0 6))) (gs_rn β η (gs_X β η p9)) := (fun h => by rw [show I134 (t + 1) 1 = I (t + 1) 1 from ((((g132 (t + 1) 1).resolve_left (by exact gz_m 100 (by omega))).trans (p121 (t + 1) 1 (by exact gz_m 101 (by omega)))).trans ((g102 (t + 1) 1).resolve_left (by exact gz_m 102 (by omega)))), show J135 ((t + 1) + 1) = J ((t + 1) + 1) from funext fun j => ((k132 (t + 2) j).resolve_left (by exact gz_m 103 (by omega)))]; exact gs_NA_lt x6 x5 h)
        have t164 := L148 (by exact gz_m 104 (by omega))
        refine gv_run 1 true hD (pc' := 72) (lv' := [(2, .inl (3 * (I a1 14))), (0, .inr (.inr (some 39))), (1, .inr (.inr (some a1)))]) (st' := [.inr (.inr (some a1))]) (h' := gc_h sh I149 J135 A) (C := (True ∧ True)) rfl ⟨trivial, trivial⟩ ?_
        refine gv_get hD rfl rfl S_a1 ⟨by decide, B_a1⟩ (gc_hA S_a1 rfl A_a1_15) ?_
        show gv_X _ _ (75, [(2, .inl (3 * (I a1 14))), (0, .inr (.inr (some 39))), (1, .inr (.inr (some a1)))], [.inr (.inr (some (a1 + 8)))], sh, gc_h sh I149 J135 A)
        refine gv_run 4 true hD (pc' := 79) (lv' := [(2, .inl (3 * (I a1 14))), (0, .inr (.inr (some 39))), (1, .inr (.inr (some a1)))]) (st' := [.inr (.inr (some 39)), .inl ((3 * (I a1 14)) + 1), .inr (.inr (some (a1 + 8)))]) (h' := gc_h sh I149 J135 A) (C := ((((True ∧ True) ∧ True) ∧ True) ∧ True)) rfl ⟨⟨⟨⟨trivial, trivial⟩, trivial⟩, trivial⟩, trivial⟩ ?_
        refine gv_get hD rfl rfl S_39 ⟨by decide, B_39⟩ (gc_h5 (t := t) S_39 rfl (by exact gz_m 105 (by omega))) ?_
        show gv_X _ _ (82, [(2, .inl (3 * (I a1 14))), (0, .inr (.inr (some 39))), (1, .inr (.inr (some a1)))], [.inr (.inr (some t)), .inl ((3 * (I a1 14)) + 1), .inr (.inr (some (a1 + 8)))], sh, gc_h sh I149 J135 A)
        refine gv_get hD rfl rfl S_t ⟨by decide, B_t⟩ (gc_hA S_t rfl A_t_0) ?_
        show gv_X _ _ (85, [(2, .inl (3 * (I a1 14))), (0, .inr (.inr (some 39))), (1, .inr (.inr (some a1)))], [.inr (.inr (some (t + 1))), .inl ((3 * (I a1 14)) + 1), .inr (.inr (some (a1 + 8)))], sh, gc_h sh I149 J135 A)
        refine gv_run 1 true hD (pc' := 86) (lv' := [(2, .inl (3 * (I a1 14))), (0, .inr (.inr (some 39))), (1, .inr (.inr (some a1)))]) (st' := [.inr (.inr (some 39)), .inr (.inr (some (t + 1))), .inl ((3 * (I a1 14)) + 1), .inr (.inr (some (a1 + 8)))]) (h' := gc_h sh I149 J135 A) (C := (True ∧ True)) rfl ⟨trivial, trivial⟩ ?_
        refine gv_get hD rfl rfl S_39 ⟨by decide, B_39⟩ (gc_hA S_39 rfl A_39_1) ?_
        show gv_X _ _ (89, [(2, .inl (3 * (I a1 14))), (0, .inr (.inr (some 39))), (1, .inr (.inr (some a1)))], [.inr (.inr (some 23)), .inr (.inr (some (t + 1))), .inl ((3 * (I a1 14)) + 1), .inr (.inr (some (a1 + 8)))], sh, gc_h sh I149 J135 A)
        refine gv_get hD rfl rfl S_23 ⟨by decide, B_23⟩ (gc_hJ S_23 rfl) ?_
        show gv_X _ _ (92, [(2, .inl (3 * (I a1 14))), (0, .inr (.inr (some 39))), (1, .inr (.inr (some a1)))], [.inr (.inl (J135 23 9)), .inr (.inr (some (t + 1))), .inl ((3 * (I a1 14)) + 1), .inr (.inr (some (a1 + 8)))], sh, gc_h sh I149 J135 A)
        obtain ⟨r165, h165, E165, P165⟩ := d_X4_find (ws0 := ws0) (tb := tb) hws htb sh ro I149 J135 A hI149 (t + 1) 8 6 (J135 23 9) h_t_1     
        obtain ⟨rfl, ⟨z165, rfl, q165⟩⟩ := P165
        have t166 : z165 = gs_lt Jr 20 (8 * Ir 0 6) (Ir 13 (Int.toNat (Ir 0 6))) (gs_rn β η (gs_X β η p9)) := q165.2.2.2.trans (by rw [gc_AT_m A160 (by exact gz_m 106 (by omega))]; exact (show gs_T β η (gs_X β η p9) = 1 → gc_fd (J135 ((t + 1) + 1)) (gs_M β η (gs_X β η p9)) (Int.toNat (I149 (t + 1) 1)) = gs_lt Jr 20 (8 * Ir 0 6) (Ir 13 (Int.toNat (Ir 0 6))) (gs_rn β η (gs_X β η p9)) from (fun h => by rw [show I149 (t + 1) 1 = I (t + 1) 1 from (((((g148 (t + 1) 1).resolve_left (by exact gz_m 107 (by omega))).trans ((g132 (t + 1) 1).resolve_left (by exact gz_m 108 (by omega)))).trans (p121 (t + 1) 1 (by exact gz_m 109 (by omega)))).trans ((g102 (t + 1) 1).resolve_left (by exact gz_m 110 (by omega)))), show J135 ((t + 1) + 1) = J ((t + 1) + 1) from funext fun j => ((k132 (t + 2) j).resolve_left (by exact gz_m 111 (by omega)))]; exact gs_NA_lt x6 x5 h)) (by exact gz_m 112 (by omega)))
        refine gv_callV hD rfl (As := [.inr (.inl (J135 23 9))]) (st := [.inl ((3 * (I a1 14)) + 1), .inr (.inr (some (a1 + 8)))]) rfl B_t_1 S_t_1 rfl (gc_lV6 hws rfl) (Nat.le_of_ble_eq_true rfl) (gz_Ev_mono (d := 1) (by decide) E165) ?_
        show gv_X _ _ (95, [(2, .inl (3 * (I a1 14))), (0, .inr (.inr (some 39))), (1, .inr (.inr (some a1)))], [.inl z165, .inl ((3 * (I a1 14)) + 1), .inr (.inr (some (a1 + 8)))], sh, gc_h sh I149 J135 A)
        obtain ⟨r167, h167, E167, P167⟩ := d_X11_shiftOf (ws0 := ws0) (tb := tb) hws htb sh ro I149 J135 A hI149  z165    ⟨by exact gz_m 113 (by omega), by exact gz_m 114 (by omega)⟩  
        obtain ⟨rfl, ⟨z167, rfl, q167⟩⟩ := P167
        refine gv_callS hD rfl (As := [.inl z165]) (st := [.inl ((3 * (I a1 14)) + 1), .inr (.inr (some (a1 + 8)))]) rfl (gc_lS6 hws rfl) (Nat.le_of_ble_eq_true rfl) (gz_Ev_mono (d := 1) (by decide) E167) ?_
        show gv_X _ _ (98, [(2, .inl (3 * (I a1 14))), (0, .inr (.inr (some 39))), (1, .inr (.inr (some a1)))], [.inl z167, .inl ((3 * (I a1 14)) + 1), .inr (.inr (some (a1 + 8)))], sh, gc_h sh I149 J135 A)
        refine gv_iast hD rfl S_a1_8 ⟨by decide, B_a1_8⟩ ⟨by exact gz_m 115 (by omega), by exact gz_m 116 (by omega)⟩ ?_
        refine gc_st hI149 S_a1_8 rfl R_a1_8 (lo := 0) (hi := 21) (gc_lom (c := 1) rfl (by exact gz_m 117 (by omega)) rfl) (gc_him (c := 1) rfl (by exact gz_m 118 (by omega)) rfl) (by exact gz_m 119 (by omega)) (by exact gz_m 120 (by omega)) (fun I168 hI168 q169 p169 => ?_)
        have FI168 := gc_frs (W := fun q j => (q = 39 ∧ j = 3) ∨ (q = 39 ∧ j = 4) ∨ (q = 23 ∧ j = 5) ∨ (q = 23 ∧ j = 6) ∨ (q = 23 ∧ j = 7) ∨ (q = 23 ∧ j = 8) ∨ q = (a1 + 8) ∨ (q = a1 ∧ j = 14)) FI149 (Or.inr (Or.inr (Or.inr (Or.inr (Or.inr (Or.inr (Or.inl rfl))))))) p169
        have t170 := p169 23 1 (fun h => absurd h.1 N_23__a1_8)
        have t171 := p169 23 5 (fun h => absurd h.1 N_23__a1_8)
        have t172 := p169 23 6 (fun h => absurd h.1 N_23__a1_8)
        have t173 := p169 23 7 (fun h => absurd h.1 N_23__a1_8)
        have t174 := p169 a1 14 (fun h => absurd h.1 N_a1__a1_8)
        have t175 := p169 23 8 (fun h => absurd h.1 N_23__a1_8)
        have t176 := p169 (t + 1) 1 (fun h => absurd h.1 N_t_1__a1_8)
        have t177 := p169 (t + 3) 1 (fun h => absurd h.1 N_t_3__a1_8)
        have t178 := p169 39 2 (fun h => absurd h.1 N_39__a1_8)
        have KLT_I168 := gc_LT_fr KLT_I149 (p169 23 5 (fun h => absurd h.1 N_23__a1_8)) (p169 23 6 (fun h => absurd h.1 N_23__a1_8)) (p169 23 7 (fun h => absurd h.1 N_23__a1_8)) (fun k => p169 24 k (fun h => absurd h.1 N_24__a1_8))
        have KTK_I168 := gc_TK_fr KTK_I149 (p169 23 1 (fun h => absurd h.1 N_23__a1_8)) (p169 23 5 (fun h => absurd h.1 N_23__a1_8)) (p169 23 6 (fun h => absurd h.1 N_23__a1_8)) (p169 23 7 (fun h => absurd h.1 N_23__a1_8))
        have A179 := gc_AT_I A160 (p169 23 1 (fun h => absurd h.1 N_23__a1_8)) (p169 23 5 (fun h => absurd h.1 N_23__a1_8)) (p169 23 6 (fun h => absurd h.1 N_23__a1_8)) (p169 23 7 (fun h => absurd h.1 N_23__a1_8)) (p169 23 8 (fun h => absurd h.1 N_23__a1_8)) (fun k => p169 24 k (fun h => absurd h.1 N_24__a1_8))
        show gv_X _ _ (99, [(2, .inl (3 * (I a1 14))), (0, .inr (.inr (some 39))), (1, .inr (.inr (some a1)))], [], sh, gc_h sh I168 J135 A)
        refine gv_run 2 true hD (pc' := 181) (lv' := [(2, .inl (3 * (I a1 14))), (0, .inr (.inr (some 39))), (1, .inr (.inr (some a1)))]) (st' := [.inr (.inr (some 39))]) (h' := gc_h sh I168 J135 A) (C := ((True ∧ True) ∧ True)) rfl ⟨⟨trivial, trivial⟩, trivial⟩ ?_
        refine gv_get hD rfl rfl S_39 ⟨by decide, B_39⟩ (gc_hA S_39 rfl A_39_1) ?_
        show gv_X _ _ (184, [(2, .inl (3 * (I a1 14))), (0, .inr (.inr (some 39))), (1, .inr (.inr (some a1)))], [.inr (.inr (some 23))], sh, gc_h sh I168 J135 A)
        have t181 := gc_TK_nx KTK_I168 (by exact gz_m 121 (by omega))
        obtain ⟨r180, h180, E180, P180⟩ := d_X9_advance_p (ws0 := ws0) (tb := tb) hws htb sh ro I168 J135 A hI168 23 β η  (gc_b23 hb)    (by exact gz_m 122 (by omega)) A179.1.1 A179.1.2 
        obtain ⟨I182, J183, rfl, hI182, g180, k180, ⟨rfl, V180_0, V180_1, V180_2, V180_3, V180_4, q180⟩⟩ := P180
        have FI182 := gc_frc (W := fun q j => (q = 39 ∧ j = 3) ∨ (q = 39 ∧ j = 4) ∨ (q = 23 ∧ j = 5) ∨ (q = 23 ∧ j = 6) ∨ (q = 23 ∧ j = 7) ∨ (q = 23 ∧ j = 8) ∨ q = (a1 + 8) ∨ (q = a1 ∧ j = 14)) (V := fun q j => (q = 23 ∧ j = 5) ∨ (q = 23 ∧ j = 6) ∨ (q = 23 ∧ j = 7) ∨ (q = 23 ∧ j = 8)) FI168 (fun q j h => (h.elim (fun h => (Or.inr (Or.inr (Or.inl h)))) (fun h => (h.elim (fun h => (Or.inr (Or.inr (Or.inr (Or.inl h))))) (fun h => (h.elim (fun h => (Or.inr (Or.inr (Or.inr (Or.inr (Or.inl h)))))) (fun h => (Or.inr (Or.inr (Or.inr (Or.inr (Or.inr (Or.inl h))))))))))))) g180
        have FJ183 := gc_frc (W := fun q j => (q = 23 ∧ j = 9)) (V := fun q j => (q = 23 ∧ j = 9)) FJ135 (fun q j h => h) k180
        have t184 := (g180 23 1).resolve_left (fun h => h.elim (fun h => absurd h.2 (gz_ne rfl)) (fun h => h.elim (fun h => absurd h.2 (gz_ne rfl)) (fun h => h.elim (fun h => absurd h.2 (gz_ne rfl)) (fun h => absurd h.2 (gz_ne rfl)))))
        have t185 := (g180 a1 14).resolve_left (fun h => h.elim (fun h => absurd h.2 (gz_ne rfl)) (fun h => h.elim (fun h => absurd h.2 (gz_ne rfl)) (fun h => h.elim (fun h => absurd h.2 (gz_ne rfl)) (fun h => absurd h.2 (gz_ne rfl)))))
        have t186 := (g180 (t + 1) 1).resolve_left (fun h => h.elim (fun h => absurd h.2 (gz_ne rfl)) (fun h => h.elim (fun h => absurd h.2 (gz_ne rfl)) (fun h => h.elim (fun h => absurd h.2 (gz_ne rfl)) (fun h => absurd h.2 (gz_ne rfl)))))
        have t187 := (g180 (t + 3) 1).resolve_left (fun h => h.elim (fun h => absurd h.2 (gz_ne rfl)) (fun h => h.elim (fun h => absurd h.2 (gz_ne rfl)) (fun h => h.elim (fun h => absurd h.2 (gz_ne rfl)) (fun h => absurd h.2 (gz_ne rfl)))))
        have t188 := (g180 39 2).resolve_left (fun h => h.elim (fun h => absurd h.2 (gz_ne rfl)) (fun h => h.elim (fun h => absurd h.2 (gz_ne rfl)) (fun h => h.elim (fun h => absurd h.2 (gz_ne rfl)) (fun h => absurd h.2 (gz_ne rfl)))))
        have f189 := (gc_b_3_5 hI182 R_23)
        have f190 := (gc_b_3_6 hI182 R_23)
        have f191 := (gc_b_3_7 hI182 R_23)
        have f192 := (gc_b_3_8 hI182 R_23)
        have KLT_I182 : gc_LT I182 := q180.2.2.1
        have KTK_I182 : gc_TK I182 := And.intro V180_0 (And.intro V180_1 (And.intro V180_2 (And.intro V180_3 V180_4)))
        have t193 := gc_TK_mo KTK_I182
        clear V180_0 V180_1 V180_2 V180_3 V180_4
        have A194 := gc_AT_nx A179 q180.2.2.2
        have t195 := gc_AT_l A194
        refine gv_callV hD rfl (As := []) (st := []) rfl B_23 S_23 rfl (gc_lV6 hws rfl) (Nat.le_of_ble_eq_true rfl) (gz_Ev_mono (d := 2) (by decide) E180) ?_
        show gv_X _ _ (187, [(2, .inl (3 * (I a1 14))), (0, .inr (.inr (some 39))), (1, .inr (.inr (some a1)))], [], sh, gc_h sh I182 J183 A)
        refine gv_run 2 true hD (pc' := 189) (lv' := [(2, .inl (3 * (I a1 14))), (0, .inr (.inr (some 39))), (1, .inr (.inr (some a1)))]) (st' := [.inr (.inr (some a1)), .inr (.inr (some a1))]) (h' := gc_h sh I182 J183 A) (C := ((True ∧ True) ∧ True)) rfl ⟨⟨trivial, trivial⟩, trivial⟩ ?_
        have f196 := (show 0 ≤ I182 a1 14 ∧ I182 a1 14 ≤ 6 from gc_in2 hI182 R_a1 rfl rfl rfl)
        refine gv_get hD rfl rfl S_a1 ⟨by decide, B_a1⟩ (gc_hI S_a1 rfl) ?_
        show gv_X _ _ (192, [(2, .inl (3 * (I a1 14))), (0, .inr (.inr (some 39))), (1, .inr (.inr (some a1)))], [.inl (I182 a1 14), .inr (.inr (some a1))], sh, gc_h sh I182 J183 A)
        refine gv_run 2 true hD (pc' := 194) (lv' := [(2, .inl (3 * (I a1 14))), (0, .inr (.inr (some 39))), (1, .inr (.inr (some a1)))]) (st' := [.inl ((I182 a1 14) + 1), .inr (.inr (some a1))]) (h' := gc_h sh I182 J183 A) (C := ((True ∧ True) ∧ True)) rfl ⟨⟨trivial, trivial⟩, trivial⟩ ?_
        refine gv_put hD rfl rfl S_a1 ⟨by decide, B_a1⟩ rfl trivial ?_
        refine gc_st (k := 14) hI182 S_a1 rfl R_a1 (lo := 0) (hi := 6) rfl rfl (by exact gz_m 123 (by omega)) (by exact gz_m 124 (by omega)) (fun I197 hI197 q198 p198 => ?_)
        have FI197 := gc_frs (W := fun q j => (q = 39 ∧ j = 3) ∨ (q = 39 ∧ j = 4) ∨ (q = 23 ∧ j = 5) ∨ (q = 23 ∧ j = 6) ∨ (q = 23 ∧ j = 7) ∨ (q = 23 ∧ j = 8) ∨ q = (a1 + 8) ∨ (q = a1 ∧ j = 14)) FI182 (Or.inr (Or.inr (Or.inr (Or.inr (Or.inr (Or.inr (Or.inr ⟨rfl, rfl⟩))))))) p198
        have t199 := p198 23 1 (fun h => absurd h.2 (gz_ne rfl))
        have t200 := p198 23 5 (fun h => absurd h.2 (gz_ne rfl))
        have t201 := p198 23 6 (fun h => absurd h.2 (gz_ne rfl))
        have t202 := p198 23 7 (fun h => absurd h.2 (gz_ne rfl))
        have t203 := p198 23 8 (fun h => absurd h.2 (gz_ne rfl))
        have t204 := p198 (t + 1) 1 (fun h => absurd h.2 (gz_ne rfl))
        have t205 := p198 (t + 3) 1 (fun h => absurd h.2 (gz_ne rfl))
        have t206 := p198 39 2 (fun h => absurd h.2 (gz_ne rfl))
        have f207 := (show 0 ≤ I197 a1 14 ∧ I197 a1 14 ≤ 6 from gc_in2 hI197 R_a1 rfl rfl rfl)
        have KLT_I197 := gc_LT_fr KLT_I182 (p198 23 5 (fun h => absurd h.2 (gz_ne rfl))) (p198 23 6 (fun h => absurd h.2 (gz_ne rfl))) (p198 23 7 (fun h => absurd h.2 (gz_ne rfl))) (fun k => p198 24 k (fun h => absurd h.1 N_24__a1))
        have KTK_I197 := gc_TK_fr KTK_I182 (p198 23 1 (fun h => absurd h.2 (gz_ne rfl))) (p198 23 5 (fun h => absurd h.2 (gz_ne rfl))) (p198 23 6 (fun h => absurd h.2 (gz_ne rfl))) (p198 23 7 (fun h => absurd h.2 (gz_ne rfl)))
        have A208 := gc_AT_I A194 (p198 23 1 (fun h => absurd h.2 (gz_ne rfl))) (p198 23 5 (fun h => absurd h.2 (gz_ne rfl))) (p198 23 6 (fun h => absurd h.2 (gz_ne rfl))) (p198 23 7 (fun h => absurd h.2 (gz_ne rfl))) (p198 23 8 (fun h => absurd h.2 (gz_ne rfl))) (fun k => p198 24 k (fun h => absurd h.1 N_24__a1))
        show gv_X _ _ (197, [(2, .inl (3 * (I a1 14))), (0, .inr (.inr (some 39))), (1, .inr (.inr (some a1)))], [], sh, gc_h sh I197 J183 A)
        refine gv_run 1 true hD (pc' := 198) (lv' := [(2, .inl (3 * (I a1 14))), (0, .inr (.inr (some 39))), (1, .inr (.inr (some a1)))]) (st' := [.inl 1]) (h' := gc_h sh I197 J183 A) (C := (True ∧ True)) rfl ⟨trivial, trivial⟩ ?_
        exact gv_zret hD rfl (by exact gz_m 125 (by omega)) ⟨I197, J183, rfl, hI197, FI197, FJ183, KLT_I197, KTK_I197, ⟨_, rfl, by exact gz_m 126 (by omega), by exact gz_m 127 (by omega), by exact gz_m 128 (by omega), by exact gz_m 129 (by omega), by exact gz_m 130 (by omega), (Or.inl ⟨by exact gz_m 131 (by omega), by have e9 : (gs_sg β η Ir Jr nf9 a9 p9) = (gs_X β η (gs_X β η p9)) := (by first | (exfalso; exact gz_m 132 (by omega)) | (unfold gs_sg; (repeat first | rw [if_pos (by exact gz_m 133 (by omega))] | rw [if_neg (by exact gz_m 134 (by omega))]); rw [u117]; unfold gs_sa2 gs_fo; (repeat first | rw [if_pos (by exact gz_m 135 (by omega))] | rw [if_neg (by exact gz_m 136 (by omega))]))); rw [e9]; exact ⟨by exact gz_m 137 (by omega), A208, by exact gz_m 138 (by omega)⟩⟩)⟩⟩
      · show gv_X _ _ (69, [(2, .inl (3 * (I a1 14))), (0, .inr (.inr (some 39))), (1, .inr (.inr (some a1)))], [], sh, gc_h sh I149 J135 A)
        have u209 := gs_or0 q148.2.2.2 (by exact gz_m 139 (by omega))
        have L148 : gs_T β η (gs_X β η p9) = 1 → gc_fd (J135 ((t + 1) + 1)) (gs_M β η (gs_X β η p9)) (Int.toNat (I134 (t + 1) 1)) = gs_lt Jr 20 (8 * Ir 0 6) (Ir 13 (Int.toNat (Ir 0 6))) (gs_rn β η (gs_X β η p9)) := (fun h => by rw [show I134 (t + 1) 1 = I (t + 1) 1 from ((((g132 (t + 1) 1).resolve_left (by exact gz_m 140 (by omega))).trans (p121 (t + 1) 1 (by exact gz_m 141 (by omega)))).trans ((g102 (t + 1) 1).resolve_left (by exact gz_m 142 (by omega)))), show J135 ((t + 1) + 1) = J ((t + 1) + 1) from funext fun j => ((k132 (t + 2) j).resolve_left (by exact gz_m 143 (by omega)))]; exact gs_NA_lt x6 x5 h)
        refine gv_run 1 true hD (pc' := 70) (lv' := [(2, .inl (3 * (I a1 14))), (0, .inr (.inr (some 39))), (1, .inr (.inr (some a1)))]) (st' := [.inl 0]) (h' := gc_h sh I149 J135 A) (C := (True ∧ True)) rfl ⟨trivial, trivial⟩ ?_
        exact gv_zret hD rfl (by exact gz_m 144 (by omega)) ⟨I149, J135, rfl, hI149, FI149, FJ135, KLT_I149, KTK_I149, ⟨_, rfl, by exact gz_m 145 (by omega), by exact gz_m 146 (by omega), by exact gz_m 147 (by omega), by exact gz_m 148 (by omega), by exact gz_m 149 (by omega), (Or.inr ⟨by exact gz_m 150 (by omega), by first | (exfalso; exact gz_m 151 (by omega)) | (unfold gs_sg; (repeat first | rw [if_pos (by exact gz_m 152 (by omega))] | rw [if_neg (by exact gz_m 153 (by omega))]); rw [u117]; unfold gs_sa2 gs_fo; by_cases c9 : gs_T β η (gs_X β η p9) = 1; (have h9 := L148 c9; (repeat first | rw [if_pos (by exact gz_m 154 (by omega))] | rw [if_neg (by exact gz_m 155 (by omega))]); exact ⟨by exact gz_m 156 (by omega), by exact gz_m 157 (by omega)⟩); (repeat first | rw [if_pos (by exact gz_m 158 (by omega))] | rw [if_neg (by exact gz_m 159 (by omega))]); exact ⟨by exact gz_m 160 (by omega), by exact gz_m 161 (by omega)⟩)⟩)⟩⟩
    · show gv_X _ _ (26, [(2, .inl (3 * (I a1 14))), (0, .inr (.inr (some 39))), (1, .inr (.inr (some a1)))], [], sh, gc_h sh I103 J A)
      have u210 := gs_or0 q102.2.2.2 (by exact gz_m 162 (by omega))
      refine gv_run 1 true hD (pc' := 27) (lv' := [(2, .inl (3 * (I a1 14))), (0, .inr (.inr (some 39))), (1, .inr (.inr (some a1)))]) (st' := [.inl 0]) (h' := gc_h sh I103 J A) (C := (True ∧ True)) rfl ⟨trivial, trivial⟩ ?_
      exact gv_zret hD rfl (by exact gz_m 163 (by omega)) ⟨I103, J, rfl, hI103, FI103, FJ, KLT_I103, KTK_I103, ⟨_, rfl, by exact gz_m 164 (by omega), by exact gz_m 165 (by omega), by exact gz_m 166 (by omega), by exact gz_m 167 (by omega), by exact gz_m 168 (by omega), (Or.inr ⟨by exact gz_m 169 (by omega), by unfold gs_sg; (repeat first | rw [if_pos (by exact gz_m 170 (by omega))] | rw [if_neg (by exact gz_m 171 (by omega))]); rw [u210.1]; unfold gs_sa2; (repeat first | rw [if_pos (by exact gz_m 172 (by omega))] | rw [if_neg (by exact gz_m 173 (by omega))]); exact ⟨by exact gz_m 174 (by omega), by exact gz_m 175 (by omega)⟩⟩)⟩⟩
