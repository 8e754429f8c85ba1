set_option maxHeartbeats 8000000 in
set_option maxRecDepth 100000 in
theorem d_X9_isWord_p {ws0 : List Cond} {tb : String → gz_T} (hws : gc_Ws ws0) (htb : gc_tbs tb) (sh : gz_Sh) (ro : Nat → Nat) (I : gr_I) (J : gr_J) (A : gc_A) (hI : gc_Inv ro I) (p : Nat)  (hp : gc_isText sh ro A p)   : ∃ r hₚ, gz_Ev ws0 tb 2 (yX9_isWord, cX9_isWord, 2, (some .boolean)) [.inr (.inr (some p))] sh (gc_h sh I J A) r sh hₚ 0 0 ∧ (hₚ = gc_h sh I J A ∧ (∃ z : Int, r = some (.inl z) ∧ 0 ≤ z ∧ z ≤ 1 ∧ (z = 0 ∨ (1 ≤ I p 1 ∧ I p 1 ≤ 24)) ∧ ((z = 1 ∧ so_wd (I p 1) (I (p + 1))) ∨ (z = 0 ∧ ¬ so_wd (I p 1) (I (p + 1)))))) := by
  obtain ⟨S_p, R_p, B_p, A_p_0, S_p_1, R_p_1, B_p_1, A_p_2, S_p_2, R_p_2, B_p_2, A_p_3, S_p_3, R_p_3, B_p_3⟩ := id hp
  have hD : gv_D (gc_E9 ws0 tb 1 (yX9_isWord, cX9_isWord, 2, (some .boolean)) kX9_isWord) := gq_of oX9_isWord
  refine gc_ev9 (d := 1) (l := kX9_isWord) (Po := fun r hₚ => (hₚ = gc_h sh I J A ∧ (∃ z : Int, r = some (.inl z) ∧ 0 ≤ z ∧ z ≤ 1 ∧ (z = 0 ∨ (1 ≤ I p 1 ∧ I p 1 ≤ 24)) ∧ ((z = 1 ∧ so_wd (I p 1) (I (p + 1))) ∨ (z = 0 ∧ ¬ so_wd (I p 1) (I (p + 1))))))) htb rfl (Nat.le_of_ble_eq_true rfl) ?_
  have f1 := (show 0 ≤ I p 1 ∧ I p 1 ≤ 1000 from gc_in2 hI R_p rfl rfl rfl)
  have L2 : ∀ (n9 : Nat) (v1_2 : Int), (1001 - v1_2).toNat < n9 → ((0 ≤ v1_2 ∧ v1_2 ≤ 1000)) → (∀ k : Nat, (k : Int) < v1_2 → 97 ≤ I (p + 1) k ∧ I (p + 1) k ≤ 122) → gv_X (gc_E9 ws0 tb 1 (yX9_isWord, cX9_isWord, 2, (some .boolean)) kX9_isWord) (gv_Q cX9_isWord (some .boolean) sh (fun r hₚ => (hₚ = gc_h sh I J A ∧ (∃ z : Int, r = some (.inl z) ∧ 0 ≤ z ∧ z ≤ 1 ∧ (z = 0 ∨ (1 ≤ I p 1 ∧ I p 1 ≤ 24)) ∧ ((z = 1 ∧ so_wd (I p 1) (I (p + 1))) ∨ (z = 0 ∧ ¬ so_wd (I p 1) (I (p + 1)))))))) (2, [(0, .inr (.inr (some p))), (1, .inl v1_2)], [], sh, gc_h sh I J A) := by
    intro n9
    induction n9 with
    | zero => intro v1_2 hn; exact gz_m 0 (by omega)
    | succ n9 ih2 =>
      intro v1_2 hn m_2 k_2
      have hv1_2 := m_2
      have f3 := (show 0 ≤ I p 1 ∧ I p 1 ≤ 1000 from gc_in2 hI R_p rfl rfl rfl)
      have L52 : ∀ (s0_4 : Int), ((0 ≤ s0_4 ∧ s0_4 ≤ 1) ∧ (s0_4 = 0 ∨ (1 ≤ I p 1 ∧ I p 1 ≤ 24))) → ((s0_4 = 1 ∧ so_wd (I p 1) (I (p + 1))) ∨ (s0_4 = 0 ∧ ¬ so_wd (I p 1) (I (p + 1)))) → gv_X (gc_E9 ws0 tb 1 (yX9_isWord, cX9_isWord, 2, (some .boolean)) kX9_isWord) (gv_Q cX9_isWord (some .boolean) sh (fun r hₚ => (hₚ = gc_h sh I J A ∧ (∃ z : Int, r = some (.inl z) ∧ 0 ≤ z ∧ z ≤ 1 ∧ (z = 0 ∨ (1 ≤ I p 1 ∧ I p 1 ≤ 24)) ∧ ((z = 1 ∧ so_wd (I p 1) (I (p + 1))) ∨ (z = 0 ∧ ¬ so_wd (I p 1) (I (p + 1)))))))) (52, [], [.inl s0_4], sh, gc_h sh I J A) := by
        intro s0_4 m_4 z_4
        obtain ⟨hs0_4, e0_4⟩ := m_4
        have f5 := (show 0 ≤ I p 1 ∧ I p 1 ≤ 1000 from gc_in2 hI R_p rfl rfl rfl)
        exact gv_zret hD rfl (by exact gz_m 1 (by omega)) ⟨rfl, ⟨_, rfl, by exact gz_m 2 (by omega), by exact gz_m 3 (by omega), by exact gz_m 4 (by omega), z_4⟩⟩
      have L51 : ¬ so_wd (I p 1) (I (p + 1)) → gv_X (gc_E9 ws0 tb 1 (yX9_isWord, cX9_isWord, 2, (some .boolean)) kX9_isWord) (gv_Q cX9_isWord (some .boolean) sh (fun r hₚ => (hₚ = gc_h sh I J A ∧ (∃ z : Int, r = some (.inl z) ∧ 0 ≤ z ∧ z ≤ 1 ∧ (z = 0 ∨ (1 ≤ I p 1 ∧ I p 1 ≤ 24)) ∧ ((z = 1 ∧ so_wd (I p 1) (I (p + 1))) ∨ (z = 0 ∧ ¬ so_wd (I p 1) (I (p + 1)))))))) (51, [], [], sh, gc_h sh I J A) := by
        intro n_51
        have f7 := (show 0 ≤ I p 1 ∧ I p 1 ≤ 1000 from gc_in2 hI R_p rfl rfl rfl)
        refine gv_run 1 true hD (pcₚ := 52) (lvₚ := []) (stₚ := [.inl 0]) (hₚ := gc_h sh I J A) (C := (True ∧ True)) rfl ⟨trivial, trivial⟩ ?_
        exact L52 0 (by exact gz_m 5 (by omega)) (Or.inr ⟨rfl, n_51⟩)
      refine gv_run 2 true hD (pcₚ := 4) (lvₚ := [(0, .inr (.inr (some p))), (1, .inl v1_2)]) (stₚ := [.inr (.inr (some p)), .inl v1_2]) (hₚ := gc_h sh I J A) (C := ((True ∧ True) ∧ True)) rfl ⟨⟨trivial, trivial⟩, trivial⟩ ?_
      have f8 := (show 0 ≤ I p 1 ∧ I p 1 ≤ 1000 from gc_in2 hI R_p rfl rfl rfl)
      refine gv_get hD rfl rfl S_p ⟨by decide, B_p⟩ (gc_hI S_p rfl) ?_
      show gv_X _ _ (7, [(0, .inr (.inr (some p))), (1, .inl v1_2)], [.inl (I p 1), .inl v1_2], sh, gc_h sh I J A)
      refine gv_icmp_ge (t := 30) hD rfl rfl ⟨⟨by exact gz_m 6 (by omega), by exact gz_m 7 (by omega)⟩, ⟨by exact gz_m 8 (by omega), by exact gz_m 9 (by omega)⟩⟩ (fun c9 => ?_) (fun c9 => ?_)
      · show gv_X _ _ (30, [(0, .inr (.inr (some p))), (1, .inl v1_2)], [], sh, gc_h sh I J A)
        refine gv_run 1 true hD (pcₚ := 31) (lvₚ := [(0, .inr (.inr (some p))), (1, .inl v1_2)]) (stₚ := [.inr (.inr (some p))]) (hₚ := gc_h sh I J A) (C := (True ∧ True)) rfl ⟨trivial, trivial⟩ ?_
        have f10 := (show 0 ≤ I p 1 ∧ I p 1 ≤ 1000 from gc_in2 hI R_p rfl rfl rfl)
        refine gv_get hD rfl rfl S_p ⟨by decide, B_p⟩ (gc_hI S_p rfl) ?_
        show gv_X _ _ (34, [(0, .inr (.inr (some p))), (1, .inl v1_2)], [.inl (I p 1)], sh, gc_h sh I J A)
        refine gv_run 1 true hD (pcₚ := 35) (lvₚ := [(0, .inr (.inr (some p))), (1, .inl v1_2)]) (stₚ := [.inl 1, .inl (I p 1)]) (hₚ := gc_h sh I J A) (C := (True ∧ True)) rfl ⟨trivial, trivial⟩ ?_
        refine gv_icmp_lt (t := 51) hD rfl rfl ⟨⟨by exact gz_m 10 (by omega), by exact gz_m 11 (by omega)⟩, ⟨by exact gz_m 12 (by omega), by exact gz_m 13 (by omega)⟩⟩ (fun c11 => ?_) (fun c11 => ?_)
        · show gv_X _ _ (51, [(0, .inr (.inr (some p))), (1, .inl v1_2)], [], sh, gc_h sh I J A)
          refine gv_pick [] rfl ?_
          exact L51 (fun h => by have := h.1; exact gz_m 14 (by omega))
        · show gv_X _ _ (38, [(0, .inr (.inr (some p))), (1, .inl v1_2)], [], sh, gc_h sh I J A)
          refine gv_run 1 true hD (pcₚ := 39) (lvₚ := [(0, .inr (.inr (some p))), (1, .inl v1_2)]) (stₚ := [.inr (.inr (some p))]) (hₚ := gc_h sh I J A) (C := (True ∧ True)) rfl ⟨trivial, trivial⟩ ?_
          have f12 := (show 0 ≤ I p 1 ∧ I p 1 ≤ 1000 from gc_in2 hI R_p rfl rfl rfl)
          refine gv_get hD rfl rfl S_p ⟨by decide, B_p⟩ (gc_hI S_p rfl) ?_
          show gv_X _ _ (42, [(0, .inr (.inr (some p))), (1, .inl v1_2)], [.inl (I p 1)], sh, gc_h sh I J A)
          refine gv_run 1 true hD (pcₚ := 44) (lvₚ := [(0, .inr (.inr (some p))), (1, .inl v1_2)]) (stₚ := [.inl 24, .inl (I p 1)]) (hₚ := gc_h sh I J A) (C := (True ∧ True)) rfl ⟨trivial, trivial⟩ ?_
          refine gv_icmp_gt (t := 51) hD rfl rfl ⟨⟨by exact gz_m 15 (by omega), by exact gz_m 16 (by omega)⟩, ⟨by exact gz_m 17 (by omega), by exact gz_m 18 (by omega)⟩⟩ (fun c13 => ?_) (fun c13 => ?_)
          · show gv_X _ _ (51, [(0, .inr (.inr (some p))), (1, .inl v1_2)], [], sh, gc_h sh I J A)
            refine gv_pick [] rfl ?_
            exact L51 (fun h => by have := h.1; exact gz_m 19 (by omega))
          · show gv_X _ _ (47, [(0, .inr (.inr (some p))), (1, .inl v1_2)], [], sh, gc_h sh I J A)
            refine gv_run 2 true hD (pcₚ := 52) (lvₚ := [(0, .inr (.inr (some p))), (1, .inl v1_2)]) (stₚ := [.inl 1]) (hₚ := gc_h sh I J A) (C := ((True ∧ True) ∧ True)) rfl ⟨⟨trivial, trivial⟩, trivial⟩ ?_
            refine gv_pick [] rfl ?_
            exact L52 1 (by exact gz_m 20 (by omega)) (Or.inl ⟨rfl, ⟨by exact gz_m 21 (by omega), by exact gz_m 22 (by omega)⟩, fun k hk => k_2 k (by exact gz_m 23 (by omega))⟩)
      · show gv_X _ _ (10, [(0, .inr (.inr (some p))), (1, .inl v1_2)], [], sh, gc_h sh I J A)
        refine gv_run 1 true hD (pcₚ := 11) (lvₚ := [(0, .inr (.inr (some p))), (1, .inl v1_2)]) (stₚ := [.inr (.inr (some p))]) (hₚ := gc_h sh I J A) (C := (True ∧ True)) rfl ⟨trivial, trivial⟩ ?_
        refine gv_get hD rfl rfl S_p ⟨by decide, B_p⟩ (gc_hA S_p rfl A_p_0) ?_
        show gv_X _ _ (14, [(0, .inr (.inr (some p))), (1, .inl v1_2)], [.inr (.inr (some (p + 1)))], sh, gc_h sh I J A)
        refine gv_run 1 true hD (pcₚ := 15) (lvₚ := [(0, .inr (.inr (some p))), (1, .inl v1_2)]) (stₚ := [.inl v1_2, .inr (.inr (some (p + 1)))]) (hₚ := gc_h sh I J A) (C := (True ∧ True)) rfl ⟨trivial, trivial⟩ ?_
        have f14 := (show (-128) ≤ I (p + 1) (Int.toNat v1_2) ∧ I (p + 1) (Int.toNat v1_2) ≤ 127 from gc_in2 hI R_p_1 rfl rfl rfl)
        refine gv_bald hD rfl S_p_1 (Or.inl rfl) ⟨by decide, B_p_1⟩ ⟨by exact gz_m 24 (by omega), by exact gz_m 25 (by omega)⟩ (gc_iI S_p_1 rfl) ?_
        show gv_X _ _ (16, [(0, .inr (.inr (some p))), (1, .inl v1_2)], [.inl (I (p + 1) (Int.toNat v1_2))], sh, gc_h sh I J A)
        obtain ⟨r15, h15, E15, P15⟩ := d_X9_isLetter_p (ws0 := ws0) (tb := tb) hws htb sh ro I J A hI  ((I (p + 1) (Int.toNat v1_2)))    ⟨by exact gz_m 26 (by omega), by exact gz_m 27 (by omega)⟩  
        obtain ⟨rfl, ⟨z15, rfl, q15⟩⟩ := P15
        refine gv_callS hD rfl (As := [.inl (I (p + 1) (Int.toNat v1_2))]) (st := []) rfl (gc_lS9 hws rfl) (Nat.le_of_ble_eq_true rfl) (gz_Ev_mono (d := 1) (by decide) E15) ?_
        show gv_X _ _ (19, [(0, .inr (.inr (some p))), (1, .inl v1_2)], [.inl z15], sh, gc_h sh I J A)
        refine gv_if_ne (t := 24) hD rfl rfl ⟨by exact gz_m 28 (by omega), by exact gz_m 29 (by omega)⟩ (fun c16 => ?_) (fun c16 => ?_)
        · show gv_X _ _ (24, [(0, .inr (.inr (some p))), (1, .inl v1_2)], [], sh, gc_h sh I J A)
          refine gv_run 2 true hD (pcₚ := 2) (lvₚ := [(1, .inl (v1_2 + 1)), (0, .inr (.inr (some p)))]) (stₚ := []) (hₚ := gc_h sh I J A) (C := ((True ∧ True) ∧ True)) rfl ⟨⟨trivial, trivial⟩, trivial⟩ ?_
          refine gv_pick [1, 0] rfl ?_
          exact ih2 (v1_2 + 1) (by exact gz_m 30 (by omega)) (by exact gz_m 31 (by omega)) (fun k hk => if e9 : k = Int.toNat v1_2 then (by rw [e9]; exact gz_m 32 (by omega)) else k_2 k (by exact gz_m 33 (by omega)))
        · show gv_X _ _ (22, [(0, .inr (.inr (some p))), (1, .inl v1_2)], [], sh, gc_h sh I J A)
          refine gv_run 1 true hD (pcₚ := 23) (lvₚ := [(0, .inr (.inr (some p))), (1, .inl v1_2)]) (stₚ := [.inl 0]) (hₚ := gc_h sh I J A) (C := (True ∧ True)) rfl ⟨trivial, trivial⟩ ?_
          exact gv_zret hD rfl (by exact gz_m 34 (by omega)) ⟨rfl, ⟨_, rfl, by exact gz_m 35 (by omega), by exact gz_m 36 (by omega), by exact gz_m 37 (by omega), Or.inr ⟨rfl, fun h => by have h9 := h.2 (Int.toNat v1_2) (by exact gz_m 38 (by omega)); exact gz_m 39 (by omega)⟩⟩⟩
  refine gv_run 2 true hD (pcₚ := 2) (lvₚ := [(1, .inl 0), (0, .inr (.inr (some p)))]) (stₚ := []) (hₚ := gc_h sh I J A) (C := ((True ∧ True) ∧ True)) rfl ⟨⟨trivial, trivial⟩, trivial⟩ ?_
  refine gv_pick [1, 0] rfl ?_
  exact L2 _ 0 (Nat.lt_succ_self _) (by exact gz_m 40 (by omega)) (fun k hk => absurd hk (by exact gz_m 41 (by omega)))
set_option maxHeartbeats 8000000 in
set_option maxRecDepth 100000 in
theorem d_X12_sounds_p {ws0 : List Cond} {tb : String → gz_T} (hws : gc_Ws ws0) (htb : gc_tbs tb) (sh : gz_Sh) (ro : Nat → Nat) (I : gr_I) (J : gr_J) (A : gc_A) (hI : gc_Inv ro I) (t : Nat) (a1 : Int) (hb : gc_Base sh ro A) (h_t : gc_isTongue sh ro A t) (G_t : 144 ≤ t) (ha1 : 0 ≤ a1 ∧ a1 ≤ 7) (x0 : 0 ≤ a1 ∧ a1 < I 8 1) (x1 : A 10 (Int.toNat a1) = some t) (x2 : gc_sc (t + 10) I) (y0 : ¬ I (t + 17) 6 = I (t + 17) 7) (y1 : so_lhs I t) : ∃ r hₚ, gz_Ev ws0 tb 6 (yX12_sounds, cX12_sounds, 4, (some .int)) [.inr (.inr (some 0)), .inl a1] sh (gc_h sh I J A) r sh hₚ 0 0 ∧ (∃ (Iₚ : gr_I) (Jₚ : gr_J), hₚ = gc_h sh Iₚ Jₚ A ∧ gc_Inv ro Iₚ ∧ (∀ q j : Nat, ((q = 27 ∧ j = 1) ∨ q = 28 ∨ (q = 23 ∧ j = 1) ∨ (q = (t + 17) ∧ j = 6) ∨ (q = (t + 17) ∧ j = 7) ∨ q = (t + 23) ∨ q = (t + 24)) ∨ Iₚ q j = I q j) ∧ (∀ q j : Nat, (False) ∨ Jₚ q j = J q j) ∧ (∃ z : Int, r = some (.inl z) ∧ (-3) ≤ z ∧ z ≤ 24 ∧ (Iₚ 23 1 = 0) ∧ so_ans (fun k : Nat => so_rc I t (k : Int)) (Int.toNat (I t 6)) (I 23 1) (I 24) z ∧ ¬ Iₚ (t + 17) 6 = Iₚ (t + 17) 7)) := by
  have FI : ∀ q j : Nat, ((q = 27 ∧ j = 1) ∨ q = 28 ∨ (q = 23 ∧ j = 1) ∨ (q = (t + 17) ∧ j = 6) ∨ (q = (t + 17) ∧ j = 7) ∨ q = (t + 23) ∨ q = (t + 24)) ∨ I q j = I q j := fun _ _ => Or.inr rfl
  have FJ : ∀ q j : Nat, (False) ∨ J q j = J q j := fun _ _ => Or.inr rfl
  have A_0_1 : A 0 1 = some 23 := gc_bA_0_1 hb
  have A_0_2 : A 0 2 = some 27 := gc_bA_0_2 hb
  have B_0 : 0 < 1000000 := by decide
  have B_23 : 23 < 1000000 := by decide
  have B_27 : 27 < 1000000 := by decide
  have R_23 : ro 23 = 3 := gc_bR_23 hb
  have R_27 : ro 27 = 3 := gc_bR_27 hb
  have S_0 : sh[0]? = some (false, 12, 17) := gc_bS_0 hb
  have S_23 : sh[23]? = some (false, 9, 10) := gc_bS_23 hb
  have S_27 : sh[27]? = some (false, 9, 10) := gc_bS_27 hb
  obtain ⟨S_t, R_t, B_t, A_t_0, h_t_1, A_t_1, h_t_3, A_t_2, S_t_5, R_t_5, B_t_5, A_t_3, S_t_6, R_t_6, B_t_6, A_t_4, h_t_7, A_t_5, S_t_9, R_t_9, B_t_9, A_t_7, S_t_10, R_t_10, B_t_10, A_t_8, h_t_11, A_t_9, S_t_13, R_t_13, B_t_13, A_t_10, S_t_14, R_t_14, B_t_14, A_t_12, S_t_15, R_t_15, B_t_15, A_t_14, S_t_16, R_t_16, B_t_16, A_t_15, h_t_17⟩ := id h_t
  obtain ⟨S_t_1, R_t_1, B_t_1, A_t_1_0, S_t_1_1, R_t_1_1, B_t_1_1, Q0_t_1, Q1_t_1, Q2_t_1⟩ := id h_t_1
  obtain ⟨S_t_3, R_t_3, B_t_3, A_t_3_0, S_t_3_1, R_t_3_1, B_t_3_1, Q0_t_3, Q1_t_3, Q2_t_3⟩ := id h_t_3
  obtain ⟨S_t_7, R_t_7, B_t_7, A_t_7_0, S_t_7_1, R_t_7_1, B_t_7_1, Q0_t_7, Q1_t_7, Q2_t_7⟩ := id h_t_7
  obtain ⟨S_t_11, R_t_11, B_t_11, A_t_11_0, S_t_11_1, R_t_11_1, B_t_11_1, Q0_t_11, Q1_t_11, Q2_t_11⟩ := id h_t_11
  obtain ⟨S_t_17, R_t_17, B_t_17, A_t_17_0, S_20, R_20, B_20, A_t_17_1, S_t_17_1, R_t_17_1, B_t_17_1, A_t_17_2, S_t_17_2, R_t_17_2, B_t_17_2, A_t_17_3, S_t_17_3, R_t_17_3, B_t_17_3, A_t_17_4, S_t_17_4, R_t_17_4, B_t_17_4, A_t_17_5, S_t_17_5, R_t_17_5, B_t_17_5, S_t_17_6, R_t_17_6, B_t_17_6, S_t_17_7, R_t_17_7, B_t_17_7⟩ := id h_t_17
  have hD : gv_D (gc_E12 ws0 tb 5 (yX12_sounds, cX12_sounds, 4, (some .int)) kX12_sounds) := gq_of oX12_sounds
  refine gc_ev12 (d := 5) (l := kX12_sounds) (Po := fun r hₚ => (∃ (Iₚ : gr_I) (Jₚ : gr_J), hₚ = gc_h sh Iₚ Jₚ A ∧ gc_Inv ro Iₚ ∧ (∀ q j : Nat, ((q = 27 ∧ j = 1) ∨ q = 28 ∨ (q = 23 ∧ j = 1) ∨ (q = (t + 17) ∧ j = 6) ∨ (q = (t + 17) ∧ j = 7) ∨ q = (t + 23) ∨ q = (t + 24)) ∨ Iₚ q j = I q j) ∧ (∀ q j : Nat, (False) ∨ Jₚ q j = J q j) ∧ (∃ z : Int, r = some (.inl z) ∧ (-3) ≤ z ∧ z ≤ 24 ∧ (Iₚ 23 1 = 0) ∧ so_ans (fun k : Nat => so_rc I t (k : Int)) (Int.toNat (I t 6)) (I 23 1) (I 24) z ∧ ¬ Iₚ (t + 17) 6 = Iₚ (t + 17) 7))) htb rfl (Nat.le_of_ble_eq_true rfl) ?_
  have N_23__t_23 : ¬ (23 = (t + 23)) := by exact gz_m 0 (by omega)
  have N_23__t_24 : ¬ (23 = (t + 24)) := by exact gz_m 1 (by omega)
  have f1 := (gc_b_3_1 hI R_23)
  have L40 : ∀ (I2 : gr_I) (J3 : gr_J) (v3_4 : Int), gc_Inv ro I2 → (∀ q j : Nat, ((q = 27 ∧ j = 1) ∨ q = 28 ∨ (q = 23 ∧ j = 1) ∨ (q = (t + 17) ∧ j = 6) ∨ (q = (t + 17) ∧ j = 7) ∨ q = (t + 23) ∨ q = (t + 24)) ∨ I2 q j = I q j) → (∀ q j : Nat, (False) ∨ J3 q j = J q j) → (((-3) ≤ v3_4 ∧ v3_4 ≤ 24)) → (so_ans (fun k : Nat => so_rc I t (k : Int)) (Int.toNat (I t 6)) (I 23 1) (I 24) v3_4 ∧ ¬ I2 (t + 17) 6 = I2 (t + 17) 7) → gv_X (gc_E12 ws0 tb 5 (yX12_sounds, cX12_sounds, 4, (some .int)) kX12_sounds) (gv_Q cX12_sounds (some .int) sh (fun r hₚ => (∃ (Iₚ : gr_I) (Jₚ : gr_J), hₚ = gc_h sh Iₚ Jₚ A ∧ gc_Inv ro Iₚ ∧ (∀ q j : Nat, ((q = 27 ∧ j = 1) ∨ q = 28 ∨ (q = 23 ∧ j = 1) ∨ (q = (t + 17) ∧ j = 6) ∨ (q = (t + 17) ∧ j = 7) ∨ q = (t + 23) ∨ q = (t + 24)) ∨ Iₚ q j = I q j) ∧ (∀ q j : Nat, (False) ∨ Jₚ q j = J q j) ∧ (∃ z : Int, r = some (.inl z) ∧ (-3) ≤ z ∧ z ≤ 24 ∧ (Iₚ 23 1 = 0) ∧ so_ans (fun k : Nat => so_rc I t (k : Int)) (Int.toNat (I t 6)) (I 23 1) (I 24) z ∧ ¬ Iₚ (t + 17) 6 = Iₚ (t + 17) 7)))) (40, [(0, .inr (.inr (some 0))), (2, .inr (.inr (some t))), (3, .inl v3_4)], [], sh, gc_h sh I2 J3 A) := by
    intro I2 J3 v3_4 hI2 FI2 FJ3 m_4 k_4
    have hv3_4 := m_4
    have f5 := (gc_b_3_1 hI2 R_23)
    have L68 : ∀ (I6 : gr_I) (J7 : gr_J) , gc_Inv ro I6 → (∀ q j : Nat, ((q = 27 ∧ j = 1) ∨ q = 28 ∨ (q = 23 ∧ j = 1) ∨ (q = (t + 17) ∧ j = 6) ∨ (q = (t + 17) ∧ j = 7) ∨ q = (t + 23) ∨ q = (t + 24)) ∨ I6 q j = I q j) → (∀ q j : Nat, (False) ∨ J7 q j = J q j) → (((-3) ≤ v3_4 ∧ v3_4 ≤ 24) ∧ (I6 23 1 = 0)) → ¬ I6 (t + 17) 6 = I6 (t + 17) 7 → gv_X (gc_E12 ws0 tb 5 (yX12_sounds, cX12_sounds, 4, (some .int)) kX12_sounds) (gv_Q cX12_sounds (some .int) sh (fun r hₚ => (∃ (Iₚ : gr_I) (Jₚ : gr_J), hₚ = gc_h sh Iₚ Jₚ A ∧ gc_Inv ro Iₚ ∧ (∀ q j : Nat, ((q = 27 ∧ j = 1) ∨ q = 28 ∨ (q = 23 ∧ j = 1) ∨ (q = (t + 17) ∧ j = 6) ∨ (q = (t + 17) ∧ j = 7) ∨ q = (t + 23) ∨ q = (t + 24)) ∨ Iₚ q j = I q j) ∧ (∀ q j : Nat, (False) ∨ Jₚ q j = J q j) ∧ (∃ z : Int, r = some (.inl z) ∧ (-3) ≤ z ∧ z ≤ 24 ∧ (Iₚ 23 1 = 0) ∧ so_ans (fun k : Nat => so_rc I t (k : Int)) (Int.toNat (I t 6)) (I 23 1) (I 24) z ∧ ¬ Iₚ (t + 17) 6 = Iₚ (t + 17) 7)))) (68, [(3, .inl v3_4)], [], sh, gc_h sh I6 J7 A) := by
      intro I6 J7 hI6 FI6 FJ7 m_8 k_8
      clear hv3_4 f5
      obtain ⟨hv3_4_8, e0_8⟩ := m_8
      have f9 := (gc_b_3_1 hI6 R_23)
      refine gv_run 1 true hD (pcₚ := 69) (lvₚ := [(3, .inl v3_4)]) (stₚ := [.inl v3_4]) (hₚ := gc_h sh I6 J7 A) (C := (True ∧ True)) rfl ⟨trivial, trivial⟩ ?_
      exact gv_iret hD rfl ⟨I6, J7, rfl, hI6, FI6, FJ7, ⟨_, rfl, by exact gz_m 2 (by omega), by exact gz_m 3 (by omega), by exact gz_m 4 (by omega), k_4.1, k_8⟩⟩
    refine gv_run 1 true hD (pcₚ := 41) (lvₚ := [(0, .inr (.inr (some 0))), (2, .inr (.inr (some t))), (3, .inl v3_4)]) (stₚ := [.inr (.inr (some 0))]) (hₚ := gc_h sh I2 J3 A) (C := (True ∧ True)) rfl ⟨trivial, trivial⟩ ?_
    refine gv_get hD rfl rfl S_0 ⟨by decide, B_0⟩ (gc_hA S_0 rfl A_0_1) ?_
    show gv_X _ _ (44, [(0, .inr (.inr (some 0))), (2, .inr (.inr (some t))), (3, .inl v3_4)], [.inr (.inr (some 23))], sh, gc_h sh I2 J3 A)
    refine gv_run 1 true hD (pcₚ := 45) (lvₚ := [(0, .inr (.inr (some 0))), (2, .inr (.inr (some t))), (3, .inl v3_4)]) (stₚ := [.inl 0, .inr (.inr (some 23))]) (hₚ := gc_h sh I2 J3 A) (C := (True ∧ True)) rfl ⟨trivial, trivial⟩ ?_
    refine gv_put hD rfl rfl S_23 ⟨by decide, B_23⟩ rfl trivial ?_
    refine gc_st (k := 1) hI2 S_23 rfl R_23 (lo := 0) (hi := 1000) rfl rfl (by exact gz_m 5 (by omega)) (by exact gz_m 6 (by omega)) (fun I10 hI10 q11 p11 => ?_)
    have FI10 := gc_frs (W := fun q j => (q = 27 ∧ j = 1) ∨ q = 28 ∨ (q = 23 ∧ j = 1) ∨ (q = (t + 17) ∧ j = 6) ∨ (q = (t + 17) ∧ j = 7) ∨ q = (t + 23) ∨ q = (t + 24)) FI2 (Or.inr (Or.inr (Or.inl ⟨rfl, rfl⟩))) p11
    have f12 := (gc_b_3_1 hI10 R_23)
    show gv_X _ _ (48, [(0, .inr (.inr (some 0))), (2, .inr (.inr (some t))), (3, .inl v3_4)], [], sh, gc_h sh I10 J3 A)
    refine gv_run 1 true hD (pcₚ := 49) (lvₚ := [(0, .inr (.inr (some 0))), (2, .inr (.inr (some t))), (3, .inl v3_4)]) (stₚ := [.inl v3_4]) (hₚ := gc_h sh I10 J3 A) (C := (True ∧ True)) rfl ⟨trivial, trivial⟩ ?_
    refine gv_if_le (t := 68) hD rfl rfl ⟨by exact gz_m 7 (by omega), by exact gz_m 8 (by omega)⟩ (fun c13 => ?_) (fun c13 => ?_)
    · show gv_X _ _ (68, [(0, .inr (.inr (some 0))), (2, .inr (.inr (some t))), (3, .inl v3_4)], [], sh, gc_h sh I10 J3 A)
      refine gv_pick [2] rfl ?_
      exact L68 I10 J3 hI10 FI10 FJ3 (by exact gz_m 9 (by omega)) (by rw [p11 (t + 17) 6 (fun h => absurd h.1 (by exact gz_m 10 (by omega))), p11 (t + 17) 7 (fun h => absurd h.1 (by exact gz_m 11 (by omega)))]; exact k_4.2)
    · show gv_X _ _ (52, [(0, .inr (.inr (some 0))), (2, .inr (.inr (some t))), (3, .inl v3_4)], [], sh, gc_h sh I10 J3 A)
      refine gv_run 1 true hD (pcₚ := 53) (lvₚ := [(0, .inr (.inr (some 0))), (2, .inr (.inr (some t))), (3, .inl v3_4)]) (stₚ := [.inr (.inr (some 0))]) (hₚ := gc_h sh I10 J3 A) (C := (True ∧ True)) rfl ⟨trivial, trivial⟩ ?_
      refine gv_get hD rfl rfl S_0 ⟨by decide, B_0⟩ (gc_hA S_0 rfl A_0_2) ?_
      show gv_X _ _ (56, [(0, .inr (.inr (some 0))), (2, .inr (.inr (some t))), (3, .inl v3_4)], [.inr (.inr (some 27))], sh, gc_h sh I10 J3 A)
      refine gv_run 1 true hD (pcₚ := 57) (lvₚ := [(0, .inr (.inr (some 0))), (2, .inr (.inr (some t))), (3, .inl v3_4)]) (stₚ := [.inr (.inr (some t)), .inr (.inr (some 27))]) (hₚ := gc_h sh I10 J3 A) (C := (True ∧ True)) rfl ⟨trivial, trivial⟩ ?_
      refine gv_get hD rfl rfl S_t ⟨by decide, B_t⟩ (gc_hA S_t rfl A_t_15) ?_
      show gv_X _ _ (60, [(0, .inr (.inr (some 0))), (2, .inr (.inr (some t))), (3, .inl v3_4)], [.inr (.inr (some (t + 17))), .inr (.inr (some 27))], sh, gc_h sh I10 J3 A)
      have f15 := (show 0 ≤ I10 (t + 17) 6 ∧ I10 (t + 17) 6 ≤ 1 from gc_in2 hI10 R_t_17 rfl rfl rfl)
      obtain ⟨f14_, hq_f14_, S_f14, R_f14, B_f14, D_f14⟩ := gc_sw (p := (t + 17)) (d := 6) (s := 1) (z := I10 (t + 17) 6) (show 0 ≤ I10 (t + 17) 6 ∧ I10 (t + 17) 6 ≤ 1 from gc_in2 hI10 R_t_17 rfl rfl rfl) S_t_17_6 R_t_17_6 B_t_17_6 S_t_17_7 R_t_17_7 B_t_17_7
      refine gv_get hD rfl rfl S_t_17 ⟨by decide, B_t_17⟩ (gc_hS (n := 6) S_t_17 rfl hq_f14_) ?_
      show gv_X _ _ (63, [(0, .inr (.inr (some 0))), (2, .inr (.inr (some t))), (3, .inl v3_4)], [.inr (.inr (some f14_)), .inr (.inr (some 27))], sh, gc_h sh I10 J3 A)
      refine gv_run 2 true hD (pcₚ := 65) (lvₚ := [(0, .inr (.inr (some 0))), (2, .inr (.inr (some t))), (3, .inl v3_4)]) (stₚ := [.inl v3_4, .inl 0, .inr (.inr (some f14_)), .inr (.inr (some 27))]) (hₚ := gc_h sh I10 J3 A) (C := ((True ∧ True) ∧ True)) rfl ⟨⟨trivial, trivial⟩, trivial⟩ ?_
      obtain ⟨r16, h16, E16, P16⟩ := d_X9_putBytes (ws0 := ws0) (tb := tb) hws htb sh ro I10 J3 A hI10 27 24 f14_ 0 v3_4 (gc_b27 hb) S_f14 R_f14 B_f14 (by decide)  ⟨by exact gz_m 12 (by omega), by exact gz_m 13 (by omega)⟩ ⟨by exact gz_m 14 (by omega), by exact gz_m 15 (by omega)⟩  
      obtain ⟨I17, J18, rfl, hI17, g16, k16, rfl⟩ := P16
      have FI17 := gc_frc (W := fun q j => (q = 27 ∧ j = 1) ∨ q = 28 ∨ (q = 23 ∧ j = 1) ∨ (q = (t + 17) ∧ j = 6) ∨ (q = (t + 17) ∧ j = 7) ∨ q = (t + 23) ∨ q = (t + 24)) (V := fun q j => (q = 27 ∧ j = 1) ∨ q = 28) FI10 (fun q j h => (h.elim (fun h => (Or.inl h)) (fun h => (Or.inr (Or.inl h))))) g16
      have t19 := (g16 23 1).resolve_left (fun h => h.elim (fun h => absurd h.1 (by first | exact gz_ne rfl | decide)) (fun h => absurd h (by first | exact gz_ne rfl | decide)))
      obtain rfl : J3 = J18 := funext fun q => funext fun j => ((k16 q j).resolve_left id).symm
      refine gv_callV hD rfl (As := [.inr (.inr (some f14_)), .inl 0, .inl v3_4]) (st := []) rfl B_27 S_27 rfl (gc_lV12 hws rfl) (Nat.le_of_ble_eq_true rfl) (gz_Ev_mono (d := 2) (by decide) E16) ?_
      show gv_X _ _ (68, [(0, .inr (.inr (some 0))), (2, .inr (.inr (some t))), (3, .inl v3_4)], [], sh, gc_h sh I17 J3 A)
      refine gv_pick [2] rfl ?_
      exact L68 I17 J3 hI17 FI17 FJ3 (by exact gz_m 16 (by omega)) (by rw [(g16 (t + 17) 6).resolve_left (by exact gz_m 17 (by omega)), (g16 (t + 17) 7).resolve_left (by exact gz_m 18 (by omega))]; exact (by rw [p11 (t + 17) 6 (fun h => absurd h.1 (by exact gz_m 19 (by omega))), p11 (t + 17) 7 (fun h => absurd h.1 (by exact gz_m 20 (by omega)))]; exact k_4.2))
  refine gv_run 2 true hD (pcₚ := 2) (lvₚ := [(0, .inr (.inr (some 0))), (1, .inl a1)]) (stₚ := [.inl a1, .inr (.inr (some 0))]) (hₚ := gc_h sh I J A) (C := ((True ∧ True) ∧ True)) rfl ⟨⟨trivial, trivial⟩, trivial⟩ ?_
  refine gv_callV hD rfl (As := [.inl a1]) (st := []) rfl B_0 S_0 rfl (gc_lV12 hws rfl) (Nat.le_of_ble_eq_true rfl) (gz_Ev_mono (d := 1) (by decide) (d_X12_tongueAt hws htb (J := J) hI hb (by exact gz_m 21 (by omega)) (by exact gz_m 22 (by omega)) x1)) ?_
  show gv_X _ _ (5, [(0, .inr (.inr (some 0))), (1, .inl a1)], [.inr (.inr (some t))], sh, gc_h sh I J A)
  refine gv_run 2 true hD (pcₚ := 7) (lvₚ := [(2, .inr (.inr (some t))), (0, .inr (.inr (some 0))), (1, .inl a1)]) (stₚ := [.inr (.inr (some 0))]) (hₚ := gc_h sh I J A) (C := ((True ∧ True) ∧ True)) rfl ⟨⟨trivial, trivial⟩, trivial⟩ ?_
  refine gv_get hD rfl rfl S_0 ⟨by decide, B_0⟩ (gc_hA S_0 rfl A_0_2) ?_
  show gv_X _ _ (10, [(2, .inr (.inr (some t))), (0, .inr (.inr (some 0))), (1, .inl a1)], [.inr (.inr (some 27))], sh, gc_h sh I J A)
  refine gv_run 1 true hD (pcₚ := 11) (lvₚ := [(2, .inr (.inr (some t))), (0, .inr (.inr (some 0))), (1, .inl a1)]) (stₚ := [.inl 0, .inr (.inr (some 27))]) (hₚ := gc_h sh I J A) (C := (True ∧ True)) rfl ⟨trivial, trivial⟩ ?_
  refine gv_put hD rfl rfl S_27 ⟨by decide, B_27⟩ rfl trivial ?_
  refine gc_st (k := 1) hI S_27 rfl R_27 (lo := 0) (hi := 1000) rfl rfl (by exact gz_m 23 (by omega)) (by exact gz_m 24 (by omega)) (fun I21 hI21 q22 p22 => ?_)
  have FI21 := gc_frs (W := fun q j => (q = 27 ∧ j = 1) ∨ q = 28 ∨ (q = 23 ∧ j = 1) ∨ (q = (t + 17) ∧ j = 6) ∨ (q = (t + 17) ∧ j = 7) ∨ q = (t + 23) ∨ q = (t + 24)) FI (Or.inl ⟨rfl, rfl⟩) p22
  have t23 := p22 23 1 (fun h => absurd h.1 (by first | exact gz_ne rfl | decide))
  show gv_X _ _ (14, [(2, .inr (.inr (some t))), (0, .inr (.inr (some 0))), (1, .inl a1)], [], sh, gc_h sh I21 J A)
  refine gv_run 3 true hD (pcₚ := 18) (lvₚ := [(3, .inl (-3)), (2, .inr (.inr (some t))), (0, .inr (.inr (some 0))), (1, .inl a1)]) (stₚ := [.inr (.inr (some 0))]) (hₚ := gc_h sh I21 J A) (C := (((True ∧ True) ∧ True) ∧ True)) rfl ⟨⟨⟨trivial, trivial⟩, trivial⟩, trivial⟩ ?_
  refine gv_get hD rfl rfl S_0 ⟨by decide, B_0⟩ (gc_hA S_0 rfl A_0_1) ?_
  show gv_X _ _ (21, [(3, .inl (-3)), (2, .inr (.inr (some t))), (0, .inr (.inr (some 0))), (1, .inl a1)], [.inr (.inr (some 23))], sh, gc_h sh I21 J A)
  have w_23 : I21 23 1 = I 23 1 := p22 23 1 (fun h => absurd h.1 (by first | exact gz_ne rfl | decide))
  have w_24 : I21 24 = I 24 := funext fun k => p22 24 k (fun h => absurd h.1 (by first | exact gz_ne rfl | decide))
  have y_0 : ¬ I21 (t + 17) 6 = I21 (t + 17) 7 := by
    rw [p22 (t + 17) 6 (fun h => absurd h.1 (by exact gz_m 25 (by omega))), p22 (t + 17) 7 (fun h => absurd h.1 (by exact gz_m 26 (by omega)))]
    exact y0
  have rc9 : ∀ r : Int, so_rc I21 t r = so_rc I t r := fun r => so_rc_eq (fun k => p22 _ k (fun h => absurd h.1 (by exact gz_m 27 (by omega)))) (fun k => p22 _ k (fun h => absurd h.1 (by exact gz_m 28 (by omega)))) (fun k => p22 _ k (fun h => absurd h.1 (by exact gz_m 29 (by omega))))
  have w_6 : I21 t 6 = I t 6 := p22 t 6 (fun h => absurd h.1 (by exact gz_m 30 (by omega)))
  obtain ⟨r24, h24, E24, P24⟩ := d_X9_isWord_p (ws0 := ws0) (tb := tb) hws htb sh ro I21 J A hI21 23  (gc_b23 hb)     
  obtain ⟨rfl, ⟨z24, rfl, q24⟩⟩ := P24
  refine gv_callV hD rfl (As := []) (st := []) rfl B_23 S_23 rfl (gc_lV12 hws rfl) (Nat.le_of_ble_eq_true rfl) (gz_Ev_mono (d := 2) (by decide) E24) ?_
  show gv_X _ _ (24, [(3, .inl (-3)), (2, .inr (.inr (some t))), (0, .inr (.inr (some 0))), (1, .inl a1)], [.inl z24], sh, gc_h sh I21 J A)
  refine gv_if_eq (t := 40) hD rfl rfl ⟨by exact gz_m 31 (by omega), by exact gz_m 32 (by omega)⟩ (fun c25 => ?_) (fun c25 => ?_)
  · show gv_X _ _ (40, [(3, .inl (-3)), (2, .inr (.inr (some t))), (0, .inr (.inr (some 0))), (1, .inl a1)], [], sh, gc_h sh I21 J A)
    refine gv_pick [2, 1, 0] rfl ?_
    exact L40 I21 J (-3) hI21 FI21 FJ (by exact gz_m 33 (by omega)) ⟨Or.inr ⟨by have h9 := (q24.2.2.2.resolve_left (fun g => by have := g.1; exact gz_m 34 (by omega))).2; rw [w_23, show I21 (23 + 1) = I 24 from w_24] at h9; exact h9, rfl⟩, y_0⟩
  · show gv_X _ _ (27, [(3, .inl (-3)), (2, .inr (.inr (some t))), (0, .inr (.inr (some 0))), (1, .inl a1)], [], sh, gc_h sh I21 J A)
    refine gv_run 1 true hD (pcₚ := 28) (lvₚ := [(3, .inl (-3)), (2, .inr (.inr (some t))), (0, .inr (.inr (some 0))), (1, .inl a1)]) (stₚ := [.inr (.inr (some t))]) (hₚ := gc_h sh I21 J A) (C := (True ∧ True)) rfl ⟨trivial, trivial⟩ ?_
    refine gv_get hD rfl rfl S_t ⟨by decide, B_t⟩ (gc_hA S_t rfl A_t_15) ?_
    show gv_X _ _ (31, [(3, .inl (-3)), (2, .inr (.inr (some t))), (0, .inr (.inr (some 0))), (1, .inl a1)], [.inr (.inr (some (t + 17)))], sh, gc_h sh I21 J A)
    refine gv_run 2 true hD (pcₚ := 33) (lvₚ := [(3, .inl (-3)), (2, .inr (.inr (some t))), (0, .inr (.inr (some 0))), (1, .inl a1)]) (stₚ := [.inr (.inr (some 0)), .inr (.inr (some t)), .inr (.inr (some (t + 17)))]) (hₚ := gc_h sh I21 J A) (C := ((True ∧ True) ∧ True)) rfl ⟨⟨trivial, trivial⟩, trivial⟩ ?_
    refine gv_get hD rfl rfl S_0 ⟨by decide, B_0⟩ (gc_hA S_0 rfl A_0_1) ?_
    show gv_X _ _ (36, [(3, .inl (-3)), (2, .inr (.inr (some t))), (0, .inr (.inr (some 0))), (1, .inl a1)], [.inr (.inr (some 23)), .inr (.inr (some t)), .inr (.inr (some (t + 17)))], sh, gc_h sh I21 J A)
    obtain ⟨r26, h26, E26, P26⟩ := d_X2_soundWord_p (ws0 := ws0) (tb := tb) hws htb sh ro I21 J A hI21 (t + 17) t 23 h_t_17 h_t G_t (gc_b23 hb)   (gc_sc_fr x2 (fun k => (FI21 (t + 10) k).resolve_left (by exact gz_m 35 (by omega)))) rfl (by exact gz_m 36 (by omega)) y_0 (fun r h0 h1 => by rw [rc9]; exact y1 r h0 (by exact gz_m 37 (by omega))) 
    obtain ⟨I27, J28, rfl, hI27, g26, k26, ⟨z26, rfl, q26⟩⟩ := P26
    have FI27 := gc_frc (W := fun q j => (q = 27 ∧ j = 1) ∨ q = 28 ∨ (q = 23 ∧ j = 1) ∨ (q = (t + 17) ∧ j = 6) ∨ (q = (t + 17) ∧ j = 7) ∨ q = (t + 23) ∨ q = (t + 24)) (V := fun q j => (q = (t + 17) ∧ j = 6) ∨ (q = (t + 17) ∧ j = 7) ∨ q = (t + 23) ∨ q = (t + 24)) FI21 (fun q j h => (h.elim (fun h => (Or.inr (Or.inr (Or.inr (Or.inl h))))) (fun h => (h.elim (fun h => (Or.inr (Or.inr (Or.inr (Or.inr (Or.inl h)))))) (fun h => (h.elim (fun h => (Or.inr (Or.inr (Or.inr (Or.inr (Or.inr (Or.inl h))))))) (fun h => (Or.inr (Or.inr (Or.inr (Or.inr (Or.inr (Or.inr h))))))))))))) g26
    have t29 := (g26 23 1).resolve_left (fun h => h.elim (fun h => absurd h.2 (by first | exact gz_ne rfl | decide)) (fun h => h.elim (fun h => absurd h.2 (by first | exact gz_ne rfl | decide)) (fun h => h.elim (fun h => absurd h N_23__t_23) (fun h => absurd h N_23__t_24))))
    obtain rfl : J = J28 := funext fun q => funext fun j => ((k26 q j).resolve_left id).symm
    refine gv_callV hD rfl (As := [.inr (.inr (some t)), .inr (.inr (some 23))]) (st := []) rfl B_t_17 S_t_17 rfl (gc_lV12 hws rfl) (Nat.le_of_ble_eq_true rfl) (gz_Ev_mono (d := 5) (by decide) E26) ?_
    show gv_X _ _ (39, [(3, .inl (-3)), (2, .inr (.inr (some t))), (0, .inr (.inr (some 0))), (1, .inl a1)], [.inl z26], sh, gc_h sh I27 J A)
    refine gv_run 1 true hD (pcₚ := 40) (lvₚ := [(3, .inl z26), (2, .inr (.inr (some t))), (0, .inr (.inr (some 0))), (1, .inl a1)]) (stₚ := []) (hₚ := gc_h sh I27 J A) (C := (True ∧ True)) rfl ⟨trivial, trivial⟩ ?_
    refine gv_pick [2, 1, 0] rfl ?_
    exact L40 I27 J z26 hI27 FI27 FJ (by exact gz_m 38 (by omega)) ⟨Or.inl ⟨by have h9 := (q24.2.2.2.resolve_right (fun g => by have := g.1; exact gz_m 39 (by omega))).2; rw [w_23, show I21 (23 + 1) = I 24 from w_24] at h9; exact h9, _, _, (by have h9 := q26.2.2.2.2; rw [show (fun k : Nat => so_rc I21 t (k : Int)) = (fun k : Nat => so_rc I t (k : Int)) from funext fun k => rc9 _, w_6, w_23, show I21 (23 + 1) = I 24 from w_24] at h9; exact h9)⟩, q26.2.2.2.1⟩
set_option maxHeartbeats 8000000 in
set_option maxRecDepth 100000 in
theorem r_oneWord_p {ws0 : List Cond} {tb : String → gz_T} (hws : ∀ w ∈ gr_ws, w ∈ ws0) (htb : tb RX13 = gr_T) (ext : gz_Sh) (I : gr_I) (J : gr_J) (hI : gr_Inv I)    : ∃ r hₚ, gz_Ev ws0 tb 2 (yX13_oneWord, cX13_oneWord, 2, (some .boolean)) [.inr (.inr (some 0))] (gr_sh ++ ext) (gr_h I J) r (gr_sh ++ ext) hₚ 0 0 ∧ (∃ (Iₚ : gr_I) (Jₚ : gr_J), hₚ = gr_h Iₚ Jₚ ∧ gr_Inv Iₚ ∧ gr_fr [68, 69, 126] [57, 76] I Iₚ ∧ gr_fj [68, 69, 126] [57, 76] J Jₚ ∧ (∃ z : Int, r = some (.inl z) ∧ 0 ≤ z ∧ z ≤ 1 ∧ (Iₚ 0 68 = 0) ∧ ((z = 1 ∧ so_wd (I 0 68) (I 56) ∧ Iₚ 0 126 = I 0 68 ∧ ∀ k : Nat, (k : Int) < I 0 68 → Iₚ 76 k = I 56 k) ∨ (z = 0 ∧ ¬ so_wd (I 0 68) (I 56))))) := by
  have FI : gr_fr [68, 69, 126] [57, 76] I I := fun _ _ _ => rfl
  have FJ : gr_fj [68, 69, 126] [57, 76] J J := fun _ _ _ => rfl
  have hD : gv_D (gr_E ws0 tb 1 (yX13_oneWord, cX13_oneWord, 2, (some .boolean)) kX13_oneWord) := gq_of oX13_oneWord
  refine gr_ev (d := 1) (l := kX13_oneWord) (Po := fun r hₚ => (∃ (Iₚ : gr_I) (Jₚ : gr_J), hₚ = gr_h Iₚ Jₚ ∧ gr_Inv Iₚ ∧ gr_fr [68, 69, 126] [57, 76] I Iₚ ∧ gr_fj [68, 69, 126] [57, 76] J Jₚ ∧ (∃ z : Int, r = some (.inl z) ∧ 0 ≤ z ∧ z ≤ 1 ∧ (Iₚ 0 68 = 0) ∧ ((z = 1 ∧ so_wd (I 0 68) (I 56) ∧ Iₚ 0 126 = I 0 68 ∧ ∀ k : Nat, (k : Int) < I 0 68 → Iₚ 76 k = I 56 k) ∨ (z = 0 ∧ ¬ so_wd (I 0 68) (I 56)))))) htb rfl (Nat.le_of_ble_eq_true rfl) ?_
  have f1 := (gr_b_0_69 hI)
  have f2 := (gr_b_0_68 hI)
  have L26 : ∀ (I3 : gr_I) (J4 : gr_J) , gr_Inv I3 → gr_fr [68, 69, 126] [57, 76] I I3 → gr_fj [68, 69, 126] [57, 76] J J4 → ((I3 0 68 = 0)) → ¬ so_wd (I 0 68) (I 56) → gv_X (gr_E ws0 tb 1 (yX13_oneWord, cX13_oneWord, 2, (some .boolean)) kX13_oneWord) (gv_Q cX13_oneWord (some .boolean) (gr_sh ++ ext) (fun r hₚ => (∃ (Iₚ : gr_I) (Jₚ : gr_J), hₚ = gr_h Iₚ Jₚ ∧ gr_Inv Iₚ ∧ gr_fr [68, 69, 126] [57, 76] I Iₚ ∧ gr_fj [68, 69, 126] [57, 76] J Jₚ ∧ (∃ z : Int, r = some (.inl z) ∧ 0 ≤ z ∧ z ≤ 1 ∧ (Iₚ 0 68 = 0) ∧ ((z = 1 ∧ so_wd (I 0 68) (I 56) ∧ Iₚ 0 126 = I 0 68 ∧ ∀ k : Nat, (k : Int) < I 0 68 → Iₚ 76 k = I 56 k) ∨ (z = 0 ∧ ¬ so_wd (I 0 68) (I 56))))))) (26, [], [], gr_sh ++ ext, gr_h I3 J4) := by
    intro I3 J4 hI3 FI3 FJ4 m_5 n_5
    have e0_5 := m_5
    have f6 := (gr_b_0_69 hI3)
    have f7 := (gr_b_0_68 hI3)
    refine gv_run 1 true hD (pcₚ := 27) (lvₚ := []) (stₚ := [.inl 0]) (hₚ := gr_h I3 J4) (C := (True ∧ True)) rfl ⟨trivial, trivial⟩ ?_
    exact gv_zret hD rfl (by exact gz_m 0 (by omega)) ⟨I3, J4, rfl, hI3, FI3, FJ4, ⟨_, rfl, by exact gz_m 1 (by omega), by exact gz_m 2 (by omega), by exact gz_m 3 (by omega), Or.inr ⟨rfl, n_5⟩⟩⟩
  have L30 : ∀ (n : Nat) (I8 : gr_I) (J9 : gr_J) (v1_10 : Int), (25 - v1_10).toNat < n → gr_Inv I8 → gr_fr [68, 69, 126] [57, 76] I I8 → gr_fj [68, 69, 126] [57, 76] J J9 → ((0 ≤ v1_10 ∧ v1_10 ≤ 24) ∧ (I8 0 69 ≤ 24) ∧ (I8 0 68 = 0)) → (I8 0 69 = I 0 68 ∧ 1 ≤ I8 0 69 ∧ (∀ k : Nat, (k : Int) < I 0 68 → I8 57 k = I 56 k) ∧ ∀ k : Nat, (k : Int) < v1_10 → I8 76 k = I 56 k ∧ (97 ≤ I 56 k ∧ I 56 k ≤ 122)) → gv_X (gr_E ws0 tb 1 (yX13_oneWord, cX13_oneWord, 2, (some .boolean)) kX13_oneWord) (gv_Q cX13_oneWord (some .boolean) (gr_sh ++ ext) (fun r hₚ => (∃ (Iₚ : gr_I) (Jₚ : gr_J), hₚ = gr_h Iₚ Jₚ ∧ gr_Inv Iₚ ∧ gr_fr [68, 69, 126] [57, 76] I Iₚ ∧ gr_fj [68, 69, 126] [57, 76] J Jₚ ∧ (∃ z : Int, r = some (.inl z) ∧ 0 ≤ z ∧ z ≤ 1 ∧ (Iₚ 0 68 = 0) ∧ ((z = 1 ∧ so_wd (I 0 68) (I 56) ∧ Iₚ 0 126 = I 0 68 ∧ ∀ k : Nat, (k : Int) < I 0 68 → Iₚ 76 k = I 56 k) ∨ (z = 0 ∧ ¬ so_wd (I 0 68) (I 56))))))) (30, [(0, .inr (.inr (some 0))), (1, .inl v1_10)], [], gr_sh ++ ext, gr_h I8 J9) := by
    intro n
    induction n with
    | zero => intro I8 J9 v1_10 hn; exact gz_m 4 (by omega)
    | succ n ih30 =>
      intro I8 J9 v1_10 hn hI8 FI8 FJ9 m_10 k_9
      obtain ⟨hv1_10, e0_10, e1_10⟩ := m_10
      have f11 := (gr_b_0_69 hI8)
      have f12 := (gr_b_0_68 hI8)
      have f13 := (gr_b_0_69 hI8)
      refine gv_run 3 true hD (pcₚ := 35) (lvₚ := [(0, .inr (.inr (some 0))), (1, .inl v1_10)]) (stₚ := [.inl (I8 0 69), .inl v1_10]) (hₚ := gr_h I8 J9) (C := (((True ∧ True) ∧ True) ∧ True)) rfl ⟨⟨⟨trivial, trivial⟩, trivial⟩, trivial⟩ ?_
      refine gv_icmp_ge (t := 66) hD rfl rfl ⟨⟨by exact gz_m 5 (by omega), by exact gz_m 6 (by omega)⟩, ⟨by exact gz_m 7 (by omega), by exact gz_m 8 (by omega)⟩⟩ (fun c14 => ?_) (fun c14 => ?_)
      · have f15 := (gr_b_0_69 hI8)
        refine gv_run 3 true hD (pcₚ := 71) (lvₚ := [(0, .inr (.inr (some 0))), (1, .inl v1_10)]) (stₚ := [.inl (I8 0 69), .inr (.inr (some 0))]) (hₚ := gr_h I8 J9) (C := (((True ∧ True) ∧ True) ∧ True)) rfl ⟨⟨⟨trivial, trivial⟩, trivial⟩, trivial⟩ ?_
        refine gv_run 1 true hD (pcₚ := 74) (lvₚ := [(0, .inr (.inr (some 0))), (1, .inl v1_10)]) (stₚ := []) (hₚ := gz_up (gr_h I8 J9) 0 126 (.inl (I8 0 69))) (C := (True ∧ True)) rfl ⟨trivial, trivial⟩ ?_
        refine gr_st hI8 FI8 rfl rfl ⟨⟨by show 0 ≤ _; exact gz_m 9 (by omega), by show _ ≤ 24; exact gz_m 10 (by omega)⟩, trivial⟩ (fun I16 hI16 FI16 q17 p17 => ?_)
        have t18 := p17 0 69 (by decide)
        have t19 := p17 0 68 (by decide)
        have f20 := (gr_b_0_69 hI16)
        have f21 := (gr_b_0_68 hI16)
        refine gv_run 1 true hD (pcₚ := 75) (lvₚ := [(0, .inr (.inr (some 0))), (1, .inl v1_10)]) (stₚ := [.inl 1]) (hₚ := gr_h I16 J9) (C := (True ∧ True)) rfl ⟨trivial, trivial⟩ ?_
        exact gv_zret hD rfl (by exact gz_m 11 (by omega)) ⟨I16, J9, rfl, hI16, FI16, FJ9, ⟨_, rfl, by exact gz_m 12 (by omega), by exact gz_m 13 (by omega), by exact gz_m 14 (by omega), Or.inl ⟨rfl, ⟨by have h9 := k_9.1; have h8 := k_9.2.1; exact gz_m 15 (by omega), fun k hk => (k_9.2.2.2 k (by have h9 := k_9.1; exact gz_m 16 (by omega))).2⟩, q17.trans k_9.1, fun k hk => (p17 76 k (fun q => absurd q.1 (by first | exact gz_ne rfl | decide))).trans (k_9.2.2.2 k (by have h9 := k_9.1; exact gz_m 17 (by omega))).1⟩⟩⟩
      · refine gv_run 2 true hD (pcₚ := 40) (lvₚ := [(0, .inr (.inr (some 0))), (1, .inl v1_10)]) (stₚ := [.inl v1_10, .inr (.inr (some 0))]) (hₚ := gr_h I8 J9) (C := ((True ∧ True) ∧ True)) rfl ⟨⟨trivial, trivial⟩, trivial⟩ ?_
        obtain ⟨r22, h22, E22, P22⟩ := r_low (ws0 := ws0) (tb := tb) hws htb ext I8 J9 hI8 v1_10 ⟨by exact gz_m 18 (by omega), by exact gz_m 19 (by omega)⟩ 
        obtain ⟨rfl, ⟨z22, rfl, q22⟩⟩ := P22
        refine gv_callV hD rfl (As := [.inl v1_10]) (st := []) rfl (by decide) rfl rfl (gr_lV hws rfl) (Nat.le_of_ble_eq_true rfl) (gz_Ev_mono (d := 1) (by decide) E22) ?_
        show gv_X _ _ (43, [(0, .inr (.inr (some 0))), (1, .inl v1_10)], [.inl z22], gr_sh ++ ext, gr_h I8 J9)
        refine gv_if_ne (t := 48) hD rfl rfl ⟨by exact gz_m 20 (by omega), by exact gz_m 21 (by omega)⟩ (fun c23 => ?_) (fun c23 => ?_)
        · have f24 := (gr_b_57 hI8 (Int.toNat v1_10))
          refine gv_run 7 true hD (pcₚ := 59) (lvₚ := [(0, .inr (.inr (some 0))), (1, .inl v1_10)]) (stₚ := [.inl (I8 57 (Int.toNat v1_10)), .inl v1_10, .inr (.inr (some 76))]) (hₚ := gr_h I8 J9) (C := (((((((True ∧ True) ∧ True) ∧ True) ∧ True) ∧ True) ∧ True) ∧ (0 ≤ v1_10 ∧ v1_10 < ((1000 : Nat) : Int)))) rfl ⟨⟨⟨⟨⟨⟨⟨trivial, trivial⟩, trivial⟩, trivial⟩, trivial⟩, trivial⟩, trivial⟩, ⟨by exact gz_m 22 (by omega), by exact gz_m 23 (by omega)⟩⟩ ?_
          have f25 := gw_nar_byte (x := ((I8 57 (Int.toNat v1_10))))
          refine gv_run 1 true hD (pcₚ := 60) (lvₚ := [(0, .inr (.inr (some 0))), (1, .inl v1_10)]) (stₚ := []) (hₚ := gz_up (gr_h I8 J9) 76 (Int.toNat v1_10) (.inl (((vp_nar .byte (Int32.ofInt ((I8 57 (Int.toNat v1_10))))).toInt)))) (C := (True ∧ (0 ≤ v1_10 ∧ v1_10 < ((64 : Nat) : Int)))) rfl ⟨trivial, ⟨by exact gz_m 24 (by omega), by exact gz_m 25 (by omega)⟩⟩ ?_
          refine gr_st hI8 FI8 rfl rfl ⟨⟨by show (-128) ≤ _; exact gz_m 26 (by omega), by show _ ≤ 127; exact gz_m 27 (by omega)⟩, trivial⟩ (fun I26 hI26 FI26 q27 p27 => ?_)
          have t28 := p27 0 69 (fun q => absurd q.1 (by first | exact gz_ne rfl | decide))
          have t29 := p27 0 68 (fun q => absurd q.1 (by first | exact gz_ne rfl | decide))
          have f30 := (gr_b_0_69 hI26)
          have f31 := (gr_b_0_68 hI26)
          refine gv_run 2 true hD (pcₚ := 30) (lvₚ := [(1, .inl (v1_10 + 1)), (0, .inr (.inr (some 0)))]) (stₚ := []) (hₚ := gr_h I26 J9) (C := ((True ∧ True) ∧ True)) rfl ⟨⟨trivial, trivial⟩, trivial⟩ ?_
          refine gv_pick [1, 0] rfl ?_
          exact ih30 I26 J9 (v1_10 + 1) (by exact gz_m 28 (by omega)) hI26 FI26 FJ9 (by exact gz_m 29 (by omega)) ⟨(p27 0 69 (fun q => absurd q.1 (by first | exact gz_ne rfl | decide))).trans k_9.1, by rw [p27 0 69 (fun q => absurd q.1 (by first | exact gz_ne rfl | decide))]; exact k_9.2.1, fun k hk => (p27 57 k (fun q => absurd q.1 (by first | exact gz_ne rfl | decide))).trans (k_9.2.2.1 k hk), fun k hk => if e9 : k = Int.toNat v1_10 then (by have h9 := k_9.2.2.1 (Int.toNat v1_10) (by have h8 := k_9.1; exact gz_m 30 (by omega)); rw [e9, ← h9]; exact ⟨q27.trans (gc_nar ⟨by exact gz_m 31 (by omega), by exact gz_m 32 (by omega)⟩), (q22.2.2.resolve_right (fun g => by have := g.1; exact gz_m 33 (by omega))).2.2⟩) else (by rw [p27 76 k (fun q => e9 q.2)]; exact k_9.2.2.2 k (by exact gz_m 34 (by omega)))⟩
        · refine gv_run 1 true hD (pcₚ := 47) (lvₚ := [(0, .inr (.inr (some 0))), (1, .inl v1_10)]) (stₚ := [.inl 0]) (hₚ := gr_h I8 J9) (C := (True ∧ True)) rfl ⟨trivial, trivial⟩ ?_
          exact gv_zret hD rfl (by exact gz_m 35 (by omega)) ⟨I8, J9, rfl, hI8, FI8, FJ9, ⟨_, rfl, by exact gz_m 36 (by omega), by exact gz_m 37 (by omega), by exact gz_m 38 (by omega), Or.inr ⟨rfl, fun h => by have h9 := k_9.2.2.1 (Int.toNat v1_10) (by have h8 := k_9.1; exact gz_m 39 (by omega)); have h7 := h.2 (Int.toNat v1_10) (by have h8 := k_9.1; exact gz_m 40 (by omega)); rw [← h9] at h7; exact gz_m 41 (by omega)⟩⟩⟩
  refine gv_run 1 true hD (pcₚ := 1) (lvₚ := [(0, .inr (.inr (some 0)))]) (stₚ := [.inr (.inr (some 0))]) (hₚ := gr_h I J) (C := (True ∧ True)) rfl ⟨trivial, trivial⟩ ?_
  obtain ⟨r32, h32, E32, P32⟩ := r_reads_p (ws0 := ws0) (tb := tb) hws htb ext I J hI   
  obtain ⟨I33, J34, rfl, hI33, g32, k32, ⟨rfl, q32⟩⟩ := P32
  have FI33 := gr_frt FI g32 rfl rfl
  have FJ34 := gr_fjt FJ k32 rfl rfl
  have f35 := (gr_b_0_69 hI33)
  have f36 := (gr_b_0_68 hI33)
  refine gv_callV hD rfl (As := []) (st := []) rfl (by decide) rfl rfl (gr_lV hws rfl) (Nat.le_of_ble_eq_true rfl) (gz_Ev_mono (d := 1) (by decide) E32) ?_
  show gv_X _ _ (4, [(0, .inr (.inr (some 0)))], [], gr_sh ++ ext, gr_h I33 J34)
  refine gv_run 3 true hD (pcₚ := 9) (lvₚ := [(0, .inr (.inr (some 0)))]) (stₚ := []) (hₚ := gz_up (gr_h I33 J34) 0 126 (.inl 0)) (C := (((True ∧ True) ∧ True) ∧ True)) rfl ⟨⟨⟨trivial, trivial⟩, trivial⟩, trivial⟩ ?_
  refine gr_st hI33 FI33 rfl rfl ⟨⟨by show 0 ≤ _; exact gz_m 42 (by omega), by show _ ≤ 24; exact gz_m 43 (by omega)⟩, trivial⟩ (fun I37 hI37 FI37 q38 p38 => ?_)
  have t39 := p38 0 69 (by decide)
  have t40 := p38 0 68 (by decide)
  have f41 := (gr_b_0_69 hI37)
  have f42 := (gr_b_0_68 hI37)
  have f43 := (gr_b_0_69 hI37)
  refine gv_run 3 true hD (pcₚ := 14) (lvₚ := [(0, .inr (.inr (some 0)))]) (stₚ := [.inl 1, .inl (I37 0 69)]) (hₚ := gr_h I37 J34) (C := (((True ∧ True) ∧ True) ∧ True)) rfl ⟨⟨⟨trivial, trivial⟩, trivial⟩, trivial⟩ ?_
  refine gv_icmp_lt (t := 26) hD rfl rfl ⟨⟨by exact gz_m 44 (by omega), by exact gz_m 45 (by omega)⟩, ⟨by exact gz_m 46 (by omega), by exact gz_m 47 (by omega)⟩⟩ (fun c44 => ?_) (fun c44 => ?_)
  · refine gv_pick [] rfl ?_
    exact L26 I37 J34 hI37 FI37 FJ34 (by exact gz_m 48 (by omega)) (fun h => by have h9 := h.1; exact gz_m 49 (by omega))
  · have f45 := (gr_b_0_69 hI37)
    refine gv_run 3 true hD (pcₚ := 23) (lvₚ := [(0, .inr (.inr (some 0)))]) (stₚ := [.inl 24, .inl (I37 0 69)]) (hₚ := gr_h I37 J34) (C := (((True ∧ True) ∧ True) ∧ True)) rfl ⟨⟨⟨trivial, trivial⟩, trivial⟩, trivial⟩ ?_
    refine gv_icmp_le (t := 28) hD rfl rfl ⟨⟨by exact gz_m 50 (by omega), by exact gz_m 51 (by omega)⟩, ⟨by exact gz_m 52 (by omega), by exact gz_m 53 (by omega)⟩⟩ (fun c46 => ?_) (fun c46 => ?_)
    · refine gv_run 2 true hD (pcₚ := 30) (lvₚ := [(1, .inl 0), (0, .inr (.inr (some 0)))]) (stₚ := []) (hₚ := gr_h I37 J34) (C := ((True ∧ True) ∧ True)) rfl ⟨⟨trivial, trivial⟩, trivial⟩ ?_
      refine gv_pick [1, 0] rfl ?_
      exact L30 _ I37 J34 0 (Nat.lt_succ_self _) hI37 FI37 FJ34 (by exact gz_m 54 (by omega)) ⟨by exact gz_m 55 (by omega), by exact gz_m 56 (by omega), fun k hk => (p38 57 k (fun q => absurd q.1 (by first | exact gz_ne rfl | decide))).trans (q32.1.2 k hk), fun k hk => absurd hk (by exact gz_m 57 (by omega))⟩
    · refine gv_pick [] rfl ?_
      exact L26 I37 J34 hI37 FI37 FJ34 (by exact gz_m 58 (by omega)) (fun h => by have h9 := h.1; exact gz_m 59 (by omega))
set_option maxHeartbeats 8000000 in
set_option maxRecDepth 100000 in
theorem r_noTongue_z {ws0 : List Cond} {tb : String → gz_T} (hws : ∀ w ∈ gr_ws, w ∈ ws0) (htb : tb RX13 = gr_T) (ext : gz_Sh) (I : gr_I) (J : gr_J) (hI : gr_Inv I) (a1 : Int) (ha1 : (-2147483648) ≤ a1 ∧ a1 ≤ 2147483647)  : ∃ r hₚ, gz_Ev ws0 tb 1 (yX13_noTongue, cX13_noTongue, 2, (some .boolean)) [.inr (.inr (some 0)), .inl a1] (gr_sh ++ ext) (gr_h I J) r (gr_sh ++ ext) hₚ 0 0 ∧ (∃ (Iₚ : gr_I) (Jₚ : gr_J), hₚ = gr_h Iₚ Jₚ ∧ gr_Inv Iₚ ∧ gr_fr [0] [] I Iₚ ∧ gr_fj [0] [] J Jₚ ∧ (∃ z : Int, r = some (.inl z) ∧ 0 ≤ z ∧ z ≤ 1 ∧ (z = 0 → 0 ≤ a1 ∧ a1 < I 0 1 ∧ a1 ≤ 7) ∧ ((z = 0 ∧ (0 ≤ a1 ∧ a1 < I 0 1)) ∨ (z = 1 ∧ ¬ (0 ≤ a1 ∧ a1 < I 0 1))) ∧ (z = Iₚ 0 0))) := by
  have FI : gr_fr [0] [] I I := fun _ _ _ => rfl
  have FJ : gr_fj [0] [] J J := fun _ _ _ => rfl
  have hD : gv_D (gr_E ws0 tb 0 (yX13_noTongue, cX13_noTongue, 2, (some .boolean)) kX13_noTongue) := gq_of oX13_noTongue
  refine gr_ev (d := 0) (l := kX13_noTongue) (Po := fun r hₚ => (∃ (Iₚ : gr_I) (Jₚ : gr_J), hₚ = gr_h Iₚ Jₚ ∧ gr_Inv Iₚ ∧ gr_fr [0] [] I Iₚ ∧ gr_fj [0] [] J Jₚ ∧ (∃ z : Int, r = some (.inl z) ∧ 0 ≤ z ∧ z ≤ 1 ∧ (z = 0 → 0 ≤ a1 ∧ a1 < I 0 1 ∧ a1 ≤ 7) ∧ ((z = 0 ∧ (0 ≤ a1 ∧ a1 < I 0 1)) ∨ (z = 1 ∧ ¬ (0 ≤ a1 ∧ a1 < I 0 1))) ∧ (z = Iₚ 0 0)))) htb rfl (Nat.le_of_ble_eq_true rfl) ?_
  have f1 := (gr_b_0_1 hI)
  have f2 := (gr_b_0_0 hI)
  have L18 : ∀ (s1_3 : Int), ((0 ≤ s1_3 ∧ s1_3 ≤ 1) ∧ (s1_3 = 0 → 0 ≤ a1 ∧ a1 < I 0 1 ∧ a1 ≤ 7) ∧ ((s1_3 = 0 ∧ (0 ≤ a1 ∧ a1 < I 0 1)) ∨ (s1_3 = 1 ∧ ¬ (0 ≤ a1 ∧ a1 < I 0 1)))) → gv_X (gr_E ws0 tb 0 (yX13_noTongue, cX13_noTongue, 2, (some .boolean)) kX13_noTongue) (gv_Q cX13_noTongue (some .boolean) (gr_sh ++ ext) (fun r hₚ => (∃ (Iₚ : gr_I) (Jₚ : gr_J), hₚ = gr_h Iₚ Jₚ ∧ gr_Inv Iₚ ∧ gr_fr [0] [] I Iₚ ∧ gr_fj [0] [] J Jₚ ∧ (∃ z : Int, r = some (.inl z) ∧ 0 ≤ z ∧ z ≤ 1 ∧ (z = 0 → 0 ≤ a1 ∧ a1 < I 0 1 ∧ a1 ≤ 7) ∧ ((z = 0 ∧ (0 ≤ a1 ∧ a1 < I 0 1)) ∨ (z = 1 ∧ ¬ (0 ≤ a1 ∧ a1 < I 0 1))) ∧ (z = Iₚ 0 0))))) (18, [(0, .inr (.inr (some 0)))], [.inl s1_3, .inr (.inr (some 0))], gr_sh ++ ext, gr_h I J) := by
    intro s1_3 m_3
    obtain ⟨hs1_3, e0_3, e1_3⟩ := m_3
    have f4 := (gr_b_0_1 hI)
    have f5 := (gr_b_0_0 hI)
    have L33 : ∀ (I6 : gr_I) (J7 : gr_J) (s0_8 : Int), gr_Inv I6 → gr_fr [0] [] I I6 → gr_fj [0] [] J J7 → ((0 ≤ s0_8 ∧ s0_8 ≤ 1) ∧ (s0_8 = 0 → 0 ≤ a1 ∧ a1 < I 0 1 ∧ a1 ≤ 7) ∧ ((s0_8 = 0 ∧ (0 ≤ a1 ∧ a1 < I 0 1)) ∨ (s0_8 = 1 ∧ ¬ (0 ≤ a1 ∧ a1 < I 0 1))) ∧ (s0_8 = I6 0 0)) → gv_X (gr_E ws0 tb 0 (yX13_noTongue, cX13_noTongue, 2, (some .boolean)) kX13_noTongue) (gv_Q cX13_noTongue (some .boolean) (gr_sh ++ ext) (fun r hₚ => (∃ (Iₚ : gr_I) (Jₚ : gr_J), hₚ = gr_h Iₚ Jₚ ∧ gr_Inv Iₚ ∧ gr_fr [0] [] I Iₚ ∧ gr_fj [0] [] J Jₚ ∧ (∃ z : Int, r = some (.inl z) ∧ 0 ≤ z ∧ z ≤ 1 ∧ (z = 0 → 0 ≤ a1 ∧ a1 < I 0 1 ∧ a1 ≤ 7) ∧ ((z = 0 ∧ (0 ≤ a1 ∧ a1 < I 0 1)) ∨ (z = 1 ∧ ¬ (0 ≤ a1 ∧ a1 < I 0 1))) ∧ (z = Iₚ 0 0))))) (33, [], [.inl s0_8], gr_sh ++ ext, gr_h I6 J7) := by
      intro I6 J7 s0_8 hI6 FI6 FJ7 m_8
      clear hs1_3 e0_3 e1_3 f4 f5
      obtain ⟨hs0_8, e0_8, e1_8, e2_8⟩ := m_8
      have f9 := (gr_b_0_1 hI6)
      have f10 := (gr_b_0_0 hI6)
      exact gv_zret hD rfl (by exact gz_m 0 (by omega)) ⟨I6, J7, rfl, hI6, FI6, FJ7, ⟨_, rfl, by exact gz_m 1 (by omega)⟩⟩
    refine gv_run 1 true hD (pcₚ := 21) (lvₚ := [(0, .inr (.inr (some 0)))]) (stₚ := []) (hₚ := gz_up (gr_h I J) 0 0 (.inl s1_3)) (C := (True ∧ True)) rfl ⟨trivial, trivial⟩ ?_
    refine gr_st hI FI rfl rfl ⟨⟨by show 0 ≤ _; exact gz_m 2 (by omega), by show _ ≤ 2; exact gz_m 3 (by omega)⟩, trivial⟩ (fun I11 hI11 FI11 q12 p12 => ?_)
    have t13 := p12 0 1 (by decide)
    have f14 := (gr_b_0_1 hI11)
    have f15 := (gr_b_0_0 hI11)
    have f16 := (gr_b_0_0 hI11)
    refine gv_run 2 true hD (pcₚ := 25) (lvₚ := [(0, .inr (.inr (some 0)))]) (stₚ := [.inl (I11 0 0)]) (hₚ := gr_h I11 J) (C := ((True ∧ True) ∧ True)) rfl ⟨⟨trivial, trivial⟩, trivial⟩ ?_
    refine gv_if_eq (t := 32) hD rfl rfl ⟨by exact gz_m 4 (by omega), by exact gz_m 5 (by omega)⟩ (fun c17 => ?_) (fun c17 => ?_)
    · refine gv_run 1 true hD (pcₚ := 33) (lvₚ := [(0, .inr (.inr (some 0)))]) (stₚ := [.inl 0]) (hₚ := gr_h I11 J) (C := (True ∧ True)) rfl ⟨trivial, trivial⟩ ?_
      refine gv_pick [] rfl ?_
      exact L33 I11 J 0 hI11 FI11 FJ (by exact gz_m 6 (by omega))
    · refine gv_run 2 true hD (pcₚ := 33) (lvₚ := [(0, .inr (.inr (some 0)))]) (stₚ := [.inl 1]) (hₚ := gr_h I11 J) (C := ((True ∧ True) ∧ True)) rfl ⟨⟨trivial, trivial⟩, trivial⟩ ?_
      refine gv_pick [] rfl ?_
      exact L33 I11 J 1 hI11 FI11 FJ (by exact gz_m 7 (by omega))
  have L13 : ((¬ (0 ≤ a1 ∧ a1 < I 0 1))) → gv_X (gr_E ws0 tb 0 (yX13_noTongue, cX13_noTongue, 2, (some .boolean)) kX13_noTongue) (gv_Q cX13_noTongue (some .boolean) (gr_sh ++ ext) (fun r hₚ => (∃ (Iₚ : gr_I) (Jₚ : gr_J), hₚ = gr_h Iₚ Jₚ ∧ gr_Inv Iₚ ∧ gr_fr [0] [] I Iₚ ∧ gr_fj [0] [] J Jₚ ∧ (∃ z : Int, r = some (.inl z) ∧ 0 ≤ z ∧ z ≤ 1 ∧ (z = 0 → 0 ≤ a1 ∧ a1 < I 0 1 ∧ a1 ≤ 7) ∧ ((z = 0 ∧ (0 ≤ a1 ∧ a1 < I 0 1)) ∨ (z = 1 ∧ ¬ (0 ≤ a1 ∧ a1 < I 0 1))) ∧ (z = Iₚ 0 0))))) (13, [(0, .inr (.inr (some 0)))], [.inr (.inr (some 0))], gr_sh ++ ext, gr_h I J) := by
    intro m_18
    have e0_18 := m_18
    have f19 := (gr_b_0_1 hI)
    have f20 := (gr_b_0_0 hI)
    refine gv_run 2 true hD (pcₚ := 18) (lvₚ := [(0, .inr (.inr (some 0)))]) (stₚ := [.inl 1, .inr (.inr (some 0))]) (hₚ := gr_h I J) (C := ((True ∧ True) ∧ True)) rfl ⟨⟨trivial, trivial⟩, trivial⟩ ?_
    exact L18 1 (by exact gz_m 8 (by omega))
  refine gv_run 2 true hD (pcₚ := 2) (lvₚ := [(0, .inr (.inr (some 0))), (1, .inl a1)]) (stₚ := [.inl a1, .inr (.inr (some 0))]) (hₚ := gr_h I J) (C := ((True ∧ True) ∧ True)) rfl ⟨⟨trivial, trivial⟩, trivial⟩ ?_
  refine gv_if_lt (t := 13) hD rfl rfl ⟨by exact gz_m 9 (by omega), by exact gz_m 10 (by omega)⟩ (fun c21 => ?_) (fun c21 => ?_)
  · refine gv_pick [0] rfl ?_
    exact L13 (by exact gz_m 11 (by omega))
  · have f22 := (gr_b_0_1 hI)
    refine gv_run 3 true hD (pcₚ := 10) (lvₚ := [(0, .inr (.inr (some 0))), (1, .inl a1)]) (stₚ := [.inl (I 0 1), .inl a1, .inr (.inr (some 0))]) (hₚ := gr_h I J) (C := (((True ∧ True) ∧ True) ∧ True)) rfl ⟨⟨⟨trivial, trivial⟩, trivial⟩, trivial⟩ ?_
    refine gv_icmp_lt (t := 17) hD rfl rfl ⟨⟨by exact gz_m 12 (by omega), by exact gz_m 13 (by omega)⟩, ⟨by exact gz_m 14 (by omega), by exact gz_m 15 (by omega)⟩⟩ (fun c23 => ?_) (fun c23 => ?_)
    · refine gv_run 1 true hD (pcₚ := 18) (lvₚ := [(0, .inr (.inr (some 0))), (1, .inl a1)]) (stₚ := [.inl 0, .inr (.inr (some 0))]) (hₚ := gr_h I J) (C := (True ∧ True)) rfl ⟨trivial, trivial⟩ ?_
      refine gv_pick [0] rfl ?_
      exact L18 0 (by exact gz_m 16 (by omega))
    · refine gv_pick [0] rfl ?_
      exact L13 (by exact gz_m 17 (by omega))
set_option maxHeartbeats 8000000 in
set_option maxRecDepth 100000 in
theorem r_sounds_p {ws0 : List Cond} {tb : String → gz_T} (hws : ∀ w ∈ gr_ws, w ∈ ws0) (htb : tb RX13 = gr_T) (ext : gz_Sh) (I : gr_I) (J : gr_J) (hI : gr_Inv I) (a1 : Int) (ha1 : (-2147483648) ≤ a1 ∧ a1 ≤ 2147483647) (y0 : (0 ≤ a1 ∧ a1 < I 0 1) → gs_SV I a1) : ∃ r hₚ, gz_Ev ws0 tb 5 (yX13_sounds, cX13_sounds, 3, (some .int)) [.inr (.inr (some 0)), .inl a1] (gr_sh ++ ext) (gr_h I J) r (gr_sh ++ ext) hₚ 0 0 ∧ (∃ (Iₚ : gr_I) (Jₚ : gr_J), hₚ = gr_h Iₚ Jₚ ∧ gr_Inv Iₚ ∧ gr_fr [0, 68, 69, 70, 126] [57, 58, 76, 77] I Iₚ ∧ gr_fj [0, 68, 69, 70, 126] [57, 58, 76, 77] J Jₚ ∧ (∃ z : Int, r = some (.inl z) ∧ (-3) ≤ z ∧ z ≤ 24 ∧ ((0 ≤ a1 ∧ a1 < I 0 1) → Iₚ 0 68 = 0 ∧ Iₚ 0 0 = 0 ∧ so_ans (fun k : Nat => so_rr I a1 (24 * a1 + (k : Int))) (Int.toNat (I 16 (Int.toNat a1))) (I 0 68) (I 56) z) ∧ (¬ (0 ≤ a1 ∧ a1 < I 0 1) → Iₚ 0 68 = I 0 68 ∧ Iₚ 0 0 = 1))) := by
  have FI : gr_fr [0, 68, 69, 70, 126] [57, 58, 76, 77] I I := fun _ _ _ => rfl
  have FJ : gr_fj [0, 68, 69, 70, 126] [57, 58, 76, 77] J J := fun _ _ _ => rfl
  have hD : gv_D (gr_E ws0 tb 4 (yX13_sounds, cX13_sounds, 3, (some .int)) kX13_sounds) := gq_of oX13_sounds
  refine gr_ev (d := 4) (l := kX13_sounds) (Po := fun r hₚ => (∃ (Iₚ : gr_I) (Jₚ : gr_J), hₚ = gr_h Iₚ Jₚ ∧ gr_Inv Iₚ ∧ gr_fr [0, 68, 69, 70, 126] [57, 58, 76, 77] I Iₚ ∧ gr_fj [0, 68, 69, 70, 126] [57, 58, 76, 77] J Jₚ ∧ (∃ z : Int, r = some (.inl z) ∧ (-3) ≤ z ∧ z ≤ 24 ∧ ((0 ≤ a1 ∧ a1 < I 0 1) → Iₚ 0 68 = 0 ∧ Iₚ 0 0 = 0 ∧ so_ans (fun k : Nat => so_rr I a1 (24 * a1 + (k : Int))) (Int.toNat (I 16 (Int.toNat a1))) (I 0 68) (I 56) z) ∧ (¬ (0 ≤ a1 ∧ a1 < I 0 1) → Iₚ 0 68 = I 0 68 ∧ Iₚ 0 0 = 1)))) htb rfl (Nat.le_of_ble_eq_true rfl) ?_
  have f1 := (gr_b_0_68 hI)
  have f2 := (gr_b_0_1 hI)
  have f3 := (gr_b_0_2 hI)
  have L39 : ∀ (I4 : gr_I) (J5 : gr_J) (v2_6 : Int), gr_Inv I4 → gr_fr [0, 68, 69, 70, 126] [57, 58, 76, 77] I I4 → gr_fj [0, 68, 69, 70, 126] [57, 58, 76, 77] J J5 → (((-1) ≤ v2_6 ∧ v2_6 ≤ 24) ∧ (I4 0 68 = 0) ∧ ((0 ≤ a1 ∧ a1 < I 0 1))) → (I4 0 0 = 0 ∧ so_ans (fun k : Nat => so_rr I a1 (24 * a1 + (k : Int))) (Int.toNat (I 16 (Int.toNat a1))) (I 0 68) (I 56) v2_6) → gv_X (gr_E ws0 tb 4 (yX13_sounds, cX13_sounds, 3, (some .int)) kX13_sounds) (gv_Q cX13_sounds (some .int) (gr_sh ++ ext) (fun r hₚ => (∃ (Iₚ : gr_I) (Jₚ : gr_J), hₚ = gr_h Iₚ Jₚ ∧ gr_Inv Iₚ ∧ gr_fr [0, 68, 69, 70, 126] [57, 58, 76, 77] I Iₚ ∧ gr_fj [0, 68, 69, 70, 126] [57, 58, 76, 77] J Jₚ ∧ (∃ z : Int, r = some (.inl z) ∧ (-3) ≤ z ∧ z ≤ 24 ∧ ((0 ≤ a1 ∧ a1 < I 0 1) → Iₚ 0 68 = 0 ∧ Iₚ 0 0 = 0 ∧ so_ans (fun k : Nat => so_rr I a1 (24 * a1 + (k : Int))) (Int.toNat (I 16 (Int.toNat a1))) (I 0 68) (I 56) z) ∧ (¬ (0 ≤ a1 ∧ a1 < I 0 1) → Iₚ 0 68 = I 0 68 ∧ Iₚ 0 0 = 1))))) (39, [(2, .inl v2_6)], [], gr_sh ++ ext, gr_h I4 J5) := by
    intro I4 J5 v2_6 hI4 FI4 FJ5 m_6 k_6
    obtain ⟨hv2_6, e0_6, e1_6⟩ := m_6
    have f7 := (gr_b_0_68 hI4)
    have f8 := (gr_b_0_1 hI4)
    have f9 := (gr_b_0_2 hI4)
    refine gv_run 1 true hD (pcₚ := 40) (lvₚ := [(2, .inl v2_6)]) (stₚ := [.inl v2_6]) (hₚ := gr_h I4 J5) (C := (True ∧ True)) rfl ⟨trivial, trivial⟩ ?_
    exact gv_iret hD rfl ⟨I4, J5, rfl, hI4, FI4, FJ5, ⟨_, rfl, by exact gz_m 0 (by omega), by exact gz_m 1 (by omega), fun _ => ⟨by exact gz_m 2 (by omega), k_6.1, k_6.2⟩, fun h9 => absurd e1_6 h9⟩⟩
  refine gv_run 2 true hD (pcₚ := 2) (lvₚ := [(0, .inr (.inr (some 0))), (1, .inl a1)]) (stₚ := [.inl a1, .inr (.inr (some 0))]) (hₚ := gr_h I J) (C := ((True ∧ True) ∧ True)) rfl ⟨⟨trivial, trivial⟩, trivial⟩ ?_
  obtain ⟨r10, h10, E10, P10⟩ := r_noTongue_z (ws0 := ws0) (tb := tb) hws htb ext I J hI a1 ⟨by exact gz_m 3 (by omega), by exact gz_m 4 (by omega)⟩ 
  obtain ⟨I11, J12, rfl, hI11, g10, k10, ⟨z10, rfl, q10⟩⟩ := P10
  have FI11 := gr_frt FI g10 rfl rfl
  have FJ12 := gr_fjt FJ k10 rfl rfl
  have t13 := g10 0 68 rfl
  have t14 := g10 0 1 rfl
  have t15 := g10 0 2 rfl
  have f16 := (gr_b_0_68 hI11)
  have f17 := (gr_b_0_1 hI11)
  have f18 := (gr_b_0_2 hI11)
  refine gv_callV hD rfl (As := [.inl a1]) (st := []) rfl (by decide) rfl rfl (gr_lV hws rfl) (Nat.le_of_ble_eq_true rfl) (gz_Ev_mono (d := 1) (by decide) E10) ?_
  show gv_X _ _ (5, [(0, .inr (.inr (some 0))), (1, .inl a1)], [.inl z10], gr_sh ++ ext, gr_h I11 J12)
  refine gv_if_eq (t := 10) hD rfl rfl ⟨by exact gz_m 5 (by omega), by exact gz_m 6 (by omega)⟩ (fun c19 => ?_) (fun c19 => ?_)
  · refine gv_run 3 true hD (pcₚ := 15) (lvₚ := [(0, .inr (.inr (some 0))), (1, .inl a1)]) (stₚ := []) (hₚ := gz_up (gr_h I11 J12) 0 70 (.inl 0)) (C := (((True ∧ True) ∧ True) ∧ True)) rfl ⟨⟨⟨trivial, trivial⟩, trivial⟩, trivial⟩ ?_
    refine gr_st hI11 FI11 rfl rfl ⟨⟨by show 0 ≤ _; exact gz_m 7 (by omega), by show _ ≤ 1000; exact gz_m 8 (by omega)⟩, trivial⟩ (fun I20 hI20 FI20 q21 p21 => ?_)
    have t22 := p21 0 68 (by decide)
    have t23 := p21 0 1 (by decide)
    have t24 := p21 0 2 (by decide)
    have f25 := (gr_b_0_68 hI20)
    have f26 := (gr_b_0_1 hI20)
    have f27 := (gr_b_0_2 hI20)
    refine gv_run 1 true hD (pcₚ := 16) (lvₚ := [(0, .inr (.inr (some 0))), (1, .inl a1)]) (stₚ := [.inr (.inr (some 0))]) (hₚ := gr_h I20 J12) (C := (True ∧ True)) rfl ⟨trivial, trivial⟩ ?_
    obtain ⟨r28, h28, E28, P28⟩ := r_oneWord_p (ws0 := ws0) (tb := tb) hws htb ext I20 J12 hI20   
    obtain ⟨I29, J30, rfl, hI29, g28, k28, ⟨z28, rfl, q28⟩⟩ := P28
    have w_68 : I20 0 68 = I 0 68 := by exact gz_m 9 (by omega)
    have w_56 : I20 56 = I 56 := funext fun k => FI20 56 k rfl
    have w_00 : I29 0 0 = 0 := (g28 0 0 rfl).trans ((p21 0 0 (by decide)).trans (show I11 0 0 = 0 by exact gz_m 10 (by omega)))
    have o_9 := q28.2.2.2
    rw [w_68, w_56] at o_9
    have FI29 := gr_frt FI20 g28 rfl rfl
    have FJ30 := gr_fjt FJ12 k28 rfl rfl
    have t31 := g28 0 1 rfl
    have t32 := g28 0 2 rfl
    have f33 := (gr_b_0_68 hI29)
    have f34 := (gr_b_0_1 hI29)
    have f35 := (gr_b_0_2 hI29)
    refine gv_callV hD rfl (As := []) (st := []) rfl (by decide) rfl rfl (gr_lV hws rfl) (Nat.le_of_ble_eq_true rfl) (gz_Ev_mono (d := 2) (by decide) E28) ?_
    show gv_X _ _ (19, [(0, .inr (.inr (some 0))), (1, .inl a1)], [.inl z28], gr_sh ++ ext, gr_h I29 J30)
    refine gv_if_ne (t := 25) hD rfl rfl ⟨by exact gz_m 11 (by omega), by exact gz_m 12 (by omega)⟩ (fun c36 => ?_) (fun c36 => ?_)
    · refine gv_run 2 true hD (pcₚ := 27) (lvₚ := [(0, .inr (.inr (some 0))), (1, .inl a1)]) (stₚ := [.inl a1, .inr (.inr (some 0))]) (hₚ := gr_h I29 J30) (C := ((True ∧ True) ∧ True)) rfl ⟨⟨trivial, trivial⟩, trivial⟩ ?_
      have u_9 := (o_9.resolve_right (fun g => by have := g.1; exact gz_m 13 (by omega))).2
      have v_9 : ∀ a k : Nat, (26 ≤ a ∧ a ≤ 30) ∨ a = 51 → I29 a k = I a k := fun a k h => by
        rcases h with ⟨h1, h2⟩ | h
        · have c : a = 26 ∨ a = 27 ∨ a = 28 ∨ a = 29 ∨ a = 30 := by exact gz_m 14 (by omega)
          rcases c with c | c | c | c | c <;> subst c <;> exact FI29 _ k rfl
        · subst h
          exact FI29 _ k rfl
      obtain ⟨r37, h37, E37, P37⟩ := r_sounded_p (ws0 := ws0) (tb := tb) hws htb ext I29 J30 hI29 a1 ⟨by exact gz_m 15 (by omega), by exact gz_m 16 (by omega)⟩ (by have h9 := u_9.2.1; have h8 := u_9.1.1; exact gz_m 17 (by omega)) (gs_SV_eq (y0 (by exact gz_m 18 (by omega))) v_9 (fun k => FI29 15 k rfl) (fun k => FI29 16 k rfl) (FI29 0 59 rfl)) 
      obtain ⟨I38, J39, rfl, hI38, g37, k37, ⟨z37, rfl, q37⟩⟩ := P37
      have FI38 := gr_frt FI29 g37 rfl rfl
      have FJ39 := gr_fjt FJ30 k37 rfl rfl
      have t40 := g37 0 68 rfl
      have t41 := g37 0 1 rfl
      have t42 := g37 0 2 rfl
      have f43 := (gr_b_0_68 hI38)
      have f44 := (gr_b_0_1 hI38)
      have f45 := (gr_b_0_2 hI38)
      refine gv_callV hD rfl (As := [.inl a1]) (st := []) rfl (by decide) rfl rfl (gr_lV hws rfl) (Nat.le_of_ble_eq_true rfl) (gz_Ev_mono (d := 4) (by decide) E37) ?_
      show gv_X _ _ (30, [(0, .inr (.inr (some 0))), (1, .inl a1)], [.inl z37], gr_sh ++ ext, gr_h I38 J39)
      refine gv_run 2 true hD (pcₚ := 32) (lvₚ := [(2, .inl z37), (0, .inr (.inr (some 0))), (1, .inl a1)]) (stₚ := [.inl z37]) (hₚ := gr_h I38 J39) (C := ((True ∧ True) ∧ True)) rfl ⟨⟨trivial, trivial⟩, trivial⟩ ?_
      refine gv_if_lt (t := 39) hD rfl rfl ⟨by exact gz_m 19 (by omega), by exact gz_m 20 (by omega)⟩ (fun c46 => ?_) (fun c46 => ?_)
      · refine gv_pick [0] rfl ?_
        exact L39 I38 J39 z37 hI38 FI38 FJ39 (by exact gz_m 21 (by omega)) ⟨((g37 0 0 rfl).trans w_00), (Or.inl ⟨u_9.1, _, _, (by have h9 := q37.2.2; rw [show (fun k : Nat => so_rr I29 a1 (24 * a1 + (k : Int))) = (fun k : Nat => so_rr I a1 (24 * a1 + (k : Int))) from funext fun k => so_rr_eq v_9, FI29 16 _ rfl, u_9.2.1, show so_b (I 0 68) (I29 76) = so_b (I 0 68) (I 56) from so_b_cg rfl u_9.2.2] at h9; exact h9)⟩)⟩
      · refine gv_run 1 true hD (pcₚ := 36) (lvₚ := [(2, .inl z37), (0, .inr (.inr (some 0))), (1, .inl a1)]) (stₚ := [.inr (.inr (some 0))]) (hₚ := gr_h I38 J39) (C := (True ∧ True)) rfl ⟨trivial, trivial⟩ ?_
        obtain ⟨r47, h47, E47, P47⟩ := r_outBuf (ws0 := ws0) (tb := tb) hws htb ext I38 J39 hI38   
        obtain ⟨I48, J49, rfl, hI48, g47, k47, rfl⟩ := P47
        have FI48 := gr_frt FI38 g47 rfl rfl
        have FJ49 := gr_fjt FJ39 k47 rfl rfl
        have t50 := g47 0 68 rfl
        have t51 := g47 0 1 rfl
        have t52 := g47 0 2 rfl
        have f53 := (gr_b_0_68 hI48)
        have f54 := (gr_b_0_1 hI48)
        have f55 := (gr_b_0_2 hI48)
        refine gv_callV hD rfl (As := []) (st := []) rfl (by decide) rfl rfl (gr_lV hws rfl) (Nat.le_of_ble_eq_true rfl) (gz_Ev_mono (d := 2) (by decide) E47) ?_
        show gv_X _ _ (39, [(2, .inl z37), (0, .inr (.inr (some 0))), (1, .inl a1)], [], gr_sh ++ ext, gr_h I48 J49)
        refine gv_pick [0] rfl ?_
        exact L39 I48 J49 z37 hI48 FI48 FJ49 (by exact gz_m 22 (by omega)) ⟨((g47 0 0 rfl).trans ((g37 0 0 rfl).trans w_00)), (Or.inl ⟨u_9.1, _, _, (by have h9 := q37.2.2; rw [show (fun k : Nat => so_rr I29 a1 (24 * a1 + (k : Int))) = (fun k : Nat => so_rr I a1 (24 * a1 + (k : Int))) from funext fun k => so_rr_eq v_9, FI29 16 _ rfl, u_9.2.1, show so_b (I 0 68) (I29 76) = so_b (I 0 68) (I 56) from so_b_cg rfl u_9.2.2] at h9; exact h9)⟩)⟩
    · refine gv_run 1 true hD (pcₚ := 24) (lvₚ := [(0, .inr (.inr (some 0))), (1, .inl a1)]) (stₚ := [.inl (-3)]) (hₚ := gr_h I29 J30) (C := (True ∧ True)) rfl ⟨trivial, trivial⟩ ?_
      exact gv_iret hD rfl ⟨I29, J30, rfl, hI29, FI29, FJ30, ⟨_, rfl, by exact gz_m 23 (by omega), by exact gz_m 24 (by omega), fun _ => ⟨by exact gz_m 25 (by omega), w_00, Or.inr ⟨(o_9.resolve_left (fun g => by have := g.1; exact gz_m 26 (by omega))).2, rfl⟩⟩, fun h9 => absurd (show 0 ≤ a1 ∧ a1 < I 0 1 by exact gz_m 27 (by omega)) h9⟩⟩
  · refine gv_run 1 true hD (pcₚ := 9) (lvₚ := [(0, .inr (.inr (some 0))), (1, .inl a1)]) (stₚ := [.inl 0]) (hₚ := gr_h I11 J12) (C := (True ∧ True)) rfl ⟨trivial, trivial⟩ ?_
    exact gv_iret hD rfl ⟨I11, J12, rfl, hI11, FI11, FJ12, ⟨_, rfl, by exact gz_m 28 (by omega), by exact gz_m 29 (by omega), fun h9 => absurd h9 (by exact gz_m 30 (by omega)), fun _ => ⟨by exact gz_m 31 (by omega), by exact gz_m 32 (by omega)⟩⟩⟩
