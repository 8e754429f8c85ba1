/-! analyse() of the class: what is noted (p9, p10) -/
def gc_NM (B : Int → Prop) (I : gr_I) (a2 a3 : Nat) : Nat → Prop := fo_M B (I (a2 + 17 + 1)) (I (a2 + 17 + 2)) (I (a3 + 1)) (I a3 1)
def gc_NA (B : Int → Prop) (I Iₚ : gr_I) (a2 a3 : Nat) (a1 z : Int) : Prop := (so_wd (I a3 1) (I (a3 + 1)) ∧ z = Iₚ 100 2 ∧ Iₚ 100 1 = a1 ∧ fo_cn (gc_NM B I a2 a3) 1536 z ∧ fo_ls (gc_NM B I a2 a3) (Iₚ 101) 1536) ∨ (¬ so_wd (I a3 1) (I (a3 + 1)) ∧ z = -3 ∧ Iₚ 100 2 = 0)
def gc_NB (I Iₚ : gr_I) (t : Nat) : Nat → Prop := fo_M (fo_al I t) (Iₚ (t + 17 + 1)) (Iₚ (t + 17 + 2)) (I 24) (I 23 1)
def gc_NP (I Iₚ : gr_I) (t : Nat) (a1 z : Int) : Prop := (so_wd (I 23 1) (I 24) ∧ z = Iₚ 100 2 ∧ Iₚ 100 1 = a1 ∧ fo_cn (gc_NB I Iₚ t) 1536 z ∧ fo_ls (gc_NB I Iₚ t) (Iₚ 101) 1536) ∨ (¬ so_wd (I 23 1) (I 24) ∧ z = -3 ∧ Iₚ 100 2 = 0)
theorem gc_NP_mk {I I1 I2 Iₚ : gr_I} {t : Nat} {a1 z : Int} (h : gc_NA (fo_al I t) I1 I2 t 23 a1 z) (e1 : I1 23 1 = I 23 1) (e24 : ∀ k, I1 24 k = I 24 k) (f1 : ∀ k, Iₚ (t + 17 + 1) k = I1 (t + 17 + 1) k) (f2 : ∀ k, Iₚ (t + 17 + 2) k = I1 (t + 17 + 2) k) (g2 : Iₚ 100 2 = I2 100 2) (g1 : Iₚ 100 1 = I2 100 1) (g : ∀ k, Iₚ 101 k = I2 101 k) : gc_NP I Iₚ t a1 z := by
  have e4 : I1 (23 + 1) = I 24 := funext e24
  have eM : gc_NM (fo_al I t) I1 t 23 = gc_NB I Iₚ t := by
    unfold gc_NM gc_NB
    rw [show Iₚ (t + 17 + 1) = I1 (t + 17 + 1) from funext f1, show Iₚ (t + 17 + 2) = I1 (t + 17 + 2) from funext f2, e4, e1]
  unfold gc_NA at h
  rw [eM, e4, e1] at h
  unfold gc_NP
  rw [g2, g1, show Iₚ 101 = I2 101 from funext g]
  exact h
set_option maxHeartbeats 8000000 in
set_option maxRecDepth 100000 in
theorem d_X1_noteAnalyses_p {ws0 : List Cond} {tb : String → gz_T} (hws : gc_Ws ws0) (htb : gc_tbs tb) (sh : gz_Sh) (ro : Nat → Nat) (I : gr_I) (J : gr_J) (A : gc_A) (hI : gc_Inv ro I) (a1 : Int) (a2 : Nat) (a3 : Nat) (hb : gc_Base sh ro A) (h_a2 : gc_isTongue sh ro A a2) (G_a2 : 144 ≤ a2) (h_a3 : gc_isText sh ro A a3) (G_a3 : a3 + 3 < 39) (ha1 : 0 ≤ a1 ∧ a1 ≤ 7) (wb : Int) (B9 : Int → Prop) (x9 : gc_FB (a2 + 17) wb I) (y0 : fo_CH B9 (I (a2 + 17 + 1)) (I (a2 + 17 + 2)) (I (a2 + 17 + 3)) (I (a2 + 17 + 4)) 0) (y1 : ∀ x, B9 x → 0 ≤ x ∧ x < 1536) : ∃ r hₚ, gz_Ev ws0 tb 3 (yX1_noteAnalyses, cX1_noteAnalyses, 4, (some .int)) [.inr (.inr (some 100)), .inl a1, .inr (.inr (some a2)), .inr (.inr (some a3))] sh (gc_h sh I J A) r sh hₚ 0 0 ∧ (∃ (Iₚ : gr_I) (Jₚ : gr_J), hₚ = gc_h sh Iₚ Jₚ A ∧ gc_Inv ro Iₚ ∧ (∀ q j : Nat, ((q = 100 ∧ j = 2) ∨ (q = 100 ∧ j = 1) ∨ q = 101 ∨ q = (a2 + 22)) ∨ Iₚ q j = I q j) ∧ (∀ q j : Nat, (False) ∨ Jₚ q j = J q j) ∧ (∃ z : Int, r = some (.inl z) ∧ (-3) ≤ z ∧ z ≤ 1536 ∧ (z = Iₚ 100 2 ∨ Iₚ 100 2 = 0) ∧ (Iₚ 100 2 = 0 ∨ Iₚ 100 1 = a1) ∧ gc_NA B9 I Iₚ a2 a3 a1 z)) := by
  have FI : ∀ q j : Nat, ((q = 100 ∧ j = 2) ∨ (q = 100 ∧ j = 1) ∨ q = 101 ∨ q = (a2 + 22)) ∨ I q j = I q j := fun _ _ => Or.inr rfl
  have FJ : ∀ q j : Nat, (False) ∨ J q j = J q j := fun _ _ => Or.inr rfl
  have A_100_3 : A 100 3 = some 101 := gc_bA_100_3 hb
  have B_100 : 100 < 1000000 := by decide
  have B_101 : 101 < 1000000 := by decide
  have R_100 : ro 100 = 75 := gc_bR_100 hb
  have R_101 : ro 101 = 35 := gc_bR_101 hb
  have S_100 : sh[100]? = some (false, 1, 19) := gc_bS_100 hb
  have S_101 : sh[101]? = some (true, 1, 1536) := gc_bS_101 hb
  obtain ⟨S_a2, R_a2, B_a2, A_a2_0, h_a2_1, A_a2_1, h_a2_3, A_a2_2, S_a2_5, R_a2_5, B_a2_5, A_a2_3, S_a2_6, R_a2_6, B_a2_6, A_a2_4, h_a2_7, A_a2_5, S_a2_9, R_a2_9, B_a2_9, A_a2_7, S_a2_10, R_a2_10, B_a2_10, A_a2_8, h_a2_11, A_a2_9, S_a2_13, R_a2_13, B_a2_13, A_a2_10, S_a2_14, R_a2_14, B_a2_14, A_a2_12, S_a2_15, R_a2_15, B_a2_15, A_a2_14, S_a2_16, R_a2_16, B_a2_16, A_a2_15, h_a2_17⟩ := id h_a2
  obtain ⟨S_a2_1, R_a2_1, B_a2_1, A_a2_1_0, S_a2_1_1, R_a2_1_1, B_a2_1_1, Q0_a2_1, Q1_a2_1, Q2_a2_1⟩ := id h_a2_1
  obtain ⟨S_a2_3, R_a2_3, B_a2_3, A_a2_3_0, S_a2_3_1, R_a2_3_1, B_a2_3_1, Q0_a2_3, Q1_a2_3, Q2_a2_3⟩ := id h_a2_3
  obtain ⟨S_a2_7, R_a2_7, B_a2_7, A_a2_7_0, S_a2_7_1, R_a2_7_1, B_a2_7_1, Q0_a2_7, Q1_a2_7, Q2_a2_7⟩ := id h_a2_7
  obtain ⟨S_a2_11, R_a2_11, B_a2_11, A_a2_11_0, S_a2_11_1, R_a2_11_1, B_a2_11_1, Q0_a2_11, Q1_a2_11, Q2_a2_11⟩ := id h_a2_11
  obtain ⟨S_a2_17, R_a2_17, B_a2_17, A_a2_17_0, S_20, R_20, B_20, A_a2_17_1, S_a2_17_1, R_a2_17_1, B_a2_17_1, A_a2_17_2, S_a2_17_2, R_a2_17_2, B_a2_17_2, A_a2_17_3, S_a2_17_3, R_a2_17_3, B_a2_17_3, A_a2_17_4, S_a2_17_4, R_a2_17_4, B_a2_17_4, A_a2_17_5, S_a2_17_5, R_a2_17_5, B_a2_17_5, S_a2_17_6, R_a2_17_6, B_a2_17_6, S_a2_17_7, R_a2_17_7, B_a2_17_7⟩ := id h_a2_17
  obtain ⟨S_a3, R_a3, B_a3, A_a3_0, S_a3_1, R_a3_1, B_a3_1, A_a3_2, S_a3_2, R_a3_2, B_a3_2, A_a3_3, S_a3_3, R_a3_3, B_a3_3⟩ := id h_a3
  have hD : gv_D (gc_E1 ws0 tb 2 (yX1_noteAnalyses, cX1_noteAnalyses, 4, (some .int)) kX1_noteAnalyses) := gq_of oX1_noteAnalyses
  refine gc_ev1 (d := 2) (l := kX1_noteAnalyses) (Po := fun r hₚ => (∃ (Iₚ : gr_I) (Jₚ : gr_J), hₚ = gc_h sh Iₚ Jₚ A ∧ gc_Inv ro Iₚ ∧ (∀ q j : Nat, ((q = 100 ∧ j = 2) ∨ (q = 100 ∧ j = 1) ∨ q = 101 ∨ q = (a2 + 22)) ∨ Iₚ q j = I q j) ∧ (∀ q j : Nat, (False) ∨ Jₚ q j = J q j) ∧ (∃ z : Int, r = some (.inl z) ∧ (-3) ≤ z ∧ z ≤ 1536 ∧ (z = Iₚ 100 2 ∨ Iₚ 100 2 = 0) ∧ (Iₚ 100 2 = 0 ∨ Iₚ 100 1 = a1) ∧ gc_NA B9 I Iₚ a2 a3 a1 z))) htb rfl (Nat.le_of_ble_eq_true rfl) ?_
  have N_a3__100 : ¬ (a3 = 100) := by omega
  have N_a3__a2_22 : ¬ (a3 = (a2 + 22)) := by omega
  have N_100__a2_22 : ¬ (100 = (a2 + 22)) := by omega
  have N_a3__101 : ¬ (a3 = 101) := by omega
  have f1 := (show 0 ≤ I a3 1 ∧ I a3 1 ≤ 1000 from gc_in2 hI R_a3 rfl rfl rfl)
  have f2 := (gc_b_75_2 hI R_100)
  have f3 := (gc_b_75_1 hI R_100)
  refine gv_run 2 true hD (pcₚ := 2) (lvₚ := [(0, .inr (.inr (some 100))), (1, .inl a1), (2, .inr (.inr (some a2))), (3, .inr (.inr (some a3)))]) (stₚ := [.inl 0, .inr (.inr (some 100))]) (hₚ := gc_h sh I J A) (C := ((True ∧ True) ∧ True)) rfl ⟨⟨trivial, trivial⟩, trivial⟩ ?_
  refine gv_put hD rfl rfl S_100 ⟨by decide, B_100⟩ rfl trivial ?_
  refine gc_st (k := 2) hI S_100 rfl R_100 (lo := 0) (hi := 1536) rfl rfl (by omega) (by omega) (fun I4 hI4 q5 p5 => ?_)
  have FI4 := gc_frs (W := fun q j => (q = 100 ∧ j = 2) ∨ (q = 100 ∧ j = 1) ∨ q = 101 ∨ q = (a2 + 22)) FI (Or.inl ⟨rfl, rfl⟩) p5
  have t6 := p5 a3 1 (fun h => absurd h.2 (by decide))
  have t7 := p5 100 1 (fun h => absurd h.2 (by decide))
  have f8 := (gc_b_75_2 hI4 R_100)
  show gv_X _ _ (5, [(0, .inr (.inr (some 100))), (1, .inl a1), (2, .inr (.inr (some a2))), (3, .inr (.inr (some a3)))], [], sh, gc_h sh I4 J A)
  refine gv_run 1 true hD (pcₚ := 6) (lvₚ := [(0, .inr (.inr (some 100))), (1, .inl a1), (2, .inr (.inr (some a2))), (3, .inr (.inr (some a3)))]) (stₚ := [.inr (.inr (some a3))]) (hₚ := gc_h sh I4 J A) (C := (True ∧ True)) rfl ⟨trivial, trivial⟩ ?_
  obtain ⟨r9, h9, E9, P9⟩ := d_X9_isWord_p (ws0 := ws0) (tb := tb) hws htb sh ro I4 J A hI4 a3  h_a3     
  obtain ⟨rfl, ⟨z9, rfl, q9⟩⟩ := P9
  have w_1 : I4 a3 1 = I a3 1 := p5 a3 1 (fun h => absurd h.2 (by decide))
  have w_2 : I4 (a3 + 1) = I (a3 + 1) := funext fun k => p5 (a3 + 1) k (fun h => absurd h.1 (by omega))
  have w_d := q9.2.2.2
  rw [w_1, w_2] at w_d
  replace q9 := And.intro q9.1 (And.intro q9.2.1 q9.2.2.1)
  refine gv_callV hD rfl (As := []) (st := []) rfl B_a3 S_a3 rfl (gc_lV1 hws rfl) (Nat.le_of_ble_eq_true rfl) (gz_Ev_mono (d := 2) (by decide) E9) ?_
  show gv_X _ _ (9, [(0, .inr (.inr (some 100))), (1, .inl a1), (2, .inr (.inr (some a2))), (3, .inr (.inr (some a3)))], [.inl z9], sh, gc_h sh I4 J A)
  refine gv_if_ne (t := 15) hD rfl rfl ⟨by omega, by omega⟩ (fun c10 => ?_) (fun c10 => ?_)
  · show gv_X _ _ (15, [(0, .inr (.inr (some 100))), (1, .inl a1), (2, .inr (.inr (some a2))), (3, .inr (.inr (some a3)))], [], sh, gc_h sh I4 J A)
    refine gv_run 2 true hD (pcₚ := 17) (lvₚ := [(0, .inr (.inr (some 100))), (1, .inl a1), (2, .inr (.inr (some a2))), (3, .inr (.inr (some a3)))]) (stₚ := [.inl a1, .inr (.inr (some 100))]) (hₚ := gc_h sh I4 J A) (C := ((True ∧ True) ∧ True)) rfl ⟨⟨trivial, trivial⟩, trivial⟩ ?_
    refine gv_put hD rfl rfl S_100 ⟨by decide, B_100⟩ rfl trivial ?_
    refine gc_st (k := 1) hI4 S_100 rfl R_100 (lo := 0) (hi := 7) rfl rfl (by omega) (by omega) (fun I11 hI11 q12 p12 => ?_)
    have FI11 := gc_frs (W := fun q j => (q = 100 ∧ j = 2) ∨ (q = 100 ∧ j = 1) ∨ q = 101 ∨ q = (a2 + 22)) FI4 (Or.inr (Or.inl ⟨rfl, rfl⟩)) p12
    have t13 := p12 a3 1 (fun h => absurd h.1 N_a3__100)
    have t14 := p12 100 2 (fun h => absurd h.2 (by decide))
    have f15 := (gc_b_75_1 hI11 R_100)
    show gv_X _ _ (20, [(0, .inr (.inr (some 100))), (1, .inl a1), (2, .inr (.inr (some a2))), (3, .inr (.inr (some a3)))], [], sh, gc_h sh I11 J A)
    refine gv_run 2 true hD (pcₚ := 22) (lvₚ := [(0, .inr (.inr (some 100))), (1, .inl a1), (2, .inr (.inr (some a2))), (3, .inr (.inr (some a3)))]) (stₚ := [.inr (.inr (some a2)), .inr (.inr (some 100))]) (hₚ := gc_h sh I11 J A) (C := ((True ∧ True) ∧ True)) rfl ⟨⟨trivial, trivial⟩, trivial⟩ ?_
    refine gv_get hD rfl rfl S_a2 ⟨by decide, B_a2⟩ (gc_hA S_a2 rfl A_a2_15) ?_
    show gv_X _ _ (25, [(0, .inr (.inr (some 100))), (1, .inl a1), (2, .inr (.inr (some a2))), (3, .inr (.inr (some a3)))], [.inr (.inr (some (a2 + 17))), .inr (.inr (some 100))], sh, gc_h sh I11 J A)
    refine gv_run 1 true hD (pcₚ := 26) (lvₚ := [(0, .inr (.inr (some 100))), (1, .inl a1), (2, .inr (.inr (some a2))), (3, .inr (.inr (some a3)))]) (stₚ := [.inr (.inr (some a3)), .inr (.inr (some (a2 + 17))), .inr (.inr (some 100))]) (hₚ := gc_h sh I11 J A) (C := (True ∧ True)) rfl ⟨trivial, trivial⟩ ?_
    refine gv_get hD rfl rfl S_a3 ⟨by decide, B_a3⟩ (gc_hA S_a3 rfl A_a3_0) ?_
    show gv_X _ _ (29, [(0, .inr (.inr (some 100))), (1, .inl a1), (2, .inr (.inr (some a2))), (3, .inr (.inr (some a3)))], [.inr (.inr (some (a3 + 1))), .inr (.inr (some (a2 + 17))), .inr (.inr (some 100))], sh, gc_h sh I11 J A)
    refine gv_run 2 true hD (pcₚ := 31) (lvₚ := [(0, .inr (.inr (some 100))), (1, .inl a1), (2, .inr (.inr (some a2))), (3, .inr (.inr (some a3)))]) (stₚ := [.inr (.inr (some a3)), .inl 0, .inr (.inr (some (a3 + 1))), .inr (.inr (some (a2 + 17))), .inr (.inr (some 100))]) (hₚ := gc_h sh I11 J A) (C := ((True ∧ True) ∧ True)) rfl ⟨⟨trivial, trivial⟩, trivial⟩ ?_
    have f16 := (show 0 ≤ I11 a3 1 ∧ I11 a3 1 ≤ 1000 from gc_in2 hI11 R_a3 rfl rfl rfl)
    refine gv_get hD rfl rfl S_a3 ⟨by decide, B_a3⟩ (gc_hI S_a3 rfl) ?_
    show gv_X _ _ (34, [(0, .inr (.inr (some 100))), (1, .inl a1), (2, .inr (.inr (some a2))), (3, .inr (.inr (some a3)))], [.inl (I11 a3 1), .inl 0, .inr (.inr (some (a3 + 1))), .inr (.inr (some (a2 + 17))), .inr (.inr (some 100))], sh, gc_h sh I11 J A)
    have y_0 : fo_CH B9 (I11 (a2 + 17 + 1)) (I11 (a2 + 17 + 2)) (I11 (a2 + 17 + 3)) (I11 (a2 + 17 + 4)) 0 := by
      rw [show I11 (a2 + 17 + 1) = I (a2 + 17 + 1) from funext fun k => (FI11 (a2 + 17 + 1) k).resolve_left (by omega), show I11 (a2 + 17 + 2) = I (a2 + 17 + 2) from funext fun k => (FI11 (a2 + 17 + 2) k).resolve_left (by omega), show I11 (a2 + 17 + 3) = I (a2 + 17 + 3) from funext fun k => (FI11 (a2 + 17 + 3) k).resolve_left (by omega), show I11 (a2 + 17 + 4) = I (a2 + 17 + 4) from funext fun k => (FI11 (a2 + 17 + 4) k).resolve_left (by omega)]
      exact y0
    have x_9 : gc_FB (a2 + 17) wb I11 := gc_FB_fr x9 (fun k => (FI11 (a2 + 17 + 4) k).resolve_left (by omega)) (fun k => (FI11 (a2 + 17 + 3) k).resolve_left (by omega))
    have M_9 : fo_M B9 (I11 (a2 + 17 + 1)) (I11 (a2 + 17 + 2)) (fun j : Nat => I11 (a3 + 1) (Int.toNat 0 + j)) (I11 a3 1) = gc_NM B9 I a2 a3 := by
      unfold gc_NM
      rw [show I11 (a2 + 17 + 1) = I (a2 + 17 + 1) from funext fun k => (FI11 (a2 + 17 + 1) k).resolve_left (by omega), show I11 (a2 + 17 + 2) = I (a2 + 17 + 2) from funext fun k => (FI11 (a2 + 17 + 2) k).resolve_left (by omega), show I11 a3 1 = I a3 1 from by omega, show (fun j : Nat => I11 (a3 + 1) (Int.toNat 0 + j)) = I (a3 + 1) from funext fun j => by rw [show Int.toNat 0 + j = j from by omega]; exact (FI11 (a3 + 1) j).resolve_left (by omega)]
    obtain ⟨r17, h17, E17, P17⟩ := d_X2_findSame_p (ws0 := ws0) (tb := tb) hws htb sh ro I11 J A hI11 (a2 + 17) 1000 wb (a3 + 1) 0 (I11 a3 1) h_a2_17 S_a3_1 R_a3_1 B_a3_1 (by decide)  ⟨by omega, by omega⟩ ⟨by omega, by omega⟩ (by omega) x_9 B9 y_0 y1
    obtain ⟨I18, J19, rfl, hI18, g17, k17, ⟨z17, rfl, q17⟩⟩ := P17
    have n_9 := q17.2.2.2
    rw [M_9] at n_9
    replace q17 := And.intro q17.1 q17.2.1
    have FI18 := gc_frc (W := fun q j => (q = 100 ∧ j = 2) ∨ (q = 100 ∧ j = 1) ∨ q = 101 ∨ q = (a2 + 22)) (V := fun q j => q = (a2 + 22)) FI11 (fun q j h => (Or.inr (Or.inr (Or.inr h)))) g17
    have t20 := (g17 a3 1).resolve_left (fun h => absurd h N_a3__a2_22)
    have t21 := (g17 100 2).resolve_left (fun h => absurd h N_100__a2_22)
    have t22 := (g17 100 1).resolve_left (fun h => absurd h N_100__a2_22)
    obtain rfl : J = J19 := funext fun q => funext fun j => ((k17 q j).resolve_left id).symm
    refine gv_callV hD rfl (As := [.inr (.inr (some (a3 + 1))), .inl 0, .inl (I11 a3 1)]) (st := [.inr (.inr (some 100))]) rfl B_a2_17 S_a2_17 rfl (gc_lV1 hws rfl) (Nat.le_of_ble_eq_true rfl) (gz_Ev_mono (d := 2) (by decide) E17) ?_
    show gv_X _ _ (37, [(0, .inr (.inr (some 100))), (1, .inl a1), (2, .inr (.inr (some a2))), (3, .inr (.inr (some a3)))], [.inl z17, .inr (.inr (some 100))], sh, gc_h sh I18 J A)
    refine gv_put hD rfl rfl S_100 ⟨by decide, B_100⟩ rfl trivial ?_
    refine gc_st (k := 2) hI18 S_100 rfl R_100 (lo := 0) (hi := 1536) rfl rfl (by omega) (by omega) (fun I23 hI23 q24 p24 => ?_)
    have FI23 := gc_frs (W := fun q j => (q = 100 ∧ j = 2) ∨ (q = 100 ∧ j = 1) ∨ q = 101 ∨ q = (a2 + 22)) FI18 (Or.inl ⟨rfl, rfl⟩) p24
    have t25 := p24 a3 1 (fun h => absurd h.2 (by decide))
    have t26 := p24 100 1 (fun h => absurd h.2 (by decide))
    have f27 := (gc_b_75_2 hI23 R_100)
    show gv_X _ _ (40, [(0, .inr (.inr (some 100))), (1, .inl a1), (2, .inr (.inr (some a2))), (3, .inr (.inr (some a3)))], [], sh, gc_h sh I23 J A)
    refine gv_run 1 true hD (pcₚ := 41) (lvₚ := [(0, .inr (.inr (some 100))), (1, .inl a1), (2, .inr (.inr (some a2))), (3, .inr (.inr (some a3)))]) (stₚ := [.inr (.inr (some a2))]) (hₚ := gc_h sh I23 J A) (C := (True ∧ True)) rfl ⟨trivial, trivial⟩ ?_
    refine gv_get hD rfl rfl S_a2 ⟨by decide, B_a2⟩ (gc_hA S_a2 rfl A_a2_15) ?_
    show gv_X _ _ (44, [(0, .inr (.inr (some 100))), (1, .inl a1), (2, .inr (.inr (some a2))), (3, .inr (.inr (some a3)))], [.inr (.inr (some (a2 + 17)))], sh, gc_h sh I23 J A)
    refine gv_get hD rfl rfl S_a2_17 ⟨by decide, B_a2_17⟩ (gc_hA S_a2_17 rfl A_a2_17_5) ?_
    show gv_X _ _ (47, [(0, .inr (.inr (some 100))), (1, .inl a1), (2, .inr (.inr (some a2))), (3, .inr (.inr (some a3)))], [.inr (.inr (some ((a2 + 17) + 5)))], sh, gc_h sh I23 J A)
    refine gv_run 2 true hD (pcₚ := 49) (lvₚ := [(0, .inr (.inr (some 100))), (1, .inl a1), (2, .inr (.inr (some a2))), (3, .inr (.inr (some a3)))]) (stₚ := [.inr (.inr (some 100)), .inl 0, .inr (.inr (some ((a2 + 17) + 5)))]) (hₚ := gc_h sh I23 J A) (C := ((True ∧ True) ∧ True)) rfl ⟨⟨trivial, trivial⟩, trivial⟩ ?_
    refine gv_get hD rfl rfl S_100 ⟨by decide, B_100⟩ (gc_hA S_100 rfl A_100_3) ?_
    show gv_X _ _ (52, [(0, .inr (.inr (some 100))), (1, .inl a1), (2, .inr (.inr (some a2))), (3, .inr (.inr (some a3)))], [.inr (.inr (some 101)), .inl 0, .inr (.inr (some ((a2 + 17) + 5)))], sh, gc_h sh I23 J A)
    refine gv_run 2 true hD (pcₚ := 54) (lvₚ := [(0, .inr (.inr (some 100))), (1, .inl a1), (2, .inr (.inr (some a2))), (3, .inr (.inr (some a3)))]) (stₚ := [.inr (.inr (some 100)), .inl 0, .inr (.inr (some 101)), .inl 0, .inr (.inr (some ((a2 + 17) + 5)))]) (hₚ := gc_h sh I23 J A) (C := ((True ∧ True) ∧ True)) rfl ⟨⟨trivial, trivial⟩, trivial⟩ ?_
    have f28 := (gc_b_75_2 hI23 R_100)
    refine gv_get hD rfl rfl S_100 ⟨by decide, B_100⟩ (gc_hI S_100 rfl) ?_
    show gv_X _ _ (57, [(0, .inr (.inr (some 100))), (1, .inl a1), (2, .inr (.inr (some a2))), (3, .inr (.inr (some a3)))], [.inl (I23 100 2), .inl 0, .inr (.inr (some 101)), .inl 0, .inr (.inr (some ((a2 + 17) + 5)))], sh, gc_h sh I23 J A)
    refine gv_copy hD rfl (gc_lC1_85 hws) (Nat.le_of_ble_eq_true rfl) ⟨B_a2_17_5, B_101⟩ S_a2_17_5 S_101 (by decide) ⟨by decide, by decide⟩ ⟨by omega, by omega, by omega⟩ (by omega) (by omega) (fun h => absurd h (by decide)) ?_
    refine gc_cp hI23 S_a2_17_5 S_101 (by decide) (fun j hj => by have h9 := (show 0 ≤ I23 ((a2 + 17) + 5) (Int.toNat 0 + j) ∧ I23 ((a2 + 17) + 5) (Int.toNat 0 + j) ≤ 1535 from gc_in2 hI23 R_a2_17_5 rfl rfl rfl); rw [R_101]; exact ⟨by show 0 ≤ _; omega, by show _ ≤ 1535; omega⟩) (fun I30 hI30 p29 q29 => ?_)
    have FI30 := gc_frp (W := fun q j => (q = 100 ∧ j = 2) ∨ (q = 100 ∧ j = 1) ∨ q = 101 ∨ q = (a2 + 22)) (V := fun q j => q = 101 ∧ Int.toNat 0 ≤ j ∧ j < Int.toNat 0 + Int.toNat (I23 100 2)) FI23 (fun q j h => (Or.inr (Or.inr (Or.inl h.1)))) p29
    have t32 := p29 a3 1 (fun h => absurd h.1 N_a3__101)
    have t33 := p29 100 2 (fun h => absurd h.1 (by decide))
    have t34 := p29 100 1 (fun h => absurd h.1 (by decide))
    have f35 := (show 0 ≤ I30 a3 1 ∧ I30 a3 1 ≤ 1000 from gc_in2 hI30 R_a3 rfl rfl rfl)
    have f36 := (gc_b_75_2 hI30 R_100)
    have f37 := (gc_b_75_1 hI30 R_100)
    show gv_X _ _ (60, [(0, .inr (.inr (some 100))), (1, .inl a1), (2, .inr (.inr (some a2))), (3, .inr (.inr (some a3)))], [], sh, gc_h sh I30 J A)
    refine gv_run 1 true hD (pcₚ := 61) (lvₚ := [(0, .inr (.inr (some 100))), (1, .inl a1), (2, .inr (.inr (some a2))), (3, .inr (.inr (some a3)))]) (stₚ := [.inr (.inr (some 100))]) (hₚ := gc_h sh I30 J A) (C := (True ∧ True)) rfl ⟨trivial, trivial⟩ ?_
    have f38 := (gc_b_75_2 hI30 R_100)
    refine gv_get hD rfl rfl S_100 ⟨by decide, B_100⟩ (gc_hI S_100 rfl) ?_
    show gv_X _ _ (64, [(0, .inr (.inr (some 100))), (1, .inl a1), (2, .inr (.inr (some a2))), (3, .inr (.inr (some a3)))], [.inl (I30 100 2)], sh, gc_h sh I30 J A)
    exact gv_iret hD rfl ⟨I30, J, rfl, hI30, FI30, FJ, ⟨_, rfl, by omega, by omega, by omega, by omega, Or.inl ⟨(w_d.resolve_right (fun h => by have := h.1; omega)).2, rfl, by omega, (by rw [show I30 100 2 = z17 from by omega]; exact n_9.1), (fo_ls_cp n_9.2 n_9.1 (fun j hj => by have h9 := q29 j (by omega); rw [show Int.toNat 0 + j = j from by omega] at h9; exact h9.trans (p24 _ j (fun h => absurd h.1 (by omega)))))⟩⟩⟩
  · show gv_X _ _ (12, [(0, .inr (.inr (some 100))), (1, .inl a1), (2, .inr (.inr (some a2))), (3, .inr (.inr (some a3)))], [], sh, gc_h sh I4 J A)
    refine gv_run 1 true hD (pcₚ := 14) (lvₚ := [(0, .inr (.inr (some 100))), (1, .inl a1), (2, .inr (.inr (some a2))), (3, .inr (.inr (some a3)))]) (stₚ := [.inl (-3)]) (hₚ := gc_h sh I4 J A) (C := (True ∧ True)) rfl ⟨trivial, trivial⟩ ?_
    exact gv_iret hD rfl ⟨I4, J, rfl, hI4, FI4, FJ, ⟨_, rfl, by omega, by omega, by omega, by omega, Or.inr ⟨(w_d.resolve_left (fun h => by have := h.1; omega)).2, rfl, by omega⟩⟩⟩
set_option maxHeartbeats 8000000 in
set_option maxRecDepth 100000 in
theorem d_X12_analyse_p {ws0 : List Cond} {tb : String → gz_T} (hws : gc_Ws ws0) (htb : gc_tbs tb) (sh : gz_Sh) (ro : Nat → Nat) (I : gr_I) (J : gr_J) (A : gc_A) (hI : gc_Inv ro I) (t : Nat) (a1 : Int) (hb : gc_Base sh ro A) (h_t : gc_isTongue sh ro A t) (G_t : 144 ≤ t) (ha1 : 0 ≤ a1 ∧ a1 ≤ 7) (x0 : 0 ≤ a1 ∧ a1 < I 8 1) (x1 : A 10 (Int.toNat a1) = some t) (x2 : gc_sc (t + 10) I) (x3 : gc_FB (t + 17) (24 * I (t + 17) 8) I) (x4 : I (t + 17) 8 ≤ I t 11) (y1 : so_lhs I t) (y2 : fo_by I t) (y3 : ¬ I (t + 17) 6 = I (t + 17) 7) (y4 : fo_K I t) : ∃ r hₚ, gz_Ev ws0 tb 6 (yX12_analyse, cX12_analyse, 4, (some .int)) [.inr (.inr (some 0)), .inl a1] sh (gc_h sh I J A) r sh hₚ 0 0 ∧ (∃ (Iₚ : gr_I) (Jₚ : gr_J), hₚ = gc_h sh Iₚ Jₚ A ∧ gc_Inv ro Iₚ ∧ (∀ q j : Nat, ((q = (t + 17) ∧ j = 8) ∨ (q = (t + 17) ∧ j = 9) ∨ q = (t + 18) ∨ q = (t + 19) ∨ q = (t + 20) ∨ q = (t + 21) ∨ (q = (t + 17) ∧ j = 6) ∨ (q = (t + 17) ∧ j = 7) ∨ q = (t + 23) ∨ q = (t + 24) ∨ (q = 100 ∧ j = 2) ∨ (q = 100 ∧ j = 1) ∨ q = 101 ∨ q = (t + 22) ∨ (q = 23 ∧ j = 1)) ∨ Iₚ q j = I q j) ∧ (∀ q j : Nat, (False) ∨ Jₚ q j = J q j) ∧ (∃ z : Int, r = some (.inl z) ∧ (-3) ≤ z ∧ z ≤ 1536 ∧ (Iₚ 23 1 = 0) ∧ (gc_FB (t + 17) (24 * I t 11) Iₚ) ∧ (Iₚ (t + 17) 8 = I t 11) ∧ (Iₚ 100 2 = 0 ∨ Iₚ 100 1 = a1) ∧ (I (t + 17) 6 = I (t + 17) 7 ∨ ¬ Iₚ (t + 17) 6 = Iₚ (t + 17) 7) ∧ (gh_BD I t Iₚ) ∧ fo_FC I Iₚ t (t + 17) ∧ gc_NP I Iₚ t a1 z)) := by
  have FI : ∀ q j : Nat, ((q = (t + 17) ∧ j = 8) ∨ (q = (t + 17) ∧ j = 9) ∨ q = (t + 18) ∨ q = (t + 19) ∨ q = (t + 20) ∨ q = (t + 21) ∨ (q = (t + 17) ∧ j = 6) ∨ (q = (t + 17) ∧ j = 7) ∨ q = (t + 23) ∨ q = (t + 24) ∨ (q = 100 ∧ j = 2) ∨ (q = 100 ∧ j = 1) ∨ q = 101 ∨ q = (t + 22) ∨ (q = 23 ∧ j = 1)) ∨ I q j = I q j := fun _ _ => Or.inr rfl
  have FJ : ∀ q j : Nat, (False) ∨ J q j = J q j := fun _ _ => Or.inr rfl
  have A_0_1 : A 0 1 = some 23 := gc_bA_0_1 hb
  have A_0_10 : A 0 10 = some 100 := gc_bA_0_10 hb
  have B_0 : 0 < 1000000 := by decide
  have B_100 : 100 < 1000000 := by decide
  have B_23 : 23 < 1000000 := by decide
  have R_100 : ro 100 = 75 := gc_bR_100 hb
  have R_23 : ro 23 = 3 := gc_bR_23 hb
  have S_0 : sh[0]? = some (false, 12, 17) := gc_bS_0 hb
  have S_100 : sh[100]? = some (false, 1, 19) := gc_bS_100 hb
  have S_23 : sh[23]? = some (false, 9, 10) := gc_bS_23 hb
  obtain ⟨S_t, R_t, B_t, A_t_0, h_t_1, A_t_1, h_t_3, A_t_2, S_t_5, R_t_5, B_t_5, A_t_3, S_t_6, R_t_6, B_t_6, A_t_4, h_t_7, A_t_5, S_t_9, R_t_9, B_t_9, A_t_7, S_t_10, R_t_10, B_t_10, A_t_8, h_t_11, A_t_9, S_t_13, R_t_13, B_t_13, A_t_10, S_t_14, R_t_14, B_t_14, A_t_12, S_t_15, R_t_15, B_t_15, A_t_14, S_t_16, R_t_16, B_t_16, A_t_15, h_t_17⟩ := id h_t
  obtain ⟨S_t_1, R_t_1, B_t_1, A_t_1_0, S_t_1_1, R_t_1_1, B_t_1_1, Q0_t_1, Q1_t_1, Q2_t_1⟩ := id h_t_1
  obtain ⟨S_t_3, R_t_3, B_t_3, A_t_3_0, S_t_3_1, R_t_3_1, B_t_3_1, Q0_t_3, Q1_t_3, Q2_t_3⟩ := id h_t_3
  obtain ⟨S_t_7, R_t_7, B_t_7, A_t_7_0, S_t_7_1, R_t_7_1, B_t_7_1, Q0_t_7, Q1_t_7, Q2_t_7⟩ := id h_t_7
  obtain ⟨S_t_11, R_t_11, B_t_11, A_t_11_0, S_t_11_1, R_t_11_1, B_t_11_1, Q0_t_11, Q1_t_11, Q2_t_11⟩ := id h_t_11
  obtain ⟨S_t_17, R_t_17, B_t_17, A_t_17_0, S_20, R_20, B_20, A_t_17_1, S_t_17_1, R_t_17_1, B_t_17_1, A_t_17_2, S_t_17_2, R_t_17_2, B_t_17_2, A_t_17_3, S_t_17_3, R_t_17_3, B_t_17_3, A_t_17_4, S_t_17_4, R_t_17_4, B_t_17_4, A_t_17_5, S_t_17_5, R_t_17_5, B_t_17_5, S_t_17_6, R_t_17_6, B_t_17_6, S_t_17_7, R_t_17_7, B_t_17_7⟩ := id h_t_17
  have hb9 : ∀ w : Int, fo_cs I t w ≤ 24 := fun w => (show 0 ≤ I (t + 13) _ ∧ I (t + 13) _ ≤ 24 from gc_in2 hI R_t_13 rfl rfl rfl).2
  have hD : gv_D (gc_E12 ws0 tb 5 (yX12_analyse, cX12_analyse, 4, (some .int)) kX12_analyse) := gq_of oX12_analyse
  refine gc_ev12 (d := 5) (l := kX12_analyse) (Po := fun r hₚ => (∃ (Iₚ : gr_I) (Jₚ : gr_J), hₚ = gc_h sh Iₚ Jₚ A ∧ gc_Inv ro Iₚ ∧ (∀ q j : Nat, ((q = (t + 17) ∧ j = 8) ∨ (q = (t + 17) ∧ j = 9) ∨ q = (t + 18) ∨ q = (t + 19) ∨ q = (t + 20) ∨ q = (t + 21) ∨ (q = (t + 17) ∧ j = 6) ∨ (q = (t + 17) ∧ j = 7) ∨ q = (t + 23) ∨ q = (t + 24) ∨ (q = 100 ∧ j = 2) ∨ (q = 100 ∧ j = 1) ∨ q = 101 ∨ q = (t + 22) ∨ (q = 23 ∧ j = 1)) ∨ Iₚ q j = I q j) ∧ (∀ q j : Nat, (False) ∨ Jₚ q j = J q j) ∧ (∃ z : Int, r = some (.inl z) ∧ (-3) ≤ z ∧ z ≤ 1536 ∧ (Iₚ 23 1 = 0) ∧ (gc_FB (t + 17) (24 * I t 11) Iₚ) ∧ (Iₚ (t + 17) 8 = I t 11) ∧ (Iₚ 100 2 = 0 ∨ Iₚ 100 1 = a1) ∧ (I (t + 17) 6 = I (t + 17) 7 ∨ ¬ Iₚ (t + 17) 6 = Iₚ (t + 17) 7) ∧ (gh_BD I t Iₚ) ∧ fo_FC I Iₚ t (t + 17) ∧ gc_NP I Iₚ t a1 z))) htb rfl (Nat.le_of_ble_eq_true rfl) ?_
  have N_23__t_18 : ¬ (23 = (t + 18)) := by omega
  have N_23__t_19 : ¬ (23 = (t + 19)) := by omega
  have N_23__t_20 : ¬ (23 = (t + 20)) := by omega
  have N_23__t_21 : ¬ (23 = (t + 21)) := by omega
  have N_23__t_23 : ¬ (23 = (t + 23)) := by omega
  have N_23__t_24 : ¬ (23 = (t + 24)) := by omega
  have N_100__t_18 : ¬ (100 = (t + 18)) := by omega
  have N_100__t_19 : ¬ (100 = (t + 19)) := by omega
  have N_100__t_20 : ¬ (100 = (t + 20)) := by omega
  have N_100__t_21 : ¬ (100 = (t + 21)) := by omega
  have N_100__t_23 : ¬ (100 = (t + 23)) := by omega
  have N_100__t_24 : ¬ (100 = (t + 24)) := by omega
  have N_t__t_18 : ¬ (t = (t + 18)) := by omega
  have N_t__t_19 : ¬ (t = (t + 19)) := by omega
  have N_t__t_20 : ¬ (t = (t + 20)) := by omega
  have N_t__t_21 : ¬ (t = (t + 21)) := by omega
  have N_t__t_23 : ¬ (t = (t + 23)) := by omega
  have N_t__t_24 : ¬ (t = (t + 24)) := by omega
  have N_23__t_22 : ¬ (23 = (t + 22)) := by omega
  have N_t_17__101 : ¬ ((t + 17) = 101) := by omega
  have N_t_17__t_22 : ¬ ((t + 17) = (t + 22)) := by omega
  have N_t__101 : ¬ (t = 101) := by omega
  have N_t__t_22 : ¬ (t = (t + 22)) := by omega
  have N_t_18__100 : ¬ ((t + 18) = 100) := by omega
  have N_t_18__101 : ¬ ((t + 18) = 101) := by omega
  have N_t_18__t_22 : ¬ ((t + 18) = (t + 22)) := by omega
  have N_t_19__100 : ¬ ((t + 19) = 100) := by omega
  have N_t_19__101 : ¬ ((t + 19) = 101) := by omega
  have N_t_19__t_22 : ¬ ((t + 19) = (t + 22)) := by omega
  have N_t_20__100 : ¬ ((t + 20) = 100) := by omega
  have N_t_20__101 : ¬ ((t + 20) = 101) := by omega
  have N_t_20__t_22 : ¬ ((t + 20) = (t + 22)) := by omega
  have N_t_21__100 : ¬ ((t + 21) = 100) := by omega
  have N_t_21__101 : ¬ ((t + 21) = 101) := by omega
  have N_t_21__t_22 : ¬ ((t + 21) = (t + 22)) := by omega
  have N_t_18__23 : ¬ ((t + 18) = 23) := by omega
  have N_t_19__23 : ¬ ((t + 19) = 23) := by omega
  have N_t_20__23 : ¬ ((t + 20) = 23) := by omega
  have N_t_21__23 : ¬ ((t + 21) = 23) := by omega
  have KBD_I : gh_BD I t I := gh_BD_rf
  have f1 := (gc_b_3_1 hI R_23)
  have f2 := (gc_b_75_1 hI R_100)
  have f3 := (gc_b_75_2 hI R_100)
  have f4 := (show 0 ≤ I (t + 17) 8 ∧ I (t + 17) 8 ≤ 64 from gc_in2 hI R_t_17 rfl rfl rfl)
  have f5 := (show 0 ≤ I t 11 ∧ I t 11 ≤ 64 from gc_in2 hI R_t rfl rfl rfl)
  have f6 := (show 0 ≤ I (t + 17) 6 ∧ I (t + 17) 6 ≤ 1 from gc_in2 hI R_t_17 rfl rfl rfl)
  have f7 := (show 0 ≤ I (t + 17) 7 ∧ I (t + 17) 7 ≤ 1 from gc_in2 hI R_t_17 rfl rfl rfl)
  refine gv_run 2 true hD (pcₚ := 2) (lvₚ := [(0, .inr (.inr (some 0))), (1, .inl a1)]) (stₚ := [.inl a1, .inr (.inr (some 0))]) (hₚ := gc_h sh I J A) (C := ((True ∧ True) ∧ True)) rfl ⟨⟨trivial, trivial⟩, trivial⟩ ?_
  refine gv_callV hD rfl (As := [.inl a1]) (st := []) rfl B_0 S_0 rfl (gc_lV12 hws rfl) (Nat.le_of_ble_eq_true rfl) (gz_Ev_mono (d := 1) (by decide) (d_X12_tongueAt hws htb (J := J) hI hb (by omega) (by omega) x1)) ?_
  show gv_X _ _ (5, [(0, .inr (.inr (some 0))), (1, .inl a1)], [.inr (.inr (some t))], sh, gc_h sh I J A)
  refine gv_run 2 true hD (pcₚ := 7) (lvₚ := [(2, .inr (.inr (some t))), (0, .inr (.inr (some 0))), (1, .inl a1)]) (stₚ := [.inr (.inr (some t))]) (hₚ := gc_h sh I J A) (C := ((True ∧ True) ∧ True)) rfl ⟨⟨trivial, trivial⟩, trivial⟩ ?_
  refine gv_get hD rfl rfl S_t ⟨by decide, B_t⟩ (gc_hA S_t rfl A_t_15) ?_
  show gv_X _ _ (10, [(2, .inr (.inr (some t))), (0, .inr (.inr (some 0))), (1, .inl a1)], [.inr (.inr (some (t + 17)))], sh, gc_h sh I J A)
  refine gv_run 1 true hD (pcₚ := 11) (lvₚ := [(2, .inr (.inr (some t))), (0, .inr (.inr (some 0))), (1, .inl a1)]) (stₚ := [.inr (.inr (some t)), .inr (.inr (some (t + 17)))]) (hₚ := gc_h sh I J A) (C := (True ∧ True)) rfl ⟨trivial, trivial⟩ ?_
  obtain ⟨r9, h9, E9, P9⟩ := d_X2_build_p (ws0 := ws0) (tb := tb) hws htb sh ro I J A hI (t + 17) t h_t_17 h_t G_t   x2 rfl x3 (by omega) y3 y1 y2 y4
  obtain ⟨I10, J11, rfl, hI10, g9, k9, ⟨rfl, q9⟩⟩ := P9
  have FI10 := gc_frc (W := fun q j => (q = (t + 17) ∧ j = 8) ∨ (q = (t + 17) ∧ j = 9) ∨ q = (t + 18) ∨ q = (t + 19) ∨ q = (t + 20) ∨ q = (t + 21) ∨ (q = (t + 17) ∧ j = 6) ∨ (q = (t + 17) ∧ j = 7) ∨ q = (t + 23) ∨ q = (t + 24) ∨ (q = 100 ∧ j = 2) ∨ (q = 100 ∧ j = 1) ∨ q = 101 ∨ q = (t + 22) ∨ (q = 23 ∧ j = 1)) (V := fun q j => (q = (t + 17) ∧ j = 6) ∨ (q = (t + 17) ∧ j = 7) ∨ (q = (t + 17) ∧ j = 8) ∨ (q = (t + 17) ∧ j = 9) ∨ q = (t + 18) ∨ q = (t + 19) ∨ q = (t + 20) ∨ q = (t + 21) ∨ q = (t + 23) ∨ q = (t + 24)) FI (fun q j h => (h.elim (fun h => (Or.inr (Or.inr (Or.inr (Or.inr (Or.inr (Or.inr (Or.inl h)))))))) (fun h => (h.elim (fun h => (Or.inr (Or.inr (Or.inr (Or.inr (Or.inr (Or.inr (Or.inr (Or.inl h))))))))) (fun h => (h.elim (fun h => (Or.inl h)) (fun h => (h.elim (fun h => (Or.inr (Or.inl h))) (fun h => (h.elim (fun h => (Or.inr (Or.inr (Or.inl h)))) (fun h => (h.elim (fun h => (Or.inr (Or.inr (Or.inr (Or.inl h))))) (fun h => (h.elim (fun h => (Or.inr (Or.inr (Or.inr (Or.inr (Or.inl h)))))) (fun h => (h.elim (fun h => (Or.inr (Or.inr (Or.inr (Or.inr (Or.inr (Or.inl h))))))) (fun h => (h.elim (fun h => (Or.inr (Or.inr (Or.inr (Or.inr (Or.inr (Or.inr (Or.inr (Or.inr (Or.inl h)))))))))) (fun h => (Or.inr (Or.inr (Or.inr (Or.inr (Or.inr (Or.inr (Or.inr (Or.inr (Or.inr (Or.inl h))))))))))))))))))))))))))))) g9
  have t12 := (g9 23 1).resolve_left (fun h => h.elim (fun h => absurd h.2 (by decide)) (fun h => h.elim (fun h => absurd h.2 (by decide)) (fun h => h.elim (fun h => absurd h.2 (by decide)) (fun h => h.elim (fun h => absurd h.2 (by decide)) (fun h => h.elim (fun h => absurd h N_23__t_18) (fun h => h.elim (fun h => absurd h N_23__t_19) (fun h => h.elim (fun h => absurd h N_23__t_20) (fun h => h.elim (fun h => absurd h N_23__t_21) (fun h => h.elim (fun h => absurd h N_23__t_23) (fun h => absurd h N_23__t_24))))))))))
  have t13 := (g9 100 1).resolve_left (fun h => h.elim (fun h => absurd h.2 (by decide)) (fun h => h.elim (fun h => absurd h.2 (by decide)) (fun h => h.elim (fun h => absurd h.2 (by decide)) (fun h => h.elim (fun h => absurd h.2 (by decide)) (fun h => h.elim (fun h => absurd h N_100__t_18) (fun h => h.elim (fun h => absurd h N_100__t_19) (fun h => h.elim (fun h => absurd h N_100__t_20) (fun h => h.elim (fun h => absurd h N_100__t_21) (fun h => h.elim (fun h => absurd h N_100__t_23) (fun h => absurd h N_100__t_24))))))))))
  have t14 := (g9 100 2).resolve_left (fun h => h.elim (fun h => absurd h.2 (by decide)) (fun h => h.elim (fun h => absurd h.2 (by decide)) (fun h => h.elim (fun h => absurd h.2 (by decide)) (fun h => h.elim (fun h => absurd h.2 (by decide)) (fun h => h.elim (fun h => absurd h N_100__t_18) (fun h => h.elim (fun h => absurd h N_100__t_19) (fun h => h.elim (fun h => absurd h N_100__t_20) (fun h => h.elim (fun h => absurd h N_100__t_21) (fun h => h.elim (fun h => absurd h N_100__t_23) (fun h => absurd h N_100__t_24))))))))))
  have t15 := (g9 t 11).resolve_left (fun h => h.elim (fun h => absurd h.2 (by decide)) (fun h => h.elim (fun h => absurd h.2 (by decide)) (fun h => h.elim (fun h => absurd h.2 (by decide)) (fun h => h.elim (fun h => absurd h.2 (by decide)) (fun h => h.elim (fun h => absurd h N_t__t_18) (fun h => h.elim (fun h => absurd h N_t__t_19) (fun h => h.elim (fun h => absurd h N_t__t_20) (fun h => h.elim (fun h => absurd h N_t__t_21) (fun h => h.elim (fun h => absurd h N_t__t_23) (fun h => absurd h N_t__t_24))))))))))
  have f16 := (show 0 ≤ I10 (t + 17) 8 ∧ I10 (t + 17) 8 ≤ 64 from gc_in2 hI10 R_t_17 rfl rfl rfl)
  have f17 := (show 0 ≤ I10 (t + 17) 6 ∧ I10 (t + 17) 6 ≤ 1 from gc_in2 hI10 R_t_17 rfl rfl rfl)
  have f18 := (show 0 ≤ I10 (t + 17) 7 ∧ I10 (t + 17) 7 ≤ 1 from gc_in2 hI10 R_t_17 rfl rfl rfl)
  obtain rfl : J = J11 := funext fun q => funext fun j => ((k9 q j).resolve_left id).symm
  have KBD_I10 : gh_BD I t I10 := gh_BD_tr KBD_I gh_tb_rf (by omega) (Or.inr (fun _ _ _ _ => ⟨q9.2.2.1, q9.2.2.2.2⟩))
  refine gv_callV hD rfl (As := [.inr (.inr (some t))]) (st := []) rfl B_t_17 S_t_17 rfl (gc_lV12 hws rfl) (Nat.le_of_ble_eq_true rfl) (gz_Ev_mono (d := 5) (by decide) E9) ?_
  show gv_X _ _ (14, [(2, .inr (.inr (some t))), (0, .inr (.inr (some 0))), (1, .inl a1)], [], sh, gc_h sh I10 J A)
  refine gv_run 1 true hD (pcₚ := 15) (lvₚ := [(2, .inr (.inr (some t))), (0, .inr (.inr (some 0))), (1, .inl a1)]) (stₚ := [.inr (.inr (some 0))]) (hₚ := gc_h sh I10 J A) (C := (True ∧ True)) rfl ⟨trivial, trivial⟩ ?_
  refine gv_get hD rfl rfl S_0 ⟨by decide, B_0⟩ (gc_hA S_0 rfl A_0_10) ?_
  show gv_X _ _ (18, [(2, .inr (.inr (some t))), (0, .inr (.inr (some 0))), (1, .inl a1)], [.inr (.inr (some 100))], sh, gc_h sh I10 J A)
  refine gv_run 3 true hD (pcₚ := 21) (lvₚ := [(2, .inr (.inr (some t))), (0, .inr (.inr (some 0))), (1, .inl a1)]) (stₚ := [.inr (.inr (some 0)), .inr (.inr (some t)), .inl a1, .inr (.inr (some 100))]) (hₚ := gc_h sh I10 J A) (C := (((True ∧ True) ∧ True) ∧ True)) rfl ⟨⟨⟨trivial, trivial⟩, trivial⟩, trivial⟩ ?_
  refine gv_get hD rfl rfl S_0 ⟨by decide, B_0⟩ (gc_hA S_0 rfl A_0_1) ?_
  show gv_X _ _ (24, [(2, .inr (.inr (some t))), (0, .inr (.inr (some 0))), (1, .inl a1)], [.inr (.inr (some 23)), .inr (.inr (some t)), .inl a1, .inr (.inr (some 100))], sh, gc_h sh I10 J A)
  obtain ⟨r19, h19, E19, P19⟩ := d_X1_noteAnalyses_p (ws0 := ws0) (tb := tb) hws htb sh ro I10 J A hI10  a1 t 23 hb h_t G_t (gc_b23 hb) (by omega)  ⟨by omega, by omega⟩ (24 * I t 11) (fo_al I t) q9.1 q9.2.2.2.2.2 (fo_al_b hb9 (by omega))
  obtain ⟨I20, J21, rfl, hI20, g19, k19, ⟨z19, rfl, q19⟩⟩ := P19
  have N_9 := q19.2.2.2.2
  replace q19 := And.intro q19.1 (And.intro q19.2.1 (And.intro q19.2.2.1 q19.2.2.2.1))
  have FI20 := gc_frc (W := fun q j => (q = (t + 17) ∧ j = 8) ∨ (q = (t + 17) ∧ j = 9) ∨ q = (t + 18) ∨ q = (t + 19) ∨ q = (t + 20) ∨ q = (t + 21) ∨ (q = (t + 17) ∧ j = 6) ∨ (q = (t + 17) ∧ j = 7) ∨ q = (t + 23) ∨ q = (t + 24) ∨ (q = 100 ∧ j = 2) ∨ (q = 100 ∧ j = 1) ∨ q = 101 ∨ q = (t + 22) ∨ (q = 23 ∧ j = 1)) (V := fun q j => (q = 100 ∧ j = 2) ∨ (q = 100 ∧ j = 1) ∨ q = 101 ∨ q = (t + 22)) FI10 (fun q j h => (h.elim (fun h => (Or.inr (Or.inr (Or.inr (Or.inr (Or.inr (Or.inr (Or.inr (Or.inr (Or.inr (Or.inr (Or.inl h)))))))))))) (fun h => (h.elim (fun h => (Or.inr (Or.inr (Or.inr (Or.inr (Or.inr (Or.inr (Or.inr (Or.inr (Or.inr (Or.inr (Or.inr (Or.inl h))))))))))))) (fun h => (h.elim (fun h => (Or.inr (Or.inr (Or.inr (Or.inr (Or.inr (Or.inr (Or.inr (Or.inr (Or.inr (Or.inr (Or.inr (Or.inr (Or.inl h)))))))))))))) (fun h => (Or.inr (Or.inr (Or.inr (Or.inr (Or.inr (Or.inr (Or.inr (Or.inr (Or.inr (Or.inr (Or.inr (Or.inr (Or.inr (Or.inl h))))))))))))))))))))) g19
  have t22 := (g19 23 1).resolve_left (fun h => h.elim (fun h => absurd h.2 (by decide)) (fun h => h.elim (fun h => absurd h.1 (by decide)) (fun h => h.elim (fun h => absurd h (by decide)) (fun h => absurd h N_23__t_22))))
  have t23 := (g19 (t + 17) 8).resolve_left (fun h => h.elim (fun h => absurd h.2 (by decide)) (fun h => h.elim (fun h => absurd h.2 (by decide)) (fun h => h.elim (fun h => absurd h N_t_17__101) (fun h => absurd h N_t_17__t_22))))
  have t24 := (g19 t 11).resolve_left (fun h => h.elim (fun h => absurd h.2 (by decide)) (fun h => h.elim (fun h => absurd h.2 (by decide)) (fun h => h.elim (fun h => absurd h N_t__101) (fun h => absurd h N_t__t_22))))
  have t25 := (g19 (t + 17) 6).resolve_left (fun h => h.elim (fun h => absurd h.2 (by decide)) (fun h => h.elim (fun h => absurd h.2 (by decide)) (fun h => h.elim (fun h => absurd h N_t_17__101) (fun h => absurd h N_t_17__t_22))))
  have t26 := (g19 (t + 17) 7).resolve_left (fun h => h.elim (fun h => absurd h.2 (by decide)) (fun h => h.elim (fun h => absurd h.2 (by decide)) (fun h => h.elim (fun h => absurd h N_t_17__101) (fun h => absurd h N_t_17__t_22))))
  have f27 := (gc_b_75_1 hI20 R_100)
  have f28 := (gc_b_75_2 hI20 R_100)
  obtain rfl : J = J21 := funext fun q => funext fun j => ((k19 q j).resolve_left id).symm
  have KBD_I20 := gh_BD_fr KBD_I10 ((g19 (t + 17) 8).resolve_left (fun h => h.elim (fun h => absurd h.2 (by decide)) (fun h => h.elim (fun h => absurd h.2 (by decide)) (fun h => h.elim (fun h => absurd h N_t_17__101) (fun h => absurd h N_t_17__t_22))))) ((g19 (t + 17) 9).resolve_left (fun h => h.elim (fun h => absurd h.2 (by decide)) (fun h => h.elim (fun h => absurd h.2 (by decide)) (fun h => h.elim (fun h => absurd h N_t_17__101) (fun h => absurd h N_t_17__t_22))))) (fun k => (g19 (t + 18) k).resolve_left (fun h => h.elim (fun h => absurd h.1 N_t_18__100) (fun h => h.elim (fun h => absurd h.1 N_t_18__100) (fun h => h.elim (fun h => absurd h N_t_18__101) (fun h => absurd h N_t_18__t_22))))) (fun k => (g19 (t + 19) k).resolve_left (fun h => h.elim (fun h => absurd h.1 N_t_19__100) (fun h => h.elim (fun h => absurd h.1 N_t_19__100) (fun h => h.elim (fun h => absurd h N_t_19__101) (fun h => absurd h N_t_19__t_22))))) (fun k => (g19 (t + 20) k).resolve_left (fun h => h.elim (fun h => absurd h.1 N_t_20__100) (fun h => h.elim (fun h => absurd h.1 N_t_20__100) (fun h => h.elim (fun h => absurd h N_t_20__101) (fun h => absurd h N_t_20__t_22))))) (fun k => (g19 (t + 21) k).resolve_left (fun h => h.elim (fun h => absurd h.1 N_t_21__100) (fun h => h.elim (fun h => absurd h.1 N_t_21__100) (fun h => h.elim (fun h => absurd h N_t_21__101) (fun h => absurd h N_t_21__t_22)))))
  refine gv_callV hD rfl (As := [.inl a1, .inr (.inr (some t)), .inr (.inr (some 23))]) (st := []) rfl B_100 S_100 rfl (gc_lV12 hws rfl) (Nat.le_of_ble_eq_true rfl) (gz_Ev_mono (d := 3) (by decide) E19) ?_
  show gv_X _ _ (27, [(2, .inr (.inr (some t))), (0, .inr (.inr (some 0))), (1, .inl a1)], [.inl z19], sh, gc_h sh I20 J A)
  refine gv_run 2 true hD (pcₚ := 29) (lvₚ := [(3, .inl z19), (2, .inr (.inr (some t))), (0, .inr (.inr (some 0))), (1, .inl a1)]) (stₚ := [.inr (.inr (some 0))]) (hₚ := gc_h sh I20 J A) (C := ((True ∧ True) ∧ True)) rfl ⟨⟨trivial, trivial⟩, trivial⟩ ?_
  refine gv_get hD rfl rfl S_0 ⟨by decide, B_0⟩ (gc_hA S_0 rfl A_0_1) ?_
  show gv_X _ _ (32, [(3, .inl z19), (2, .inr (.inr (some t))), (0, .inr (.inr (some 0))), (1, .inl a1)], [.inr (.inr (some 23))], sh, gc_h sh I20 J A)
  refine gv_run 1 true hD (pcₚ := 33) (lvₚ := [(3, .inl z19), (2, .inr (.inr (some t))), (0, .inr (.inr (some 0))), (1, .inl a1)]) (stₚ := [.inl 0, .inr (.inr (some 23))]) (hₚ := gc_h sh I20 J A) (C := (True ∧ True)) rfl ⟨trivial, trivial⟩ ?_
  refine gv_put hD rfl rfl S_23 ⟨by decide, B_23⟩ rfl trivial ?_
  refine gc_st (k := 1) hI20 S_23 rfl R_23 (lo := 0) (hi := 1000) rfl rfl (by omega) (by omega) (fun I29 hI29 q30 p30 => ?_)
  have FI29 := gc_frs (W := fun q j => (q = (t + 17) ∧ j = 8) ∨ (q = (t + 17) ∧ j = 9) ∨ q = (t + 18) ∨ q = (t + 19) ∨ q = (t + 20) ∨ q = (t + 21) ∨ (q = (t + 17) ∧ j = 6) ∨ (q = (t + 17) ∧ j = 7) ∨ q = (t + 23) ∨ q = (t + 24) ∨ (q = 100 ∧ j = 2) ∨ (q = 100 ∧ j = 1) ∨ q = 101 ∨ q = (t + 22) ∨ (q = 23 ∧ j = 1)) FI20 (Or.inr (Or.inr (Or.inr (Or.inr (Or.inr (Or.inr (Or.inr (Or.inr (Or.inr (Or.inr (Or.inr (Or.inr (Or.inr (Or.inr ⟨rfl, rfl⟩)))))))))))))) p30
  have t31 := p30 100 1 (fun h => absurd h.1 (by decide))
  have t32 := p30 100 2 (fun h => absurd h.2 (by decide))
  have t33 := p30 (t + 17) 8 (fun h => absurd h.2 (by decide))
  have t34 := p30 t 11 (fun h => absurd h.2 (by decide))
  have t35 := p30 (t + 17) 6 (fun h => absurd h.2 (by decide))
  have t36 := p30 (t + 17) 7 (fun h => absurd h.2 (by decide))
  have f37 := (gc_b_3_1 hI29 R_23)
  have KBD_I29 := gh_BD_fr KBD_I20 (p30 (t + 17) 8 (fun h => absurd h.2 (by decide))) (p30 (t + 17) 9 (fun h => absurd h.2 (by decide))) (fun k => p30 (t + 18) k (fun h => absurd h.1 N_t_18__23)) (fun k => p30 (t + 19) k (fun h => absurd h.1 N_t_19__23)) (fun k => p30 (t + 20) k (fun h => absurd h.1 N_t_20__23)) (fun k => p30 (t + 21) k (fun h => absurd h.1 N_t_21__23))
  show gv_X _ _ (36, [(3, .inl z19), (2, .inr (.inr (some t))), (0, .inr (.inr (some 0))), (1, .inl a1)], [], sh, gc_h sh I29 J A)
  refine gv_run 1 true hD (pcₚ := 37) (lvₚ := [(3, .inl z19), (2, .inr (.inr (some t))), (0, .inr (.inr (some 0))), (1, .inl a1)]) (stₚ := [.inl z19]) (hₚ := gc_h sh I29 J A) (C := (True ∧ True)) rfl ⟨trivial, trivial⟩ ?_
  exact gv_iret hD rfl ⟨I29, J, rfl, hI29, FI29, FJ, ⟨_, rfl, by omega, by omega, by omega, (gc_FB_fr q9.1 (fun k => ((p30 (t + 17 + 4) k (fun h => absurd h.1 (by omega))).trans ((g19 (t + 17 + 4) k).resolve_left (by omega)))) (fun k => ((p30 (t + 17 + 3) k (fun h => absurd h.1 (by omega))).trans ((g19 (t + 17 + 3) k).resolve_left (by omega))))), by omega, by omega, by omega, KBD_I29, (fo_FC_rw q9.2.2.2.2 (fun j => (p30 (t + 17 + 1) j (fun h => absurd h.1 (by omega))).trans ((g19 (t + 17 + 1) j).resolve_left (by omega))) (fun j => (p30 (t + 17 + 2) j (fun h => absurd h.1 (by omega))).trans ((g19 (t + 17 + 2) j).resolve_left (by omega))) (fun j => (p30 (t + 17 + 3) j (fun h => absurd h.1 (by omega))).trans ((g19 (t + 17 + 3) j).resolve_left (by omega))) (fun j => (p30 (t + 17 + 4) j (fun h => absurd h.1 (by omega))).trans ((g19 (t + 17 + 4) j).resolve_left (by omega)))), (gc_NP_mk N_9 ((g9 23 1).resolve_left (by omega)) (fun k => (g9 24 k).resolve_left (by omega)) (fun k => (p30 (t + 17 + 1) k (fun h => absurd h.1 (by omega))).trans ((g19 (t + 17 + 1) k).resolve_left (by omega))) (fun k => (p30 (t + 17 + 2) k (fun h => absurd h.1 (by omega))).trans ((g19 (t + 17 + 2) k).resolve_left (by omega))) (p30 100 2 (fun h => absurd h.1 (by decide))) (p30 100 1 (fun h => absurd h.1 (by decide))) (fun k => p30 101 k (fun h => absurd h.1 (by decide))))⟩⟩
set_option maxHeartbeats 8000000 in
set_option maxRecDepth 100000 in
theorem hh_analyse_z {ws0 : List Cond} {tb : String → gz_T} (hws : gc_Ws ws0) (htb : gc_tbs tb) {sh : gz_Sh} {ro : Nat → Nat} {I : gr_I} {J : gr_J} {A : gc_A} (hs : gh_HS sh ro I J A) (hc : gh_HC sh ro A I) (a1 : Int) (h1 : 0 ≤ a1 ∧ a1 < I 8 1) (yl : ∀ t, A 10 (Int.toNat a1) = some t → so_lhs I t ∧ fo_by I t) : ∃ (t : Nat) (z : Int) (Iₚ : gr_I) (Jₚ : gr_J), gz_Ev ws0 tb 100 (yX12_analyse, cX12_analyse, 4, (some .int)) [.inr (.inr (some 0)), .inl a1] sh (gc_h sh I J A) (some (.inl z)) sh (gc_h sh Iₚ Jₚ A) 0 0 ∧ A 10 (Int.toNat a1) = some t ∧ (fo_FC I Iₚ t (t + 17) ∧ gc_NP I Iₚ t a1 z) ∧ gh_K sh ro A I J Iₚ Jₚ (0) 1 := by
  have hb := hs.1
  have hI := hs.2.1
  have hok := hs.2.2.1
  have hT := hs.2.2.2.1
  have hU := hs.2.2.2.2.1
  have i8 : 0 ≤ I 8 1 ∧ I 8 1 ≤ 8 := gc_in hI (gc_bR hb (by decide) rfl) rfl rfl
  have h144 := gc_Base_len hb
  obtain ⟨c1, c2, c3, c4, c5, c6, c7, c8⟩ := id hc
  obtain ⟨t, ht, tL, tv, tl, tw⟩ := hU (Int.toNat a1) (by omega)
  have Tt := hT.1 (Int.toNat a1) t (by omega) ht
  have Gt := Tt.2.1
  have FB := c6 (Int.toNat a1) t (by omega) ht
  obtain ⟨r, hₚ, E, Iₚ, Jₚ, rfl, hIₚ, g, k, z, rfl, p0, p1, p2, p3, p4, p5, pF, pB, pA⟩ := d_X12_analyse_p hws htb sh ro I J A hI t a1 hb Tt.1 Tt.2.1 ⟨by omega, by omega⟩ ⟨by omega, by omega⟩ ht Tt.2.2 FB.1 (FB.2.1 (by omega)) (yl t ht).1 (yl t ht).2 FB.2.2.2.1 ((FB.2.2.2.2.1 (by omega)) (yl t ht).1 (yl t ht).2 FB.2.2.2.1).2
  obtain ⟨b0, b1, b2, b3, b4, b5, b6, b7, b8, b9, b10, b11, b12, b13, b14, b15, b16, b17, b18, b19, b20, b21, b22, b23, b24, b25, b26, b27, b28, b29, b30, b31, b32, b33, b34, b35, b36, b37, b38, b39, b40, b41, b42, b43, b44⟩ := id Tt.1
  obtain ⟨f0, f1, f2, f3, f4, f5, f6, f7, f8, f9, f10, f11, f12, f13, f14, f15, f16, f17, f18, f19, f20, f21, f22, f23, f24, f25, f26, f27, f28, f29, f30, f31, f32⟩ := id b44
  have F_0 := f0
  have F_R := f1
  have F_1 := f8
  have F_2 := f12
  have F_3 := f16
  have F_4 := f20
  have F_5 := f24
  have F_6 := f27
  have F_7 := f30
  have lt7 := gc_x_lt F_7
  have ok' : gc_OK sh Iₚ Jₚ A := gh_OK_g hok (fun q j => (g q j).elim (fun h => by
      rcases h with ⟨rfl, rfl⟩ | ⟨rfl, rfl⟩ | rfl | rfl | rfl | rfl | ⟨rfl, rfl⟩ | ⟨rfl, rfl⟩ | rfl | rfl | ⟨rfl, rfl⟩ | ⟨rfl, rfl⟩ | rfl | rfl | ⟨rfl, rfl⟩
      · exact Or.inl (gh_ok0 F_0 rfl)
      · exact Or.inl (gh_ok0 F_0 rfl)
      · exact Or.inl (gh_ok0 F_1 rfl)
      · exact Or.inl (gh_ok0 F_2 rfl)
      · exact Or.inl (gh_ok0 F_3 rfl)
      · exact Or.inl (gh_ok0 F_4 rfl)
      · have h9 : (0 : Int) ≤ Iₚ (t + 17) 6 ∧ Iₚ (t + 17) 6 ≤ 1 := gc_in hIₚ (F_R) rfl rfl
        exact Or.inl (gh_okn (n := 6) F_0 rfl (by omega))
      · have h9 : (0 : Int) ≤ Iₚ (t + 17) 7 ∧ Iₚ (t + 17) 7 ≤ 1 := gc_in hIₚ (F_R) rfl rfl
        exact Or.inl (gh_okn (n := 6) F_0 rfl (by omega))
      · exact Or.inl (gh_ok0 F_6 rfl)
      · exact Or.inl (gh_ok0 F_7 rfl)
      · exact Or.inl (gh_ok0 (gc_bS hb (p := 100) rfl) rfl)
      · exact Or.inl (gh_ok0 (gc_bS hb (p := 100) rfl) rfl)
      · exact Or.inl (gh_ok0 (gc_bS hb (p := 101) rfl) rfl)
      · exact Or.inl (gh_ok0 F_5 rfl)
      · exact Or.inl (gh_ok0 (gc_bS hb (p := 23) rfl) rfl)
      ) Or.inr) (fun q j => (k q j).imp (fun h => h.elim) id)
  have hk := gh_HS_k (i := Int.toNat a1) hs (by omega) ht hIₚ ok' (fun q j => (g q j).imp (fun h => by omega) id) (fun q j => (k q j).imp (fun h => h.elim) id)
  refine ⟨t, z, Iₚ, Jₚ, gz_Ev_mono (by decide) E, ht, pA, ⟨hk.1, ⟨(gc_FN_fr c1 (fun k => ((g 49 k).resolve_left (by omega))) (fun k => ((g 50 k).resolve_left (by omega)))), (gc_FZ_fr c2 ((g 2 1).resolve_left (by omega)) (fun k => ((g 49 k).resolve_left (by omega))) (fun k => ((g 50 k).resolve_left (by omega)))), (by have h1 := ((g 86 2).resolve_left (by omega)); have h2 := ((g 86 4).resolve_left (by omega)); omega), (by have h3 := hk.2.1 8 1 (by decide) (by decide); omega), (gh_SN_fr c5 ((g 100 9).resolve_left (by omega))), (gh_FBT_t hT c6 hk.2 (by omega) (by omega) ht (fun q j hq => (g q j).imp (fun h => by omega) id) (by rw [p4]; exact p3) (by omega) (fun h9 => by omega) pB), (gh_TRE_k c7 hk.2 (fun q j h1 h2 h3 => ((g q j).resolve_left (by omega)))), (gh_RKO_fr hs c8 hk.2 (fun q j h1 h2 => ((g q j).resolve_left (by omega))))⟩, hk.2, by omega, (fun k9 h9 => ((g 24 k9).resolve_left (by omega))), ⟨(g 100 9).resolve_left (by omega), fun h => absurd rfl h, fun _ => ⟨(g 100 4).resolve_left (by omega), (g 100 7).resolve_left (by omega), (g 100 8).resolve_left (by omega), fun k => (g 102 k).resolve_left (by omega), fun k => (g 103 k).resolve_left (by omega)⟩, fun _ => ⟨(g 100 14).resolve_left (by omega), fun k => (g 111 k).resolve_left (by omega), fun k => (g 112 k).resolve_left (by omega)⟩⟩⟩⟩
set_option maxHeartbeats 8000000 in
set_option maxRecDepth 100000 in
theorem q_analyse_z {ws0 : List Cond} {tb : String → gz_T} (hws : ∀ w ∈ gr_ws, w ∈ ws0) (htb : tb RX13 = gr_T) (ext : gz_Sh) {n : Nat} {I : gr_I} {J : gr_J} (h : gq_St n I) (hn : n < 64) (a1 : Int) (ha1 : (-2147483648) ≤ a1 ∧ a1 ≤ 2147483647) (y0 : gr_KQ I) : ∃ r hₚ, gz_Ev ws0 tb 1000 (yX13_analyse, cX13_analyse, 5, (some .int)) [.inr (.inr (some 0)), .inl a1] (gr_sh ++ ext) (gr_h I J) r (gr_sh ++ ext) hₚ 0 0 ∧ (∃ (Iₚ : gr_I) (Jₚ : gr_J), hₚ = gr_h Iₚ Jₚ ∧ gq_St (n + 1) Iₚ ∧ (gq_T 1 I J Iₚ Jₚ ∧ ∀ k, Iₚ 56 k = I 56 k) ∧ (∃ z : Int, r = some (.inl z) ∧ (-2147483648) ≤ z ∧ z ≤ 2147483647 ∧ ((0 ≤ a1 ∧ a1 < I 0 1) → Iₚ 0 68 = 0) ∧ (¬ (0 ≤ a1 ∧ a1 < I 0 1) → Iₚ 0 68 = I 0 68) ∧ ((0 ≤ a1 ∧ a1 < I 0 1) → Iₚ 0 0 = 0) ∧ (¬ (0 ≤ a1 ∧ a1 < I 0 1) → Iₚ 0 0 = 1) ∧ fo_aP I Iₚ a1 z ∧ fo_nA I Iₚ a1)) := by
  obtain ⟨⟨hI, KTM, KVF, KGR, KTO, KFM, KFV, KPL, KOX⟩, KLE, b1, b2, b3, b4, b5⟩ := h
  have rt := (gr_b_0_68 hI)
  obtain ⟨r, h1, E, P⟩ := r_analyse_p (ws0 := ws0) (tb := tb) hws htb ext I J hI a1 ha1 y0
  obtain ⟨Iₚ, Jₚ, e1, hIₚ, F, G, ⟨z, hr, q⟩⟩ := P
  have qP := q.2.2.2.2.2.2.1
  have qN := q.2.2.2.2.2.2.2.1
  have qK := q.2.2.2.2.2.2.2.2
  replace q := And.intro q.1 (And.intro q.2.1 (And.intro q.2.2.1 (And.intro q.2.2.2.1 (And.intro q.2.2.2.2.1 q.2.2.2.2.2.1))))
  have KTM' := gr_TM_fr KTM (fun k => F 52 k rfl) (fun k => F 53 k rfl) (fun k => F 54 k rfl) (F 0 64 rfl)
  have KVF' := gr_VF_fr KVF (fun k => F 14 k rfl) (fun k => F 13 k rfl)
  have KGR' := gr_GR_fr KGR (fun k => F 19 k rfl) (fun k => F 18 k rfl) (fun k => F 36 k rfl) (fun k => F 41 k rfl) (fun k => F 42 k rfl) (fun k => F 43 k rfl) (fun k => F 45 k rfl) (fun k => F 46 k rfl) (fun k => F 47 k rfl) (fun k => F 6 k rfl) (fun k => F 7 k rfl) (fun k => F 8 k rfl) (F 0 3 rfl)
  have KTO' := gr_TO_fr KTO (fun k => F 52 k rfl) (fun k => F 53 k rfl) (fun k => F 54 k rfl) (fun k => F 55 k rfl) (fun k => F 6 k rfl) (F 0 64 rfl) (F 0 3 rfl)
  have KFM' := gr_FM_fr KFM (fun k => F 10 k rfl) (fun k => F 55 k rfl) (fun k => F 52 k rfl) (fun k => F 53 k rfl) (fun k => F 54 k rfl) (F 0 64 rfl) (F 0 3 rfl)
  have KFV' := gr_FV_fr KFV (fun k => F 87 k rfl) (fun k => F 88 k rfl) (fun k => F 104 k rfl) (fun k => F 90 k rfl) (fun k => F 91 k rfl) (fun k => F 92 k rfl) (fun k => F 94 k rfl) (fun k => F 95 k rfl) (fun k => F 97 k rfl) (fun k => F 98 k rfl) (fun k => F 19 k rfl) (fun k => F 18 k rfl) (fun k => F 41 k rfl) (fun k => F 6 k rfl) (fun k => F 99 k rfl) (fun k => F 105 k rfl) (fun k => F 107 k rfl) (fun k => F 108 k rfl) (fun k => F 110 k rfl) (fun k => F 111 k rfl) (F 0 157 rfl) (F 0 158 rfl) (F 0 177 rfl) (F 0 186 rfl) (F 0 159 rfl) hI
  have KPL' := gr_PL_fr KPL (fun k => F 114 k rfl) (fun k => F 115 k rfl) (fun k => F 6 k rfl) (F 0 3 rfl)
  have KOX' := gr_OX_fr KOX (fun k => F 121 k rfl) (fun k => F 120 k rfl)
  have e59 := F 0 59 rfl
  have e42 := F 0 42 rfl
  have e64 := F 0 64 rfl
  have e100 := F 0 100 rfl
  have eC := F 0 206 rfl
  have KLE' : gr_LE (20 * ((n + 1 : Nat) : Int)) Iₚ := gr_LE_tp KLE (fun k => F 19 k rfl) (by omega)
  exact ⟨r, h1, gz_Ev_mono (d := 7) (by decide) E, Iₚ, Jₚ, e1, ⟨⟨hIₚ, KTM', KVF', KGR', KTO', KFM', KFV', KPL', KOX'⟩, KLE', by omega, by omega, by omega, by omega, by omega⟩, ⟨gq_Tok F G qK (by decide) (by decide) ⟨fun h => absurd rfl h, fun _ => ⟨F 0 136 rfl, F 0 137 rfl, F 0 138 rfl, fun k => F 81 k rfl, fun k => F 82 k rfl⟩, fun _ => ⟨F 0 211 rfl, fun k => F 132 k rfl, fun k => F 133 k rfl⟩⟩, fun k => F 56 k rfl⟩, ⟨z, hr, by omega, by omega, by omega, by omega, by omega, by omega, qP, qN⟩⟩
set_option maxHeartbeats 2000000 in
theorem gp_analysex {ws0 : List Cond} {tb : String → gz_T} (hws : gc_Ws ws0) (htb : gc_tbs tb) (hwr : ∀ w ∈ gr_ws, w ∈ ws0) (htr : tb RX13 = gr_T) (ext : gz_Sh) {n a s : Nat} {sh : gz_Sh} {ro : Nat → Nat} {I : gr_I} {J : gr_J} {A : gc_A} {Ir : gr_I} {Jr : gr_J} (h : gp_P n a s sh ro I J A Ir Jr) (hn : n < 64) (a1 : Int) (ra1 : (-2147483648) ≤ a1 ∧ a1 ≤ 2147483647) : ∃ (z : Int) (Irₚ : gr_I) (Jrₚ : gr_J), gz_Ev ws0 tb 1000 (yX13_analyse, cX13_analyse, 5, (some .int)) [.inr (.inr (some 0)), .inl a1] (gr_sh ++ ext) (gr_h Ir Jr) (some (.inl z)) (gr_sh ++ ext) (gr_h Irₚ Jrₚ) 0 0 ∧ gr_Inv Irₚ ∧ ((-2147483648) ≤ z ∧ z ≤ 2147483647) ∧ ((∃ (Iₚ : gr_I) (Jₚ : gr_J), gz_Ev ws0 tb 100 (yX12_analyse, cX12_analyse, 4, (some .int)) [.inr (.inr (some 0)), .inl a1] sh (gc_h sh I J A) (some (.inl z)) sh (gc_h sh Iₚ Jₚ A) 0 0 ∧ Irₚ 0 0 = 0 ∧ gp_P (n + 1) a s sh ro Iₚ Jₚ A Irₚ Jrₚ) ∨ (gk_T ws0 tb (yX12_analyse, cX12_analyse, 4, (some .int)) [.inr (.inr (some 0)), .inl a1] sh I J A px_IAE ∧ Irₚ 0 0 = 1 ∧ gp_P (n + 1) (a + 1) (s + 6) sh ro I J A Irₚ Jrₚ)) := by
  have hs := h.1.1
  have hc := h.1.2.1
  have hR := h.2.2.1
  have e1 : I 8 1 = Ir 0 1 := hR.2.2.2.1.1
  have e3 := h.2.2.2.1
  have h6 := h.2.2.2.2.1
  have hS := h.2.2.2.2.2
  have i3 := gk_tp hs
  have i8 : 0 ≤ I 8 1 ∧ I 8 1 ≤ 8 := gc_in hs.2.1 (gc_bR hs.1 (by decide) rfl) rfl rfl
  obtain ⟨rr, hₚ, E, Irₚ, Jrₚ, rfl, q, t, z, rfl, l1, l2, P1, P2, P3, P4, P5, P6⟩ := q_analyse_z hwr htr ext h.2.1.1 hn a1 ra1 h.2.1.2.2.1
  by_cases c : 0 ≤ a1 ∧ a1 < I 8 1
  · obtain ⟨t9, ht9, _⟩ := hs.2.2.2.2.1 (Int.toNat a1) (by omega)
    have e9 : ∀ u, A 10 (Int.toNat a1) = some u → u = t9 := fun u hu => Option.some.inj (hu.symm.trans ht9)
    obtain ⟨t8, z9, Iₚ, Jₚ, E9, ht8, ⟨F9, N9⟩, K9⟩ := hh_analyse_z hws htb hs hc a1 c (fun u hu => by
      rw [e9 u hu]
      exact ⟨gs_lh9 hS (i := Int.toNat a1) (by omega) ht9, gs_by9 hR hS i8.2 (i := Int.toNat a1) (by omega) ht9⟩)
    rw [e9 t8 ht8] at F9 N9
    have se := gh_SE_tb K9.2.2.1 (i := Int.toNat a1) (by omega) ht9
    have e81 : Iₚ 8 1 = I 8 1 := K9.2.2.1.1 8 1 (by decide) (by decide)
    have gs_wd_iff : so_wd (I 23 1) (I 24) ↔ so_wd (Ir 0 68) (Ir 56) := ⟨fun g => ⟨by rw [← e3]; exact g.1, fun k hk => by rw [← h6 k (by omega)]; exact g.2 k (by omega)⟩, fun g => ⟨by rw [e3]; exact g.1, fun k hk => by rw [h6 k hk]; exact g.2 k (by omega)⟩⟩
    have key : z9 = z ∧ gs_Na Iₚ A Irₚ := by
      rcases P5 (by omega) with ⟨w1, r1, r2, r3⟩ | ⟨w1, r1, r2⟩
      · rcases N9 with ⟨v1, s1, s2, s3, s4⟩ | ⟨v1, _, _⟩
        · have FS := gs_FS_mk hR hS i8.2 (i := Int.toNat a1) (by omega) ht9 F9 (Ir1 := Irₚ) (by rw [show ((Int.toNat a1 : Nat) : Int) = a1 from by omega]; exact r3.1)
          have mi := fun x => gs_M_iff hR hS i8.2 (i := Int.toNat a1) (by omega) ht9 FS (n := I 23 1) (n' := Ir 0 68) (g := I 24) (gₚ := Ir 56) e3 h6 x
          rw [show ((Int.toNat a1 : Nat) : Int) = a1 from by omega] at mi
          obtain ⟨k1, k2⟩ := fo_ls_u mi s3 s4 r3.2.1 r3.2.2
          refine ⟨by omega, by omega, fun j hj => k2 j (by omega), fun _ => ⟨by omega, by omega, fun u hu j hj => ?_⟩⟩
          rw [s2] at hu
          rw [e9 u hu, gh_tb_al se]
          obtain ⟨x, x1, x2, x3⟩ := fo_cn_at s3 (i := (j : Int)) (by omega) (by omega)
          have x4 := s4 x (j : Int) x1 x2 x3
          rw [show Int.toNat (j : Int) = j from rfl] at x4
          rw [x4]
          exact x2.1
        · exact absurd (gs_wd_iff.mpr w1) v1
      · rcases N9 with ⟨v1, _⟩ | ⟨_, s1, s2⟩
        · exact absurd (gs_wd_iff.mp v1) w1
        · exact ⟨by omega, by omega, fun j hj => by omega, fun h9 => by omega⟩
    obtain ⟨hz, na⟩ := key
    rw [hz] at E9
    exact ⟨_, Irₚ, Jrₚ, E, q.1.1, ⟨l1, l2⟩, Or.inl ⟨Iₚ, Jₚ, E9, P3 (by omega), gp_kn h K9 (by omega) q t (P1 (by omega)) ⟨na, gs_Nb_s h.2.1.2.2.2.2 (K9.2.2.2.2.2.2.2.1 (by decide)) (t.1.2.2.2.1 (by decide))⟩⟩⟩
  · rcases gk_analyse hws htb hs hc a1 ra1 with ⟨c9, _⟩ | ⟨c9, T9⟩
    · exact absurd c9 (by omega)
    · exact ⟨_, Irₚ, Jrₚ, E, q.1.1, ⟨l1, l2⟩, Or.inr ⟨T9, P4 (by omega), gp_tn h q t (P2 (by omega)) ⟨gs_Na_s h.2.1.2.2.2.1 ⟨rfl, rfl, fun _ => rfl⟩ (P6 (by omega)) (Int.le_refl _) (fun _ _ ht => ⟨ht, fun _ hx => hx⟩), gs_Nb_s h.2.1.2.2.2.2 ⟨rfl, rfl, rfl, fun _ => rfl, fun _ => rfl⟩ (t.1.2.2.2.1 (by decide))⟩⟩⟩
