theorem gh_RO_fr {A : gc_A} {I I1 I2 : gr_I} {t : Nat} (h : gh_RO A I I1 t) (e : ∀ q j : Nat, (48 ≤ q ∧ q ≤ 73) → I2 q j = I1 q j) (e2 : I2 t 13 = I1 t 13) : gh_RO A I I2 t := by
  obtain ⟨a, b, c, d, f, g, k⟩ := h
  exact ⟨gc_WV_fr a (e 48 6 (by decide)) e2 (fun k => e 54 k (by decide)), gc_WB_fr b (e 48 6 (by decide)) (fun k => e 54 k (by decide)), gc_WA_fr c (e 48 6 (by decide)) (Int.le_of_eq (e 48 3 (by decide)).symm) (fun k => e 53 k (by decide)) (fun k => e 54 k (by decide)) (fun k => e 55 k (by decide)), by rw [e 48 10 (by decide), e 49 _ (by decide), e 50 _ (by decide), e 48 3 (by decide)]; exact d, (e 61 2 (by decide)).trans f, (e 61 4 (by decide)).trans g, (e 61 3 (by decide)).trans k⟩
theorem gh_SN_fr {sh : gz_Sh} {ro : Nat → Nat} {A : gc_A} {I Iₚ : gr_I} (h : gc_SN sh ro A I) (e : Iₚ 100 9 = I 100 9) : gc_SN sh ro A Iₚ := fun i hi => h i (by omega)
theorem gh_SO_fr {sh : gz_Sh} {ro : Nat → Nat} {A : gc_A} {t : Nat} {I Iₚ : gr_I} (h : gc_SO A t I) (hL : gc_Ls sh ro A t I) (ht : Iₚ t 13 = I t 13) (hf : ∀ q, gc_isLin sh ro A q → 144 ≤ q → ∀ d k, d ≤ 8 → Iₚ (q + d) k = I (q + d) k) (h12 : ∀ k, Iₚ 12 k = I 12 k) : gc_SO A t Iₚ := fun i q hi hA => by
  rw [ht] at hi
  obtain ⟨q9, b1, b2, b3, _, _⟩ := hL i hi
  cases b1.symm.trans hA
  have r := hf _ b2 b3
  have h9 := h i _ hi hA
  rw [show Iₚ q = I q from funext fun k => r 0 k (by decide), show Iₚ (q + 4) = I (q + 4) from funext fun k => r 4 k (by decide), show Iₚ (q + 6) = I (q + 6) from funext fun k => r 6 k (by decide), show Iₚ 12 = I 12 from funext h12]
  exact h9
theorem gh_AG_fr {sh : gz_Sh} {ro : Nat → Nat} {A : gc_A} {t : Nat} {I Iₚ : gr_I} (h : gc_AG A t I) (hL : gc_Ls sh ro A t I) (ht : Iₚ t 13 = I t 13) (hf : ∀ q, gc_isLin sh ro A q → 144 ≤ q → ∀ d k, d ≤ 8 → Iₚ (q + d) k = I (q + d) k) (h12 : ∀ k, Iₚ 12 k = I 12 k) : gc_AG A t Iₚ := fun i q hi hA => by
  rw [ht] at hi
  obtain ⟨q9, b1, b2, b3, _, _⟩ := hL i hi
  cases b1.symm.trans hA
  have r := hf _ b2 b3
  have h9 := h i _ hi hA
  rw [show Iₚ q = I q from funext fun k => r 0 k (by decide), show Iₚ (q + 1) = I (q + 1) from funext fun k => r 1 k (by decide), show Iₚ 12 = I 12 from funext h12]
  exact h9
set_option maxHeartbeats 8000000 in
set_option maxRecDepth 100000 in
theorem d_X12_parse {ws0 : List Cond} {tb : String → gz_T} (hws : gc_Ws ws0) (htb : gc_tbs tb) (sh : gz_Sh) (ro : Nat → Nat) (I : gr_I) (J : gr_J) (A : gc_A) (hI : gc_Inv ro I) (t : Nat) (a1 : Int) (a2 : Int) (hb : gc_Base sh ro A) (h_t : gc_isTongue sh ro A t) (G_t : 144 ≤ t) (ha1 : 0 ≤ a1 ∧ a1 ≤ 7) (ha2 : 0 ≤ a2 ∧ a2 ≤ 31) (x0 : 0 ≤ a1 ∧ a1 < I 8 1) (x1 : A 10 (Int.toNat a1) = some t) (x2 : a2 < I 2 1) (x3 : gc_Ls sh ro A t I) (x4 : ∀ i q : Nat, (i : Int) < I t 13 → A (t + 16) i = some q → gc_un q (gc_lk A I t i) I) (x5 : gc_sc (t + 10) I) (x6 : gc_FB (t + 17) (24 * I (t + 17) 8) I) (x7 : I (t + 17) 8 ≤ I t 11) (KFN_I : gc_FN I) (KFZ_I : gc_FZ I) : ∃ r hₚ, gz_Ev ws0 tb 14 (yX12_parse, cX12_parse, 5, (some .int)) [.inr (.inr (some 0)), .inl a1, .inl a2] sh (gc_h sh I J A) r sh hₚ 0 0 ∧ (∃ (Iₚ : gr_I) (Jₚ : gr_J), hₚ = gc_h sh Iₚ Jₚ A ∧ gc_Inv ro Iₚ ∧ (∀ q j : Nat, ((q = 48 ∧ j = 3) ∨ (q = 48 ∧ j = 6) ∨ (q = 48 ∧ j = 12) ∨ q = 51 ∨ q = 52 ∨ q = 53 ∨ q = 54 ∨ q = 55 ∨ (q = 48 ∧ j = 11) ∨ q = 58 ∨ q = 59 ∨ q = 60 ∨ (q = 48 ∧ j = 17) ∨ (q = 48 ∧ j = 18) ∨ q = 49 ∨ q = 50 ∨ (q = 48 ∧ j = 13) ∨ (q = 48 ∧ j = 14) ∨ (q = 48 ∧ j = 10) ∨ q = 56 ∨ q = 57 ∨ (q = 61 ∧ j = 2) ∨ (q = 61 ∧ j = 3) ∨ (q = 61 ∧ j = 4) ∨ (q = 61 ∧ j = 15) ∨ q = 62 ∨ (q = 23 ∧ j = 4) ∨ q = 25 ∨ q = 26 ∨ (q = (t + 17) ∧ j = 8) ∨ (q = (t + 17) ∧ j = 9) ∨ q = (t + 18) ∨ q = (t + 19) ∨ q = (t + 20) ∨ q = (t + 21) ∨ (q = (t + 17) ∧ j = 6) ∨ (q = (t + 17) ∧ j = 7) ∨ q = (t + 23) ∨ q = (t + 24) ∨ q = (t + 22) ∨ (q = 23 ∧ j = 1)) ∨ Iₚ q j = I q j) ∧ (∀ q j : Nat, (False) ∨ Jₚ q j = J q j) ∧ gc_FN Iₚ ∧ gc_FZ Iₚ ∧ (∃ z : Int, r = some (.inl z) ∧ (-3) ≤ z ∧ z ≤ 1 ∧ (Iₚ 23 1 = 0) ∧ (gc_FB (t + 17) (24 * Iₚ (t + 17) 8) Iₚ) ∧ (Iₚ (t + 17) 8 ≤ I t 11) ∧ (z = 1 ∨ (Iₚ 61 3 = 0 ∧ Iₚ 61 15 = 0)) ∧ (¬ z = 1 ∨ gh_RO A I Iₚ t) ∧ ((Iₚ 48 13 = I 48 13 ∧ Iₚ 48 14 = I 48 14) ∨ (Iₚ 48 13 = (t : Int) ∧ Iₚ 48 14 = 23)) ∧ (Iₚ 61 2 = I 61 2 ∨ Iₚ 61 2 = (t : Int)) ∧ (I (t + 17) 6 = I (t + 17) 7 ∨ ¬ Iₚ (t + 17) 6 = Iₚ (t + 17) 7) ∧ (gh_BD I t Iₚ))) := by
  have FI : ∀ q j : Nat, ((q = 48 ∧ j = 3) ∨ (q = 48 ∧ j = 6) ∨ (q = 48 ∧ j = 12) ∨ q = 51 ∨ q = 52 ∨ q = 53 ∨ q = 54 ∨ q = 55 ∨ (q = 48 ∧ j = 11) ∨ q = 58 ∨ q = 59 ∨ q = 60 ∨ (q = 48 ∧ j = 17) ∨ (q = 48 ∧ j = 18) ∨ q = 49 ∨ q = 50 ∨ (q = 48 ∧ j = 13) ∨ (q = 48 ∧ j = 14) ∨ (q = 48 ∧ j = 10) ∨ q = 56 ∨ q = 57 ∨ (q = 61 ∧ j = 2) ∨ (q = 61 ∧ j = 3) ∨ (q = 61 ∧ j = 4) ∨ (q = 61 ∧ j = 15) ∨ q = 62 ∨ (q = 23 ∧ j = 4) ∨ q = 25 ∨ q = 26 ∨ (q = (t + 17) ∧ j = 8) ∨ (q = (t + 17) ∧ j = 9) ∨ q = (t + 18) ∨ q = (t + 19) ∨ q = (t + 20) ∨ q = (t + 21) ∨ (q = (t + 17) ∧ j = 6) ∨ (q = (t + 17) ∧ j = 7) ∨ q = (t + 23) ∨ q = (t + 24) ∨ q = (t + 22) ∨ (q = 23 ∧ j = 1)) ∨ I q j = I q j := fun _ _ => Or.inr rfl
  have FJ : ∀ q j : Nat, (False) ∨ J q j = J q j := fun _ _ => Or.inr rfl
  have A_0_1 : A 0 1 = some 23 := gc_bA_0_1 hb
  have B_0 : 0 < 1000000 := by decide
  have B_23 : 23 < 1000000 := by decide
  have R_23 : ro 23 = 3 := gc_bR_23 hb
  have R_48 : ro 48 = 49 := gc_bR_48 hb
  have R_61 : ro 61 = 72 := gc_bR_61 hb
  have S_0 : sh[0]? = some (false, 12, 17) := gc_bS_0 hb
  have S_23 : sh[23]? = some (false, 9, 10) := gc_bS_23 hb
  obtain ⟨S_t, R_t, B_t, A_t_0, h_t_1, A_t_1, h_t_3, A_t_2, S_t_5, R_t_5, B_t_5, A_t_3, S_t_6, R_t_6, B_t_6, A_t_4, h_t_7, A_t_5, S_t_9, R_t_9, B_t_9, A_t_7, S_t_10, R_t_10, B_t_10, A_t_8, h_t_11, A_t_9, S_t_13, R_t_13, B_t_13, A_t_10, S_t_14, R_t_14, B_t_14, A_t_12, S_t_15, R_t_15, B_t_15, A_t_14, S_t_16, R_t_16, B_t_16, A_t_15, h_t_17⟩ := id h_t
  obtain ⟨S_t_1, R_t_1, B_t_1, A_t_1_0, S_t_1_1, R_t_1_1, B_t_1_1, Q0_t_1, Q1_t_1, Q2_t_1⟩ := id h_t_1
  obtain ⟨S_t_3, R_t_3, B_t_3, A_t_3_0, S_t_3_1, R_t_3_1, B_t_3_1, Q0_t_3, Q1_t_3, Q2_t_3⟩ := id h_t_3
  obtain ⟨S_t_7, R_t_7, B_t_7, A_t_7_0, S_t_7_1, R_t_7_1, B_t_7_1, Q0_t_7, Q1_t_7, Q2_t_7⟩ := id h_t_7
  obtain ⟨S_t_11, R_t_11, B_t_11, A_t_11_0, S_t_11_1, R_t_11_1, B_t_11_1, Q0_t_11, Q1_t_11, Q2_t_11⟩ := id h_t_11
  obtain ⟨S_t_17, R_t_17, B_t_17, A_t_17_0, S_20, R_20, B_20, A_t_17_1, S_t_17_1, R_t_17_1, B_t_17_1, A_t_17_2, S_t_17_2, R_t_17_2, B_t_17_2, A_t_17_3, S_t_17_3, R_t_17_3, B_t_17_3, A_t_17_4, S_t_17_4, R_t_17_4, B_t_17_4, A_t_17_5, S_t_17_5, R_t_17_5, B_t_17_5, S_t_17_6, R_t_17_6, B_t_17_6, S_t_17_7, R_t_17_7, B_t_17_7⟩ := id h_t_17
  have hD : gv_D (gc_E12 ws0 tb 13 (yX12_parse, cX12_parse, 5, (some .int)) kX12_parse) := gq_of oX12_parse
  refine gc_ev12 (d := 13) (l := kX12_parse) (Po := fun r hₚ => (∃ (Iₚ : gr_I) (Jₚ : gr_J), hₚ = gc_h sh Iₚ Jₚ A ∧ gc_Inv ro Iₚ ∧ (∀ q j : Nat, ((q = 48 ∧ j = 3) ∨ (q = 48 ∧ j = 6) ∨ (q = 48 ∧ j = 12) ∨ q = 51 ∨ q = 52 ∨ q = 53 ∨ q = 54 ∨ q = 55 ∨ (q = 48 ∧ j = 11) ∨ q = 58 ∨ q = 59 ∨ q = 60 ∨ (q = 48 ∧ j = 17) ∨ (q = 48 ∧ j = 18) ∨ q = 49 ∨ q = 50 ∨ (q = 48 ∧ j = 13) ∨ (q = 48 ∧ j = 14) ∨ (q = 48 ∧ j = 10) ∨ q = 56 ∨ q = 57 ∨ (q = 61 ∧ j = 2) ∨ (q = 61 ∧ j = 3) ∨ (q = 61 ∧ j = 4) ∨ (q = 61 ∧ j = 15) ∨ q = 62 ∨ (q = 23 ∧ j = 4) ∨ q = 25 ∨ q = 26 ∨ (q = (t + 17) ∧ j = 8) ∨ (q = (t + 17) ∧ j = 9) ∨ q = (t + 18) ∨ q = (t + 19) ∨ q = (t + 20) ∨ q = (t + 21) ∨ (q = (t + 17) ∧ j = 6) ∨ (q = (t + 17) ∧ j = 7) ∨ q = (t + 23) ∨ q = (t + 24) ∨ q = (t + 22) ∨ (q = 23 ∧ j = 1)) ∨ Iₚ q j = I q j) ∧ (∀ q j : Nat, (False) ∨ Jₚ q j = J q j) ∧ gc_FN Iₚ ∧ gc_FZ Iₚ ∧ (∃ z : Int, r = some (.inl z) ∧ (-3) ≤ z ∧ z ≤ 1 ∧ (Iₚ 23 1 = 0) ∧ (gc_FB (t + 17) (24 * Iₚ (t + 17) 8) Iₚ) ∧ (Iₚ (t + 17) 8 ≤ I t 11) ∧ (z = 1 ∨ (Iₚ 61 3 = 0 ∧ Iₚ 61 15 = 0)) ∧ (¬ z = 1 ∨ gh_RO A I Iₚ t) ∧ ((Iₚ 48 13 = I 48 13 ∧ Iₚ 48 14 = I 48 14) ∨ (Iₚ 48 13 = (t : Int) ∧ Iₚ 48 14 = 23)) ∧ (Iₚ 61 2 = I 61 2 ∨ Iₚ 61 2 = (t : Int)) ∧ (I (t + 17) 6 = I (t + 17) 7 ∨ ¬ Iₚ (t + 17) 6 = Iₚ (t + 17) 7) ∧ (gh_BD I t Iₚ)))) htb rfl (Nat.le_of_ble_eq_true rfl) ?_
  have N_23__t_18 : ¬ (23 = (t + 18)) := by exact gz_m 0 (by omega)
  have N_23__t_19 : ¬ (23 = (t + 19)) := by exact gz_m 1 (by omega)
  have N_23__t_20 : ¬ (23 = (t + 20)) := by exact gz_m 2 (by omega)
  have N_23__t_21 : ¬ (23 = (t + 21)) := by exact gz_m 3 (by omega)
  have N_23__t_23 : ¬ (23 = (t + 23)) := by exact gz_m 4 (by omega)
  have N_23__t_24 : ¬ (23 = (t + 24)) := by exact gz_m 5 (by omega)
  have N_23__t_22 : ¬ (23 = (t + 22)) := by exact gz_m 6 (by omega)
  have N_t_18__23 : ¬ ((t + 18) = 23) := by exact gz_m 7 (by omega)
  have N_t_19__23 : ¬ ((t + 19) = 23) := by exact gz_m 8 (by omega)
  have N_t_20__23 : ¬ ((t + 20) = 23) := by exact gz_m 9 (by omega)
  have N_t_21__23 : ¬ ((t + 21) = 23) := by exact gz_m 10 (by omega)
  have KBD_I : gh_BD I t I := gh_BD_rf
  have f1 := (gc_b_3_1 hI R_23)
  have f2 := (show 0 ≤ I (t + 17) 8 ∧ I (t + 17) 8 ≤ 64 from gc_in2 hI R_t_17 rfl rfl rfl)
  have f3 := (gc_b_72_3 hI R_61)
  have f4 := (gc_b_72_15 hI R_61)
  have f5 := (gc_b_72_2 hI R_61)
  have f6 := (gc_b_49_13 hI R_48)
  have f7 := (gc_b_49_14 hI R_48)
  have f8 := (show 0 ≤ I (t + 17) 6 ∧ I (t + 17) 6 ≤ 1 from gc_in2 hI R_t_17 rfl rfl rfl)
  have f9 := (show 0 ≤ I (t + 17) 7 ∧ I (t + 17) 7 ≤ 1 from gc_in2 hI R_t_17 rfl rfl rfl)
  refine gv_run 2 true hD (pcₚ := 2) (lvₚ := [(0, .inr (.inr (some 0))), (1, .inl a1), (2, .inl a2)]) (stₚ := [.inl a1, .inr (.inr (some 0))]) (hₚ := gc_h sh I J A) (C := ((True ∧ True) ∧ True)) rfl ⟨⟨trivial, trivial⟩, trivial⟩ ?_
  refine gv_callV hD rfl (As := [.inl a1]) (st := []) rfl B_0 S_0 rfl (gc_lV12 hws rfl) (Nat.le_of_ble_eq_true rfl) (gz_Ev_mono (d := 1) (by decide) (d_X12_tongueAt hws htb (J := J) hI hb (by exact gz_m 11 (by omega)) (by exact gz_m 12 (by omega)) x1)) ?_
  show gv_X _ _ (5, [(0, .inr (.inr (some 0))), (1, .inl a1), (2, .inl a2)], [.inr (.inr (some t))], sh, gc_h sh I J A)
  refine gv_run 3 true hD (pcₚ := 8) (lvₚ := [(3, .inr (.inr (some t))), (0, .inr (.inr (some 0))), (1, .inl a1), (2, .inl a2)]) (stₚ := [.inl a2, .inr (.inr (some 0))]) (hₚ := gc_h sh I J A) (C := (((True ∧ True) ∧ True) ∧ True)) rfl ⟨⟨⟨trivial, trivial⟩, trivial⟩, trivial⟩ ?_
  obtain ⟨r11, h11, E11, P11⟩ := d_X12_checkKind (ws0 := ws0) (tb := tb) hws htb sh ro I J A hI  a2 hb   ⟨by exact gz_m 13 (by omega), by exact gz_m 14 (by omega)⟩ (by exact gz_m 15 (by omega)) 
  obtain ⟨rfl, rfl⟩ := P11
  refine gv_callV hD rfl (As := [.inl a2]) (st := []) rfl B_0 S_0 rfl (gc_lV12 hws rfl) (Nat.le_of_ble_eq_true rfl) (gz_Ev_mono (d := 1) (by decide) E11) ?_
  show gv_X _ _ (11, [(3, .inr (.inr (some t))), (0, .inr (.inr (some 0))), (1, .inl a1), (2, .inl a2)], [], sh, gc_h sh I J A)
  refine gv_run 3 true hD (pcₚ := 14) (lvₚ := [(3, .inr (.inr (some t))), (0, .inr (.inr (some 0))), (1, .inl a1), (2, .inl a2)]) (stₚ := [.inl a2, .inr (.inr (some t)), .inr (.inr (some 0))]) (hₚ := gc_h sh I J A) (C := (((True ∧ True) ∧ True) ∧ True)) rfl ⟨⟨⟨trivial, trivial⟩, trivial⟩, trivial⟩ ?_
  obtain ⟨r12, h12, E12, P12⟩ := d_X12_parseTape (ws0 := ws0) (tb := tb) hws htb sh ro I J A hI  t a2 hb h_t G_t  ⟨by exact gz_m 16 (by omega), by exact gz_m 17 (by omega)⟩ (by exact gz_m 18 (by omega)) x3 x4 x5 x6 (by exact gz_m 19 (by omega)) KFN_I KFZ_I
  obtain ⟨I13, J14, rfl, hI13, g12, k12, KFN_I13, KFZ_I13, ⟨z12, rfl, q12⟩⟩ := P12
  have FI13 := gc_frc (W := fun q j => (q = 48 ∧ j = 3) ∨ (q = 48 ∧ j = 6) ∨ (q = 48 ∧ j = 12) ∨ q = 51 ∨ q = 52 ∨ q = 53 ∨ q = 54 ∨ q = 55 ∨ (q = 48 ∧ j = 11) ∨ q = 58 ∨ q = 59 ∨ q = 60 ∨ (q = 48 ∧ j = 17) ∨ (q = 48 ∧ j = 18) ∨ q = 49 ∨ q = 50 ∨ (q = 48 ∧ j = 13) ∨ (q = 48 ∧ j = 14) ∨ (q = 48 ∧ j = 10) ∨ q = 56 ∨ q = 57 ∨ (q = 61 ∧ j = 2) ∨ (q = 61 ∧ j = 3) ∨ (q = 61 ∧ j = 4) ∨ (q = 61 ∧ j = 15) ∨ q = 62 ∨ (q = 23 ∧ j = 4) ∨ q = 25 ∨ q = 26 ∨ (q = (t + 17) ∧ j = 8) ∨ (q = (t + 17) ∧ j = 9) ∨ q = (t + 18) ∨ q = (t + 19) ∨ q = (t + 20) ∨ q = (t + 21) ∨ (q = (t + 17) ∧ j = 6) ∨ (q = (t + 17) ∧ j = 7) ∨ q = (t + 23) ∨ q = (t + 24) ∨ q = (t + 22) ∨ (q = 23 ∧ j = 1)) (V := fun q j => (q = 48 ∧ j = 3) ∨ (q = 48 ∧ j = 6) ∨ (q = 48 ∧ j = 12) ∨ q = 51 ∨ q = 52 ∨ q = 53 ∨ q = 54 ∨ q = 55 ∨ (q = 48 ∧ j = 11) ∨ q = 58 ∨ q = 59 ∨ q = 60 ∨ (q = 48 ∧ j = 17) ∨ (q = 48 ∧ j = 18) ∨ q = 49 ∨ q = 50 ∨ (q = 48 ∧ j = 13) ∨ (q = 48 ∧ j = 14) ∨ (q = 48 ∧ j = 10) ∨ q = 56 ∨ q = 57 ∨ (q = 61 ∧ j = 2) ∨ (q = 61 ∧ j = 3) ∨ (q = 61 ∧ j = 4) ∨ (q = 61 ∧ j = 15) ∨ q = 62 ∨ (q = 23 ∧ j = 4) ∨ q = 25 ∨ q = 26 ∨ (q = (t + 17) ∧ j = 8) ∨ (q = (t + 17) ∧ j = 9) ∨ q = (t + 18) ∨ q = (t + 19) ∨ q = (t + 20) ∨ q = (t + 21) ∨ (q = (t + 17) ∧ j = 6) ∨ (q = (t + 17) ∧ j = 7) ∨ q = (t + 23) ∨ q = (t + 24) ∨ q = (t + 22)) FI (fun q j h => (h.elim (fun h => (Or.inl h)) (fun h => (h.elim (fun h => (Or.inr (Or.inl h))) (fun h => (h.elim (fun h => (Or.inr (Or.inr (Or.inl h)))) (fun h => (h.elim (fun h => (Or.inr (Or.inr (Or.inr (Or.inl h))))) (fun h => (h.elim (fun h => (Or.inr (Or.inr (Or.inr (Or.inr (Or.inl h)))))) (fun h => (h.elim (fun h => (Or.inr (Or.inr (Or.inr (Or.inr (Or.inr (Or.inl h))))))) (fun h => (h.elim (fun h => (Or.inr (Or.inr (Or.inr (Or.inr (Or.inr (Or.inr (Or.inl h)))))))) (fun h => (h.elim (fun h => (Or.inr (Or.inr (Or.inr (Or.inr (Or.inr (Or.inr (Or.inr (Or.inl h))))))))) (fun h => (h.elim (fun h => (Or.inr (Or.inr (Or.inr (Or.inr (Or.inr (Or.inr (Or.inr (Or.inr (Or.inl h)))))))))) (fun h => (h.elim (fun h => (Or.inr (Or.inr (Or.inr (Or.inr (Or.inr (Or.inr (Or.inr (Or.inr (Or.inr (Or.inl h))))))))))) (fun h => (h.elim (fun h => (Or.inr (Or.inr (Or.inr (Or.inr (Or.inr (Or.inr (Or.inr (Or.inr (Or.inr (Or.inr (Or.inl h)))))))))))) (fun h => (h.elim (fun h => (Or.inr (Or.inr (Or.inr (Or.inr (Or.inr (Or.inr (Or.inr (Or.inr (Or.inr (Or.inr (Or.inr (Or.inl h))))))))))))) (fun h => (h.elim (fun h => (Or.inr (Or.inr (Or.inr (Or.inr (Or.inr (Or.inr (Or.inr (Or.inr (Or.inr (Or.inr (Or.inr (Or.inr (Or.inl h)))))))))))))) (fun h => (h.elim (fun h => (Or.inr (Or.inr (Or.inr (Or.inr (Or.inr (Or.inr (Or.inr (Or.inr (Or.inr (Or.inr (Or.inr (Or.inr (Or.inr (Or.inl h))))))))))))))) (fun h => (h.elim (fun h => (Or.inr (Or.inr (Or.inr (Or.inr (Or.inr (Or.inr (Or.inr (Or.inr (Or.inr (Or.inr (Or.inr (Or.inr (Or.inr (Or.inr (Or.inl h)))))))))))))))) (fun h => (h.elim (fun h => (Or.inr (Or.inr (Or.inr (Or.inr (Or.inr (Or.inr (Or.inr (Or.inr (Or.inr (Or.inr (Or.inr (Or.inr (Or.inr (Or.inr (Or.inr (Or.inl h))))))))))))))))) (fun h => (h.elim (fun h => (Or.inr (Or.inr (Or.inr (Or.inr (Or.inr (Or.inr (Or.inr (Or.inr (Or.inr (Or.inr (Or.inr (Or.inr (Or.inr (Or.inr (Or.inr (Or.inr (Or.inl h)))))))))))))))))) (fun h => (h.elim (fun h => (Or.inr (Or.inr (Or.inr (Or.inr (Or.inr (Or.inr (Or.inr (Or.inr (Or.inr (Or.inr (Or.inr (Or.inr (Or.inr (Or.inr (Or.inr (Or.inr (Or.inr (Or.inl h))))))))))))))))))) (fun h => (h.elim (fun h => (Or.inr (Or.inr (Or.inr (Or.inr (Or.inr (Or.inr (Or.inr (Or.inr (Or.inr (Or.inr (Or.inr (Or.inr (Or.inr (Or.inr (Or.inr (Or.inr (Or.inr (Or.inr (Or.inl h)))))))))))))))))))) (fun h => (h.elim (fun h => (Or.inr (Or.inr (Or.inr (Or.inr (Or.inr (Or.inr (Or.inr (Or.inr (Or.inr (Or.inr (Or.inr (Or.inr (Or.inr (Or.inr (Or.inr (Or.inr (Or.inr (Or.inr (Or.inr (Or.inl h))))))))))))))))))))) (fun h => (h.elim (fun h => (Or.inr (Or.inr (Or.inr (Or.inr (Or.inr (Or.inr (Or.inr (Or.inr (Or.inr (Or.inr (Or.inr (Or.inr (Or.inr (Or.inr (Or.inr (Or.inr (Or.inr (Or.inr (Or.inr (Or.inr (Or.inl h)))))))))))))))))))))) (fun h => (h.elim (fun h => (Or.inr (Or.inr (Or.inr (Or.inr (Or.inr (Or.inr (Or.inr (Or.inr (Or.inr (Or.inr (Or.inr (Or.inr (Or.inr (Or.inr (Or.inr (Or.inr (Or.inr (Or.inr (Or.inr (Or.inr (Or.inr (Or.inl h))))))))))))))))))))))) (fun h => (h.elim (fun h => (Or.inr (Or.inr (Or.inr (Or.inr (Or.inr (Or.inr (Or.inr (Or.inr (Or.inr (Or.inr (Or.inr (Or.inr (Or.inr (Or.inr (Or.inr (Or.inr (Or.inr (Or.inr (Or.inr (Or.inr (Or.inr (Or.inr (Or.inl h)))))))))))))))))))))))) (fun h => (h.elim (fun h => (Or.inr (Or.inr (Or.inr (Or.inr (Or.inr (Or.inr (Or.inr (Or.inr (Or.inr (Or.inr (Or.inr (Or.inr (Or.inr (Or.inr (Or.inr (Or.inr (Or.inr (Or.inr (Or.inr (Or.inr (Or.inr (Or.inr (Or.inr (Or.inl h))))))))))))))))))))))))) (fun h => (h.elim (fun h => (Or.inr (Or.inr (Or.inr (Or.inr (Or.inr (Or.inr (Or.inr (Or.inr (Or.inr (Or.inr (Or.inr (Or.inr (Or.inr (Or.inr (Or.inr (Or.inr (Or.inr (Or.inr (Or.inr (Or.inr (Or.inr (Or.inr (Or.inr (Or.inr (Or.inl h)))))))))))))))))))))))))) (fun h => (h.elim (fun h => (Or.inr (Or.inr (Or.inr (Or.inr (Or.inr (Or.inr (Or.inr (Or.inr (Or.inr (Or.inr (Or.inr (Or.inr (Or.inr (Or.inr (Or.inr (Or.inr (Or.inr (Or.inr (Or.inr (Or.inr (Or.inr (Or.inr (Or.inr (Or.inr (Or.inr (Or.inl h))))))))))))))))))))))))))) (fun h => (h.elim (fun h => (Or.inr (Or.inr (Or.inr (Or.inr (Or.inr (Or.inr (Or.inr (Or.inr (Or.inr (Or.inr (Or.inr (Or.inr (Or.inr (Or.inr (Or.inr (Or.inr (Or.inr (Or.inr (Or.inr (Or.inr (Or.inr (Or.inr (Or.inr (Or.inr (Or.inr (Or.inr (Or.inl h)))))))))))))))))))))))))))) (fun h => (h.elim (fun h => (Or.inr (Or.inr (Or.inr (Or.inr (Or.inr (Or.inr (Or.inr (Or.inr (Or.inr (Or.inr (Or.inr (Or.inr (Or.inr (Or.inr (Or.inr (Or.inr (Or.inr (Or.inr (Or.inr (Or.inr (Or.inr (Or.inr (Or.inr (Or.inr (Or.inr (Or.inr (Or.inr (Or.inl h))))))))))))))))))))))))))))) (fun h => (h.elim (fun h => (Or.inr (Or.inr (Or.inr (Or.inr (Or.inr (Or.inr (Or.inr (Or.inr (Or.inr (Or.inr (Or.inr (Or.inr (Or.inr (Or.inr (Or.inr (Or.inr (Or.inr (Or.inr (Or.inr (Or.inr (Or.inr (Or.inr (Or.inr (Or.inr (Or.inr (Or.inr (Or.inr (Or.inr (Or.inl h)))))))))))))))))))))))))))))) (fun h => (h.elim (fun h => (Or.inr (Or.inr (Or.inr (Or.inr (Or.inr (Or.inr (Or.inr (Or.inr (Or.inr (Or.inr (Or.inr (Or.inr (Or.inr (Or.inr (Or.inr (Or.inr (Or.inr (Or.inr (Or.inr (Or.inr (Or.inr (Or.inr (Or.inr (Or.inr (Or.inr (Or.inr (Or.inr (Or.inr (Or.inr (Or.inl h))))))))))))))))))))))))))))))) (fun h => (h.elim (fun h => (Or.inr (Or.inr (Or.inr (Or.inr (Or.inr (Or.inr (Or.inr (Or.inr (Or.inr (Or.inr (Or.inr (Or.inr (Or.inr (Or.inr (Or.inr (Or.inr (Or.inr (Or.inr (Or.inr (Or.inr (Or.inr (Or.inr (Or.inr (Or.inr (Or.inr (Or.inr (Or.inr (Or.inr (Or.inr (Or.inr (Or.inl h)))))))))))))))))))))))))))))))) (fun h => (h.elim (fun h => (Or.inr (Or.inr (Or.inr (Or.inr (Or.inr (Or.inr (Or.inr (Or.inr (Or.inr (Or.inr (Or.inr (Or.inr (Or.inr (Or.inr (Or.inr (Or.inr (Or.inr (Or.inr (Or.inr (Or.inr (Or.inr (Or.inr (Or.inr (Or.inr (Or.inr (Or.inr (Or.inr (Or.inr (Or.inr (Or.inr (Or.inr (Or.inl h))))))))))))))))))))))))))))))))) (fun h => (h.elim (fun h => (Or.inr (Or.inr (Or.inr (Or.inr (Or.inr (Or.inr (Or.inr (Or.inr (Or.inr (Or.inr (Or.inr (Or.inr (Or.inr (Or.inr (Or.inr (Or.inr (Or.inr (Or.inr (Or.inr (Or.inr (Or.inr (Or.inr (Or.inr (Or.inr (Or.inr (Or.inr (Or.inr (Or.inr (Or.inr (Or.inr (Or.inr (Or.inr (Or.inl h)))))))))))))))))))))))))))))))))) (fun h => (h.elim (fun h => (Or.inr (Or.inr (Or.inr (Or.inr (Or.inr (Or.inr (Or.inr (Or.inr (Or.inr (Or.inr (Or.inr (Or.inr (Or.inr (Or.inr (Or.inr (Or.inr (Or.inr (Or.inr (Or.inr (Or.inr (Or.inr (Or.inr (Or.inr (Or.inr (Or.inr (Or.inr (Or.inr (Or.inr (Or.inr (Or.inr (Or.inr (Or.inr (Or.inr (Or.inl h))))))))))))))))))))))))))))))))))) (fun h => (h.elim (fun h => (Or.inr (Or.inr (Or.inr (Or.inr (Or.inr (Or.inr (Or.inr (Or.inr (Or.inr (Or.inr (Or.inr (Or.inr (Or.inr (Or.inr (Or.inr (Or.inr (Or.inr (Or.inr (Or.inr (Or.inr (Or.inr (Or.inr (Or.inr (Or.inr (Or.inr (Or.inr (Or.inr (Or.inr (Or.inr (Or.inr (Or.inr (Or.inr (Or.inr (Or.inr (Or.inl h)))))))))))))))))))))))))))))))))))) (fun h => (h.elim (fun h => (Or.inr (Or.inr (Or.inr (Or.inr (Or.inr (Or.inr (Or.inr (Or.inr (Or.inr (Or.inr (Or.inr (Or.inr (Or.inr (Or.inr (Or.inr (Or.inr (Or.inr (Or.inr (Or.inr (Or.inr (Or.inr (Or.inr (Or.inr (Or.inr (Or.inr (Or.inr (Or.inr (Or.inr (Or.inr (Or.inr (Or.inr (Or.inr (Or.inr (Or.inr (Or.inr (Or.inl h))))))))))))))))))))))))))))))))))))) (fun h => (h.elim (fun h => (Or.inr (Or.inr (Or.inr (Or.inr (Or.inr (Or.inr (Or.inr (Or.inr (Or.inr (Or.inr (Or.inr (Or.inr (Or.inr (Or.inr (Or.inr (Or.inr (Or.inr (Or.inr (Or.inr (Or.inr (Or.inr (Or.inr (Or.inr (Or.inr (Or.inr (Or.inr (Or.inr (Or.inr (Or.inr (Or.inr (Or.inr (Or.inr (Or.inr (Or.inr (Or.inr (Or.inr (Or.inl h)))))))))))))))))))))))))))))))))))))) (fun h => (h.elim (fun h => (Or.inr (Or.inr (Or.inr (Or.inr (Or.inr (Or.inr (Or.inr (Or.inr (Or.inr (Or.inr (Or.inr (Or.inr (Or.inr (Or.inr (Or.inr (Or.inr (Or.inr (Or.inr (Or.inr (Or.inr (Or.inr (Or.inr (Or.inr (Or.inr (Or.inr (Or.inr (Or.inr (Or.inr (Or.inr (Or.inr (Or.inr (Or.inr (Or.inr (Or.inr (Or.inr (Or.inr (Or.inr (Or.inl h))))))))))))))))))))))))))))))))))))))) (fun h => (h.elim (fun h => (Or.inr (Or.inr (Or.inr (Or.inr (Or.inr (Or.inr (Or.inr (Or.inr (Or.inr (Or.inr (Or.inr (Or.inr (Or.inr (Or.inr (Or.inr (Or.inr (Or.inr (Or.inr (Or.inr (Or.inr (Or.inr (Or.inr (Or.inr (Or.inr (Or.inr (Or.inr (Or.inr (Or.inr (Or.inr (Or.inr (Or.inr (Or.inr (Or.inr (Or.inr (Or.inr (Or.inr (Or.inr (Or.inr (Or.inl h)))))))))))))))))))))))))))))))))))))))) (fun h => (Or.inr (Or.inr (Or.inr (Or.inr (Or.inr (Or.inr (Or.inr (Or.inr (Or.inr (Or.inr (Or.inr (Or.inr (Or.inr (Or.inr (Or.inr (Or.inr (Or.inr (Or.inr (Or.inr (Or.inr (Or.inr (Or.inr (Or.inr (Or.inr (Or.inr (Or.inr (Or.inr (Or.inr (Or.inr (Or.inr (Or.inr (Or.inr (Or.inr (Or.inr (Or.inr (Or.inr (Or.inr (Or.inr (Or.inr (Or.inl h))))))))))))))))))))))))))))))))))))))))))))))))))))))))))))))))))))))))))))))))))))))))))))))))))))))))))))))))))))))) g12
  have t15 := (g12 23 1).resolve_left (fun h => h.elim (fun h => absurd h.2 (by first | exact gz_ne rfl | decide)) (fun h => h.elim (fun h => absurd h.2 (by first | exact gz_ne rfl | decide)) (fun h => h.elim (fun h => absurd h.2 (by first | exact gz_ne rfl | decide)) (fun h => h.elim (fun h => absurd h (by first | exact gz_ne rfl | decide)) (fun h => h.elim (fun h => absurd h (by first | exact gz_ne rfl | decide)) (fun h => h.elim (fun h => absurd h (by first | exact gz_ne rfl | decide)) (fun h => h.elim (fun h => absurd h (by first | exact gz_ne rfl | decide)) (fun h => h.elim (fun h => absurd h (by first | exact gz_ne rfl | decide)) (fun h => h.elim (fun h => absurd h.2 (by first | exact gz_ne rfl | decide)) (fun h => h.elim (fun h => absurd h (by first | exact gz_ne rfl | decide)) (fun h => h.elim (fun h => absurd h (by first | exact gz_ne rfl | decide)) (fun h => h.elim (fun h => absurd h (by first | exact gz_ne rfl | decide)) (fun h => h.elim (fun h => absurd h.2 (by first | exact gz_ne rfl | decide)) (fun h => h.elim (fun h => absurd h.2 (by first | exact gz_ne rfl | decide)) (fun h => h.elim (fun h => absurd h (by first | exact gz_ne rfl | decide)) (fun h => h.elim (fun h => absurd h (by first | exact gz_ne rfl | decide)) (fun h => h.elim (fun h => absurd h.2 (by first | exact gz_ne rfl | decide)) (fun h => h.elim (fun h => absurd h.2 (by first | exact gz_ne rfl | decide)) (fun h => h.elim (fun h => absurd h.2 (by first | exact gz_ne rfl | decide)) (fun h => h.elim (fun h => absurd h (by first | exact gz_ne rfl | decide)) (fun h => h.elim (fun h => absurd h (by first | exact gz_ne rfl | decide)) (fun h => h.elim (fun h => absurd h.2 (by first | exact gz_ne rfl | decide)) (fun h => h.elim (fun h => absurd h.2 (by first | exact gz_ne rfl | decide)) (fun h => h.elim (fun h => absurd h.2 (by first | exact gz_ne rfl | decide)) (fun h => h.elim (fun h => absurd h.2 (by first | exact gz_ne rfl | decide)) (fun h => h.elim (fun h => absurd h (by first | exact gz_ne rfl | decide)) (fun h => h.elim (fun h => absurd h.2 (by first | exact gz_ne rfl | decide)) (fun h => h.elim (fun h => absurd h (by first | exact gz_ne rfl | decide)) (fun h => h.elim (fun h => absurd h (by first | exact gz_ne rfl | decide)) (fun h => h.elim (fun h => absurd h.2 (by first | exact gz_ne rfl | decide)) (fun h => h.elim (fun h => absurd h.2 (by first | exact gz_ne rfl | decide)) (fun h => h.elim (fun h => absurd h N_23__t_18) (fun h => h.elim (fun h => absurd h N_23__t_19) (fun h => h.elim (fun h => absurd h N_23__t_20) (fun h => h.elim (fun h => absurd h N_23__t_21) (fun h => h.elim (fun h => absurd h.2 (by first | exact gz_ne rfl | decide)) (fun h => h.elim (fun h => absurd h.2 (by first | exact gz_ne rfl | decide)) (fun h => h.elim (fun h => absurd h N_23__t_23) (fun h => h.elim (fun h => absurd h N_23__t_24) (fun h => absurd h N_23__t_22))))))))))))))))))))))))))))))))))))))))
  have f16 := (show 0 ≤ I13 (t + 17) 8 ∧ I13 (t + 17) 8 ≤ 64 from gc_in2 hI13 R_t_17 rfl rfl rfl)
  have f17 := (gc_b_72_3 hI13 R_61)
  have f18 := (gc_b_72_15 hI13 R_61)
  have f19 := (gc_b_72_2 hI13 R_61)
  have f20 := (gc_b_49_13 hI13 R_48)
  have f21 := (gc_b_49_14 hI13 R_48)
  have f22 := (show 0 ≤ I13 (t + 17) 6 ∧ I13 (t + 17) 6 ≤ 1 from gc_in2 hI13 R_t_17 rfl rfl rfl)
  have f23 := (show 0 ≤ I13 (t + 17) 7 ∧ I13 (t + 17) 7 ≤ 1 from gc_in2 hI13 R_t_17 rfl rfl rfl)
  obtain rfl : J = J14 := funext fun q => funext fun j => ((k12 q j).resolve_left id).symm
  have KBD_I13 : gh_BD I t I13 := gh_BD_tr KBD_I gh_tb_rf (by exact gz_m 20 (by omega)) q12.2.2.2.2.2.2.2.2.2
  refine gv_callV hD rfl (As := [.inr (.inr (some t)), .inl a2]) (st := []) rfl B_0 S_0 rfl (gc_lV12 hws rfl) (Nat.le_of_ble_eq_true rfl) (gz_Ev_mono (d := 13) (by decide) E12) ?_
  show gv_X _ _ (17, [(3, .inr (.inr (some t))), (0, .inr (.inr (some 0))), (1, .inl a1), (2, .inl a2)], [.inl z12], sh, gc_h sh I13 J A)
  refine gv_run 2 true hD (pcₚ := 20) (lvₚ := [(4, .inl z12), (3, .inr (.inr (some t))), (0, .inr (.inr (some 0))), (1, .inl a1), (2, .inl a2)]) (stₚ := [.inr (.inr (some 0))]) (hₚ := gc_h sh I13 J A) (C := ((True ∧ True) ∧ True)) rfl ⟨⟨trivial, trivial⟩, trivial⟩ ?_
  refine gv_get hD rfl rfl S_0 ⟨by decide, B_0⟩ (gc_hA S_0 rfl A_0_1) ?_
  show gv_X _ _ (23, [(4, .inl z12), (3, .inr (.inr (some t))), (0, .inr (.inr (some 0))), (1, .inl a1), (2, .inl a2)], [.inr (.inr (some 23))], sh, gc_h sh I13 J A)
  refine gv_run 1 true hD (pcₚ := 24) (lvₚ := [(4, .inl z12), (3, .inr (.inr (some t))), (0, .inr (.inr (some 0))), (1, .inl a1), (2, .inl a2)]) (stₚ := [.inl 0, .inr (.inr (some 23))]) (hₚ := gc_h sh I13 J A) (C := (True ∧ True)) rfl ⟨trivial, trivial⟩ ?_
  refine gv_put hD rfl rfl S_23 ⟨by decide, B_23⟩ rfl trivial ?_
  refine gc_st (k := 1) hI13 S_23 rfl R_23 (lo := 0) (hi := 1000) rfl rfl (by exact gz_m 21 (by omega)) (by exact gz_m 22 (by omega)) (fun I24 hI24 q25 p25 => ?_)
  have FI24 := gc_frs (W := fun q j => (q = 48 ∧ j = 3) ∨ (q = 48 ∧ j = 6) ∨ (q = 48 ∧ j = 12) ∨ q = 51 ∨ q = 52 ∨ q = 53 ∨ q = 54 ∨ q = 55 ∨ (q = 48 ∧ j = 11) ∨ q = 58 ∨ q = 59 ∨ q = 60 ∨ (q = 48 ∧ j = 17) ∨ (q = 48 ∧ j = 18) ∨ q = 49 ∨ q = 50 ∨ (q = 48 ∧ j = 13) ∨ (q = 48 ∧ j = 14) ∨ (q = 48 ∧ j = 10) ∨ q = 56 ∨ q = 57 ∨ (q = 61 ∧ j = 2) ∨ (q = 61 ∧ j = 3) ∨ (q = 61 ∧ j = 4) ∨ (q = 61 ∧ j = 15) ∨ q = 62 ∨ (q = 23 ∧ j = 4) ∨ q = 25 ∨ q = 26 ∨ (q = (t + 17) ∧ j = 8) ∨ (q = (t + 17) ∧ j = 9) ∨ q = (t + 18) ∨ q = (t + 19) ∨ q = (t + 20) ∨ q = (t + 21) ∨ (q = (t + 17) ∧ j = 6) ∨ (q = (t + 17) ∧ j = 7) ∨ q = (t + 23) ∨ q = (t + 24) ∨ q = (t + 22) ∨ (q = 23 ∧ j = 1)) FI13 (Or.inr (Or.inr (Or.inr (Or.inr (Or.inr (Or.inr (Or.inr (Or.inr (Or.inr (Or.inr (Or.inr (Or.inr (Or.inr (Or.inr (Or.inr (Or.inr (Or.inr (Or.inr (Or.inr (Or.inr (Or.inr (Or.inr (Or.inr (Or.inr (Or.inr (Or.inr (Or.inr (Or.inr (Or.inr (Or.inr (Or.inr (Or.inr (Or.inr (Or.inr (Or.inr (Or.inr (Or.inr (Or.inr (Or.inr (Or.inr ⟨rfl, rfl⟩)))))))))))))))))))))))))))))))))))))))) p25
  have t26 := p25 (t + 17) 8 (fun h => absurd h.2 (by first | exact gz_ne rfl | decide))
  have t27 := p25 61 3 (fun h => absurd h.2 (by first | exact gz_ne rfl | decide))
  have t28 := p25 61 15 (fun h => absurd h.2 (by first | exact gz_ne rfl | decide))
  have t29 := p25 61 2 (fun h => absurd h.2 (by first | exact gz_ne rfl | decide))
  have t30 := p25 48 13 (fun h => absurd h.2 (by first | exact gz_ne rfl | decide))
  have t31 := p25 48 14 (fun h => absurd h.2 (by first | exact gz_ne rfl | decide))
  have t32 := p25 (t + 17) 6 (fun h => absurd h.2 (by first | exact gz_ne rfl | decide))
  have t33 := p25 (t + 17) 7 (fun h => absurd h.2 (by first | exact gz_ne rfl | decide))
  have f34 := (gc_b_3_1 hI24 R_23)
  have KFN_I24 := gc_FN_fr KFN_I13 (fun k => p25 49 k (fun h => absurd h.1 (by first | exact gz_ne rfl | decide))) (fun k => p25 50 k (fun h => absurd h.1 (by first | exact gz_ne rfl | decide)))
  have KFZ_I24 := gc_FZ_fr KFZ_I13 (p25 2 1 (fun h => absurd h.1 (by first | exact gz_ne rfl | decide))) (fun k => p25 49 k (fun h => absurd h.1 (by first | exact gz_ne rfl | decide))) (fun k => p25 50 k (fun h => absurd h.1 (by first | exact gz_ne rfl | decide)))
  have KBD_I24 := gh_BD_fr KBD_I13 (p25 (t + 17) 8 (fun h => absurd h.2 (by first | exact gz_ne rfl | decide))) (p25 (t + 17) 9 (fun h => absurd h.2 (by first | exact gz_ne rfl | decide))) (fun k => p25 (t + 18) k (fun h => absurd h.1 N_t_18__23)) (fun k => p25 (t + 19) k (fun h => absurd h.1 N_t_19__23)) (fun k => p25 (t + 20) k (fun h => absurd h.1 N_t_20__23)) (fun k => p25 (t + 21) k (fun h => absurd h.1 N_t_21__23))
  show gv_X _ _ (27, [(4, .inl z12), (3, .inr (.inr (some t))), (0, .inr (.inr (some 0))), (1, .inl a1), (2, .inl a2)], [], sh, gc_h sh I24 J A)
  refine gv_run 1 true hD (pcₚ := 29) (lvₚ := [(4, .inl z12), (3, .inr (.inr (some t))), (0, .inr (.inr (some 0))), (1, .inl a1), (2, .inl a2)]) (stₚ := [.inl z12]) (hₚ := gc_h sh I24 J A) (C := (True ∧ True)) rfl ⟨trivial, trivial⟩ ?_
  exact gv_iret hD rfl ⟨I24, J, rfl, hI24, FI24, FJ, KFN_I24, KFZ_I24, ⟨_, rfl, by exact gz_m 23 (by omega), by exact gz_m 24 (by omega), by exact gz_m 25 (by omega), (by rw [show I24 (t + 17) 8 = I13 (t + 17) 8 from (p25 (t + 17) 8 (fun h => absurd h.1 (by exact gz_m 26 (by omega))))]; exact gc_FB_fr q12.2.2.1 (fun k => (p25 (t + 17 + 4) k (fun h => absurd h.1 (by exact gz_m 27 (by omega))))) (fun k => (p25 (t + 17 + 3) k (fun h => absurd h.1 (by exact gz_m 28 (by omega)))))), (by have h9 : I24 (t + 17) 8 = I13 (t + 17) 8 := (p25 (t + 17) 8 (fun h => absurd h.1 (by exact gz_m 29 (by omega)))); have h8 := q12.2.2.2.1; exact gz_m 30 (by omega)), (by have h8 := q12.2.2.2.2.1; have h7 : I24 61 3 = I13 61 3 := (p25 61 3 (fun h => absurd h.1 (by exact gz_m 31 (by omega)))); have h6 : I24 61 15 = I13 61 15 := (p25 61 15 (fun h => absurd h.1 (by exact gz_m 32 (by omega)))); exact gz_m 33 (by omega)), (q12.2.2.2.2.2.1.imp id (fun h9 => gh_RO_fr h9 (fun q j hq => (p25 q j (fun h => absurd h.1 (by exact gz_m 34 (by omega))))) ((p25 t 13 (fun h => absurd h.1 (by exact gz_m 35 (by omega))))))), by exact gz_m 36 (by omega), by exact gz_m 37 (by omega), by exact gz_m 38 (by omega), KBD_I24⟩⟩
set_option maxHeartbeats 8000000 in
set_option maxRecDepth 100000 in
theorem d_X12_ask {ws0 : List Cond} {tb : String → gz_T} (hws : gc_Ws ws0) (htb : gc_tbs tb) (sh : gz_Sh) (ro : Nat → Nat) (I : gr_I) (J : gr_J) (A : gc_A) (hI : gc_Inv ro I) (t : Nat) (a1 : Int) (hb : gc_Base sh ro A) (h_t : gc_isTongue sh ro A t) (G_t : 144 ≤ t) (ha1 : 0 ≤ a1 ∧ a1 ≤ 7) (x0 : 0 ≤ a1 ∧ a1 < I 8 1) (x1 : A 10 (Int.toNat a1) = some t) (x2 : gc_sc (t + 10) I) (x3 : gc_FB (t + 17) (24 * I (t + 17) 8) I) (x4 : I (t + 17) 8 ≤ I t 11) (x5 : gc_SN sh ro A I) : ∃ r hₚ, gz_Ev ws0 tb 6 (yX12_ask, cX12_ask, 4, (some .int)) [.inr (.inr (some 0)), .inl a1] sh (gc_h sh I J A) r sh hₚ 0 0 ∧ (∃ (Iₚ : gr_I) (Jₚ : gr_J), hₚ = gc_h sh Iₚ Jₚ A ∧ gc_Inv ro Iₚ ∧ (∀ q j : Nat, ((q = (t + 17) ∧ j = 8) ∨ (q = (t + 17) ∧ j = 9) ∨ q = (t + 18) ∨ q = (t + 19) ∨ q = (t + 20) ∨ q = (t + 21) ∨ (q = (t + 17) ∧ j = 6) ∨ (q = (t + 17) ∧ j = 7) ∨ q = (t + 23) ∨ q = (t + 24) ∨ (q = 100 ∧ j = 14) ∨ (q = 100 ∧ j = 17) ∨ q = 113 ∨ (q = 23 ∧ j = 5) ∨ (q = 23 ∧ j = 6) ∨ (q = 23 ∧ j = 7) ∨ (q = 23 ∧ j = 8) ∨ (q = 106 ∧ j = 1) ∨ q = 107 ∨ (q = 106 ∧ j = 4) ∨ q = 108 ∨ q = 109 ∨ q = 110 ∨ q = 111 ∨ q = 112 ∨ q = (t + 22) ∨ (q = 23 ∧ j = 1)) ∨ Iₚ q j = I q j) ∧ (∀ q j : Nat, ((q = 23 ∧ j = 9)) ∨ Jₚ q j = J q j) ∧ (∃ z : Int, r = some (.inl z) ∧ (-3) ≤ z ∧ z ≤ 2400 ∧ (Iₚ 23 1 = 0) ∧ (gc_FB (t + 17) (24 * I t 11) Iₚ) ∧ (Iₚ (t + 17) 8 = I t 11) ∧ (I (t + 17) 6 = I (t + 17) 7 ∨ ¬ Iₚ (t + 17) 6 = Iₚ (t + 17) 7) ∧ (gh_BD I t Iₚ))) := by
  have FI : ∀ q j : Nat, ((q = (t + 17) ∧ j = 8) ∨ (q = (t + 17) ∧ j = 9) ∨ q = (t + 18) ∨ q = (t + 19) ∨ q = (t + 20) ∨ q = (t + 21) ∨ (q = (t + 17) ∧ j = 6) ∨ (q = (t + 17) ∧ j = 7) ∨ q = (t + 23) ∨ q = (t + 24) ∨ (q = 100 ∧ j = 14) ∨ (q = 100 ∧ j = 17) ∨ q = 113 ∨ (q = 23 ∧ j = 5) ∨ (q = 23 ∧ j = 6) ∨ (q = 23 ∧ j = 7) ∨ (q = 23 ∧ j = 8) ∨ (q = 106 ∧ j = 1) ∨ q = 107 ∨ (q = 106 ∧ j = 4) ∨ q = 108 ∨ q = 109 ∨ q = 110 ∨ q = 111 ∨ q = 112 ∨ q = (t + 22) ∨ (q = 23 ∧ j = 1)) ∨ I q j = I q j := fun _ _ => Or.inr rfl
  have FJ : ∀ q j : Nat, ((q = 23 ∧ j = 9)) ∨ J q j = J q j := fun _ _ => Or.inr rfl
  have A_0_1 : A 0 1 = some 23 := gc_bA_0_1 hb
  have A_0_10 : A 0 10 = some 100 := gc_bA_0_10 hb
  have B_0 : 0 < 1000000 := by decide
  have B_100 : 100 < 1000000 := by decide
  have B_23 : 23 < 1000000 := by decide
  have R_100 : ro 100 = 75 := gc_bR_100 hb
  have R_23 : ro 23 = 3 := gc_bR_23 hb
  have S_0 : sh[0]? = some (false, 12, 17) := gc_bS_0 hb
  have S_100 : sh[100]? = some (false, 1, 19) := gc_bS_100 hb
  have S_23 : sh[23]? = some (false, 9, 10) := gc_bS_23 hb
  obtain ⟨S_t, R_t, B_t, A_t_0, h_t_1, A_t_1, h_t_3, A_t_2, S_t_5, R_t_5, B_t_5, A_t_3, S_t_6, R_t_6, B_t_6, A_t_4, h_t_7, A_t_5, S_t_9, R_t_9, B_t_9, A_t_7, S_t_10, R_t_10, B_t_10, A_t_8, h_t_11, A_t_9, S_t_13, R_t_13, B_t_13, A_t_10, S_t_14, R_t_14, B_t_14, A_t_12, S_t_15, R_t_15, B_t_15, A_t_14, S_t_16, R_t_16, B_t_16, A_t_15, h_t_17⟩ := id h_t
  obtain ⟨S_t_1, R_t_1, B_t_1, A_t_1_0, S_t_1_1, R_t_1_1, B_t_1_1, Q0_t_1, Q1_t_1, Q2_t_1⟩ := id h_t_1
  obtain ⟨S_t_3, R_t_3, B_t_3, A_t_3_0, S_t_3_1, R_t_3_1, B_t_3_1, Q0_t_3, Q1_t_3, Q2_t_3⟩ := id h_t_3
  obtain ⟨S_t_7, R_t_7, B_t_7, A_t_7_0, S_t_7_1, R_t_7_1, B_t_7_1, Q0_t_7, Q1_t_7, Q2_t_7⟩ := id h_t_7
  obtain ⟨S_t_11, R_t_11, B_t_11, A_t_11_0, S_t_11_1, R_t_11_1, B_t_11_1, Q0_t_11, Q1_t_11, Q2_t_11⟩ := id h_t_11
  obtain ⟨S_t_17, R_t_17, B_t_17, A_t_17_0, S_20, R_20, B_20, A_t_17_1, S_t_17_1, R_t_17_1, B_t_17_1, A_t_17_2, S_t_17_2, R_t_17_2, B_t_17_2, A_t_17_3, S_t_17_3, R_t_17_3, B_t_17_3, A_t_17_4, S_t_17_4, R_t_17_4, B_t_17_4, A_t_17_5, S_t_17_5, R_t_17_5, B_t_17_5, S_t_17_6, R_t_17_6, B_t_17_6, S_t_17_7, R_t_17_7, B_t_17_7⟩ := id h_t_17
  have hD : gv_D (gc_E12 ws0 tb 5 (yX12_ask, cX12_ask, 4, (some .int)) kX12_ask) := gq_of oX12_ask
  refine gc_ev12 (d := 5) (l := kX12_ask) (Po := fun r hₚ => (∃ (Iₚ : gr_I) (Jₚ : gr_J), hₚ = gc_h sh Iₚ Jₚ A ∧ gc_Inv ro Iₚ ∧ (∀ q j : Nat, ((q = (t + 17) ∧ j = 8) ∨ (q = (t + 17) ∧ j = 9) ∨ q = (t + 18) ∨ q = (t + 19) ∨ q = (t + 20) ∨ q = (t + 21) ∨ (q = (t + 17) ∧ j = 6) ∨ (q = (t + 17) ∧ j = 7) ∨ q = (t + 23) ∨ q = (t + 24) ∨ (q = 100 ∧ j = 14) ∨ (q = 100 ∧ j = 17) ∨ q = 113 ∨ (q = 23 ∧ j = 5) ∨ (q = 23 ∧ j = 6) ∨ (q = 23 ∧ j = 7) ∨ (q = 23 ∧ j = 8) ∨ (q = 106 ∧ j = 1) ∨ q = 107 ∨ (q = 106 ∧ j = 4) ∨ q = 108 ∨ q = 109 ∨ q = 110 ∨ q = 111 ∨ q = 112 ∨ q = (t + 22) ∨ (q = 23 ∧ j = 1)) ∨ Iₚ q j = I q j) ∧ (∀ q j : Nat, ((q = 23 ∧ j = 9)) ∨ Jₚ q j = J q j) ∧ (∃ z : Int, r = some (.inl z) ∧ (-3) ≤ z ∧ z ≤ 2400 ∧ (Iₚ 23 1 = 0) ∧ (gc_FB (t + 17) (24 * I t 11) Iₚ) ∧ (Iₚ (t + 17) 8 = I t 11) ∧ (I (t + 17) 6 = I (t + 17) 7 ∨ ¬ Iₚ (t + 17) 6 = Iₚ (t + 17) 7) ∧ (gh_BD I t Iₚ)))) htb rfl (Nat.le_of_ble_eq_true rfl) ?_
  have N_23__t_18 : ¬ (23 = (t + 18)) := by exact gz_m 0 (by omega)
  have N_23__t_19 : ¬ (23 = (t + 19)) := by exact gz_m 1 (by omega)
  have N_23__t_20 : ¬ (23 = (t + 20)) := by exact gz_m 2 (by omega)
  have N_23__t_21 : ¬ (23 = (t + 21)) := by exact gz_m 3 (by omega)
  have N_23__t_23 : ¬ (23 = (t + 23)) := by exact gz_m 4 (by omega)
  have N_23__t_24 : ¬ (23 = (t + 24)) := by exact gz_m 5 (by omega)
  have N_100__t_17 : ¬ (100 = (t + 17)) := by exact gz_m 6 (by omega)
  have N_100__t_18 : ¬ (100 = (t + 18)) := by exact gz_m 7 (by omega)
  have N_100__t_19 : ¬ (100 = (t + 19)) := by exact gz_m 8 (by omega)
  have N_100__t_20 : ¬ (100 = (t + 20)) := by exact gz_m 9 (by omega)
  have N_100__t_21 : ¬ (100 = (t + 21)) := by exact gz_m 10 (by omega)
  have N_100__t_23 : ¬ (100 = (t + 23)) := by exact gz_m 11 (by omega)
  have N_100__t_24 : ¬ (100 = (t + 24)) := by exact gz_m 12 (by omega)
  have N_t__t_18 : ¬ (t = (t + 18)) := by exact gz_m 13 (by omega)
  have N_t__t_19 : ¬ (t = (t + 19)) := by exact gz_m 14 (by omega)
  have N_t__t_20 : ¬ (t = (t + 20)) := by exact gz_m 15 (by omega)
  have N_t__t_21 : ¬ (t = (t + 21)) := by exact gz_m 16 (by omega)
  have N_t__t_23 : ¬ (t = (t + 23)) := by exact gz_m 17 (by omega)
  have N_t__t_24 : ¬ (t = (t + 24)) := by exact gz_m 18 (by omega)
  have N_23__t_22 : ¬ (23 = (t + 22)) := by exact gz_m 19 (by omega)
  have N_100__t_22 : ¬ (100 = (t + 22)) := by exact gz_m 20 (by omega)
  have N_t_17__113 : ¬ ((t + 17) = 113) := by exact gz_m 21 (by omega)
  have N_t_17__23 : ¬ ((t + 17) = 23) := by exact gz_m 22 (by omega)
  have N_t_17__107 : ¬ ((t + 17) = 107) := by exact gz_m 23 (by omega)
  have N_t_17__108 : ¬ ((t + 17) = 108) := by exact gz_m 24 (by omega)
  have N_t_17__109 : ¬ ((t + 17) = 109) := by exact gz_m 25 (by omega)
  have N_t_17__110 : ¬ ((t + 17) = 110) := by exact gz_m 26 (by omega)
  have N_t_17__111 : ¬ ((t + 17) = 111) := by exact gz_m 27 (by omega)
  have N_t_17__112 : ¬ ((t + 17) = 112) := by exact gz_m 28 (by omega)
  have N_t_17__t_22 : ¬ ((t + 17) = (t + 22)) := by exact gz_m 29 (by omega)
  have N_t__113 : ¬ (t = 113) := by exact gz_m 30 (by omega)
  have N_t__107 : ¬ (t = 107) := by exact gz_m 31 (by omega)
  have N_t__108 : ¬ (t = 108) := by exact gz_m 32 (by omega)
  have N_t__109 : ¬ (t = 109) := by exact gz_m 33 (by omega)
  have N_t__110 : ¬ (t = 110) := by exact gz_m 34 (by omega)
  have N_t__111 : ¬ (t = 111) := by exact gz_m 35 (by omega)
  have N_t__112 : ¬ (t = 112) := by exact gz_m 36 (by omega)
  have N_t__t_22 : ¬ (t = (t + 22)) := by exact gz_m 37 (by omega)
  have N_t_18__100 : ¬ ((t + 18) = 100) := by exact gz_m 38 (by omega)
  have N_t_18__113 : ¬ ((t + 18) = 113) := by exact gz_m 39 (by omega)
  have N_t_18__23 : ¬ ((t + 18) = 23) := by exact gz_m 40 (by omega)
  have N_t_18__106 : ¬ ((t + 18) = 106) := by exact gz_m 41 (by omega)
  have N_t_18__107 : ¬ ((t + 18) = 107) := by exact gz_m 42 (by omega)
  have N_t_18__108 : ¬ ((t + 18) = 108) := by exact gz_m 43 (by omega)
  have N_t_18__109 : ¬ ((t + 18) = 109) := by exact gz_m 44 (by omega)
  have N_t_18__110 : ¬ ((t + 18) = 110) := by exact gz_m 45 (by omega)
  have N_t_18__111 : ¬ ((t + 18) = 111) := by exact gz_m 46 (by omega)
  have N_t_18__112 : ¬ ((t + 18) = 112) := by exact gz_m 47 (by omega)
  have N_t_18__t_22 : ¬ ((t + 18) = (t + 22)) := by exact gz_m 48 (by omega)
  have N_t_19__100 : ¬ ((t + 19) = 100) := by exact gz_m 49 (by omega)
  have N_t_19__113 : ¬ ((t + 19) = 113) := by exact gz_m 50 (by omega)
  have N_t_19__23 : ¬ ((t + 19) = 23) := by exact gz_m 51 (by omega)
  have N_t_19__106 : ¬ ((t + 19) = 106) := by exact gz_m 52 (by omega)
  have N_t_19__107 : ¬ ((t + 19) = 107) := by exact gz_m 53 (by omega)
  have N_t_19__108 : ¬ ((t + 19) = 108) := by exact gz_m 54 (by omega)
  have N_t_19__109 : ¬ ((t + 19) = 109) := by exact gz_m 55 (by omega)
  have N_t_19__110 : ¬ ((t + 19) = 110) := by exact gz_m 56 (by omega)
  have N_t_19__111 : ¬ ((t + 19) = 111) := by exact gz_m 57 (by omega)
  have N_t_19__112 : ¬ ((t + 19) = 112) := by exact gz_m 58 (by omega)
  have N_t_19__t_22 : ¬ ((t + 19) = (t + 22)) := by exact gz_m 59 (by omega)
  have N_t_20__100 : ¬ ((t + 20) = 100) := by exact gz_m 60 (by omega)
  have N_t_20__113 : ¬ ((t + 20) = 113) := by exact gz_m 61 (by omega)
  have N_t_20__23 : ¬ ((t + 20) = 23) := by exact gz_m 62 (by omega)
  have N_t_20__106 : ¬ ((t + 20) = 106) := by exact gz_m 63 (by omega)
  have N_t_20__107 : ¬ ((t + 20) = 107) := by exact gz_m 64 (by omega)
  have N_t_20__108 : ¬ ((t + 20) = 108) := by exact gz_m 65 (by omega)
  have N_t_20__109 : ¬ ((t + 20) = 109) := by exact gz_m 66 (by omega)
  have N_t_20__110 : ¬ ((t + 20) = 110) := by exact gz_m 67 (by omega)
  have N_t_20__111 : ¬ ((t + 20) = 111) := by exact gz_m 68 (by omega)
  have N_t_20__112 : ¬ ((t + 20) = 112) := by exact gz_m 69 (by omega)
  have N_t_20__t_22 : ¬ ((t + 20) = (t + 22)) := by exact gz_m 70 (by omega)
  have N_t_21__100 : ¬ ((t + 21) = 100) := by exact gz_m 71 (by omega)
  have N_t_21__113 : ¬ ((t + 21) = 113) := by exact gz_m 72 (by omega)
  have N_t_21__23 : ¬ ((t + 21) = 23) := by exact gz_m 73 (by omega)
  have N_t_21__106 : ¬ ((t + 21) = 106) := by exact gz_m 74 (by omega)
  have N_t_21__107 : ¬ ((t + 21) = 107) := by exact gz_m 75 (by omega)
  have N_t_21__108 : ¬ ((t + 21) = 108) := by exact gz_m 76 (by omega)
  have N_t_21__109 : ¬ ((t + 21) = 109) := by exact gz_m 77 (by omega)
  have N_t_21__110 : ¬ ((t + 21) = 110) := by exact gz_m 78 (by omega)
  have N_t_21__111 : ¬ ((t + 21) = 111) := by exact gz_m 79 (by omega)
  have N_t_21__112 : ¬ ((t + 21) = 112) := by exact gz_m 80 (by omega)
  have N_t_21__t_22 : ¬ ((t + 21) = (t + 22)) := by exact gz_m 81 (by omega)
  have KBD_I : gh_BD I t I := gh_BD_rf
  have f1 := (gc_b_3_1 hI R_23)
  have f2 := (gc_b_75_9 hI R_100)
  have f3 := (show 0 ≤ I (t + 17) 8 ∧ I (t + 17) 8 ≤ 64 from gc_in2 hI R_t_17 rfl rfl rfl)
  have f4 := (show 0 ≤ I t 11 ∧ I t 11 ≤ 64 from gc_in2 hI R_t rfl rfl rfl)
  have f5 := (show 0 ≤ I (t + 17) 6 ∧ I (t + 17) 6 ≤ 1 from gc_in2 hI R_t_17 rfl rfl rfl)
  have f6 := (show 0 ≤ I (t + 17) 7 ∧ I (t + 17) 7 ≤ 1 from gc_in2 hI R_t_17 rfl rfl rfl)
  refine gv_run 2 true hD (pcₚ := 2) (lvₚ := [(0, .inr (.inr (some 0))), (1, .inl a1)]) (stₚ := [.inl a1, .inr (.inr (some 0))]) (hₚ := gc_h sh I J A) (C := ((True ∧ True) ∧ True)) rfl ⟨⟨trivial, trivial⟩, trivial⟩ ?_
  refine gv_callV hD rfl (As := [.inl a1]) (st := []) rfl B_0 S_0 rfl (gc_lV12 hws rfl) (Nat.le_of_ble_eq_true rfl) (gz_Ev_mono (d := 1) (by decide) (d_X12_tongueAt hws htb (J := J) hI hb (by exact gz_m 82 (by omega)) (by exact gz_m 83 (by omega)) x1)) ?_
  show gv_X _ _ (5, [(0, .inr (.inr (some 0))), (1, .inl a1)], [.inr (.inr (some t))], sh, gc_h sh I J A)
  refine gv_run 2 true hD (pcₚ := 7) (lvₚ := [(2, .inr (.inr (some t))), (0, .inr (.inr (some 0))), (1, .inl a1)]) (stₚ := [.inr (.inr (some t))]) (hₚ := gc_h sh I J A) (C := ((True ∧ True) ∧ True)) rfl ⟨⟨trivial, trivial⟩, trivial⟩ ?_
  refine gv_get hD rfl rfl S_t ⟨by decide, B_t⟩ (gc_hA S_t rfl A_t_15) ?_
  show gv_X _ _ (10, [(2, .inr (.inr (some t))), (0, .inr (.inr (some 0))), (1, .inl a1)], [.inr (.inr (some (t + 17)))], sh, gc_h sh I J A)
  refine gv_run 1 true hD (pcₚ := 11) (lvₚ := [(2, .inr (.inr (some t))), (0, .inr (.inr (some 0))), (1, .inl a1)]) (stₚ := [.inr (.inr (some t)), .inr (.inr (some (t + 17)))]) (hₚ := gc_h sh I J A) (C := (True ∧ True)) rfl ⟨trivial, trivial⟩ ?_
  obtain ⟨r8, h8, E8, P8⟩ := d_X2_build_b (ws0 := ws0) (tb := tb) hws htb sh ro I J A hI (t + 17) t h_t_17 h_t G_t   x2 rfl x3 (by exact gz_m 84 (by omega)) 
  obtain ⟨I9, J10, rfl, hI9, g8, k8, ⟨rfl, q8⟩⟩ := P8
  have FI9 := gc_frc (W := fun q j => (q = (t + 17) ∧ j = 8) ∨ (q = (t + 17) ∧ j = 9) ∨ q = (t + 18) ∨ q = (t + 19) ∨ q = (t + 20) ∨ q = (t + 21) ∨ (q = (t + 17) ∧ j = 6) ∨ (q = (t + 17) ∧ j = 7) ∨ q = (t + 23) ∨ q = (t + 24) ∨ (q = 100 ∧ j = 14) ∨ (q = 100 ∧ j = 17) ∨ q = 113 ∨ (q = 23 ∧ j = 5) ∨ (q = 23 ∧ j = 6) ∨ (q = 23 ∧ j = 7) ∨ (q = 23 ∧ j = 8) ∨ (q = 106 ∧ j = 1) ∨ q = 107 ∨ (q = 106 ∧ j = 4) ∨ q = 108 ∨ q = 109 ∨ q = 110 ∨ q = 111 ∨ q = 112 ∨ q = (t + 22) ∨ (q = 23 ∧ j = 1)) (V := fun q j => (q = (t + 17) ∧ j = 6) ∨ (q = (t + 17) ∧ j = 7) ∨ (q = (t + 17) ∧ j = 8) ∨ (q = (t + 17) ∧ j = 9) ∨ q = (t + 18) ∨ q = (t + 19) ∨ q = (t + 20) ∨ q = (t + 21) ∨ q = (t + 23) ∨ q = (t + 24)) FI (fun q j h => (h.elim (fun h => (Or.inr (Or.inr (Or.inr (Or.inr (Or.inr (Or.inr (Or.inl h)))))))) (fun h => (h.elim (fun h => (Or.inr (Or.inr (Or.inr (Or.inr (Or.inr (Or.inr (Or.inr (Or.inl h))))))))) (fun h => (h.elim (fun h => (Or.inl h)) (fun h => (h.elim (fun h => (Or.inr (Or.inl h))) (fun h => (h.elim (fun h => (Or.inr (Or.inr (Or.inl h)))) (fun h => (h.elim (fun h => (Or.inr (Or.inr (Or.inr (Or.inl h))))) (fun h => (h.elim (fun h => (Or.inr (Or.inr (Or.inr (Or.inr (Or.inl h)))))) (fun h => (h.elim (fun h => (Or.inr (Or.inr (Or.inr (Or.inr (Or.inr (Or.inl h))))))) (fun h => (h.elim (fun h => (Or.inr (Or.inr (Or.inr (Or.inr (Or.inr (Or.inr (Or.inr (Or.inr (Or.inl h)))))))))) (fun h => (Or.inr (Or.inr (Or.inr (Or.inr (Or.inr (Or.inr (Or.inr (Or.inr (Or.inr (Or.inl h))))))))))))))))))))))))))))) g8
  have t11 := (g8 23 1).resolve_left (fun h => h.elim (fun h => absurd h.2 (by first | exact gz_ne rfl | decide)) (fun h => h.elim (fun h => absurd h.2 (by first | exact gz_ne rfl | decide)) (fun h => h.elim (fun h => absurd h.2 (by first | exact gz_ne rfl | decide)) (fun h => h.elim (fun h => absurd h.2 (by first | exact gz_ne rfl | decide)) (fun h => h.elim (fun h => absurd h N_23__t_18) (fun h => h.elim (fun h => absurd h N_23__t_19) (fun h => h.elim (fun h => absurd h N_23__t_20) (fun h => h.elim (fun h => absurd h N_23__t_21) (fun h => h.elim (fun h => absurd h N_23__t_23) (fun h => absurd h N_23__t_24))))))))))
  have t12 := (g8 100 9).resolve_left (fun h => h.elim (fun h => absurd h.2 (by first | exact gz_ne rfl | decide)) (fun h => h.elim (fun h => absurd h.2 (by first | exact gz_ne rfl | decide)) (fun h => h.elim (fun h => absurd h.2 (by first | exact gz_ne rfl | decide)) (fun h => h.elim (fun h => absurd h.1 N_100__t_17) (fun h => h.elim (fun h => absurd h N_100__t_18) (fun h => h.elim (fun h => absurd h N_100__t_19) (fun h => h.elim (fun h => absurd h N_100__t_20) (fun h => h.elim (fun h => absurd h N_100__t_21) (fun h => h.elim (fun h => absurd h N_100__t_23) (fun h => absurd h N_100__t_24))))))))))
  have t13 := (g8 t 11).resolve_left (fun h => h.elim (fun h => absurd h.2 (by first | exact gz_ne rfl | decide)) (fun h => h.elim (fun h => absurd h.2 (by first | exact gz_ne rfl | decide)) (fun h => h.elim (fun h => absurd h.2 (by first | exact gz_ne rfl | decide)) (fun h => h.elim (fun h => absurd h.2 (by first | exact gz_ne rfl | decide)) (fun h => h.elim (fun h => absurd h N_t__t_18) (fun h => h.elim (fun h => absurd h N_t__t_19) (fun h => h.elim (fun h => absurd h N_t__t_20) (fun h => h.elim (fun h => absurd h N_t__t_21) (fun h => h.elim (fun h => absurd h N_t__t_23) (fun h => absurd h N_t__t_24))))))))))
  have f14 := (show 0 ≤ I9 (t + 17) 8 ∧ I9 (t + 17) 8 ≤ 64 from gc_in2 hI9 R_t_17 rfl rfl rfl)
  have f15 := (show 0 ≤ I9 (t + 17) 6 ∧ I9 (t + 17) 6 ≤ 1 from gc_in2 hI9 R_t_17 rfl rfl rfl)
  have f16 := (show 0 ≤ I9 (t + 17) 7 ∧ I9 (t + 17) 7 ≤ 1 from gc_in2 hI9 R_t_17 rfl rfl rfl)
  obtain rfl : J = J10 := funext fun q => funext fun j => ((k8 q j).resolve_left id).symm
  have KBD_I9 : gh_BD I t I9 := gh_BD_tr KBD_I gh_tb_rf (by exact gz_m 85 (by omega)) q8.2.2.2
  refine gv_callV hD rfl (As := [.inr (.inr (some t))]) (st := []) rfl B_t_17 S_t_17 rfl (gc_lV12 hws rfl) (Nat.le_of_ble_eq_true rfl) (gz_Ev_mono (d := 5) (by decide) E8) ?_
  show gv_X _ _ (14, [(2, .inr (.inr (some t))), (0, .inr (.inr (some 0))), (1, .inl a1)], [], sh, gc_h sh I9 J A)
  refine gv_run 1 true hD (pcₚ := 15) (lvₚ := [(2, .inr (.inr (some t))), (0, .inr (.inr (some 0))), (1, .inl a1)]) (stₚ := [.inr (.inr (some 0))]) (hₚ := gc_h sh I9 J A) (C := (True ∧ True)) rfl ⟨trivial, trivial⟩ ?_
  refine gv_get hD rfl rfl S_0 ⟨by decide, B_0⟩ (gc_hA S_0 rfl A_0_10) ?_
  show gv_X _ _ (18, [(2, .inr (.inr (some t))), (0, .inr (.inr (some 0))), (1, .inl a1)], [.inr (.inr (some 100))], sh, gc_h sh I9 J A)
  refine gv_run 3 true hD (pcₚ := 21) (lvₚ := [(2, .inr (.inr (some t))), (0, .inr (.inr (some 0))), (1, .inl a1)]) (stₚ := [.inr (.inr (some 0)), .inr (.inr (some t)), .inl a1, .inr (.inr (some 100))]) (hₚ := gc_h sh I9 J A) (C := (((True ∧ True) ∧ True) ∧ True)) rfl ⟨⟨⟨trivial, trivial⟩, trivial⟩, trivial⟩ ?_
  refine gv_get hD rfl rfl S_0 ⟨by decide, B_0⟩ (gc_hA S_0 rfl A_0_1) ?_
  show gv_X _ _ (24, [(2, .inr (.inr (some t))), (0, .inr (.inr (some 0))), (1, .inl a1)], [.inr (.inr (some 23)), .inr (.inr (some t)), .inl a1, .inr (.inr (some 100))], sh, gc_h sh I9 J A)
  obtain ⟨r17, h17, E17, P17⟩ := d_X1_search (ws0 := ws0) (tb := tb) hws htb sh ro I9 J A hI9  a1 t 23 hb h_t G_t (gc_b23 hb) (by exact gz_m 86 (by omega))  ⟨by exact gz_m 87 (by omega), by exact gz_m 88 (by omega)⟩ (gh_SN_fr x5 (((g8 100 9).resolve_left (by exact gz_m 89 (by omega))))) 
  obtain ⟨I18, J19, rfl, hI18, g17, k17, ⟨z17, rfl, q17⟩⟩ := P17
  have FI18 := gc_frc (W := fun q j => (q = (t + 17) ∧ j = 8) ∨ (q = (t + 17) ∧ j = 9) ∨ q = (t + 18) ∨ q = (t + 19) ∨ q = (t + 20) ∨ q = (t + 21) ∨ (q = (t + 17) ∧ j = 6) ∨ (q = (t + 17) ∧ j = 7) ∨ q = (t + 23) ∨ q = (t + 24) ∨ (q = 100 ∧ j = 14) ∨ (q = 100 ∧ j = 17) ∨ q = 113 ∨ (q = 23 ∧ j = 5) ∨ (q = 23 ∧ j = 6) ∨ (q = 23 ∧ j = 7) ∨ (q = 23 ∧ j = 8) ∨ (q = 106 ∧ j = 1) ∨ q = 107 ∨ (q = 106 ∧ j = 4) ∨ q = 108 ∨ q = 109 ∨ q = 110 ∨ q = 111 ∨ q = 112 ∨ q = (t + 22) ∨ (q = 23 ∧ j = 1)) (V := fun q j => (q = 100 ∧ j = 14) ∨ (q = 100 ∧ j = 17) ∨ q = 113 ∨ (q = 23 ∧ j = 5) ∨ (q = 23 ∧ j = 6) ∨ (q = 23 ∧ j = 7) ∨ (q = 23 ∧ j = 8) ∨ (q = 106 ∧ j = 1) ∨ q = 107 ∨ (q = 106 ∧ j = 4) ∨ q = 108 ∨ q = 109 ∨ q = 110 ∨ q = 111 ∨ q = 112 ∨ q = (t + 22)) FI9 (fun q j h => (h.elim (fun h => (Or.inr (Or.inr (Or.inr (Or.inr (Or.inr (Or.inr (Or.inr (Or.inr (Or.inr (Or.inr (Or.inl h)))))))))))) (fun h => (h.elim (fun h => (Or.inr (Or.inr (Or.inr (Or.inr (Or.inr (Or.inr (Or.inr (Or.inr (Or.inr (Or.inr (Or.inr (Or.inl h))))))))))))) (fun h => (h.elim (fun h => (Or.inr (Or.inr (Or.inr (Or.inr (Or.inr (Or.inr (Or.inr (Or.inr (Or.inr (Or.inr (Or.inr (Or.inr (Or.inl h)))))))))))))) (fun h => (h.elim (fun h => (Or.inr (Or.inr (Or.inr (Or.inr (Or.inr (Or.inr (Or.inr (Or.inr (Or.inr (Or.inr (Or.inr (Or.inr (Or.inr (Or.inl h))))))))))))))) (fun h => (h.elim (fun h => (Or.inr (Or.inr (Or.inr (Or.inr (Or.inr (Or.inr (Or.inr (Or.inr (Or.inr (Or.inr (Or.inr (Or.inr (Or.inr (Or.inr (Or.inl h)))))))))))))))) (fun h => (h.elim (fun h => (Or.inr (Or.inr (Or.inr (Or.inr (Or.inr (Or.inr (Or.inr (Or.inr (Or.inr (Or.inr (Or.inr (Or.inr (Or.inr (Or.inr (Or.inr (Or.inl h))))))))))))))))) (fun h => (h.elim (fun h => (Or.inr (Or.inr (Or.inr (Or.inr (Or.inr (Or.inr (Or.inr (Or.inr (Or.inr (Or.inr (Or.inr (Or.inr (Or.inr (Or.inr (Or.inr (Or.inr (Or.inl h)))))))))))))))))) (fun h => (h.elim (fun h => (Or.inr (Or.inr (Or.inr (Or.inr (Or.inr (Or.inr (Or.inr (Or.inr (Or.inr (Or.inr (Or.inr (Or.inr (Or.inr (Or.inr (Or.inr (Or.inr (Or.inr (Or.inl h))))))))))))))))))) (fun h => (h.elim (fun h => (Or.inr (Or.inr (Or.inr (Or.inr (Or.inr (Or.inr (Or.inr (Or.inr (Or.inr (Or.inr (Or.inr (Or.inr (Or.inr (Or.inr (Or.inr (Or.inr (Or.inr (Or.inr (Or.inl h)))))))))))))))))))) (fun h => (h.elim (fun h => (Or.inr (Or.inr (Or.inr (Or.inr (Or.inr (Or.inr (Or.inr (Or.inr (Or.inr (Or.inr (Or.inr (Or.inr (Or.inr (Or.inr (Or.inr (Or.inr (Or.inr (Or.inr (Or.inr (Or.inl h))))))))))))))))))))) (fun h => (h.elim (fun h => (Or.inr (Or.inr (Or.inr (Or.inr (Or.inr (Or.inr (Or.inr (Or.inr (Or.inr (Or.inr (Or.inr (Or.inr (Or.inr (Or.inr (Or.inr (Or.inr (Or.inr (Or.inr (Or.inr (Or.inr (Or.inl h)))))))))))))))))))))) (fun h => (h.elim (fun h => (Or.inr (Or.inr (Or.inr (Or.inr (Or.inr (Or.inr (Or.inr (Or.inr (Or.inr (Or.inr (Or.inr (Or.inr (Or.inr (Or.inr (Or.inr (Or.inr (Or.inr (Or.inr (Or.inr (Or.inr (Or.inr (Or.inl h))))))))))))))))))))))) (fun h => (h.elim (fun h => (Or.inr (Or.inr (Or.inr (Or.inr (Or.inr (Or.inr (Or.inr (Or.inr (Or.inr (Or.inr (Or.inr (Or.inr (Or.inr (Or.inr (Or.inr (Or.inr (Or.inr (Or.inr (Or.inr (Or.inr (Or.inr (Or.inr (Or.inl h)))))))))))))))))))))))) (fun h => (h.elim (fun h => (Or.inr (Or.inr (Or.inr (Or.inr (Or.inr (Or.inr (Or.inr (Or.inr (Or.inr (Or.inr (Or.inr (Or.inr (Or.inr (Or.inr (Or.inr (Or.inr (Or.inr (Or.inr (Or.inr (Or.inr (Or.inr (Or.inr (Or.inr (Or.inl h))))))))))))))))))))))))) (fun h => (h.elim (fun h => (Or.inr (Or.inr (Or.inr (Or.inr (Or.inr (Or.inr (Or.inr (Or.inr (Or.inr (Or.inr (Or.inr (Or.inr (Or.inr (Or.inr (Or.inr (Or.inr (Or.inr (Or.inr (Or.inr (Or.inr (Or.inr (Or.inr (Or.inr (Or.inr (Or.inl h)))))))))))))))))))))))))) (fun h => (Or.inr (Or.inr (Or.inr (Or.inr (Or.inr (Or.inr (Or.inr (Or.inr (Or.inr (Or.inr (Or.inr (Or.inr (Or.inr (Or.inr (Or.inr (Or.inr (Or.inr (Or.inr (Or.inr (Or.inr (Or.inr (Or.inr (Or.inr (Or.inr (Or.inr (Or.inl h))))))))))))))))))))))))))))))))))))))))))))))))))))))))) g17
  have FJ19 := gc_frc (W := fun q j => (q = 23 ∧ j = 9)) (V := fun q j => (q = 23 ∧ j = 9)) FJ (fun q j h => h) k17
  have t20 := (g17 23 1).resolve_left (fun h => h.elim (fun h => absurd h.2 (by first | exact gz_ne rfl | decide)) (fun h => h.elim (fun h => absurd h.2 (by first | exact gz_ne rfl | decide)) (fun h => h.elim (fun h => absurd h (by first | exact gz_ne rfl | decide)) (fun h => h.elim (fun h => absurd h.2 (by first | exact gz_ne rfl | decide)) (fun h => h.elim (fun h => absurd h.2 (by first | exact gz_ne rfl | decide)) (fun h => h.elim (fun h => absurd h.2 (by first | exact gz_ne rfl | decide)) (fun h => h.elim (fun h => absurd h.2 (by first | exact gz_ne rfl | decide)) (fun h => h.elim (fun h => absurd h.1 (by first | exact gz_ne rfl | decide)) (fun h => h.elim (fun h => absurd h (by first | exact gz_ne rfl | decide)) (fun h => h.elim (fun h => absurd h.2 (by first | exact gz_ne rfl | decide)) (fun h => h.elim (fun h => absurd h (by first | exact gz_ne rfl | decide)) (fun h => h.elim (fun h => absurd h (by first | exact gz_ne rfl | decide)) (fun h => h.elim (fun h => absurd h (by first | exact gz_ne rfl | decide)) (fun h => h.elim (fun h => absurd h (by first | exact gz_ne rfl | decide)) (fun h => h.elim (fun h => absurd h (by first | exact gz_ne rfl | decide)) (fun h => absurd h N_23__t_22))))))))))))))))
  have t21 := (g17 100 9).resolve_left (fun h => h.elim (fun h => absurd h.2 (by first | exact gz_ne rfl | decide)) (fun h => h.elim (fun h => absurd h.2 (by first | exact gz_ne rfl | decide)) (fun h => h.elim (fun h => absurd h (by first | exact gz_ne rfl | decide)) (fun h => h.elim (fun h => absurd h.2 (by first | exact gz_ne rfl | decide)) (fun h => h.elim (fun h => absurd h.2 (by first | exact gz_ne rfl | decide)) (fun h => h.elim (fun h => absurd h.2 (by first | exact gz_ne rfl | decide)) (fun h => h.elim (fun h => absurd h.2 (by first | exact gz_ne rfl | decide)) (fun h => h.elim (fun h => absurd h.2 (by first | exact gz_ne rfl | decide)) (fun h => h.elim (fun h => absurd h (by first | exact gz_ne rfl | decide)) (fun h => h.elim (fun h => absurd h.2 (by first | exact gz_ne rfl | decide)) (fun h => h.elim (fun h => absurd h (by first | exact gz_ne rfl | decide)) (fun h => h.elim (fun h => absurd h (by first | exact gz_ne rfl | decide)) (fun h => h.elim (fun h => absurd h (by first | exact gz_ne rfl | decide)) (fun h => h.elim (fun h => absurd h (by first | exact gz_ne rfl | decide)) (fun h => h.elim (fun h => absurd h (by first | exact gz_ne rfl | decide)) (fun h => absurd h N_100__t_22))))))))))))))))
  have t22 := (g17 (t + 17) 8).resolve_left (fun h => h.elim (fun h => absurd h.2 (by first | exact gz_ne rfl | decide)) (fun h => h.elim (fun h => absurd h.2 (by first | exact gz_ne rfl | decide)) (fun h => h.elim (fun h => absurd h N_t_17__113) (fun h => h.elim (fun h => absurd h.2 (by first | exact gz_ne rfl | decide)) (fun h => h.elim (fun h => absurd h.2 (by first | exact gz_ne rfl | decide)) (fun h => h.elim (fun h => absurd h.2 (by first | exact gz_ne rfl | decide)) (fun h => h.elim (fun h => absurd h.1 N_t_17__23) (fun h => h.elim (fun h => absurd h.2 (by first | exact gz_ne rfl | decide)) (fun h => h.elim (fun h => absurd h N_t_17__107) (fun h => h.elim (fun h => absurd h.2 (by first | exact gz_ne rfl | decide)) (fun h => h.elim (fun h => absurd h N_t_17__108) (fun h => h.elim (fun h => absurd h N_t_17__109) (fun h => h.elim (fun h => absurd h N_t_17__110) (fun h => h.elim (fun h => absurd h N_t_17__111) (fun h => h.elim (fun h => absurd h N_t_17__112) (fun h => absurd h N_t_17__t_22))))))))))))))))
  have t23 := (g17 t 11).resolve_left (fun h => h.elim (fun h => absurd h.2 (by first | exact gz_ne rfl | decide)) (fun h => h.elim (fun h => absurd h.2 (by first | exact gz_ne rfl | decide)) (fun h => h.elim (fun h => absurd h N_t__113) (fun h => h.elim (fun h => absurd h.2 (by first | exact gz_ne rfl | decide)) (fun h => h.elim (fun h => absurd h.2 (by first | exact gz_ne rfl | decide)) (fun h => h.elim (fun h => absurd h.2 (by first | exact gz_ne rfl | decide)) (fun h => h.elim (fun h => absurd h.2 (by first | exact gz_ne rfl | decide)) (fun h => h.elim (fun h => absurd h.2 (by first | exact gz_ne rfl | decide)) (fun h => h.elim (fun h => absurd h N_t__107) (fun h => h.elim (fun h => absurd h.2 (by first | exact gz_ne rfl | decide)) (fun h => h.elim (fun h => absurd h N_t__108) (fun h => h.elim (fun h => absurd h N_t__109) (fun h => h.elim (fun h => absurd h N_t__110) (fun h => h.elim (fun h => absurd h N_t__111) (fun h => h.elim (fun h => absurd h N_t__112) (fun h => absurd h N_t__t_22))))))))))))))))
  have t24 := (g17 (t + 17) 6).resolve_left (fun h => h.elim (fun h => absurd h.2 (by first | exact gz_ne rfl | decide)) (fun h => h.elim (fun h => absurd h.2 (by first | exact gz_ne rfl | decide)) (fun h => h.elim (fun h => absurd h N_t_17__113) (fun h => h.elim (fun h => absurd h.2 (by first | exact gz_ne rfl | decide)) (fun h => h.elim (fun h => absurd h.1 N_t_17__23) (fun h => h.elim (fun h => absurd h.2 (by first | exact gz_ne rfl | decide)) (fun h => h.elim (fun h => absurd h.2 (by first | exact gz_ne rfl | decide)) (fun h => h.elim (fun h => absurd h.2 (by first | exact gz_ne rfl | decide)) (fun h => h.elim (fun h => absurd h N_t_17__107) (fun h => h.elim (fun h => absurd h.2 (by first | exact gz_ne rfl | decide)) (fun h => h.elim (fun h => absurd h N_t_17__108) (fun h => h.elim (fun h => absurd h N_t_17__109) (fun h => h.elim (fun h => absurd h N_t_17__110) (fun h => h.elim (fun h => absurd h N_t_17__111) (fun h => h.elim (fun h => absurd h N_t_17__112) (fun h => absurd h N_t_17__t_22))))))))))))))))
  have t25 := (g17 (t + 17) 7).resolve_left (fun h => h.elim (fun h => absurd h.2 (by first | exact gz_ne rfl | decide)) (fun h => h.elim (fun h => absurd h.2 (by first | exact gz_ne rfl | decide)) (fun h => h.elim (fun h => absurd h N_t_17__113) (fun h => h.elim (fun h => absurd h.2 (by first | exact gz_ne rfl | decide)) (fun h => h.elim (fun h => absurd h.2 (by first | exact gz_ne rfl | decide)) (fun h => h.elim (fun h => absurd h.1 N_t_17__23) (fun h => h.elim (fun h => absurd h.2 (by first | exact gz_ne rfl | decide)) (fun h => h.elim (fun h => absurd h.2 (by first | exact gz_ne rfl | decide)) (fun h => h.elim (fun h => absurd h N_t_17__107) (fun h => h.elim (fun h => absurd h.2 (by first | exact gz_ne rfl | decide)) (fun h => h.elim (fun h => absurd h N_t_17__108) (fun h => h.elim (fun h => absurd h N_t_17__109) (fun h => h.elim (fun h => absurd h N_t_17__110) (fun h => h.elim (fun h => absurd h N_t_17__111) (fun h => h.elim (fun h => absurd h N_t_17__112) (fun h => absurd h N_t_17__t_22))))))))))))))))
  have KBD_I18 := gh_BD_fr KBD_I9 ((g17 (t + 17) 8).resolve_left (fun h => h.elim (fun h => absurd h.2 (by first | exact gz_ne rfl | decide)) (fun h => h.elim (fun h => absurd h.2 (by first | exact gz_ne rfl | decide)) (fun h => h.elim (fun h => absurd h N_t_17__113) (fun h => h.elim (fun h => absurd h.2 (by first | exact gz_ne rfl | decide)) (fun h => h.elim (fun h => absurd h.2 (by first | exact gz_ne rfl | decide)) (fun h => h.elim (fun h => absurd h.2 (by first | exact gz_ne rfl | decide)) (fun h => h.elim (fun h => absurd h.1 N_t_17__23) (fun h => h.elim (fun h => absurd h.2 (by first | exact gz_ne rfl | decide)) (fun h => h.elim (fun h => absurd h N_t_17__107) (fun h => h.elim (fun h => absurd h.2 (by first | exact gz_ne rfl | decide)) (fun h => h.elim (fun h => absurd h N_t_17__108) (fun h => h.elim (fun h => absurd h N_t_17__109) (fun h => h.elim (fun h => absurd h N_t_17__110) (fun h => h.elim (fun h => absurd h N_t_17__111) (fun h => h.elim (fun h => absurd h N_t_17__112) (fun h => absurd h N_t_17__t_22))))))))))))))))) ((g17 (t + 17) 9).resolve_left (fun h => h.elim (fun h => absurd h.2 (by first | exact gz_ne rfl | decide)) (fun h => h.elim (fun h => absurd h.2 (by first | exact gz_ne rfl | decide)) (fun h => h.elim (fun h => absurd h N_t_17__113) (fun h => h.elim (fun h => absurd h.2 (by first | exact gz_ne rfl | decide)) (fun h => h.elim (fun h => absurd h.2 (by first | exact gz_ne rfl | decide)) (fun h => h.elim (fun h => absurd h.2 (by first | exact gz_ne rfl | decide)) (fun h => h.elim (fun h => absurd h.2 (by first | exact gz_ne rfl | decide)) (fun h => h.elim (fun h => absurd h.2 (by first | exact gz_ne rfl | decide)) (fun h => h.elim (fun h => absurd h N_t_17__107) (fun h => h.elim (fun h => absurd h.2 (by first | exact gz_ne rfl | decide)) (fun h => h.elim (fun h => absurd h N_t_17__108) (fun h => h.elim (fun h => absurd h N_t_17__109) (fun h => h.elim (fun h => absurd h N_t_17__110) (fun h => h.elim (fun h => absurd h N_t_17__111) (fun h => h.elim (fun h => absurd h N_t_17__112) (fun h => absurd h N_t_17__t_22))))))))))))))))) (fun k => (g17 (t + 18) k).resolve_left (fun h => h.elim (fun h => absurd h.1 N_t_18__100) (fun h => h.elim (fun h => absurd h.1 N_t_18__100) (fun h => h.elim (fun h => absurd h N_t_18__113) (fun h => h.elim (fun h => absurd h.1 N_t_18__23) (fun h => h.elim (fun h => absurd h.1 N_t_18__23) (fun h => h.elim (fun h => absurd h.1 N_t_18__23) (fun h => h.elim (fun h => absurd h.1 N_t_18__23) (fun h => h.elim (fun h => absurd h.1 N_t_18__106) (fun h => h.elim (fun h => absurd h N_t_18__107) (fun h => h.elim (fun h => absurd h.1 N_t_18__106) (fun h => h.elim (fun h => absurd h N_t_18__108) (fun h => h.elim (fun h => absurd h N_t_18__109) (fun h => h.elim (fun h => absurd h N_t_18__110) (fun h => h.elim (fun h => absurd h N_t_18__111) (fun h => h.elim (fun h => absurd h N_t_18__112) (fun h => absurd h N_t_18__t_22))))))))))))))))) (fun k => (g17 (t + 19) k).resolve_left (fun h => h.elim (fun h => absurd h.1 N_t_19__100) (fun h => h.elim (fun h => absurd h.1 N_t_19__100) (fun h => h.elim (fun h => absurd h N_t_19__113) (fun h => h.elim (fun h => absurd h.1 N_t_19__23) (fun h => h.elim (fun h => absurd h.1 N_t_19__23) (fun h => h.elim (fun h => absurd h.1 N_t_19__23) (fun h => h.elim (fun h => absurd h.1 N_t_19__23) (fun h => h.elim (fun h => absurd h.1 N_t_19__106) (fun h => h.elim (fun h => absurd h N_t_19__107) (fun h => h.elim (fun h => absurd h.1 N_t_19__106) (fun h => h.elim (fun h => absurd h N_t_19__108) (fun h => h.elim (fun h => absurd h N_t_19__109) (fun h => h.elim (fun h => absurd h N_t_19__110) (fun h => h.elim (fun h => absurd h N_t_19__111) (fun h => h.elim (fun h => absurd h N_t_19__112) (fun h => absurd h N_t_19__t_22))))))))))))))))) (fun k => (g17 (t + 20) k).resolve_left (fun h => h.elim (fun h => absurd h.1 N_t_20__100) (fun h => h.elim (fun h => absurd h.1 N_t_20__100) (fun h => h.elim (fun h => absurd h N_t_20__113) (fun h => h.elim (fun h => absurd h.1 N_t_20__23) (fun h => h.elim (fun h => absurd h.1 N_t_20__23) (fun h => h.elim (fun h => absurd h.1 N_t_20__23) (fun h => h.elim (fun h => absurd h.1 N_t_20__23) (fun h => h.elim (fun h => absurd h.1 N_t_20__106) (fun h => h.elim (fun h => absurd h N_t_20__107) (fun h => h.elim (fun h => absurd h.1 N_t_20__106) (fun h => h.elim (fun h => absurd h N_t_20__108) (fun h => h.elim (fun h => absurd h N_t_20__109) (fun h => h.elim (fun h => absurd h N_t_20__110) (fun h => h.elim (fun h => absurd h N_t_20__111) (fun h => h.elim (fun h => absurd h N_t_20__112) (fun h => absurd h N_t_20__t_22))))))))))))))))) (fun k => (g17 (t + 21) k).resolve_left (fun h => h.elim (fun h => absurd h.1 N_t_21__100) (fun h => h.elim (fun h => absurd h.1 N_t_21__100) (fun h => h.elim (fun h => absurd h N_t_21__113) (fun h => h.elim (fun h => absurd h.1 N_t_21__23) (fun h => h.elim (fun h => absurd h.1 N_t_21__23) (fun h => h.elim (fun h => absurd h.1 N_t_21__23) (fun h => h.elim (fun h => absurd h.1 N_t_21__23) (fun h => h.elim (fun h => absurd h.1 N_t_21__106) (fun h => h.elim (fun h => absurd h N_t_21__107) (fun h => h.elim (fun h => absurd h.1 N_t_21__106) (fun h => h.elim (fun h => absurd h N_t_21__108) (fun h => h.elim (fun h => absurd h N_t_21__109) (fun h => h.elim (fun h => absurd h N_t_21__110) (fun h => h.elim (fun h => absurd h N_t_21__111) (fun h => h.elim (fun h => absurd h N_t_21__112) (fun h => absurd h N_t_21__t_22)))))))))))))))))
  refine gv_callV hD rfl (As := [.inl a1, .inr (.inr (some t)), .inr (.inr (some 23))]) (st := []) rfl B_100 S_100 rfl (gc_lV12 hws rfl) (Nat.le_of_ble_eq_true rfl) (gz_Ev_mono (d := 5) (by decide) E17) ?_
  show gv_X _ _ (27, [(2, .inr (.inr (some t))), (0, .inr (.inr (some 0))), (1, .inl a1)], [.inl z17], sh, gc_h sh I18 J19 A)
  refine gv_run 2 true hD (pcₚ := 29) (lvₚ := [(3, .inl z17), (2, .inr (.inr (some t))), (0, .inr (.inr (some 0))), (1, .inl a1)]) (stₚ := [.inr (.inr (some 0))]) (hₚ := gc_h sh I18 J19 A) (C := ((True ∧ True) ∧ True)) rfl ⟨⟨trivial, trivial⟩, trivial⟩ ?_
  refine gv_get hD rfl rfl S_0 ⟨by decide, B_0⟩ (gc_hA S_0 rfl A_0_1) ?_
  show gv_X _ _ (32, [(3, .inl z17), (2, .inr (.inr (some t))), (0, .inr (.inr (some 0))), (1, .inl a1)], [.inr (.inr (some 23))], sh, gc_h sh I18 J19 A)
  refine gv_run 1 true hD (pcₚ := 33) (lvₚ := [(3, .inl z17), (2, .inr (.inr (some t))), (0, .inr (.inr (some 0))), (1, .inl a1)]) (stₚ := [.inl 0, .inr (.inr (some 23))]) (hₚ := gc_h sh I18 J19 A) (C := (True ∧ True)) rfl ⟨trivial, trivial⟩ ?_
  refine gv_put hD rfl rfl S_23 ⟨by decide, B_23⟩ rfl trivial ?_
  refine gc_st (k := 1) hI18 S_23 rfl R_23 (lo := 0) (hi := 1000) rfl rfl (by exact gz_m 90 (by omega)) (by exact gz_m 91 (by omega)) (fun I26 hI26 q27 p27 => ?_)
  have FI26 := gc_frs (W := fun q j => (q = (t + 17) ∧ j = 8) ∨ (q = (t + 17) ∧ j = 9) ∨ q = (t + 18) ∨ q = (t + 19) ∨ q = (t + 20) ∨ q = (t + 21) ∨ (q = (t + 17) ∧ j = 6) ∨ (q = (t + 17) ∧ j = 7) ∨ q = (t + 23) ∨ q = (t + 24) ∨ (q = 100 ∧ j = 14) ∨ (q = 100 ∧ j = 17) ∨ q = 113 ∨ (q = 23 ∧ j = 5) ∨ (q = 23 ∧ j = 6) ∨ (q = 23 ∧ j = 7) ∨ (q = 23 ∧ j = 8) ∨ (q = 106 ∧ j = 1) ∨ q = 107 ∨ (q = 106 ∧ j = 4) ∨ q = 108 ∨ q = 109 ∨ q = 110 ∨ q = 111 ∨ q = 112 ∨ q = (t + 22) ∨ (q = 23 ∧ j = 1)) FI18 (Or.inr (Or.inr (Or.inr (Or.inr (Or.inr (Or.inr (Or.inr (Or.inr (Or.inr (Or.inr (Or.inr (Or.inr (Or.inr (Or.inr (Or.inr (Or.inr (Or.inr (Or.inr (Or.inr (Or.inr (Or.inr (Or.inr (Or.inr (Or.inr (Or.inr (Or.inr ⟨rfl, rfl⟩)))))))))))))))))))))))))) p27
  have t28 := p27 100 9 (fun h => absurd h.2 (by first | exact gz_ne rfl | decide))
  have t29 := p27 (t + 17) 8 (fun h => absurd h.2 (by first | exact gz_ne rfl | decide))
  have t30 := p27 t 11 (fun h => absurd h.2 (by first | exact gz_ne rfl | decide))
  have t31 := p27 (t + 17) 6 (fun h => absurd h.2 (by first | exact gz_ne rfl | decide))
  have t32 := p27 (t + 17) 7 (fun h => absurd h.2 (by first | exact gz_ne rfl | decide))
  have f33 := (gc_b_3_1 hI26 R_23)
  have KBD_I26 := gh_BD_fr KBD_I18 (p27 (t + 17) 8 (fun h => absurd h.2 (by first | exact gz_ne rfl | decide))) (p27 (t + 17) 9 (fun h => absurd h.2 (by first | exact gz_ne rfl | decide))) (fun k => p27 (t + 18) k (fun h => absurd h.1 N_t_18__23)) (fun k => p27 (t + 19) k (fun h => absurd h.1 N_t_19__23)) (fun k => p27 (t + 20) k (fun h => absurd h.1 N_t_20__23)) (fun k => p27 (t + 21) k (fun h => absurd h.1 N_t_21__23))
  show gv_X _ _ (36, [(3, .inl z17), (2, .inr (.inr (some t))), (0, .inr (.inr (some 0))), (1, .inl a1)], [], sh, gc_h sh I26 J19 A)
  refine gv_run 1 true hD (pcₚ := 37) (lvₚ := [(3, .inl z17), (2, .inr (.inr (some t))), (0, .inr (.inr (some 0))), (1, .inl a1)]) (stₚ := [.inl z17]) (hₚ := gc_h sh I26 J19 A) (C := (True ∧ True)) rfl ⟨trivial, trivial⟩ ?_
  clear N_23__t_18 N_23__t_19 N_23__t_20 N_23__t_21 N_23__t_23 N_23__t_24 N_100__t_17 N_100__t_18 N_100__t_19 N_100__t_20 N_100__t_21 N_100__t_23 N_100__t_24 N_t__t_18 N_t__t_19 N_t__t_20 N_t__t_21 N_t__t_23 N_t__t_24 N_23__t_22 N_100__t_22 N_t_17__113 N_t_17__23 N_t_17__107 N_t_17__108 N_t_17__109 N_t_17__110 N_t_17__111 N_t_17__112 N_t_17__t_22 N_t__113 N_t__107 N_t__108 N_t__109 N_t__110 N_t__111 N_t__112 N_t__t_22 N_t_18__100 N_t_18__113 N_t_18__23 N_t_18__106 N_t_18__107 N_t_18__108 N_t_18__109 N_t_18__110 N_t_18__111 N_t_18__112 N_t_18__t_22 N_t_19__100 N_t_19__113 N_t_19__23 N_t_19__106 N_t_19__107 N_t_19__108 N_t_19__109 N_t_19__110 N_t_19__111 N_t_19__112 N_t_19__t_22 N_t_20__100 N_t_20__113 N_t_20__23 N_t_20__106 N_t_20__107 N_t_20__108 N_t_20__109 N_t_20__110 N_t_20__111 N_t_20__112 N_t_20__t_22 N_t_21__100 N_t_21__113 N_t_21__23 N_t_21__106 N_t_21__107 N_t_21__108 N_t_21__109 N_t_21__110 N_t_21__111 N_t_21__112 N_t_21__t_22
  exact gv_iret hD rfl ⟨I26, J19, rfl, hI26, FI26, FJ19, ⟨_, rfl, by exact gz_m 92 (by omega), by exact gz_m 93 (by omega), by exact gz_m 94 (by omega), (gc_FB_fr q8.1 (fun k => ((p27 (t + 17 + 4) k (fun h => absurd h.1 (by exact gz_m 95 (by omega)))).trans ((g17 (t + 17 + 4) k).resolve_left (by exact gz_m 96 (by omega))))) (fun k => ((p27 (t + 17 + 3) k (fun h => absurd h.1 (by exact gz_m 97 (by omega)))).trans ((g17 (t + 17 + 3) k).resolve_left (by exact gz_m 98 (by omega)))))), by exact gz_m 99 (by omega), by exact gz_m 100 (by omega), KBD_I26⟩⟩
set_option maxHeartbeats 8000000 in
set_option maxRecDepth 100000 in
theorem d_X12_noteCandidate {ws0 : List Cond} {tb : String → gz_T} (hws : gc_Ws ws0) (htb : gc_tbs tb) (sh : gz_Sh) (ro : Nat → Nat) (I : gr_I) (J : gr_J) (A : gc_A) (hI : gc_Inv ro I)  (hb : gc_Base sh ro A)   : ∃ r hₚ, gz_Ev ws0 tb 2 (yX12_noteCandidate, cX12_noteCandidate, 2, none) [.inr (.inr (some 0))] sh (gc_h sh I J A) r sh hₚ 0 0 ∧ (∃ (Iₚ : gr_I) (Jₚ : gr_J), hₚ = gc_h sh Iₚ Jₚ A ∧ gc_Inv ro Iₚ ∧ (∀ q j : Nat, ((126 ≤ q ∧ q ≤ 141) ∨ q = 142 ∨ (q = 0 ∧ j = 15)) ∨ Iₚ q j = I q j) ∧ (∀ q j : Nat, (False) ∨ Jₚ q j = J q j) ∧ r = none) := by
  have FI : ∀ q j : Nat, ((126 ≤ q ∧ q ≤ 141) ∨ q = 142 ∨ (q = 0 ∧ j = 15)) ∨ I q j = I q j := fun _ _ => Or.inr rfl
  have FJ : ∀ q j : Nat, (False) ∨ J q j = J q j := fun _ _ => Or.inr rfl
  have A_0_13 : A 0 13 = some 125 := gc_bA_0_13 hb
  have A_0_14 : A 0 14 = some 142 := gc_bA_0_14 hb
  have A_0_4 : A 0 4 = some 35 := gc_bA_0_4 hb
  have A_35_0 : A 35 0 = some 36 := gc_bA_35_0 hb
  have B_0 : 0 < 1000000 := by decide
  have B_125 : 125 < 1000000 := by decide
  have B_142 : 142 < 1000000 := by decide
  have B_35 : 35 < 1000000 := by decide
  have B_36 : 36 < 1000000 := by decide
  have R_0 : ro 0 = 76 := gc_bR_0 hb
  have R_142 : ro 142 = 69 := gc_bR_142 hb
  have R_35 : ro 35 = 3 := gc_bR_35 hb
  have R_36 : ro 36 = 1 := gc_bR_36 hb
  have S_0 : sh[0]? = some (false, 12, 17) := gc_bS_0 hb
  have S_125 : sh[125]? = some (true, 6, 16) := gc_bS_125 hb
  have S_142 : sh[142]? = some (true, 1, 16) := gc_bS_142 hb
  have S_35 : sh[35]? = some (false, 9, 10) := gc_bS_35 hb
  have S_36 : sh[36]? = some (true, 0, 1000) := gc_bS_36 hb
  have hD : gv_D (gc_E12 ws0 tb 1 (yX12_noteCandidate, cX12_noteCandidate, 2, none) kX12_noteCandidate) := gq_of oX12_noteCandidate
  refine gc_ev12 (d := 1) (l := kX12_noteCandidate) (Po := fun r hₚ => (∃ (Iₚ : gr_I) (Jₚ : gr_J), hₚ = gc_h sh Iₚ Jₚ A ∧ gc_Inv ro Iₚ ∧ (∀ q j : Nat, ((126 ≤ q ∧ q ≤ 141) ∨ q = 142 ∨ (q = 0 ∧ j = 15)) ∨ Iₚ q j = I q j) ∧ (∀ q j : Nat, (False) ∨ Jₚ q j = J q j) ∧ r = none)) htb rfl (Nat.le_of_ble_eq_true rfl) ?_
  have f1 := (gc_b_76_15 hI R_0)
  have f2 := (gc_b_3_1 hI R_35)
  have L22 : gv_X (gc_E12 ws0 tb 1 (yX12_noteCandidate, cX12_noteCandidate, 2, none) kX12_noteCandidate) (gv_Q cX12_noteCandidate none sh (fun r hₚ => (∃ (Iₚ : gr_I) (Jₚ : gr_J), hₚ = gc_h sh Iₚ Jₚ A ∧ gc_Inv ro Iₚ ∧ (∀ q j : Nat, ((126 ≤ q ∧ q ≤ 141) ∨ q = 142 ∨ (q = 0 ∧ j = 15)) ∨ Iₚ q j = I q j) ∧ (∀ q j : Nat, (False) ∨ Jₚ q j = J q j) ∧ r = none))) (22, [], [], sh, gc_h sh I J A) := by
    have f4 := (gc_b_76_15 hI R_0)
    have f5 := (gc_b_3_1 hI R_35)
    exact gv_vret hD rfl ⟨I, J, rfl, hI, FI, FJ, rfl⟩
  have L25 : ∀ (n9 : Nat) (v1_6 : Int), (17 - v1_6).toNat < n9 → ((0 ≤ v1_6 ∧ v1_6 ≤ 16) ∧ (I 0 15 ≤ 15) ∧ (I 35 1 ≤ 200)) → gv_X (gc_E12 ws0 tb 1 (yX12_noteCandidate, cX12_noteCandidate, 2, none) kX12_noteCandidate) (gv_Q cX12_noteCandidate none sh (fun r hₚ => (∃ (Iₚ : gr_I) (Jₚ : gr_J), hₚ = gc_h sh Iₚ Jₚ A ∧ gc_Inv ro Iₚ ∧ (∀ q j : Nat, ((126 ≤ q ∧ q ≤ 141) ∨ q = 142 ∨ (q = 0 ∧ j = 15)) ∨ Iₚ q j = I q j) ∧ (∀ q j : Nat, (False) ∨ Jₚ q j = J q j) ∧ r = none))) (25, [(0, .inr (.inr (some 0))), (1, .inl v1_6)], [], sh, gc_h sh I J A) := by
    intro n9
    induction n9 with
    | zero => intro v1_6 hn; exact gz_m 0 (by omega)
    | succ n9 ih25 =>
      intro v1_6 hn m_6
      obtain ⟨hv1_6, e0_6, e1_6⟩ := m_6
      have f7 := (gc_b_76_15 hI R_0)
      have f8 := (gc_b_3_1 hI R_35)
      refine gv_run 2 true hD (pcₚ := 27) (lvₚ := [(0, .inr (.inr (some 0))), (1, .inl v1_6)]) (stₚ := [.inr (.inr (some 0)), .inl v1_6]) (hₚ := gc_h sh I J A) (C := ((True ∧ True) ∧ True)) rfl ⟨⟨trivial, trivial⟩, trivial⟩ ?_
      have f9 := (gc_b_76_15 hI R_0)
      refine gv_get hD rfl rfl S_0 ⟨by decide, B_0⟩ (gc_hI S_0 rfl) ?_
      show gv_X _ _ (30, [(0, .inr (.inr (some 0))), (1, .inl v1_6)], [.inl (I 0 15), .inl v1_6], sh, gc_h sh I J A)
      refine gv_icmp_ge (t := 62) hD rfl rfl ⟨⟨by exact gz_m 1 (by omega), by exact gz_m 2 (by omega)⟩, ⟨by exact gz_m 3 (by omega), by exact gz_m 4 (by omega)⟩⟩ (fun c10 => ?_) (fun c10 => ?_)
      · show gv_X _ _ (62, [(0, .inr (.inr (some 0))), (1, .inl v1_6)], [], sh, gc_h sh I J A)
        refine gv_run 1 true hD (pcₚ := 63) (lvₚ := [(0, .inr (.inr (some 0))), (1, .inl v1_6)]) (stₚ := [.inr (.inr (some 0))]) (hₚ := gc_h sh I J A) (C := (True ∧ True)) rfl ⟨trivial, trivial⟩ ?_
        refine gv_get hD rfl rfl S_0 ⟨by decide, B_0⟩ (gc_hA S_0 rfl A_0_4) ?_
        show gv_X _ _ (66, [(0, .inr (.inr (some 0))), (1, .inl v1_6)], [.inr (.inr (some 35))], sh, gc_h sh I J A)
        refine gv_get hD rfl rfl S_35 ⟨by decide, B_35⟩ (gc_hA S_35 rfl A_35_0) ?_
        show gv_X _ _ (69, [(0, .inr (.inr (some 0))), (1, .inl v1_6)], [.inr (.inr (some 36))], sh, gc_h sh I J A)
        refine gv_run 2 true hD (pcₚ := 71) (lvₚ := [(0, .inr (.inr (some 0))), (1, .inl v1_6)]) (stₚ := [.inr (.inr (some 0)), .inl 0, .inr (.inr (some 36))]) (hₚ := gc_h sh I J A) (C := ((True ∧ True) ∧ True)) rfl ⟨⟨trivial, trivial⟩, trivial⟩ ?_
        refine gv_get hD rfl rfl S_0 ⟨by decide, B_0⟩ (gc_hA S_0 rfl A_0_13) ?_
        show gv_X _ _ (74, [(0, .inr (.inr (some 0))), (1, .inl v1_6)], [.inr (.inr (some 125)), .inl 0, .inr (.inr (some 36))], sh, gc_h sh I J A)
        refine gv_run 1 true hD (pcₚ := 75) (lvₚ := [(0, .inr (.inr (some 0))), (1, .inl v1_6)]) (stₚ := [.inr (.inr (some 0)), .inr (.inr (some 125)), .inl 0, .inr (.inr (some 36))]) (hₚ := gc_h sh I J A) (C := (True ∧ True)) rfl ⟨trivial, trivial⟩ ?_
        have f11 := (gc_b_76_15 hI R_0)
        refine gv_get hD rfl rfl S_0 ⟨by decide, B_0⟩ (gc_hI S_0 rfl) ?_
        show gv_X _ _ (78, [(0, .inr (.inr (some 0))), (1, .inl v1_6)], [.inl (I 0 15), .inr (.inr (some 125)), .inl 0, .inr (.inr (some 36))], sh, gc_h sh I J A)
        obtain ⟨t12_, A_t12, S_t12, R_t12, B_t12, D_t12⟩ := gh_cand hb (Int.toNat (I 0 15)) (by exact gz_m 5 (by omega))
        refine gv_aald hD rfl S_125 ⟨by decide, by decide⟩ ⟨by decide, B_125⟩ ⟨by exact gz_m 6 (by omega), by exact gz_m 7 (by omega)⟩ ((gc_aA S_125 rfl).trans A_t12) ?_
        show gv_X _ _ (79, [(0, .inr (.inr (some 0))), (1, .inl v1_6)], [.inr (.inr (some t12_)), .inl 0, .inr (.inr (some 36))], sh, gc_h sh I J A)
        refine gv_run 2 true hD (pcₚ := 81) (lvₚ := [(0, .inr (.inr (some 0))), (1, .inl v1_6)]) (stₚ := [.inr (.inr (some 0)), .inl 0, .inr (.inr (some t12_)), .inl 0, .inr (.inr (some 36))]) (hₚ := gc_h sh I J A) (C := ((True ∧ True) ∧ True)) rfl ⟨⟨trivial, trivial⟩, trivial⟩ ?_
        refine gv_get hD rfl rfl S_0 ⟨by decide, B_0⟩ (gc_hA S_0 rfl A_0_4) ?_
        show gv_X _ _ (84, [(0, .inr (.inr (some 0))), (1, .inl v1_6)], [.inr (.inr (some 35)), .inl 0, .inr (.inr (some t12_)), .inl 0, .inr (.inr (some 36))], sh, gc_h sh I J A)
        have f13 := (gc_b_3_1 hI R_35)
        refine gv_get hD rfl rfl S_35 ⟨by decide, B_35⟩ (gc_hI S_35 rfl) ?_
        show gv_X _ _ (87, [(0, .inr (.inr (some 0))), (1, .inl v1_6)], [.inl (I 35 1), .inl 0, .inr (.inr (some t12_)), .inl 0, .inr (.inr (some 36))], sh, gc_h sh I J A)
        refine gv_copy hD rfl (gc_lC12_256 hws) (Nat.le_of_ble_eq_true rfl) ⟨B_36, B_t12⟩ S_36 S_t12 (by decide) ⟨by decide, by decide⟩ ⟨by exact gz_m 8 (by omega), by exact gz_m 9 (by omega), by exact gz_m 10 (by omega)⟩ (by exact gz_m 11 (by omega)) (by exact gz_m 12 (by omega)) (fun _ k _ => by rw [gc_iI S_36 rfl]; have h9 := (gc_b_1 hI R_36 (Int.toNat 0 + k)); exact ⟨by exact gz_m 13 (by omega), by exact gz_m 14 (by omega)⟩) ?_
        refine gc_cp hI S_36 S_t12 (by decide) (fun j hj => by have h9 := (gc_b_1 hI R_36 (Int.toNat 0 + j)); rw [R_t12]; exact ⟨by show (-128) ≤ _; exact gz_m 15 (by omega), by show _ ≤ 127; exact gz_m 16 (by omega)⟩) (fun I15 hI15 p14 q14 => ?_)
        have FI15 := gc_frp (W := fun q j => (126 ≤ q ∧ q ≤ 141) ∨ q = 142 ∨ (q = 0 ∧ j = 15)) (V := fun q j => q = t12_ ∧ Int.toNat 0 ≤ j ∧ j < Int.toNat 0 + Int.toNat (I 35 1)) FI (fun q j h => (show (126 ≤ q ∧ q ≤ 141) ∨ q = 142 ∨ (q = 0 ∧ j = 15) from by have := h.1; exact gz_m 17 (by omega))) p14
        have t17 := p14 0 15 (fun h => absurd h.1 (by exact gz_m 18 (by omega)))
        have t18 := p14 35 1 (fun h => absurd h.1 (by exact gz_m 19 (by omega)))
        have f19 := (gc_b_76_15 hI15 R_0)
        have f20 := (gc_b_3_1 hI15 R_35)
        show gv_X _ _ (90, [(0, .inr (.inr (some 0))), (1, .inl v1_6)], [], sh, gc_h sh I15 J A)
        refine gv_run 1 true hD (pcₚ := 91) (lvₚ := [(0, .inr (.inr (some 0))), (1, .inl v1_6)]) (stₚ := [.inr (.inr (some 0))]) (hₚ := gc_h sh I15 J A) (C := (True ∧ True)) rfl ⟨trivial, trivial⟩ ?_
        refine gv_get hD rfl rfl S_0 ⟨by decide, B_0⟩ (gc_hA S_0 rfl A_0_14) ?_
        show gv_X _ _ (94, [(0, .inr (.inr (some 0))), (1, .inl v1_6)], [.inr (.inr (some 142))], sh, gc_h sh I15 J A)
        refine gv_run 1 true hD (pcₚ := 95) (lvₚ := [(0, .inr (.inr (some 0))), (1, .inl v1_6)]) (stₚ := [.inr (.inr (some 0)), .inr (.inr (some 142))]) (hₚ := gc_h sh I15 J A) (C := (True ∧ True)) rfl ⟨trivial, trivial⟩ ?_
        have f21 := (gc_b_76_15 hI15 R_0)
        refine gv_get hD rfl rfl S_0 ⟨by decide, B_0⟩ (gc_hI S_0 rfl) ?_
        show gv_X _ _ (98, [(0, .inr (.inr (some 0))), (1, .inl v1_6)], [.inl (I15 0 15), .inr (.inr (some 142))], sh, gc_h sh I15 J A)
        refine gv_run 1 true hD (pcₚ := 99) (lvₚ := [(0, .inr (.inr (some 0))), (1, .inl v1_6)]) (stₚ := [.inr (.inr (some 0)), .inl (I15 0 15), .inr (.inr (some 142))]) (hₚ := gc_h sh I15 J A) (C := (True ∧ True)) rfl ⟨trivial, trivial⟩ ?_
        refine gv_get hD rfl rfl S_0 ⟨by decide, B_0⟩ (gc_hA S_0 rfl A_0_4) ?_
        show gv_X _ _ (102, [(0, .inr (.inr (some 0))), (1, .inl v1_6)], [.inr (.inr (some 35)), .inl (I15 0 15), .inr (.inr (some 142))], sh, gc_h sh I15 J A)
        have f22 := (gc_b_3_1 hI15 R_35)
        refine gv_get hD rfl rfl S_35 ⟨by decide, B_35⟩ (gc_hI S_35 rfl) ?_
        show gv_X _ _ (105, [(0, .inr (.inr (some 0))), (1, .inl v1_6)], [.inl (I15 35 1), .inl (I15 0 15), .inr (.inr (some 142))], sh, gc_h sh I15 J A)
        refine gv_iast hD rfl S_142 ⟨by decide, B_142⟩ ⟨by exact gz_m 20 (by omega), by exact gz_m 21 (by omega)⟩ ?_
        refine gc_st hI15 S_142 rfl R_142 (lo := 0) (hi := 200) rfl rfl (by exact gz_m 22 (by omega)) (by exact gz_m 23 (by omega)) (fun I23 hI23 q24 p24 => ?_)
        have FI23 := gc_frs (W := fun q j => (126 ≤ q ∧ q ≤ 141) ∨ q = 142 ∨ (q = 0 ∧ j = 15)) FI15 (Or.inr (Or.inl rfl)) p24
        have t25 := p24 0 15 (fun h => absurd h.1 (by first | exact gz_ne rfl | decide))
        have t26 := p24 35 1 (fun h => absurd h.1 (by first | exact gz_ne rfl | decide))
        show gv_X _ _ (106, [(0, .inr (.inr (some 0))), (1, .inl v1_6)], [], sh, gc_h sh I23 J A)
        refine gv_run 2 true hD (pcₚ := 108) (lvₚ := [(0, .inr (.inr (some 0))), (1, .inl v1_6)]) (stₚ := [.inr (.inr (some 0)), .inr (.inr (some 0))]) (hₚ := gc_h sh I23 J A) (C := ((True ∧ True) ∧ True)) rfl ⟨⟨trivial, trivial⟩, trivial⟩ ?_
        have f27 := (gc_b_76_15 hI23 R_0)
        refine gv_get hD rfl rfl S_0 ⟨by decide, B_0⟩ (gc_hI S_0 rfl) ?_
        show gv_X _ _ (111, [(0, .inr (.inr (some 0))), (1, .inl v1_6)], [.inl (I23 0 15), .inr (.inr (some 0))], sh, gc_h sh I23 J A)
        refine gv_run 2 true hD (pcₚ := 113) (lvₚ := [(0, .inr (.inr (some 0))), (1, .inl v1_6)]) (stₚ := [.inl ((I23 0 15) + 1), .inr (.inr (some 0))]) (hₚ := gc_h sh I23 J A) (C := ((True ∧ True) ∧ True)) rfl ⟨⟨trivial, trivial⟩, trivial⟩ ?_
        refine gv_put hD rfl rfl S_0 ⟨by decide, B_0⟩ rfl trivial ?_
        refine gc_st (k := 15) hI23 S_0 rfl R_0 (lo := 0) (hi := 16) rfl rfl (by exact gz_m 24 (by omega)) (by exact gz_m 25 (by omega)) (fun I28 hI28 q29 p29 => ?_)
        have FI28 := gc_frs (W := fun q j => (126 ≤ q ∧ q ≤ 141) ∨ q = 142 ∨ (q = 0 ∧ j = 15)) FI23 (Or.inr (Or.inr ⟨rfl, rfl⟩)) p29
        have t30 := p29 35 1 (fun h => absurd h.2 (by first | exact gz_ne rfl | decide))
        have f31 := (gc_b_76_15 hI28 R_0)
        show gv_X _ _ (116, [(0, .inr (.inr (some 0))), (1, .inl v1_6)], [], sh, gc_h sh I28 J A)
        exact gv_vret hD rfl ⟨I28, J, rfl, hI28, FI28, FJ, rfl⟩
      · show gv_X _ _ (33, [(0, .inr (.inr (some 0))), (1, .inl v1_6)], [], sh, gc_h sh I J A)
        refine gv_run 1 true hD (pcₚ := 34) (lvₚ := [(0, .inr (.inr (some 0))), (1, .inl v1_6)]) (stₚ := [.inr (.inr (some 0))]) (hₚ := gc_h sh I J A) (C := (True ∧ True)) rfl ⟨trivial, trivial⟩ ?_
        refine gv_get hD rfl rfl S_0 ⟨by decide, B_0⟩ (gc_hA S_0 rfl A_0_4) ?_
        show gv_X _ _ (37, [(0, .inr (.inr (some 0))), (1, .inl v1_6)], [.inr (.inr (some 35))], sh, gc_h sh I J A)
        refine gv_run 1 true hD (pcₚ := 38) (lvₚ := [(0, .inr (.inr (some 0))), (1, .inl v1_6)]) (stₚ := [.inr (.inr (some 0)), .inr (.inr (some 35))]) (hₚ := gc_h sh I J A) (C := (True ∧ True)) rfl ⟨trivial, trivial⟩ ?_
        refine gv_get hD rfl rfl S_0 ⟨by decide, B_0⟩ (gc_hA S_0 rfl A_0_13) ?_
        show gv_X _ _ (41, [(0, .inr (.inr (some 0))), (1, .inl v1_6)], [.inr (.inr (some 125)), .inr (.inr (some 35))], sh, gc_h sh I J A)
        refine gv_run 1 true hD (pcₚ := 42) (lvₚ := [(0, .inr (.inr (some 0))), (1, .inl v1_6)]) (stₚ := [.inl v1_6, .inr (.inr (some 125)), .inr (.inr (some 35))]) (hₚ := gc_h sh I J A) (C := (True ∧ True)) rfl ⟨trivial, trivial⟩ ?_
        obtain ⟨t32_, A_t32, S_t32, R_t32, B_t32, D_t32⟩ := gh_cand hb (Int.toNat v1_6) (by exact gz_m 26 (by omega))
        refine gv_aald hD rfl S_125 ⟨by decide, by decide⟩ ⟨by decide, B_125⟩ ⟨by exact gz_m 27 (by omega), by exact gz_m 28 (by omega)⟩ ((gc_aA S_125 rfl).trans A_t32) ?_
        show gv_X _ _ (43, [(0, .inr (.inr (some 0))), (1, .inl v1_6)], [.inr (.inr (some t32_)), .inr (.inr (some 35))], sh, gc_h sh I J A)
        refine gv_run 1 true hD (pcₚ := 44) (lvₚ := [(0, .inr (.inr (some 0))), (1, .inl v1_6)]) (stₚ := [.inr (.inr (some 0)), .inr (.inr (some t32_)), .inr (.inr (some 35))]) (hₚ := gc_h sh I J A) (C := (True ∧ True)) rfl ⟨trivial, trivial⟩ ?_
        refine gv_get hD rfl rfl S_0 ⟨by decide, B_0⟩ (gc_hA S_0 rfl A_0_14) ?_
        show gv_X _ _ (47, [(0, .inr (.inr (some 0))), (1, .inl v1_6)], [.inr (.inr (some 142)), .inr (.inr (some t32_)), .inr (.inr (some 35))], sh, gc_h sh I J A)
        refine gv_run 1 true hD (pcₚ := 48) (lvₚ := [(0, .inr (.inr (some 0))), (1, .inl v1_6)]) (stₚ := [.inl v1_6, .inr (.inr (some 142)), .inr (.inr (some t32_)), .inr (.inr (some 35))]) (hₚ := gc_h sh I J A) (C := (True ∧ True)) rfl ⟨trivial, trivial⟩ ?_
        have f33 := (gc_b_69 hI R_142 (Int.toNat v1_6))
        refine gv_iald hD rfl S_142 rfl ⟨by decide, B_142⟩ ⟨by exact gz_m 29 (by omega), by exact gz_m 30 (by omega)⟩ (gc_iI S_142 rfl) ?_
        show gv_X _ _ (49, [(0, .inr (.inr (some 0))), (1, .inl v1_6)], [.inl (I 142 (Int.toNat v1_6)), .inr (.inr (some t32_)), .inr (.inr (some 35))], sh, gc_h sh I J A)
        obtain ⟨r34, h34, E34, P34⟩ := d_X9_equalsBytes (ws0 := ws0) (tb := tb) hws htb sh ro I J A hI 35 200 t32_ ((I 142 (Int.toNat v1_6))) (gc_b35 hb) S_t32 R_t32 B_t32 (by decide)  ⟨by exact gz_m 31 (by omega), by exact gz_m 32 (by omega)⟩  
        obtain ⟨rfl, ⟨z34, rfl, q34⟩⟩ := P34
        refine gv_callV hD rfl (As := [.inr (.inr (some t32_)), .inl (I 142 (Int.toNat v1_6))]) (st := []) rfl B_35 S_35 rfl (gc_lV12 hws rfl) (Nat.le_of_ble_eq_true rfl) (gz_Ev_mono (d := 1) (by decide) E34) ?_
        show gv_X _ _ (52, [(0, .inr (.inr (some 0))), (1, .inl v1_6)], [.inl z34], sh, gc_h sh I J A)
        refine gv_if_eq (t := 56) hD rfl rfl ⟨by exact gz_m 33 (by omega), by exact gz_m 34 (by omega)⟩ (fun c35 => ?_) (fun c35 => ?_)
        · show gv_X _ _ (56, [(0, .inr (.inr (some 0))), (1, .inl v1_6)], [], sh, gc_h sh I J A)
          refine gv_run 2 true hD (pcₚ := 25) (lvₚ := [(1, .inl (v1_6 + 1)), (0, .inr (.inr (some 0)))]) (stₚ := []) (hₚ := gc_h sh I J A) (C := ((True ∧ True) ∧ True)) rfl ⟨⟨trivial, trivial⟩, trivial⟩ ?_
          refine gv_pick [1, 0] rfl ?_
          exact ih25 (v1_6 + 1) (by exact gz_m 35 (by omega)) (by exact gz_m 36 (by omega))
        · show gv_X _ _ (55, [(0, .inr (.inr (some 0))), (1, .inl v1_6)], [], sh, gc_h sh I J A)
          exact gv_vret hD rfl ⟨I, J, rfl, hI, FI, FJ, rfl⟩
  refine gv_run 1 true hD (pcₚ := 1) (lvₚ := [(0, .inr (.inr (some 0)))]) (stₚ := [.inr (.inr (some 0))]) (hₚ := gc_h sh I J A) (C := (True ∧ True)) rfl ⟨trivial, trivial⟩ ?_
  have f36 := (gc_b_76_15 hI R_0)
  refine gv_get hD rfl rfl S_0 ⟨by decide, B_0⟩ (gc_hI S_0 rfl) ?_
  show gv_X _ _ (4, [(0, .inr (.inr (some 0)))], [.inl (I 0 15)], sh, gc_h sh I J A)
  refine gv_run 1 true hD (pcₚ := 6) (lvₚ := [(0, .inr (.inr (some 0)))]) (stₚ := [.inl 16, .inl (I 0 15)]) (hₚ := gc_h sh I J A) (C := (True ∧ True)) rfl ⟨trivial, trivial⟩ ?_
  refine gv_icmp_ge (t := 22) hD rfl rfl ⟨⟨by exact gz_m 37 (by omega), by exact gz_m 38 (by omega)⟩, ⟨by exact gz_m 39 (by omega), by exact gz_m 40 (by omega)⟩⟩ (fun c37 => ?_) (fun c37 => ?_)
  · show gv_X _ _ (22, [(0, .inr (.inr (some 0)))], [], sh, gc_h sh I J A)
    refine gv_pick [] rfl ?_
    exact L22 
  · show gv_X _ _ (9, [(0, .inr (.inr (some 0)))], [], sh, gc_h sh I J A)
    refine gv_run 1 true hD (pcₚ := 10) (lvₚ := [(0, .inr (.inr (some 0)))]) (stₚ := [.inr (.inr (some 0))]) (hₚ := gc_h sh I J A) (C := (True ∧ True)) rfl ⟨trivial, trivial⟩ ?_
    refine gv_get hD rfl rfl S_0 ⟨by decide, B_0⟩ (gc_hA S_0 rfl A_0_4) ?_
    show gv_X _ _ (13, [(0, .inr (.inr (some 0)))], [.inr (.inr (some 35))], sh, gc_h sh I J A)
    have f38 := (gc_b_3_1 hI R_35)
    refine gv_get hD rfl rfl S_35 ⟨by decide, B_35⟩ (gc_hI S_35 rfl) ?_
    show gv_X _ _ (16, [(0, .inr (.inr (some 0)))], [.inl (I 35 1)], sh, gc_h sh I J A)
    refine gv_run 1 true hD (pcₚ := 19) (lvₚ := [(0, .inr (.inr (some 0)))]) (stₚ := [.inl 200, .inl (I 35 1)]) (hₚ := gc_h sh I J A) (C := (True ∧ True)) rfl ⟨trivial, trivial⟩ ?_
    refine gv_icmp_le (t := 23) hD rfl rfl ⟨⟨by exact gz_m 41 (by omega), by exact gz_m 42 (by omega)⟩, ⟨by exact gz_m 43 (by omega), by exact gz_m 44 (by omega)⟩⟩ (fun c39 => ?_) (fun c39 => ?_)
    · show gv_X _ _ (23, [(0, .inr (.inr (some 0)))], [], sh, gc_h sh I J A)
      refine gv_run 2 true hD (pcₚ := 25) (lvₚ := [(1, .inl 0), (0, .inr (.inr (some 0)))]) (stₚ := []) (hₚ := gc_h sh I J A) (C := ((True ∧ True) ∧ True)) rfl ⟨⟨trivial, trivial⟩, trivial⟩ ?_
      refine gv_pick [1, 0] rfl ?_
      exact L25 _ 0 (Nat.lt_succ_self _) (by exact gz_m 45 (by omega))
    · show gv_X _ _ (22, [(0, .inr (.inr (some 0)))], [], sh, gc_h sh I J A)
      refine gv_pick [] rfl ?_
      exact L22 
