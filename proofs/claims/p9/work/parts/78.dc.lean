def gc_sl (A : gc_A) (I : gr_I) (t k : Nat) : Int := if 0 ≤ I 54 k then 0 else match A (t + 16) (Int.toNat (-1 - I 54 k)) with
  | some q => I q 8
  | none => 0
theorem gc_sl_0 {A : gc_A} {I : gr_I} {t k : Nat} (h : 0 ≤ I 54 k) : gc_sl A I t k = 0 := by
  unfold gc_sl
  rw [if_pos h]
theorem gc_sl_1 {A : gc_A} {I : gr_I} {t k q : Nat} (h : I 54 k < 0) (hq : A (t + 16) (Int.toNat (-1 - I 54 k)) = some q) : gc_sl A I t k = I q 8 := by
  unfold gc_sl
  rw [if_neg (by omega), hq]
set_option maxHeartbeats 8000000 in
set_option maxRecDepth 100000 in
theorem d_X5_close {ws0 : List Cond} {tb : String → gz_T} (hws : gc_Ws ws0) (htb : gc_tbs tb) (sh : gz_Sh) (ro : Nat → Nat) (I : gr_I) (J : gr_J) (A : gc_A) (hI : gc_Inv ro I)  (hb : gc_Base sh ro A)   : ∃ r hₚ, gz_Ev ws0 tb 1 (yX5_close, cX5_close, 1, none) [.inr (.inr (some 61))] sh (gc_h sh I J A) r sh hₚ 0 0 ∧ (∃ (Iₚ : gr_I) (Jₚ : gr_J), hₚ = gc_h sh Iₚ Jₚ A ∧ gc_Inv ro Iₚ ∧ (∀ q j : Nat, ((q = 61 ∧ j = 3) ∨ (q = 61 ∧ j = 4) ∨ (q = 61 ∧ j = 15)) ∨ Iₚ q j = I q j) ∧ (∀ q j : Nat, (False) ∨ Jₚ q j = J q j) ∧ r = none ∧ (Iₚ 61 3 = 0) ∧ (Iₚ 61 15 = 0)) := by
  have FI : ∀ q j : Nat, ((q = 61 ∧ j = 3) ∨ (q = 61 ∧ j = 4) ∨ (q = 61 ∧ j = 15)) ∨ I q j = I q j := fun _ _ => Or.inr rfl
  have FJ : ∀ q j : Nat, (False) ∨ J q j = J q j := fun _ _ => Or.inr rfl
  have B_61 := gz_hi (show 61 < 1000000 from by decide)
  have R_61 := gz_hi (show ro 61 = 72 from gc_bR_61 hb)
  have S_61 : sh[61]? = some (false, 5, 19) := gc_bS_61 hb
  have hD : gv_D (gc_E5 ws0 tb 0 (yX5_close, cX5_close, 1, none) kX5_close) := gq_of oX5_close
  refine gc_ev5 (d := 0) (l := kX5_close) (Po := fun r hₚ => (∃ (Iₚ : gr_I) (Jₚ : gr_J), hₚ = gc_h sh Iₚ Jₚ A ∧ gc_Inv ro Iₚ ∧ (∀ q j : Nat, ((q = 61 ∧ j = 3) ∨ (q = 61 ∧ j = 4) ∨ (q = 61 ∧ j = 15)) ∨ Iₚ q j = I q j) ∧ (∀ q j : Nat, (False) ∨ Jₚ q j = J q j) ∧ r = none ∧ (Iₚ 61 3 = 0) ∧ (Iₚ 61 15 = 0))) htb rfl (Nat.le_of_ble_eq_true rfl) ?_
  refine gv_run 2 true hD (pcₚ := 2) (lvₚ := [(0, .inr (.inr (some 61)))]) (stₚ := [.inl 0, .inr (.inr (some 61))]) (hₚ := gc_h sh I J A) (C := ((True ∧ True) ∧ True)) rfl ⟨⟨trivial, trivial⟩, trivial⟩ ?_
  refine gv_put hD rfl rfl S_61 ⟨by decide, (gz_sh B_61)⟩ rfl (by (/-0-/first | omega | (simp only [gz_hd] at *; omega))) ?_
  refine gc_st (k := 3) hI S_61 rfl (gz_sh R_61) (lo := 0) (hi := 1) rfl rfl (by (/-1-/first | omega | (simp only [gz_hd] at *; omega))) (by (/-2-/first | omega | (simp only [gz_hd] at *; omega))) (fun I4 hI4 q5 p5 => ?_)
  have FI4 := gc_frs (W := fun q j => (q = 61 ∧ j = 3) ∨ (q = 61 ∧ j = 4) ∨ (q = 61 ∧ j = 15)) FI (Or.inl ⟨rfl, rfl⟩) p5
  show gv_X _ _ (5, [(0, .inr (.inr (some 61)))], [], sh, gc_h sh I4 J A)
  refine gv_run 2 true hD (pcₚ := 7) (lvₚ := [(0, .inr (.inr (some 61)))]) (stₚ := [.inl 0, .inr (.inr (some 61))]) (hₚ := gc_h sh I4 J A) (C := ((True ∧ True) ∧ True)) rfl ⟨⟨trivial, trivial⟩, trivial⟩ ?_
  refine gv_put hD rfl rfl S_61 ⟨by decide, (gz_sh B_61)⟩ rfl (by (/-3-/first | omega | (simp only [gz_hd] at *; omega))) ?_
  refine gc_st (k := 4) hI4 S_61 rfl (gz_sh R_61) (lo := 0) (hi := 1) rfl rfl (by (/-4-/first | omega | (simp only [gz_hd] at *; omega))) (by (/-5-/first | omega | (simp only [gz_hd] at *; omega))) (fun I9 hI9 q10 p10 => ?_)
  have FI9 := gc_frs (W := fun q j => (q = 61 ∧ j = 3) ∨ (q = 61 ∧ j = 4) ∨ (q = 61 ∧ j = 15)) FI4 (Or.inr (Or.inl ⟨rfl, rfl⟩)) p10
  have t11 := gz_hi (p10 61 3 (fun h => absurd h.2 (by first | exact gz_ne rfl | decide)))
  show gv_X _ _ (10, [(0, .inr (.inr (some 61)))], [], sh, gc_h sh I9 J A)
  refine gv_run 2 true hD (pcₚ := 12) (lvₚ := [(0, .inr (.inr (some 61)))]) (stₚ := [.inl 0, .inr (.inr (some 61))]) (hₚ := gc_h sh I9 J A) (C := ((True ∧ True) ∧ True)) rfl ⟨⟨trivial, trivial⟩, trivial⟩ ?_
  refine gv_put hD rfl rfl S_61 ⟨by decide, (gz_sh B_61)⟩ rfl trivial ?_
  refine gc_st (k := 15) hI9 S_61 rfl (gz_sh R_61) (lo := 0) (hi := 16) rfl rfl (by (/-6-/first | omega | (simp only [gz_hd] at *; omega))) (by (/-7-/first | omega | (simp only [gz_hd] at *; omega))) (fun I14 hI14 q15 p15 => ?_)
  have FI14 := gc_frs (W := fun q j => (q = 61 ∧ j = 3) ∨ (q = 61 ∧ j = 4) ∨ (q = 61 ∧ j = 15)) FI9 (Or.inr (Or.inr ⟨rfl, rfl⟩)) p15
  have t16 := gz_hi (p15 61 3 (fun h => absurd h.2 (by first | exact gz_ne rfl | decide)))
  show gv_X _ _ (15, [(0, .inr (.inr (some 61)))], [], sh, gc_h sh I14 J A)
  exact gv_vret hD rfl ⟨I14, J, rfl, hI14, FI14, FJ, ⟨rfl, by (/-8-/first | (and_intros; (have o1 := gz_sh t11; have o2 := gz_sh t16; omega); (omega)) | (simp only [gz_hd] at *; omega))⟩⟩
set_option maxHeartbeats 8000000 in
set_option maxRecDepth 100000 in
theorem d_X5_open {ws0 : List Cond} {tb : String → gz_T} (hws : gc_Ws ws0) (htb : gc_tbs tb) (sh : gz_Sh) (ro : Nat → Nat) (I : gr_I) (J : gr_J) (A : gc_A) (hI : gc_Inv ro I) (a1 : Nat) (hb : gc_Base sh ro A) (h_a1 : gc_isTongue sh ro A a1) (G_a1 : 144 ≤ a1)   : ∃ r hₚ, gz_Ev ws0 tb 1 (yX5_open, cX5_open, 3, none) [.inr (.inr (some 61)), .inr (.inr (some a1))] sh (gc_h sh I J A) r sh hₚ 0 0 ∧ (∃ (Iₚ : gr_I) (Jₚ : gr_J), hₚ = gc_h sh Iₚ Jₚ A ∧ gc_Inv ro Iₚ ∧ (∀ q j : Nat, ((q = 61 ∧ j = 2) ∨ (q = 61 ∧ j = 3) ∨ (q = 61 ∧ j = 4) ∨ q = 62) ∨ Iₚ q j = I q j) ∧ (∀ q j : Nat, (False) ∨ Jₚ q j = J q j) ∧ r = none ∧ (Iₚ 61 3 = 1) ∧ (Iₚ 61 2 = (a1 : Int)) ∧ (Iₚ 61 4 = 0)) := by
  have FI : ∀ q j : Nat, ((q = 61 ∧ j = 2) ∨ (q = 61 ∧ j = 3) ∨ (q = 61 ∧ j = 4) ∨ q = 62) ∨ I q j = I q j := fun _ _ => Or.inr rfl
  have FJ : ∀ q j : Nat, (False) ∨ J q j = J q j := fun _ _ => Or.inr rfl
  have A_61_5 : A 61 5 = some 62 := gc_bA_61_5 hb
  have B_61 := gz_hi (show 61 < 1000000 from by decide)
  have B_62 := gz_hi (show 62 < 1000000 from by decide)
  have R_61 := gz_hi (show ro 61 = 72 from gc_bR_61 hb)
  have R_62 := gz_hi (show ro 62 = 2 from gc_bR_62 hb)
  have S_61 : sh[61]? = some (false, 5, 19) := gc_bS_61 hb
  have S_62 : sh[62]? = some (true, 3, 96) := gc_bS_62 hb
  obtain ⟨S_a1, R_a1, B_a1, A_a1_0, h_a1_1, A_a1_1, h_a1_3, A_a1_2, S_a1_5, R_a1_5, B_a1_5, A_a1_3, S_a1_6, R_a1_6, B_a1_6, A_a1_4, h_a1_7, A_a1_5, S_a1_9, R_a1_9, B_a1_9, A_a1_7, S_a1_10, R_a1_10, B_a1_10, A_a1_8, h_a1_11, A_a1_9, S_a1_13, R_a1_13, B_a1_13, A_a1_10, S_a1_14, R_a1_14, B_a1_14, A_a1_12, S_a1_15, R_a1_15, B_a1_15, A_a1_14, S_a1_16, R_a1_16, B_a1_16, A_a1_15, h_a1_17⟩ := id h_a1
  replace R_a1 := gz_hi R_a1
  replace B_a1 := gz_hi B_a1
  replace R_a1_5 := gz_hi R_a1_5
  replace B_a1_5 := gz_hi B_a1_5
  replace R_a1_6 := gz_hi R_a1_6
  replace B_a1_6 := gz_hi B_a1_6
  replace R_a1_9 := gz_hi R_a1_9
  replace B_a1_9 := gz_hi B_a1_9
  replace R_a1_10 := gz_hi R_a1_10
  replace B_a1_10 := gz_hi B_a1_10
  replace R_a1_13 := gz_hi R_a1_13
  replace B_a1_13 := gz_hi B_a1_13
  replace R_a1_14 := gz_hi R_a1_14
  replace B_a1_14 := gz_hi B_a1_14
  replace R_a1_15 := gz_hi R_a1_15
  replace B_a1_15 := gz_hi B_a1_15
  replace R_a1_16 := gz_hi R_a1_16
  replace B_a1_16 := gz_hi B_a1_16
  obtain ⟨S_a1_1, R_a1_1, B_a1_1, A_a1_1_0, S_a1_1_1, R_a1_1_1, B_a1_1_1, Q0_a1_1, Q1_a1_1, Q2_a1_1⟩ := id h_a1_1
  replace R_a1_1 := gz_hi R_a1_1
  replace B_a1_1 := gz_hi B_a1_1
  replace R_a1_1_1 := gz_hi R_a1_1_1
  replace B_a1_1_1 := gz_hi B_a1_1_1
  obtain ⟨S_a1_3, R_a1_3, B_a1_3, A_a1_3_0, S_a1_3_1, R_a1_3_1, B_a1_3_1, Q0_a1_3, Q1_a1_3, Q2_a1_3⟩ := id h_a1_3
  replace R_a1_3 := gz_hi R_a1_3
  replace B_a1_3 := gz_hi B_a1_3
  replace R_a1_3_1 := gz_hi R_a1_3_1
  replace B_a1_3_1 := gz_hi B_a1_3_1
  obtain ⟨S_a1_7, R_a1_7, B_a1_7, A_a1_7_0, S_a1_7_1, R_a1_7_1, B_a1_7_1, Q0_a1_7, Q1_a1_7, Q2_a1_7⟩ := id h_a1_7
  replace R_a1_7 := gz_hi R_a1_7
  replace B_a1_7 := gz_hi B_a1_7
  replace R_a1_7_1 := gz_hi R_a1_7_1
  replace B_a1_7_1 := gz_hi B_a1_7_1
  obtain ⟨S_a1_11, R_a1_11, B_a1_11, A_a1_11_0, S_a1_11_1, R_a1_11_1, B_a1_11_1, Q0_a1_11, Q1_a1_11, Q2_a1_11⟩ := id h_a1_11
  replace R_a1_11 := gz_hi R_a1_11
  replace B_a1_11 := gz_hi B_a1_11
  replace R_a1_11_1 := gz_hi R_a1_11_1
  replace B_a1_11_1 := gz_hi B_a1_11_1
  obtain ⟨S_a1_17, R_a1_17, B_a1_17, A_a1_17_0, S_20, R_20, B_20, A_a1_17_1, S_a1_17_1, R_a1_17_1, B_a1_17_1, A_a1_17_2, S_a1_17_2, R_a1_17_2, B_a1_17_2, A_a1_17_3, S_a1_17_3, R_a1_17_3, B_a1_17_3, A_a1_17_4, S_a1_17_4, R_a1_17_4, B_a1_17_4, A_a1_17_5, S_a1_17_5, R_a1_17_5, B_a1_17_5, S_a1_17_6, R_a1_17_6, B_a1_17_6, S_a1_17_7, R_a1_17_7, B_a1_17_7⟩ := id h_a1_17
  replace R_a1_17 := gz_hi R_a1_17
  replace B_a1_17 := gz_hi B_a1_17
  replace R_20 := gz_hi R_20
  replace B_20 := gz_hi B_20
  replace R_a1_17_1 := gz_hi R_a1_17_1
  replace B_a1_17_1 := gz_hi B_a1_17_1
  replace R_a1_17_2 := gz_hi R_a1_17_2
  replace B_a1_17_2 := gz_hi B_a1_17_2
  replace R_a1_17_3 := gz_hi R_a1_17_3
  replace B_a1_17_3 := gz_hi B_a1_17_3
  replace R_a1_17_4 := gz_hi R_a1_17_4
  replace B_a1_17_4 := gz_hi B_a1_17_4
  replace R_a1_17_5 := gz_hi R_a1_17_5
  replace B_a1_17_5 := gz_hi B_a1_17_5
  replace R_a1_17_6 := gz_hi R_a1_17_6
  replace B_a1_17_6 := gz_hi B_a1_17_6
  replace R_a1_17_7 := gz_hi R_a1_17_7
  replace B_a1_17_7 := gz_hi B_a1_17_7
  have hD : gv_D (gc_E5 ws0 tb 0 (yX5_open, cX5_open, 3, none) kX5_open) := gq_of oX5_open
  refine gc_ev5 (d := 0) (l := kX5_open) (Po := fun r hₚ => (∃ (Iₚ : gr_I) (Jₚ : gr_J), hₚ = gc_h sh Iₚ Jₚ A ∧ gc_Inv ro Iₚ ∧ (∀ q j : Nat, ((q = 61 ∧ j = 2) ∨ (q = 61 ∧ j = 3) ∨ (q = 61 ∧ j = 4) ∨ q = 62) ∨ Iₚ q j = I q j) ∧ (∀ q j : Nat, (False) ∨ Jₚ q j = J q j) ∧ r = none ∧ (Iₚ 61 3 = 1) ∧ (Iₚ 61 2 = (a1 : Int)) ∧ (Iₚ 61 4 = 0))) htb rfl (Nat.le_of_ble_eq_true rfl) ?_
  have L17 : ∀ (n9 : Nat) (I4 : gr_I) (J5 : gr_J) (v2_6 : Int), (97 - v2_6).toNat < n9 → gc_Inv ro I4 → (∀ q j : Nat, ((q = 61 ∧ j = 2) ∨ (q = 61 ∧ j = 3) ∨ (q = 61 ∧ j = 4) ∨ q = 62) ∨ I4 q j = I q j) → (∀ q j : Nat, (False) ∨ J5 q j = J q j) → ((0 ≤ v2_6 ∧ v2_6 ≤ 96) ∧ (I4 61 3 = 1) ∧ (I4 61 2 = (a1 : Int)) ∧ (I4 61 4 = 0)) → gv_X (gc_E5 ws0 tb 0 (yX5_open, cX5_open, 3, none) kX5_open) (gv_Q cX5_open none sh (fun r hₚ => (∃ (Iₚ : gr_I) (Jₚ : gr_J), hₚ = gc_h sh Iₚ Jₚ A ∧ gc_Inv ro Iₚ ∧ (∀ q j : Nat, ((q = 61 ∧ j = 2) ∨ (q = 61 ∧ j = 3) ∨ (q = 61 ∧ j = 4) ∨ q = 62) ∨ Iₚ q j = I q j) ∧ (∀ q j : Nat, (False) ∨ Jₚ q j = J q j) ∧ r = none ∧ (Iₚ 61 3 = 1) ∧ (Iₚ 61 2 = (a1 : Int)) ∧ (Iₚ 61 4 = 0)))) (17, [(0, .inr (.inr (some 61))), (2, .inl v2_6)], [], sh, gc_h sh I4 J5 A) := by
    intro n9
    induction n9 with
    | zero => intro I4 J5 v2_6 hn; (/-0-/first | omega | (simp only [gz_hd] at *; omega))
    | succ n9 ih17 =>
      intro I4 J5 v2_6 hn hI4 FI4 FJ5 m_6
      obtain ⟨hv2_6, e0_6, e1_6, e2_6⟩ := gz_h4 m_6
      refine gv_run 2 true hD (pcₚ := 20) (lvₚ := [(0, .inr (.inr (some 61))), (2, .inl v2_6)]) (stₚ := [.inl 96, .inl v2_6]) (hₚ := gc_h sh I4 J5 A) (C := ((True ∧ True) ∧ True)) rfl ⟨⟨trivial, trivial⟩, trivial⟩ ?_
      refine gv_icmp_ge (t := 36) hD rfl rfl ⟨⟨by (/-1-/first | (have o1 := gz_sh hv2_6; omega) | (simp only [gz_hd] at *; omega)), by (/-2-/first | (have o1 := gz_sh hv2_6; omega) | (simp only [gz_hd] at *; omega))⟩, ⟨by (/-3-/first | omega | (simp only [gz_hd] at *; omega)), by (/-4-/first | omega | (simp only [gz_hd] at *; omega))⟩⟩ (fun c10 => ?_) (fun c10 => ?_)
      · show gv_X _ _ (36, [(0, .inr (.inr (some 61))), (2, .inl v2_6)], [], sh, gc_h sh I4 J5 A)
        exact gv_vret hD rfl ⟨I4, J5, rfl, hI4, FI4, FJ5, ⟨rfl, by (/-5-/first | (and_intros; (have o1 := gz_sh e0_6; omega); (have o1 := gz_sh e1_6; omega); (have o1 := gz_sh e2_6; omega)) | (simp only [gz_hd] at *; omega))⟩⟩
      · show gv_X _ _ (23, [(0, .inr (.inr (some 61))), (2, .inl v2_6)], [], sh, gc_h sh I4 J5 A)
        refine gv_run 1 true hD (pcₚ := 24) (lvₚ := [(0, .inr (.inr (some 61))), (2, .inl v2_6)]) (stₚ := [.inr (.inr (some 61))]) (hₚ := gc_h sh I4 J5 A) (C := (True ∧ True)) rfl ⟨trivial, trivial⟩ ?_
        refine gv_get hD rfl rfl S_61 ⟨by decide, (gz_sh B_61)⟩ (gc_hA S_61 rfl A_61_5) ?_
        show gv_X _ _ (27, [(0, .inr (.inr (some 61))), (2, .inl v2_6)], [.inr (.inr (some 62))], sh, gc_h sh I4 J5 A)
        refine gv_run 2 true hD (pcₚ := 29) (lvₚ := [(0, .inr (.inr (some 61))), (2, .inl v2_6)]) (stₚ := [.inl 0, .inl v2_6, .inr (.inr (some 62))]) (hₚ := gc_h sh I4 J5 A) (C := ((True ∧ True) ∧ True)) rfl ⟨⟨trivial, trivial⟩, trivial⟩ ?_
        have f11 := gz_hi (gw_nar_boolean (x := 0))
        refine gv_zast hD rfl S_62 ⟨by decide, (gz_sh B_62)⟩ ⟨by (/-6-/first | (have o1 := gz_sh hv2_6; omega) | (simp only [gz_hd] at *; omega)), by (/-7-/first | omega | (simp only [gz_hd] at *; omega))⟩ ?_
        refine gc_st hI4 S_62 rfl (gz_sh R_62) (lo := 0) (hi := 1) rfl rfl (by (/-8-/first | (have o1 := gz_sh f11; omega) | (simp only [gz_hd] at *; omega))) (by (/-9-/first | (have o1 := gz_sh f11; omega) | (simp only [gz_hd] at *; omega))) (fun I12 hI12 q13 p13 => ?_)
        have FI12 := gc_frs (W := fun q j => (q = 61 ∧ j = 2) ∨ (q = 61 ∧ j = 3) ∨ (q = 61 ∧ j = 4) ∨ q = 62) FI4 (Or.inr (Or.inr (Or.inr rfl))) p13
        have t14 := gz_hi (p13 61 3 (fun h => absurd h.1 (by first | exact gz_ne rfl | decide)))
        have t15 := gz_hi (p13 61 4 (fun h => absurd h.1 (by first | exact gz_ne rfl | decide)))
        have t16 := gz_hi (p13 61 2 (fun h => absurd h.1 (by first | exact gz_ne rfl | decide)))
        show gv_X _ _ (30, [(0, .inr (.inr (some 61))), (2, .inl v2_6)], [], sh, gc_h sh I12 J5 A)
        refine gv_run 2 true hD (pcₚ := 17) (lvₚ := [(2, .inl (v2_6 + 1)), (0, .inr (.inr (some 61)))]) (stₚ := []) (hₚ := gc_h sh I12 J5 A) (C := ((True ∧ True) ∧ True)) rfl ⟨⟨trivial, trivial⟩, trivial⟩ ?_
        refine gv_pick [1, 0] rfl ?_
        exact ih17 I12 J5 (v2_6 + 1) (by (/-10-/first | (have o1 := gz_sh hv2_6; omega) | (simp only [gz_hd] at *; omega))) hI12 FI12 FJ5 (by (/-11-/first | (and_intros; (have o1 := gz_sh hv2_6; omega); (omega); (have o1 := gz_sh e0_6; have o2 := gz_sh t14; omega); (have o1 := gz_sh e1_6; have o2 := gz_sh t16; omega); (have o1 := gz_sh e2_6; have o2 := gz_sh t15; omega)) | (simp only [gz_hd] at *; omega)))
  refine gv_run 2 true hD (pcₚ := 2) (lvₚ := [(0, .inr (.inr (some 61))), (1, .inr (.inr (some a1)))]) (stₚ := [.inr (.inr (some a1)), .inr (.inr (some 61))]) (hₚ := gc_h sh I J A) (C := ((True ∧ True) ∧ True)) rfl ⟨⟨trivial, trivial⟩, trivial⟩ ?_
  refine gv_put hD rfl rfl S_61 ⟨by decide, (gz_sh B_61)⟩ rfl trivial ?_
  refine gc_st5 hI S_61 rfl (gz_sh R_61) (lo := -1) (hi := 999999) rfl rfl (by (/-12-/first | omega | (simp only [gz_hd] at *; omega))) (by (/-13-/first | (have o1 := gz_sh B_a1_17_7; omega) | (simp only [gz_hd] at *; omega))) (fun I17 hI17 q18 p18 => ?_)
  have FI17 := gc_frs (W := fun q j => (q = 61 ∧ j = 2) ∨ (q = 61 ∧ j = 3) ∨ (q = 61 ∧ j = 4) ∨ q = 62) FI (Or.inl ⟨rfl, rfl⟩) p18
  show gv_X _ _ (5, [(0, .inr (.inr (some 61))), (1, .inr (.inr (some a1)))], [], sh, gc_h sh I17 J A)
  refine gv_run 2 true hD (pcₚ := 7) (lvₚ := [(0, .inr (.inr (some 61))), (1, .inr (.inr (some a1)))]) (stₚ := [.inl 1, .inr (.inr (some 61))]) (hₚ := gc_h sh I17 J A) (C := ((True ∧ True) ∧ True)) rfl ⟨⟨trivial, trivial⟩, trivial⟩ ?_
  refine gv_put hD rfl rfl S_61 ⟨by decide, (gz_sh B_61)⟩ rfl (by (/-14-/first | omega | (simp only [gz_hd] at *; omega))) ?_
  refine gc_st (k := 3) hI17 S_61 rfl (gz_sh R_61) (lo := 0) (hi := 1) rfl rfl (by (/-15-/first | omega | (simp only [gz_hd] at *; omega))) (by (/-16-/first | omega | (simp only [gz_hd] at *; omega))) (fun I22 hI22 q23 p23 => ?_)
  have FI22 := gc_frs (W := fun q j => (q = 61 ∧ j = 2) ∨ (q = 61 ∧ j = 3) ∨ (q = 61 ∧ j = 4) ∨ q = 62) FI17 (Or.inr (Or.inl ⟨rfl, rfl⟩)) p23
  have t25 := gz_hi (p23 61 2 (fun h => absurd h.2 (by first | exact gz_ne rfl | decide)))
  show gv_X _ _ (10, [(0, .inr (.inr (some 61))), (1, .inr (.inr (some a1)))], [], sh, gc_h sh I22 J A)
  refine gv_run 2 true hD (pcₚ := 12) (lvₚ := [(0, .inr (.inr (some 61))), (1, .inr (.inr (some a1)))]) (stₚ := [.inl 0, .inr (.inr (some 61))]) (hₚ := gc_h sh I22 J A) (C := ((True ∧ True) ∧ True)) rfl ⟨⟨trivial, trivial⟩, trivial⟩ ?_
  refine gv_put hD rfl rfl S_61 ⟨by decide, (gz_sh B_61)⟩ rfl (by (/-17-/first | omega | (simp only [gz_hd] at *; omega))) ?_
  refine gc_st (k := 4) hI22 S_61 rfl (gz_sh R_61) (lo := 0) (hi := 1) rfl rfl (by (/-18-/first | omega | (simp only [gz_hd] at *; omega))) (by (/-19-/first | omega | (simp only [gz_hd] at *; omega))) (fun I27 hI27 q28 p28 => ?_)
  have FI27 := gc_frs (W := fun q j => (q = 61 ∧ j = 2) ∨ (q = 61 ∧ j = 3) ∨ (q = 61 ∧ j = 4) ∨ q = 62) FI22 (Or.inr (Or.inr (Or.inl ⟨rfl, rfl⟩))) p28
  have t29 := gz_hi (p28 61 3 (fun h => absurd h.2 (by first | exact gz_ne rfl | decide)))
  have t30 := gz_hi (p28 61 2 (fun h => absurd h.2 (by first | exact gz_ne rfl | decide)))
  show gv_X _ _ (15, [(0, .inr (.inr (some 61))), (1, .inr (.inr (some a1)))], [], sh, gc_h sh I27 J A)
  refine gv_run 2 true hD (pcₚ := 17) (lvₚ := [(2, .inl 0), (0, .inr (.inr (some 61))), (1, .inr (.inr (some a1)))]) (stₚ := []) (hₚ := gc_h sh I27 J A) (C := ((True ∧ True) ∧ True)) rfl ⟨⟨trivial, trivial⟩, trivial⟩ ?_
  refine gv_pick [1, 0] rfl ?_
  exact L17 _ I27 J 0 (Nat.lt_succ_self _) hI27 FI27 FJ (by (/-20-/first | (and_intros; (omega); (omega); (have o1 := gz_sh t29; omega); (have o1 := gz_sh t25; have o2 := gz_sh t30; omega); (omega)) | (simp only [gz_hd] at *; omega)))
set_option maxHeartbeats 8000000 in
set_option maxRecDepth 100000 in
theorem d_X5_funOf {ws0 : List Cond} {tb : String → gz_T} (hws : gc_Ws ws0) (htb : gc_tbs tb) (sh : gz_Sh) (ro : Nat → Nat) (I : gr_I) (J : gr_J) (A : gc_A) (hI : gc_Inv ro I) (t : Nat) (a1 : Int) (hb : gc_Base sh ro A) (h_t : gc_isTongue sh ro A t) (G_t : 144 ≤ t) (ha1 : 0 ≤ a1 ∧ a1 ≤ 8999) (x0 : gc_Ls sh ro A t I) (x1 : gc_WV t I) (x2 : a1 < I 48 6) (x3 : I 61 2 = (t : Int)) : ∃ r hₚ, gz_Ev ws0 tb 2 (yX5_funOf, cX5_funOf, 3, (some .int)) [.inr (.inr (some 61)), .inl a1] sh (gc_h sh I J A) r sh hₚ 0 0 ∧ (hₚ = gc_h sh I J A ∧ (∃ z : Int, r = some (.inl z) ∧ 0 ≤ z ∧ z ≤ 95)) := by
  have A_48_8 : A 48 8 = some 54 := gc_bA_48_8 hb
  have A_61_1 : A 61 1 = some 48 := gc_bA_61_1 hb
  have B_48 := gz_hi (show 48 < 1000000 from by decide)
  have B_54 := gz_hi (show 54 < 1000000 from by decide)
  have B_61 := gz_hi (show 61 < 1000000 from by decide)
  have R_54 := gz_hi (show ro 54 = 46 from gc_bR_54 hb)
  have R_61 := gz_hi (show ro 61 = 72 from gc_bR_61 hb)
  have S_48 : sh[48]? = some (false, 0, 22) := gc_bS_48 hb
  have S_54 : sh[54]? = some (true, 1, 9000) := gc_bS_54 hb
  have S_61 : sh[61]? = some (false, 5, 19) := gc_bS_61 hb
  obtain ⟨S_t, R_t, B_t, A_t_0, h_t_1, A_t_1, h_t_3, A_t_2, S_t_5, R_t_5, B_t_5, A_t_3, S_t_6, R_t_6, B_t_6, A_t_4, h_t_7, A_t_5, S_t_9, R_t_9, B_t_9, A_t_7, S_t_10, R_t_10, B_t_10, A_t_8, h_t_11, A_t_9, S_t_13, R_t_13, B_t_13, A_t_10, S_t_14, R_t_14, B_t_14, A_t_12, S_t_15, R_t_15, B_t_15, A_t_14, S_t_16, R_t_16, B_t_16, A_t_15, h_t_17⟩ := id h_t
  replace R_t := gz_hi R_t
  replace B_t := gz_hi B_t
  replace R_t_5 := gz_hi R_t_5
  replace B_t_5 := gz_hi B_t_5
  replace R_t_6 := gz_hi R_t_6
  replace B_t_6 := gz_hi B_t_6
  replace R_t_9 := gz_hi R_t_9
  replace B_t_9 := gz_hi B_t_9
  replace R_t_10 := gz_hi R_t_10
  replace B_t_10 := gz_hi B_t_10
  replace R_t_13 := gz_hi R_t_13
  replace B_t_13 := gz_hi B_t_13
  replace R_t_14 := gz_hi R_t_14
  replace B_t_14 := gz_hi B_t_14
  replace R_t_15 := gz_hi R_t_15
  replace B_t_15 := gz_hi B_t_15
  replace R_t_16 := gz_hi R_t_16
  replace B_t_16 := gz_hi B_t_16
  obtain ⟨S_t_1, R_t_1, B_t_1, A_t_1_0, S_t_1_1, R_t_1_1, B_t_1_1, Q0_t_1, Q1_t_1, Q2_t_1⟩ := id h_t_1
  replace R_t_1 := gz_hi R_t_1
  replace B_t_1 := gz_hi B_t_1
  replace R_t_1_1 := gz_hi R_t_1_1
  replace B_t_1_1 := gz_hi B_t_1_1
  obtain ⟨S_t_3, R_t_3, B_t_3, A_t_3_0, S_t_3_1, R_t_3_1, B_t_3_1, Q0_t_3, Q1_t_3, Q2_t_3⟩ := id h_t_3
  replace R_t_3 := gz_hi R_t_3
  replace B_t_3 := gz_hi B_t_3
  replace R_t_3_1 := gz_hi R_t_3_1
  replace B_t_3_1 := gz_hi B_t_3_1
  obtain ⟨S_t_7, R_t_7, B_t_7, A_t_7_0, S_t_7_1, R_t_7_1, B_t_7_1, Q0_t_7, Q1_t_7, Q2_t_7⟩ := id h_t_7
  replace R_t_7 := gz_hi R_t_7
  replace B_t_7 := gz_hi B_t_7
  replace R_t_7_1 := gz_hi R_t_7_1
  replace B_t_7_1 := gz_hi B_t_7_1
  obtain ⟨S_t_11, R_t_11, B_t_11, A_t_11_0, S_t_11_1, R_t_11_1, B_t_11_1, Q0_t_11, Q1_t_11, Q2_t_11⟩ := id h_t_11
  replace R_t_11 := gz_hi R_t_11
  replace B_t_11 := gz_hi B_t_11
  replace R_t_11_1 := gz_hi R_t_11_1
  replace B_t_11_1 := gz_hi B_t_11_1
  obtain ⟨S_t_17, R_t_17, B_t_17, A_t_17_0, S_20, R_20, B_20, A_t_17_1, S_t_17_1, R_t_17_1, B_t_17_1, A_t_17_2, S_t_17_2, R_t_17_2, B_t_17_2, A_t_17_3, S_t_17_3, R_t_17_3, B_t_17_3, A_t_17_4, S_t_17_4, R_t_17_4, B_t_17_4, A_t_17_5, S_t_17_5, R_t_17_5, B_t_17_5, S_t_17_6, R_t_17_6, B_t_17_6, S_t_17_7, R_t_17_7, B_t_17_7⟩ := id h_t_17
  replace R_t_17 := gz_hi R_t_17
  replace B_t_17 := gz_hi B_t_17
  replace R_20 := gz_hi R_20
  replace B_20 := gz_hi B_20
  replace R_t_17_1 := gz_hi R_t_17_1
  replace B_t_17_1 := gz_hi B_t_17_1
  replace R_t_17_2 := gz_hi R_t_17_2
  replace B_t_17_2 := gz_hi B_t_17_2
  replace R_t_17_3 := gz_hi R_t_17_3
  replace B_t_17_3 := gz_hi B_t_17_3
  replace R_t_17_4 := gz_hi R_t_17_4
  replace B_t_17_4 := gz_hi B_t_17_4
  replace R_t_17_5 := gz_hi R_t_17_5
  replace B_t_17_5 := gz_hi B_t_17_5
  replace R_t_17_6 := gz_hi R_t_17_6
  replace B_t_17_6 := gz_hi B_t_17_6
  replace R_t_17_7 := gz_hi R_t_17_7
  replace B_t_17_7 := gz_hi B_t_17_7
  have hD : gv_D (gc_E5 ws0 tb 1 (yX5_funOf, cX5_funOf, 3, (some .int)) kX5_funOf) := gq_of oX5_funOf
  refine gc_ev5 (d := 1) (l := kX5_funOf) (Po := fun r hₚ => (hₚ = gc_h sh I J A ∧ (∃ z : Int, r = some (.inl z) ∧ 0 ≤ z ∧ z ≤ 95))) htb rfl (Nat.le_of_ble_eq_true rfl) ?_
  have L42 : ∀ (s0_2 : Int), ((0 ≤ s0_2 ∧ s0_2 ≤ 95) ∧ (I 61 2 = (t : Int))) → gv_X (gc_E5 ws0 tb 1 (yX5_funOf, cX5_funOf, 3, (some .int)) kX5_funOf) (gv_Q cX5_funOf (some .int) sh (fun r hₚ => (hₚ = gc_h sh I J A ∧ (∃ z : Int, r = some (.inl z) ∧ 0 ≤ z ∧ z ≤ 95)))) (42, [], [.inl s0_2], sh, gc_h sh I J A) := by
    intro s0_2 m_2
    obtain ⟨hs0_2, e0_2⟩ := gz_h2 m_2
    exact gv_iret hD rfl ⟨rfl, ⟨_, rfl, by (/-0-/first | (have o1 := gz_sh hs0_2; omega) | (simp only [gz_hd] at *; omega))⟩⟩
  refine gv_run 1 true hD (pcₚ := 1) (lvₚ := [(0, .inr (.inr (some 61))), (1, .inl a1)]) (stₚ := [.inr (.inr (some 61))]) (hₚ := gc_h sh I J A) (C := (True ∧ True)) rfl ⟨trivial, trivial⟩ ?_
  refine gv_get hD rfl rfl S_61 ⟨by decide, (gz_sh B_61)⟩ (gc_hA S_61 rfl A_61_1) ?_
  show gv_X _ _ (4, [(0, .inr (.inr (some 61))), (1, .inl a1)], [.inr (.inr (some 48))], sh, gc_h sh I J A)
  refine gv_get hD rfl rfl S_48 ⟨by decide, (gz_sh B_48)⟩ (gc_hA S_48 rfl A_48_8) ?_
  show gv_X _ _ (7, [(0, .inr (.inr (some 61))), (1, .inl a1)], [.inr (.inr (some 54))], sh, gc_h sh I J A)
  refine gv_run 1 true hD (pcₚ := 8) (lvₚ := [(0, .inr (.inr (some 61))), (1, .inl a1)]) (stₚ := [.inl a1, .inr (.inr (some 54))]) (hₚ := gc_h sh I J A) (C := (True ∧ True)) rfl ⟨trivial, trivial⟩ ?_
  have f4 := gz_hi ((gc_b_46 hI (gz_sh R_54) (Int.toNat a1)))
  refine gv_iald hD rfl S_54 rfl ⟨by decide, (gz_sh B_54)⟩ ⟨by (/-1-/first | omega | (simp only [gz_hd] at *; omega)), by (/-2-/first | omega | (simp only [gz_hd] at *; omega))⟩ (gc_iI S_54 rfl) ?_
  show gv_X _ _ (9, [(0, .inr (.inr (some 61))), (1, .inl a1)], [.inl (I 54 (Int.toNat a1))], sh, gc_h sh I J A)
  refine gv_run 1 true hD (pcₚ := 10) (lvₚ := [(2, .inl (I 54 (Int.toNat a1))), (0, .inr (.inr (some 61))), (1, .inl a1)]) (stₚ := []) (hₚ := gc_h sh I J A) (C := (True ∧ True)) rfl ⟨trivial, trivial⟩ ?_
  have t5 := gz_hi (x1 (Int.toNat a1) (by (/-3-/first | omega | (simp only [gz_hd] at *; omega))))
  refine gv_run 1 true hD (pcₚ := 11) (lvₚ := [(2, .inl (I 54 (Int.toNat a1))), (0, .inr (.inr (some 61))), (1, .inl a1)]) (stₚ := [.inl (I 54 (Int.toNat a1))]) (hₚ := gc_h sh I J A) (C := (True ∧ True)) rfl ⟨trivial, trivial⟩ ?_
  refine gv_if_lt (t := 28) hD rfl rfl ⟨by (/-4-/first | (have o1 := gz_sh f4; omega) | (simp only [gz_hd] at *; omega)), by (/-5-/first | (have o1 := gz_sh f4; omega) | (simp only [gz_hd] at *; omega))⟩ (fun c6 => ?_) (fun c6 => ?_)
  · show gv_X _ _ (28, [(2, .inl (I 54 (Int.toNat a1))), (0, .inr (.inr (some 61))), (1, .inl a1)], [], sh, gc_h sh I J A)
    refine gv_run 1 true hD (pcₚ := 29) (lvₚ := [(2, .inl (I 54 (Int.toNat a1))), (0, .inr (.inr (some 61))), (1, .inl a1)]) (stₚ := [.inr (.inr (some 61))]) (hₚ := gc_h sh I J A) (C := (True ∧ True)) rfl ⟨trivial, trivial⟩ ?_
    refine gv_get hD rfl rfl S_61 ⟨by decide, (gz_sh B_61)⟩ (gc_h5 (t := t) S_61 rfl (by (/-6-/first | omega | (simp only [gz_hd] at *; omega)))) ?_
    show gv_X _ _ (32, [(2, .inl (I 54 (Int.toNat a1))), (0, .inr (.inr (some 61))), (1, .inl a1)], [.inr (.inr (some t))], sh, gc_h sh I J A)
    refine gv_get hD rfl rfl S_t ⟨by decide, (gz_sh B_t)⟩ (gc_hA S_t rfl A_t_14) ?_
    show gv_X _ _ (35, [(2, .inl (I 54 (Int.toNat a1))), (0, .inr (.inr (some 61))), (1, .inl a1)], [.inr (.inr (some (t + 16)))], sh, gc_h sh I J A)
    refine gv_run 3 true hD (pcₚ := 38) (lvₚ := [(2, .inl (I 54 (Int.toNat a1))), (0, .inr (.inr (some 61))), (1, .inl a1)]) (stₚ := [.inl ((-1) - (I 54 (Int.toNat a1))), .inr (.inr (some (t + 16)))]) (hₚ := gc_h sh I J A) (C := (((True ∧ True) ∧ True) ∧ True)) rfl ⟨⟨⟨trivial, trivial⟩, trivial⟩, trivial⟩ ?_
    obtain ⟨t7_, A_t7, h_t7, G_t7, U_t7, V_t7⟩ := x0 (Int.toNat (((-1) - (I 54 (Int.toNat a1))))) (by (/-7-/first | (have o1 := gz_sh t5; omega) | (simp only [gz_hd] at *; omega)))
    obtain ⟨S_t7, R_t7, B_t7, A_t7_5, S_t7__1, R_t7__1, B_t7__1, A_t7_6, S_t7__2, R_t7__2, B_t7__2, A_t7_7, S_t7__3, R_t7__3, B_t7__3, A_t7_9, S_t7__4, R_t7__4, B_t7__4, A_t7_10, S_t7__5, R_t7__5, B_t7__5, A_t7_11, S_t7__6, R_t7__6, B_t7__6, A_t7_13, S_t7__7, R_t7__7, B_t7__7, A_t7_15, S_t7__8, R_t7__8, B_t7__8⟩ := id h_t7
    replace R_t7 := gz_hi R_t7
    replace B_t7 := gz_hi B_t7
    replace R_t7__1 := gz_hi R_t7__1
    replace B_t7__1 := gz_hi B_t7__1
    replace R_t7__2 := gz_hi R_t7__2
    replace B_t7__2 := gz_hi B_t7__2
    replace R_t7__3 := gz_hi R_t7__3
    replace B_t7__3 := gz_hi B_t7__3
    replace R_t7__4 := gz_hi R_t7__4
    replace B_t7__4 := gz_hi B_t7__4
    replace R_t7__5 := gz_hi R_t7__5
    replace B_t7__5 := gz_hi B_t7__5
    replace R_t7__6 := gz_hi R_t7__6
    replace B_t7__6 := gz_hi B_t7__6
    replace R_t7__7 := gz_hi R_t7__7
    replace B_t7__7 := gz_hi B_t7__7
    replace R_t7__8 := gz_hi R_t7__8
    replace B_t7__8 := gz_hi B_t7__8
    refine gv_aald hD rfl S_t_16 ⟨by decide, by decide⟩ ⟨by decide, (gz_sh B_t_16)⟩ ⟨by (/-8-/first | omega | (simp only [gz_hd] at *; omega)), by (/-9-/first | (have o1 := gz_sh f4; omega) | (simp only [gz_hd] at *; omega))⟩ ((gc_aA S_t_16 rfl).trans A_t7) ?_
    show gv_X _ _ (39, [(2, .inl (I 54 (Int.toNat a1))), (0, .inr (.inr (some 61))), (1, .inl a1)], [.inr (.inr (some t7_))], sh, gc_h sh I J A)
    have f8 := gz_hi ((show 0 ≤ I t7_ 1 ∧ I t7_ 1 ≤ 95 from gc_in2 hI (gz_sh R_t7) rfl rfl rfl))
    refine gv_get hD rfl rfl S_t7 ⟨by decide, (gz_sh B_t7)⟩ (gc_hI S_t7 rfl) ?_
    show gv_X _ _ (42, [(2, .inl (I 54 (Int.toNat a1))), (0, .inr (.inr (some 61))), (1, .inl a1)], [.inl (I t7_ 1)], sh, gc_h sh I J A)
    refine gv_pick [] rfl ?_
    exact L42 (I t7_ 1) (by (/-10-/first | (and_intros; (have o1 := gz_sh f8; omega); (have o1 := gz_sh f8; omega); (omega)) | (simp only [gz_hd] at *; omega)))
  · show gv_X _ _ (14, [(2, .inl (I 54 (Int.toNat a1))), (0, .inr (.inr (some 61))), (1, .inl a1)], [], sh, gc_h sh I J A)
    refine gv_run 1 true hD (pcₚ := 15) (lvₚ := [(2, .inl (I 54 (Int.toNat a1))), (0, .inr (.inr (some 61))), (1, .inl a1)]) (stₚ := [.inr (.inr (some 61))]) (hₚ := gc_h sh I J A) (C := (True ∧ True)) rfl ⟨trivial, trivial⟩ ?_
    refine gv_get hD rfl rfl S_61 ⟨by decide, (gz_sh B_61)⟩ (gc_h5 (t := t) S_61 rfl (by (/-11-/first | omega | (simp only [gz_hd] at *; omega)))) ?_
    show gv_X _ _ (18, [(2, .inl (I 54 (Int.toNat a1))), (0, .inr (.inr (some 61))), (1, .inl a1)], [.inr (.inr (some t))], sh, gc_h sh I J A)
    have f9 := gz_hi (gw_div (x := ((I 54 (Int.toNat a1)))) (y := 24) ⟨by (/-12-/first | omega | (simp only [gz_hd] at *; omega)), by (/-13-/first | (have o1 := gz_sh f4; omega) | (simp only [gz_hd] at *; omega))⟩ ⟨by (/-14-/first | omega | (simp only [gz_hd] at *; omega)), by (/-15-/first | omega | (simp only [gz_hd] at *; omega))⟩)
    refine gv_run 3 true hD (pcₚ := 22) (lvₚ := [(2, .inl (I 54 (Int.toNat a1))), (0, .inr (.inr (some 61))), (1, .inl a1)]) (stₚ := [.inl ((Int32.ofInt ((I 54 (Int.toNat a1))) / Int32.ofInt 24).toInt), .inr (.inr (some t))]) (hₚ := gc_h sh I J A) (C := (((True ∧ True) ∧ True) ∧ (gz_R 24 ∧ ¬ 24 = 0))) rfl ⟨⟨⟨trivial, trivial⟩, trivial⟩, ⟨⟨by (/-16-/first | omega | (simp only [gz_hd] at *; omega)), by (/-17-/first | omega | (simp only [gz_hd] at *; omega))⟩, by (/-18-/first | omega | (simp only [gz_hd] at *; omega))⟩⟩ ?_
    obtain ⟨r10, h10, E10, P10⟩ := d_X11_wordFun (ws0 := ws0) (tb := tb) hws htb sh ro I J A hI t (((Int32.ofInt ((I 54 (Int.toNat a1))) / Int32.ofInt 24).toInt)) h_t   ⟨by (/-19-/first | (have o1 := gz_sh f4; have o2 := gz_sh f9; omega) | (simp only [gz_hd] at *; omega)), by (/-20-/first | (have o1 := gz_sh f4; have o2 := gz_sh f9; omega) | (simp only [gz_hd] at *; omega))⟩  
    obtain ⟨rfl, ⟨z10, rfl, q10⟩⟩ := P10
    replace q10 := gz_hi q10
    refine gv_callV hD rfl (As := [.inl ((Int32.ofInt ((I 54 (Int.toNat a1))) / Int32.ofInt 24).toInt)]) (st := []) rfl (gz_sh B_t) S_t rfl (gc_lV5 hws rfl) (Nat.le_of_ble_eq_true rfl) (gz_Ev_mono (d := 1) (by decide) E10) ?_
    show gv_X _ _ (25, [(2, .inl (I 54 (Int.toNat a1))), (0, .inr (.inr (some 61))), (1, .inl a1)], [.inl z10], sh, gc_h sh I J A)
    refine gv_run 1 true hD (pcₚ := 42) (lvₚ := [(2, .inl (I 54 (Int.toNat a1))), (0, .inr (.inr (some 61))), (1, .inl a1)]) (stₚ := [.inl z10]) (hₚ := gc_h sh I J A) (C := (True ∧ True)) rfl ⟨trivial, trivial⟩ ?_
    refine gv_pick [] rfl ?_
    exact L42 z10 (by (/-21-/first | (and_intros; (have o1 := gz_sh q10; omega); (have o1 := gz_sh q10; omega); (omega)) | (simp only [gz_hd] at *; omega)))
set_option maxHeartbeats 8000000 in
set_option maxRecDepth 100000 in
theorem d_X5_slotsOf {ws0 : List Cond} {tb : String → gz_T} (hws : gc_Ws ws0) (htb : gc_tbs tb) (sh : gz_Sh) (ro : Nat → Nat) (I : gr_I) (J : gr_J) (A : gc_A) (hI : gc_Inv ro I) (t : Nat) (a1 : Int) (hb : gc_Base sh ro A) (h_t : gc_isTongue sh ro A t) (G_t : 144 ≤ t) (ha1 : 0 ≤ a1 ∧ a1 ≤ 8999) (x0 : gc_Ls sh ro A t I) (x1 : gc_WV t I) (x2 : a1 < I 48 6) (x3 : I 61 2 = (t : Int)) : ∃ r hₚ, gz_Ev ws0 tb 1 (yX5_slotsOf, cX5_slotsOf, 3, (some .int)) [.inr (.inr (some 61)), .inl a1] sh (gc_h sh I J A) r sh hₚ 0 0 ∧ (hₚ = gc_h sh I J A ∧ (∃ z : Int, r = some (.inl z) ∧ 0 ≤ z ∧ z ≤ 4 ∧ (z = gc_sl A I t (Int.toNat a1)))) := by
  have A_48_8 : A 48 8 = some 54 := gc_bA_48_8 hb
  have A_61_1 : A 61 1 = some 48 := gc_bA_61_1 hb
  have B_48 := gz_hi (show 48 < 1000000 from by decide)
  have B_54 := gz_hi (show 54 < 1000000 from by decide)
  have B_61 := gz_hi (show 61 < 1000000 from by decide)
  have R_54 := gz_hi (show ro 54 = 46 from gc_bR_54 hb)
  have R_61 := gz_hi (show ro 61 = 72 from gc_bR_61 hb)
  have S_48 : sh[48]? = some (false, 0, 22) := gc_bS_48 hb
  have S_54 : sh[54]? = some (true, 1, 9000) := gc_bS_54 hb
  have S_61 : sh[61]? = some (false, 5, 19) := gc_bS_61 hb
  obtain ⟨S_t, R_t, B_t, A_t_0, h_t_1, A_t_1, h_t_3, A_t_2, S_t_5, R_t_5, B_t_5, A_t_3, S_t_6, R_t_6, B_t_6, A_t_4, h_t_7, A_t_5, S_t_9, R_t_9, B_t_9, A_t_7, S_t_10, R_t_10, B_t_10, A_t_8, h_t_11, A_t_9, S_t_13, R_t_13, B_t_13, A_t_10, S_t_14, R_t_14, B_t_14, A_t_12, S_t_15, R_t_15, B_t_15, A_t_14, S_t_16, R_t_16, B_t_16, A_t_15, h_t_17⟩ := id h_t
  replace R_t := gz_hi R_t
  replace B_t := gz_hi B_t
  replace R_t_5 := gz_hi R_t_5
  replace B_t_5 := gz_hi B_t_5
  replace R_t_6 := gz_hi R_t_6
  replace B_t_6 := gz_hi B_t_6
  replace R_t_9 := gz_hi R_t_9
  replace B_t_9 := gz_hi B_t_9
  replace R_t_10 := gz_hi R_t_10
  replace B_t_10 := gz_hi B_t_10
  replace R_t_13 := gz_hi R_t_13
  replace B_t_13 := gz_hi B_t_13
  replace R_t_14 := gz_hi R_t_14
  replace B_t_14 := gz_hi B_t_14
  replace R_t_15 := gz_hi R_t_15
  replace B_t_15 := gz_hi B_t_15
  replace R_t_16 := gz_hi R_t_16
  replace B_t_16 := gz_hi B_t_16
  obtain ⟨S_t_1, R_t_1, B_t_1, A_t_1_0, S_t_1_1, R_t_1_1, B_t_1_1, Q0_t_1, Q1_t_1, Q2_t_1⟩ := id h_t_1
  replace R_t_1 := gz_hi R_t_1
  replace B_t_1 := gz_hi B_t_1
  replace R_t_1_1 := gz_hi R_t_1_1
  replace B_t_1_1 := gz_hi B_t_1_1
  obtain ⟨S_t_3, R_t_3, B_t_3, A_t_3_0, S_t_3_1, R_t_3_1, B_t_3_1, Q0_t_3, Q1_t_3, Q2_t_3⟩ := id h_t_3
  replace R_t_3 := gz_hi R_t_3
  replace B_t_3 := gz_hi B_t_3
  replace R_t_3_1 := gz_hi R_t_3_1
  replace B_t_3_1 := gz_hi B_t_3_1
  obtain ⟨S_t_7, R_t_7, B_t_7, A_t_7_0, S_t_7_1, R_t_7_1, B_t_7_1, Q0_t_7, Q1_t_7, Q2_t_7⟩ := id h_t_7
  replace R_t_7 := gz_hi R_t_7
  replace B_t_7 := gz_hi B_t_7
  replace R_t_7_1 := gz_hi R_t_7_1
  replace B_t_7_1 := gz_hi B_t_7_1
  obtain ⟨S_t_11, R_t_11, B_t_11, A_t_11_0, S_t_11_1, R_t_11_1, B_t_11_1, Q0_t_11, Q1_t_11, Q2_t_11⟩ := id h_t_11
  replace R_t_11 := gz_hi R_t_11
  replace B_t_11 := gz_hi B_t_11
  replace R_t_11_1 := gz_hi R_t_11_1
  replace B_t_11_1 := gz_hi B_t_11_1
  obtain ⟨S_t_17, R_t_17, B_t_17, A_t_17_0, S_20, R_20, B_20, A_t_17_1, S_t_17_1, R_t_17_1, B_t_17_1, A_t_17_2, S_t_17_2, R_t_17_2, B_t_17_2, A_t_17_3, S_t_17_3, R_t_17_3, B_t_17_3, A_t_17_4, S_t_17_4, R_t_17_4, B_t_17_4, A_t_17_5, S_t_17_5, R_t_17_5, B_t_17_5, S_t_17_6, R_t_17_6, B_t_17_6, S_t_17_7, R_t_17_7, B_t_17_7⟩ := id h_t_17
  replace R_t_17 := gz_hi R_t_17
  replace B_t_17 := gz_hi B_t_17
  replace R_20 := gz_hi R_20
  replace B_20 := gz_hi B_20
  replace R_t_17_1 := gz_hi R_t_17_1
  replace B_t_17_1 := gz_hi B_t_17_1
  replace R_t_17_2 := gz_hi R_t_17_2
  replace B_t_17_2 := gz_hi B_t_17_2
  replace R_t_17_3 := gz_hi R_t_17_3
  replace B_t_17_3 := gz_hi B_t_17_3
  replace R_t_17_4 := gz_hi R_t_17_4
  replace B_t_17_4 := gz_hi B_t_17_4
  replace R_t_17_5 := gz_hi R_t_17_5
  replace B_t_17_5 := gz_hi B_t_17_5
  replace R_t_17_6 := gz_hi R_t_17_6
  replace B_t_17_6 := gz_hi B_t_17_6
  replace R_t_17_7 := gz_hi R_t_17_7
  replace B_t_17_7 := gz_hi B_t_17_7
  have hD : gv_D (gc_E5 ws0 tb 0 (yX5_slotsOf, cX5_slotsOf, 3, (some .int)) kX5_slotsOf) := gq_of oX5_slotsOf
  refine gc_ev5 (d := 0) (l := kX5_slotsOf) (Po := fun r hₚ => (hₚ = gc_h sh I J A ∧ (∃ z : Int, r = some (.inl z) ∧ 0 ≤ z ∧ z ≤ 4 ∧ (z = gc_sl A I t (Int.toNat a1))))) htb rfl (Nat.le_of_ble_eq_true rfl) ?_
  have L32 : ∀ (s0_2 : Int), ((0 ≤ s0_2 ∧ s0_2 ≤ 4) ∧ (I 61 2 = (t : Int))) → (s0_2 = gc_sl A I t (Int.toNat a1)) → gv_X (gc_E5 ws0 tb 0 (yX5_slotsOf, cX5_slotsOf, 3, (some .int)) kX5_slotsOf) (gv_Q cX5_slotsOf (some .int) sh (fun r hₚ => (hₚ = gc_h sh I J A ∧ (∃ z : Int, r = some (.inl z) ∧ 0 ≤ z ∧ z ≤ 4 ∧ (z = gc_sl A I t (Int.toNat a1)))))) (32, [], [.inl s0_2], sh, gc_h sh I J A) := by
    intro s0_2 m_2 e0_2
    obtain ⟨hs0_2, e1_2⟩ := gz_h2 m_2
    exact gv_iret hD rfl ⟨rfl, ⟨_, rfl, by (/-0-/first | (have o1 := gz_sh hs0_2; omega) | (simp only [gz_hd] at *; omega)), by (/-1-/first | (have o1 := gz_sh hs0_2; omega) | (simp only [gz_hd] at *; omega)), e0_2⟩⟩
  refine gv_run 1 true hD (pcₚ := 1) (lvₚ := [(0, .inr (.inr (some 61))), (1, .inl a1)]) (stₚ := [.inr (.inr (some 61))]) (hₚ := gc_h sh I J A) (C := (True ∧ True)) rfl ⟨trivial, trivial⟩ ?_
  refine gv_get hD rfl rfl S_61 ⟨by decide, (gz_sh B_61)⟩ (gc_hA S_61 rfl A_61_1) ?_
  show gv_X _ _ (4, [(0, .inr (.inr (some 61))), (1, .inl a1)], [.inr (.inr (some 48))], sh, gc_h sh I J A)
  refine gv_get hD rfl rfl S_48 ⟨by decide, (gz_sh B_48)⟩ (gc_hA S_48 rfl A_48_8) ?_
  show gv_X _ _ (7, [(0, .inr (.inr (some 61))), (1, .inl a1)], [.inr (.inr (some 54))], sh, gc_h sh I J A)
  refine gv_run 1 true hD (pcₚ := 8) (lvₚ := [(0, .inr (.inr (some 61))), (1, .inl a1)]) (stₚ := [.inl a1, .inr (.inr (some 54))]) (hₚ := gc_h sh I J A) (C := (True ∧ True)) rfl ⟨trivial, trivial⟩ ?_
  have f4 := gz_hi ((gc_b_46 hI (gz_sh R_54) (Int.toNat a1)))
  refine gv_iald hD rfl S_54 rfl ⟨by decide, (gz_sh B_54)⟩ ⟨by (/-2-/first | omega | (simp only [gz_hd] at *; omega)), by (/-3-/first | omega | (simp only [gz_hd] at *; omega))⟩ (gc_iI S_54 rfl) ?_
  show gv_X _ _ (9, [(0, .inr (.inr (some 61))), (1, .inl a1)], [.inl (I 54 (Int.toNat a1))], sh, gc_h sh I J A)
  refine gv_run 1 true hD (pcₚ := 10) (lvₚ := [(2, .inl (I 54 (Int.toNat a1))), (0, .inr (.inr (some 61))), (1, .inl a1)]) (stₚ := []) (hₚ := gc_h sh I J A) (C := (True ∧ True)) rfl ⟨trivial, trivial⟩ ?_
  have t5 := gz_hi (x1 (Int.toNat a1) (by (/-4-/first | omega | (simp only [gz_hd] at *; omega))))
  refine gv_run 1 true hD (pcₚ := 11) (lvₚ := [(2, .inl (I 54 (Int.toNat a1))), (0, .inr (.inr (some 61))), (1, .inl a1)]) (stₚ := [.inl (I 54 (Int.toNat a1))]) (hₚ := gc_h sh I J A) (C := (True ∧ True)) rfl ⟨trivial, trivial⟩ ?_
  refine gv_if_lt (t := 18) hD rfl rfl ⟨by (/-5-/first | (have o1 := gz_sh f4; omega) | (simp only [gz_hd] at *; omega)), by (/-6-/first | (have o1 := gz_sh f4; omega) | (simp only [gz_hd] at *; omega))⟩ (fun c6 => ?_) (fun c6 => ?_)
  · show gv_X _ _ (18, [(2, .inl (I 54 (Int.toNat a1))), (0, .inr (.inr (some 61))), (1, .inl a1)], [], sh, gc_h sh I J A)
    refine gv_run 1 true hD (pcₚ := 19) (lvₚ := [(2, .inl (I 54 (Int.toNat a1))), (0, .inr (.inr (some 61))), (1, .inl a1)]) (stₚ := [.inr (.inr (some 61))]) (hₚ := gc_h sh I J A) (C := (True ∧ True)) rfl ⟨trivial, trivial⟩ ?_
    refine gv_get hD rfl rfl S_61 ⟨by decide, (gz_sh B_61)⟩ (gc_h5 (t := t) S_61 rfl (by (/-7-/first | omega | (simp only [gz_hd] at *; omega)))) ?_
    show gv_X _ _ (22, [(2, .inl (I 54 (Int.toNat a1))), (0, .inr (.inr (some 61))), (1, .inl a1)], [.inr (.inr (some t))], sh, gc_h sh I J A)
    refine gv_get hD rfl rfl S_t ⟨by decide, (gz_sh B_t)⟩ (gc_hA S_t rfl A_t_14) ?_
    show gv_X _ _ (25, [(2, .inl (I 54 (Int.toNat a1))), (0, .inr (.inr (some 61))), (1, .inl a1)], [.inr (.inr (some (t + 16)))], sh, gc_h sh I J A)
    refine gv_run 3 true hD (pcₚ := 28) (lvₚ := [(2, .inl (I 54 (Int.toNat a1))), (0, .inr (.inr (some 61))), (1, .inl a1)]) (stₚ := [.inl ((-1) - (I 54 (Int.toNat a1))), .inr (.inr (some (t + 16)))]) (hₚ := gc_h sh I J A) (C := (((True ∧ True) ∧ True) ∧ True)) rfl ⟨⟨⟨trivial, trivial⟩, trivial⟩, trivial⟩ ?_
    obtain ⟨t7_, A_t7, h_t7, G_t7, U_t7, V_t7⟩ := x0 (Int.toNat (((-1) - (I 54 (Int.toNat a1))))) (by (/-8-/first | (have o1 := gz_sh t5; omega) | (simp only [gz_hd] at *; omega)))
    obtain ⟨S_t7, R_t7, B_t7, A_t7_5, S_t7__1, R_t7__1, B_t7__1, A_t7_6, S_t7__2, R_t7__2, B_t7__2, A_t7_7, S_t7__3, R_t7__3, B_t7__3, A_t7_9, S_t7__4, R_t7__4, B_t7__4, A_t7_10, S_t7__5, R_t7__5, B_t7__5, A_t7_11, S_t7__6, R_t7__6, B_t7__6, A_t7_13, S_t7__7, R_t7__7, B_t7__7, A_t7_15, S_t7__8, R_t7__8, B_t7__8⟩ := id h_t7
    replace R_t7 := gz_hi R_t7
    replace B_t7 := gz_hi B_t7
    replace R_t7__1 := gz_hi R_t7__1
    replace B_t7__1 := gz_hi B_t7__1
    replace R_t7__2 := gz_hi R_t7__2
    replace B_t7__2 := gz_hi B_t7__2
    replace R_t7__3 := gz_hi R_t7__3
    replace B_t7__3 := gz_hi B_t7__3
    replace R_t7__4 := gz_hi R_t7__4
    replace B_t7__4 := gz_hi B_t7__4
    replace R_t7__5 := gz_hi R_t7__5
    replace B_t7__5 := gz_hi B_t7__5
    replace R_t7__6 := gz_hi R_t7__6
    replace B_t7__6 := gz_hi B_t7__6
    replace R_t7__7 := gz_hi R_t7__7
    replace B_t7__7 := gz_hi B_t7__7
    replace R_t7__8 := gz_hi R_t7__8
    replace B_t7__8 := gz_hi B_t7__8
    refine gv_aald hD rfl S_t_16 ⟨by decide, by decide⟩ ⟨by decide, (gz_sh B_t_16)⟩ ⟨by (/-9-/first | omega | (simp only [gz_hd] at *; omega)), by (/-10-/first | (have o1 := gz_sh f4; omega) | (simp only [gz_hd] at *; omega))⟩ ((gc_aA S_t_16 rfl).trans A_t7) ?_
    show gv_X _ _ (29, [(2, .inl (I 54 (Int.toNat a1))), (0, .inr (.inr (some 61))), (1, .inl a1)], [.inr (.inr (some t7_))], sh, gc_h sh I J A)
    have f8 := gz_hi ((show 0 ≤ I t7_ 8 ∧ I t7_ 8 ≤ 4 from gc_in2 hI (gz_sh R_t7) rfl rfl rfl))
    refine gv_get hD rfl rfl S_t7 ⟨by decide, (gz_sh B_t7)⟩ (gc_hI S_t7 rfl) ?_
    show gv_X _ _ (32, [(2, .inl (I 54 (Int.toNat a1))), (0, .inr (.inr (some 61))), (1, .inl a1)], [.inl (I t7_ 8)], sh, gc_h sh I J A)
    refine gv_pick [] rfl ?_
    exact L32 (I t7_ 8) (by (/-11-/first | (and_intros; (have o1 := gz_sh f8; omega); (have o1 := gz_sh f8; omega); (omega)) | (simp only [gz_hd] at *; omega))) (gc_sl_1 (by (/-12-/first | omega | (simp only [gz_hd] at *; omega))) A_t7).symm
  · show gv_X _ _ (14, [(2, .inl (I 54 (Int.toNat a1))), (0, .inr (.inr (some 61))), (1, .inl a1)], [], sh, gc_h sh I J A)
    refine gv_run 2 true hD (pcₚ := 32) (lvₚ := [(2, .inl (I 54 (Int.toNat a1))), (0, .inr (.inr (some 61))), (1, .inl a1)]) (stₚ := [.inl 0]) (hₚ := gc_h sh I J A) (C := ((True ∧ True) ∧ True)) rfl ⟨⟨trivial, trivial⟩, trivial⟩ ?_
    refine gv_pick [] rfl ?_
    exact L32 0 (by (/-13-/first | (and_intros <;> omega) | (simp only [gz_hd] at *; omega))) (gc_sl_0 (by (/-14-/first | omega | (simp only [gz_hd] at *; omega)))).symm
set_option maxHeartbeats 8000000 in
set_option maxRecDepth 100000 in
theorem d_X5_compareArguments {ws0 : List Cond} {tb : String → gz_T} (hws : gc_Ws ws0) (htb : gc_tbs tb) (sh : gz_Sh) (ro : Nat → Nat) (I : gr_I) (J : gr_J) (A : gc_A) (hI : gc_Inv ro I) (a1 : Int) (a2 : Int) (a3 : Int) (hb : gc_Base sh ro A) (ha1 : 0 ≤ a1 ∧ a1 ≤ 35996) (ha2 : 0 ≤ a2 ∧ a2 ≤ 35996) (ha3 : 0 ≤ a3 ∧ a3 ≤ 4)  : ∃ r hₚ, gz_Ev ws0 tb 1 (yX5_compareArguments, cX5_compareArguments, 6, (some .int)) [.inr (.inr (some 61)), .inl a1, .inl a2, .inl a3] sh (gc_h sh I J A) r sh hₚ 0 0 ∧ (hₚ = gc_h sh I J A ∧ (∃ z : Int, r = some (.inl z) ∧ (-16777215) ≤ z ∧ z ≤ 16777215)) := by
  have A_48_4 : A 48 4 = some 51 := gc_bA_48_4 hb
  have A_48_5 : A 48 5 = some 52 := gc_bA_48_5 hb
  have A_48_9 : A 48 9 = some 55 := gc_bA_48_9 hb
  have A_61_1 : A 61 1 = some 48 := gc_bA_61_1 hb
  have B_48 := gz_hi (show 48 < 1000000 from by decide)
  have B_51 := gz_hi (show 51 < 1000000 from by decide)
  have B_52 := gz_hi (show 52 < 1000000 from by decide)
  have B_55 := gz_hi (show 55 < 1000000 from by decide)
  have B_61 := gz_hi (show 61 < 1000000 from by decide)
  have R_51 := gz_hi (show ro 51 = 45 from gc_bR_51 hb)
  have R_52 := gz_hi (show ro 52 = 13 from gc_bR_52 hb)
  have R_55 := gz_hi (show ro 55 = 44 from gc_bR_55 hb)
  have S_48 : sh[48]? = some (false, 0, 22) := gc_bS_48 hb
  have S_51 : sh[51]? = some (true, 1, 3000) := gc_bS_51 hb
  have S_52 : sh[52]? = some (true, 1, 3000) := gc_bS_52 hb
  have S_55 : sh[55]? = some (true, 1, 36000) := gc_bS_55 hb
  have S_61 : sh[61]? = some (false, 5, 19) := gc_bS_61 hb
  have hD : gv_D (gc_E5 ws0 tb 0 (yX5_compareArguments, cX5_compareArguments, 6, (some .int)) kX5_compareArguments) := gq_of oX5_compareArguments
  refine gc_ev5 (d := 0) (l := kX5_compareArguments) (Po := fun r hₚ => (hₚ = gc_h sh I J A ∧ (∃ z : Int, r = some (.inl z) ∧ (-16777215) ≤ z ∧ z ≤ 16777215))) htb rfl (Nat.le_of_ble_eq_true rfl) ?_
  have L3 : ∀ (n9 : Nat) (v4_1 : Int), (5 - v4_1).toNat < n9 → ((0 ≤ a1 ∧ a1 ≤ 35996) ∧ (0 ≤ a2 ∧ a2 ≤ 35996) ∧ (0 ≤ a3 ∧ a3 ≤ 4) ∧ (0 ≤ v4_1 ∧ v4_1 ≤ 4)) → gv_X (gc_E5 ws0 tb 0 (yX5_compareArguments, cX5_compareArguments, 6, (some .int)) kX5_compareArguments) (gv_Q cX5_compareArguments (some .int) sh (fun r hₚ => (hₚ = gc_h sh I J A ∧ (∃ z : Int, r = some (.inl z) ∧ (-16777215) ≤ z ∧ z ≤ 16777215)))) (3, [(0, .inr (.inr (some 61))), (1, .inl a1), (2, .inl a2), (3, .inl a3), (4, .inl v4_1)], [], sh, gc_h sh I J A) := by
    intro n9
    induction n9 with
    | zero => intro v4_1 hn; (/-0-/first | omega | (simp only [gz_hd] at *; omega))
    | succ n9 ih3 =>
      intro v4_1 hn m_1
      obtain ⟨ha1_1, ha2_1, ha3_1, hv4_1⟩ := gz_h4 m_1
      have L69 : ∀ (n9 : Nat) (v4_2 : Int), (5 - v4_2).toNat < n9 → ((0 ≤ a1 ∧ a1 ≤ 35996) ∧ (0 ≤ a2 ∧ a2 ≤ 35996) ∧ (0 ≤ a3 ∧ a3 ≤ 4) ∧ (0 ≤ v4_2 ∧ v4_2 ≤ 4)) → gv_X (gc_E5 ws0 tb 0 (yX5_compareArguments, cX5_compareArguments, 6, (some .int)) kX5_compareArguments) (gv_Q cX5_compareArguments (some .int) sh (fun r hₚ => (hₚ = gc_h sh I J A ∧ (∃ z : Int, r = some (.inl z) ∧ (-16777215) ≤ z ∧ z ≤ 16777215)))) (69, [(0, .inr (.inr (some 61))), (1, .inl a1), (2, .inl a2), (3, .inl a3), (4, .inl v4_2)], [], sh, gc_h sh I J A) := by
        intro n9
        induction n9 with
        | zero => intro v4_2 hn; (/-1-/first | omega | (simp only [gz_hd] at *; omega))
        | succ n9 ih69 =>
          intro v4_2 hn m_2
          obtain ⟨ha1_2, ha2_2, ha3_2, hv4_2⟩ := gz_h4 m_2
          refine gv_run 2 true hD (pcₚ := 72) (lvₚ := [(0, .inr (.inr (some 61))), (1, .inl a1), (2, .inl a2), (3, .inl a3), (4, .inl v4_2)]) (stₚ := [.inl a3, .inl v4_2]) (hₚ := gc_h sh I J A) (C := ((True ∧ True) ∧ True)) rfl ⟨⟨trivial, trivial⟩, trivial⟩ ?_
          refine gv_icmp_ge (t := 132) hD rfl rfl ⟨⟨by (/-2-/first | (have o1 := gz_sh hv4_2; omega) | (simp only [gz_hd] at *; omega)), by (/-3-/first | (have o1 := gz_sh hv4_2; omega) | (simp only [gz_hd] at *; omega))⟩, ⟨by (/-4-/first | omega | (simp only [gz_hd] at *; omega)), by (/-5-/first | omega | (simp only [gz_hd] at *; omega))⟩⟩ (fun c3 => ?_) (fun c3 => ?_)
          · show gv_X _ _ (132, [(0, .inr (.inr (some 61))), (1, .inl a1), (2, .inl a2), (3, .inl a3), (4, .inl v4_2)], [], sh, gc_h sh I J A)
            refine gv_run 1 true hD (pcₚ := 133) (lvₚ := [(0, .inr (.inr (some 61))), (1, .inl a1), (2, .inl a2), (3, .inl a3), (4, .inl v4_2)]) (stₚ := [.inl 0]) (hₚ := gc_h sh I J A) (C := (True ∧ True)) rfl ⟨trivial, trivial⟩ ?_
            exact gv_iret hD rfl ⟨rfl, ⟨_, rfl, by (/-6-/first | (and_intros <;> omega) | (simp only [gz_hd] at *; omega))⟩⟩
          · show gv_X _ _ (75, [(0, .inr (.inr (some 61))), (1, .inl a1), (2, .inl a2), (3, .inl a3), (4, .inl v4_2)], [], sh, gc_h sh I J A)
            refine gv_run 1 true hD (pcₚ := 76) (lvₚ := [(0, .inr (.inr (some 61))), (1, .inl a1), (2, .inl a2), (3, .inl a3), (4, .inl v4_2)]) (stₚ := [.inr (.inr (some 61))]) (hₚ := gc_h sh I J A) (C := (True ∧ True)) rfl ⟨trivial, trivial⟩ ?_
            refine gv_get hD rfl rfl S_61 ⟨by decide, (gz_sh B_61)⟩ (gc_hA S_61 rfl A_61_1) ?_
            show gv_X _ _ (79, [(0, .inr (.inr (some 61))), (1, .inl a1), (2, .inl a2), (3, .inl a3), (4, .inl v4_2)], [.inr (.inr (some 48))], sh, gc_h sh I J A)
            refine gv_get hD rfl rfl S_48 ⟨by decide, (gz_sh B_48)⟩ (gc_hA S_48 rfl A_48_5) ?_
            show gv_X _ _ (82, [(0, .inr (.inr (some 61))), (1, .inl a1), (2, .inl a2), (3, .inl a3), (4, .inl v4_2)], [.inr (.inr (some 52))], sh, gc_h sh I J A)
            refine gv_run 1 true hD (pcₚ := 83) (lvₚ := [(0, .inr (.inr (some 61))), (1, .inl a1), (2, .inl a2), (3, .inl a3), (4, .inl v4_2)]) (stₚ := [.inr (.inr (some 61)), .inr (.inr (some 52))]) (hₚ := gc_h sh I J A) (C := (True ∧ True)) rfl ⟨trivial, trivial⟩ ?_
            refine gv_get hD rfl rfl S_61 ⟨by decide, (gz_sh B_61)⟩ (gc_hA S_61 rfl A_61_1) ?_
            show gv_X _ _ (86, [(0, .inr (.inr (some 61))), (1, .inl a1), (2, .inl a2), (3, .inl a3), (4, .inl v4_2)], [.inr (.inr (some 48)), .inr (.inr (some 52))], sh, gc_h sh I J A)
            refine gv_get hD rfl rfl S_48 ⟨by decide, (gz_sh B_48)⟩ (gc_hA S_48 rfl A_48_9) ?_
            show gv_X _ _ (89, [(0, .inr (.inr (some 61))), (1, .inl a1), (2, .inl a2), (3, .inl a3), (4, .inl v4_2)], [.inr (.inr (some 55)), .inr (.inr (some 52))], sh, gc_h sh I J A)
            refine gv_run 3 true hD (pcₚ := 93) (lvₚ := [(0, .inr (.inr (some 61))), (1, .inl a1), (2, .inl a2), (3, .inl a3), (4, .inl v4_2)]) (stₚ := [.inl (a1 + v4_2), .inr (.inr (some 55)), .inr (.inr (some 52))]) (hₚ := gc_h sh I J A) (C := (((True ∧ True) ∧ True) ∧ True)) rfl ⟨⟨⟨trivial, trivial⟩, trivial⟩, trivial⟩ ?_
            have f4 := gz_hi ((gc_b_44 hI (gz_sh R_55) (Int.toNat (a1 + v4_2))))
            refine gv_iald hD rfl S_55 rfl ⟨by decide, (gz_sh B_55)⟩ ⟨by (/-7-/first | (have o1 := gz_sh hv4_2; omega) | (simp only [gz_hd] at *; omega)), by (/-8-/first | omega | (simp only [gz_hd] at *; omega))⟩ (gc_iI S_55 rfl) ?_
            show gv_X _ _ (94, [(0, .inr (.inr (some 61))), (1, .inl a1), (2, .inl a2), (3, .inl a3), (4, .inl v4_2)], [.inl (I 55 (Int.toNat (a1 + v4_2))), .inr (.inr (some 52))], sh, gc_h sh I J A)
            have f5 := gz_hi ((gc_b_13 hI (gz_sh R_52) (Int.toNat ((I 55 (Int.toNat (a1 + v4_2)))))))
            refine gv_iald hD rfl S_52 rfl ⟨by decide, (gz_sh B_52)⟩ ⟨by (/-9-/first | (have o1 := gz_sh f4; omega) | (simp only [gz_hd] at *; omega)), by (/-10-/first | (have o1 := gz_sh f4; omega) | (simp only [gz_hd] at *; omega))⟩ (gc_iI S_52 rfl) ?_
            show gv_X _ _ (95, [(0, .inr (.inr (some 61))), (1, .inl a1), (2, .inl a2), (3, .inl a3), (4, .inl v4_2)], [.inl (I 52 (Int.toNat ((I 55 (Int.toNat (a1 + v4_2))))))], sh, gc_h sh I J A)
            refine gv_run 1 true hD (pcₚ := 96) (lvₚ := [(0, .inr (.inr (some 61))), (1, .inl a1), (2, .inl a2), (3, .inl a3), (4, .inl v4_2)]) (stₚ := [.inr (.inr (some 61)), .inl (I 52 (Int.toNat ((I 55 (Int.toNat (a1 + v4_2))))))]) (hₚ := gc_h sh I J A) (C := (True ∧ True)) rfl ⟨trivial, trivial⟩ ?_
            refine gv_get hD rfl rfl S_61 ⟨by decide, (gz_sh B_61)⟩ (gc_hA S_61 rfl A_61_1) ?_
            show gv_X _ _ (99, [(0, .inr (.inr (some 61))), (1, .inl a1), (2, .inl a2), (3, .inl a3), (4, .inl v4_2)], [.inr (.inr (some 48)), .inl (I 52 (Int.toNat ((I 55 (Int.toNat (a1 + v4_2))))))], sh, gc_h sh I J A)
            refine gv_get hD rfl rfl S_48 ⟨by decide, (gz_sh B_48)⟩ (gc_hA S_48 rfl A_48_5) ?_
            show gv_X _ _ (102, [(0, .inr (.inr (some 61))), (1, .inl a1), (2, .inl a2), (3, .inl a3), (4, .inl v4_2)], [.inr (.inr (some 52)), .inl (I 52 (Int.toNat ((I 55 (Int.toNat (a1 + v4_2))))))], sh, gc_h sh I J A)
            refine gv_run 1 true hD (pcₚ := 103) (lvₚ := [(0, .inr (.inr (some 61))), (1, .inl a1), (2, .inl a2), (3, .inl a3), (4, .inl v4_2)]) (stₚ := [.inr (.inr (some 61)), .inr (.inr (some 52)), .inl (I 52 (Int.toNat ((I 55 (Int.toNat (a1 + v4_2))))))]) (hₚ := gc_h sh I J A) (C := (True ∧ True)) rfl ⟨trivial, trivial⟩ ?_
            refine gv_get hD rfl rfl S_61 ⟨by decide, (gz_sh B_61)⟩ (gc_hA S_61 rfl A_61_1) ?_
            show gv_X _ _ (106, [(0, .inr (.inr (some 61))), (1, .inl a1), (2, .inl a2), (3, .inl a3), (4, .inl v4_2)], [.inr (.inr (some 48)), .inr (.inr (some 52)), .inl (I 52 (Int.toNat ((I 55 (Int.toNat (a1 + v4_2))))))], sh, gc_h sh I J A)
            refine gv_get hD rfl rfl S_48 ⟨by decide, (gz_sh B_48)⟩ (gc_hA S_48 rfl A_48_9) ?_
            show gv_X _ _ (109, [(0, .inr (.inr (some 61))), (1, .inl a1), (2, .inl a2), (3, .inl a3), (4, .inl v4_2)], [.inr (.inr (some 55)), .inr (.inr (some 52)), .inl (I 52 (Int.toNat ((I 55 (Int.toNat (a1 + v4_2))))))], sh, gc_h sh I J A)
            refine gv_run 3 true hD (pcₚ := 113) (lvₚ := [(0, .inr (.inr (some 61))), (1, .inl a1), (2, .inl a2), (3, .inl a3), (4, .inl v4_2)]) (stₚ := [.inl (a2 + v4_2), .inr (.inr (some 55)), .inr (.inr (some 52)), .inl (I 52 (Int.toNat ((I 55 (Int.toNat (a1 + v4_2))))))]) (hₚ := gc_h sh I J A) (C := (((True ∧ True) ∧ True) ∧ True)) rfl ⟨⟨⟨trivial, trivial⟩, trivial⟩, trivial⟩ ?_
            have f6 := gz_hi ((gc_b_44 hI (gz_sh R_55) (Int.toNat (a2 + v4_2))))
            refine gv_iald hD rfl S_55 rfl ⟨by decide, (gz_sh B_55)⟩ ⟨by (/-11-/first | (have o1 := gz_sh hv4_2; omega) | (simp only [gz_hd] at *; omega)), by (/-12-/first | omega | (simp only [gz_hd] at *; omega))⟩ (gc_iI S_55 rfl) ?_
            show gv_X _ _ (114, [(0, .inr (.inr (some 61))), (1, .inl a1), (2, .inl a2), (3, .inl a3), (4, .inl v4_2)], [.inl (I 55 (Int.toNat (a2 + v4_2))), .inr (.inr (some 52)), .inl (I 52 (Int.toNat ((I 55 (Int.toNat (a1 + v4_2))))))], sh, gc_h sh I J A)
            have f7 := gz_hi ((gc_b_13 hI (gz_sh R_52) (Int.toNat ((I 55 (Int.toNat (a2 + v4_2)))))))
            refine gv_iald hD rfl S_52 rfl ⟨by decide, (gz_sh B_52)⟩ ⟨by (/-13-/first | (have o1 := gz_sh f6; omega) | (simp only [gz_hd] at *; omega)), by (/-14-/first | (have o1 := gz_sh f6; omega) | (simp only [gz_hd] at *; omega))⟩ (gc_iI S_52 rfl) ?_
            show gv_X _ _ (115, [(0, .inr (.inr (some 61))), (1, .inl a1), (2, .inl a2), (3, .inl a3), (4, .inl v4_2)], [.inl (I 52 (Int.toNat ((I 55 (Int.toNat (a2 + v4_2)))))), .inl (I 52 (Int.toNat ((I 55 (Int.toNat (a1 + v4_2))))))], sh, gc_h sh I J A)
            refine gv_run 3 true hD (pcₚ := 120) (lvₚ := [(5, .inl ((I 52 (Int.toNat ((I 55 (Int.toNat (a1 + v4_2)))))) - (I 52 (Int.toNat ((I 55 (Int.toNat (a2 + v4_2)))))))), (0, .inr (.inr (some 61))), (1, .inl a1), (2, .inl a2), (3, .inl a3), (4, .inl v4_2)]) (stₚ := [.inl ((I 52 (Int.toNat ((I 55 (Int.toNat (a1 + v4_2)))))) - (I 52 (Int.toNat ((I 55 (Int.toNat (a2 + v4_2)))))))]) (hₚ := gc_h sh I J A) (C := (((True ∧ True) ∧ True) ∧ True)) rfl ⟨⟨⟨trivial, trivial⟩, trivial⟩, trivial⟩ ?_
            refine gv_if_eq (t := 126) hD rfl rfl ⟨by (/-15-/first | (have o1 := gz_sh f5; have o2 := gz_sh f7; omega) | (simp only [gz_hd] at *; omega)), by (/-16-/first | (have o1 := gz_sh f5; have o2 := gz_sh f7; omega) | (simp only [gz_hd] at *; omega))⟩ (fun c8 => ?_) (fun c8 => ?_)
            · show gv_X _ _ (126, [(5, .inl ((I 52 (Int.toNat ((I 55 (Int.toNat (a1 + v4_2)))))) - (I 52 (Int.toNat ((I 55 (Int.toNat (a2 + v4_2)))))))), (0, .inr (.inr (some 61))), (1, .inl a1), (2, .inl a2), (3, .inl a3), (4, .inl v4_2)], [], sh, gc_h sh I J A)
              refine gv_run 2 true hD (pcₚ := 69) (lvₚ := [(4, .inl (v4_2 + 1)), (5, .inl ((I 52 (Int.toNat ((I 55 (Int.toNat (a1 + v4_2)))))) - (I 52 (Int.toNat ((I 55 (Int.toNat (a2 + v4_2)))))))), (0, .inr (.inr (some 61))), (1, .inl a1), (2, .inl a2), (3, .inl a3)]) (stₚ := []) (hₚ := gc_h sh I J A) (C := ((True ∧ True) ∧ True)) rfl ⟨⟨trivial, trivial⟩, trivial⟩ ?_
              refine gv_pick [2, 3, 4, 5, 0] rfl ?_
              exact ih69 (v4_2 + 1) (by (/-17-/first | (have o1 := gz_sh hv4_2; omega) | (simp only [gz_hd] at *; omega))) (by (/-18-/first | (and_intros; (omega); (omega); (omega); (omega); (omega); (omega); (have o1 := gz_sh hv4_2; omega); (omega)) | (simp only [gz_hd] at *; omega)))
            · show gv_X _ _ (123, [(5, .inl ((I 52 (Int.toNat ((I 55 (Int.toNat (a1 + v4_2)))))) - (I 52 (Int.toNat ((I 55 (Int.toNat (a2 + v4_2)))))))), (0, .inr (.inr (some 61))), (1, .inl a1), (2, .inl a2), (3, .inl a3), (4, .inl v4_2)], [], sh, gc_h sh I J A)
              refine gv_run 1 true hD (pcₚ := 125) (lvₚ := [(5, .inl ((I 52 (Int.toNat ((I 55 (Int.toNat (a1 + v4_2)))))) - (I 52 (Int.toNat ((I 55 (Int.toNat (a2 + v4_2)))))))), (0, .inr (.inr (some 61))), (1, .inl a1), (2, .inl a2), (3, .inl a3), (4, .inl v4_2)]) (stₚ := [.inl ((I 52 (Int.toNat ((I 55 (Int.toNat (a1 + v4_2)))))) - (I 52 (Int.toNat ((I 55 (Int.toNat (a2 + v4_2)))))))]) (hₚ := gc_h sh I J A) (C := (True ∧ True)) rfl ⟨trivial, trivial⟩ ?_
              exact gv_iret hD rfl ⟨rfl, ⟨_, rfl, by (/-19-/first | (and_intros; (have o1 := gz_sh f5; have o2 := gz_sh f7; omega); (have o1 := gz_sh f5; have o2 := gz_sh f7; omega)) | (simp only [gz_hd] at *; omega))⟩⟩
      refine gv_run 2 true hD (pcₚ := 6) (lvₚ := [(0, .inr (.inr (some 61))), (1, .inl a1), (2, .inl a2), (3, .inl a3), (4, .inl v4_1)]) (stₚ := [.inl a3, .inl v4_1]) (hₚ := gc_h sh I J A) (C := ((True ∧ True) ∧ True)) rfl ⟨⟨trivial, trivial⟩, trivial⟩ ?_
      refine gv_icmp_ge (t := 66) hD rfl rfl ⟨⟨by (/-20-/first | (have o1 := gz_sh hv4_1; omega) | (simp only [gz_hd] at *; omega)), by (/-21-/first | (have o1 := gz_sh hv4_1; omega) | (simp only [gz_hd] at *; omega))⟩, ⟨by (/-22-/first | omega | (simp only [gz_hd] at *; omega)), by (/-23-/first | omega | (simp only [gz_hd] at *; omega))⟩⟩ (fun c9 => ?_) (fun c9 => ?_)
      · show gv_X _ _ (66, [(0, .inr (.inr (some 61))), (1, .inl a1), (2, .inl a2), (3, .inl a3), (4, .inl v4_1)], [], sh, gc_h sh I J A)
        refine gv_run 2 true hD (pcₚ := 69) (lvₚ := [(4, .inl 0), (0, .inr (.inr (some 61))), (1, .inl a1), (2, .inl a2), (3, .inl a3)]) (stₚ := []) (hₚ := gc_h sh I J A) (C := ((True ∧ True) ∧ True)) rfl ⟨⟨trivial, trivial⟩, trivial⟩ ?_
        refine gv_pick [1, 2, 3, 4, 0] rfl ?_
        exact L69 _ 0 (Nat.lt_succ_self _) (by (/-24-/first | (and_intros <;> omega) | (simp only [gz_hd] at *; omega)))
      · show gv_X _ _ (9, [(0, .inr (.inr (some 61))), (1, .inl a1), (2, .inl a2), (3, .inl a3), (4, .inl v4_1)], [], sh, gc_h sh I J A)
        refine gv_run 1 true hD (pcₚ := 10) (lvₚ := [(0, .inr (.inr (some 61))), (1, .inl a1), (2, .inl a2), (3, .inl a3), (4, .inl v4_1)]) (stₚ := [.inr (.inr (some 61))]) (hₚ := gc_h sh I J A) (C := (True ∧ True)) rfl ⟨trivial, trivial⟩ ?_
        refine gv_get hD rfl rfl S_61 ⟨by decide, (gz_sh B_61)⟩ (gc_hA S_61 rfl A_61_1) ?_
        show gv_X _ _ (13, [(0, .inr (.inr (some 61))), (1, .inl a1), (2, .inl a2), (3, .inl a3), (4, .inl v4_1)], [.inr (.inr (some 48))], sh, gc_h sh I J A)
        refine gv_get hD rfl rfl S_48 ⟨by decide, (gz_sh B_48)⟩ (gc_hA S_48 rfl A_48_4) ?_
        show gv_X _ _ (16, [(0, .inr (.inr (some 61))), (1, .inl a1), (2, .inl a2), (3, .inl a3), (4, .inl v4_1)], [.inr (.inr (some 51))], sh, gc_h sh I J A)
        refine gv_run 1 true hD (pcₚ := 17) (lvₚ := [(0, .inr (.inr (some 61))), (1, .inl a1), (2, .inl a2), (3, .inl a3), (4, .inl v4_1)]) (stₚ := [.inr (.inr (some 61)), .inr (.inr (some 51))]) (hₚ := gc_h sh I J A) (C := (True ∧ True)) rfl ⟨trivial, trivial⟩ ?_
        refine gv_get hD rfl rfl S_61 ⟨by decide, (gz_sh B_61)⟩ (gc_hA S_61 rfl A_61_1) ?_
        show gv_X _ _ (20, [(0, .inr (.inr (some 61))), (1, .inl a1), (2, .inl a2), (3, .inl a3), (4, .inl v4_1)], [.inr (.inr (some 48)), .inr (.inr (some 51))], sh, gc_h sh I J A)
        refine gv_get hD rfl rfl S_48 ⟨by decide, (gz_sh B_48)⟩ (gc_hA S_48 rfl A_48_9) ?_
        show gv_X _ _ (23, [(0, .inr (.inr (some 61))), (1, .inl a1), (2, .inl a2), (3, .inl a3), (4, .inl v4_1)], [.inr (.inr (some 55)), .inr (.inr (some 51))], sh, gc_h sh I J A)
        refine gv_run 3 true hD (pcₚ := 27) (lvₚ := [(0, .inr (.inr (some 61))), (1, .inl a1), (2, .inl a2), (3, .inl a3), (4, .inl v4_1)]) (stₚ := [.inl (a1 + v4_1), .inr (.inr (some 55)), .inr (.inr (some 51))]) (hₚ := gc_h sh I J A) (C := (((True ∧ True) ∧ True) ∧ True)) rfl ⟨⟨⟨trivial, trivial⟩, trivial⟩, trivial⟩ ?_
        have f10 := gz_hi ((gc_b_44 hI (gz_sh R_55) (Int.toNat (a1 + v4_1))))
        refine gv_iald hD rfl S_55 rfl ⟨by decide, (gz_sh B_55)⟩ ⟨by (/-25-/first | (have o1 := gz_sh hv4_1; omega) | (simp only [gz_hd] at *; omega)), by (/-26-/first | omega | (simp only [gz_hd] at *; omega))⟩ (gc_iI S_55 rfl) ?_
        show gv_X _ _ (28, [(0, .inr (.inr (some 61))), (1, .inl a1), (2, .inl a2), (3, .inl a3), (4, .inl v4_1)], [.inl (I 55 (Int.toNat (a1 + v4_1))), .inr (.inr (some 51))], sh, gc_h sh I J A)
        have f11 := gz_hi ((gc_b_45 hI (gz_sh R_51) (Int.toNat ((I 55 (Int.toNat (a1 + v4_1)))))))
        refine gv_iald hD rfl S_51 rfl ⟨by decide, (gz_sh B_51)⟩ ⟨by (/-27-/first | (have o1 := gz_sh f10; omega) | (simp only [gz_hd] at *; omega)), by (/-28-/first | (have o1 := gz_sh f10; omega) | (simp only [gz_hd] at *; omega))⟩ (gc_iI S_51 rfl) ?_
        show gv_X _ _ (29, [(0, .inr (.inr (some 61))), (1, .inl a1), (2, .inl a2), (3, .inl a3), (4, .inl v4_1)], [.inl (I 51 (Int.toNat ((I 55 (Int.toNat (a1 + v4_1))))))], sh, gc_h sh I J A)
        refine gv_run 1 true hD (pcₚ := 30) (lvₚ := [(0, .inr (.inr (some 61))), (1, .inl a1), (2, .inl a2), (3, .inl a3), (4, .inl v4_1)]) (stₚ := [.inr (.inr (some 61)), .inl (I 51 (Int.toNat ((I 55 (Int.toNat (a1 + v4_1))))))]) (hₚ := gc_h sh I J A) (C := (True ∧ True)) rfl ⟨trivial, trivial⟩ ?_
        refine gv_get hD rfl rfl S_61 ⟨by decide, (gz_sh B_61)⟩ (gc_hA S_61 rfl A_61_1) ?_
        show gv_X _ _ (33, [(0, .inr (.inr (some 61))), (1, .inl a1), (2, .inl a2), (3, .inl a3), (4, .inl v4_1)], [.inr (.inr (some 48)), .inl (I 51 (Int.toNat ((I 55 (Int.toNat (a1 + v4_1))))))], sh, gc_h sh I J A)
        refine gv_get hD rfl rfl S_48 ⟨by decide, (gz_sh B_48)⟩ (gc_hA S_48 rfl A_48_4) ?_
        show gv_X _ _ (36, [(0, .inr (.inr (some 61))), (1, .inl a1), (2, .inl a2), (3, .inl a3), (4, .inl v4_1)], [.inr (.inr (some 51)), .inl (I 51 (Int.toNat ((I 55 (Int.toNat (a1 + v4_1))))))], sh, gc_h sh I J A)
        refine gv_run 1 true hD (pcₚ := 37) (lvₚ := [(0, .inr (.inr (some 61))), (1, .inl a1), (2, .inl a2), (3, .inl a3), (4, .inl v4_1)]) (stₚ := [.inr (.inr (some 61)), .inr (.inr (some 51)), .inl (I 51 (Int.toNat ((I 55 (Int.toNat (a1 + v4_1))))))]) (hₚ := gc_h sh I J A) (C := (True ∧ True)) rfl ⟨trivial, trivial⟩ ?_
        refine gv_get hD rfl rfl S_61 ⟨by decide, (gz_sh B_61)⟩ (gc_hA S_61 rfl A_61_1) ?_
        show gv_X _ _ (40, [(0, .inr (.inr (some 61))), (1, .inl a1), (2, .inl a2), (3, .inl a3), (4, .inl v4_1)], [.inr (.inr (some 48)), .inr (.inr (some 51)), .inl (I 51 (Int.toNat ((I 55 (Int.toNat (a1 + v4_1))))))], sh, gc_h sh I J A)
        refine gv_get hD rfl rfl S_48 ⟨by decide, (gz_sh B_48)⟩ (gc_hA S_48 rfl A_48_9) ?_
        show gv_X _ _ (43, [(0, .inr (.inr (some 61))), (1, .inl a1), (2, .inl a2), (3, .inl a3), (4, .inl v4_1)], [.inr (.inr (some 55)), .inr (.inr (some 51)), .inl (I 51 (Int.toNat ((I 55 (Int.toNat (a1 + v4_1))))))], sh, gc_h sh I J A)
        refine gv_run 3 true hD (pcₚ := 47) (lvₚ := [(0, .inr (.inr (some 61))), (1, .inl a1), (2, .inl a2), (3, .inl a3), (4, .inl v4_1)]) (stₚ := [.inl (a2 + v4_1), .inr (.inr (some 55)), .inr (.inr (some 51)), .inl (I 51 (Int.toNat ((I 55 (Int.toNat (a1 + v4_1))))))]) (hₚ := gc_h sh I J A) (C := (((True ∧ True) ∧ True) ∧ True)) rfl ⟨⟨⟨trivial, trivial⟩, trivial⟩, trivial⟩ ?_
        have f12 := gz_hi ((gc_b_44 hI (gz_sh R_55) (Int.toNat (a2 + v4_1))))
        refine gv_iald hD rfl S_55 rfl ⟨by decide, (gz_sh B_55)⟩ ⟨by (/-29-/first | (have o1 := gz_sh hv4_1; omega) | (simp only [gz_hd] at *; omega)), by (/-30-/first | omega | (simp only [gz_hd] at *; omega))⟩ (gc_iI S_55 rfl) ?_
        show gv_X _ _ (48, [(0, .inr (.inr (some 61))), (1, .inl a1), (2, .inl a2), (3, .inl a3), (4, .inl v4_1)], [.inl (I 55 (Int.toNat (a2 + v4_1))), .inr (.inr (some 51)), .inl (I 51 (Int.toNat ((I 55 (Int.toNat (a1 + v4_1))))))], sh, gc_h sh I J A)
        have f13 := gz_hi ((gc_b_45 hI (gz_sh R_51) (Int.toNat ((I 55 (Int.toNat (a2 + v4_1)))))))
        refine gv_iald hD rfl S_51 rfl ⟨by decide, (gz_sh B_51)⟩ ⟨by (/-31-/first | (have o1 := gz_sh f12; omega) | (simp only [gz_hd] at *; omega)), by (/-32-/first | (have o1 := gz_sh f12; omega) | (simp only [gz_hd] at *; omega))⟩ (gc_iI S_51 rfl) ?_
        show gv_X _ _ (49, [(0, .inr (.inr (some 61))), (1, .inl a1), (2, .inl a2), (3, .inl a3), (4, .inl v4_1)], [.inl (I 51 (Int.toNat ((I 55 (Int.toNat (a2 + v4_1)))))), .inl (I 51 (Int.toNat ((I 55 (Int.toNat (a1 + v4_1))))))], sh, gc_h sh I J A)
        refine gv_run 3 true hD (pcₚ := 54) (lvₚ := [(5, .inl ((I 51 (Int.toNat ((I 55 (Int.toNat (a1 + v4_1)))))) - (I 51 (Int.toNat ((I 55 (Int.toNat (a2 + v4_1)))))))), (0, .inr (.inr (some 61))), (1, .inl a1), (2, .inl a2), (3, .inl a3), (4, .inl v4_1)]) (stₚ := [.inl ((I 51 (Int.toNat ((I 55 (Int.toNat (a1 + v4_1)))))) - (I 51 (Int.toNat ((I 55 (Int.toNat (a2 + v4_1)))))))]) (hₚ := gc_h sh I J A) (C := (((True ∧ True) ∧ True) ∧ True)) rfl ⟨⟨⟨trivial, trivial⟩, trivial⟩, trivial⟩ ?_
        refine gv_if_eq (t := 60) hD rfl rfl ⟨by (/-33-/first | (have o1 := gz_sh f11; have o2 := gz_sh f13; omega) | (simp only [gz_hd] at *; omega)), by (/-34-/first | (have o1 := gz_sh f11; have o2 := gz_sh f13; omega) | (simp only [gz_hd] at *; omega))⟩ (fun c14 => ?_) (fun c14 => ?_)
        · show gv_X _ _ (60, [(5, .inl ((I 51 (Int.toNat ((I 55 (Int.toNat (a1 + v4_1)))))) - (I 51 (Int.toNat ((I 55 (Int.toNat (a2 + v4_1)))))))), (0, .inr (.inr (some 61))), (1, .inl a1), (2, .inl a2), (3, .inl a3), (4, .inl v4_1)], [], sh, gc_h sh I J A)
          refine gv_run 2 true hD (pcₚ := 3) (lvₚ := [(4, .inl (v4_1 + 1)), (5, .inl ((I 51 (Int.toNat ((I 55 (Int.toNat (a1 + v4_1)))))) - (I 51 (Int.toNat ((I 55 (Int.toNat (a2 + v4_1)))))))), (0, .inr (.inr (some 61))), (1, .inl a1), (2, .inl a2), (3, .inl a3)]) (stₚ := []) (hₚ := gc_h sh I J A) (C := ((True ∧ True) ∧ True)) rfl ⟨⟨trivial, trivial⟩, trivial⟩ ?_
          refine gv_pick [2, 3, 4, 5, 0] rfl ?_
          exact ih3 (v4_1 + 1) (by (/-35-/first | (have o1 := gz_sh hv4_1; omega) | (simp only [gz_hd] at *; omega))) (by (/-36-/first | (and_intros; (omega); (omega); (omega); (omega); (omega); (omega); (have o1 := gz_sh hv4_1; omega); (omega)) | (simp only [gz_hd] at *; omega)))
        · show gv_X _ _ (57, [(5, .inl ((I 51 (Int.toNat ((I 55 (Int.toNat (a1 + v4_1)))))) - (I 51 (Int.toNat ((I 55 (Int.toNat (a2 + v4_1)))))))), (0, .inr (.inr (some 61))), (1, .inl a1), (2, .inl a2), (3, .inl a3), (4, .inl v4_1)], [], sh, gc_h sh I J A)
          refine gv_run 1 true hD (pcₚ := 59) (lvₚ := [(5, .inl ((I 51 (Int.toNat ((I 55 (Int.toNat (a1 + v4_1)))))) - (I 51 (Int.toNat ((I 55 (Int.toNat (a2 + v4_1)))))))), (0, .inr (.inr (some 61))), (1, .inl a1), (2, .inl a2), (3, .inl a3), (4, .inl v4_1)]) (stₚ := [.inl ((I 51 (Int.toNat ((I 55 (Int.toNat (a1 + v4_1)))))) - (I 51 (Int.toNat ((I 55 (Int.toNat (a2 + v4_1)))))))]) (hₚ := gc_h sh I J A) (C := (True ∧ True)) rfl ⟨trivial, trivial⟩ ?_
          exact gv_iret hD rfl ⟨rfl, ⟨_, rfl, by (/-37-/first | (and_intros; (have o1 := gz_sh f11; have o2 := gz_sh f13; omega); (have o1 := gz_sh f11; have o2 := gz_sh f13; omega)) | (simp only [gz_hd] at *; omega))⟩⟩
  refine gv_run 2 true hD (pcₚ := 3) (lvₚ := [(4, .inl 0), (0, .inr (.inr (some 61))), (1, .inl a1), (2, .inl a2), (3, .inl a3)]) (stₚ := []) (hₚ := gc_h sh I J A) (C := ((True ∧ True) ∧ True)) rfl ⟨⟨trivial, trivial⟩, trivial⟩ ?_
  refine gv_pick [1, 2, 3, 4, 0] rfl ?_
  exact L3 _ 0 (Nat.lt_succ_self _) (by (/-38-/first | (and_intros <;> omega) | (simp only [gz_hd] at *; omega)))
