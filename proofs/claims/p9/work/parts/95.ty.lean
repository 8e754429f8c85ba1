/-! PARITY, the class's side: a module's begin -/
set_option maxHeartbeats 8000000 in
set_option maxRecDepth 100000 in
theorem d_X9_rewind_p {ws0 : List Cond} {tb : String → gz_T} (hws : gc_Ws ws0) (htb : gc_tbs tb) (sh : gz_Sh) (ro : Nat → Nat) (I : gr_I) (J : gr_J) (A : gc_A) (hI : gc_Inv ro I) (p : Nat) (β : Int → Int) (η : Int)  (hp : gc_isText sh ro A p)  (x0 : gs_TX β η (I (p + 1))) (x1 : η = I p 1) : ∃ r hₚ, gz_Ev ws0 tb 3 (yX9_rewind, cX9_rewind, 1, none) [.inr (.inr (some p))] sh (gc_h sh I J A) r sh hₚ 0 0 ∧ (∃ (Iₚ : gr_I) (Jₚ : gr_J), hₚ = gc_h sh Iₚ Jₚ A ∧ gc_Inv ro Iₚ ∧ (∀ q j : Nat, ((q = p ∧ j = 5) ∨ (q = p ∧ j = 6) ∨ (q = p ∧ j = 7) ∨ (q = p ∧ j = 8)) ∨ Iₚ q j = I q j) ∧ (∀ q j : Nat, ((q = p ∧ j = 9)) ∨ Jₚ q j = J q j) ∧ r = none ∧ (Iₚ p 5 ≤ Iₚ p 6) ∧ (Iₚ p 7 = 5 ∨ Iₚ p 6 ≤ Iₚ p 1) ∧ (Iₚ p 5 ≤ Iₚ p 1) ∧ (Iₚ p 7 = 4 ∨ (Iₚ p 5 < Iₚ p 6 ∧ Iₚ p 5 < Iₚ p 1)) ∧ (Iₚ p 7 = 3 → 2 ≤ Iₚ p 6 - Iₚ p 5 ∧ Iₚ p 6 - Iₚ p 5 ≤ 14) ∧ (Iₚ p 1 = I p 1) ∧ (Iₚ p 7 = 3 → gc_lt p Iₚ (Iₚ p 5) (Iₚ p 6 - 1)) ∧ (gc_AT β η 0 p Iₚ Jₚ)) := by
  have FI : ∀ q j : Nat, ((q = p ∧ j = 5) ∨ (q = p ∧ j = 6) ∨ (q = p ∧ j = 7) ∨ (q = p ∧ j = 8)) ∨ I q j = I q j := fun _ _ => Or.inr rfl
  have FJ : ∀ q j : Nat, ((q = p ∧ j = 9)) ∨ J q j = J q j := fun _ _ => Or.inr rfl
  obtain ⟨S_p, R_p, B_p, A_p_0, S_p_1, R_p_1, B_p_1, A_p_2, S_p_2, R_p_2, B_p_2, A_p_3, S_p_3, R_p_3, B_p_3⟩ := id hp
  replace R_p := gz_hi R_p
  replace B_p := gz_hi B_p
  replace R_p_1 := gz_hi R_p_1
  replace B_p_1 := gz_hi B_p_1
  replace R_p_2 := gz_hi R_p_2
  replace B_p_2 := gz_hi B_p_2
  replace R_p_3 := gz_hi R_p_3
  replace B_p_3 := gz_hi B_p_3
  have hD : gv_D (gc_E9 ws0 tb 2 (yX9_rewind, cX9_rewind, 1, none) kX9_rewind) := gq_of oX9_rewind
  refine gc_ev9 (d := 2) (l := kX9_rewind) (Po := fun r hₚ => (∃ (Iₚ : gr_I) (Jₚ : gr_J), hₚ = gc_h sh Iₚ Jₚ A ∧ gc_Inv ro Iₚ ∧ (∀ q j : Nat, ((q = p ∧ j = 5) ∨ (q = p ∧ j = 6) ∨ (q = p ∧ j = 7) ∨ (q = p ∧ j = 8)) ∨ Iₚ q j = I q j) ∧ (∀ q j : Nat, ((q = p ∧ j = 9)) ∨ Jₚ q j = J q j) ∧ r = none ∧ (Iₚ p 5 ≤ Iₚ p 6) ∧ (Iₚ p 7 = 5 ∨ Iₚ p 6 ≤ Iₚ p 1) ∧ (Iₚ p 5 ≤ Iₚ p 1) ∧ (Iₚ p 7 = 4 ∨ (Iₚ p 5 < Iₚ p 6 ∧ Iₚ p 5 < Iₚ p 1)) ∧ (Iₚ p 7 = 3 → 2 ≤ Iₚ p 6 - Iₚ p 5 ∧ Iₚ p 6 - Iₚ p 5 ≤ 14) ∧ (Iₚ p 1 = I p 1) ∧ (Iₚ p 7 = 3 → gc_lt p Iₚ (Iₚ p 5) (Iₚ p 6 - 1)) ∧ (gc_AT β η 0 p Iₚ Jₚ))) htb rfl (Nat.le_of_ble_eq_true rfl) ?_
  have f1 := gz_hi ((show 0 ≤ I p 1 ∧ I p 1 ≤ 1000 from gc_in2 hI (gz_sh R_p) rfl rfl rfl))
  refine gv_run 2 true hD (pcₚ := 2) (lvₚ := [(0, .inr (.inr (some p)))]) (stₚ := [.inl 0, .inr (.inr (some p))]) (hₚ := gc_h sh I J A) (C := ((True ∧ True) ∧ True)) rfl ⟨⟨trivial, trivial⟩, trivial⟩ ?_
  refine gv_put hD rfl rfl S_p ⟨by decide, (gz_sh B_p)⟩ rfl trivial ?_
  refine gc_st (k := 6) hI S_p rfl (gz_sh R_p) (lo := 0) (hi := 1001) rfl rfl (by (/-0-/first | omega | (simp only [gz_hd] at *; omega))) (by (/-1-/first | omega | (simp only [gz_hd] at *; omega))) (fun I5 hI5 q6 p6 => ?_)
  have FI5 := gc_frs (W := fun q j => (q = p ∧ j = 5) ∨ (q = p ∧ j = 6) ∨ (q = p ∧ j = 7) ∨ (q = p ∧ j = 8)) FI (Or.inr (Or.inl ⟨rfl, rfl⟩)) p6
  have t7 := gz_hi (p6 p 1 (fun h => absurd h.2 (by first | exact gz_ne rfl | decide)))
  show gv_X _ _ (5, [(0, .inr (.inr (some p)))], [], sh, gc_h sh I5 J A)
  refine gv_run 1 true hD (pcₚ := 6) (lvₚ := [(0, .inr (.inr (some p)))]) (stₚ := [.inr (.inr (some p))]) (hₚ := gc_h sh I5 J A) (C := (True ∧ True)) rfl ⟨trivial, trivial⟩ ?_
  obtain ⟨r11, h11, E11, P11⟩ := d_X9_advance_p (ws0 := ws0) (tb := tb) hws htb sh ro I5 J A hI5 p β η  hp    (by (/-2-/first | (have o1 := gz_sh f1; have o2 := gz_sh t7; omega) | (simp only [gz_hd] at *; omega))) (by rw [show I5 (p + 1) = I (p + 1) from funext fun k => (FI5 (p + 1) k).resolve_left (by (/-3-/first | omega | (simp only [gz_hd] at *; omega)))]; exact x0) (by (/-4-/first | (have o1 := gz_sh t7; omega) | (simp only [gz_hd] at *; omega))) 
  obtain ⟨I12, J13, rfl, hI12, g11, k11, ⟨rfl, V11_0, V11_1, V11_2, V11_3, V11_4, q11⟩⟩ := P11
  replace q11 := gz_hi q11
  have FI12 := gc_frc (W := fun q j => (q = p ∧ j = 5) ∨ (q = p ∧ j = 6) ∨ (q = p ∧ j = 7) ∨ (q = p ∧ j = 8)) (V := fun q j => (q = p ∧ j = 5) ∨ (q = p ∧ j = 6) ∨ (q = p ∧ j = 7) ∨ (q = p ∧ j = 8)) FI5 (fun q j h => (h.elim (fun h => (Or.inl h)) (fun h => (h.elim (fun h => (Or.inr (Or.inl h))) (fun h => (h.elim (fun h => (Or.inr (Or.inr (Or.inl h)))) (fun h => (Or.inr (Or.inr (Or.inr h)))))))))) g11
  have FJ13 := gc_frc (W := fun q j => (q = p ∧ j = 9)) (V := fun q j => (q = p ∧ j = 9)) FJ (fun q j h => h) k11
  refine gv_callV hD rfl (As := []) (st := []) rfl (gz_sh B_p) S_p rfl (gc_lV9 hws rfl) (Nat.le_of_ble_eq_true rfl) (gz_Ev_mono (d := 2) (by decide) E11) ?_
  show gv_X _ _ (9, [(0, .inr (.inr (some p)))], [], sh, gc_h sh I12 J13 A)
  exact gv_vret hD rfl ⟨I12, J13, rfl, hI12, FI12, FJ13, ⟨rfl, by (/-5-/first | omega | (simp only [gz_hd] at *; omega)), by (/-6-/first | omega | (simp only [gz_hd] at *; omega)), by (/-7-/first | omega | (simp only [gz_hd] at *; omega)), by (/-8-/first | omega | (simp only [gz_hd] at *; omega)), by (/-9-/first | omega | (simp only [gz_hd] at *; omega)), by (/-10-/first | (have o1 := gz_sh q11; have o2 := gz_sh t7; omega) | (simp only [gz_hd] at *; omega)), (gz_sh q11).2.2.1, (by have h9 := (gz_sh q11).2.2.2; rw [show I5 p 6 = 0 from by (/-11-/first | omega | (simp only [gz_hd] at *; omega))] at h9; exact h9)⟩⟩
set_option maxHeartbeats 8000000 in
set_option maxRecDepth 100000 in
theorem d_X8_mark_w_p {ws0 : List Cond} {tb : String → gz_T} (hws : gc_Ws ws0) (htb : gc_tbs tb) (sh : gz_Sh) (ro : Nat → Nat) (I : gr_I) (J : gr_J) (A : gc_A) (hI : gc_Inv ro I)  (hb : gc_Base sh ro A)  (x0 : gc_Ts sh ro A I) : ∃ r hₚ, gz_Ev ws0 tb 2 (yX8_mark, cX8_mark, 2, none) [.inr (.inr (some 1))] sh (gc_h sh I J A) r sh hₚ 0 0 ∧ (∃ (Iₚ : gr_I) (Jₚ : gr_J), hₚ = gc_h sh Iₚ Jₚ A ∧ gc_Inv ro Iₚ ∧ (∀ q j : Nat, ((q = 1 ∧ j = 18) ∨ q = 21) ∨ Iₚ q j = I q j) ∧ (∀ q j : Nat, (False) ∨ Jₚ q j = J q j) ∧ r = none ∧ (Iₚ 21 0 = I 2 1) ∧ (Iₚ 21 1 = I 4 1) ∧ (Iₚ 21 2 = I 6 1) ∧ (Iₚ 21 3 = I 8 1) ∧ (Iₚ 21 4 = I 1 13) ∧ (Iₚ 21 5 = I 1 17) ∧ (Iₚ 21 6 = I 1 5) ∧ (gc_mkT A I Iₚ (I 8 1)) ∧ (∀ f : Nat, f < 96 → Iₚ 21 (63 + f) = I 15 f) ∧ (Iₚ 1 18 = 0)) := by
  have FI : ∀ q j : Nat, ((q = 1 ∧ j = 18) ∨ q = 21) ∨ I q j = I q j := fun _ _ => Or.inr rfl
  have FJ : ∀ q j : Nat, (False) ∨ J q j = J q j := fun _ _ => Or.inr rfl
  have A_1_0 : A 1 0 = some 2 := gc_bA_1_0 hb
  have A_1_1 : A 1 1 = some 4 := gc_bA_1_1 hb
  have A_1_10 : A 1 10 = some 15 := gc_bA_1_10 hb
  have A_1_19 : A 1 19 = some 21 := gc_bA_1_19 hb
  have A_1_2 : A 1 2 = some 6 := gc_bA_1_2 hb
  have A_1_3 : A 1 3 = some 8 := gc_bA_1_3 hb
  have A_1_4 : A 1 4 = some 10 := gc_bA_1_4 hb
  have B_1 := gz_hi (show 1 < 1000000 from by decide)
  have B_10 := gz_hi (show 10 < 1000000 from by decide)
  have B_15 := gz_hi (show 15 < 1000000 from by decide)
  have B_2 := gz_hi (show 2 < 1000000 from by decide)
  have B_21 := gz_hi (show 21 < 1000000 from by decide)
  have B_4 := gz_hi (show 4 < 1000000 from by decide)
  have B_6 := gz_hi (show 6 < 1000000 from by decide)
  have B_8 := gz_hi (show 8 < 1000000 from by decide)
  have R_1 := gz_hi (show ro 1 = 22 from gc_bR_1 hb)
  have R_15 := gz_hi (show ro 15 = 28 from gc_bR_15 hb)
  have R_2 := gz_hi (show ro 2 = 9 from gc_bR_2 hb)
  have R_21 := gz_hi (show ro 21 = 70 from gc_bR_21 hb)
  have R_4 := gz_hi (show ro 4 = 11 from gc_bR_4 hb)
  have R_6 := gz_hi (show ro 6 = 6 from gc_bR_6 hb)
  have R_8 := gz_hi (show ro 8 = 6 from gc_bR_8 hb)
  have S_1 : sh[1]? = some (false, 8, 21) := gc_bS_1 hb
  have S_10 : sh[10]? = some (true, 5, 8) := gc_bS_10 hb
  have S_15 : sh[15]? = some (true, 1, 96) := gc_bS_15 hb
  have S_2 : sh[2]? = some (false, 4, 2) := gc_bS_2 hb
  have S_21 : sh[21]? = some (true, 1, 159) := gc_bS_21 hb
  have S_4 : sh[4]? = some (false, 4, 2) := gc_bS_4 hb
  have S_6 : sh[6]? = some (false, 4, 2) := gc_bS_6 hb
  have S_8 : sh[8]? = some (false, 4, 2) := gc_bS_8 hb
  have hD : gv_D (gc_E8 ws0 tb 1 (yX8_mark, cX8_mark, 2, none) kX8_mark) := gq_of oX8_mark
  refine gc_ev8 (d := 1) (l := kX8_mark) (Po := fun r hₚ => (∃ (Iₚ : gr_I) (Jₚ : gr_J), hₚ = gc_h sh Iₚ Jₚ A ∧ gc_Inv ro Iₚ ∧ (∀ q j : Nat, ((q = 1 ∧ j = 18) ∨ q = 21) ∨ Iₚ q j = I q j) ∧ (∀ q j : Nat, (False) ∨ Jₚ q j = J q j) ∧ r = none ∧ (Iₚ 21 0 = I 2 1) ∧ (Iₚ 21 1 = I 4 1) ∧ (Iₚ 21 2 = I 6 1) ∧ (Iₚ 21 3 = I 8 1) ∧ (Iₚ 21 4 = I 1 13) ∧ (Iₚ 21 5 = I 1 17) ∧ (Iₚ 21 6 = I 1 5) ∧ (gc_mkT A I Iₚ (I 8 1)) ∧ (∀ f : Nat, f < 96 → Iₚ 21 (63 + f) = I 15 f) ∧ (Iₚ 1 18 = 0))) htb rfl (Nat.le_of_ble_eq_true rfl) ?_
  have f8 := gz_hi ((gc_b_9_1 hI (gz_sh R_2)))
  have f9 := gz_hi ((gc_b_11_1 hI (gz_sh R_4)))
  have f10 := gz_hi ((gc_b_6_1 hI (gz_sh R_6)))
  have f11 := gz_hi ((gc_b_6_1 hI (gz_sh R_8)))
  have f12 := gz_hi ((gc_b_22_13 hI (gz_sh R_1)))
  have f13 := gz_hi ((gc_b_22_17 hI (gz_sh R_1)))
  have f14 := gz_hi ((gc_b_22_5 hI (gz_sh R_1)))
  have L90 : ∀ (n9 : Nat) (I16 : gr_I) (J17 : gr_J) (v1_18 : Int), (9 - v1_18).toNat < n9 → gc_Inv ro I16 → (∀ q j : Nat, ((q = 1 ∧ j = 18) ∨ q = 21) ∨ I16 q j = I q j) → (∀ q j : Nat, (False) ∨ J17 q j = J q j) → ((0 ≤ v1_18 ∧ v1_18 ≤ 8) ∧ (I16 21 0 = I 2 1) ∧ (I16 21 1 = I 4 1) ∧ (I16 21 2 = I 6 1) ∧ (I16 21 3 = I 8 1) ∧ (I16 21 4 = I 1 13) ∧ (I16 21 5 = I 1 17) ∧ (I16 21 6 = I 1 5) ∧ (I16 8 1 = I 8 1) ∧ (I16 1 18 = 0)) → (gc_mkT A I I16 v1_18) → gv_X (gc_E8 ws0 tb 1 (yX8_mark, cX8_mark, 2, none) kX8_mark) (gv_Q cX8_mark none sh (fun r hₚ => (∃ (Iₚ : gr_I) (Jₚ : gr_J), hₚ = gc_h sh Iₚ Jₚ A ∧ gc_Inv ro Iₚ ∧ (∀ q j : Nat, ((q = 1 ∧ j = 18) ∨ q = 21) ∨ Iₚ q j = I q j) ∧ (∀ q j : Nat, (False) ∨ Jₚ q j = J q j) ∧ r = none ∧ (Iₚ 21 0 = I 2 1) ∧ (Iₚ 21 1 = I 4 1) ∧ (Iₚ 21 2 = I 6 1) ∧ (Iₚ 21 3 = I 8 1) ∧ (Iₚ 21 4 = I 1 13) ∧ (Iₚ 21 5 = I 1 17) ∧ (Iₚ 21 6 = I 1 5) ∧ (gc_mkT A I Iₚ (I 8 1)) ∧ (∀ f : Nat, f < 96 → Iₚ 21 (63 + f) = I 15 f) ∧ (Iₚ 1 18 = 0)))) (90, [(0, .inr (.inr (some 1))), (1, .inl v1_18)], [], sh, gc_h sh I16 J17 A) := by
    intro n9
    induction n9 with
    | zero => intro I16 J17 v1_18 hn; (/-0-/first | omega | (simp only [gz_hd] at *; omega))
    | succ n9 ih90 =>
      intro I16 J17 v1_18 hn hI16 FI16 FJ17 m_18 e0_18
      obtain ⟨hv1_18, e1_18, e2_18, e3_18, e4_18, e5_18, e6_18, e7_18, e8_18, e9_18⟩ := gz_h10 m_18
      refine gv_run 2 true hD (pcₚ := 92) (lvₚ := [(0, .inr (.inr (some 1))), (1, .inl v1_18)]) (stₚ := [.inr (.inr (some 1)), .inl v1_18]) (hₚ := gc_h sh I16 J17 A) (C := ((True ∧ True) ∧ True)) rfl ⟨⟨trivial, trivial⟩, trivial⟩ ?_
      refine gv_get hD rfl rfl S_1 ⟨by decide, (gz_sh B_1)⟩ (gc_hA S_1 rfl A_1_3) ?_
      show gv_X _ _ (95, [(0, .inr (.inr (some 1))), (1, .inl v1_18)], [.inr (.inr (some 8)), .inl v1_18], sh, gc_h sh I16 J17 A)
      refine gv_get hD rfl rfl S_8 ⟨by decide, (gz_sh B_8)⟩ (gc_hI S_8 rfl) ?_
      show gv_X _ _ (98, [(0, .inr (.inr (some 1))), (1, .inl v1_18)], [.inl (I16 8 1), .inl v1_18], sh, gc_h sh I16 J17 A)
      refine gv_icmp_ge (t := 127) hD rfl rfl ⟨⟨by (/-1-/first | (have o1 := gz_sh hv1_18; omega) | (simp only [gz_hd] at *; omega)), by (/-2-/first | (have o1 := gz_sh hv1_18; omega) | (simp only [gz_hd] at *; omega))⟩, ⟨by (/-3-/first | (have o1 := gz_sh e8_18; have o2 := gz_sh f11; omega) | (simp only [gz_hd] at *; omega)), by (/-4-/first | (have o1 := gz_sh e8_18; have o2 := gz_sh f11; omega) | (simp only [gz_hd] at *; omega))⟩⟩ (fun c35 => ?_) (fun c35 => ?_)
      · show gv_X _ _ (127, [(0, .inr (.inr (some 1))), (1, .inl v1_18)], [], sh, gc_h sh I16 J17 A)
        refine gv_run 1 true hD (pcₚ := 128) (lvₚ := [(0, .inr (.inr (some 1))), (1, .inl v1_18)]) (stₚ := [.inr (.inr (some 1))]) (hₚ := gc_h sh I16 J17 A) (C := (True ∧ True)) rfl ⟨trivial, trivial⟩ ?_
        refine gv_get hD rfl rfl S_1 ⟨by decide, (gz_sh B_1)⟩ (gc_hA S_1 rfl A_1_10) ?_
        show gv_X _ _ (131, [(0, .inr (.inr (some 1))), (1, .inl v1_18)], [.inr (.inr (some 15))], sh, gc_h sh I16 J17 A)
        refine gv_run 2 true hD (pcₚ := 133) (lvₚ := [(0, .inr (.inr (some 1))), (1, .inl v1_18)]) (stₚ := [.inr (.inr (some 1)), .inl 0, .inr (.inr (some 15))]) (hₚ := gc_h sh I16 J17 A) (C := ((True ∧ True) ∧ True)) rfl ⟨⟨trivial, trivial⟩, trivial⟩ ?_
        refine gv_get hD rfl rfl S_1 ⟨by decide, (gz_sh B_1)⟩ (gc_hA S_1 rfl A_1_19) ?_
        show gv_X _ _ (136, [(0, .inr (.inr (some 1))), (1, .inl v1_18)], [.inr (.inr (some 21)), .inl 0, .inr (.inr (some 15))], sh, gc_h sh I16 J17 A)
        refine gv_run 2 true hD (pcₚ := 140) (lvₚ := [(0, .inr (.inr (some 1))), (1, .inl v1_18)]) (stₚ := [.inl 96, .inl 63, .inr (.inr (some 21)), .inl 0, .inr (.inr (some 15))]) (hₚ := gc_h sh I16 J17 A) (C := ((True ∧ True) ∧ True)) rfl ⟨⟨trivial, trivial⟩, trivial⟩ ?_
        refine gv_copy hD rfl (gc_lC8_95 hws) (Nat.le_of_ble_eq_true rfl) ⟨(gz_sh B_15), (gz_sh B_21)⟩ S_15 S_21 (by decide) ⟨by decide, by decide⟩ ⟨by (/-5-/first | omega | (simp only [gz_hd] at *; omega)), by (/-6-/first | omega | (simp only [gz_hd] at *; omega)), by (/-7-/first | omega | (simp only [gz_hd] at *; omega))⟩ (by (/-8-/first | omega | (simp only [gz_hd] at *; omega))) (by (/-9-/first | omega | (simp only [gz_hd] at *; omega))) (fun h => absurd h (by first | exact gz_ne rfl | decide)) ?_
        refine gc_cp hI16 S_15 S_21 (by decide) (fun j hj => by have h9 := (gc_b_28 hI16 (gz_sh R_15) (Int.toNat 0 + j)); rw [(gz_sh R_21)]; exact ⟨by show (-1) ≤ _; (/-10-/first | omega | (simp only [gz_hd] at *; omega)), by show _ ≤ 12000; (/-11-/first | omega | (simp only [gz_hd] at *; omega))⟩) (fun I37 hI37 p36 q36 => ?_)
        have FI37 := gc_frp (W := fun q j => (q = 1 ∧ j = 18) ∨ q = 21) (V := fun q j => q = 21 ∧ Int.toNat 63 ≤ j ∧ j < Int.toNat 63 + Int.toNat 96) FI16 (fun q j h => (Or.inr h.1)) p36
        have t39 := gz_hi (p36 21 0 (fun h => by have := h.2; (/-12-/first | omega | (simp only [gz_hd] at *; omega))))
        have t40 := gz_hi (p36 21 1 (fun h => by have := h.2; (/-13-/first | omega | (simp only [gz_hd] at *; omega))))
        have t41 := gz_hi (p36 21 2 (fun h => by have := h.2; (/-14-/first | omega | (simp only [gz_hd] at *; omega))))
        have t42 := gz_hi (p36 21 3 (fun h => by have := h.2; (/-15-/first | omega | (simp only [gz_hd] at *; omega))))
        have t43 := gz_hi (p36 21 4 (fun h => by have := h.2; (/-16-/first | omega | (simp only [gz_hd] at *; omega))))
        have t44 := gz_hi (p36 21 5 (fun h => by have := h.2; (/-17-/first | omega | (simp only [gz_hd] at *; omega))))
        have t45 := gz_hi (p36 21 6 (fun h => by have := h.2; (/-18-/first | omega | (simp only [gz_hd] at *; omega))))
        have t49 := gz_hi (p36 8 1 (fun h => absurd h.1 (by first | exact gz_ne rfl | decide)))
        have t53 := gz_hi (p36 1 18 (fun h => absurd h.1 (by first | exact gz_ne rfl | decide)))
        show gv_X _ _ (143, [(0, .inr (.inr (some 1))), (1, .inl v1_18)], [], sh, gc_h sh I37 J17 A)
        exact gv_vret hD rfl ⟨I37, J17, rfl, hI37, FI37, FJ17, ⟨rfl, by (/-19-/first | (have o1 := gz_sh e1_18; have o2 := gz_sh t39; omega) | (simp only [gz_hd] at *; omega)), by (/-20-/first | (have o1 := gz_sh e2_18; have o2 := gz_sh t40; omega) | (simp only [gz_hd] at *; omega)), by (/-21-/first | (have o1 := gz_sh e3_18; have o2 := gz_sh t41; omega) | (simp only [gz_hd] at *; omega)), by (/-22-/first | (have o1 := gz_sh e4_18; have o2 := gz_sh t42; omega) | (simp only [gz_hd] at *; omega)), by (/-23-/first | (have o1 := gz_sh e5_18; have o2 := gz_sh t43; omega) | (simp only [gz_hd] at *; omega)), by (/-24-/first | (have o1 := gz_sh e6_18; have o2 := gz_sh t44; omega) | (simp only [gz_hd] at *; omega)), by (/-25-/first | (have o1 := gz_sh e7_18; have o2 := gz_sh t45; omega) | (simp only [gz_hd] at *; omega)), (fun j hj q9 hq => gc_ts7_fr (e0_18 j (by (/-26-/first | (have o1 := gz_sh e8_18; omega) | (simp only [gz_hd] at *; omega))) q9 hq) (fun k hk => p36 21 _ (fun h => by have := h.2; (/-27-/first | (have o1 := gz_sh e4_18; have o2 := gz_sh e8_18; have o3 := gz_sh f11; have o4 := gz_sh t42; have o5 := gz_sh t49; omega) | (simp only [gz_hd] at *; omega))))), (fun f hf => (q36 f hf).trans (by rw [show Int.toNat 0 + f = f from by (/-28-/first | omega | (simp only [gz_hd] at *; omega))]; exact (FI16 15 f).resolve_left (by (/-29-/first | omega | (simp only [gz_hd] at *; omega))))), by (/-30-/first | (have o1 := gz_sh e9_18; have o2 := gz_sh t53; omega) | (simp only [gz_hd] at *; omega))⟩⟩
      · show gv_X _ _ (101, [(0, .inr (.inr (some 1))), (1, .inl v1_18)], [], sh, gc_h sh I16 J17 A)
        refine gv_run 1 true hD (pcₚ := 102) (lvₚ := [(0, .inr (.inr (some 1))), (1, .inl v1_18)]) (stₚ := [.inr (.inr (some 1))]) (hₚ := gc_h sh I16 J17 A) (C := (True ∧ True)) rfl ⟨trivial, trivial⟩ ?_
        refine gv_get hD rfl rfl S_1 ⟨by decide, (gz_sh B_1)⟩ (gc_hA S_1 rfl A_1_4) ?_
        show gv_X _ _ (105, [(0, .inr (.inr (some 1))), (1, .inl v1_18)], [.inr (.inr (some 10))], sh, gc_h sh I16 J17 A)
        refine gv_run 1 true hD (pcₚ := 106) (lvₚ := [(0, .inr (.inr (some 1))), (1, .inl v1_18)]) (stₚ := [.inl v1_18, .inr (.inr (some 10))]) (hₚ := gc_h sh I16 J17 A) (C := (True ∧ True)) rfl ⟨trivial, trivial⟩ ?_
        obtain ⟨t69_, A_t69, h_t69, G_t69⟩ := (gc_Ts_fr x0 ((FI16 8 1).resolve_left (by (/-31-/first | omega | (simp only [gz_hd] at *; omega))))) (Int.toNat v1_18) (by (/-32-/first | (have o1 := gz_sh hv1_18; omega) | (simp only [gz_hd] at *; omega)))
        obtain ⟨S_t69, R_t69, B_t69, A_t69_0, h_t69__1, A_t69_1, h_t69__3, A_t69_2, S_t69__5, R_t69__5, B_t69__5, A_t69_3, S_t69__6, R_t69__6, B_t69__6, A_t69_4, h_t69__7, A_t69_5, S_t69__9, R_t69__9, B_t69__9, A_t69_7, S_t69__10, R_t69__10, B_t69__10, A_t69_8, h_t69__11, A_t69_9, S_t69__13, R_t69__13, B_t69__13, A_t69_10, S_t69__14, R_t69__14, B_t69__14, A_t69_12, S_t69__15, R_t69__15, B_t69__15, A_t69_14, S_t69__16, R_t69__16, B_t69__16, A_t69_15, h_t69__17⟩ := id h_t69
        replace R_t69 := gz_hi R_t69
        replace B_t69 := gz_hi B_t69
        replace R_t69__5 := gz_hi R_t69__5
        replace B_t69__5 := gz_hi B_t69__5
        replace R_t69__6 := gz_hi R_t69__6
        replace B_t69__6 := gz_hi B_t69__6
        replace R_t69__9 := gz_hi R_t69__9
        replace B_t69__9 := gz_hi B_t69__9
        replace R_t69__10 := gz_hi R_t69__10
        replace B_t69__10 := gz_hi B_t69__10
        replace R_t69__13 := gz_hi R_t69__13
        replace B_t69__13 := gz_hi B_t69__13
        replace R_t69__14 := gz_hi R_t69__14
        replace B_t69__14 := gz_hi B_t69__14
        replace R_t69__15 := gz_hi R_t69__15
        replace B_t69__15 := gz_hi B_t69__15
        replace R_t69__16 := gz_hi R_t69__16
        replace B_t69__16 := gz_hi B_t69__16
        obtain ⟨S_t69__1, R_t69__1, B_t69__1, A_t69__1_0, S_t69__1_1, R_t69__1_1, B_t69__1_1, Q0_t69__1, Q1_t69__1, Q2_t69__1⟩ := id h_t69__1
        replace R_t69__1 := gz_hi R_t69__1
        replace B_t69__1 := gz_hi B_t69__1
        replace R_t69__1_1 := gz_hi R_t69__1_1
        replace B_t69__1_1 := gz_hi B_t69__1_1
        obtain ⟨S_t69__3, R_t69__3, B_t69__3, A_t69__3_0, S_t69__3_1, R_t69__3_1, B_t69__3_1, Q0_t69__3, Q1_t69__3, Q2_t69__3⟩ := id h_t69__3
        replace R_t69__3 := gz_hi R_t69__3
        replace B_t69__3 := gz_hi B_t69__3
        replace R_t69__3_1 := gz_hi R_t69__3_1
        replace B_t69__3_1 := gz_hi B_t69__3_1
        obtain ⟨S_t69__7, R_t69__7, B_t69__7, A_t69__7_0, S_t69__7_1, R_t69__7_1, B_t69__7_1, Q0_t69__7, Q1_t69__7, Q2_t69__7⟩ := id h_t69__7
        replace R_t69__7 := gz_hi R_t69__7
        replace B_t69__7 := gz_hi B_t69__7
        replace R_t69__7_1 := gz_hi R_t69__7_1
        replace B_t69__7_1 := gz_hi B_t69__7_1
        obtain ⟨S_t69__11, R_t69__11, B_t69__11, A_t69__11_0, S_t69__11_1, R_t69__11_1, B_t69__11_1, Q0_t69__11, Q1_t69__11, Q2_t69__11⟩ := id h_t69__11
        replace R_t69__11 := gz_hi R_t69__11
        replace B_t69__11 := gz_hi B_t69__11
        replace R_t69__11_1 := gz_hi R_t69__11_1
        replace B_t69__11_1 := gz_hi B_t69__11_1
        obtain ⟨S_t69__17, R_t69__17, B_t69__17, A_t69__17_0, S_20, R_20, B_20, A_t69__17_1, S_t69__17_1, R_t69__17_1, B_t69__17_1, A_t69__17_2, S_t69__17_2, R_t69__17_2, B_t69__17_2, A_t69__17_3, S_t69__17_3, R_t69__17_3, B_t69__17_3, A_t69__17_4, S_t69__17_4, R_t69__17_4, B_t69__17_4, A_t69__17_5, S_t69__17_5, R_t69__17_5, B_t69__17_5, S_t69__17_6, R_t69__17_6, B_t69__17_6, S_t69__17_7, R_t69__17_7, B_t69__17_7⟩ := id h_t69__17
        replace R_t69__17 := gz_hi R_t69__17
        replace B_t69__17 := gz_hi B_t69__17
        replace R_20 := gz_hi R_20
        replace B_20 := gz_hi B_20
        replace R_t69__17_1 := gz_hi R_t69__17_1
        replace B_t69__17_1 := gz_hi B_t69__17_1
        replace R_t69__17_2 := gz_hi R_t69__17_2
        replace B_t69__17_2 := gz_hi B_t69__17_2
        replace R_t69__17_3 := gz_hi R_t69__17_3
        replace B_t69__17_3 := gz_hi B_t69__17_3
        replace R_t69__17_4 := gz_hi R_t69__17_4
        replace B_t69__17_4 := gz_hi B_t69__17_4
        replace R_t69__17_5 := gz_hi R_t69__17_5
        replace B_t69__17_5 := gz_hi B_t69__17_5
        replace R_t69__17_6 := gz_hi R_t69__17_6
        replace B_t69__17_6 := gz_hi B_t69__17_6
        replace R_t69__17_7 := gz_hi R_t69__17_7
        replace B_t69__17_7 := gz_hi B_t69__17_7
        refine gv_aald hD rfl S_10 ⟨by decide, by decide⟩ ⟨by decide, (gz_sh B_10)⟩ ⟨by (/-33-/first | (have o1 := gz_sh hv1_18; omega) | (simp only [gz_hd] at *; omega)), by (/-34-/first | (have o1 := gz_sh e8_18; have o2 := gz_sh f11; omega) | (simp only [gz_hd] at *; omega))⟩ ((gc_aA S_10 rfl).trans A_t69) ?_
        show gv_X _ _ (107, [(0, .inr (.inr (some 1))), (1, .inl v1_18)], [.inr (.inr (some t69_))], sh, gc_h sh I16 J17 A)
        refine gv_run 1 true hD (pcₚ := 108) (lvₚ := [(0, .inr (.inr (some 1))), (1, .inl v1_18)]) (stₚ := [.inr (.inr (some 1)), .inr (.inr (some t69_))]) (hₚ := gc_h sh I16 J17 A) (C := (True ∧ True)) rfl ⟨trivial, trivial⟩ ?_
        refine gv_get hD rfl rfl S_1 ⟨by decide, (gz_sh B_1)⟩ (gc_hA S_1 rfl A_1_19) ?_
        show gv_X _ _ (111, [(0, .inr (.inr (some 1))), (1, .inl v1_18)], [.inr (.inr (some 21)), .inr (.inr (some t69_))], sh, gc_h sh I16 J17 A)
        refine gv_run 5 true hD (pcₚ := 118) (lvₚ := [(0, .inr (.inr (some 1))), (1, .inl v1_18)]) (stₚ := [.inl (7 + (v1_18 * 7)), .inr (.inr (some 21)), .inr (.inr (some t69_))]) (hₚ := gc_h sh I16 J17 A) (C := (((((True ∧ True) ∧ True) ∧ True) ∧ True) ∧ True)) rfl ⟨⟨⟨⟨⟨trivial, trivial⟩, trivial⟩, trivial⟩, trivial⟩, trivial⟩ ?_
        obtain ⟨r70, h70, E70, P70⟩ := d_X11_saveSizes_w (ws0 := ws0) (tb := tb) hws htb sh ro I16 J17 A hI16 t69_ 159 21 ((7 + (v1_18 * 7))) h_t69 S_21 (gz_sh R_21) (gz_sh B_21) (by decide)  ⟨by (/-35-/first | (have o1 := gz_sh hv1_18; omega) | (simp only [gz_hd] at *; omega)), by (/-36-/first | (have o1 := gz_sh hv1_18; omega) | (simp only [gz_hd] at *; omega))⟩ (by (/-37-/first | (have o1 := gz_sh hv1_18; omega) | (simp only [gz_hd] at *; omega))) (by (/-38-/first | omega | (simp only [gz_hd] at *; omega))) (by (/-39-/first | omega | (simp only [gz_hd] at *; omega))) 
        obtain ⟨I71, J72, rfl, hI71, g70, k70, ⟨rfl, q70⟩⟩ := P70
        replace q70 := gz_hi q70
        have FI71 := gc_frc (W := fun q j => (q = 1 ∧ j = 18) ∨ q = 21) (V := fun q j => (q = 21 ∧ j = (Int.toNat ((7 + (v1_18 * 7))))) ∨ (q = 21 ∧ j = (Int.toNat (((7 + (v1_18 * 7))) + 1))) ∨ (q = 21 ∧ j = (Int.toNat (((7 + (v1_18 * 7))) + 2))) ∨ (q = 21 ∧ j = (Int.toNat (((7 + (v1_18 * 7))) + 3))) ∨ (q = 21 ∧ j = (Int.toNat (((7 + (v1_18 * 7))) + 4))) ∨ (q = 21 ∧ j = (Int.toNat (((7 + (v1_18 * 7))) + 5))) ∨ (q = 21 ∧ j = (Int.toNat (((7 + (v1_18 * 7))) + 6)))) FI16 (fun q j h => (h.elim (fun h => (Or.inr h.1)) (fun h => (h.elim (fun h => (Or.inr h.1)) (fun h => (h.elim (fun h => (Or.inr h.1)) (fun h => (h.elim (fun h => (Or.inr h.1)) (fun h => (h.elim (fun h => (Or.inr h.1)) (fun h => (h.elim (fun h => (Or.inr h.1)) (fun h => (Or.inr h.1)))))))))))))) g70
        have t73 := gz_hi ((g70 21 0).resolve_left (by (/-40-/first | (have o1 := gz_sh hv1_18; omega) | (simp only [gz_hd] at *; omega))))
        have t74 := gz_hi ((g70 21 1).resolve_left (by (/-41-/first | (have o1 := gz_sh hv1_18; omega) | (simp only [gz_hd] at *; omega))))
        have t75 := gz_hi ((g70 21 2).resolve_left (by (/-42-/first | (have o1 := gz_sh hv1_18; omega) | (simp only [gz_hd] at *; omega))))
        have t76 := gz_hi ((g70 21 3).resolve_left (by (/-43-/first | (have o1 := gz_sh hv1_18; omega) | (simp only [gz_hd] at *; omega))))
        have t77 := gz_hi ((g70 21 4).resolve_left (by (/-44-/first | (have o1 := gz_sh hv1_18; omega) | (simp only [gz_hd] at *; omega))))
        have t78 := gz_hi ((g70 21 5).resolve_left (by (/-45-/first | (have o1 := gz_sh hv1_18; omega) | (simp only [gz_hd] at *; omega))))
        have t79 := gz_hi ((g70 21 6).resolve_left (by (/-46-/first | (have o1 := gz_sh hv1_18; omega) | (simp only [gz_hd] at *; omega))))
        have t83 := gz_hi ((g70 8 1).resolve_left (fun h => h.elim (fun h => absurd h.1 (by first | exact gz_ne rfl | decide)) (fun h => h.elim (fun h => absurd h.1 (by first | exact gz_ne rfl | decide)) (fun h => h.elim (fun h => absurd h.1 (by first | exact gz_ne rfl | decide)) (fun h => h.elim (fun h => absurd h.1 (by first | exact gz_ne rfl | decide)) (fun h => h.elim (fun h => absurd h.1 (by first | exact gz_ne rfl | decide)) (fun h => h.elim (fun h => absurd h.1 (by first | exact gz_ne rfl | decide)) (fun h => absurd h.1 (by first | exact gz_ne rfl | decide)))))))))
        have t87 := gz_hi ((g70 1 18).resolve_left (fun h => h.elim (fun h => absurd h.1 (by first | exact gz_ne rfl | decide)) (fun h => h.elim (fun h => absurd h.1 (by first | exact gz_ne rfl | decide)) (fun h => h.elim (fun h => absurd h.1 (by first | exact gz_ne rfl | decide)) (fun h => h.elim (fun h => absurd h.1 (by first | exact gz_ne rfl | decide)) (fun h => h.elim (fun h => absurd h.1 (by first | exact gz_ne rfl | decide)) (fun h => h.elim (fun h => absurd h.1 (by first | exact gz_ne rfl | decide)) (fun h => absurd h.1 (by first | exact gz_ne rfl | decide)))))))))
        obtain rfl : J17 = J72 := funext fun q => funext fun j => ((k70 q j).resolve_left id).symm
        refine gv_callV hD rfl (As := [.inr (.inr (some 21)), .inl (7 + (v1_18 * 7))]) (st := []) rfl (gz_sh B_t69) S_t69 rfl (gc_lV8 hws rfl) (Nat.le_of_ble_eq_true rfl) (gz_Ev_mono (d := 1) (by decide) E70) ?_
        show gv_X _ _ (121, [(0, .inr (.inr (some 1))), (1, .inl v1_18)], [], sh, gc_h sh I71 J17 A)
        refine gv_run 2 true hD (pcₚ := 90) (lvₚ := [(1, .inl (v1_18 + 1)), (0, .inr (.inr (some 1)))]) (stₚ := []) (hₚ := gc_h sh I71 J17 A) (C := ((True ∧ True) ∧ True)) rfl ⟨⟨trivial, trivial⟩, trivial⟩ ?_
        refine gv_pick [1, 0] rfl ?_
        exact ih90 I71 J17 (v1_18 + 1) (by (/-47-/first | (have o1 := gz_sh e4_18; have o2 := gz_sh e8_18; have o3 := gz_sh f11; have o4 := gz_sh hv1_18; have o5 := gz_sh t76; have o6 := gz_sh t83; omega) | (simp only [gz_hd] at *; omega))) hI71 FI71 FJ17 (by (/-48-/first | (and_intros; (have o1 := gz_sh hv1_18; omega); (have o1 := gz_sh e8_18; have o2 := gz_sh f11; omega); (have o1 := gz_sh e1_18; have o2 := gz_sh t73; omega); (have o1 := gz_sh e2_18; have o2 := gz_sh t74; omega); (have o1 := gz_sh e3_18; have o2 := gz_sh t75; omega); (have o1 := gz_sh e4_18; have o2 := gz_sh t76; omega); (have o1 := gz_sh e5_18; have o2 := gz_sh t77; omega); (have o1 := gz_sh e6_18; have o2 := gz_sh t78; omega); (have o1 := gz_sh e7_18; have o2 := gz_sh t79; omega); (have o1 := gz_sh e8_18; have o2 := gz_sh t83; omega); (have o1 := gz_sh e9_18; have o2 := gz_sh t87; omega)) | (simp only [gz_hd] at *; omega))) (fun j hj q9 hq => if hjj : j = Int.toNat v1_18 then (by subst hjj; cases (A_t69.symm.trans hq); unfold gc_ts7; exact ⟨(by rw [show 7 + 7 * Int.toNat v1_18 = (Int.toNat (7 + (v1_18 * 7))) from by (/-49-/first | omega | (simp only [gz_hd] at *; omega))]; exact ((gz_sh q70).1).trans ((FI16 (t69_ + 1) 1).resolve_left (by (/-50-/first | (have o1 := gz_sh B_t69; have o2 := gz_sh B_t69__10; have o3 := gz_sh B_t69__13; have o4 := gz_sh B_t69__14; have o5 := gz_sh B_t69__15; have o6 := gz_sh B_t69__16; have o7 := gz_sh B_t69__17; have o8 := gz_sh B_t69__17_1; have o9 := gz_sh B_t69__17_2; have o10 := gz_sh B_t69__17_3; have o11 := gz_sh B_t69__17_4; have o12 := gz_sh B_t69__17_5; have o13 := gz_sh B_t69__17_6; have o14 := gz_sh B_t69__17_7; have o15 := gz_sh B_t69__5; have o16 := gz_sh B_t69__6; have o17 := gz_sh B_t69__9; omega) | (simp only [gz_hd] at *; omega))))), (by rw [show 7 + 7 * Int.toNat v1_18 + 1 = (Int.toNat ((7 + (v1_18 * 7)) + 1)) from by (/-51-/first | omega | (simp only [gz_hd] at *; omega))]; exact ((gz_sh q70).2.1).trans ((FI16 (t69_ + 3) 1).resolve_left (by (/-52-/first | (have o1 := gz_sh B_t69; have o2 := gz_sh B_t69__10; have o3 := gz_sh B_t69__13; have o4 := gz_sh B_t69__14; have o5 := gz_sh B_t69__15; have o6 := gz_sh B_t69__16; have o7 := gz_sh B_t69__17; have o8 := gz_sh B_t69__17_1; have o9 := gz_sh B_t69__17_2; have o10 := gz_sh B_t69__17_3; have o11 := gz_sh B_t69__17_4; have o12 := gz_sh B_t69__17_5; have o13 := gz_sh B_t69__17_6; have o14 := gz_sh B_t69__17_7; have o15 := gz_sh B_t69__5; have o16 := gz_sh B_t69__6; have o17 := gz_sh B_t69__9; omega) | (simp only [gz_hd] at *; omega))))), (by rw [show 7 + 7 * Int.toNat v1_18 + 2 = (Int.toNat ((7 + (v1_18 * 7)) + 2)) from by (/-53-/first | omega | (simp only [gz_hd] at *; omega))]; exact ((gz_sh q70).2.2.1).trans ((FI16 (t69_ + 7) 1).resolve_left (by (/-54-/first | (have o1 := gz_sh B_t69; have o2 := gz_sh B_t69__10; have o3 := gz_sh B_t69__13; have o4 := gz_sh B_t69__14; have o5 := gz_sh B_t69__15; have o6 := gz_sh B_t69__16; have o7 := gz_sh B_t69__17; have o8 := gz_sh B_t69__17_1; have o9 := gz_sh B_t69__17_2; have o10 := gz_sh B_t69__17_3; have o11 := gz_sh B_t69__17_4; have o12 := gz_sh B_t69__17_5; have o13 := gz_sh B_t69__17_6; have o14 := gz_sh B_t69__17_7; have o15 := gz_sh B_t69__5; have o16 := gz_sh B_t69__6; have o17 := gz_sh B_t69__9; omega) | (simp only [gz_hd] at *; omega))))), (by rw [show 7 + 7 * Int.toNat v1_18 + 3 = (Int.toNat ((7 + (v1_18 * 7)) + 3)) from by (/-55-/first | omega | (simp only [gz_hd] at *; omega))]; exact ((gz_sh q70).2.2.2.1).trans ((FI16 t69_ 6).resolve_left (by (/-56-/first | (have o1 := gz_sh B_t69; have o2 := gz_sh B_t69__10; have o3 := gz_sh B_t69__13; have o4 := gz_sh B_t69__14; have o5 := gz_sh B_t69__15; have o6 := gz_sh B_t69__16; have o7 := gz_sh B_t69__17; have o8 := gz_sh B_t69__17_1; have o9 := gz_sh B_t69__17_2; have o10 := gz_sh B_t69__17_3; have o11 := gz_sh B_t69__17_4; have o12 := gz_sh B_t69__17_5; have o13 := gz_sh B_t69__17_6; have o14 := gz_sh B_t69__17_7; have o15 := gz_sh B_t69__5; have o16 := gz_sh B_t69__6; have o17 := gz_sh B_t69__9; omega) | (simp only [gz_hd] at *; omega))))), (by rw [show 7 + 7 * Int.toNat v1_18 + 4 = (Int.toNat ((7 + (v1_18 * 7)) + 4)) from by (/-57-/first | omega | (simp only [gz_hd] at *; omega))]; exact ((gz_sh q70).2.2.2.2.1).trans ((FI16 (t69_ + 11) 1).resolve_left (by (/-58-/first | (have o1 := gz_sh B_t69; have o2 := gz_sh B_t69__10; have o3 := gz_sh B_t69__13; have o4 := gz_sh B_t69__14; have o5 := gz_sh B_t69__15; have o6 := gz_sh B_t69__16; have o7 := gz_sh B_t69__17; have o8 := gz_sh B_t69__17_1; have o9 := gz_sh B_t69__17_2; have o10 := gz_sh B_t69__17_3; have o11 := gz_sh B_t69__17_4; have o12 := gz_sh B_t69__17_5; have o13 := gz_sh B_t69__17_6; have o14 := gz_sh B_t69__17_7; have o15 := gz_sh B_t69__5; have o16 := gz_sh B_t69__6; have o17 := gz_sh B_t69__9; omega) | (simp only [gz_hd] at *; omega))))), (by rw [show 7 + 7 * Int.toNat v1_18 + 5 = (Int.toNat ((7 + (v1_18 * 7)) + 5)) from by (/-59-/first | omega | (simp only [gz_hd] at *; omega))]; exact ((gz_sh q70).2.2.2.2.2.1).trans ((FI16 t69_ 11).resolve_left (by (/-60-/first | (have o1 := gz_sh B_t69; have o2 := gz_sh B_t69__10; have o3 := gz_sh B_t69__13; have o4 := gz_sh B_t69__14; have o5 := gz_sh B_t69__15; have o6 := gz_sh B_t69__16; have o7 := gz_sh B_t69__17; have o8 := gz_sh B_t69__17_1; have o9 := gz_sh B_t69__17_2; have o10 := gz_sh B_t69__17_3; have o11 := gz_sh B_t69__17_4; have o12 := gz_sh B_t69__17_5; have o13 := gz_sh B_t69__17_6; have o14 := gz_sh B_t69__17_7; have o15 := gz_sh B_t69__5; have o16 := gz_sh B_t69__6; have o17 := gz_sh B_t69__9; omega) | (simp only [gz_hd] at *; omega))))), (by rw [show 7 + 7 * Int.toNat v1_18 + 6 = (Int.toNat ((7 + (v1_18 * 7)) + 6)) from by (/-61-/first | omega | (simp only [gz_hd] at *; omega))]; exact ((gz_sh q70).2.2.2.2.2.2).trans ((FI16 t69_ 13).resolve_left (by (/-62-/first | (have o1 := gz_sh B_t69; have o2 := gz_sh B_t69__10; have o3 := gz_sh B_t69__13; have o4 := gz_sh B_t69__14; have o5 := gz_sh B_t69__15; have o6 := gz_sh B_t69__16; have o7 := gz_sh B_t69__17; have o8 := gz_sh B_t69__17_1; have o9 := gz_sh B_t69__17_2; have o10 := gz_sh B_t69__17_3; have o11 := gz_sh B_t69__17_4; have o12 := gz_sh B_t69__17_5; have o13 := gz_sh B_t69__17_6; have o14 := gz_sh B_t69__17_7; have o15 := gz_sh B_t69__5; have o16 := gz_sh B_t69__6; have o17 := gz_sh B_t69__9; omega) | (simp only [gz_hd] at *; omega)))))⟩) else (gc_ts7_fr (e0_18 j (by (/-63-/first | omega | (simp only [gz_hd] at *; omega))) q9 hq) (fun k hk => (g70 21 _).resolve_left (by (/-64-/first | (have o1 := gz_sh hv1_18; omega) | (simp only [gz_hd] at *; omega))))))
  refine gv_run 2 true hD (pcₚ := 2) (lvₚ := [(0, .inr (.inr (some 1)))]) (stₚ := [.inl 0, .inr (.inr (some 1))]) (hₚ := gc_h sh I J A) (C := ((True ∧ True) ∧ True)) rfl ⟨⟨trivial, trivial⟩, trivial⟩ ?_
  refine gv_put hD rfl rfl S_1 ⟨by decide, (gz_sh B_1)⟩ rfl (by (/-65-/first | omega | (simp only [gz_hd] at *; omega))) ?_
  refine gc_st (k := 18) hI S_1 rfl (gz_sh R_1) (lo := 0) (hi := 1) rfl rfl (by (/-66-/first | omega | (simp only [gz_hd] at *; omega))) (by (/-67-/first | omega | (simp only [gz_hd] at *; omega))) (fun I95 hI95 q96 p96 => ?_)
  have FI95 := gc_frs (W := fun q j => (q = 1 ∧ j = 18) ∨ q = 21) FI (Or.inl ⟨rfl, rfl⟩) p96
  have t104 := gz_hi (p96 2 1 (fun h => absurd h.2 (by first | exact gz_ne rfl | decide)))
  have t105 := gz_hi (p96 4 1 (fun h => absurd h.2 (by first | exact gz_ne rfl | decide)))
  have t106 := gz_hi (p96 6 1 (fun h => absurd h.2 (by first | exact gz_ne rfl | decide)))
  have t107 := gz_hi (p96 8 1 (fun h => absurd h.2 (by first | exact gz_ne rfl | decide)))
  have t108 := gz_hi (p96 1 13 (fun h => absurd h.2 (by first | exact gz_ne rfl | decide)))
  have t109 := gz_hi (p96 1 17 (fun h => absurd h.2 (by first | exact gz_ne rfl | decide)))
  have t110 := gz_hi (p96 1 5 (fun h => absurd h.2 (by first | exact gz_ne rfl | decide)))
  show gv_X _ _ (5, [(0, .inr (.inr (some 1)))], [], sh, gc_h sh I95 J A)
  refine gv_run 1 true hD (pcₚ := 6) (lvₚ := [(0, .inr (.inr (some 1)))]) (stₚ := [.inr (.inr (some 1))]) (hₚ := gc_h sh I95 J A) (C := (True ∧ True)) rfl ⟨trivial, trivial⟩ ?_
  refine gv_get hD rfl rfl S_1 ⟨by decide, (gz_sh B_1)⟩ (gc_hA S_1 rfl A_1_19) ?_
  show gv_X _ _ (9, [(0, .inr (.inr (some 1)))], [.inr (.inr (some 21))], sh, gc_h sh I95 J A)
  refine gv_run 2 true hD (pcₚ := 11) (lvₚ := [(0, .inr (.inr (some 1)))]) (stₚ := [.inr (.inr (some 1)), .inl 0, .inr (.inr (some 21))]) (hₚ := gc_h sh I95 J A) (C := ((True ∧ True) ∧ True)) rfl ⟨⟨trivial, trivial⟩, trivial⟩ ?_
  refine gv_get hD rfl rfl S_1 ⟨by decide, (gz_sh B_1)⟩ (gc_hA S_1 rfl A_1_0) ?_
  show gv_X _ _ (14, [(0, .inr (.inr (some 1)))], [.inr (.inr (some 2)), .inl 0, .inr (.inr (some 21))], sh, gc_h sh I95 J A)
  refine gv_get hD rfl rfl S_2 ⟨by decide, (gz_sh B_2)⟩ (gc_hI S_2 rfl) ?_
  show gv_X _ _ (17, [(0, .inr (.inr (some 1)))], [.inl (I95 2 1), .inl 0, .inr (.inr (some 21))], sh, gc_h sh I95 J A)
  refine gv_iast hD rfl S_21 ⟨by decide, (gz_sh B_21)⟩ ⟨by (/-68-/first | omega | (simp only [gz_hd] at *; omega)), by (/-69-/first | omega | (simp only [gz_hd] at *; omega))⟩ ?_
  refine gc_st (k := 0) hI95 S_21 rfl (gz_sh R_21) (lo := (-1)) (hi := 12000) rfl rfl (by (/-70-/first | (have o1 := gz_sh f8; have o2 := gz_sh t104; omega) | (simp only [gz_hd] at *; omega))) (by (/-71-/first | (have o1 := gz_sh f8; have o2 := gz_sh t104; omega) | (simp only [gz_hd] at *; omega))) (fun I113 hI113 q114 p114 => ?_)
  have FI113 := gc_frs (W := fun q j => (q = 1 ∧ j = 18) ∨ q = 21) FI95 (Or.inr rfl) p114
  have t121 := gz_hi (p114 2 1 (fun h => absurd h.2 (by first | exact gz_ne rfl | decide)))
  have t122 := gz_hi (p114 4 1 (fun h => absurd h.2 (by first | exact gz_ne rfl | decide)))
  have t123 := gz_hi (p114 6 1 (fun h => absurd h.2 (by first | exact gz_ne rfl | decide)))
  have t124 := gz_hi (p114 8 1 (fun h => absurd h.2 (by first | exact gz_ne rfl | decide)))
  have t125 := gz_hi (p114 1 13 (fun h => absurd h.2 (by first | exact gz_ne rfl | decide)))
  have t126 := gz_hi (p114 1 17 (fun h => absurd h.2 (by first | exact gz_ne rfl | decide)))
  have t127 := gz_hi (p114 1 5 (fun h => absurd h.2 (by first | exact gz_ne rfl | decide)))
  have t128 := gz_hi (p114 1 18 (fun h => absurd h.2 (by first | exact gz_ne rfl | decide)))
  show gv_X _ _ (18, [(0, .inr (.inr (some 1)))], [], sh, gc_h sh I113 J A)
  refine gv_run 1 true hD (pcₚ := 19) (lvₚ := [(0, .inr (.inr (some 1)))]) (stₚ := [.inr (.inr (some 1))]) (hₚ := gc_h sh I113 J A) (C := (True ∧ True)) rfl ⟨trivial, trivial⟩ ?_
  refine gv_get hD rfl rfl S_1 ⟨by decide, (gz_sh B_1)⟩ (gc_hA S_1 rfl A_1_19) ?_
  show gv_X _ _ (22, [(0, .inr (.inr (some 1)))], [.inr (.inr (some 21))], sh, gc_h sh I113 J A)
  refine gv_run 2 true hD (pcₚ := 24) (lvₚ := [(0, .inr (.inr (some 1)))]) (stₚ := [.inr (.inr (some 1)), .inl 1, .inr (.inr (some 21))]) (hₚ := gc_h sh I113 J A) (C := ((True ∧ True) ∧ True)) rfl ⟨⟨trivial, trivial⟩, trivial⟩ ?_
  refine gv_get hD rfl rfl S_1 ⟨by decide, (gz_sh B_1)⟩ (gc_hA S_1 rfl A_1_1) ?_
  show gv_X _ _ (27, [(0, .inr (.inr (some 1)))], [.inr (.inr (some 4)), .inl 1, .inr (.inr (some 21))], sh, gc_h sh I113 J A)
  refine gv_get hD rfl rfl S_4 ⟨by decide, (gz_sh B_4)⟩ (gc_hI S_4 rfl) ?_
  show gv_X _ _ (30, [(0, .inr (.inr (some 1)))], [.inl (I113 4 1), .inl 1, .inr (.inr (some 21))], sh, gc_h sh I113 J A)
  refine gv_iast hD rfl S_21 ⟨by decide, (gz_sh B_21)⟩ ⟨by (/-72-/first | omega | (simp only [gz_hd] at *; omega)), by (/-73-/first | omega | (simp only [gz_hd] at *; omega))⟩ ?_
  refine gc_st (k := 1) hI113 S_21 rfl (gz_sh R_21) (lo := (-1)) (hi := 12000) rfl rfl (by (/-74-/first | (have o1 := gz_sh f9; have o2 := gz_sh t105; have o3 := gz_sh t122; omega) | (simp only [gz_hd] at *; omega))) (by (/-75-/first | (have o1 := gz_sh f9; have o2 := gz_sh t105; have o3 := gz_sh t122; omega) | (simp only [gz_hd] at *; omega))) (fun I131 hI131 q132 p132 => ?_)
  have FI131 := gc_frs (W := fun q j => (q = 1 ∧ j = 18) ∨ q = 21) FI113 (Or.inr rfl) p132
  have t133 := gz_hi (p132 21 0 (fun h => absurd h.2 (by first | exact gz_ne rfl | decide)))
  have t139 := gz_hi (p132 2 1 (fun h => absurd h.1 (by first | exact gz_ne rfl | decide)))
  have t140 := gz_hi (p132 4 1 (fun h => absurd h.1 (by first | exact gz_ne rfl | decide)))
  have t141 := gz_hi (p132 6 1 (fun h => absurd h.1 (by first | exact gz_ne rfl | decide)))
  have t142 := gz_hi (p132 8 1 (fun h => absurd h.1 (by first | exact gz_ne rfl | decide)))
  have t143 := gz_hi (p132 1 13 (fun h => absurd h.2 (by first | exact gz_ne rfl | decide)))
  have t144 := gz_hi (p132 1 17 (fun h => absurd h.2 (by first | exact gz_ne rfl | decide)))
  have t145 := gz_hi (p132 1 5 (fun h => absurd h.2 (by first | exact gz_ne rfl | decide)))
  have t146 := gz_hi (p132 1 18 (fun h => absurd h.2 (by first | exact gz_ne rfl | decide)))
  show gv_X _ _ (31, [(0, .inr (.inr (some 1)))], [], sh, gc_h sh I131 J A)
  refine gv_run 1 true hD (pcₚ := 32) (lvₚ := [(0, .inr (.inr (some 1)))]) (stₚ := [.inr (.inr (some 1))]) (hₚ := gc_h sh I131 J A) (C := (True ∧ True)) rfl ⟨trivial, trivial⟩ ?_
  refine gv_get hD rfl rfl S_1 ⟨by decide, (gz_sh B_1)⟩ (gc_hA S_1 rfl A_1_19) ?_
  show gv_X _ _ (35, [(0, .inr (.inr (some 1)))], [.inr (.inr (some 21))], sh, gc_h sh I131 J A)
  refine gv_run 2 true hD (pcₚ := 37) (lvₚ := [(0, .inr (.inr (some 1)))]) (stₚ := [.inr (.inr (some 1)), .inl 2, .inr (.inr (some 21))]) (hₚ := gc_h sh I131 J A) (C := ((True ∧ True) ∧ True)) rfl ⟨⟨trivial, trivial⟩, trivial⟩ ?_
  refine gv_get hD rfl rfl S_1 ⟨by decide, (gz_sh B_1)⟩ (gc_hA S_1 rfl A_1_2) ?_
  show gv_X _ _ (40, [(0, .inr (.inr (some 1)))], [.inr (.inr (some 6)), .inl 2, .inr (.inr (some 21))], sh, gc_h sh I131 J A)
  refine gv_get hD rfl rfl S_6 ⟨by decide, (gz_sh B_6)⟩ (gc_hI S_6 rfl) ?_
  show gv_X _ _ (43, [(0, .inr (.inr (some 1)))], [.inl (I131 6 1), .inl 2, .inr (.inr (some 21))], sh, gc_h sh I131 J A)
  refine gv_iast hD rfl S_21 ⟨by decide, (gz_sh B_21)⟩ ⟨by (/-76-/first | omega | (simp only [gz_hd] at *; omega)), by (/-77-/first | omega | (simp only [gz_hd] at *; omega))⟩ ?_
  refine gc_st (k := 2) hI131 S_21 rfl (gz_sh R_21) (lo := (-1)) (hi := 12000) rfl rfl (by (/-78-/first | (have o1 := gz_sh f10; have o2 := gz_sh t106; have o3 := gz_sh t123; have o4 := gz_sh t141; omega) | (simp only [gz_hd] at *; omega))) (by (/-79-/first | (have o1 := gz_sh f10; have o2 := gz_sh t106; have o3 := gz_sh t123; have o4 := gz_sh t141; omega) | (simp only [gz_hd] at *; omega))) (fun I149 hI149 q150 p150 => ?_)
  have FI149 := gc_frs (W := fun q j => (q = 1 ∧ j = 18) ∨ q = 21) FI131 (Or.inr rfl) p150
  have t151 := gz_hi (p150 21 0 (fun h => absurd h.2 (by first | exact gz_ne rfl | decide)))
  have t152 := gz_hi (p150 21 1 (fun h => absurd h.2 (by first | exact gz_ne rfl | decide)))
  have t157 := gz_hi (p150 2 1 (fun h => absurd h.2 (by first | exact gz_ne rfl | decide)))
  have t158 := gz_hi (p150 4 1 (fun h => absurd h.2 (by first | exact gz_ne rfl | decide)))
  have t159 := gz_hi (p150 6 1 (fun h => absurd h.2 (by first | exact gz_ne rfl | decide)))
  have t160 := gz_hi (p150 8 1 (fun h => absurd h.2 (by first | exact gz_ne rfl | decide)))
  have t161 := gz_hi (p150 1 13 (fun h => absurd h.2 (by first | exact gz_ne rfl | decide)))
  have t162 := gz_hi (p150 1 17 (fun h => absurd h.2 (by first | exact gz_ne rfl | decide)))
  have t163 := gz_hi (p150 1 5 (fun h => absurd h.2 (by first | exact gz_ne rfl | decide)))
  have t164 := gz_hi (p150 1 18 (fun h => absurd h.2 (by first | exact gz_ne rfl | decide)))
  show gv_X _ _ (44, [(0, .inr (.inr (some 1)))], [], sh, gc_h sh I149 J A)
  refine gv_run 1 true hD (pcₚ := 45) (lvₚ := [(0, .inr (.inr (some 1)))]) (stₚ := [.inr (.inr (some 1))]) (hₚ := gc_h sh I149 J A) (C := (True ∧ True)) rfl ⟨trivial, trivial⟩ ?_
  refine gv_get hD rfl rfl S_1 ⟨by decide, (gz_sh B_1)⟩ (gc_hA S_1 rfl A_1_19) ?_
  show gv_X _ _ (48, [(0, .inr (.inr (some 1)))], [.inr (.inr (some 21))], sh, gc_h sh I149 J A)
  refine gv_run 2 true hD (pcₚ := 50) (lvₚ := [(0, .inr (.inr (some 1)))]) (stₚ := [.inr (.inr (some 1)), .inl 3, .inr (.inr (some 21))]) (hₚ := gc_h sh I149 J A) (C := ((True ∧ True) ∧ True)) rfl ⟨⟨trivial, trivial⟩, trivial⟩ ?_
  refine gv_get hD rfl rfl S_1 ⟨by decide, (gz_sh B_1)⟩ (gc_hA S_1 rfl A_1_3) ?_
  show gv_X _ _ (53, [(0, .inr (.inr (some 1)))], [.inr (.inr (some 8)), .inl 3, .inr (.inr (some 21))], sh, gc_h sh I149 J A)
  refine gv_get hD rfl rfl S_8 ⟨by decide, (gz_sh B_8)⟩ (gc_hI S_8 rfl) ?_
  show gv_X _ _ (56, [(0, .inr (.inr (some 1)))], [.inl (I149 8 1), .inl 3, .inr (.inr (some 21))], sh, gc_h sh I149 J A)
  refine gv_iast hD rfl S_21 ⟨by decide, (gz_sh B_21)⟩ ⟨by (/-80-/first | omega | (simp only [gz_hd] at *; omega)), by (/-81-/first | omega | (simp only [gz_hd] at *; omega))⟩ ?_
  refine gc_st (k := 3) hI149 S_21 rfl (gz_sh R_21) (lo := (-1)) (hi := 12000) rfl rfl (by (/-82-/first | (have o1 := gz_sh f11; have o2 := gz_sh t107; have o3 := gz_sh t124; have o4 := gz_sh t142; have o5 := gz_sh t160; omega) | (simp only [gz_hd] at *; omega))) (by (/-83-/first | (have o1 := gz_sh f11; have o2 := gz_sh t107; have o3 := gz_sh t124; have o4 := gz_sh t142; have o5 := gz_sh t160; omega) | (simp only [gz_hd] at *; omega))) (fun I167 hI167 q168 p168 => ?_)
  have FI167 := gc_frs (W := fun q j => (q = 1 ∧ j = 18) ∨ q = 21) FI149 (Or.inr rfl) p168
  have t169 := gz_hi (p168 21 0 (fun h => absurd h.2 (by first | exact gz_ne rfl | decide)))
  have t170 := gz_hi (p168 21 1 (fun h => absurd h.2 (by first | exact gz_ne rfl | decide)))
  have t171 := gz_hi (p168 21 2 (fun h => absurd h.2 (by first | exact gz_ne rfl | decide)))
  have t175 := gz_hi (p168 2 1 (fun h => absurd h.2 (by first | exact gz_ne rfl | decide)))
  have t176 := gz_hi (p168 4 1 (fun h => absurd h.2 (by first | exact gz_ne rfl | decide)))
  have t177 := gz_hi (p168 6 1 (fun h => absurd h.2 (by first | exact gz_ne rfl | decide)))
  have t178 := gz_hi (p168 8 1 (fun h => absurd h.2 (by first | exact gz_ne rfl | decide)))
  have t179 := gz_hi (p168 1 13 (fun h => absurd h.2 (by first | exact gz_ne rfl | decide)))
  have t180 := gz_hi (p168 1 17 (fun h => absurd h.2 (by first | exact gz_ne rfl | decide)))
  have t181 := gz_hi (p168 1 5 (fun h => absurd h.2 (by first | exact gz_ne rfl | decide)))
  have t182 := gz_hi (p168 1 18 (fun h => absurd h.2 (by first | exact gz_ne rfl | decide)))
  show gv_X _ _ (57, [(0, .inr (.inr (some 1)))], [], sh, gc_h sh I167 J A)
  refine gv_run 1 true hD (pcₚ := 58) (lvₚ := [(0, .inr (.inr (some 1)))]) (stₚ := [.inr (.inr (some 1))]) (hₚ := gc_h sh I167 J A) (C := (True ∧ True)) rfl ⟨trivial, trivial⟩ ?_
  refine gv_get hD rfl rfl S_1 ⟨by decide, (gz_sh B_1)⟩ (gc_hA S_1 rfl A_1_19) ?_
  show gv_X _ _ (61, [(0, .inr (.inr (some 1)))], [.inr (.inr (some 21))], sh, gc_h sh I167 J A)
  refine gv_run 2 true hD (pcₚ := 63) (lvₚ := [(0, .inr (.inr (some 1)))]) (stₚ := [.inr (.inr (some 1)), .inl 4, .inr (.inr (some 21))]) (hₚ := gc_h sh I167 J A) (C := ((True ∧ True) ∧ True)) rfl ⟨⟨trivial, trivial⟩, trivial⟩ ?_
  refine gv_get hD rfl rfl S_1 ⟨by decide, (gz_sh B_1)⟩ (gc_hI S_1 rfl) ?_
  show gv_X _ _ (66, [(0, .inr (.inr (some 1)))], [.inl (I167 1 13), .inl 4, .inr (.inr (some 21))], sh, gc_h sh I167 J A)
  refine gv_iast hD rfl S_21 ⟨by decide, (gz_sh B_21)⟩ ⟨by (/-84-/first | omega | (simp only [gz_hd] at *; omega)), by (/-85-/first | omega | (simp only [gz_hd] at *; omega))⟩ ?_
  refine gc_st (k := 4) hI167 S_21 rfl (gz_sh R_21) (lo := (-1)) (hi := 12000) rfl rfl (by (/-86-/first | (have o1 := gz_sh f12; have o2 := gz_sh t108; have o3 := gz_sh t125; have o4 := gz_sh t143; have o5 := gz_sh t161; have o6 := gz_sh t179; omega) | (simp only [gz_hd] at *; omega))) (by (/-87-/first | (have o1 := gz_sh f12; have o2 := gz_sh t108; have o3 := gz_sh t125; have o4 := gz_sh t143; have o5 := gz_sh t161; have o6 := gz_sh t179; omega) | (simp only [gz_hd] at *; omega))) (fun I185 hI185 q186 p186 => ?_)
  have FI185 := gc_frs (W := fun q j => (q = 1 ∧ j = 18) ∨ q = 21) FI167 (Or.inr rfl) p186
  have t187 := gz_hi (p186 21 0 (fun h => absurd h.2 (by first | exact gz_ne rfl | decide)))
  have t188 := gz_hi (p186 21 1 (fun h => absurd h.2 (by first | exact gz_ne rfl | decide)))
  have t189 := gz_hi (p186 21 2 (fun h => absurd h.2 (by first | exact gz_ne rfl | decide)))
  have t190 := gz_hi (p186 21 3 (fun h => absurd h.2 (by first | exact gz_ne rfl | decide)))
  have t193 := gz_hi (p186 2 1 (fun h => absurd h.2 (by first | exact gz_ne rfl | decide)))
  have t194 := gz_hi (p186 4 1 (fun h => absurd h.2 (by first | exact gz_ne rfl | decide)))
  have t195 := gz_hi (p186 6 1 (fun h => absurd h.2 (by first | exact gz_ne rfl | decide)))
  have t196 := gz_hi (p186 8 1 (fun h => absurd h.2 (by first | exact gz_ne rfl | decide)))
  have t197 := gz_hi (p186 1 13 (fun h => absurd h.2 (by first | exact gz_ne rfl | decide)))
  have t198 := gz_hi (p186 1 17 (fun h => absurd h.2 (by first | exact gz_ne rfl | decide)))
  have t199 := gz_hi (p186 1 5 (fun h => absurd h.2 (by first | exact gz_ne rfl | decide)))
  have t200 := gz_hi (p186 1 18 (fun h => absurd h.2 (by first | exact gz_ne rfl | decide)))
  show gv_X _ _ (67, [(0, .inr (.inr (some 1)))], [], sh, gc_h sh I185 J A)
  refine gv_run 1 true hD (pcₚ := 68) (lvₚ := [(0, .inr (.inr (some 1)))]) (stₚ := [.inr (.inr (some 1))]) (hₚ := gc_h sh I185 J A) (C := (True ∧ True)) rfl ⟨trivial, trivial⟩ ?_
  refine gv_get hD rfl rfl S_1 ⟨by decide, (gz_sh B_1)⟩ (gc_hA S_1 rfl A_1_19) ?_
  show gv_X _ _ (71, [(0, .inr (.inr (some 1)))], [.inr (.inr (some 21))], sh, gc_h sh I185 J A)
  refine gv_run 2 true hD (pcₚ := 73) (lvₚ := [(0, .inr (.inr (some 1)))]) (stₚ := [.inr (.inr (some 1)), .inl 5, .inr (.inr (some 21))]) (hₚ := gc_h sh I185 J A) (C := ((True ∧ True) ∧ True)) rfl ⟨⟨trivial, trivial⟩, trivial⟩ ?_
  refine gv_get hD rfl rfl S_1 ⟨by decide, (gz_sh B_1)⟩ (gc_hI S_1 rfl) ?_
  show gv_X _ _ (76, [(0, .inr (.inr (some 1)))], [.inl (I185 1 17), .inl 5, .inr (.inr (some 21))], sh, gc_h sh I185 J A)
  refine gv_iast hD rfl S_21 ⟨by decide, (gz_sh B_21)⟩ ⟨by (/-88-/first | omega | (simp only [gz_hd] at *; omega)), by (/-89-/first | omega | (simp only [gz_hd] at *; omega))⟩ ?_
  refine gc_st (k := 5) hI185 S_21 rfl (gz_sh R_21) (lo := (-1)) (hi := 12000) rfl rfl (by (/-90-/first | (have o1 := gz_sh f13; have o2 := gz_sh t109; have o3 := gz_sh t126; have o4 := gz_sh t144; have o5 := gz_sh t162; have o6 := gz_sh t180; have o7 := gz_sh t198; omega) | (simp only [gz_hd] at *; omega))) (by (/-91-/first | (have o1 := gz_sh f13; have o2 := gz_sh t109; have o3 := gz_sh t126; have o4 := gz_sh t144; have o5 := gz_sh t162; have o6 := gz_sh t180; have o7 := gz_sh t198; omega) | (simp only [gz_hd] at *; omega))) (fun I203 hI203 q204 p204 => ?_)
  have FI203 := gc_frs (W := fun q j => (q = 1 ∧ j = 18) ∨ q = 21) FI185 (Or.inr rfl) p204
  have t205 := gz_hi (p204 21 0 (fun h => absurd h.2 (by first | exact gz_ne rfl | decide)))
  have t206 := gz_hi (p204 21 1 (fun h => absurd h.2 (by first | exact gz_ne rfl | decide)))
  have t207 := gz_hi (p204 21 2 (fun h => absurd h.2 (by first | exact gz_ne rfl | decide)))
  have t208 := gz_hi (p204 21 3 (fun h => absurd h.2 (by first | exact gz_ne rfl | decide)))
  have t209 := gz_hi (p204 21 4 (fun h => absurd h.2 (by first | exact gz_ne rfl | decide)))
  have t211 := gz_hi (p204 2 1 (fun h => absurd h.2 (by first | exact gz_ne rfl | decide)))
  have t212 := gz_hi (p204 4 1 (fun h => absurd h.2 (by first | exact gz_ne rfl | decide)))
  have t213 := gz_hi (p204 6 1 (fun h => absurd h.2 (by first | exact gz_ne rfl | decide)))
  have t214 := gz_hi (p204 8 1 (fun h => absurd h.2 (by first | exact gz_ne rfl | decide)))
  have t215 := gz_hi (p204 1 13 (fun h => absurd h.2 (by first | exact gz_ne rfl | decide)))
  have t216 := gz_hi (p204 1 17 (fun h => absurd h.2 (by first | exact gz_ne rfl | decide)))
  have t217 := gz_hi (p204 1 5 (fun h => absurd h.1 (by first | exact gz_ne rfl | decide)))
  have t218 := gz_hi (p204 1 18 (fun h => absurd h.2 (by first | exact gz_ne rfl | decide)))
  show gv_X _ _ (77, [(0, .inr (.inr (some 1)))], [], sh, gc_h sh I203 J A)
  refine gv_run 1 true hD (pcₚ := 78) (lvₚ := [(0, .inr (.inr (some 1)))]) (stₚ := [.inr (.inr (some 1))]) (hₚ := gc_h sh I203 J A) (C := (True ∧ True)) rfl ⟨trivial, trivial⟩ ?_
  refine gv_get hD rfl rfl S_1 ⟨by decide, (gz_sh B_1)⟩ (gc_hA S_1 rfl A_1_19) ?_
  show gv_X _ _ (81, [(0, .inr (.inr (some 1)))], [.inr (.inr (some 21))], sh, gc_h sh I203 J A)
  refine gv_run 2 true hD (pcₚ := 84) (lvₚ := [(0, .inr (.inr (some 1)))]) (stₚ := [.inr (.inr (some 1)), .inl 6, .inr (.inr (some 21))]) (hₚ := gc_h sh I203 J A) (C := ((True ∧ True) ∧ True)) rfl ⟨⟨trivial, trivial⟩, trivial⟩ ?_
  refine gv_get hD rfl rfl S_1 ⟨by decide, (gz_sh B_1)⟩ (gc_hI S_1 rfl) ?_
  show gv_X _ _ (87, [(0, .inr (.inr (some 1)))], [.inl (I203 1 5), .inl 6, .inr (.inr (some 21))], sh, gc_h sh I203 J A)
  refine gv_iast hD rfl S_21 ⟨by decide, (gz_sh B_21)⟩ ⟨by (/-92-/first | omega | (simp only [gz_hd] at *; omega)), by (/-93-/first | omega | (simp only [gz_hd] at *; omega))⟩ ?_
  refine gc_st (k := 6) hI203 S_21 rfl (gz_sh R_21) (lo := (-1)) (hi := 12000) rfl rfl (by (/-94-/first | (have o1 := gz_sh f14; have o2 := gz_sh t110; have o3 := gz_sh t127; have o4 := gz_sh t145; have o5 := gz_sh t163; have o6 := gz_sh t181; have o7 := gz_sh t199; have o8 := gz_sh t217; omega) | (simp only [gz_hd] at *; omega))) (by (/-95-/first | (have o1 := gz_sh f14; have o2 := gz_sh t110; have o3 := gz_sh t127; have o4 := gz_sh t145; have o5 := gz_sh t163; have o6 := gz_sh t181; have o7 := gz_sh t199; have o8 := gz_sh t217; omega) | (simp only [gz_hd] at *; omega))) (fun I221 hI221 q222 p222 => ?_)
  have FI221 := gc_frs (W := fun q j => (q = 1 ∧ j = 18) ∨ q = 21) FI203 (Or.inr rfl) p222
  have t223 := gz_hi (p222 21 0 (fun h => absurd h.2 (by first | exact gz_ne rfl | decide)))
  have t224 := gz_hi (p222 21 1 (fun h => absurd h.2 (by first | exact gz_ne rfl | decide)))
  have t225 := gz_hi (p222 21 2 (fun h => absurd h.2 (by first | exact gz_ne rfl | decide)))
  have t226 := gz_hi (p222 21 3 (fun h => absurd h.2 (by first | exact gz_ne rfl | decide)))
  have t227 := gz_hi (p222 21 4 (fun h => absurd h.2 (by first | exact gz_ne rfl | decide)))
  have t228 := gz_hi (p222 21 5 (fun h => absurd h.2 (by first | exact gz_ne rfl | decide)))
  have t232 := gz_hi (p222 8 1 (fun h => absurd h.2 (by first | exact gz_ne rfl | decide)))
  have t236 := gz_hi (p222 1 18 (fun h => absurd h.2 (by first | exact gz_ne rfl | decide)))
  show gv_X _ _ (88, [(0, .inr (.inr (some 1)))], [], sh, gc_h sh I221 J A)
  refine gv_run 2 true hD (pcₚ := 90) (lvₚ := [(1, .inl 0), (0, .inr (.inr (some 1)))]) (stₚ := []) (hₚ := gc_h sh I221 J A) (C := ((True ∧ True) ∧ True)) rfl ⟨⟨trivial, trivial⟩, trivial⟩ ?_
  refine gv_pick [1, 0] rfl ?_
  exact L90 _ I221 J 0 (Nat.lt_succ_self _) hI221 FI221 FJ (by (/-96-/first | (and_intros; (omega); (omega); (have o1 := gz_sh t104; have o2 := gz_sh t133; have o3 := gz_sh t151; have o4 := gz_sh t169; have o5 := gz_sh t187; have o6 := gz_sh t205; have o7 := gz_sh t223; omega); (have o1 := gz_sh t105; have o2 := gz_sh t122; have o3 := gz_sh t152; have o4 := gz_sh t170; have o5 := gz_sh t188; have o6 := gz_sh t206; have o7 := gz_sh t224; omega); (have o1 := gz_sh t106; have o2 := gz_sh t123; have o3 := gz_sh t141; have o4 := gz_sh t171; have o5 := gz_sh t189; have o6 := gz_sh t207; have o7 := gz_sh t225; omega); (have o1 := gz_sh t107; have o2 := gz_sh t124; have o3 := gz_sh t142; have o4 := gz_sh t160; have o5 := gz_sh t190; have o6 := gz_sh t208; have o7 := gz_sh t226; omega); (have o1 := gz_sh t108; have o2 := gz_sh t125; have o3 := gz_sh t143; have o4 := gz_sh t161; have o5 := gz_sh t179; have o6 := gz_sh t209; have o7 := gz_sh t227; omega); (have o1 := gz_sh t109; have o2 := gz_sh t126; have o3 := gz_sh t144; have o4 := gz_sh t162; have o5 := gz_sh t180; have o6 := gz_sh t198; have o7 := gz_sh t228; omega); (have o1 := gz_sh t110; have o2 := gz_sh t127; have o3 := gz_sh t145; have o4 := gz_sh t163; have o5 := gz_sh t181; have o6 := gz_sh t199; have o7 := gz_sh t217; omega); (have o1 := gz_sh t107; have o2 := gz_sh t124; have o3 := gz_sh t142; have o4 := gz_sh t160; have o5 := gz_sh t178; have o6 := gz_sh t196; have o7 := gz_sh t214; have o8 := gz_sh t232; omega); (have o1 := gz_sh t104; have o2 := gz_sh t105; have o3 := gz_sh t106; have o4 := gz_sh t107; have o5 := gz_sh t108; have o6 := gz_sh t109; have o7 := gz_sh t110; have o8 := gz_sh t121; have o9 := gz_sh t122; have o10 := gz_sh t123; have o11 := gz_sh t124; have o12 := gz_sh t125; have o13 := gz_sh t126; have o14 := gz_sh t127; have o15 := gz_sh t128; have o16 := gz_sh t133; have o17 := gz_sh t139; have o18 := gz_sh t140; have o19 := gz_sh t141; have o20 := gz_sh t142; have o21 := gz_sh t143; have o22 := gz_sh t144; have o23 := gz_sh t145; have o24 := gz_sh t146; have o25 := gz_sh t151; have o26 := gz_sh t152; have o27 := gz_sh t157; have o28 := gz_sh t158; have o29 := gz_sh t159; have o30 := gz_sh t160; have o31 := gz_sh t161; have o32 := gz_sh t162; have o33 := gz_sh t163; have o34 := gz_sh t164; have o35 := gz_sh t169; have o36 := gz_sh t170; have o37 := gz_sh t171; have o38 := gz_sh t175; have o39 := gz_sh t176; have o40 := gz_sh t177; have o41 := gz_sh t178; have o42 := gz_sh t179; have o43 := gz_sh t180; have o44 := gz_sh t181; have o45 := gz_sh t182; have o46 := gz_sh t187; have o47 := gz_sh t188; have o48 := gz_sh t189; have o49 := gz_sh t190; have o50 := gz_sh t193; have o51 := gz_sh t194; have o52 := gz_sh t195; have o53 := gz_sh t196; have o54 := gz_sh t197; have o55 := gz_sh t198; have o56 := gz_sh t199; have o57 := gz_sh t200; have o58 := gz_sh t205; have o59 := gz_sh t206; have o60 := gz_sh t207; have o61 := gz_sh t208; have o62 := gz_sh t209; have o63 := gz_sh t211; have o64 := gz_sh t212; have o65 := gz_sh t213; have o66 := gz_sh t214; have o67 := gz_sh t215; have o68 := gz_sh t216; have o69 := gz_sh t217; have o70 := gz_sh t218; have o71 := gz_sh t223; have o72 := gz_sh t224; have o73 := gz_sh t225; have o74 := gz_sh t226; have o75 := gz_sh t227; have o76 := gz_sh t228; have o77 := gz_sh t232; have o78 := gz_sh t236; omega)) | (simp only [gz_hd] at *; omega))) (fun j hj => by (/-97-/first | omega | (simp only [gz_hd] at *; omega)))
set_option maxHeartbeats 8000000 in
set_option maxRecDepth 100000 in
theorem d_X6_begin_p {ws0 : List Cond} {tb : String → gz_T} (hws : gc_Ws ws0) (htb : gc_tbs tb) (sh : gz_Sh) (ro : Nat → Nat) (I : gr_I) (J : gr_J) (A : gc_A) (hI : gc_Inv ro I) (β : Int → Int) (η : Int)  (hb : gc_Base sh ro A)  (x0 : gc_Ts sh ro A I) (x1 : gs_TX β η (I 24)) (x2 : η = I 23 1) : ∃ r hₚ, gz_Ev ws0 tb 4 (yX6_begin, cX6_begin, 1, none) [.inr (.inr (some 39))] sh (gc_h sh I J A) r sh hₚ 0 0 ∧ (∃ (Iₚ : gr_I) (Jₚ : gr_J), hₚ = gc_h sh Iₚ Jₚ A ∧ gc_Inv ro Iₚ ∧ (∀ q j : Nat, ((q = 39 ∧ j = 3) ∨ (q = 1 ∧ j = 18) ∨ q = 21 ∨ (q = 23 ∧ j = 5) ∨ (q = 23 ∧ j = 6) ∨ (q = 23 ∧ j = 7) ∨ (q = 23 ∧ j = 8)) ∨ Iₚ q j = I q j) ∧ (∀ q j : Nat, ((q = 23 ∧ j = 9)) ∨ Jₚ q j = J q j) ∧ r = none ∧ (gc_TK Iₚ) ∧ (gc_LT Iₚ) ∧ (Iₚ 21 0 = I 2 1) ∧ (Iₚ 21 1 = I 4 1) ∧ (Iₚ 21 2 = I 6 1) ∧ (Iₚ 21 3 = I 8 1) ∧ (Iₚ 21 4 = I 1 13) ∧ (Iₚ 21 5 = I 1 17) ∧ (Iₚ 21 6 = I 1 5) ∧ (gc_mkT A I Iₚ (I 8 1)) ∧ (∀ f : Nat, f < 96 → Iₚ 21 (63 + f) = I 15 f) ∧ (gc_AT β η 0 23 Iₚ Jₚ) ∧ (Iₚ 1 18 = 0)) := by
  have FI : ∀ q j : Nat, ((q = 39 ∧ j = 3) ∨ (q = 1 ∧ j = 18) ∨ q = 21 ∨ (q = 23 ∧ j = 5) ∨ (q = 23 ∧ j = 6) ∨ (q = 23 ∧ j = 7) ∨ (q = 23 ∧ j = 8)) ∨ I q j = I q j := fun _ _ => Or.inr rfl
  have FJ : ∀ q j : Nat, ((q = 23 ∧ j = 9)) ∨ J q j = J q j := fun _ _ => Or.inr rfl
  have A_39_0 : A 39 0 = some 1 := gc_bA_39_0 hb
  have A_39_1 : A 39 1 = some 23 := gc_bA_39_1 hb
  have B_1 := gz_hi (show 1 < 1000000 from by decide)
  have B_23 := gz_hi (show 23 < 1000000 from by decide)
  have B_39 := gz_hi (show 39 < 1000000 from by decide)
  have R_1 := gz_hi (show ro 1 = 22 from gc_bR_1 hb)
  have R_2 := gz_hi (show ro 2 = 9 from gc_bR_2 hb)
  have R_21 := gz_hi (show ro 21 = 70 from gc_bR_21 hb)
  have R_23 := gz_hi (show ro 23 = 3 from gc_bR_23 hb)
  have R_39 := gz_hi (show ro 39 = 42 from gc_bR_39 hb)
  have R_4 := gz_hi (show ro 4 = 11 from gc_bR_4 hb)
  have R_6 := gz_hi (show ro 6 = 6 from gc_bR_6 hb)
  have R_8 := gz_hi (show ro 8 = 6 from gc_bR_8 hb)
  have S_1 : sh[1]? = some (false, 8, 21) := gc_bS_1 hb
  have S_23 : sh[23]? = some (false, 9, 10) := gc_bS_23 hb
  have S_39 : sh[39]? = some (false, 6, 19) := gc_bS_39 hb
  have hD : gv_D (gc_E6 ws0 tb 3 (yX6_begin, cX6_begin, 1, none) kX6_begin) := gq_of oX6_begin
  refine gc_ev6 (d := 3) (l := kX6_begin) (Po := fun r hₚ => (∃ (Iₚ : gr_I) (Jₚ : gr_J), hₚ = gc_h sh Iₚ Jₚ A ∧ gc_Inv ro Iₚ ∧ (∀ q j : Nat, ((q = 39 ∧ j = 3) ∨ (q = 1 ∧ j = 18) ∨ q = 21 ∨ (q = 23 ∧ j = 5) ∨ (q = 23 ∧ j = 6) ∨ (q = 23 ∧ j = 7) ∨ (q = 23 ∧ j = 8)) ∨ Iₚ q j = I q j) ∧ (∀ q j : Nat, ((q = 23 ∧ j = 9)) ∨ Jₚ q j = J q j) ∧ r = none ∧ (gc_TK Iₚ) ∧ (gc_LT Iₚ) ∧ (Iₚ 21 0 = I 2 1) ∧ (Iₚ 21 1 = I 4 1) ∧ (Iₚ 21 2 = I 6 1) ∧ (Iₚ 21 3 = I 8 1) ∧ (Iₚ 21 4 = I 1 13) ∧ (Iₚ 21 5 = I 1 17) ∧ (Iₚ 21 6 = I 1 5) ∧ (gc_mkT A I Iₚ (I 8 1)) ∧ (∀ f : Nat, f < 96 → Iₚ 21 (63 + f) = I 15 f) ∧ (gc_AT β η 0 23 Iₚ Jₚ) ∧ (Iₚ 1 18 = 0))) htb rfl (Nat.le_of_ble_eq_true rfl) ?_
  refine gv_run 2 true hD (pcₚ := 2) (lvₚ := [(0, .inr (.inr (some 39)))]) (stₚ := [.inl 0, .inr (.inr (some 39))]) (hₚ := gc_h sh I J A) (C := ((True ∧ True) ∧ True)) rfl ⟨⟨trivial, trivial⟩, trivial⟩ ?_
  refine gv_put hD rfl rfl S_39 ⟨by decide, (gz_sh B_39)⟩ rfl trivial ?_
  refine gc_st (k := 3) hI S_39 rfl (gz_sh R_39) (lo := 0) (hi := 6) rfl rfl (by (/-0-/first | omega | (simp only [gz_hd] at *; omega))) (by (/-1-/first | omega | (simp only [gz_hd] at *; omega))) (fun I20 hI20 q21 p21 => ?_)
  have FI20 := gc_frs (W := fun q j => (q = 39 ∧ j = 3) ∨ (q = 1 ∧ j = 18) ∨ q = 21 ∨ (q = 23 ∧ j = 5) ∨ (q = 23 ∧ j = 6) ∨ (q = 23 ∧ j = 7) ∨ (q = 23 ∧ j = 8)) FI (Or.inl ⟨rfl, rfl⟩) p21
  have t22 := gz_hi (p21 23 1 (fun h => absurd h.2 (by first | exact gz_ne rfl | decide)))
  have t33 := gz_hi (p21 2 1 (fun h => absurd h.2 (by first | exact gz_ne rfl | decide)))
  have t34 := gz_hi (p21 4 1 (fun h => absurd h.2 (by first | exact gz_ne rfl | decide)))
  have t35 := gz_hi (p21 6 1 (fun h => absurd h.2 (by first | exact gz_ne rfl | decide)))
  have t36 := gz_hi (p21 8 1 (fun h => absurd h.2 (by first | exact gz_ne rfl | decide)))
  have t37 := gz_hi (p21 1 13 (fun h => absurd h.2 (by first | exact gz_ne rfl | decide)))
  have t38 := gz_hi (p21 1 17 (fun h => absurd h.2 (by first | exact gz_ne rfl | decide)))
  have t39 := gz_hi (p21 1 5 (fun h => absurd h.2 (by first | exact gz_ne rfl | decide)))
  show gv_X _ _ (5, [(0, .inr (.inr (some 39)))], [], sh, gc_h sh I20 J A)
  refine gv_run 1 true hD (pcₚ := 6) (lvₚ := [(0, .inr (.inr (some 39)))]) (stₚ := [.inr (.inr (some 39))]) (hₚ := gc_h sh I20 J A) (C := (True ∧ True)) rfl ⟨trivial, trivial⟩ ?_
  refine gv_get hD rfl rfl S_39 ⟨by decide, (gz_sh B_39)⟩ (gc_hA S_39 rfl A_39_0) ?_
  show gv_X _ _ (9, [(0, .inr (.inr (some 39)))], [.inr (.inr (some 1))], sh, gc_h sh I20 J A)
  obtain ⟨r41, h41, E41, P41⟩ := d_X8_mark_w_p (ws0 := ws0) (tb := tb) hws htb sh ro I20 J A hI20   hb    (gc_Ts_fr x0 (by (/-2-/first | (have o1 := gz_sh t36; omega) | (simp only [gz_hd] at *; omega)))) 
  obtain ⟨I42, J43, rfl, hI42, g41, k41, ⟨rfl, q41⟩⟩ := P41
  replace q41 := gz_hi q41
  have FI42 := gc_frc (W := fun q j => (q = 39 ∧ j = 3) ∨ (q = 1 ∧ j = 18) ∨ q = 21 ∨ (q = 23 ∧ j = 5) ∨ (q = 23 ∧ j = 6) ∨ (q = 23 ∧ j = 7) ∨ (q = 23 ∧ j = 8)) (V := fun q j => (q = 1 ∧ j = 18) ∨ q = 21) FI20 (fun q j h => (h.elim (fun h => (Or.inr (Or.inl h))) (fun h => (Or.inr (Or.inr (Or.inl h)))))) g41
  have t44 := gz_hi ((g41 23 1).resolve_left (fun h => h.elim (fun h => absurd h.2 (by first | exact gz_ne rfl | decide)) (fun h => absurd h (by first | exact gz_ne rfl | decide))))
  have t48 := gz_hi ((g41 2 1).resolve_left (fun h => h.elim (fun h => absurd h.2 (by first | exact gz_ne rfl | decide)) (fun h => absurd h (by first | exact gz_ne rfl | decide))))
  have t49 := gz_hi ((g41 4 1).resolve_left (fun h => h.elim (fun h => absurd h.2 (by first | exact gz_ne rfl | decide)) (fun h => absurd h (by first | exact gz_ne rfl | decide))))
  have t50 := gz_hi ((g41 6 1).resolve_left (fun h => h.elim (fun h => absurd h.2 (by first | exact gz_ne rfl | decide)) (fun h => absurd h (by first | exact gz_ne rfl | decide))))
  have t51 := gz_hi ((g41 8 1).resolve_left (fun h => h.elim (fun h => absurd h.2 (by first | exact gz_ne rfl | decide)) (fun h => absurd h (by first | exact gz_ne rfl | decide))))
  have t52 := gz_hi ((g41 1 13).resolve_left (fun h => h.elim (fun h => absurd h.2 (by first | exact gz_ne rfl | decide)) (fun h => absurd h (by first | exact gz_ne rfl | decide))))
  have t53 := gz_hi ((g41 1 17).resolve_left (fun h => h.elim (fun h => absurd h.2 (by first | exact gz_ne rfl | decide)) (fun h => absurd h (by first | exact gz_ne rfl | decide))))
  have t54 := gz_hi ((g41 1 5).resolve_left (fun h => h.elim (fun h => absurd h.2 (by first | exact gz_ne rfl | decide)) (fun h => absurd h (by first | exact gz_ne rfl | decide))))
  obtain rfl : J = J43 := funext fun q => funext fun j => ((k41 q j).resolve_left id).symm
  refine gv_callV hD rfl (As := []) (st := []) rfl (gz_sh B_1) S_1 rfl (gc_lV6 hws rfl) (Nat.le_of_ble_eq_true rfl) (gz_Ev_mono (d := 2) (by decide) E41) ?_
  show gv_X _ _ (12, [(0, .inr (.inr (some 39)))], [], sh, gc_h sh I42 J A)
  refine gv_run 1 true hD (pcₚ := 13) (lvₚ := [(0, .inr (.inr (some 39)))]) (stₚ := [.inr (.inr (some 39))]) (hₚ := gc_h sh I42 J A) (C := (True ∧ True)) rfl ⟨trivial, trivial⟩ ?_
  refine gv_get hD rfl rfl S_39 ⟨by decide, (gz_sh B_39)⟩ (gc_hA S_39 rfl A_39_1) ?_
  show gv_X _ _ (16, [(0, .inr (.inr (some 39)))], [.inr (.inr (some 23))], sh, gc_h sh I42 J A)
  obtain ⟨r63, h63, E63, P63⟩ := d_X9_rewind_p (ws0 := ws0) (tb := tb) hws htb sh ro I42 J A hI42 23 β η  (gc_b23 hb)    (show gs_TX β η (I42 24) from by rw [show I42 24 = I 24 from funext fun k => (((g41 24 k).resolve_left (by (/-3-/first | omega | (simp only [gz_hd] at *; omega)))).trans (p21 24 k (by (/-4-/first | omega | (simp only [gz_hd] at *; omega)))))]; exact x1) (by (/-5-/first | (have o1 := gz_sh t22; have o2 := gz_sh t44; omega) | (simp only [gz_hd] at *; omega))) 
  obtain ⟨I64, J65, rfl, hI64, g63, k63, ⟨rfl, V63_0, V63_1, V63_2, V63_3, V63_4, q63⟩⟩ := P63
  replace q63 := gz_hi q63
  have FI64 := gc_frc (W := fun q j => (q = 39 ∧ j = 3) ∨ (q = 1 ∧ j = 18) ∨ q = 21 ∨ (q = 23 ∧ j = 5) ∨ (q = 23 ∧ j = 6) ∨ (q = 23 ∧ j = 7) ∨ (q = 23 ∧ j = 8)) (V := fun q j => (q = 23 ∧ j = 5) ∨ (q = 23 ∧ j = 6) ∨ (q = 23 ∧ j = 7) ∨ (q = 23 ∧ j = 8)) FI42 (fun q j h => (h.elim (fun h => (Or.inr (Or.inr (Or.inr (Or.inl h))))) (fun h => (h.elim (fun h => (Or.inr (Or.inr (Or.inr (Or.inr (Or.inl h)))))) (fun h => (h.elim (fun h => (Or.inr (Or.inr (Or.inr (Or.inr (Or.inr (Or.inl h))))))) (fun h => (Or.inr (Or.inr (Or.inr (Or.inr (Or.inr (Or.inr h))))))))))))) g63
  have FJ65 := gc_frc (W := fun q j => (q = 23 ∧ j = 9)) (V := fun q j => (q = 23 ∧ j = 9)) FJ (fun q j h => h) k63
  have t67 := gz_hi ((g63 21 0).resolve_left (fun h => h.elim (fun h => absurd h.2 (by first | exact gz_ne rfl | decide)) (fun h => h.elim (fun h => absurd h.2 (by first | exact gz_ne rfl | decide)) (fun h => h.elim (fun h => absurd h.2 (by first | exact gz_ne rfl | decide)) (fun h => absurd h.2 (by first | exact gz_ne rfl | decide))))))
  have t68 := gz_hi ((g63 21 1).resolve_left (fun h => h.elim (fun h => absurd h.2 (by first | exact gz_ne rfl | decide)) (fun h => h.elim (fun h => absurd h.2 (by first | exact gz_ne rfl | decide)) (fun h => h.elim (fun h => absurd h.2 (by first | exact gz_ne rfl | decide)) (fun h => absurd h.2 (by first | exact gz_ne rfl | decide))))))
  have t69 := gz_hi ((g63 21 2).resolve_left (fun h => h.elim (fun h => absurd h.2 (by first | exact gz_ne rfl | decide)) (fun h => h.elim (fun h => absurd h.2 (by first | exact gz_ne rfl | decide)) (fun h => h.elim (fun h => absurd h.2 (by first | exact gz_ne rfl | decide)) (fun h => absurd h.2 (by first | exact gz_ne rfl | decide))))))
  have t70 := gz_hi ((g63 21 3).resolve_left (fun h => h.elim (fun h => absurd h.2 (by first | exact gz_ne rfl | decide)) (fun h => h.elim (fun h => absurd h.2 (by first | exact gz_ne rfl | decide)) (fun h => h.elim (fun h => absurd h.2 (by first | exact gz_ne rfl | decide)) (fun h => absurd h.2 (by first | exact gz_ne rfl | decide))))))
  have t71 := gz_hi ((g63 21 4).resolve_left (fun h => h.elim (fun h => absurd h.2 (by first | exact gz_ne rfl | decide)) (fun h => h.elim (fun h => absurd h.2 (by first | exact gz_ne rfl | decide)) (fun h => h.elim (fun h => absurd h.2 (by first | exact gz_ne rfl | decide)) (fun h => absurd h.2 (by first | exact gz_ne rfl | decide))))))
  have t72 := gz_hi ((g63 21 5).resolve_left (fun h => h.elim (fun h => absurd h.1 (by first | exact gz_ne rfl | decide)) (fun h => h.elim (fun h => absurd h.2 (by first | exact gz_ne rfl | decide)) (fun h => h.elim (fun h => absurd h.2 (by first | exact gz_ne rfl | decide)) (fun h => absurd h.2 (by first | exact gz_ne rfl | decide))))))
  have t73 := gz_hi ((g63 21 6).resolve_left (fun h => h.elim (fun h => absurd h.2 (by first | exact gz_ne rfl | decide)) (fun h => h.elim (fun h => absurd h.1 (by first | exact gz_ne rfl | decide)) (fun h => h.elim (fun h => absurd h.2 (by first | exact gz_ne rfl | decide)) (fun h => absurd h.2 (by first | exact gz_ne rfl | decide))))))
  have t81 := gz_hi ((g63 1 18).resolve_left (fun h => h.elim (fun h => absurd h.2 (by first | exact gz_ne rfl | decide)) (fun h => h.elim (fun h => absurd h.2 (by first | exact gz_ne rfl | decide)) (fun h => h.elim (fun h => absurd h.2 (by first | exact gz_ne rfl | decide)) (fun h => absurd h.2 (by first | exact gz_ne rfl | decide))))))
  have KLT_I64 : gc_LT I64 := (gz_sh q63).2.1
  have KTK_I64 : gc_TK I64 := And.intro V63_0 (And.intro V63_1 (And.intro V63_2 (And.intro V63_3 V63_4)))
  clear V63_0 V63_1 V63_2 V63_3 V63_4
  refine gv_callV hD rfl (As := []) (st := []) rfl (gz_sh B_23) S_23 rfl (gc_lV6 hws rfl) (Nat.le_of_ble_eq_true rfl) (gz_Ev_mono (d := 3) (by decide) E63) ?_
  show gv_X _ _ (19, [(0, .inr (.inr (some 39)))], [], sh, gc_h sh I64 J65 A)
  exact gv_vret hD rfl ⟨I64, J65, rfl, hI64, FI64, FJ65, ⟨rfl, KTK_I64, KLT_I64, by (/-6-/first | (have o1 := gz_sh q41; have o2 := gz_sh t33; have o3 := gz_sh t67; omega) | (simp only [gz_hd] at *; omega)), by (/-7-/first | (have o1 := gz_sh q41; have o2 := gz_sh t34; have o3 := gz_sh t68; omega) | (simp only [gz_hd] at *; omega)), by (/-8-/first | (have o1 := gz_sh q41; have o2 := gz_sh t35; have o3 := gz_sh t69; omega) | (simp only [gz_hd] at *; omega)), by (/-9-/first | (have o1 := gz_sh q41; have o2 := gz_sh t36; have o3 := gz_sh t70; omega) | (simp only [gz_hd] at *; omega)), by (/-10-/first | (have o1 := gz_sh q41; have o2 := gz_sh t37; have o3 := gz_sh t71; omega) | (simp only [gz_hd] at *; omega)), by (/-11-/first | (have o1 := gz_sh q41; have o2 := gz_sh t38; have o3 := gz_sh t72; omega) | (simp only [gz_hd] at *; omega)), by (/-12-/first | (have o1 := gz_sh q41; have o2 := gz_sh t39; have o3 := gz_sh t73; omega) | (simp only [gz_hd] at *; omega)), (by have h9 := (gz_sh q41).2.2.2.2.2.2.2.1; rw [show I20 8 1 = I 8 1 from by (/-13-/first | (have o1 := gz_sh t36; omega) | (simp only [gz_hd] at *; omega))] at h9; exact gc_mkT_b h9 x0 (Int.le_refl _) p21 (fun k => ((g63 21 k).resolve_left (by (/-14-/first | omega | (simp only [gz_hd] at *; omega)))))), (fun f hf => (((g63 21 (63 + f)).resolve_left (by (/-15-/first | omega | (simp only [gz_hd] at *; omega))))).trans (((gz_sh q41).2.2.2.2.2.2.2.2.1 f hf).trans (p21 15 f (fun h => absurd h.1 (by first | exact gz_ne rfl | decide))))), (gz_sh q63).2.2, (by (/-16-/first | (have o1 := gz_sh q41; have o2 := gz_sh t81; omega) | (simp only [gz_hd] at *; omega)))⟩⟩
