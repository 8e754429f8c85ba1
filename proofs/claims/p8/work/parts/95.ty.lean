/-! PARITY, the class's side: a module's begin -/
set_option maxHeartbeats 8000000 in
set_option maxRecDepth 100000 in
theorem d_X9_rewind_p {ws0 : List Cond} {tb : String → gz_T} (hws : gc_Ws ws0) (htb : gc_tbs tb) (sh : gz_Sh) (ro : Nat → Nat) (I : gr_I) (J : gr_J) (A : gc_A) (hI : gc_Inv ro I) (p : Nat) (β : Int → Int) (η : Int)  (hp : gc_isText sh ro A p)  (x0 : gs_TX β η (I (p + 1))) (x1 : η = I p 1) : ∃ r h', gz_Ev ws0 tb 3 (yX9_rewind, cX9_rewind, 1, none) [.inr (.inr (some p))] sh (gc_h sh I J A) r sh h' 0 0 ∧ (∃ (I' : gr_I) (J' : gr_J), h' = gc_h sh I' J' A ∧ gc_Inv ro I' ∧ (∀ q j : Nat, ((q = p ∧ j = 5) ∨ (q = p ∧ j = 6) ∨ (q = p ∧ j = 7) ∨ (q = p ∧ j = 8)) ∨ I' q j = I q j) ∧ (∀ q j : Nat, ((q = p ∧ j = 9)) ∨ J' q j = J q j) ∧ r = none ∧ (I' p 5 ≤ I' p 6) ∧ (I' p 7 = 5 ∨ I' p 6 ≤ I' p 1) ∧ (I' p 5 ≤ I' p 1) ∧ (I' p 7 = 4 ∨ (I' p 5 < I' p 6 ∧ I' p 5 < I' p 1)) ∧ (I' p 7 = 3 → 2 ≤ I' p 6 - I' p 5 ∧ I' p 6 - I' p 5 ≤ 14) ∧ (I' p 1 = I p 1) ∧ (I' p 7 = 3 → gc_lt p I' (I' p 5) (I' p 6 - 1)) ∧ (gc_AT β η 0 p I' J')) := by
  have FI : ∀ q j : Nat, ((q = p ∧ j = 5) ∨ (q = p ∧ j = 6) ∨ (q = p ∧ j = 7) ∨ (q = p ∧ j = 8)) ∨ I q j = I q j := fun _ _ => Or.inr rfl
  have FJ : ∀ q j : Nat, ((q = p ∧ j = 9)) ∨ J q j = J q j := fun _ _ => Or.inr rfl
  obtain ⟨S_p, R_p, B_p, A_p_0, S_p_1, R_p_1, B_p_1, A_p_2, S_p_2, R_p_2, B_p_2, A_p_3, S_p_3, R_p_3, B_p_3⟩ := id hp
  have hD : gv_D (gc_E9 ws0 tb 2 (yX9_rewind, cX9_rewind, 1, none) kX9_rewind) := gq_of oX9_rewind
  refine gc_ev9 (d := 2) (l := kX9_rewind) (Po := fun r h' => (∃ (I' : gr_I) (J' : gr_J), h' = gc_h sh I' J' A ∧ gc_Inv ro I' ∧ (∀ q j : Nat, ((q = p ∧ j = 5) ∨ (q = p ∧ j = 6) ∨ (q = p ∧ j = 7) ∨ (q = p ∧ j = 8)) ∨ I' q j = I q j) ∧ (∀ q j : Nat, ((q = p ∧ j = 9)) ∨ J' q j = J q j) ∧ r = none ∧ (I' p 5 ≤ I' p 6) ∧ (I' p 7 = 5 ∨ I' p 6 ≤ I' p 1) ∧ (I' p 5 ≤ I' p 1) ∧ (I' p 7 = 4 ∨ (I' p 5 < I' p 6 ∧ I' p 5 < I' p 1)) ∧ (I' p 7 = 3 → 2 ≤ I' p 6 - I' p 5 ∧ I' p 6 - I' p 5 ≤ 14) ∧ (I' p 1 = I p 1) ∧ (I' p 7 = 3 → gc_lt p I' (I' p 5) (I' p 6 - 1)) ∧ (gc_AT β η 0 p I' J'))) htb rfl (Nat.le_of_ble_eq_true rfl) ?_
  have f1 := (show 0 ≤ I p 1 ∧ I p 1 ≤ 1000 from gc_in2 hI R_p rfl rfl rfl)
  have f2 := (show 0 ≤ I p 5 ∧ I p 5 ≤ 1000 from gc_in2 hI R_p rfl rfl rfl)
  have f3 := (show 0 ≤ I p 6 ∧ I p 6 ≤ 1001 from gc_in2 hI R_p rfl rfl rfl)
  have f4 := (show 0 ≤ I p 7 ∧ I p 7 ≤ 125 from gc_in2 hI R_p rfl rfl rfl)
  refine gv_run 2 true hD (pc' := 2) (lv' := [(0, .inr (.inr (some p)))]) (st' := [.inl 0, .inr (.inr (some p))]) (h' := gc_h sh I J A) (C := ((True ∧ True) ∧ True)) rfl ⟨⟨trivial, trivial⟩, trivial⟩ ?_
  refine gv_put hD rfl rfl S_p ⟨by decide, B_p⟩ rfl trivial ?_
  refine gc_st (k := 6) hI S_p rfl R_p (lo := 0) (hi := 1001) rfl rfl (by exact gz_m 0 (by omega)) (by exact gz_m 1 (by omega)) (fun I5 hI5 q6 p6 => ?_)
  have FI5 := gc_frs (W := fun q j => (q = p ∧ j = 5) ∨ (q = p ∧ j = 6) ∨ (q = p ∧ j = 7) ∨ (q = p ∧ j = 8)) FI (Or.inr (Or.inl ⟨rfl, rfl⟩)) p6
  have t7 := p6 p 1 (fun h => absurd h.2 (by first | exact gz_ne rfl | decide))
  have t8 := p6 p 5 (fun h => absurd h.2 (by first | exact gz_ne rfl | decide))
  have t9 := p6 p 7 (fun h => absurd h.2 (by first | exact gz_ne rfl | decide))
  have f10 := (show 0 ≤ I5 p 6 ∧ I5 p 6 ≤ 1001 from gc_in2 hI5 R_p rfl rfl rfl)
  show gv_X _ _ (5, [(0, .inr (.inr (some p)))], [], sh, gc_h sh I5 J A)
  refine gv_run 1 true hD (pc' := 6) (lv' := [(0, .inr (.inr (some p)))]) (st' := [.inr (.inr (some p))]) (h' := gc_h sh I5 J A) (C := (True ∧ True)) rfl ⟨trivial, trivial⟩ ?_
  obtain ⟨r11, h11, E11, P11⟩ := d_X9_advance_p (ws0 := ws0) (tb := tb) hws htb sh ro I5 J A hI5 p β η  hp    (by exact gz_m 2 (by omega)) (by rw [show I5 (p + 1) = I (p + 1) from funext fun k => (FI5 (p + 1) k).resolve_left (by exact gz_m 3 (by omega))]; exact x0) (by exact gz_m 4 (by omega)) 
  obtain ⟨I12, J13, rfl, hI12, g11, k11, ⟨rfl, V11_0, V11_1, V11_2, V11_3, V11_4, q11⟩⟩ := P11
  have FI12 := gc_frc (W := fun q j => (q = p ∧ j = 5) ∨ (q = p ∧ j = 6) ∨ (q = p ∧ j = 7) ∨ (q = p ∧ j = 8)) (V := fun q j => (q = p ∧ j = 5) ∨ (q = p ∧ j = 6) ∨ (q = p ∧ j = 7) ∨ (q = p ∧ j = 8)) FI5 (fun q j h => (h.elim (fun h => (Or.inl h)) (fun h => (h.elim (fun h => (Or.inr (Or.inl h))) (fun h => (h.elim (fun h => (Or.inr (Or.inr (Or.inl h)))) (fun h => (Or.inr (Or.inr (Or.inr h)))))))))) g11
  have FJ13 := gc_frc (W := fun q j => (q = p ∧ j = 9)) (V := fun q j => (q = p ∧ j = 9)) FJ (fun q j h => h) k11
  have t14 := (g11 p 1).resolve_left (fun h => h.elim (fun h => absurd h.2 (by first | exact gz_ne rfl | decide)) (fun h => h.elim (fun h => absurd h.2 (by first | exact gz_ne rfl | decide)) (fun h => h.elim (fun h => absurd h.2 (by first | exact gz_ne rfl | decide)) (fun h => absurd h.2 (by first | exact gz_ne rfl | decide)))))
  have f15 := (show 0 ≤ I12 p 5 ∧ I12 p 5 ≤ 1000 from gc_in2 hI12 R_p rfl rfl rfl)
  have f16 := (show 0 ≤ I12 p 6 ∧ I12 p 6 ≤ 1001 from gc_in2 hI12 R_p rfl rfl rfl)
  have f17 := (show 0 ≤ I12 p 7 ∧ I12 p 7 ≤ 125 from gc_in2 hI12 R_p rfl rfl rfl)
  refine gv_callV hD rfl (As := []) (st := []) rfl B_p S_p rfl (gc_lV9 hws rfl) (Nat.le_of_ble_eq_true rfl) (gz_Ev_mono (d := 2) (by decide) E11) ?_
  show gv_X _ _ (9, [(0, .inr (.inr (some p)))], [], sh, gc_h sh I12 J13 A)
  exact gv_vret hD rfl ⟨I12, J13, rfl, hI12, FI12, FJ13, ⟨rfl, by exact gz_m 5 (by omega), by exact gz_m 6 (by omega), by exact gz_m 7 (by omega), by exact gz_m 8 (by omega), by exact gz_m 9 (by omega), by exact gz_m 10 (by omega), q11.2.2.1, (by have h9 := q11.2.2.2; rw [show I5 p 6 = 0 from by exact gz_m 11 (by omega)] at h9; exact h9)⟩⟩
set_option maxHeartbeats 8000000 in
set_option maxRecDepth 100000 in
theorem d_X8_mark_w_p {ws0 : List Cond} {tb : String → gz_T} (hws : gc_Ws ws0) (htb : gc_tbs tb) (sh : gz_Sh) (ro : Nat → Nat) (I : gr_I) (J : gr_J) (A : gc_A) (hI : gc_Inv ro I)  (hb : gc_Base sh ro A)  (x0 : gc_Ts sh ro A I) : ∃ r h', gz_Ev ws0 tb 2 (yX8_mark, cX8_mark, 2, none) [.inr (.inr (some 1))] sh (gc_h sh I J A) r sh h' 0 0 ∧ (∃ (I' : gr_I) (J' : gr_J), h' = gc_h sh I' J' A ∧ gc_Inv ro I' ∧ (∀ q j : Nat, ((q = 1 ∧ j = 18) ∨ q = 21) ∨ I' q j = I q j) ∧ (∀ q j : Nat, (False) ∨ J' q j = J q j) ∧ r = none ∧ (I' 21 0 = I 2 1) ∧ (I' 21 1 = I 4 1) ∧ (I' 21 2 = I 6 1) ∧ (I' 21 3 = I 8 1) ∧ (I' 21 4 = I 1 13) ∧ (I' 21 5 = I 1 17) ∧ (I' 21 6 = I 1 5) ∧ (gc_mkT A I I' (I 8 1)) ∧ (∀ f : Nat, f < 96 → I' 21 (63 + f) = I 15 f) ∧ (I' 1 18 = 0)) := by
  have FI : ∀ q j : Nat, ((q = 1 ∧ j = 18) ∨ q = 21) ∨ I q j = I q j := fun _ _ => Or.inr rfl
  have FJ : ∀ q j : Nat, (False) ∨ J q j = J q j := fun _ _ => Or.inr rfl
  have A_1_0 : A 1 0 = some 2 := gc_bA_1_0 hb
  have A_1_1 : A 1 1 = some 4 := gc_bA_1_1 hb
  have A_1_10 : A 1 10 = some 15 := gc_bA_1_10 hb
  have A_1_19 : A 1 19 = some 21 := gc_bA_1_19 hb
  have A_1_2 : A 1 2 = some 6 := gc_bA_1_2 hb
  have A_1_3 : A 1 3 = some 8 := gc_bA_1_3 hb
  have A_1_4 : A 1 4 = some 10 := gc_bA_1_4 hb
  have B_1 : 1 < 1000000 := by decide
  have B_10 : 10 < 1000000 := by decide
  have B_15 : 15 < 1000000 := by decide
  have B_2 : 2 < 1000000 := by decide
  have B_21 : 21 < 1000000 := by decide
  have B_4 : 4 < 1000000 := by decide
  have B_6 : 6 < 1000000 := by decide
  have B_8 : 8 < 1000000 := by decide
  have R_1 : ro 1 = 22 := gc_bR_1 hb
  have R_15 : ro 15 = 28 := gc_bR_15 hb
  have R_2 : ro 2 = 9 := gc_bR_2 hb
  have R_21 : ro 21 = 70 := gc_bR_21 hb
  have R_4 : ro 4 = 11 := gc_bR_4 hb
  have R_6 : ro 6 = 6 := gc_bR_6 hb
  have R_8 : ro 8 = 6 := gc_bR_8 hb
  have S_1 : sh[1]? = some (false, 8, 21) := gc_bS_1 hb
  have S_10 : sh[10]? = some (true, 5, 8) := gc_bS_10 hb
  have S_15 : sh[15]? = some (true, 1, 96) := gc_bS_15 hb
  have S_2 : sh[2]? = some (false, 4, 2) := gc_bS_2 hb
  have S_21 : sh[21]? = some (true, 1, 159) := gc_bS_21 hb
  have S_4 : sh[4]? = some (false, 4, 2) := gc_bS_4 hb
  have S_6 : sh[6]? = some (false, 4, 2) := gc_bS_6 hb
  have S_8 : sh[8]? = some (false, 4, 2) := gc_bS_8 hb
  have hD : gv_D (gc_E8 ws0 tb 1 (yX8_mark, cX8_mark, 2, none) kX8_mark) := gq_of oX8_mark
  refine gc_ev8 (d := 1) (l := kX8_mark) (Po := fun r h' => (∃ (I' : gr_I) (J' : gr_J), h' = gc_h sh I' J' A ∧ gc_Inv ro I' ∧ (∀ q j : Nat, ((q = 1 ∧ j = 18) ∨ q = 21) ∨ I' q j = I q j) ∧ (∀ q j : Nat, (False) ∨ J' q j = J q j) ∧ r = none ∧ (I' 21 0 = I 2 1) ∧ (I' 21 1 = I 4 1) ∧ (I' 21 2 = I 6 1) ∧ (I' 21 3 = I 8 1) ∧ (I' 21 4 = I 1 13) ∧ (I' 21 5 = I 1 17) ∧ (I' 21 6 = I 1 5) ∧ (gc_mkT A I I' (I 8 1)) ∧ (∀ f : Nat, f < 96 → I' 21 (63 + f) = I 15 f) ∧ (I' 1 18 = 0))) htb rfl (Nat.le_of_ble_eq_true rfl) ?_
  have f1 := (gc_b_70_0 hI R_21)
  have f2 := (gc_b_70_1 hI R_21)
  have f3 := (gc_b_70_2 hI R_21)
  have f4 := (gc_b_70_3 hI R_21)
  have f5 := (gc_b_70_4 hI R_21)
  have f6 := (gc_b_70_5 hI R_21)
  have f7 := (gc_b_70_6 hI R_21)
  have f8 := (gc_b_9_1 hI R_2)
  have f9 := (gc_b_11_1 hI R_4)
  have f10 := (gc_b_6_1 hI R_6)
  have f11 := (gc_b_6_1 hI R_8)
  have f12 := (gc_b_22_13 hI R_1)
  have f13 := (gc_b_22_17 hI R_1)
  have f14 := (gc_b_22_5 hI R_1)
  have f15 := (gc_b_22_18 hI R_1)
  have L90 : ∀ (n9 : Nat) (I16 : gr_I) (J17 : gr_J) (v1_18 : Int), (9 - v1_18).toNat < n9 → gc_Inv ro I16 → (∀ q j : Nat, ((q = 1 ∧ j = 18) ∨ q = 21) ∨ I16 q j = I q j) → (∀ q j : Nat, (False) ∨ J17 q j = J q j) → ((0 ≤ v1_18 ∧ v1_18 ≤ 8) ∧ (I16 21 0 = I 2 1) ∧ (I16 21 1 = I 4 1) ∧ (I16 21 2 = I 6 1) ∧ (I16 21 3 = I 8 1) ∧ (I16 21 4 = I 1 13) ∧ (I16 21 5 = I 1 17) ∧ (I16 21 6 = I 1 5) ∧ (I16 8 1 = I 8 1) ∧ (I16 1 18 = 0)) → (gc_mkT A I I16 v1_18) → gv_X (gc_E8 ws0 tb 1 (yX8_mark, cX8_mark, 2, none) kX8_mark) (gv_Q cX8_mark none sh (fun r h' => (∃ (I' : gr_I) (J' : gr_J), h' = gc_h sh I' J' A ∧ gc_Inv ro I' ∧ (∀ q j : Nat, ((q = 1 ∧ j = 18) ∨ q = 21) ∨ I' q j = I q j) ∧ (∀ q j : Nat, (False) ∨ J' q j = J q j) ∧ r = none ∧ (I' 21 0 = I 2 1) ∧ (I' 21 1 = I 4 1) ∧ (I' 21 2 = I 6 1) ∧ (I' 21 3 = I 8 1) ∧ (I' 21 4 = I 1 13) ∧ (I' 21 5 = I 1 17) ∧ (I' 21 6 = I 1 5) ∧ (gc_mkT A I I' (I 8 1)) ∧ (∀ f : Nat, f < 96 → I' 21 (63 + f) = I 15 f) ∧ (I' 1 18 = 0)))) (90, [(0, .inr (.inr (some 1))), (1, .inl v1_18)], [], sh, gc_h sh I16 J17 A) := by
    intro n9
    induction n9 with
    | zero => intro I16 J17 v1_18 hn; exact gz_m 0 (by omega)
    | succ n9 ih90 =>
      intro I16 J17 v1_18 hn hI16 FI16 FJ17 m_18 e0_18
      obtain ⟨hv1_18, e1_18, e2_18, e3_18, e4_18, e5_18, e6_18, e7_18, e8_18, e9_18⟩ := m_18
      have f19 := (gc_b_70_0 hI16 R_21)
      have f20 := (gc_b_70_1 hI16 R_21)
      have f21 := (gc_b_70_2 hI16 R_21)
      have f22 := (gc_b_70_3 hI16 R_21)
      have f23 := (gc_b_70_4 hI16 R_21)
      have f24 := (gc_b_70_5 hI16 R_21)
      have f25 := (gc_b_70_6 hI16 R_21)
      have f26 := (gc_b_9_1 hI16 R_2)
      have f27 := (gc_b_11_1 hI16 R_4)
      have f28 := (gc_b_6_1 hI16 R_6)
      have f29 := (gc_b_6_1 hI16 R_8)
      have f30 := (gc_b_22_13 hI16 R_1)
      have f31 := (gc_b_22_17 hI16 R_1)
      have f32 := (gc_b_22_5 hI16 R_1)
      have f33 := (gc_b_22_18 hI16 R_1)
      refine gv_run 2 true hD (pc' := 92) (lv' := [(0, .inr (.inr (some 1))), (1, .inl v1_18)]) (st' := [.inr (.inr (some 1)), .inl v1_18]) (h' := gc_h sh I16 J17 A) (C := ((True ∧ True) ∧ True)) rfl ⟨⟨trivial, trivial⟩, trivial⟩ ?_
      refine gv_get hD rfl rfl S_1 ⟨by decide, B_1⟩ (gc_hA S_1 rfl A_1_3) ?_
      show gv_X _ _ (95, [(0, .inr (.inr (some 1))), (1, .inl v1_18)], [.inr (.inr (some 8)), .inl v1_18], sh, gc_h sh I16 J17 A)
      have f34 := (gc_b_6_1 hI16 R_8)
      refine gv_get hD rfl rfl S_8 ⟨by decide, B_8⟩ (gc_hI S_8 rfl) ?_
      show gv_X _ _ (98, [(0, .inr (.inr (some 1))), (1, .inl v1_18)], [.inl (I16 8 1), .inl v1_18], sh, gc_h sh I16 J17 A)
      refine gv_icmp_ge (t := 127) hD rfl rfl ⟨⟨by exact gz_m 1 (by omega), by exact gz_m 2 (by omega)⟩, ⟨by exact gz_m 3 (by omega), by exact gz_m 4 (by omega)⟩⟩ (fun c35 => ?_) (fun c35 => ?_)
      · show gv_X _ _ (127, [(0, .inr (.inr (some 1))), (1, .inl v1_18)], [], sh, gc_h sh I16 J17 A)
        refine gv_run 1 true hD (pc' := 128) (lv' := [(0, .inr (.inr (some 1))), (1, .inl v1_18)]) (st' := [.inr (.inr (some 1))]) (h' := gc_h sh I16 J17 A) (C := (True ∧ True)) rfl ⟨trivial, trivial⟩ ?_
        refine gv_get hD rfl rfl S_1 ⟨by decide, B_1⟩ (gc_hA S_1 rfl A_1_10) ?_
        show gv_X _ _ (131, [(0, .inr (.inr (some 1))), (1, .inl v1_18)], [.inr (.inr (some 15))], sh, gc_h sh I16 J17 A)
        refine gv_run 2 true hD (pc' := 133) (lv' := [(0, .inr (.inr (some 1))), (1, .inl v1_18)]) (st' := [.inr (.inr (some 1)), .inl 0, .inr (.inr (some 15))]) (h' := gc_h sh I16 J17 A) (C := ((True ∧ True) ∧ True)) rfl ⟨⟨trivial, trivial⟩, trivial⟩ ?_
        refine gv_get hD rfl rfl S_1 ⟨by decide, B_1⟩ (gc_hA S_1 rfl A_1_19) ?_
        show gv_X _ _ (136, [(0, .inr (.inr (some 1))), (1, .inl v1_18)], [.inr (.inr (some 21)), .inl 0, .inr (.inr (some 15))], sh, gc_h sh I16 J17 A)
        refine gv_run 2 true hD (pc' := 140) (lv' := [(0, .inr (.inr (some 1))), (1, .inl v1_18)]) (st' := [.inl 96, .inl 63, .inr (.inr (some 21)), .inl 0, .inr (.inr (some 15))]) (h' := gc_h sh I16 J17 A) (C := ((True ∧ True) ∧ True)) rfl ⟨⟨trivial, trivial⟩, trivial⟩ ?_
        refine gv_copy hD rfl (gc_lC8_95 hws) (Nat.le_of_ble_eq_true rfl) ⟨B_15, B_21⟩ S_15 S_21 (by decide) ⟨by decide, by decide⟩ ⟨by exact gz_m 5 (by omega), by exact gz_m 6 (by omega), by exact gz_m 7 (by omega)⟩ (by exact gz_m 8 (by omega)) (by exact gz_m 9 (by omega)) (fun h => absurd h (by first | exact gz_ne rfl | decide)) ?_
        refine gc_cp hI16 S_15 S_21 (by decide) (fun j hj => by have h9 := (gc_b_28 hI16 R_15 (Int.toNat 0 + j)); rw [R_21]; exact ⟨by show (-1) ≤ _; exact gz_m 10 (by omega), by show _ ≤ 12000; exact gz_m 11 (by omega)⟩) (fun I37 hI37 p36 q36 => ?_)
        have FI37 := gc_frp (W := fun q j => (q = 1 ∧ j = 18) ∨ q = 21) (V := fun q j => q = 21 ∧ Int.toNat 63 ≤ j ∧ j < Int.toNat 63 + Int.toNat 96) FI16 (fun q j h => (Or.inr h.1)) p36
        have t39 := p36 21 0 (fun h => by have := h.2; exact gz_m 12 (by omega))
        have t40 := p36 21 1 (fun h => by have := h.2; exact gz_m 13 (by omega))
        have t41 := p36 21 2 (fun h => by have := h.2; exact gz_m 14 (by omega))
        have t42 := p36 21 3 (fun h => by have := h.2; exact gz_m 15 (by omega))
        have t43 := p36 21 4 (fun h => by have := h.2; exact gz_m 16 (by omega))
        have t44 := p36 21 5 (fun h => by have := h.2; exact gz_m 17 (by omega))
        have t45 := p36 21 6 (fun h => by have := h.2; exact gz_m 18 (by omega))
        have t46 := p36 2 1 (fun h => absurd h.1 (by first | exact gz_ne rfl | decide))
        have t47 := p36 4 1 (fun h => absurd h.1 (by first | exact gz_ne rfl | decide))
        have t48 := p36 6 1 (fun h => absurd h.1 (by first | exact gz_ne rfl | decide))
        have t49 := p36 8 1 (fun h => absurd h.1 (by first | exact gz_ne rfl | decide))
        have t50 := p36 1 13 (fun h => absurd h.1 (by first | exact gz_ne rfl | decide))
        have t51 := p36 1 17 (fun h => absurd h.1 (by first | exact gz_ne rfl | decide))
        have t52 := p36 1 5 (fun h => absurd h.1 (by first | exact gz_ne rfl | decide))
        have t53 := p36 1 18 (fun h => absurd h.1 (by first | exact gz_ne rfl | decide))
        have f54 := (gc_b_70_0 hI37 R_21)
        have f55 := (gc_b_70_1 hI37 R_21)
        have f56 := (gc_b_70_2 hI37 R_21)
        have f57 := (gc_b_70_3 hI37 R_21)
        have f58 := (gc_b_70_4 hI37 R_21)
        have f59 := (gc_b_70_5 hI37 R_21)
        have f60 := (gc_b_70_6 hI37 R_21)
        have f61 := (gc_b_9_1 hI37 R_2)
        have f62 := (gc_b_11_1 hI37 R_4)
        have f63 := (gc_b_6_1 hI37 R_6)
        have f64 := (gc_b_6_1 hI37 R_8)
        have f65 := (gc_b_22_13 hI37 R_1)
        have f66 := (gc_b_22_17 hI37 R_1)
        have f67 := (gc_b_22_5 hI37 R_1)
        have f68 := (gc_b_22_18 hI37 R_1)
        show gv_X _ _ (143, [(0, .inr (.inr (some 1))), (1, .inl v1_18)], [], sh, gc_h sh I37 J17 A)
        exact gv_vret hD rfl ⟨I37, J17, rfl, hI37, FI37, FJ17, ⟨rfl, by exact gz_m 19 (by omega), by exact gz_m 20 (by omega), by exact gz_m 21 (by omega), by exact gz_m 22 (by omega), by exact gz_m 23 (by omega), by exact gz_m 24 (by omega), by exact gz_m 25 (by omega), (fun j hj q9 hq => gc_ts7_fr (e0_18 j (by exact gz_m 26 (by omega)) q9 hq) (fun k hk => p36 21 _ (fun h => by have := h.2; exact gz_m 27 (by omega)))), (fun f hf => (q36 f hf).trans (by rw [show Int.toNat 0 + f = f from by exact gz_m 28 (by omega)]; exact (FI16 15 f).resolve_left (by exact gz_m 29 (by omega)))), by exact gz_m 30 (by omega)⟩⟩
      · show gv_X _ _ (101, [(0, .inr (.inr (some 1))), (1, .inl v1_18)], [], sh, gc_h sh I16 J17 A)
        refine gv_run 1 true hD (pc' := 102) (lv' := [(0, .inr (.inr (some 1))), (1, .inl v1_18)]) (st' := [.inr (.inr (some 1))]) (h' := gc_h sh I16 J17 A) (C := (True ∧ True)) rfl ⟨trivial, trivial⟩ ?_
        refine gv_get hD rfl rfl S_1 ⟨by decide, B_1⟩ (gc_hA S_1 rfl A_1_4) ?_
        show gv_X _ _ (105, [(0, .inr (.inr (some 1))), (1, .inl v1_18)], [.inr (.inr (some 10))], sh, gc_h sh I16 J17 A)
        refine gv_run 1 true hD (pc' := 106) (lv' := [(0, .inr (.inr (some 1))), (1, .inl v1_18)]) (st' := [.inl v1_18, .inr (.inr (some 10))]) (h' := gc_h sh I16 J17 A) (C := (True ∧ True)) rfl ⟨trivial, trivial⟩ ?_
        obtain ⟨t69_, A_t69, h_t69, G_t69⟩ := (gc_Ts_fr x0 ((FI16 8 1).resolve_left (by exact gz_m 31 (by omega)))) (Int.toNat v1_18) (by exact gz_m 32 (by omega))
        obtain ⟨S_t69, R_t69, B_t69, A_t69_0, h_t69__1, A_t69_1, h_t69__3, A_t69_2, S_t69__5, R_t69__5, B_t69__5, A_t69_3, S_t69__6, R_t69__6, B_t69__6, A_t69_4, h_t69__7, A_t69_5, S_t69__9, R_t69__9, B_t69__9, A_t69_7, S_t69__10, R_t69__10, B_t69__10, A_t69_8, h_t69__11, A_t69_9, S_t69__13, R_t69__13, B_t69__13, A_t69_10, S_t69__14, R_t69__14, B_t69__14, A_t69_12, S_t69__15, R_t69__15, B_t69__15, A_t69_14, S_t69__16, R_t69__16, B_t69__16, A_t69_15, h_t69__17⟩ := id h_t69
        obtain ⟨S_t69__1, R_t69__1, B_t69__1, A_t69__1_0, S_t69__1_1, R_t69__1_1, B_t69__1_1, Q0_t69__1, Q1_t69__1, Q2_t69__1⟩ := id h_t69__1
        obtain ⟨S_t69__3, R_t69__3, B_t69__3, A_t69__3_0, S_t69__3_1, R_t69__3_1, B_t69__3_1, Q0_t69__3, Q1_t69__3, Q2_t69__3⟩ := id h_t69__3
        obtain ⟨S_t69__7, R_t69__7, B_t69__7, A_t69__7_0, S_t69__7_1, R_t69__7_1, B_t69__7_1, Q0_t69__7, Q1_t69__7, Q2_t69__7⟩ := id h_t69__7
        obtain ⟨S_t69__11, R_t69__11, B_t69__11, A_t69__11_0, S_t69__11_1, R_t69__11_1, B_t69__11_1, Q0_t69__11, Q1_t69__11, Q2_t69__11⟩ := id h_t69__11
        obtain ⟨S_t69__17, R_t69__17, B_t69__17, A_t69__17_0, S_20, R_20, B_20, A_t69__17_1, S_t69__17_1, R_t69__17_1, B_t69__17_1, A_t69__17_2, S_t69__17_2, R_t69__17_2, B_t69__17_2, A_t69__17_3, S_t69__17_3, R_t69__17_3, B_t69__17_3, A_t69__17_4, S_t69__17_4, R_t69__17_4, B_t69__17_4, A_t69__17_5, S_t69__17_5, R_t69__17_5, B_t69__17_5, S_t69__17_6, R_t69__17_6, B_t69__17_6, S_t69__17_7, R_t69__17_7, B_t69__17_7⟩ := id h_t69__17
        refine gv_aald hD rfl S_10 ⟨by decide, by decide⟩ ⟨by decide, B_10⟩ ⟨by exact gz_m 33 (by omega), by exact gz_m 34 (by omega)⟩ ((gc_aA S_10 rfl).trans A_t69) ?_
        show gv_X _ _ (107, [(0, .inr (.inr (some 1))), (1, .inl v1_18)], [.inr (.inr (some t69_))], sh, gc_h sh I16 J17 A)
        refine gv_run 1 true hD (pc' := 108) (lv' := [(0, .inr (.inr (some 1))), (1, .inl v1_18)]) (st' := [.inr (.inr (some 1)), .inr (.inr (some t69_))]) (h' := gc_h sh I16 J17 A) (C := (True ∧ True)) rfl ⟨trivial, trivial⟩ ?_
        refine gv_get hD rfl rfl S_1 ⟨by decide, B_1⟩ (gc_hA S_1 rfl A_1_19) ?_
        show gv_X _ _ (111, [(0, .inr (.inr (some 1))), (1, .inl v1_18)], [.inr (.inr (some 21)), .inr (.inr (some t69_))], sh, gc_h sh I16 J17 A)
        refine gv_run 5 true hD (pc' := 118) (lv' := [(0, .inr (.inr (some 1))), (1, .inl v1_18)]) (st' := [.inl (7 + (v1_18 * 7)), .inr (.inr (some 21)), .inr (.inr (some t69_))]) (h' := gc_h sh I16 J17 A) (C := (((((True ∧ True) ∧ True) ∧ True) ∧ True) ∧ True)) rfl ⟨⟨⟨⟨⟨trivial, trivial⟩, trivial⟩, trivial⟩, trivial⟩, trivial⟩ ?_
        obtain ⟨r70, h70, E70, P70⟩ := d_X11_saveSizes_w (ws0 := ws0) (tb := tb) hws htb sh ro I16 J17 A hI16 t69_ 159 21 ((7 + (v1_18 * 7))) h_t69 S_21 R_21 B_21 (by decide)  ⟨by exact gz_m 35 (by omega), by exact gz_m 36 (by omega)⟩ (by exact gz_m 37 (by omega)) (by exact gz_m 38 (by omega)) (by exact gz_m 39 (by omega)) 
        obtain ⟨I71, J72, rfl, hI71, g70, k70, ⟨rfl, q70⟩⟩ := P70
        have FI71 := gc_frc (W := fun q j => (q = 1 ∧ j = 18) ∨ q = 21) (V := fun q j => (q = 21 ∧ j = (Int.toNat ((7 + (v1_18 * 7))))) ∨ (q = 21 ∧ j = (Int.toNat (((7 + (v1_18 * 7))) + 1))) ∨ (q = 21 ∧ j = (Int.toNat (((7 + (v1_18 * 7))) + 2))) ∨ (q = 21 ∧ j = (Int.toNat (((7 + (v1_18 * 7))) + 3))) ∨ (q = 21 ∧ j = (Int.toNat (((7 + (v1_18 * 7))) + 4))) ∨ (q = 21 ∧ j = (Int.toNat (((7 + (v1_18 * 7))) + 5))) ∨ (q = 21 ∧ j = (Int.toNat (((7 + (v1_18 * 7))) + 6)))) FI16 (fun q j h => (h.elim (fun h => (Or.inr h.1)) (fun h => (h.elim (fun h => (Or.inr h.1)) (fun h => (h.elim (fun h => (Or.inr h.1)) (fun h => (h.elim (fun h => (Or.inr h.1)) (fun h => (h.elim (fun h => (Or.inr h.1)) (fun h => (h.elim (fun h => (Or.inr h.1)) (fun h => (Or.inr h.1)))))))))))))) g70
        have t73 := (g70 21 0).resolve_left (by exact gz_m 40 (by omega))
        have t74 := (g70 21 1).resolve_left (by exact gz_m 41 (by omega))
        have t75 := (g70 21 2).resolve_left (by exact gz_m 42 (by omega))
        have t76 := (g70 21 3).resolve_left (by exact gz_m 43 (by omega))
        have t77 := (g70 21 4).resolve_left (by exact gz_m 44 (by omega))
        have t78 := (g70 21 5).resolve_left (by exact gz_m 45 (by omega))
        have t79 := (g70 21 6).resolve_left (by exact gz_m 46 (by omega))
        have t80 := (g70 2 1).resolve_left (fun h => h.elim (fun h => absurd h.1 (by first | exact gz_ne rfl | decide)) (fun h => h.elim (fun h => absurd h.1 (by first | exact gz_ne rfl | decide)) (fun h => h.elim (fun h => absurd h.1 (by first | exact gz_ne rfl | decide)) (fun h => h.elim (fun h => absurd h.1 (by first | exact gz_ne rfl | decide)) (fun h => h.elim (fun h => absurd h.1 (by first | exact gz_ne rfl | decide)) (fun h => h.elim (fun h => absurd h.1 (by first | exact gz_ne rfl | decide)) (fun h => absurd h.1 (by first | exact gz_ne rfl | decide))))))))
        have t81 := (g70 4 1).resolve_left (fun h => h.elim (fun h => absurd h.1 (by first | exact gz_ne rfl | decide)) (fun h => h.elim (fun h => absurd h.1 (by first | exact gz_ne rfl | decide)) (fun h => h.elim (fun h => absurd h.1 (by first | exact gz_ne rfl | decide)) (fun h => h.elim (fun h => absurd h.1 (by first | exact gz_ne rfl | decide)) (fun h => h.elim (fun h => absurd h.1 (by first | exact gz_ne rfl | decide)) (fun h => h.elim (fun h => absurd h.1 (by first | exact gz_ne rfl | decide)) (fun h => absurd h.1 (by first | exact gz_ne rfl | decide))))))))
        have t82 := (g70 6 1).resolve_left (fun h => h.elim (fun h => absurd h.1 (by first | exact gz_ne rfl | decide)) (fun h => h.elim (fun h => absurd h.1 (by first | exact gz_ne rfl | decide)) (fun h => h.elim (fun h => absurd h.1 (by first | exact gz_ne rfl | decide)) (fun h => h.elim (fun h => absurd h.1 (by first | exact gz_ne rfl | decide)) (fun h => h.elim (fun h => absurd h.1 (by first | exact gz_ne rfl | decide)) (fun h => h.elim (fun h => absurd h.1 (by first | exact gz_ne rfl | decide)) (fun h => absurd h.1 (by first | exact gz_ne rfl | decide))))))))
        have t83 := (g70 8 1).resolve_left (fun h => h.elim (fun h => absurd h.1 (by first | exact gz_ne rfl | decide)) (fun h => h.elim (fun h => absurd h.1 (by first | exact gz_ne rfl | decide)) (fun h => h.elim (fun h => absurd h.1 (by first | exact gz_ne rfl | decide)) (fun h => h.elim (fun h => absurd h.1 (by first | exact gz_ne rfl | decide)) (fun h => h.elim (fun h => absurd h.1 (by first | exact gz_ne rfl | decide)) (fun h => h.elim (fun h => absurd h.1 (by first | exact gz_ne rfl | decide)) (fun h => absurd h.1 (by first | exact gz_ne rfl | decide))))))))
        have t84 := (g70 1 13).resolve_left (fun h => h.elim (fun h => absurd h.1 (by first | exact gz_ne rfl | decide)) (fun h => h.elim (fun h => absurd h.1 (by first | exact gz_ne rfl | decide)) (fun h => h.elim (fun h => absurd h.1 (by first | exact gz_ne rfl | decide)) (fun h => h.elim (fun h => absurd h.1 (by first | exact gz_ne rfl | decide)) (fun h => h.elim (fun h => absurd h.1 (by first | exact gz_ne rfl | decide)) (fun h => h.elim (fun h => absurd h.1 (by first | exact gz_ne rfl | decide)) (fun h => absurd h.1 (by first | exact gz_ne rfl | decide))))))))
        have t85 := (g70 1 17).resolve_left (fun h => h.elim (fun h => absurd h.1 (by first | exact gz_ne rfl | decide)) (fun h => h.elim (fun h => absurd h.1 (by first | exact gz_ne rfl | decide)) (fun h => h.elim (fun h => absurd h.1 (by first | exact gz_ne rfl | decide)) (fun h => h.elim (fun h => absurd h.1 (by first | exact gz_ne rfl | decide)) (fun h => h.elim (fun h => absurd h.1 (by first | exact gz_ne rfl | decide)) (fun h => h.elim (fun h => absurd h.1 (by first | exact gz_ne rfl | decide)) (fun h => absurd h.1 (by first | exact gz_ne rfl | decide))))))))
        have t86 := (g70 1 5).resolve_left (fun h => h.elim (fun h => absurd h.1 (by first | exact gz_ne rfl | decide)) (fun h => h.elim (fun h => absurd h.1 (by first | exact gz_ne rfl | decide)) (fun h => h.elim (fun h => absurd h.1 (by first | exact gz_ne rfl | decide)) (fun h => h.elim (fun h => absurd h.1 (by first | exact gz_ne rfl | decide)) (fun h => h.elim (fun h => absurd h.1 (by first | exact gz_ne rfl | decide)) (fun h => h.elim (fun h => absurd h.1 (by first | exact gz_ne rfl | decide)) (fun h => absurd h.1 (by first | exact gz_ne rfl | decide))))))))
        have t87 := (g70 1 18).resolve_left (fun h => h.elim (fun h => absurd h.1 (by first | exact gz_ne rfl | decide)) (fun h => h.elim (fun h => absurd h.1 (by first | exact gz_ne rfl | decide)) (fun h => h.elim (fun h => absurd h.1 (by first | exact gz_ne rfl | decide)) (fun h => h.elim (fun h => absurd h.1 (by first | exact gz_ne rfl | decide)) (fun h => h.elim (fun h => absurd h.1 (by first | exact gz_ne rfl | decide)) (fun h => h.elim (fun h => absurd h.1 (by first | exact gz_ne rfl | decide)) (fun h => absurd h.1 (by first | exact gz_ne rfl | decide))))))))
        have f88 := (gc_b_70_0 hI71 R_21)
        have f89 := (gc_b_70_1 hI71 R_21)
        have f90 := (gc_b_70_2 hI71 R_21)
        have f91 := (gc_b_70_3 hI71 R_21)
        have f92 := (gc_b_70_4 hI71 R_21)
        have f93 := (gc_b_70_5 hI71 R_21)
        have f94 := (gc_b_70_6 hI71 R_21)
        obtain rfl : J17 = J72 := funext fun q => funext fun j => ((k70 q j).resolve_left id).symm
        refine gv_callV hD rfl (As := [.inr (.inr (some 21)), .inl (7 + (v1_18 * 7))]) (st := []) rfl B_t69 S_t69 rfl (gc_lV8 hws rfl) (Nat.le_of_ble_eq_true rfl) (gz_Ev_mono (d := 1) (by decide) E70) ?_
        show gv_X _ _ (121, [(0, .inr (.inr (some 1))), (1, .inl v1_18)], [], sh, gc_h sh I71 J17 A)
        refine gv_run 2 true hD (pc' := 90) (lv' := [(1, .inl (v1_18 + 1)), (0, .inr (.inr (some 1)))]) (st' := []) (h' := gc_h sh I71 J17 A) (C := ((True ∧ True) ∧ True)) rfl ⟨⟨trivial, trivial⟩, trivial⟩ ?_
        refine gv_pick [1, 0] rfl ?_
        exact ih90 I71 J17 (v1_18 + 1) (by exact gz_m 47 (by omega)) hI71 FI71 FJ17 (by exact gz_m 48 (by omega)) (fun j hj q9 hq => if hjj : j = Int.toNat v1_18 then (by subst hjj; cases (A_t69.symm.trans hq); unfold gc_ts7; exact ⟨(by rw [show 7 + 7 * Int.toNat v1_18 = (Int.toNat (7 + (v1_18 * 7))) from by exact gz_m 49 (by omega)]; exact (q70.1).trans ((FI16 (t69_ + 1) 1).resolve_left (by exact gz_m 50 (by omega)))), (by rw [show 7 + 7 * Int.toNat v1_18 + 1 = (Int.toNat ((7 + (v1_18 * 7)) + 1)) from by exact gz_m 51 (by omega)]; exact (q70.2.1).trans ((FI16 (t69_ + 3) 1).resolve_left (by exact gz_m 52 (by omega)))), (by rw [show 7 + 7 * Int.toNat v1_18 + 2 = (Int.toNat ((7 + (v1_18 * 7)) + 2)) from by exact gz_m 53 (by omega)]; exact (q70.2.2.1).trans ((FI16 (t69_ + 7) 1).resolve_left (by exact gz_m 54 (by omega)))), (by rw [show 7 + 7 * Int.toNat v1_18 + 3 = (Int.toNat ((7 + (v1_18 * 7)) + 3)) from by exact gz_m 55 (by omega)]; exact (q70.2.2.2.1).trans ((FI16 t69_ 6).resolve_left (by exact gz_m 56 (by omega)))), (by rw [show 7 + 7 * Int.toNat v1_18 + 4 = (Int.toNat ((7 + (v1_18 * 7)) + 4)) from by exact gz_m 57 (by omega)]; exact (q70.2.2.2.2.1).trans ((FI16 (t69_ + 11) 1).resolve_left (by exact gz_m 58 (by omega)))), (by rw [show 7 + 7 * Int.toNat v1_18 + 5 = (Int.toNat ((7 + (v1_18 * 7)) + 5)) from by exact gz_m 59 (by omega)]; exact (q70.2.2.2.2.2.1).trans ((FI16 t69_ 11).resolve_left (by exact gz_m 60 (by omega)))), (by rw [show 7 + 7 * Int.toNat v1_18 + 6 = (Int.toNat ((7 + (v1_18 * 7)) + 6)) from by exact gz_m 61 (by omega)]; exact (q70.2.2.2.2.2.2).trans ((FI16 t69_ 13).resolve_left (by exact gz_m 62 (by omega))))⟩) else (gc_ts7_fr (e0_18 j (by exact gz_m 63 (by omega)) q9 hq) (fun k hk => (g70 21 _).resolve_left (by exact gz_m 64 (by omega)))))
  refine gv_run 2 true hD (pc' := 2) (lv' := [(0, .inr (.inr (some 1)))]) (st' := [.inl 0, .inr (.inr (some 1))]) (h' := gc_h sh I J A) (C := ((True ∧ True) ∧ True)) rfl ⟨⟨trivial, trivial⟩, trivial⟩ ?_
  refine gv_put hD rfl rfl S_1 ⟨by decide, B_1⟩ rfl (by exact gz_m 65 (by omega)) ?_
  refine gc_st (k := 18) hI S_1 rfl R_1 (lo := 0) (hi := 1) rfl rfl (by exact gz_m 66 (by omega)) (by exact gz_m 67 (by omega)) (fun I95 hI95 q96 p96 => ?_)
  have FI95 := gc_frs (W := fun q j => (q = 1 ∧ j = 18) ∨ q = 21) FI (Or.inl ⟨rfl, rfl⟩) p96
  have t97 := p96 21 0 (fun h => absurd h.2 (by first | exact gz_ne rfl | decide))
  have t98 := p96 21 1 (fun h => absurd h.2 (by first | exact gz_ne rfl | decide))
  have t99 := p96 21 2 (fun h => absurd h.2 (by first | exact gz_ne rfl | decide))
  have t100 := p96 21 3 (fun h => absurd h.2 (by first | exact gz_ne rfl | decide))
  have t101 := p96 21 4 (fun h => absurd h.2 (by first | exact gz_ne rfl | decide))
  have t102 := p96 21 5 (fun h => absurd h.2 (by first | exact gz_ne rfl | decide))
  have t103 := p96 21 6 (fun h => absurd h.2 (by first | exact gz_ne rfl | decide))
  have t104 := p96 2 1 (fun h => absurd h.2 (by first | exact gz_ne rfl | decide))
  have t105 := p96 4 1 (fun h => absurd h.2 (by first | exact gz_ne rfl | decide))
  have t106 := p96 6 1 (fun h => absurd h.2 (by first | exact gz_ne rfl | decide))
  have t107 := p96 8 1 (fun h => absurd h.2 (by first | exact gz_ne rfl | decide))
  have t108 := p96 1 13 (fun h => absurd h.2 (by first | exact gz_ne rfl | decide))
  have t109 := p96 1 17 (fun h => absurd h.2 (by first | exact gz_ne rfl | decide))
  have t110 := p96 1 5 (fun h => absurd h.2 (by first | exact gz_ne rfl | decide))
  have f111 := (gc_b_22_18 hI95 R_1)
  show gv_X _ _ (5, [(0, .inr (.inr (some 1)))], [], sh, gc_h sh I95 J A)
  refine gv_run 1 true hD (pc' := 6) (lv' := [(0, .inr (.inr (some 1)))]) (st' := [.inr (.inr (some 1))]) (h' := gc_h sh I95 J A) (C := (True ∧ True)) rfl ⟨trivial, trivial⟩ ?_
  refine gv_get hD rfl rfl S_1 ⟨by decide, B_1⟩ (gc_hA S_1 rfl A_1_19) ?_
  show gv_X _ _ (9, [(0, .inr (.inr (some 1)))], [.inr (.inr (some 21))], sh, gc_h sh I95 J A)
  refine gv_run 2 true hD (pc' := 11) (lv' := [(0, .inr (.inr (some 1)))]) (st' := [.inr (.inr (some 1)), .inl 0, .inr (.inr (some 21))]) (h' := gc_h sh I95 J A) (C := ((True ∧ True) ∧ True)) rfl ⟨⟨trivial, trivial⟩, trivial⟩ ?_
  refine gv_get hD rfl rfl S_1 ⟨by decide, B_1⟩ (gc_hA S_1 rfl A_1_0) ?_
  show gv_X _ _ (14, [(0, .inr (.inr (some 1)))], [.inr (.inr (some 2)), .inl 0, .inr (.inr (some 21))], sh, gc_h sh I95 J A)
  have f112 := (gc_b_9_1 hI95 R_2)
  refine gv_get hD rfl rfl S_2 ⟨by decide, B_2⟩ (gc_hI S_2 rfl) ?_
  show gv_X _ _ (17, [(0, .inr (.inr (some 1)))], [.inl (I95 2 1), .inl 0, .inr (.inr (some 21))], sh, gc_h sh I95 J A)
  refine gv_iast hD rfl S_21 ⟨by decide, B_21⟩ ⟨by exact gz_m 68 (by omega), by exact gz_m 69 (by omega)⟩ ?_
  refine gc_st (k := 0) hI95 S_21 rfl R_21 (lo := (-1)) (hi := 12000) rfl rfl (by exact gz_m 70 (by omega)) (by exact gz_m 71 (by omega)) (fun I113 hI113 q114 p114 => ?_)
  have FI113 := gc_frs (W := fun q j => (q = 1 ∧ j = 18) ∨ q = 21) FI95 (Or.inr rfl) p114
  have t115 := p114 21 1 (fun h => absurd h.2 (by first | exact gz_ne rfl | decide))
  have t116 := p114 21 2 (fun h => absurd h.2 (by first | exact gz_ne rfl | decide))
  have t117 := p114 21 3 (fun h => absurd h.2 (by first | exact gz_ne rfl | decide))
  have t118 := p114 21 4 (fun h => absurd h.2 (by first | exact gz_ne rfl | decide))
  have t119 := p114 21 5 (fun h => absurd h.2 (by first | exact gz_ne rfl | decide))
  have t120 := p114 21 6 (fun h => absurd h.2 (by first | exact gz_ne rfl | decide))
  have t121 := p114 2 1 (fun h => absurd h.2 (by first | exact gz_ne rfl | decide))
  have t122 := p114 4 1 (fun h => absurd h.2 (by first | exact gz_ne rfl | decide))
  have t123 := p114 6 1 (fun h => absurd h.2 (by first | exact gz_ne rfl | decide))
  have t124 := p114 8 1 (fun h => absurd h.2 (by first | exact gz_ne rfl | decide))
  have t125 := p114 1 13 (fun h => absurd h.2 (by first | exact gz_ne rfl | decide))
  have t126 := p114 1 17 (fun h => absurd h.2 (by first | exact gz_ne rfl | decide))
  have t127 := p114 1 5 (fun h => absurd h.2 (by first | exact gz_ne rfl | decide))
  have t128 := p114 1 18 (fun h => absurd h.2 (by first | exact gz_ne rfl | decide))
  have f129 := (gc_b_70_0 hI113 R_21)
  show gv_X _ _ (18, [(0, .inr (.inr (some 1)))], [], sh, gc_h sh I113 J A)
  refine gv_run 1 true hD (pc' := 19) (lv' := [(0, .inr (.inr (some 1)))]) (st' := [.inr (.inr (some 1))]) (h' := gc_h sh I113 J A) (C := (True ∧ True)) rfl ⟨trivial, trivial⟩ ?_
  refine gv_get hD rfl rfl S_1 ⟨by decide, B_1⟩ (gc_hA S_1 rfl A_1_19) ?_
  show gv_X _ _ (22, [(0, .inr (.inr (some 1)))], [.inr (.inr (some 21))], sh, gc_h sh I113 J A)
  refine gv_run 2 true hD (pc' := 24) (lv' := [(0, .inr (.inr (some 1)))]) (st' := [.inr (.inr (some 1)), .inl 1, .inr (.inr (some 21))]) (h' := gc_h sh I113 J A) (C := ((True ∧ True) ∧ True)) rfl ⟨⟨trivial, trivial⟩, trivial⟩ ?_
  refine gv_get hD rfl rfl S_1 ⟨by decide, B_1⟩ (gc_hA S_1 rfl A_1_1) ?_
  show gv_X _ _ (27, [(0, .inr (.inr (some 1)))], [.inr (.inr (some 4)), .inl 1, .inr (.inr (some 21))], sh, gc_h sh I113 J A)
  have f130 := (gc_b_11_1 hI113 R_4)
  refine gv_get hD rfl rfl S_4 ⟨by decide, B_4⟩ (gc_hI S_4 rfl) ?_
  show gv_X _ _ (30, [(0, .inr (.inr (some 1)))], [.inl (I113 4 1), .inl 1, .inr (.inr (some 21))], sh, gc_h sh I113 J A)
  refine gv_iast hD rfl S_21 ⟨by decide, B_21⟩ ⟨by exact gz_m 72 (by omega), by exact gz_m 73 (by omega)⟩ ?_
  refine gc_st (k := 1) hI113 S_21 rfl R_21 (lo := (-1)) (hi := 12000) rfl rfl (by exact gz_m 74 (by omega)) (by exact gz_m 75 (by omega)) (fun I131 hI131 q132 p132 => ?_)
  have FI131 := gc_frs (W := fun q j => (q = 1 ∧ j = 18) ∨ q = 21) FI113 (Or.inr rfl) p132
  have t133 := p132 21 0 (fun h => absurd h.2 (by first | exact gz_ne rfl | decide))
  have t134 := p132 21 2 (fun h => absurd h.2 (by first | exact gz_ne rfl | decide))
  have t135 := p132 21 3 (fun h => absurd h.2 (by first | exact gz_ne rfl | decide))
  have t136 := p132 21 4 (fun h => absurd h.2 (by first | exact gz_ne rfl | decide))
  have t137 := p132 21 5 (fun h => absurd h.2 (by first | exact gz_ne rfl | decide))
  have t138 := p132 21 6 (fun h => absurd h.2 (by first | exact gz_ne rfl | decide))
  have t139 := p132 2 1 (fun h => absurd h.1 (by first | exact gz_ne rfl | decide))
  have t140 := p132 4 1 (fun h => absurd h.1 (by first | exact gz_ne rfl | decide))
  have t141 := p132 6 1 (fun h => absurd h.1 (by first | exact gz_ne rfl | decide))
  have t142 := p132 8 1 (fun h => absurd h.1 (by first | exact gz_ne rfl | decide))
  have t143 := p132 1 13 (fun h => absurd h.2 (by first | exact gz_ne rfl | decide))
  have t144 := p132 1 17 (fun h => absurd h.2 (by first | exact gz_ne rfl | decide))
  have t145 := p132 1 5 (fun h => absurd h.2 (by first | exact gz_ne rfl | decide))
  have t146 := p132 1 18 (fun h => absurd h.2 (by first | exact gz_ne rfl | decide))
  have f147 := (gc_b_70_1 hI131 R_21)
  show gv_X _ _ (31, [(0, .inr (.inr (some 1)))], [], sh, gc_h sh I131 J A)
  refine gv_run 1 true hD (pc' := 32) (lv' := [(0, .inr (.inr (some 1)))]) (st' := [.inr (.inr (some 1))]) (h' := gc_h sh I131 J A) (C := (True ∧ True)) rfl ⟨trivial, trivial⟩ ?_
  refine gv_get hD rfl rfl S_1 ⟨by decide, B_1⟩ (gc_hA S_1 rfl A_1_19) ?_
  show gv_X _ _ (35, [(0, .inr (.inr (some 1)))], [.inr (.inr (some 21))], sh, gc_h sh I131 J A)
  refine gv_run 2 true hD (pc' := 37) (lv' := [(0, .inr (.inr (some 1)))]) (st' := [.inr (.inr (some 1)), .inl 2, .inr (.inr (some 21))]) (h' := gc_h sh I131 J A) (C := ((True ∧ True) ∧ True)) rfl ⟨⟨trivial, trivial⟩, trivial⟩ ?_
  refine gv_get hD rfl rfl S_1 ⟨by decide, B_1⟩ (gc_hA S_1 rfl A_1_2) ?_
  show gv_X _ _ (40, [(0, .inr (.inr (some 1)))], [.inr (.inr (some 6)), .inl 2, .inr (.inr (some 21))], sh, gc_h sh I131 J A)
  have f148 := (gc_b_6_1 hI131 R_6)
  refine gv_get hD rfl rfl S_6 ⟨by decide, B_6⟩ (gc_hI S_6 rfl) ?_
  show gv_X _ _ (43, [(0, .inr (.inr (some 1)))], [.inl (I131 6 1), .inl 2, .inr (.inr (some 21))], sh, gc_h sh I131 J A)
  refine gv_iast hD rfl S_21 ⟨by decide, B_21⟩ ⟨by exact gz_m 76 (by omega), by exact gz_m 77 (by omega)⟩ ?_
  refine gc_st (k := 2) hI131 S_21 rfl R_21 (lo := (-1)) (hi := 12000) rfl rfl (by exact gz_m 78 (by omega)) (by exact gz_m 79 (by omega)) (fun I149 hI149 q150 p150 => ?_)
  have FI149 := gc_frs (W := fun q j => (q = 1 ∧ j = 18) ∨ q = 21) FI131 (Or.inr rfl) p150
  have t151 := p150 21 0 (fun h => absurd h.2 (by first | exact gz_ne rfl | decide))
  have t152 := p150 21 1 (fun h => absurd h.2 (by first | exact gz_ne rfl | decide))
  have t153 := p150 21 3 (fun h => absurd h.2 (by first | exact gz_ne rfl | decide))
  have t154 := p150 21 4 (fun h => absurd h.2 (by first | exact gz_ne rfl | decide))
  have t155 := p150 21 5 (fun h => absurd h.2 (by first | exact gz_ne rfl | decide))
  have t156 := p150 21 6 (fun h => absurd h.2 (by first | exact gz_ne rfl | decide))
  have t157 := p150 2 1 (fun h => absurd h.2 (by first | exact gz_ne rfl | decide))
  have t158 := p150 4 1 (fun h => absurd h.2 (by first | exact gz_ne rfl | decide))
  have t159 := p150 6 1 (fun h => absurd h.2 (by first | exact gz_ne rfl | decide))
  have t160 := p150 8 1 (fun h => absurd h.2 (by first | exact gz_ne rfl | decide))
  have t161 := p150 1 13 (fun h => absurd h.2 (by first | exact gz_ne rfl | decide))
  have t162 := p150 1 17 (fun h => absurd h.2 (by first | exact gz_ne rfl | decide))
  have t163 := p150 1 5 (fun h => absurd h.2 (by first | exact gz_ne rfl | decide))
  have t164 := p150 1 18 (fun h => absurd h.2 (by first | exact gz_ne rfl | decide))
  have f165 := (gc_b_70_2 hI149 R_21)
  show gv_X _ _ (44, [(0, .inr (.inr (some 1)))], [], sh, gc_h sh I149 J A)
  refine gv_run 1 true hD (pc' := 45) (lv' := [(0, .inr (.inr (some 1)))]) (st' := [.inr (.inr (some 1))]) (h' := gc_h sh I149 J A) (C := (True ∧ True)) rfl ⟨trivial, trivial⟩ ?_
  refine gv_get hD rfl rfl S_1 ⟨by decide, B_1⟩ (gc_hA S_1 rfl A_1_19) ?_
  show gv_X _ _ (48, [(0, .inr (.inr (some 1)))], [.inr (.inr (some 21))], sh, gc_h sh I149 J A)
  refine gv_run 2 true hD (pc' := 50) (lv' := [(0, .inr (.inr (some 1)))]) (st' := [.inr (.inr (some 1)), .inl 3, .inr (.inr (some 21))]) (h' := gc_h sh I149 J A) (C := ((True ∧ True) ∧ True)) rfl ⟨⟨trivial, trivial⟩, trivial⟩ ?_
  refine gv_get hD rfl rfl S_1 ⟨by decide, B_1⟩ (gc_hA S_1 rfl A_1_3) ?_
  show gv_X _ _ (53, [(0, .inr (.inr (some 1)))], [.inr (.inr (some 8)), .inl 3, .inr (.inr (some 21))], sh, gc_h sh I149 J A)
  have f166 := (gc_b_6_1 hI149 R_8)
  refine gv_get hD rfl rfl S_8 ⟨by decide, B_8⟩ (gc_hI S_8 rfl) ?_
  show gv_X _ _ (56, [(0, .inr (.inr (some 1)))], [.inl (I149 8 1), .inl 3, .inr (.inr (some 21))], sh, gc_h sh I149 J A)
  refine gv_iast hD rfl S_21 ⟨by decide, B_21⟩ ⟨by exact gz_m 80 (by omega), by exact gz_m 81 (by omega)⟩ ?_
  refine gc_st (k := 3) hI149 S_21 rfl R_21 (lo := (-1)) (hi := 12000) rfl rfl (by exact gz_m 82 (by omega)) (by exact gz_m 83 (by omega)) (fun I167 hI167 q168 p168 => ?_)
  have FI167 := gc_frs (W := fun q j => (q = 1 ∧ j = 18) ∨ q = 21) FI149 (Or.inr rfl) p168
  have t169 := p168 21 0 (fun h => absurd h.2 (by first | exact gz_ne rfl | decide))
  have t170 := p168 21 1 (fun h => absurd h.2 (by first | exact gz_ne rfl | decide))
  have t171 := p168 21 2 (fun h => absurd h.2 (by first | exact gz_ne rfl | decide))
  have t172 := p168 21 4 (fun h => absurd h.2 (by first | exact gz_ne rfl | decide))
  have t173 := p168 21 5 (fun h => absurd h.2 (by first | exact gz_ne rfl | decide))
  have t174 := p168 21 6 (fun h => absurd h.2 (by first | exact gz_ne rfl | decide))
  have t175 := p168 2 1 (fun h => absurd h.2 (by first | exact gz_ne rfl | decide))
  have t176 := p168 4 1 (fun h => absurd h.2 (by first | exact gz_ne rfl | decide))
  have t177 := p168 6 1 (fun h => absurd h.2 (by first | exact gz_ne rfl | decide))
  have t178 := p168 8 1 (fun h => absurd h.2 (by first | exact gz_ne rfl | decide))
  have t179 := p168 1 13 (fun h => absurd h.2 (by first | exact gz_ne rfl | decide))
  have t180 := p168 1 17 (fun h => absurd h.2 (by first | exact gz_ne rfl | decide))
  have t181 := p168 1 5 (fun h => absurd h.2 (by first | exact gz_ne rfl | decide))
  have t182 := p168 1 18 (fun h => absurd h.2 (by first | exact gz_ne rfl | decide))
  have f183 := (gc_b_70_3 hI167 R_21)
  show gv_X _ _ (57, [(0, .inr (.inr (some 1)))], [], sh, gc_h sh I167 J A)
  refine gv_run 1 true hD (pc' := 58) (lv' := [(0, .inr (.inr (some 1)))]) (st' := [.inr (.inr (some 1))]) (h' := gc_h sh I167 J A) (C := (True ∧ True)) rfl ⟨trivial, trivial⟩ ?_
  refine gv_get hD rfl rfl S_1 ⟨by decide, B_1⟩ (gc_hA S_1 rfl A_1_19) ?_
  show gv_X _ _ (61, [(0, .inr (.inr (some 1)))], [.inr (.inr (some 21))], sh, gc_h sh I167 J A)
  refine gv_run 2 true hD (pc' := 63) (lv' := [(0, .inr (.inr (some 1)))]) (st' := [.inr (.inr (some 1)), .inl 4, .inr (.inr (some 21))]) (h' := gc_h sh I167 J A) (C := ((True ∧ True) ∧ True)) rfl ⟨⟨trivial, trivial⟩, trivial⟩ ?_
  have f184 := (gc_b_22_13 hI167 R_1)
  refine gv_get hD rfl rfl S_1 ⟨by decide, B_1⟩ (gc_hI S_1 rfl) ?_
  show gv_X _ _ (66, [(0, .inr (.inr (some 1)))], [.inl (I167 1 13), .inl 4, .inr (.inr (some 21))], sh, gc_h sh I167 J A)
  refine gv_iast hD rfl S_21 ⟨by decide, B_21⟩ ⟨by exact gz_m 84 (by omega), by exact gz_m 85 (by omega)⟩ ?_
  refine gc_st (k := 4) hI167 S_21 rfl R_21 (lo := (-1)) (hi := 12000) rfl rfl (by exact gz_m 86 (by omega)) (by exact gz_m 87 (by omega)) (fun I185 hI185 q186 p186 => ?_)
  have FI185 := gc_frs (W := fun q j => (q = 1 ∧ j = 18) ∨ q = 21) FI167 (Or.inr rfl) p186
  have t187 := p186 21 0 (fun h => absurd h.2 (by first | exact gz_ne rfl | decide))
  have t188 := p186 21 1 (fun h => absurd h.2 (by first | exact gz_ne rfl | decide))
  have t189 := p186 21 2 (fun h => absurd h.2 (by first | exact gz_ne rfl | decide))
  have t190 := p186 21 3 (fun h => absurd h.2 (by first | exact gz_ne rfl | decide))
  have t191 := p186 21 5 (fun h => absurd h.2 (by first | exact gz_ne rfl | decide))
  have t192 := p186 21 6 (fun h => absurd h.2 (by first | exact gz_ne rfl | decide))
  have t193 := p186 2 1 (fun h => absurd h.2 (by first | exact gz_ne rfl | decide))
  have t194 := p186 4 1 (fun h => absurd h.2 (by first | exact gz_ne rfl | decide))
  have t195 := p186 6 1 (fun h => absurd h.2 (by first | exact gz_ne rfl | decide))
  have t196 := p186 8 1 (fun h => absurd h.2 (by first | exact gz_ne rfl | decide))
  have t197 := p186 1 13 (fun h => absurd h.2 (by first | exact gz_ne rfl | decide))
  have t198 := p186 1 17 (fun h => absurd h.2 (by first | exact gz_ne rfl | decide))
  have t199 := p186 1 5 (fun h => absurd h.2 (by first | exact gz_ne rfl | decide))
  have t200 := p186 1 18 (fun h => absurd h.2 (by first | exact gz_ne rfl | decide))
  have f201 := (gc_b_70_4 hI185 R_21)
  show gv_X _ _ (67, [(0, .inr (.inr (some 1)))], [], sh, gc_h sh I185 J A)
  refine gv_run 1 true hD (pc' := 68) (lv' := [(0, .inr (.inr (some 1)))]) (st' := [.inr (.inr (some 1))]) (h' := gc_h sh I185 J A) (C := (True ∧ True)) rfl ⟨trivial, trivial⟩ ?_
  refine gv_get hD rfl rfl S_1 ⟨by decide, B_1⟩ (gc_hA S_1 rfl A_1_19) ?_
  show gv_X _ _ (71, [(0, .inr (.inr (some 1)))], [.inr (.inr (some 21))], sh, gc_h sh I185 J A)
  refine gv_run 2 true hD (pc' := 73) (lv' := [(0, .inr (.inr (some 1)))]) (st' := [.inr (.inr (some 1)), .inl 5, .inr (.inr (some 21))]) (h' := gc_h sh I185 J A) (C := ((True ∧ True) ∧ True)) rfl ⟨⟨trivial, trivial⟩, trivial⟩ ?_
  have f202 := (gc_b_22_17 hI185 R_1)
  refine gv_get hD rfl rfl S_1 ⟨by decide, B_1⟩ (gc_hI S_1 rfl) ?_
  show gv_X _ _ (76, [(0, .inr (.inr (some 1)))], [.inl (I185 1 17), .inl 5, .inr (.inr (some 21))], sh, gc_h sh I185 J A)
  refine gv_iast hD rfl S_21 ⟨by decide, B_21⟩ ⟨by exact gz_m 88 (by omega), by exact gz_m 89 (by omega)⟩ ?_
  refine gc_st (k := 5) hI185 S_21 rfl R_21 (lo := (-1)) (hi := 12000) rfl rfl (by exact gz_m 90 (by omega)) (by exact gz_m 91 (by omega)) (fun I203 hI203 q204 p204 => ?_)
  have FI203 := gc_frs (W := fun q j => (q = 1 ∧ j = 18) ∨ q = 21) FI185 (Or.inr rfl) p204
  have t205 := p204 21 0 (fun h => absurd h.2 (by first | exact gz_ne rfl | decide))
  have t206 := p204 21 1 (fun h => absurd h.2 (by first | exact gz_ne rfl | decide))
  have t207 := p204 21 2 (fun h => absurd h.2 (by first | exact gz_ne rfl | decide))
  have t208 := p204 21 3 (fun h => absurd h.2 (by first | exact gz_ne rfl | decide))
  have t209 := p204 21 4 (fun h => absurd h.2 (by first | exact gz_ne rfl | decide))
  have t210 := p204 21 6 (fun h => absurd h.2 (by first | exact gz_ne rfl | decide))
  have t211 := p204 2 1 (fun h => absurd h.2 (by first | exact gz_ne rfl | decide))
  have t212 := p204 4 1 (fun h => absurd h.2 (by first | exact gz_ne rfl | decide))
  have t213 := p204 6 1 (fun h => absurd h.2 (by first | exact gz_ne rfl | decide))
  have t214 := p204 8 1 (fun h => absurd h.2 (by first | exact gz_ne rfl | decide))
  have t215 := p204 1 13 (fun h => absurd h.2 (by first | exact gz_ne rfl | decide))
  have t216 := p204 1 17 (fun h => absurd h.2 (by first | exact gz_ne rfl | decide))
  have t217 := p204 1 5 (fun h => absurd h.1 (by first | exact gz_ne rfl | decide))
  have t218 := p204 1 18 (fun h => absurd h.2 (by first | exact gz_ne rfl | decide))
  have f219 := (gc_b_70_5 hI203 R_21)
  show gv_X _ _ (77, [(0, .inr (.inr (some 1)))], [], sh, gc_h sh I203 J A)
  refine gv_run 1 true hD (pc' := 78) (lv' := [(0, .inr (.inr (some 1)))]) (st' := [.inr (.inr (some 1))]) (h' := gc_h sh I203 J A) (C := (True ∧ True)) rfl ⟨trivial, trivial⟩ ?_
  refine gv_get hD rfl rfl S_1 ⟨by decide, B_1⟩ (gc_hA S_1 rfl A_1_19) ?_
  show gv_X _ _ (81, [(0, .inr (.inr (some 1)))], [.inr (.inr (some 21))], sh, gc_h sh I203 J A)
  refine gv_run 2 true hD (pc' := 84) (lv' := [(0, .inr (.inr (some 1)))]) (st' := [.inr (.inr (some 1)), .inl 6, .inr (.inr (some 21))]) (h' := gc_h sh I203 J A) (C := ((True ∧ True) ∧ True)) rfl ⟨⟨trivial, trivial⟩, trivial⟩ ?_
  have f220 := (gc_b_22_5 hI203 R_1)
  refine gv_get hD rfl rfl S_1 ⟨by decide, B_1⟩ (gc_hI S_1 rfl) ?_
  show gv_X _ _ (87, [(0, .inr (.inr (some 1)))], [.inl (I203 1 5), .inl 6, .inr (.inr (some 21))], sh, gc_h sh I203 J A)
  refine gv_iast hD rfl S_21 ⟨by decide, B_21⟩ ⟨by exact gz_m 92 (by omega), by exact gz_m 93 (by omega)⟩ ?_
  refine gc_st (k := 6) hI203 S_21 rfl R_21 (lo := (-1)) (hi := 12000) rfl rfl (by exact gz_m 94 (by omega)) (by exact gz_m 95 (by omega)) (fun I221 hI221 q222 p222 => ?_)
  have FI221 := gc_frs (W := fun q j => (q = 1 ∧ j = 18) ∨ q = 21) FI203 (Or.inr rfl) p222
  have t223 := p222 21 0 (fun h => absurd h.2 (by first | exact gz_ne rfl | decide))
  have t224 := p222 21 1 (fun h => absurd h.2 (by first | exact gz_ne rfl | decide))
  have t225 := p222 21 2 (fun h => absurd h.2 (by first | exact gz_ne rfl | decide))
  have t226 := p222 21 3 (fun h => absurd h.2 (by first | exact gz_ne rfl | decide))
  have t227 := p222 21 4 (fun h => absurd h.2 (by first | exact gz_ne rfl | decide))
  have t228 := p222 21 5 (fun h => absurd h.2 (by first | exact gz_ne rfl | decide))
  have t229 := p222 2 1 (fun h => absurd h.2 (by first | exact gz_ne rfl | decide))
  have t230 := p222 4 1 (fun h => absurd h.2 (by first | exact gz_ne rfl | decide))
  have t231 := p222 6 1 (fun h => absurd h.2 (by first | exact gz_ne rfl | decide))
  have t232 := p222 8 1 (fun h => absurd h.2 (by first | exact gz_ne rfl | decide))
  have t233 := p222 1 13 (fun h => absurd h.2 (by first | exact gz_ne rfl | decide))
  have t234 := p222 1 17 (fun h => absurd h.2 (by first | exact gz_ne rfl | decide))
  have t235 := p222 1 5 (fun h => absurd h.2 (by first | exact gz_ne rfl | decide))
  have t236 := p222 1 18 (fun h => absurd h.2 (by first | exact gz_ne rfl | decide))
  have f237 := (gc_b_70_6 hI221 R_21)
  show gv_X _ _ (88, [(0, .inr (.inr (some 1)))], [], sh, gc_h sh I221 J A)
  refine gv_run 2 true hD (pc' := 90) (lv' := [(1, .inl 0), (0, .inr (.inr (some 1)))]) (st' := []) (h' := gc_h sh I221 J A) (C := ((True ∧ True) ∧ True)) rfl ⟨⟨trivial, trivial⟩, trivial⟩ ?_
  refine gv_pick [1, 0] rfl ?_
  exact L90 _ I221 J 0 (Nat.lt_succ_self _) hI221 FI221 FJ (by exact gz_m 96 (by omega)) (fun j hj => by exact gz_m 97 (by omega))
set_option maxHeartbeats 8000000 in
set_option maxRecDepth 100000 in
theorem d_X6_begin_p {ws0 : List Cond} {tb : String → gz_T} (hws : gc_Ws ws0) (htb : gc_tbs tb) (sh : gz_Sh) (ro : Nat → Nat) (I : gr_I) (J : gr_J) (A : gc_A) (hI : gc_Inv ro I) (β : Int → Int) (η : Int)  (hb : gc_Base sh ro A)  (x0 : gc_Ts sh ro A I) (x1 : gs_TX β η (I 24)) (x2 : η = I 23 1) : ∃ r h', gz_Ev ws0 tb 4 (yX6_begin, cX6_begin, 1, none) [.inr (.inr (some 39))] sh (gc_h sh I J A) r sh h' 0 0 ∧ (∃ (I' : gr_I) (J' : gr_J), h' = gc_h sh I' J' A ∧ gc_Inv ro I' ∧ (∀ q j : Nat, ((q = 39 ∧ j = 3) ∨ (q = 1 ∧ j = 18) ∨ q = 21 ∨ (q = 23 ∧ j = 5) ∨ (q = 23 ∧ j = 6) ∨ (q = 23 ∧ j = 7) ∨ (q = 23 ∧ j = 8)) ∨ I' q j = I q j) ∧ (∀ q j : Nat, ((q = 23 ∧ j = 9)) ∨ J' q j = J q j) ∧ r = none ∧ (gc_TK I') ∧ (gc_LT I') ∧ (I' 21 0 = I 2 1) ∧ (I' 21 1 = I 4 1) ∧ (I' 21 2 = I 6 1) ∧ (I' 21 3 = I 8 1) ∧ (I' 21 4 = I 1 13) ∧ (I' 21 5 = I 1 17) ∧ (I' 21 6 = I 1 5) ∧ (gc_mkT A I I' (I 8 1)) ∧ (∀ f : Nat, f < 96 → I' 21 (63 + f) = I 15 f) ∧ (gc_AT β η 0 23 I' J') ∧ (I' 1 18 = 0)) := by
  have FI : ∀ q j : Nat, ((q = 39 ∧ j = 3) ∨ (q = 1 ∧ j = 18) ∨ q = 21 ∨ (q = 23 ∧ j = 5) ∨ (q = 23 ∧ j = 6) ∨ (q = 23 ∧ j = 7) ∨ (q = 23 ∧ j = 8)) ∨ I q j = I q j := fun _ _ => Or.inr rfl
  have FJ : ∀ q j : Nat, ((q = 23 ∧ j = 9)) ∨ J q j = J q j := fun _ _ => Or.inr rfl
  have A_39_0 : A 39 0 = some 1 := gc_bA_39_0 hb
  have A_39_1 : A 39 1 = some 23 := gc_bA_39_1 hb
  have B_1 : 1 < 1000000 := by decide
  have B_23 : 23 < 1000000 := by decide
  have B_39 : 39 < 1000000 := by decide
  have R_1 : ro 1 = 22 := gc_bR_1 hb
  have R_2 : ro 2 = 9 := gc_bR_2 hb
  have R_21 : ro 21 = 70 := gc_bR_21 hb
  have R_23 : ro 23 = 3 := gc_bR_23 hb
  have R_39 : ro 39 = 42 := gc_bR_39 hb
  have R_4 : ro 4 = 11 := gc_bR_4 hb
  have R_6 : ro 6 = 6 := gc_bR_6 hb
  have R_8 : ro 8 = 6 := gc_bR_8 hb
  have S_1 : sh[1]? = some (false, 8, 21) := gc_bS_1 hb
  have S_23 : sh[23]? = some (false, 9, 10) := gc_bS_23 hb
  have S_39 : sh[39]? = some (false, 6, 19) := gc_bS_39 hb
  have hD : gv_D (gc_E6 ws0 tb 3 (yX6_begin, cX6_begin, 1, none) kX6_begin) := gq_of oX6_begin
  refine gc_ev6 (d := 3) (l := kX6_begin) (Po := fun r h' => (∃ (I' : gr_I) (J' : gr_J), h' = gc_h sh I' J' A ∧ gc_Inv ro I' ∧ (∀ q j : Nat, ((q = 39 ∧ j = 3) ∨ (q = 1 ∧ j = 18) ∨ q = 21 ∨ (q = 23 ∧ j = 5) ∨ (q = 23 ∧ j = 6) ∨ (q = 23 ∧ j = 7) ∨ (q = 23 ∧ j = 8)) ∨ I' q j = I q j) ∧ (∀ q j : Nat, ((q = 23 ∧ j = 9)) ∨ J' q j = J q j) ∧ r = none ∧ (gc_TK I') ∧ (gc_LT I') ∧ (I' 21 0 = I 2 1) ∧ (I' 21 1 = I 4 1) ∧ (I' 21 2 = I 6 1) ∧ (I' 21 3 = I 8 1) ∧ (I' 21 4 = I 1 13) ∧ (I' 21 5 = I 1 17) ∧ (I' 21 6 = I 1 5) ∧ (gc_mkT A I I' (I 8 1)) ∧ (∀ f : Nat, f < 96 → I' 21 (63 + f) = I 15 f) ∧ (gc_AT β η 0 23 I' J') ∧ (I' 1 18 = 0))) htb rfl (Nat.le_of_ble_eq_true rfl) ?_
  have f1 := (gc_b_3_1 hI R_23)
  have f2 := (gc_b_3_5 hI R_23)
  have f3 := (gc_b_3_6 hI R_23)
  have f4 := (gc_b_3_7 hI R_23)
  have f5 := (gc_b_70_0 hI R_21)
  have f6 := (gc_b_70_1 hI R_21)
  have f7 := (gc_b_70_2 hI R_21)
  have f8 := (gc_b_70_3 hI R_21)
  have f9 := (gc_b_70_4 hI R_21)
  have f10 := (gc_b_70_5 hI R_21)
  have f11 := (gc_b_70_6 hI R_21)
  have f12 := (gc_b_9_1 hI R_2)
  have f13 := (gc_b_11_1 hI R_4)
  have f14 := (gc_b_6_1 hI R_6)
  have f15 := (gc_b_6_1 hI R_8)
  have f16 := (gc_b_22_13 hI R_1)
  have f17 := (gc_b_22_17 hI R_1)
  have f18 := (gc_b_22_5 hI R_1)
  have f19 := (gc_b_22_18 hI R_1)
  refine gv_run 2 true hD (pc' := 2) (lv' := [(0, .inr (.inr (some 39)))]) (st' := [.inl 0, .inr (.inr (some 39))]) (h' := gc_h sh I J A) (C := ((True ∧ True) ∧ True)) rfl ⟨⟨trivial, trivial⟩, trivial⟩ ?_
  refine gv_put hD rfl rfl S_39 ⟨by decide, B_39⟩ rfl trivial ?_
  refine gc_st (k := 3) hI S_39 rfl R_39 (lo := 0) (hi := 6) rfl rfl (by exact gz_m 0 (by omega)) (by exact gz_m 1 (by omega)) (fun I20 hI20 q21 p21 => ?_)
  have FI20 := gc_frs (W := fun q j => (q = 39 ∧ j = 3) ∨ (q = 1 ∧ j = 18) ∨ q = 21 ∨ (q = 23 ∧ j = 5) ∨ (q = 23 ∧ j = 6) ∨ (q = 23 ∧ j = 7) ∨ (q = 23 ∧ j = 8)) FI (Or.inl ⟨rfl, rfl⟩) p21
  have t22 := p21 23 1 (fun h => absurd h.2 (by first | exact gz_ne rfl | decide))
  have t23 := p21 23 5 (fun h => absurd h.2 (by first | exact gz_ne rfl | decide))
  have t24 := p21 23 6 (fun h => absurd h.2 (by first | exact gz_ne rfl | decide))
  have t25 := p21 23 7 (fun h => absurd h.2 (by first | exact gz_ne rfl | decide))
  have t26 := p21 21 0 (fun h => absurd h.2 (by first | exact gz_ne rfl | decide))
  have t27 := p21 21 1 (fun h => absurd h.2 (by first | exact gz_ne rfl | decide))
  have t28 := p21 21 2 (fun h => absurd h.2 (by first | exact gz_ne rfl | decide))
  have t29 := p21 21 3 (fun h => absurd h.1 (by first | exact gz_ne rfl | decide))
  have t30 := p21 21 4 (fun h => absurd h.2 (by first | exact gz_ne rfl | decide))
  have t31 := p21 21 5 (fun h => absurd h.2 (by first | exact gz_ne rfl | decide))
  have t32 := p21 21 6 (fun h => absurd h.2 (by first | exact gz_ne rfl | decide))
  have t33 := p21 2 1 (fun h => absurd h.2 (by first | exact gz_ne rfl | decide))
  have t34 := p21 4 1 (fun h => absurd h.2 (by first | exact gz_ne rfl | decide))
  have t35 := p21 6 1 (fun h => absurd h.2 (by first | exact gz_ne rfl | decide))
  have t36 := p21 8 1 (fun h => absurd h.2 (by first | exact gz_ne rfl | decide))
  have t37 := p21 1 13 (fun h => absurd h.2 (by first | exact gz_ne rfl | decide))
  have t38 := p21 1 17 (fun h => absurd h.2 (by first | exact gz_ne rfl | decide))
  have t39 := p21 1 5 (fun h => absurd h.2 (by first | exact gz_ne rfl | decide))
  have t40 := p21 1 18 (fun h => absurd h.2 (by first | exact gz_ne rfl | decide))
  show gv_X _ _ (5, [(0, .inr (.inr (some 39)))], [], sh, gc_h sh I20 J A)
  refine gv_run 1 true hD (pc' := 6) (lv' := [(0, .inr (.inr (some 39)))]) (st' := [.inr (.inr (some 39))]) (h' := gc_h sh I20 J A) (C := (True ∧ True)) rfl ⟨trivial, trivial⟩ ?_
  refine gv_get hD rfl rfl S_39 ⟨by decide, B_39⟩ (gc_hA S_39 rfl A_39_0) ?_
  show gv_X _ _ (9, [(0, .inr (.inr (some 39)))], [.inr (.inr (some 1))], sh, gc_h sh I20 J A)
  obtain ⟨r41, h41, E41, P41⟩ := d_X8_mark_w_p (ws0 := ws0) (tb := tb) hws htb sh ro I20 J A hI20   hb    (gc_Ts_fr x0 (by exact gz_m 2 (by omega))) 
  obtain ⟨I42, J43, rfl, hI42, g41, k41, ⟨rfl, q41⟩⟩ := P41
  have FI42 := gc_frc (W := fun q j => (q = 39 ∧ j = 3) ∨ (q = 1 ∧ j = 18) ∨ q = 21 ∨ (q = 23 ∧ j = 5) ∨ (q = 23 ∧ j = 6) ∨ (q = 23 ∧ j = 7) ∨ (q = 23 ∧ j = 8)) (V := fun q j => (q = 1 ∧ j = 18) ∨ q = 21) FI20 (fun q j h => (h.elim (fun h => (Or.inr (Or.inl h))) (fun h => (Or.inr (Or.inr (Or.inl h)))))) g41
  have t44 := (g41 23 1).resolve_left (fun h => h.elim (fun h => absurd h.2 (by first | exact gz_ne rfl | decide)) (fun h => absurd h (by first | exact gz_ne rfl | decide)))
  have t45 := (g41 23 5).resolve_left (fun h => h.elim (fun h => absurd h.2 (by first | exact gz_ne rfl | decide)) (fun h => absurd h (by first | exact gz_ne rfl | decide)))
  have t46 := (g41 23 6).resolve_left (fun h => h.elim (fun h => absurd h.2 (by first | exact gz_ne rfl | decide)) (fun h => absurd h (by first | exact gz_ne rfl | decide)))
  have t47 := (g41 23 7).resolve_left (fun h => h.elim (fun h => absurd h.2 (by first | exact gz_ne rfl | decide)) (fun h => absurd h (by first | exact gz_ne rfl | decide)))
  have t48 := (g41 2 1).resolve_left (fun h => h.elim (fun h => absurd h.2 (by first | exact gz_ne rfl | decide)) (fun h => absurd h (by first | exact gz_ne rfl | decide)))
  have t49 := (g41 4 1).resolve_left (fun h => h.elim (fun h => absurd h.2 (by first | exact gz_ne rfl | decide)) (fun h => absurd h (by first | exact gz_ne rfl | decide)))
  have t50 := (g41 6 1).resolve_left (fun h => h.elim (fun h => absurd h.2 (by first | exact gz_ne rfl | decide)) (fun h => absurd h (by first | exact gz_ne rfl | decide)))
  have t51 := (g41 8 1).resolve_left (fun h => h.elim (fun h => absurd h.2 (by first | exact gz_ne rfl | decide)) (fun h => absurd h (by first | exact gz_ne rfl | decide)))
  have t52 := (g41 1 13).resolve_left (fun h => h.elim (fun h => absurd h.2 (by first | exact gz_ne rfl | decide)) (fun h => absurd h (by first | exact gz_ne rfl | decide)))
  have t53 := (g41 1 17).resolve_left (fun h => h.elim (fun h => absurd h.2 (by first | exact gz_ne rfl | decide)) (fun h => absurd h (by first | exact gz_ne rfl | decide)))
  have t54 := (g41 1 5).resolve_left (fun h => h.elim (fun h => absurd h.2 (by first | exact gz_ne rfl | decide)) (fun h => absurd h (by first | exact gz_ne rfl | decide)))
  have f55 := (gc_b_70_0 hI42 R_21)
  have f56 := (gc_b_70_1 hI42 R_21)
  have f57 := (gc_b_70_2 hI42 R_21)
  have f58 := (gc_b_70_3 hI42 R_21)
  have f59 := (gc_b_70_4 hI42 R_21)
  have f60 := (gc_b_70_5 hI42 R_21)
  have f61 := (gc_b_70_6 hI42 R_21)
  have f62 := (gc_b_22_18 hI42 R_1)
  obtain rfl : J = J43 := funext fun q => funext fun j => ((k41 q j).resolve_left id).symm
  refine gv_callV hD rfl (As := []) (st := []) rfl B_1 S_1 rfl (gc_lV6 hws rfl) (Nat.le_of_ble_eq_true rfl) (gz_Ev_mono (d := 2) (by decide) E41) ?_
  show gv_X _ _ (12, [(0, .inr (.inr (some 39)))], [], sh, gc_h sh I42 J A)
  refine gv_run 1 true hD (pc' := 13) (lv' := [(0, .inr (.inr (some 39)))]) (st' := [.inr (.inr (some 39))]) (h' := gc_h sh I42 J A) (C := (True ∧ True)) rfl ⟨trivial, trivial⟩ ?_
  refine gv_get hD rfl rfl S_39 ⟨by decide, B_39⟩ (gc_hA S_39 rfl A_39_1) ?_
  show gv_X _ _ (16, [(0, .inr (.inr (some 39)))], [.inr (.inr (some 23))], sh, gc_h sh I42 J A)
  obtain ⟨r63, h63, E63, P63⟩ := d_X9_rewind_p (ws0 := ws0) (tb := tb) hws htb sh ro I42 J A hI42 23 β η  (gc_b23 hb)    (show gs_TX β η (I42 24) from by rw [show I42 24 = I 24 from funext fun k => (((g41 24 k).resolve_left (by exact gz_m 3 (by omega))).trans (p21 24 k (by exact gz_m 4 (by omega))))]; exact x1) (by exact gz_m 5 (by omega)) 
  obtain ⟨I64, J65, rfl, hI64, g63, k63, ⟨rfl, V63_0, V63_1, V63_2, V63_3, V63_4, q63⟩⟩ := P63
  have FI64 := gc_frc (W := fun q j => (q = 39 ∧ j = 3) ∨ (q = 1 ∧ j = 18) ∨ q = 21 ∨ (q = 23 ∧ j = 5) ∨ (q = 23 ∧ j = 6) ∨ (q = 23 ∧ j = 7) ∨ (q = 23 ∧ j = 8)) (V := fun q j => (q = 23 ∧ j = 5) ∨ (q = 23 ∧ j = 6) ∨ (q = 23 ∧ j = 7) ∨ (q = 23 ∧ j = 8)) FI42 (fun q j h => (h.elim (fun h => (Or.inr (Or.inr (Or.inr (Or.inl h))))) (fun h => (h.elim (fun h => (Or.inr (Or.inr (Or.inr (Or.inr (Or.inl h)))))) (fun h => (h.elim (fun h => (Or.inr (Or.inr (Or.inr (Or.inr (Or.inr (Or.inl h))))))) (fun h => (Or.inr (Or.inr (Or.inr (Or.inr (Or.inr (Or.inr h))))))))))))) g63
  have FJ65 := gc_frc (W := fun q j => (q = 23 ∧ j = 9)) (V := fun q j => (q = 23 ∧ j = 9)) FJ (fun q j h => h) k63
  have t66 := (g63 23 1).resolve_left (fun h => h.elim (fun h => absurd h.2 (by first | exact gz_ne rfl | decide)) (fun h => h.elim (fun h => absurd h.2 (by first | exact gz_ne rfl | decide)) (fun h => h.elim (fun h => absurd h.2 (by first | exact gz_ne rfl | decide)) (fun h => absurd h.2 (by first | exact gz_ne rfl | decide)))))
  have t67 := (g63 21 0).resolve_left (fun h => h.elim (fun h => absurd h.2 (by first | exact gz_ne rfl | decide)) (fun h => h.elim (fun h => absurd h.2 (by first | exact gz_ne rfl | decide)) (fun h => h.elim (fun h => absurd h.2 (by first | exact gz_ne rfl | decide)) (fun h => absurd h.2 (by first | exact gz_ne rfl | decide)))))
  have t68 := (g63 21 1).resolve_left (fun h => h.elim (fun h => absurd h.2 (by first | exact gz_ne rfl | decide)) (fun h => h.elim (fun h => absurd h.2 (by first | exact gz_ne rfl | decide)) (fun h => h.elim (fun h => absurd h.2 (by first | exact gz_ne rfl | decide)) (fun h => absurd h.2 (by first | exact gz_ne rfl | decide)))))
  have t69 := (g63 21 2).resolve_left (fun h => h.elim (fun h => absurd h.2 (by first | exact gz_ne rfl | decide)) (fun h => h.elim (fun h => absurd h.2 (by first | exact gz_ne rfl | decide)) (fun h => h.elim (fun h => absurd h.2 (by first | exact gz_ne rfl | decide)) (fun h => absurd h.2 (by first | exact gz_ne rfl | decide)))))
  have t70 := (g63 21 3).resolve_left (fun h => h.elim (fun h => absurd h.2 (by first | exact gz_ne rfl | decide)) (fun h => h.elim (fun h => absurd h.2 (by first | exact gz_ne rfl | decide)) (fun h => h.elim (fun h => absurd h.2 (by first | exact gz_ne rfl | decide)) (fun h => absurd h.2 (by first | exact gz_ne rfl | decide)))))
  have t71 := (g63 21 4).resolve_left (fun h => h.elim (fun h => absurd h.2 (by first | exact gz_ne rfl | decide)) (fun h => h.elim (fun h => absurd h.2 (by first | exact gz_ne rfl | decide)) (fun h => h.elim (fun h => absurd h.2 (by first | exact gz_ne rfl | decide)) (fun h => absurd h.2 (by first | exact gz_ne rfl | decide)))))
  have t72 := (g63 21 5).resolve_left (fun h => h.elim (fun h => absurd h.1 (by first | exact gz_ne rfl | decide)) (fun h => h.elim (fun h => absurd h.2 (by first | exact gz_ne rfl | decide)) (fun h => h.elim (fun h => absurd h.2 (by first | exact gz_ne rfl | decide)) (fun h => absurd h.2 (by first | exact gz_ne rfl | decide)))))
  have t73 := (g63 21 6).resolve_left (fun h => h.elim (fun h => absurd h.2 (by first | exact gz_ne rfl | decide)) (fun h => h.elim (fun h => absurd h.1 (by first | exact gz_ne rfl | decide)) (fun h => h.elim (fun h => absurd h.2 (by first | exact gz_ne rfl | decide)) (fun h => absurd h.2 (by first | exact gz_ne rfl | decide)))))
  have t74 := (g63 2 1).resolve_left (fun h => h.elim (fun h => absurd h.2 (by first | exact gz_ne rfl | decide)) (fun h => h.elim (fun h => absurd h.2 (by first | exact gz_ne rfl | decide)) (fun h => h.elim (fun h => absurd h.2 (by first | exact gz_ne rfl | decide)) (fun h => absurd h.2 (by first | exact gz_ne rfl | decide)))))
  have t75 := (g63 4 1).resolve_left (fun h => h.elim (fun h => absurd h.2 (by first | exact gz_ne rfl | decide)) (fun h => h.elim (fun h => absurd h.2 (by first | exact gz_ne rfl | decide)) (fun h => h.elim (fun h => absurd h.2 (by first | exact gz_ne rfl | decide)) (fun h => absurd h.2 (by first | exact gz_ne rfl | decide)))))
  have t76 := (g63 6 1).resolve_left (fun h => h.elim (fun h => absurd h.2 (by first | exact gz_ne rfl | decide)) (fun h => h.elim (fun h => absurd h.2 (by first | exact gz_ne rfl | decide)) (fun h => h.elim (fun h => absurd h.2 (by first | exact gz_ne rfl | decide)) (fun h => absurd h.2 (by first | exact gz_ne rfl | decide)))))
  have t77 := (g63 8 1).resolve_left (fun h => h.elim (fun h => absurd h.2 (by first | exact gz_ne rfl | decide)) (fun h => h.elim (fun h => absurd h.2 (by first | exact gz_ne rfl | decide)) (fun h => h.elim (fun h => absurd h.2 (by first | exact gz_ne rfl | decide)) (fun h => absurd h.2 (by first | exact gz_ne rfl | decide)))))
  have t78 := (g63 1 13).resolve_left (fun h => h.elim (fun h => absurd h.2 (by first | exact gz_ne rfl | decide)) (fun h => h.elim (fun h => absurd h.2 (by first | exact gz_ne rfl | decide)) (fun h => h.elim (fun h => absurd h.2 (by first | exact gz_ne rfl | decide)) (fun h => absurd h.2 (by first | exact gz_ne rfl | decide)))))
  have t79 := (g63 1 17).resolve_left (fun h => h.elim (fun h => absurd h.2 (by first | exact gz_ne rfl | decide)) (fun h => h.elim (fun h => absurd h.2 (by first | exact gz_ne rfl | decide)) (fun h => h.elim (fun h => absurd h.2 (by first | exact gz_ne rfl | decide)) (fun h => absurd h.2 (by first | exact gz_ne rfl | decide)))))
  have t80 := (g63 1 5).resolve_left (fun h => h.elim (fun h => absurd h.1 (by first | exact gz_ne rfl | decide)) (fun h => h.elim (fun h => absurd h.2 (by first | exact gz_ne rfl | decide)) (fun h => h.elim (fun h => absurd h.2 (by first | exact gz_ne rfl | decide)) (fun h => absurd h.2 (by first | exact gz_ne rfl | decide)))))
  have t81 := (g63 1 18).resolve_left (fun h => h.elim (fun h => absurd h.2 (by first | exact gz_ne rfl | decide)) (fun h => h.elim (fun h => absurd h.2 (by first | exact gz_ne rfl | decide)) (fun h => h.elim (fun h => absurd h.2 (by first | exact gz_ne rfl | decide)) (fun h => absurd h.2 (by first | exact gz_ne rfl | decide)))))
  have f82 := (gc_b_3_5 hI64 R_23)
  have f83 := (gc_b_3_6 hI64 R_23)
  have f84 := (gc_b_3_7 hI64 R_23)
  have KLT_I64 : gc_LT I64 := q63.2.1
  have KTK_I64 : gc_TK I64 := And.intro V63_0 (And.intro V63_1 (And.intro V63_2 (And.intro V63_3 V63_4)))
  have t85 := gc_TK_mo KTK_I64
  clear V63_0 V63_1 V63_2 V63_3 V63_4
  refine gv_callV hD rfl (As := []) (st := []) rfl B_23 S_23 rfl (gc_lV6 hws rfl) (Nat.le_of_ble_eq_true rfl) (gz_Ev_mono (d := 3) (by decide) E63) ?_
  show gv_X _ _ (19, [(0, .inr (.inr (some 39)))], [], sh, gc_h sh I64 J65 A)
  exact gv_vret hD rfl ⟨I64, J65, rfl, hI64, FI64, FJ65, ⟨rfl, KTK_I64, KLT_I64, by exact gz_m 6 (by omega), by exact gz_m 7 (by omega), by exact gz_m 8 (by omega), by exact gz_m 9 (by omega), by exact gz_m 10 (by omega), by exact gz_m 11 (by omega), by exact gz_m 12 (by omega), (by have h9 := q41.2.2.2.2.2.2.2.1; rw [show I20 8 1 = I 8 1 from by exact gz_m 13 (by omega)] at h9; exact gc_mkT_b h9 x0 (Int.le_refl _) p21 (fun k => ((g63 21 k).resolve_left (by exact gz_m 14 (by omega))))), (fun f hf => (((g63 21 (63 + f)).resolve_left (by exact gz_m 15 (by omega)))).trans ((q41.2.2.2.2.2.2.2.2.1 f hf).trans (p21 15 f (fun h => absurd h.1 (by first | exact gz_ne rfl | decide))))), q63.2.2, (by exact gz_m 16 (by omega))⟩⟩
