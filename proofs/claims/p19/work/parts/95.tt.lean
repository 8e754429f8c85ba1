/-! PARITY, the class's side: MEAN -/
/-- which FUNS have a MEAN, on both sides -/
def gs_ME (Ir I : gr_I) : Prop := ∀ f : Int, 0 ≤ f → f < I 4 1 → (0 < I 15 (Int.toNat f) ↔ 0 ≤ Ir 10 (Int.toNat f))
theorem gc_TC_1 {f : Nat → Int} {n : Int} (h : gc_TC f n) : 1 ≤ n := by
  apply Classical.byContradiction
  intro c
  have h2 := h.2.2
  rw [show Int.toNat n = 0 from by have := h.1; omega] at h2
  have h3 : gc_N f 0 = 1 := rfl
  omega
set_option maxHeartbeats 4000000 in
set_option maxRecDepth 100000 in
theorem d_X6_readMean_a_p {ws0 : List Cond} {tb : String → gz_T} (hws : gc_Ws ws0) (htb : gc_tbs tb) (sh : gz_Sh) (ro : Nat → Nat) (I : gr_I) (J : gr_J) (A : gc_A) (hI : gc_Inv ro I) (β : Int → Int) (η : Int) (p9 : Int) (Ir : gr_I) (Jr : gr_J)  (hb : gc_Base sh ro A)  (x0 : gc_AT β η p9 23 I J) (x1 : 0 ≤ p9) (x2 : I 1 18 = 0) (x3 : gs_AR Ir I) (x4 : gs_ME Ir I) (x5 : I 4 1 = Ir 0 3) (x6 : gs_NA (I 4 1) (J 5) (Jr 3)) (KLT_I : gc_LT I) (KTK_I : gc_TK I) (KMS_I : gc_MS I) : ∃ r h', gz_Ev ws0 tb 91 (yX6_readMean, cX6_readMean, 2, (some .boolean)) [.inr (.inr (some 39))] sh (gc_h sh I J A) r sh h' 0 0 ∧ (∃ (I' : gr_I) (J' : gr_J), h' = gc_h sh I' J' A ∧ gc_Inv ro I' ∧ (∀ q j : Nat, ((q = 39 ∧ j = 3) ∨ (q = 39 ∧ j = 4) ∨ (q = 23 ∧ j = 5) ∨ (q = 23 ∧ j = 6) ∨ (q = 23 ∧ j = 7) ∨ (q = 23 ∧ j = 8) ∨ (q = 39 ∧ j = 12) ∨ (q = 39 ∧ j = 15) ∨ q = 43 ∨ (q = 15 ∧ (I 15 j ≤ 0)) ∨ (q = 16 ∧ (I 15 (j / 40) ≤ 0))) ∨ I' q j = I q j) ∧ (∀ q j : Nat, ((q = 23 ∧ j = 9) ∨ q = 44 ∨ q = 45 ∨ q = 17) ∨ J' q j = J q j) ∧ gc_LT I' ∧ gc_TK I' ∧ gc_MS I' ∧ (∃ z : Int, r = some (.inl z) ∧ 0 ≤ z ∧ z ≤ 1 ∧ (I' 23 1 = I 23 1) ∧ (I 23 5 ≤ I' 23 5) ∧ (gs_Or z (0 ≤ (gs_mn β η Ir Jr (I 39 5) p9) ∧ gc_AT β η (gs_mn β η Ir Jr (I 39 5) p9) 23 I' J' ∧ (0 ≤ (gs_lk Ir Jr 3 3 (gs_rn β η p9)) ∧ 0 < I' 15 (Int.toNat (gs_lk Ir Jr 3 3 (gs_rn β η p9))) ∧ ∀ j, ¬ j = Int.toNat (gs_lk Ir Jr 3 3 (gs_rn β η p9)) → I' 15 j = I 15 j)) ((gs_mn β η Ir Jr (I 39 5) p9) < 0 ∧ I' 39 4 = -1 - (gs_mn β η Ir Jr (I 39 5) p9) ∧ (∀ j, I' 15 j = I 15 j))))) := by
  have FI : ∀ q j : Nat, ((q = 39 ∧ j = 3) ∨ (q = 39 ∧ j = 4) ∨ (q = 23 ∧ j = 5) ∨ (q = 23 ∧ j = 6) ∨ (q = 23 ∧ j = 7) ∨ (q = 23 ∧ j = 8) ∨ (q = 39 ∧ j = 12) ∨ (q = 39 ∧ j = 15) ∨ q = 43 ∨ (q = 15 ∧ (I 15 j ≤ 0)) ∨ (q = 16 ∧ (I 15 (j / 40) ≤ 0))) ∨ I q j = I q j := fun _ _ => Or.inr rfl
  have FJ : ∀ q j : Nat, ((q = 23 ∧ j = 9) ∨ q = 44 ∨ q = 45 ∨ q = 17) ∨ J q j = J q j := fun _ _ => Or.inr rfl
  have A_1_1 : A 1 1 = some 4 := gc_bA hb rfl
  have A_1_10 : A 1 10 = some 15 := gc_bA hb rfl
  have A_1_11 : A 1 11 = some 16 := gc_bA hb rfl
  have A_1_12 : A 1 12 = some 17 := gc_bA hb rfl
  have A_39_0 : A 39 0 = some 1 := gc_bA hb rfl
  have A_39_1 : A 39 1 = some 23 := gc_bA hb rfl
  have A_39_13 : A 39 13 = some 43 := gc_bA hb rfl
  have A_39_14 : A 39 14 = some 44 := gc_bA hb rfl
  have B_1 : 1 < 1000000 := by decide
  have B_15 : 15 < 1000000 := by decide
  have B_16 : 16 < 1000000 := by decide
  have B_17 : 17 < 1000000 := by decide
  have B_23 : 23 < 1000000 := by decide
  have B_39 : 39 < 1000000 := by decide
  have B_4 : 4 < 1000000 := by decide
  have B_43 : 43 < 1000000 := by decide
  have B_44 : 44 < 1000000 := by decide
  have R_1 : ro 1 = 22 := gc_bR hb (by decide) rfl
  have R_12 : ro 12 = 26 := gc_bR hb (by decide) rfl
  have R_15 : ro 15 = 28 := gc_bR hb (by decide) rfl
  have R_16 : ro 16 = 50 := gc_bR hb (by decide) rfl
  have R_17 : ro 17 = 0 := gc_bR hb (by decide) rfl
  have R_23 : ro 23 = 3 := gc_bR hb (by decide) rfl
  have R_39 : ro 39 = 42 := gc_bR hb (by decide) rfl
  have R_4 : ro 4 = 11 := gc_bR hb (by decide) rfl
  have R_43 : ro 43 = 50 := gc_bR hb (by decide) rfl
  have R_44 : ro 44 = 0 := gc_bR hb (by decide) rfl
  have S_1 : sh[1]? = some (false, 8, 21) := gc_bS hb rfl
  have S_15 : sh[15]? = some (true, 1, 96) := gc_bS hb rfl
  have S_16 : sh[16]? = some (true, 1, 3840) := gc_bS hb rfl
  have S_17 : sh[17]? = some (true, 2, 3840) := gc_bS hb rfl
  have S_23 : sh[23]? = some (false, 9, 10) := gc_bS hb rfl
  have S_39 : sh[39]? = some (false, 6, 19) := gc_bS hb rfl
  have S_4 : sh[4]? = some (false, 4, 2) := gc_bS hb rfl
  have S_43 : sh[43]? = some (true, 1, 40) := gc_bS hb rfl
  have S_44 : sh[44]? = some (true, 2, 40) := gc_bS hb rfl
  have hD : gv_D (gc_E6 ws0 tb 90 (yX6_readMean, cX6_readMean, 2, (some .boolean)) kX6_readMean) := gq_ok oX6_readMean
  refine gc_ev6 (d := 90) (l := kX6_readMean) (Po := fun r h' => (∃ (I' : gr_I) (J' : gr_J), h' = gc_h sh I' J' A ∧ gc_Inv ro I' ∧ (∀ q j : Nat, ((q = 39 ∧ j = 3) ∨ (q = 39 ∧ j = 4) ∨ (q = 23 ∧ j = 5) ∨ (q = 23 ∧ j = 6) ∨ (q = 23 ∧ j = 7) ∨ (q = 23 ∧ j = 8) ∨ (q = 39 ∧ j = 12) ∨ (q = 39 ∧ j = 15) ∨ q = 43 ∨ (q = 15 ∧ (I 15 j ≤ 0)) ∨ (q = 16 ∧ (I 15 (j / 40) ≤ 0))) ∨ I' q j = I q j) ∧ (∀ q j : Nat, ((q = 23 ∧ j = 9) ∨ q = 44 ∨ q = 45 ∨ q = 17) ∨ J' q j = J q j) ∧ gc_LT I' ∧ gc_TK I' ∧ gc_MS I' ∧ (∃ z : Int, r = some (.inl z) ∧ 0 ≤ z ∧ z ≤ 1 ∧ (I' 23 1 = I 23 1) ∧ (I 23 5 ≤ I' 23 5) ∧ (gs_Or z (0 ≤ (gs_mn β η Ir Jr (I 39 5) p9) ∧ gc_AT β η (gs_mn β η Ir Jr (I 39 5) p9) 23 I' J' ∧ (0 ≤ (gs_lk Ir Jr 3 3 (gs_rn β η p9)) ∧ 0 < I' 15 (Int.toNat (gs_lk Ir Jr 3 3 (gs_rn β η p9))) ∧ ∀ j, ¬ j = Int.toNat (gs_lk Ir Jr 3 3 (gs_rn β η p9)) → I' 15 j = I 15 j)) ((gs_mn β η Ir Jr (I 39 5) p9) < 0 ∧ I' 39 4 = -1 - (gs_mn β η Ir Jr (I 39 5) p9) ∧ (∀ j, I' 15 j = I 15 j)))))) htb rfl (Nat.le_of_ble_eq_true rfl) ?_
  have t1 := gc_TK_mo KTK_I
  have f2 := (show 0 ≤ I 23 1 ∧ I 23 1 ≤ 1000 from gc_in hI R_23 rfl rfl)
  have f3 := (show 0 ≤ I 23 5 ∧ I 23 5 ≤ 1000 from gc_in hI R_23 rfl rfl)
  have f4 := (show 0 ≤ I 23 6 ∧ I 23 6 ≤ 1001 from gc_in hI R_23 rfl rfl)
  have f5 := (show 0 ≤ I 23 7 ∧ I 23 7 ≤ 125 from gc_in hI R_23 rfl rfl)
  have f6 := (show 0 ≤ I 39 12 ∧ I 39 12 ≤ 2000 from gc_in hI R_39 rfl rfl)
  have f7 := (show 0 ≤ I 39 15 ∧ I 39 15 ≤ 41 from gc_in hI R_39 rfl rfl)
  have f8 := (show 0 ≤ I 4 1 ∧ I 4 1 ≤ 96 from gc_in hI R_4 rfl rfl)
  have f9 := (show 0 ≤ I 39 5 ∧ I 39 5 ≤ 1000 from gc_in hI R_39 rfl rfl)
  have f10 := (show 0 ≤ I 1 18 ∧ I 1 18 ≤ 1 from gc_in hI R_1 rfl rfl)
  have tAT := gc_AT_l x0
  refine gv_run 2 true hD (pc' := 2) (lv' := [(0, .inr (.inr (some 39)))]) (st' := [.inr (.inr (some 39)), .inr (.inr (some 39))]) (h' := gc_h sh I J A) (C := ((True ∧ True) ∧ True)) rfl ⟨⟨trivial, trivial⟩, trivial⟩ ?_
  refine gv_get hD rfl rfl S_39 ⟨by decide, B_39⟩ (gc_hA S_39 rfl A_39_0) ?_
  show gv_X _ _ (5, [(0, .inr (.inr (some 39)))], [.inr (.inr (some 1)), .inr (.inr (some 39))], sh, gc_h sh I J A)
  refine gv_get hD rfl rfl S_1 ⟨by decide, B_1⟩ (gc_hA S_1 rfl A_1_1) ?_
  show gv_X _ _ (8, [(0, .inr (.inr (some 39)))], [.inr (.inr (some 4)), .inr (.inr (some 39))], sh, gc_h sh I J A)
  obtain ⟨r11, h11, E11, P11⟩ := d_X6_needKnown_p (ws0 := ws0) (tb := tb) hws htb sh ro I J A hI  96 11 β η p9 4 hb (gc_b4 hb)   x0 (by omega) 
  obtain ⟨I12, J13, rfl, hI12, g11, k11, ⟨z11, rfl, q11⟩⟩ := P11
  have FI12 := gc_frc (W := fun q j => (q = 39 ∧ j = 3) ∨ (q = 39 ∧ j = 4) ∨ (q = 23 ∧ j = 5) ∨ (q = 23 ∧ j = 6) ∨ (q = 23 ∧ j = 7) ∨ (q = 23 ∧ j = 8) ∨ (q = 39 ∧ j = 12) ∨ (q = 39 ∧ j = 15) ∨ q = 43 ∨ (q = 15 ∧ (I 15 j ≤ 0)) ∨ (q = 16 ∧ (I 15 (j / 40) ≤ 0))) (V := fun q j => (q = 39 ∧ j = 3) ∨ (q = 39 ∧ j = 4)) FI (fun q j h => (h.elim (fun h => (Or.inl h)) (fun h => (Or.inr (Or.inl h))))) g11
  have t14 := (g11 23 1).resolve_left (fun h => h.elim (fun h => absurd h.2 (by decide)) (fun h => absurd h.2 (by decide)))
  have t15 := (g11 23 5).resolve_left (fun h => h.elim (fun h => absurd h.2 (by decide)) (fun h => absurd h.2 (by decide)))
  have t16 := (g11 23 6).resolve_left (fun h => h.elim (fun h => absurd h.2 (by decide)) (fun h => absurd h.2 (by decide)))
  have t17 := (g11 23 7).resolve_left (fun h => h.elim (fun h => absurd h.2 (by decide)) (fun h => absurd h.2 (by decide)))
  have t18 := (g11 39 12).resolve_left (fun h => h.elim (fun h => absurd h.2 (by decide)) (fun h => absurd h.2 (by decide)))
  have t19 := (g11 39 15).resolve_left (fun h => h.elim (fun h => absurd h.2 (by decide)) (fun h => absurd h.2 (by decide)))
  have t20 := (g11 4 1).resolve_left (fun h => h.elim (fun h => absurd h.2 (by decide)) (fun h => absurd h.2 (by decide)))
  have t21 := (g11 39 5).resolve_left (fun h => h.elim (fun h => absurd h.2 (by decide)) (fun h => absurd h.2 (by decide)))
  have t22 := (g11 1 18).resolve_left (fun h => h.elim (fun h => absurd h.2 (by decide)) (fun h => absurd h.2 (by decide)))
  obtain rfl : J = J13 := funext fun q => funext fun j => ((k11 q j).resolve_left id).symm
  have KLT_I12 := gc_LT_fr KLT_I ((g11 23 5).resolve_left (fun h => h.elim (fun h => absurd h.2 (by decide)) (fun h => absurd h.2 (by decide)))) ((g11 23 6).resolve_left (fun h => h.elim (fun h => absurd h.2 (by decide)) (fun h => absurd h.2 (by decide)))) ((g11 23 7).resolve_left (fun h => h.elim (fun h => absurd h.2 (by decide)) (fun h => absurd h.2 (by decide)))) (fun k => (g11 24 k).resolve_left (fun h => h.elim (fun h => absurd h.1 (by decide)) (fun h => absurd h.1 (by decide))))
  have KTK_I12 := gc_TK_fr KTK_I ((g11 23 1).resolve_left (fun h => h.elim (fun h => absurd h.2 (by decide)) (fun h => absurd h.2 (by decide)))) ((g11 23 5).resolve_left (fun h => h.elim (fun h => absurd h.2 (by decide)) (fun h => absurd h.2 (by decide)))) ((g11 23 6).resolve_left (fun h => h.elim (fun h => absurd h.2 (by decide)) (fun h => absurd h.2 (by decide)))) ((g11 23 7).resolve_left (fun h => h.elim (fun h => absurd h.2 (by decide)) (fun h => absurd h.2 (by decide))))
  have KMS_I12 := gc_MS_fr KMS_I (Int.le_of_eq ((g11 4 1).resolve_left (fun h => h.elim (fun h => absurd h.2 (by decide)) (fun h => absurd h.2 (by decide)))).symm) (fun k => (g11 12 k).resolve_left (fun h => h.elim (fun h => absurd h.1 (by decide)) (fun h => absurd h.1 (by decide)))) (fun k => (g11 15 k).resolve_left (fun h => h.elim (fun h => absurd h.1 (by decide)) (fun h => absurd h.1 (by decide)))) (fun k => (g11 16 k).resolve_left (fun h => h.elim (fun h => absurd h.1 (by decide)) (fun h => absurd h.1 (by decide))))
  have A23 := gc_AT_I x0 ((g11 23 1).resolve_left (fun h => h.elim (fun h => absurd h.2 (by decide)) (fun h => absurd h.2 (by decide)))) ((g11 23 5).resolve_left (fun h => h.elim (fun h => absurd h.2 (by decide)) (fun h => absurd h.2 (by decide)))) ((g11 23 6).resolve_left (fun h => h.elim (fun h => absurd h.2 (by decide)) (fun h => absurd h.2 (by decide)))) ((g11 23 7).resolve_left (fun h => h.elim (fun h => absurd h.2 (by decide)) (fun h => absurd h.2 (by decide)))) ((g11 23 8).resolve_left (fun h => h.elim (fun h => absurd h.2 (by decide)) (fun h => absurd h.2 (by decide)))) (fun k => (g11 24 k).resolve_left (fun h => h.elim (fun h => absurd h.1 (by decide)) (fun h => absurd h.1 (by decide))))
  have t24 := gc_AT_l A23
  refine gv_callV hD rfl (As := [.inr (.inr (some 4))]) (st := []) rfl B_39 S_39 rfl (gc_lV6 hws rfl) (Nat.le_of_ble_eq_true rfl) (gz_Ev_mono (d := 3) (by decide) E11) ?_
  show gv_X _ _ (11, [(0, .inr (.inr (some 39)))], [.inl z11], sh, gc_h sh I12 J A)
  refine gv_if_ne (t := 16) hD rfl rfl ⟨by omega, by omega⟩ (fun c25 => ?_) (fun c25 => ?_)
  · show gv_X _ _ (16, [(0, .inr (.inr (some 39)))], [], sh, gc_h sh I12 J A)
    have u26 := gs_or1 q11.2.2.2 (by omega)
    have L11 : gs_T β η p9 = 1 → gc_fd (J (4 + 1)) (gs_M β η p9) (Int.toNat (I 4 1)) = gs_lk Ir Jr 3 3 (gs_rn β η p9) := (fun h => by exact gs_NA_lk x6 x5 h)
    have t27 := L11 (by omega)
    refine gv_run 1 true hD (pc' := 17) (lv' := [(0, .inr (.inr (some 39)))]) (st' := [.inr (.inr (some 39))]) (h' := gc_h sh I12 J A) (C := (True ∧ True)) rfl ⟨trivial, trivial⟩ ?_
    refine gv_get hD rfl rfl S_39 ⟨by decide, B_39⟩ (gc_hA S_39 rfl A_39_0) ?_
    show gv_X _ _ (20, [(0, .inr (.inr (some 39)))], [.inr (.inr (some 1))], sh, gc_h sh I12 J A)
    refine gv_get hD rfl rfl S_1 ⟨by decide, B_1⟩ (gc_hA S_1 rfl A_1_1) ?_
    show gv_X _ _ (23, [(0, .inr (.inr (some 39)))], [.inr (.inr (some 4))], sh, gc_h sh I12 J A)
    refine gv_run 1 true hD (pc' := 24) (lv' := [(0, .inr (.inr (some 39)))]) (st' := [.inr (.inr (some 39)), .inr (.inr (some 4))]) (h' := gc_h sh I12 J A) (C := (True ∧ True)) rfl ⟨trivial, trivial⟩ ?_
    refine gv_get hD rfl rfl S_39 ⟨by decide, B_39⟩ (gc_hA S_39 rfl A_39_1) ?_
    show gv_X _ _ (27, [(0, .inr (.inr (some 39)))], [.inr (.inr (some 23)), .inr (.inr (some 4))], sh, gc_h sh I12 J A)
    refine gv_get hD rfl rfl S_23 ⟨by decide, B_23⟩ (gc_hJ S_23 rfl) ?_
    show gv_X _ _ (30, [(0, .inr (.inr (some 39)))], [.inr (.inl (J 23 9)), .inr (.inr (some 4))], sh, gc_h sh I12 J A)
    obtain ⟨r28, h28, E28, P28⟩ := d_X4_find (ws0 := ws0) (tb := tb) hws htb sh ro I12 J A hI12 4 96 11 (J 23 9) (gc_b4 hb)     
    obtain ⟨rfl, ⟨z28, rfl, q28⟩⟩ := P28
    have t29 : z28 = gs_lk Ir Jr 3 3 (gs_rn β η p9) := q28.2.2.2.trans (by rw [gc_AT_m A23 (by omega)]; exact (show gs_T β η p9 = 1 → gc_fd (J (4 + 1)) (gs_M β η p9) (Int.toNat (I12 4 1)) = gs_lk Ir Jr 3 3 (gs_rn β η p9) from (fun h => by rw [show I12 4 1 = I 4 1 from ((g11 4 1).resolve_left (fun h => h.elim (fun h => absurd h.2 (by decide)) (fun h => absurd h.2 (by decide))))]; exact gs_NA_lk x6 x5 h)) (by omega))
    have t30 : I 12 (Int.toNat z28) = (Ir 6 (Int.toNat (gs_lk Ir Jr 3 3 (gs_rn β η p9)))) := by rw [← t29]; exact x3 z28 (by omega) (by omega)
    have tE : 0 < I 15 (Int.toNat z28) ↔ 0 ≤ Ir 10 (Int.toNat (gs_lk Ir Jr 3 3 (gs_rn β η p9))) := by rw [← t29]; exact x4 z28 (by omega) (by omega)
    have t31 : I12 15 (Int.toNat z28) = I 15 (Int.toNat z28) := ((g11 15 (Int.toNat z28)).resolve_left (fun h => h.elim (fun h => absurd h.1 (by decide)) (fun h => absurd h.1 (by decide))))
    refine gv_callV hD rfl (As := [.inr (.inl (J 23 9))]) (st := []) rfl B_4 S_4 rfl (gc_lV6 hws rfl) (Nat.le_of_ble_eq_true rfl) (gz_Ev_mono (d := 1) (by decide) E28) ?_
    show gv_X _ _ (33, [(0, .inr (.inr (some 39)))], [.inl z28], sh, gc_h sh I12 J A)
    refine gv_run 2 true hD (pc' := 35) (lv' := [(1, .inl z28), (0, .inr (.inr (some 39)))]) (st' := [.inr (.inr (some 39))]) (h' := gc_h sh I12 J A) (C := ((True ∧ True) ∧ True)) rfl ⟨⟨trivial, trivial⟩, trivial⟩ ?_
    refine gv_get hD rfl rfl S_39 ⟨by decide, B_39⟩ (gc_hA S_39 rfl A_39_0) ?_
    show gv_X _ _ (38, [(1, .inl z28), (0, .inr (.inr (some 39)))], [.inr (.inr (some 1))], sh, gc_h sh I12 J A)
    refine gv_get hD rfl rfl S_1 ⟨by decide, B_1⟩ (gc_hA S_1 rfl A_1_10) ?_
    show gv_X _ _ (41, [(1, .inl z28), (0, .inr (.inr (some 39)))], [.inr (.inr (some 15))], sh, gc_h sh I12 J A)
    refine gv_run 1 true hD (pc' := 42) (lv' := [(1, .inl z28), (0, .inr (.inr (some 39)))]) (st' := [.inl z28, .inr (.inr (some 15))]) (h' := gc_h sh I12 J A) (C := (True ∧ True)) rfl ⟨trivial, trivial⟩ ?_
    have f32 := (show 0 ≤ I12 15 (Int.toNat z28) ∧ I12 15 (Int.toNat z28) ≤ 40 from gc_in hI12 R_15 rfl rfl)
    refine gv_iald hD rfl S_15 rfl ⟨by decide, B_15⟩ ⟨by omega, by omega⟩ (gc_iI S_15 rfl) ?_
    show gv_X _ _ (43, [(1, .inl z28), (0, .inr (.inr (some 39)))], [.inl (I12 15 (Int.toNat z28))], sh, gc_h sh I12 J A)
    refine gv_if_le (t := 59) hD rfl rfl ⟨by omega, by omega⟩ (fun c33 => ?_) (fun c33 => ?_)
    · show gv_X _ _ (59, [(1, .inl z28), (0, .inr (.inr (some 39)))], [], sh, gc_h sh I12 J A)
      have tM : ¬ 0 ≤ Ir 10 (Int.toNat (gs_lk Ir Jr 3 3 (gs_rn β η p9))) := fun h => absurd (tE.mpr h) (by omega)
      clear tE
      have t34 := (show I 15 (Int.toNat z28) ≤ 0 from by have h9 := FI12 15 (Int.toNat z28); omega)
      refine gv_run 1 true hD (pc' := 60) (lv' := [(1, .inl z28), (0, .inr (.inr (some 39)))]) (st' := [.inr (.inr (some 39))]) (h' := gc_h sh I12 J A) (C := (True ∧ True)) rfl ⟨trivial, trivial⟩ ?_
      refine gv_get hD rfl rfl S_39 ⟨by decide, B_39⟩ (gc_hA S_39 rfl A_39_1) ?_
      show gv_X _ _ (63, [(1, .inl z28), (0, .inr (.inr (some 39)))], [.inr (.inr (some 23))], sh, gc_h sh I12 J A)
      have t36 := gc_TK_nx KTK_I12 (by omega)
      have t37 := gc_TK_st KTK_I12 (by omega)
      obtain ⟨r35, h35, E35, P35⟩ := d_X9_advance_p (ws0 := ws0) (tb := tb) hws htb sh ro I12 J A hI12 23 β η  (gc_b23 hb)    (by omega) A23.1.1 A23.1.2 
      obtain ⟨I38, J39, rfl, hI38, g35, k35, ⟨rfl, V35_0, V35_1, V35_2, V35_3, V35_4, q35⟩⟩ := P35
      have FI38 := gc_frc (W := fun q j => (q = 39 ∧ j = 3) ∨ (q = 39 ∧ j = 4) ∨ (q = 23 ∧ j = 5) ∨ (q = 23 ∧ j = 6) ∨ (q = 23 ∧ j = 7) ∨ (q = 23 ∧ j = 8) ∨ (q = 39 ∧ j = 12) ∨ (q = 39 ∧ j = 15) ∨ q = 43 ∨ (q = 15 ∧ (I 15 j ≤ 0)) ∨ (q = 16 ∧ (I 15 (j / 40) ≤ 0))) (V := fun q j => (q = 23 ∧ j = 5) ∨ (q = 23 ∧ j = 6) ∨ (q = 23 ∧ j = 7) ∨ (q = 23 ∧ j = 8)) FI12 (fun q j h => (h.elim (fun h => (Or.inr (Or.inr (Or.inl h)))) (fun h => (h.elim (fun h => (Or.inr (Or.inr (Or.inr (Or.inl h))))) (fun h => (h.elim (fun h => (Or.inr (Or.inr (Or.inr (Or.inr (Or.inl h)))))) (fun h => (Or.inr (Or.inr (Or.inr (Or.inr (Or.inr (Or.inl h))))))))))))) g35
      have FJ39 := gc_frc (W := fun q j => (q = 23 ∧ j = 9) ∨ q = 44 ∨ q = 45 ∨ q = 17) (V := fun q j => (q = 23 ∧ j = 9)) FJ (fun q j h => (Or.inl h)) k35
      have t40 := (g35 23 1).resolve_left (fun h => h.elim (fun h => absurd h.2 (by decide)) (fun h => h.elim (fun h => absurd h.2 (by decide)) (fun h => h.elim (fun h => absurd h.2 (by decide)) (fun h => absurd h.2 (by decide)))))
      have t41 := (g35 39 12).resolve_left (fun h => h.elim (fun h => absurd h.2 (by decide)) (fun h => h.elim (fun h => absurd h.2 (by decide)) (fun h => h.elim (fun h => absurd h.2 (by decide)) (fun h => absurd h.2 (by decide)))))
      have t42 := (g35 39 15).resolve_left (fun h => h.elim (fun h => absurd h.2 (by decide)) (fun h => h.elim (fun h => absurd h.2 (by decide)) (fun h => h.elim (fun h => absurd h.2 (by decide)) (fun h => absurd h.2 (by decide)))))
      have t43 := (g35 4 1).resolve_left (fun h => h.elim (fun h => absurd h.2 (by decide)) (fun h => h.elim (fun h => absurd h.2 (by decide)) (fun h => h.elim (fun h => absurd h.2 (by decide)) (fun h => absurd h.2 (by decide)))))
      have t44 := (g35 39 5).resolve_left (fun h => h.elim (fun h => absurd h.1 (by decide)) (fun h => h.elim (fun h => absurd h.2 (by decide)) (fun h => h.elim (fun h => absurd h.2 (by decide)) (fun h => absurd h.2 (by decide)))))
      have t45 := (g35 1 18).resolve_left (fun h => h.elim (fun h => absurd h.2 (by decide)) (fun h => h.elim (fun h => absurd h.2 (by decide)) (fun h => h.elim (fun h => absurd h.2 (by decide)) (fun h => absurd h.2 (by decide)))))
      have f46 := (show 0 ≤ I38 23 5 ∧ I38 23 5 ≤ 1000 from gc_in hI38 R_23 rfl rfl)
      have f47 := (show 0 ≤ I38 23 6 ∧ I38 23 6 ≤ 1001 from gc_in hI38 R_23 rfl rfl)
      have f48 := (show 0 ≤ I38 23 7 ∧ I38 23 7 ≤ 125 from gc_in hI38 R_23 rfl rfl)
      have KLT_I38 : gc_LT I38 := q35.2.2.1
      have KMS_I38 := gc_MS_fr KMS_I12 (Int.le_of_eq ((g35 4 1).resolve_left (fun h => h.elim (fun h => absurd h.2 (by decide)) (fun h => h.elim (fun h => absurd h.2 (by decide)) (fun h => h.elim (fun h => absurd h.2 (by decide)) (fun h => absurd h.2 (by decide)))))).symm) (fun k => (g35 12 k).resolve_left (fun h => h.elim (fun h => absurd h.1 (by decide)) (fun h => h.elim (fun h => absurd h.1 (by decide)) (fun h => h.elim (fun h => absurd h.1 (by decide)) (fun h => absurd h.1 (by decide)))))) (fun k => (g35 15 k).resolve_left (fun h => h.elim (fun h => absurd h.1 (by decide)) (fun h => h.elim (fun h => absurd h.1 (by decide)) (fun h => h.elim (fun h => absurd h.1 (by decide)) (fun h => absurd h.1 (by decide)))))) (fun k => (g35 16 k).resolve_left (fun h => h.elim (fun h => absurd h.1 (by decide)) (fun h => h.elim (fun h => absurd h.1 (by decide)) (fun h => h.elim (fun h => absurd h.1 (by decide)) (fun h => absurd h.1 (by decide))))))
      have KTK_I38 : gc_TK I38 := And.intro V35_0 (And.intro V35_1 (And.intro V35_2 (And.intro V35_3 V35_4)))
      have t49 := gc_TK_mo KTK_I38
      clear V35_0 V35_1 V35_2 V35_3 V35_4
      have A50 := gc_AT_nx A23 q35.2.2.2
      have t51 := gc_AT_l A50
      refine gv_callV hD rfl (As := []) (st := []) rfl B_23 S_23 rfl (gc_lV6 hws rfl) (Nat.le_of_ble_eq_true rfl) (gz_Ev_mono (d := 2) (by decide) E35) ?_
      show gv_X _ _ (66, [(1, .inl z28), (0, .inr (.inr (some 39)))], [], sh, gc_h sh I38 J39 A)
      refine gv_run 2 true hD (pc' := 68) (lv' := [(1, .inl z28), (0, .inr (.inr (some 39)))]) (st' := [.inl 0, .inr (.inr (some 39))]) (h' := gc_h sh I38 J39 A) (C := ((True ∧ True) ∧ True)) rfl ⟨⟨trivial, trivial⟩, trivial⟩ ?_
      refine gv_put hD rfl rfl S_39 ⟨by decide, B_39⟩ rfl trivial ?_
      refine gc_st (k := 12) hI38 S_39 rfl R_39 (lo := 0) (hi := 2000) rfl rfl (by omega) (by omega) (fun I52 hI52 q53 p53 => ?_)
      have FI52 := gc_frs (W := fun q j => (q = 39 ∧ j = 3) ∨ (q = 39 ∧ j = 4) ∨ (q = 23 ∧ j = 5) ∨ (q = 23 ∧ j = 6) ∨ (q = 23 ∧ j = 7) ∨ (q = 23 ∧ j = 8) ∨ (q = 39 ∧ j = 12) ∨ (q = 39 ∧ j = 15) ∨ q = 43 ∨ (q = 15 ∧ (I 15 j ≤ 0)) ∨ (q = 16 ∧ (I 15 (j / 40) ≤ 0))) FI38 (Or.inr (Or.inr (Or.inr (Or.inr (Or.inr (Or.inr (Or.inl ⟨rfl, rfl⟩))))))) p53
      have t54 := p53 23 1 (fun h => absurd h.2 (by decide))
      have t55 := p53 23 5 (fun h => absurd h.2 (by decide))
      have t56 := p53 23 6 (fun h => absurd h.2 (by decide))
      have t57 := p53 23 7 (fun h => absurd h.2 (by decide))
      have t58 := p53 39 15 (fun h => absurd h.2 (by decide))
      have t59 := p53 4 1 (fun h => absurd h.2 (by decide))
      have t60 := p53 39 5 (fun h => absurd h.2 (by decide))
      have t61 := p53 1 18 (fun h => absurd h.2 (by decide))
      have f62 := (show 0 ≤ I52 39 12 ∧ I52 39 12 ≤ 2000 from gc_in hI52 R_39 rfl rfl)
      have KLT_I52 := gc_LT_fr KLT_I38 (p53 23 5 (fun h => absurd h.2 (by decide))) (p53 23 6 (fun h => absurd h.2 (by decide))) (p53 23 7 (fun h => absurd h.2 (by decide))) (fun k => p53 24 k (fun h => absurd h.1 (by decide)))
      have KTK_I52 := gc_TK_fr KTK_I38 (p53 23 1 (fun h => absurd h.2 (by decide))) (p53 23 5 (fun h => absurd h.2 (by decide))) (p53 23 6 (fun h => absurd h.2 (by decide))) (p53 23 7 (fun h => absurd h.2 (by decide)))
      have KMS_I52 := gc_MS_fr KMS_I38 (Int.le_of_eq (p53 4 1 (fun h => absurd h.2 (by decide))).symm) (fun k => p53 12 k (fun h => absurd h.1 (by decide))) (fun k => p53 15 k (fun h => absurd h.1 (by decide))) (fun k => p53 16 k (fun h => absurd h.1 (by decide)))
      have KTO_I52 : gc_TO (-3 - I 12 (Int.toNat z28)) I52 := (gc_TO_0 (by omega))
      have A63 := gc_AT_I A50 (p53 23 1 (fun h => absurd h.2 (by decide))) (p53 23 5 (fun h => absurd h.2 (by decide))) (p53 23 6 (fun h => absurd h.2 (by decide))) (p53 23 7 (fun h => absurd h.2 (by decide))) (p53 23 8 (fun h => absurd h.2 (by decide))) (fun k => p53 24 k (fun h => absurd h.1 (by decide)))
      show gv_X _ _ (71, [(1, .inl z28), (0, .inr (.inr (some 39)))], [], sh, gc_h sh I52 J39 A)
      refine gv_run 2 true hD (pc' := 73) (lv' := [(1, .inl z28), (0, .inr (.inr (some 39)))]) (st' := [.inl 0, .inr (.inr (some 39))]) (h' := gc_h sh I52 J39 A) (C := ((True ∧ True) ∧ True)) rfl ⟨⟨trivial, trivial⟩, trivial⟩ ?_
      refine gv_put hD rfl rfl S_39 ⟨by decide, B_39⟩ rfl trivial ?_
      refine gc_st (k := 15) hI52 S_39 rfl R_39 (lo := 0) (hi := 41) rfl rfl (by omega) (by omega) (fun I64 hI64 q65 p65 => ?_)
      have FI64 := gc_frs (W := fun q j => (q = 39 ∧ j = 3) ∨ (q = 39 ∧ j = 4) ∨ (q = 23 ∧ j = 5) ∨ (q = 23 ∧ j = 6) ∨ (q = 23 ∧ j = 7) ∨ (q = 23 ∧ j = 8) ∨ (q = 39 ∧ j = 12) ∨ (q = 39 ∧ j = 15) ∨ q = 43 ∨ (q = 15 ∧ (I 15 j ≤ 0)) ∨ (q = 16 ∧ (I 15 (j / 40) ≤ 0))) FI52 (Or.inr (Or.inr (Or.inr (Or.inr (Or.inr (Or.inr (Or.inr (Or.inl ⟨rfl, rfl⟩)))))))) p65
      have t66 := p65 23 1 (fun h => absurd h.2 (by decide))
      have t67 := p65 23 5 (fun h => absurd h.2 (by decide))
      have t68 := p65 23 6 (fun h => absurd h.2 (by decide))
      have t69 := p65 23 7 (fun h => absurd h.2 (by decide))
      have t70 := p65 39 12 (fun h => absurd h.2 (by decide))
      have t71 := p65 4 1 (fun h => absurd h.2 (by decide))
      have t72 := p65 39 5 (fun h => absurd h.2 (by decide))
      have t73 := p65 1 18 (fun h => absurd h.2 (by decide))
      have f74 := (show 0 ≤ I64 39 15 ∧ I64 39 15 ≤ 41 from gc_in hI64 R_39 rfl rfl)
      have KLT_I64 := gc_LT_fr KLT_I52 (p65 23 5 (fun h => absurd h.2 (by decide))) (p65 23 6 (fun h => absurd h.2 (by decide))) (p65 23 7 (fun h => absurd h.2 (by decide))) (fun k => p65 24 k (fun h => absurd h.1 (by decide)))
      have KTK_I64 := gc_TK_fr KTK_I52 (p65 23 1 (fun h => absurd h.2 (by decide))) (p65 23 5 (fun h => absurd h.2 (by decide))) (p65 23 6 (fun h => absurd h.2 (by decide))) (p65 23 7 (fun h => absurd h.2 (by decide)))
      have KMS_I64 := gc_MS_fr KMS_I52 (Int.le_of_eq (p65 4 1 (fun h => absurd h.2 (by decide))).symm) (fun k => p65 12 k (fun h => absurd h.1 (by decide))) (fun k => p65 15 k (fun h => absurd h.1 (by decide))) (fun k => p65 16 k (fun h => absurd h.1 (by decide)))
      have KTO_I64 := gc_TO_fr KTO_I52 (p65 39 12 (fun h => absurd h.2 (by decide))) (fun k => p65 43 k (fun h => absurd h.1 (by decide)))
      have A75 := gc_AT_I A63 (p65 23 1 (fun h => absurd h.2 (by decide))) (p65 23 5 (fun h => absurd h.2 (by decide))) (p65 23 6 (fun h => absurd h.2 (by decide))) (p65 23 7 (fun h => absurd h.2 (by decide))) (p65 23 8 (fun h => absurd h.2 (by decide))) (fun k => p65 24 k (fun h => absurd h.1 (by decide)))
      show gv_X _ _ (76, [(1, .inl z28), (0, .inr (.inr (some 39)))], [], sh, gc_h sh I64 J39 A)
      refine gv_run 2 true hD (pc' := 79) (lv' := [(1, .inl z28), (0, .inr (.inr (some 39)))]) (st' := [.inl 61, .inr (.inr (some 39))]) (h' := gc_h sh I64 J39 A) (C := ((True ∧ True) ∧ True)) rfl ⟨⟨trivial, trivial⟩, trivial⟩ ?_
      obtain ⟨r76, h76, E76, P76⟩ := d_X6_take_p (ws0 := ws0) (tb := tb) hws htb sh ro I64 J39 A hI64  β η (gs_X β η p9) 61 hb   ⟨by omega, by omega⟩ (by omega) A75 (by omega) KLT_I64 KTK_I64
      obtain ⟨I77, J78, rfl, hI77, g76, k76, KLT_I77, KTK_I77, ⟨z76, rfl, q76⟩⟩ := P76
      have FI77 := gc_frc (W := fun q j => (q = 39 ∧ j = 3) ∨ (q = 39 ∧ j = 4) ∨ (q = 23 ∧ j = 5) ∨ (q = 23 ∧ j = 6) ∨ (q = 23 ∧ j = 7) ∨ (q = 23 ∧ j = 8) ∨ (q = 39 ∧ j = 12) ∨ (q = 39 ∧ j = 15) ∨ q = 43 ∨ (q = 15 ∧ (I 15 j ≤ 0)) ∨ (q = 16 ∧ (I 15 (j / 40) ≤ 0))) (V := fun q j => (q = 39 ∧ j = 3) ∨ (q = 39 ∧ j = 4) ∨ (q = 23 ∧ j = 5) ∨ (q = 23 ∧ j = 6) ∨ (q = 23 ∧ j = 7) ∨ (q = 23 ∧ j = 8)) FI64 (fun q j h => (h.elim (fun h => (Or.inl h)) (fun h => (h.elim (fun h => (Or.inr (Or.inl h))) (fun h => (h.elim (fun h => (Or.inr (Or.inr (Or.inl h)))) (fun h => (h.elim (fun h => (Or.inr (Or.inr (Or.inr (Or.inl h))))) (fun h => (h.elim (fun h => (Or.inr (Or.inr (Or.inr (Or.inr (Or.inl h)))))) (fun h => (Or.inr (Or.inr (Or.inr (Or.inr (Or.inr (Or.inl h))))))))))))))))) g76
      have FJ78 := gc_frc (W := fun q j => (q = 23 ∧ j = 9) ∨ q = 44 ∨ q = 45 ∨ q = 17) (V := fun q j => (q = 23 ∧ j = 9)) FJ39 (fun q j h => (Or.inl h)) k76
      have t79 := (g76 23 1).resolve_left (fun h => h.elim (fun h => absurd h.2 (by decide)) (fun h => h.elim (fun h => absurd h.2 (by decide)) (fun h => h.elim (fun h => absurd h.2 (by decide)) (fun h => h.elim (fun h => absurd h.2 (by decide)) (fun h => h.elim (fun h => absurd h.2 (by decide)) (fun h => absurd h.2 (by decide)))))))
      have t80 := (g76 39 12).resolve_left (fun h => h.elim (fun h => absurd h.2 (by decide)) (fun h => h.elim (fun h => absurd h.2 (by decide)) (fun h => h.elim (fun h => absurd h.2 (by decide)) (fun h => h.elim (fun h => absurd h.2 (by decide)) (fun h => h.elim (fun h => absurd h.2 (by decide)) (fun h => absurd h.2 (by decide)))))))
      have t81 := (g76 39 15).resolve_left (fun h => h.elim (fun h => absurd h.2 (by decide)) (fun h => h.elim (fun h => absurd h.2 (by decide)) (fun h => h.elim (fun h => absurd h.2 (by decide)) (fun h => h.elim (fun h => absurd h.2 (by decide)) (fun h => h.elim (fun h => absurd h.2 (by decide)) (fun h => absurd h.2 (by decide)))))))
      have t82 := (g76 4 1).resolve_left (fun h => h.elim (fun h => absurd h.2 (by decide)) (fun h => h.elim (fun h => absurd h.2 (by decide)) (fun h => h.elim (fun h => absurd h.2 (by decide)) (fun h => h.elim (fun h => absurd h.2 (by decide)) (fun h => h.elim (fun h => absurd h.2 (by decide)) (fun h => absurd h.2 (by decide)))))))
      have t83 := (g76 39 5).resolve_left (fun h => h.elim (fun h => absurd h.2 (by decide)) (fun h => h.elim (fun h => absurd h.2 (by decide)) (fun h => h.elim (fun h => absurd h.1 (by decide)) (fun h => h.elim (fun h => absurd h.2 (by decide)) (fun h => h.elim (fun h => absurd h.2 (by decide)) (fun h => absurd h.2 (by decide)))))))
      have t84 := (g76 1 18).resolve_left (fun h => h.elim (fun h => absurd h.2 (by decide)) (fun h => h.elim (fun h => absurd h.2 (by decide)) (fun h => h.elim (fun h => absurd h.2 (by decide)) (fun h => h.elim (fun h => absurd h.2 (by decide)) (fun h => h.elim (fun h => absurd h.2 (by decide)) (fun h => absurd h.2 (by decide)))))))
      have f85 := (show 0 ≤ I77 23 5 ∧ I77 23 5 ≤ 1000 from gc_in hI77 R_23 rfl rfl)
      have f86 := (show 0 ≤ I77 23 6 ∧ I77 23 6 ≤ 1001 from gc_in hI77 R_23 rfl rfl)
      have f87 := (show 0 ≤ I77 23 7 ∧ I77 23 7 ≤ 125 from gc_in hI77 R_23 rfl rfl)
      have t88 := gc_TK_mo KTK_I77
      have KMS_I77 := gc_MS_fr KMS_I64 (Int.le_of_eq ((g76 4 1).resolve_left (fun h => h.elim (fun h => absurd h.2 (by decide)) (fun h => h.elim (fun h => absurd h.2 (by decide)) (fun h => h.elim (fun h => absurd h.2 (by decide)) (fun h => h.elim (fun h => absurd h.2 (by decide)) (fun h => h.elim (fun h => absurd h.2 (by decide)) (fun h => absurd h.2 (by decide)))))))).symm) (fun k => (g76 12 k).resolve_left (fun h => h.elim (fun h => absurd h.1 (by decide)) (fun h => h.elim (fun h => absurd h.1 (by decide)) (fun h => h.elim (fun h => absurd h.1 (by decide)) (fun h => h.elim (fun h => absurd h.1 (by decide)) (fun h => h.elim (fun h => absurd h.1 (by decide)) (fun h => absurd h.1 (by decide)))))))) (fun k => (g76 15 k).resolve_left (fun h => h.elim (fun h => absurd h.1 (by decide)) (fun h => h.elim (fun h => absurd h.1 (by decide)) (fun h => h.elim (fun h => absurd h.1 (by decide)) (fun h => h.elim (fun h => absurd h.1 (by decide)) (fun h => h.elim (fun h => absurd h.1 (by decide)) (fun h => absurd h.1 (by decide)))))))) (fun k => (g76 16 k).resolve_left (fun h => h.elim (fun h => absurd h.1 (by decide)) (fun h => h.elim (fun h => absurd h.1 (by decide)) (fun h => h.elim (fun h => absurd h.1 (by decide)) (fun h => h.elim (fun h => absurd h.1 (by decide)) (fun h => h.elim (fun h => absurd h.1 (by decide)) (fun h => absurd h.1 (by decide))))))))
      have KTO_I77 := gc_TO_fr KTO_I64 ((g76 39 12).resolve_left (fun h => h.elim (fun h => absurd h.2 (by decide)) (fun h => h.elim (fun h => absurd h.2 (by decide)) (fun h => h.elim (fun h => absurd h.2 (by decide)) (fun h => h.elim (fun h => absurd h.2 (by decide)) (fun h => h.elim (fun h => absurd h.2 (by decide)) (fun h => absurd h.2 (by decide)))))))) (fun k => (g76 43 k).resolve_left (fun h => h.elim (fun h => absurd h.1 (by decide)) (fun h => h.elim (fun h => absurd h.1 (by decide)) (fun h => h.elim (fun h => absurd h.1 (by decide)) (fun h => h.elim (fun h => absurd h.1 (by decide)) (fun h => h.elim (fun h => absurd h.1 (by decide)) (fun h => absurd h.1 (by decide))))))))
      refine gv_callV hD rfl (As := [.inl 61]) (st := []) rfl B_39 S_39 rfl (gc_lV6 hws rfl) (Nat.le_of_ble_eq_true rfl) (gz_Ev_mono (d := 3) (by decide) E76) ?_
      show gv_X _ _ (82, [(1, .inl z28), (0, .inr (.inr (some 39)))], [.inl z76], sh, gc_h sh I77 J78 A)
      refine gv_if_eq (t := 115) hD rfl rfl ⟨by omega, by omega⟩ (fun c89 => ?_) (fun c89 => ?_)
      · show gv_X _ _ (115, [(1, .inl z28), (0, .inr (.inr (some 39)))], [], sh, gc_h sh I77 J78 A)
        obtain ⟨u90, u90_⟩ := gs_or0 q76.2.2.2.2.2 (by omega)
        refine gv_run 1 true hD (pc' := 116) (lv' := [(1, .inl z28), (0, .inr (.inr (some 39)))]) (st' := [.inl 0]) (h' := gc_h sh I77 J78 A) (C := (True ∧ True)) rfl ⟨trivial, trivial⟩ ?_
        exact gv_zret hD rfl (by omega) ⟨I77, J78, rfl, hI77, FI77, FJ78, KLT_I77, KTK_I77, KMS_I77, ⟨_, rfl, by omega, by omega, by omega, by omega, (Or.inr ⟨by omega, by first | (exfalso; omega) | (unfold gs_mn gs_mn0 gs_mn1 gs_mn2; (repeat first | rw [if_pos (by omega)] | rw [if_neg (by omega)]); exact ⟨by omega, by omega, (fun j => ((((((g76 15 j).resolve_left (fun h => h.elim (fun h => absurd h.1 (by decide)) (fun h => h.elim (fun h => absurd h.1 (by decide)) (fun h => h.elim (fun h => absurd h.1 (by decide)) (fun h => h.elim (fun h => absurd h.1 (by decide)) (fun h => h.elim (fun h => absurd h.1 (by decide)) (fun h => absurd h.1 (by decide)))))))).trans (p65 15 j (fun h => absurd h.1 (by decide)))).trans (p53 15 j (fun h => absurd h.1 (by decide)))).trans ((g35 15 j).resolve_left (fun h => h.elim (fun h => absurd h.1 (by decide)) (fun h => h.elim (fun h => absurd h.1 (by decide)) (fun h => h.elim (fun h => absurd h.1 (by decide)) (fun h => absurd h.1 (by decide))))))).trans ((g11 15 j).resolve_left (fun h => h.elim (fun h => absurd h.1 (by decide)) (fun h => absurd h.1 (by decide))))))⟩)⟩)⟩⟩
      · show gv_X _ _ (85, [(1, .inl z28), (0, .inr (.inr (some 39)))], [], sh, gc_h sh I77 J78 A)
        obtain ⟨u91, A91⟩ := gs_or1 q76.2.2.2.2.2 (by omega)
        have t92 := gc_AT_l A91
        refine gv_run 3 true hD (pc' := 88) (lv' := [(1, .inl z28), (0, .inr (.inr (some 39)))]) (st' := [.inl 1, .inl z28, .inr (.inr (some 39))]) (h' := gc_h sh I77 J78 A) (C := (((True ∧ True) ∧ True) ∧ True)) rfl ⟨⟨⟨trivial, trivial⟩, trivial⟩, trivial⟩ ?_
        have t93 := (FI77 12 (Int.toNat z28)).resolve_left (by omega)
        have t94 := (show 0 ≤ I 12 (Int.toNat z28) ∧ I 12 (Int.toNat z28) ≤ 4 from gc_in hI R_12 rfl rfl)
        obtain ⟨r95, h95, E95, P95⟩ := d_X6_readTerm_p (ws0 := ws0) (tb := tb) hws htb sh ro A  ((-3 - I 12 (Int.toNat z28))) β η ((Ir 6 (Int.toNat (gs_lk Ir Jr 3 3 (gs_rn β η p9)))))  hb   42 I77 J78 hI77 z28 1 ((gs_need β η 61 (gs_X β η p9))) 4100 ⟨by omega, by omega⟩ ⟨by omega, by omega⟩ (by omega) (by omega) (by omega) (by omega) A91 (by omega) (by omega) (by omega) KLT_I77 KTK_I77 KTO_I77 (by omega)
        obtain ⟨I96, J97, rfl, hI96, g95, k95, KLT_I96, KTK_I96, KTO_I96, ⟨z95, rfl, q95⟩⟩ := P95
        have FI96 := gc_frc (W := fun q j => (q = 39 ∧ j = 3) ∨ (q = 39 ∧ j = 4) ∨ (q = 23 ∧ j = 5) ∨ (q = 23 ∧ j = 6) ∨ (q = 23 ∧ j = 7) ∨ (q = 23 ∧ j = 8) ∨ (q = 39 ∧ j = 12) ∨ (q = 39 ∧ j = 15) ∨ q = 43 ∨ (q = 15 ∧ (I 15 j ≤ 0)) ∨ (q = 16 ∧ (I 15 (j / 40) ≤ 0))) (V := fun q j => (q = 39 ∧ j = 3) ∨ (q = 39 ∧ j = 4) ∨ (q = 23 ∧ j = 5) ∨ (q = 23 ∧ j = 6) ∨ (q = 23 ∧ j = 7) ∨ (q = 23 ∧ j = 8) ∨ (q = 39 ∧ j = 12) ∨ (q = 39 ∧ j = 15) ∨ q = 43) FI77 (fun q j h => (h.elim (fun h => (Or.inl h)) (fun h => (h.elim (fun h => (Or.inr (Or.inl h))) (fun h => (h.elim (fun h => (Or.inr (Or.inr (Or.inl h)))) (fun h => (h.elim (fun h => (Or.inr (Or.inr (Or.inr (Or.inl h))))) (fun h => (h.elim (fun h => (Or.inr (Or.inr (Or.inr (Or.inr (Or.inl h)))))) (fun h => (h.elim (fun h => (Or.inr (Or.inr (Or.inr (Or.inr (Or.inr (Or.inl h))))))) (fun h => (h.elim (fun h => (Or.inr (Or.inr (Or.inr (Or.inr (Or.inr (Or.inr (Or.inl h)))))))) (fun h => (h.elim (fun h => (Or.inr (Or.inr (Or.inr (Or.inr (Or.inr (Or.inr (Or.inr (Or.inl h))))))))) (fun h => (Or.inr (Or.inr (Or.inr (Or.inr (Or.inr (Or.inr (Or.inr (Or.inr (Or.inl h)))))))))))))))))))))))))) g95
        have FJ97 := gc_frc (W := fun q j => (q = 23 ∧ j = 9) ∨ q = 44 ∨ q = 45 ∨ q = 17) (V := fun q j => (q = 23 ∧ j = 9) ∨ q = 44 ∨ q = 45) FJ78 (fun q j h => (h.elim (fun h => (Or.inl h)) (fun h => (h.elim (fun h => (Or.inr (Or.inl h))) (fun h => (Or.inr (Or.inr (Or.inl h)))))))) k95
        have t98 := (g95 23 1).resolve_left (fun h => h.elim (fun h => absurd h.2 (by decide)) (fun h => h.elim (fun h => absurd h.2 (by decide)) (fun h => h.elim (fun h => absurd h.2 (by decide)) (fun h => h.elim (fun h => absurd h.2 (by decide)) (fun h => h.elim (fun h => absurd h.2 (by decide)) (fun h => h.elim (fun h => absurd h.2 (by decide)) (fun h => h.elim (fun h => absurd h.2 (by decide)) (fun h => h.elim (fun h => absurd h.2 (by decide)) (fun h => absurd h (by decide))))))))))
        have t99 := (g95 4 1).resolve_left (fun h => h.elim (fun h => absurd h.2 (by decide)) (fun h => h.elim (fun h => absurd h.2 (by decide)) (fun h => h.elim (fun h => absurd h.2 (by decide)) (fun h => h.elim (fun h => absurd h.2 (by decide)) (fun h => h.elim (fun h => absurd h.2 (by decide)) (fun h => h.elim (fun h => absurd h.2 (by decide)) (fun h => h.elim (fun h => absurd h.2 (by decide)) (fun h => h.elim (fun h => absurd h.2 (by decide)) (fun h => absurd h (by decide))))))))))
        have t100 := (g95 39 5).resolve_left (fun h => h.elim (fun h => absurd h.2 (by decide)) (fun h => h.elim (fun h => absurd h.2 (by decide)) (fun h => h.elim (fun h => absurd h.1 (by decide)) (fun h => h.elim (fun h => absurd h.2 (by decide)) (fun h => h.elim (fun h => absurd h.2 (by decide)) (fun h => h.elim (fun h => absurd h.2 (by decide)) (fun h => h.elim (fun h => absurd h.2 (by decide)) (fun h => h.elim (fun h => absurd h.2 (by decide)) (fun h => absurd h (by decide))))))))))
        have t101 := (g95 1 18).resolve_left (fun h => h.elim (fun h => absurd h.2 (by decide)) (fun h => h.elim (fun h => absurd h.2 (by decide)) (fun h => h.elim (fun h => absurd h.2 (by decide)) (fun h => h.elim (fun h => absurd h.2 (by decide)) (fun h => h.elim (fun h => absurd h.2 (by decide)) (fun h => h.elim (fun h => absurd h.2 (by decide)) (fun h => h.elim (fun h => absurd h.2 (by decide)) (fun h => h.elim (fun h => absurd h.2 (by decide)) (fun h => absurd h (by decide))))))))))
        have f102 := (show 0 ≤ I96 23 5 ∧ I96 23 5 ≤ 1000 from gc_in hI96 R_23 rfl rfl)
        have f103 := (show 0 ≤ I96 23 6 ∧ I96 23 6 ≤ 1001 from gc_in hI96 R_23 rfl rfl)
        have f104 := (show 0 ≤ I96 23 7 ∧ I96 23 7 ≤ 125 from gc_in hI96 R_23 rfl rfl)
        have f105 := (show 0 ≤ I96 39 12 ∧ I96 39 12 ≤ 2000 from gc_in hI96 R_39 rfl rfl)
        have f106 := (show 0 ≤ I96 39 15 ∧ I96 39 15 ≤ 41 from gc_in hI96 R_39 rfl rfl)
        have t107 := gc_TK_mo KTK_I96
        have KMS_I96 := gc_MS_fr KMS_I77 (Int.le_of_eq ((g95 4 1).resolve_left (fun h => h.elim (fun h => absurd h.2 (by decide)) (fun h => h.elim (fun h => absurd h.2 (by decide)) (fun h => h.elim (fun h => absurd h.2 (by decide)) (fun h => h.elim (fun h => absurd h.2 (by decide)) (fun h => h.elim (fun h => absurd h.2 (by decide)) (fun h => h.elim (fun h => absurd h.2 (by decide)) (fun h => h.elim (fun h => absurd h.2 (by decide)) (fun h => h.elim (fun h => absurd h.2 (by decide)) (fun h => absurd h (by decide))))))))))).symm) (fun k => (g95 12 k).resolve_left (fun h => h.elim (fun h => absurd h.1 (by decide)) (fun h => h.elim (fun h => absurd h.1 (by decide)) (fun h => h.elim (fun h => absurd h.1 (by decide)) (fun h => h.elim (fun h => absurd h.1 (by decide)) (fun h => h.elim (fun h => absurd h.1 (by decide)) (fun h => h.elim (fun h => absurd h.1 (by decide)) (fun h => h.elim (fun h => absurd h.1 (by decide)) (fun h => h.elim (fun h => absurd h.1 (by decide)) (fun h => absurd h (by decide))))))))))) (fun k => (g95 15 k).resolve_left (fun h => h.elim (fun h => absurd h.1 (by decide)) (fun h => h.elim (fun h => absurd h.1 (by decide)) (fun h => h.elim (fun h => absurd h.1 (by decide)) (fun h => h.elim (fun h => absurd h.1 (by decide)) (fun h => h.elim (fun h => absurd h.1 (by decide)) (fun h => h.elim (fun h => absurd h.1 (by decide)) (fun h => h.elim (fun h => absurd h.1 (by decide)) (fun h => h.elim (fun h => absurd h.1 (by decide)) (fun h => absurd h (by decide))))))))))) (fun k => (g95 16 k).resolve_left (fun h => h.elim (fun h => absurd h.1 (by decide)) (fun h => h.elim (fun h => absurd h.1 (by decide)) (fun h => h.elim (fun h => absurd h.1 (by decide)) (fun h => h.elim (fun h => absurd h.1 (by decide)) (fun h => h.elim (fun h => absurd h.1 (by decide)) (fun h => h.elim (fun h => absurd h.1 (by decide)) (fun h => h.elim (fun h => absurd h.1 (by decide)) (fun h => h.elim (fun h => absurd h.1 (by decide)) (fun h => absurd h (by decide)))))))))))
        refine gv_callV hD rfl (As := [.inl z28, .inl 1]) (st := []) rfl B_39 S_39 rfl (gc_lV6 hws rfl) (Nat.le_of_ble_eq_true rfl) (gz_Ev_mono (d := 90) (by decide) E95) ?_
        show gv_X _ _ (91, [(1, .inl z28), (0, .inr (.inr (some 39)))], [.inl z95], sh, gc_h sh I96 J97 A)
        refine gv_if_eq (t := 115) hD rfl rfl ⟨by omega, by omega⟩ (fun c108 => ?_) (fun c108 => ?_)
        · show gv_X _ _ (115, [(1, .inl z28), (0, .inr (.inr (some 39)))], [], sh, gc_h sh I96 J97 A)
          obtain ⟨u109, U109⟩ := gs_TQc_0 q95.2.2.2.2.2.2.2.2 (by omega)
          refine gv_run 1 true hD (pc' := 116) (lv' := [(1, .inl z28), (0, .inr (.inr (some 39)))]) (st' := [.inl 0]) (h' := gc_h sh I96 J97 A) (C := (True ∧ True)) rfl ⟨trivial, trivial⟩ ?_
          exact gv_zret hD rfl (by omega) ⟨I96, J97, rfl, hI96, FI96, FJ97, KLT_I96, KTK_I96, KMS_I96, ⟨_, rfl, by omega, by omega, by omega, by omega, (Or.inr ⟨by omega, by first | (exfalso; omega) | (unfold gs_mn gs_mn0 gs_mn1 gs_mn2; (repeat first | rw [if_pos (by omega)] | rw [if_neg (by omega)]); exact ⟨by omega, by omega, (fun j => (((((((g95 15 j).resolve_left (fun h => h.elim (fun h => absurd h.1 (by decide)) (fun h => h.elim (fun h => absurd h.1 (by decide)) (fun h => h.elim (fun h => absurd h.1 (by decide)) (fun h => h.elim (fun h => absurd h.1 (by decide)) (fun h => h.elim (fun h => absurd h.1 (by decide)) (fun h => h.elim (fun h => absurd h.1 (by decide)) (fun h => h.elim (fun h => absurd h.1 (by decide)) (fun h => h.elim (fun h => absurd h.1 (by decide)) (fun h => absurd h (by decide))))))))))).trans ((g76 15 j).resolve_left (fun h => h.elim (fun h => absurd h.1 (by decide)) (fun h => h.elim (fun h => absurd h.1 (by decide)) (fun h => h.elim (fun h => absurd h.1 (by decide)) (fun h => h.elim (fun h => absurd h.1 (by decide)) (fun h => h.elim (fun h => absurd h.1 (by decide)) (fun h => absurd h.1 (by decide))))))))).trans (p65 15 j (fun h => absurd h.1 (by decide)))).trans (p53 15 j (fun h => absurd h.1 (by decide)))).trans ((g35 15 j).resolve_left (fun h => h.elim (fun h => absurd h.1 (by decide)) (fun h => h.elim (fun h => absurd h.1 (by decide)) (fun h => h.elim (fun h => absurd h.1 (by decide)) (fun h => absurd h.1 (by decide))))))).trans ((g11 15 j).resolve_left (fun h => h.elim (fun h => absurd h.1 (by decide)) (fun h => absurd h.1 (by decide))))))⟩)⟩)⟩⟩
        · show gv_X _ _ (94, [(1, .inl z28), (0, .inr (.inr (some 39)))], [], sh, gc_h sh I96 J97 A)
          obtain ⟨u110, A110, U110⟩ := gs_TQc_1 q95.2.2.2.2.2.2.2.2 (by omega)
          have t111 := gc_AT_l A110
          refine gv_run 2 true hD (pc' := 96) (lv' := [(1, .inl z28), (0, .inr (.inr (some 39)))]) (st' := [.inr (.inr (some 39)), .inr (.inr (some 39))]) (h' := gc_h sh I96 J97 A) (C := ((True ∧ True) ∧ True)) rfl ⟨⟨trivial, trivial⟩, trivial⟩ ?_
          have f112 := (show 0 ≤ I96 39 12 ∧ I96 39 12 ≤ 2000 from gc_in hI96 R_39 rfl rfl)
          refine gv_get hD rfl rfl S_39 ⟨by decide, B_39⟩ (gc_hI S_39 rfl) ?_
          show gv_X _ _ (99, [(1, .inl z28), (0, .inr (.inr (some 39)))], [.inl (I96 39 12), .inr (.inr (some 39))], sh, gc_h sh I96 J97 A)
          refine gv_run 1 true hD (pc' := 101) (lv' := [(1, .inl z28), (0, .inr (.inr (some 39)))]) (st' := [.inl 40, .inl (I96 39 12), .inr (.inr (some 39))]) (h' := gc_h sh I96 J97 A) (C := (True ∧ True)) rfl ⟨trivial, trivial⟩ ?_
          refine gv_icmp_le (t := 108) hD rfl rfl ⟨⟨by omega, by omega⟩, ⟨by omega, by omega⟩⟩ (fun c113 => ?_) (fun c113 => ?_)
          · show gv_X _ _ (108, [(1, .inl z28), (0, .inr (.inr (some 39)))], [.inr (.inr (some 39))], sh, gc_h sh I96 J97 A)
            refine gv_run 1 true hD (pc' := 109) (lv' := [(1, .inl z28), (0, .inr (.inr (some 39)))]) (st' := [.inl 0, .inr (.inr (some 39))]) (h' := gc_h sh I96 J97 A) (C := (True ∧ True)) rfl ⟨trivial, trivial⟩ ?_
            obtain ⟨r114, h114, E114, P114⟩ := d_X6_closes_p (ws0 := ws0) (tb := tb) hws htb sh ro I96 J97 A hI96  β η ((gs_tm β η (Ir 6 (Int.toNat (gs_lk Ir Jr 3 3 (gs_rn β η p9)))) 4100 0 1 (gs_need β η 61 (gs_X β η p9))).1) 0 hb   ⟨by omega, by omega⟩ A110 (by omega) (by omega) KLT_I96 KTK_I96
            obtain ⟨I115, J116, rfl, hI115, g114, k114, KLT_I115, KTK_I115, ⟨z114, rfl, q114⟩⟩ := P114
            have FI115 := gc_frc (W := fun q j => (q = 39 ∧ j = 3) ∨ (q = 39 ∧ j = 4) ∨ (q = 23 ∧ j = 5) ∨ (q = 23 ∧ j = 6) ∨ (q = 23 ∧ j = 7) ∨ (q = 23 ∧ j = 8) ∨ (q = 39 ∧ j = 12) ∨ (q = 39 ∧ j = 15) ∨ q = 43 ∨ (q = 15 ∧ (I 15 j ≤ 0)) ∨ (q = 16 ∧ (I 15 (j / 40) ≤ 0))) (V := fun q j => (q = 39 ∧ j = 3) ∨ (q = 39 ∧ j = 4) ∨ (q = 23 ∧ j = 5) ∨ (q = 23 ∧ j = 6) ∨ (q = 23 ∧ j = 7) ∨ (q = 23 ∧ j = 8)) FI96 (fun q j h => (h.elim (fun h => (Or.inl h)) (fun h => (h.elim (fun h => (Or.inr (Or.inl h))) (fun h => (h.elim (fun h => (Or.inr (Or.inr (Or.inl h)))) (fun h => (h.elim (fun h => (Or.inr (Or.inr (Or.inr (Or.inl h))))) (fun h => (h.elim (fun h => (Or.inr (Or.inr (Or.inr (Or.inr (Or.inl h)))))) (fun h => (Or.inr (Or.inr (Or.inr (Or.inr (Or.inr (Or.inl h))))))))))))))))) g114
            have FJ116 := gc_frc (W := fun q j => (q = 23 ∧ j = 9) ∨ q = 44 ∨ q = 45 ∨ q = 17) (V := fun q j => (q = 23 ∧ j = 9)) FJ97 (fun q j h => (Or.inl h)) k114
            have t117 := (g114 23 1).resolve_left (fun h => h.elim (fun h => absurd h.2 (by decide)) (fun h => h.elim (fun h => absurd h.2 (by decide)) (fun h => h.elim (fun h => absurd h.2 (by decide)) (fun h => h.elim (fun h => absurd h.2 (by decide)) (fun h => h.elim (fun h => absurd h.2 (by decide)) (fun h => absurd h.2 (by decide)))))))
            have t118 := (g114 39 12).resolve_left (fun h => h.elim (fun h => absurd h.2 (by decide)) (fun h => h.elim (fun h => absurd h.2 (by decide)) (fun h => h.elim (fun h => absurd h.2 (by decide)) (fun h => h.elim (fun h => absurd h.2 (by decide)) (fun h => h.elim (fun h => absurd h.2 (by decide)) (fun h => absurd h.2 (by decide)))))))
            have t119 := (g114 39 15).resolve_left (fun h => h.elim (fun h => absurd h.2 (by decide)) (fun h => h.elim (fun h => absurd h.2 (by decide)) (fun h => h.elim (fun h => absurd h.2 (by decide)) (fun h => h.elim (fun h => absurd h.2 (by decide)) (fun h => h.elim (fun h => absurd h.2 (by decide)) (fun h => absurd h.2 (by decide)))))))
            have t120 := (g114 4 1).resolve_left (fun h => h.elim (fun h => absurd h.2 (by decide)) (fun h => h.elim (fun h => absurd h.2 (by decide)) (fun h => h.elim (fun h => absurd h.2 (by decide)) (fun h => h.elim (fun h => absurd h.2 (by decide)) (fun h => h.elim (fun h => absurd h.2 (by decide)) (fun h => absurd h.2 (by decide)))))))
            have t121 := (g114 39 5).resolve_left (fun h => h.elim (fun h => absurd h.2 (by decide)) (fun h => h.elim (fun h => absurd h.2 (by decide)) (fun h => h.elim (fun h => absurd h.1 (by decide)) (fun h => h.elim (fun h => absurd h.2 (by decide)) (fun h => h.elim (fun h => absurd h.2 (by decide)) (fun h => absurd h.2 (by decide)))))))
            have t122 := (g114 1 18).resolve_left (fun h => h.elim (fun h => absurd h.2 (by decide)) (fun h => h.elim (fun h => absurd h.2 (by decide)) (fun h => h.elim (fun h => absurd h.2 (by decide)) (fun h => h.elim (fun h => absurd h.2 (by decide)) (fun h => h.elim (fun h => absurd h.2 (by decide)) (fun h => absurd h.2 (by decide)))))))
            have f123 := (show 0 ≤ I115 23 5 ∧ I115 23 5 ≤ 1000 from gc_in hI115 R_23 rfl rfl)
            have f124 := (show 0 ≤ I115 23 6 ∧ I115 23 6 ≤ 1001 from gc_in hI115 R_23 rfl rfl)
            have f125 := (show 0 ≤ I115 23 7 ∧ I115 23 7 ≤ 125 from gc_in hI115 R_23 rfl rfl)
            have t126 := gc_TK_mo KTK_I115
            have KMS_I115 := gc_MS_fr KMS_I96 (Int.le_of_eq ((g114 4 1).resolve_left (fun h => h.elim (fun h => absurd h.2 (by decide)) (fun h => h.elim (fun h => absurd h.2 (by decide)) (fun h => h.elim (fun h => absurd h.2 (by decide)) (fun h => h.elim (fun h => absurd h.2 (by decide)) (fun h => h.elim (fun h => absurd h.2 (by decide)) (fun h => absurd h.2 (by decide)))))))).symm) (fun k => (g114 12 k).resolve_left (fun h => h.elim (fun h => absurd h.1 (by decide)) (fun h => h.elim (fun h => absurd h.1 (by decide)) (fun h => h.elim (fun h => absurd h.1 (by decide)) (fun h => h.elim (fun h => absurd h.1 (by decide)) (fun h => h.elim (fun h => absurd h.1 (by decide)) (fun h => absurd h.1 (by decide)))))))) (fun k => (g114 15 k).resolve_left (fun h => h.elim (fun h => absurd h.1 (by decide)) (fun h => h.elim (fun h => absurd h.1 (by decide)) (fun h => h.elim (fun h => absurd h.1 (by decide)) (fun h => h.elim (fun h => absurd h.1 (by decide)) (fun h => h.elim (fun h => absurd h.1 (by decide)) (fun h => absurd h.1 (by decide)))))))) (fun k => (g114 16 k).resolve_left (fun h => h.elim (fun h => absurd h.1 (by decide)) (fun h => h.elim (fun h => absurd h.1 (by decide)) (fun h => h.elim (fun h => absurd h.1 (by decide)) (fun h => h.elim (fun h => absurd h.1 (by decide)) (fun h => h.elim (fun h => absurd h.1 (by decide)) (fun h => absurd h.1 (by decide))))))))
            have KTO_I115 := gc_TO_fr KTO_I96 ((g114 39 12).resolve_left (fun h => h.elim (fun h => absurd h.2 (by decide)) (fun h => h.elim (fun h => absurd h.2 (by decide)) (fun h => h.elim (fun h => absurd h.2 (by decide)) (fun h => h.elim (fun h => absurd h.2 (by decide)) (fun h => h.elim (fun h => absurd h.2 (by decide)) (fun h => absurd h.2 (by decide)))))))) (fun k => (g114 43 k).resolve_left (fun h => h.elim (fun h => absurd h.1 (by decide)) (fun h => h.elim (fun h => absurd h.1 (by decide)) (fun h => h.elim (fun h => absurd h.1 (by decide)) (fun h => h.elim (fun h => absurd h.1 (by decide)) (fun h => h.elim (fun h => absurd h.1 (by decide)) (fun h => absurd h.1 (by decide))))))))
            refine gv_callV hD rfl (As := [.inl 0]) (st := []) rfl B_39 S_39 rfl (gc_lV6 hws rfl) (Nat.le_of_ble_eq_true rfl) (gz_Ev_mono (d := 4) (by decide) E114) ?_
            show gv_X _ _ (112, [(1, .inl z28), (0, .inr (.inr (some 39)))], [.inl z114], sh, gc_h sh I115 J116 A)
            refine gv_if_ne (t := 117) hD rfl rfl ⟨by omega, by omega⟩ (fun c127 => ?_) (fun c127 => ?_)
            · show gv_X _ _ (117, [(1, .inl z28), (0, .inr (.inr (some 39)))], [], sh, gc_h sh I115 J116 A)
              have V128 := q114.2.2.2.2.2
              rw [show I96 39 5 = I 39 5 from by omega] at V128
              rw [show (if (0 : Int) = 0 then (1 : Int) else 0) = 1 from if_pos rfl] at V128
              obtain ⟨u128, A128⟩ := gs_or1 V128 (by omega)
              have t129 := gc_AT_l A128
              refine gv_run 1 true hD (pc' := 118) (lv' := [(1, .inl z28), (0, .inr (.inr (some 39)))]) (st' := [.inr (.inr (some 39))]) (h' := gc_h sh I115 J116 A) (C := (True ∧ True)) rfl ⟨trivial, trivial⟩ ?_
              refine gv_get hD rfl rfl S_39 ⟨by decide, B_39⟩ (gc_hA S_39 rfl A_39_0) ?_
              show gv_X _ _ (121, [(1, .inl z28), (0, .inr (.inr (some 39)))], [.inr (.inr (some 1))], sh, gc_h sh I115 J116 A)
              refine gv_get hD rfl rfl S_1 ⟨by decide, B_1⟩ (gc_hA S_1 rfl A_1_10) ?_
              show gv_X _ _ (124, [(1, .inl z28), (0, .inr (.inr (some 39)))], [.inr (.inr (some 15))], sh, gc_h sh I115 J116 A)
              refine gv_run 2 true hD (pc' := 126) (lv' := [(1, .inl z28), (0, .inr (.inr (some 39)))]) (st' := [.inr (.inr (some 39)), .inl z28, .inr (.inr (some 15))]) (h' := gc_h sh I115 J116 A) (C := ((True ∧ True) ∧ True)) rfl ⟨⟨trivial, trivial⟩, trivial⟩ ?_
              have f130 := (show 0 ≤ I115 39 12 ∧ I115 39 12 ≤ 2000 from gc_in hI115 R_39 rfl rfl)
              refine gv_get hD rfl rfl S_39 ⟨by decide, B_39⟩ (gc_hI S_39 rfl) ?_
              show gv_X _ _ (129, [(1, .inl z28), (0, .inr (.inr (some 39)))], [.inl (I115 39 12), .inl z28, .inr (.inr (some 15))], sh, gc_h sh I115 J116 A)
              refine gv_iast hD rfl S_15 ⟨by decide, B_15⟩ ⟨by omega, by omega⟩ ?_
              refine gc_st hI115 S_15 rfl R_15 (lo := 0) (hi := 40) rfl rfl (by omega) (by omega) (fun I131 hI131 q132 p132 => ?_)
              have FI131 := gc_frs (W := fun q j => (q = 39 ∧ j = 3) ∨ (q = 39 ∧ j = 4) ∨ (q = 23 ∧ j = 5) ∨ (q = 23 ∧ j = 6) ∨ (q = 23 ∧ j = 7) ∨ (q = 23 ∧ j = 8) ∨ (q = 39 ∧ j = 12) ∨ (q = 39 ∧ j = 15) ∨ q = 43 ∨ (q = 15 ∧ (I 15 j ≤ 0)) ∨ (q = 16 ∧ (I 15 (j / 40) ≤ 0))) FI115 (Or.inr (Or.inr (Or.inr (Or.inr (Or.inr (Or.inr (Or.inr (Or.inr (Or.inr (Or.inl ⟨rfl, by omega⟩)))))))))) p132
              have t133 := p132 23 1 (fun h => absurd h.1 (by decide))
              have t134 := p132 23 5 (fun h => absurd h.1 (by decide))
              have t135 := p132 23 6 (fun h => absurd h.1 (by decide))
              have t136 := p132 23 7 (fun h => absurd h.1 (by decide))
              have t137 := p132 39 12 (fun h => absurd h.1 (by decide))
              have t138 := p132 39 15 (fun h => absurd h.1 (by decide))
              have t139 := p132 4 1 (fun h => absurd h.1 (by decide))
              have t140 := p132 39 5 (fun h => absurd h.1 (by decide))
              have t141 := p132 1 18 (fun h => absurd h.1 (by decide))
              have KLT_I131 := gc_LT_fr KLT_I115 (p132 23 5 (fun h => absurd h.1 (by decide))) (p132 23 6 (fun h => absurd h.1 (by decide))) (p132 23 7 (fun h => absurd h.1 (by decide))) (fun k => p132 24 k (fun h => absurd h.1 (by decide)))
              have KTK_I131 := gc_TK_fr KTK_I115 (p132 23 1 (fun h => absurd h.1 (by decide))) (p132 23 5 (fun h => absurd h.1 (by decide))) (p132 23 6 (fun h => absurd h.1 (by decide))) (p132 23 7 (fun h => absurd h.1 (by decide)))
              have KTO_I131 := gc_TO_fr KTO_I115 (p132 39 12 (fun h => absurd h.1 (by decide))) (fun k => p132 43 k (fun h => absurd h.1 (by decide)))
              have A142 := gc_AT_I A128 (p132 23 1 (fun h => absurd h.1 (by decide))) (p132 23 5 (fun h => absurd h.1 (by decide))) (p132 23 6 (fun h => absurd h.1 (by decide))) (p132 23 7 (fun h => absurd h.1 (by decide))) (p132 23 8 (fun h => absurd h.1 (by decide))) (fun k => p132 24 k (fun h => absurd h.1 (by decide)))
              show gv_X _ _ (130, [(1, .inl z28), (0, .inr (.inr (some 39)))], [], sh, gc_h sh I131 J116 A)
              refine gv_run 1 true hD (pc' := 131) (lv' := [(1, .inl z28), (0, .inr (.inr (some 39)))]) (st' := [.inr (.inr (some 39))]) (h' := gc_h sh I131 J116 A) (C := (True ∧ True)) rfl ⟨trivial, trivial⟩ ?_
              refine gv_get hD rfl rfl S_39 ⟨by decide, B_39⟩ (gc_hA S_39 rfl A_39_13) ?_
              show gv_X _ _ (134, [(1, .inl z28), (0, .inr (.inr (some 39)))], [.inr (.inr (some 43))], sh, gc_h sh I131 J116 A)
              refine gv_run 2 true hD (pc' := 136) (lv' := [(1, .inl z28), (0, .inr (.inr (some 39)))]) (st' := [.inr (.inr (some 39)), .inl 0, .inr (.inr (some 43))]) (h' := gc_h sh I131 J116 A) (C := ((True ∧ True) ∧ True)) rfl ⟨⟨trivial, trivial⟩, trivial⟩ ?_
              refine gv_get hD rfl rfl S_39 ⟨by decide, B_39⟩ (gc_hA S_39 rfl A_39_0) ?_
              show gv_X _ _ (139, [(1, .inl z28), (0, .inr (.inr (some 39)))], [.inr (.inr (some 1)), .inl 0, .inr (.inr (some 43))], sh, gc_h sh I131 J116 A)
              refine gv_get hD rfl rfl S_1 ⟨by decide, B_1⟩ (gc_hA S_1 rfl A_1_11) ?_
              show gv_X _ _ (142, [(1, .inl z28), (0, .inr (.inr (some 39)))], [.inr (.inr (some 16)), .inl 0, .inr (.inr (some 43))], sh, gc_h sh I131 J116 A)
              refine gv_run 4 true hD (pc' := 147) (lv' := [(1, .inl z28), (0, .inr (.inr (some 39)))]) (st' := [.inr (.inr (some 39)), .inl (z28 * 40), .inr (.inr (some 16)), .inl 0, .inr (.inr (some 43))]) (h' := gc_h sh I131 J116 A) (C := ((((True ∧ True) ∧ True) ∧ True) ∧ True)) rfl ⟨⟨⟨⟨trivial, trivial⟩, trivial⟩, trivial⟩, trivial⟩ ?_
              have f143 := (show 0 ≤ I131 39 12 ∧ I131 39 12 ≤ 2000 from gc_in hI131 R_39 rfl rfl)
              refine gv_get hD rfl rfl S_39 ⟨by decide, B_39⟩ (gc_hI S_39 rfl) ?_
              show gv_X _ _ (150, [(1, .inl z28), (0, .inr (.inr (some 39)))], [.inl (I131 39 12), .inl (z28 * 40), .inr (.inr (some 16)), .inl 0, .inr (.inr (some 43))], sh, gc_h sh I131 J116 A)
              refine gv_copy hD rfl (gc_lC6_263 hws) (Nat.le_of_ble_eq_true rfl) ⟨B_43, B_16⟩ S_43 S_16 (by decide) ⟨by decide, by decide⟩ ⟨by omega, by omega, by omega⟩ (by omega) (by omega) (fun h => absurd h (by decide)) ?_
              refine gc_cp hI131 S_43 S_16 (by decide) (fun j hj => by have h9 := (show (-7) ≤ I131 43 (Int.toNat 0 + j) ∧ I131 43 (Int.toNat 0 + j) ≤ 41 from gc_in hI131 R_43 rfl rfl); rw [R_16]; exact ⟨by show (-7) ≤ _; omega, by show _ ≤ 41; omega⟩) (fun I145 hI145 p144 q144 => ?_)
              have FI145 := gc_frp (W := fun q j => (q = 39 ∧ j = 3) ∨ (q = 39 ∧ j = 4) ∨ (q = 23 ∧ j = 5) ∨ (q = 23 ∧ j = 6) ∨ (q = 23 ∧ j = 7) ∨ (q = 23 ∧ j = 8) ∨ (q = 39 ∧ j = 12) ∨ (q = 39 ∧ j = 15) ∨ q = 43 ∨ (q = 15 ∧ (I 15 j ≤ 0)) ∨ (q = 16 ∧ (I 15 (j / 40) ≤ 0))) (V := fun q j => q = 16 ∧ Int.toNat (z28 * 40) ≤ j ∧ j < Int.toNat (z28 * 40) + Int.toNat (I131 39 12)) FI131 (fun q j h => (Or.inr (Or.inr (Or.inr (Or.inr (Or.inr (Or.inr (Or.inr (Or.inr (Or.inr (Or.inr ⟨h.1, by have h9 := h.2; rw [show j / 40 = Int.toNat z28 from by omega]; omega⟩))))))))))) p144
              have KLT_I145 := gc_LT_fr KLT_I131 (p144 23 5 (fun h => absurd h.1 (by decide))) (p144 23 6 (fun h => absurd h.1 (by decide))) (p144 23 7 (fun h => absurd h.1 (by decide))) (fun k => p144 24 k (fun h => absurd h.1 (by decide)))
              have KTK_I145 := gc_TK_fr KTK_I131 (p144 23 1 (fun h => absurd h.1 (by decide))) (p144 23 5 (fun h => absurd h.1 (by decide))) (p144 23 6 (fun h => absurd h.1 (by decide))) (p144 23 7 (fun h => absurd h.1 (by decide)))
              have KTO_I145 := gc_TO_fr KTO_I131 (p144 39 12 (fun h => absurd h.1 (by decide))) (fun k => p144 43 k (fun h => absurd h.1 (by decide)))
              have t147 := p144 23 1 (fun h => absurd h.1 (by decide))
              have t148 := p144 23 5 (fun h => absurd h.1 (by decide))
              have t149 := p144 23 6 (fun h => absurd h.1 (by decide))
              have t150 := p144 23 7 (fun h => absurd h.1 (by decide))
              have t151 := p144 39 12 (fun h => absurd h.1 (by decide))
              have t152 := p144 39 15 (fun h => absurd h.1 (by decide))
              have t153 := p144 4 1 (fun h => absurd h.1 (by decide))
              have t154 := p144 39 5 (fun h => absurd h.1 (by decide))
              have t155 := p144 1 18 (fun h => absurd h.1 (by decide))
              have t156 := gc_TK_mo KTK_I145
              have f157 := (show 0 ≤ I145 23 1 ∧ I145 23 1 ≤ 1000 from gc_in hI145 R_23 rfl rfl)
              have f158 := (show 0 ≤ I145 23 5 ∧ I145 23 5 ≤ 1000 from gc_in hI145 R_23 rfl rfl)
              have f159 := (show 0 ≤ I145 23 6 ∧ I145 23 6 ≤ 1001 from gc_in hI145 R_23 rfl rfl)
              have f160 := (show 0 ≤ I145 23 7 ∧ I145 23 7 ≤ 125 from gc_in hI145 R_23 rfl rfl)
              have f161 := (show 0 ≤ I145 39 12 ∧ I145 39 12 ≤ 2000 from gc_in hI145 R_39 rfl rfl)
              have f162 := (show 0 ≤ I145 39 15 ∧ I145 39 15 ≤ 41 from gc_in hI145 R_39 rfl rfl)
              have f163 := (show 0 ≤ I145 4 1 ∧ I145 4 1 ≤ 96 from gc_in hI145 R_4 rfl rfl)
              have f164 := (show 0 ≤ I145 39 5 ∧ I145 39 5 ≤ 1000 from gc_in hI145 R_39 rfl rfl)
              have f165 := (show 0 ≤ I145 1 18 ∧ I145 1 18 ≤ 1 from gc_in hI145 R_1 rfl rfl)
              have A166 := gc_AT_I A142 (p144 23 1 (fun h => absurd h.1 (by decide))) (p144 23 5 (fun h => absurd h.1 (by decide))) (p144 23 6 (fun h => absurd h.1 (by decide))) (p144 23 7 (fun h => absurd h.1 (by decide))) (p144 23 8 (fun h => absurd h.1 (by decide))) (fun k => p144 24 k (fun h => absurd h.1 (by decide)))
              show gv_X _ _ (153, [(1, .inl z28), (0, .inr (.inr (some 39)))], [], sh, gc_h sh I145 J116 A)
              refine gv_run 1 true hD (pc' := 154) (lv' := [(1, .inl z28), (0, .inr (.inr (some 39)))]) (st' := [.inr (.inr (some 39))]) (h' := gc_h sh I145 J116 A) (C := (True ∧ True)) rfl ⟨trivial, trivial⟩ ?_
              refine gv_get hD rfl rfl S_39 ⟨by decide, B_39⟩ (gc_hA S_39 rfl A_39_14) ?_
              show gv_X _ _ (157, [(1, .inl z28), (0, .inr (.inr (some 39)))], [.inr (.inr (some 44))], sh, gc_h sh I145 J116 A)
              refine gv_run 2 true hD (pc' := 159) (lv' := [(1, .inl z28), (0, .inr (.inr (some 39)))]) (st' := [.inr (.inr (some 39)), .inl 0, .inr (.inr (some 44))]) (h' := gc_h sh I145 J116 A) (C := ((True ∧ True) ∧ True)) rfl ⟨⟨trivial, trivial⟩, trivial⟩ ?_
              refine gv_get hD rfl rfl S_39 ⟨by decide, B_39⟩ (gc_hA S_39 rfl A_39_0) ?_
              show gv_X _ _ (162, [(1, .inl z28), (0, .inr (.inr (some 39)))], [.inr (.inr (some 1)), .inl 0, .inr (.inr (some 44))], sh, gc_h sh I145 J116 A)
              refine gv_get hD rfl rfl S_1 ⟨by decide, B_1⟩ (gc_hA S_1 rfl A_1_12) ?_
              show gv_X _ _ (165, [(1, .inl z28), (0, .inr (.inr (some 39)))], [.inr (.inr (some 17)), .inl 0, .inr (.inr (some 44))], sh, gc_h sh I145 J116 A)
              refine gv_run 4 true hD (pc' := 170) (lv' := [(1, .inl z28), (0, .inr (.inr (some 39)))]) (st' := [.inr (.inr (some 39)), .inl (z28 * 40), .inr (.inr (some 17)), .inl 0, .inr (.inr (some 44))]) (h' := gc_h sh I145 J116 A) (C := ((((True ∧ True) ∧ True) ∧ True) ∧ True)) rfl ⟨⟨⟨⟨trivial, trivial⟩, trivial⟩, trivial⟩, trivial⟩ ?_
              have f167 := (show 0 ≤ I145 39 12 ∧ I145 39 12 ≤ 2000 from gc_in hI145 R_39 rfl rfl)
              refine gv_get hD rfl rfl S_39 ⟨by decide, B_39⟩ (gc_hI S_39 rfl) ?_
              show gv_X _ _ (173, [(1, .inl z28), (0, .inr (.inr (some 39)))], [.inl (I145 39 12), .inl (z28 * 40), .inr (.inr (some 17)), .inl 0, .inr (.inr (some 44))], sh, gc_h sh I145 J116 A)
              refine gv_copy hD rfl (gc_lC6_263 hws) (Nat.le_of_ble_eq_true rfl) ⟨B_44, B_17⟩ S_44 S_17 (by decide) ⟨by decide, by decide⟩ ⟨by omega, by omega, by omega⟩ (by omega) (by omega) (fun h => absurd h (by decide)) ?_
              refine gc_cpJ S_44 S_17 (fun J170 p168 q168 => ?_)
              have FJ170 := gc_frp (W := fun q j => (q = 23 ∧ j = 9) ∨ q = 44 ∨ q = 45 ∨ q = 17) (V := fun q j => q = 17 ∧ Int.toNat (z28 * 40) ≤ j ∧ j < Int.toNat (z28 * 40) + Int.toNat (I145 39 12)) FJ116 (fun q j h => (Or.inr (Or.inr (Or.inr h.1)))) p168
              show gv_X _ _ (176, [(1, .inl z28), (0, .inr (.inr (some 39)))], [], sh, gc_h sh I145 J170 A)
              refine gv_run 1 true hD (pc' := 177) (lv' := [(1, .inl z28), (0, .inr (.inr (some 39)))]) (st' := [.inl 1]) (h' := gc_h sh I145 J170 A) (C := (True ∧ True)) rfl ⟨trivial, trivial⟩ ?_
              exact gv_zret hD rfl (by omega) ⟨I145, J170, rfl, hI145, FI145, FJ170, KLT_I145, KTK_I145, (gc_MS_put (f0 := (Int.toNat z28)) (n := I96 39 12) (g := I96 43) KMS_I115 (by omega) (fun k => (p144 12 k (fun h => absurd h.1 (by decide))).trans (p132 12 k (fun h => absurd h.1 (by decide)))) (fun k hk => (p144 15 k (fun h => absurd h.1 (by decide))).trans (p132 15 k (fun h => hk h.2))) (fun k hk => (p144 16 k (fun h => hk (by have := h.2; omega))).trans (p132 16 k (fun h => absurd h.1 (by decide)))) (fun k => (show 0 ≤ I115 15 k ∧ I115 15 k ≤ 40 from gc_in hI115 R_15 rfl rfl).2) (by have h9 := (p144 15 (Int.toNat z28) (fun h => absurd h.1 (by decide))).trans q132; omega) (by omega) ((gc_TZ_of (q95.2.2.2.2.2.2.2.1.resolve_left (by omega)) (by omega)) (by omega)) (fun k hk => by have h9 := q144 k (by omega); rw [show Int.toNat ((z28 * 40)) = (Int.toNat z28) * 40 from by omega, show Int.toNat 0 + k = k from by omega] at h9; rw [h9]; exact (p132 43 k (fun h => absurd h.1 (by decide))).trans (((g114 43 k).resolve_left (fun h => h.elim (fun h => absurd h.1 (by decide)) (fun h => h.elim (fun h => absurd h.1 (by decide)) (fun h => h.elim (fun h => absurd h.1 (by decide)) (fun h => h.elim (fun h => absurd h.1 (by decide)) (fun h => h.elim (fun h => absurd h.1 (by decide)) (fun h => absurd h.1 (by decide)))))))))) (fun k hk => by have h9 := KTO_I96 k (by omega) (by omega); have h8 : I145 12 (Int.toNat z28) = I 12 (Int.toNat z28) := (FI145 12 (Int.toNat z28)).resolve_left (by omega); omega)), ⟨_, rfl, by omega, by omega, by omega, by omega, (Or.inl ⟨by omega, by have e9 : (gs_mn β η Ir Jr (I 39 5) p9) = (gs_done β η 1 (I 39 5) (gs_tm β η (Ir 6 (Int.toNat (gs_lk Ir Jr 3 3 (gs_rn β η p9)))) 4100 0 1 (gs_need β η 61 (gs_X β η p9))).1) := (by unfold gs_mn gs_mn0 gs_mn1 gs_mn2; (repeat first | rw [if_pos (by omega)] | rw [if_neg (by omega)])); rw [e9]; exact ⟨by omega, (gc_AT_J A166 (p168 23 9 (fun h => absurd h.1 (by decide)))), ⟨by omega, (by rw [← t29]; have h9 := ((p144 15 (Int.toNat z28) (fun h => absurd h.1 (by omega)))).trans q132; have h8 := gc_TC_1 ((q95.2.2.2.2.2.2.2.1.resolve_left (by omega)) (by omega)).2; omega), fun j hj => ((p144 15 j (fun h => absurd h.1 (by omega)))).trans ((p132 15 j (fun h => hj (by rw [← t29]; exact h.2))).trans (((((((((g114 15 j).resolve_left (fun h => h.elim (fun h => absurd h.1 (by decide)) (fun h => h.elim (fun h => absurd h.1 (by decide)) (fun h => h.elim (fun h => absurd h.1 (by decide)) (fun h => h.elim (fun h => absurd h.1 (by decide)) (fun h => h.elim (fun h => absurd h.1 (by decide)) (fun h => absurd h.1 (by decide)))))))).trans ((g95 15 j).resolve_left (fun h => h.elim (fun h => absurd h.1 (by decide)) (fun h => h.elim (fun h => absurd h.1 (by decide)) (fun h => h.elim (fun h => absurd h.1 (by decide)) (fun h => h.elim (fun h => absurd h.1 (by decide)) (fun h => h.elim (fun h => absurd h.1 (by decide)) (fun h => h.elim (fun h => absurd h.1 (by decide)) (fun h => h.elim (fun h => absurd h.1 (by decide)) (fun h => h.elim (fun h => absurd h.1 (by decide)) (fun h => absurd h (by decide)))))))))))).trans ((g76 15 j).resolve_left (fun h => h.elim (fun h => absurd h.1 (by decide)) (fun h => h.elim (fun h => absurd h.1 (by decide)) (fun h => h.elim (fun h => absurd h.1 (by decide)) (fun h => h.elim (fun h => absurd h.1 (by decide)) (fun h => h.elim (fun h => absurd h.1 (by decide)) (fun h => absurd h.1 (by decide))))))))).trans (p65 15 j (fun h => absurd h.1 (by decide)))).trans (p53 15 j (fun h => absurd h.1 (by decide)))).trans ((g35 15 j).resolve_left (fun h => h.elim (fun h => absurd h.1 (by decide)) (fun h => h.elim (fun h => absurd h.1 (by decide)) (fun h => h.elim (fun h => absurd h.1 (by decide)) (fun h => absurd h.1 (by decide))))))).trans ((g11 15 j).resolve_left (fun h => h.elim (fun h => absurd h.1 (by decide)) (fun h => absurd h.1 (by decide)))))))⟩⟩⟩)⟩⟩
            · show gv_X _ _ (115, [(1, .inl z28), (0, .inr (.inr (some 39)))], [], sh, gc_h sh I115 J116 A)
              have V171 := q114.2.2.2.2.2
              rw [show I96 39 5 = I 39 5 from by omega] at V171
              rw [show (if (0 : Int) = 0 then (1 : Int) else 0) = 1 from if_pos rfl] at V171
              obtain ⟨u171, u171_⟩ := gs_or0 V171 (by omega)
              refine gv_run 1 true hD (pc' := 116) (lv' := [(1, .inl z28), (0, .inr (.inr (some 39)))]) (st' := [.inl 0]) (h' := gc_h sh I115 J116 A) (C := (True ∧ True)) rfl ⟨trivial, trivial⟩ ?_
              exact gv_zret hD rfl (by omega) ⟨I115, J116, rfl, hI115, FI115, FJ116, KLT_I115, KTK_I115, KMS_I115, ⟨_, rfl, by omega, by omega, by omega, by omega, (Or.inr ⟨by omega, by first | (exfalso; omega) | (unfold gs_mn gs_mn0 gs_mn1 gs_mn2; (repeat first | rw [if_pos (by omega)] | rw [if_neg (by omega)]); exact ⟨by omega, by omega, (fun j => ((((((((g114 15 j).resolve_left (fun h => h.elim (fun h => absurd h.1 (by decide)) (fun h => h.elim (fun h => absurd h.1 (by decide)) (fun h => h.elim (fun h => absurd h.1 (by decide)) (fun h => h.elim (fun h => absurd h.1 (by decide)) (fun h => h.elim (fun h => absurd h.1 (by decide)) (fun h => absurd h.1 (by decide)))))))).trans ((g95 15 j).resolve_left (fun h => h.elim (fun h => absurd h.1 (by decide)) (fun h => h.elim (fun h => absurd h.1 (by decide)) (fun h => h.elim (fun h => absurd h.1 (by decide)) (fun h => h.elim (fun h => absurd h.1 (by decide)) (fun h => h.elim (fun h => absurd h.1 (by decide)) (fun h => h.elim (fun h => absurd h.1 (by decide)) (fun h => h.elim (fun h => absurd h.1 (by decide)) (fun h => h.elim (fun h => absurd h.1 (by decide)) (fun h => absurd h (by decide)))))))))))).trans ((g76 15 j).resolve_left (fun h => h.elim (fun h => absurd h.1 (by decide)) (fun h => h.elim (fun h => absurd h.1 (by decide)) (fun h => h.elim (fun h => absurd h.1 (by decide)) (fun h => h.elim (fun h => absurd h.1 (by decide)) (fun h => h.elim (fun h => absurd h.1 (by decide)) (fun h => absurd h.1 (by decide))))))))).trans (p65 15 j (fun h => absurd h.1 (by decide)))).trans (p53 15 j (fun h => absurd h.1 (by decide)))).trans ((g35 15 j).resolve_left (fun h => h.elim (fun h => absurd h.1 (by decide)) (fun h => h.elim (fun h => absurd h.1 (by decide)) (fun h => h.elim (fun h => absurd h.1 (by decide)) (fun h => absurd h.1 (by decide))))))).trans ((g11 15 j).resolve_left (fun h => h.elim (fun h => absurd h.1 (by decide)) (fun h => absurd h.1 (by decide))))))⟩)⟩)⟩⟩
          · show gv_X _ _ (104, [(1, .inl z28), (0, .inr (.inr (some 39)))], [.inr (.inr (some 39))], sh, gc_h sh I96 J97 A)
            refine gv_run 2 true hD (pc' := 109) (lv' := [(1, .inl z28), (0, .inr (.inr (some 39)))]) (st' := [.inl 1, .inr (.inr (some 39))]) (h' := gc_h sh I96 J97 A) (C := ((True ∧ True) ∧ True)) rfl ⟨⟨trivial, trivial⟩, trivial⟩ ?_
            obtain ⟨r172, h172, E172, P172⟩ := d_X6_closes_p (ws0 := ws0) (tb := tb) hws htb sh ro I96 J97 A hI96  β η ((gs_tm β η (Ir 6 (Int.toNat (gs_lk Ir Jr 3 3 (gs_rn β η p9)))) 4100 0 1 (gs_need β η 61 (gs_X β η p9))).1) 1 hb   ⟨by omega, by omega⟩ A110 (by omega) (by omega) KLT_I96 KTK_I96
            obtain ⟨I173, J174, rfl, hI173, g172, k172, KLT_I173, KTK_I173, ⟨z172, rfl, q172⟩⟩ := P172
            have FI173 := gc_frc (W := fun q j => (q = 39 ∧ j = 3) ∨ (q = 39 ∧ j = 4) ∨ (q = 23 ∧ j = 5) ∨ (q = 23 ∧ j = 6) ∨ (q = 23 ∧ j = 7) ∨ (q = 23 ∧ j = 8) ∨ (q = 39 ∧ j = 12) ∨ (q = 39 ∧ j = 15) ∨ q = 43 ∨ (q = 15 ∧ (I 15 j ≤ 0)) ∨ (q = 16 ∧ (I 15 (j / 40) ≤ 0))) (V := fun q j => (q = 39 ∧ j = 3) ∨ (q = 39 ∧ j = 4) ∨ (q = 23 ∧ j = 5) ∨ (q = 23 ∧ j = 6) ∨ (q = 23 ∧ j = 7) ∨ (q = 23 ∧ j = 8)) FI96 (fun q j h => (h.elim (fun h => (Or.inl h)) (fun h => (h.elim (fun h => (Or.inr (Or.inl h))) (fun h => (h.elim (fun h => (Or.inr (Or.inr (Or.inl h)))) (fun h => (h.elim (fun h => (Or.inr (Or.inr (Or.inr (Or.inl h))))) (fun h => (h.elim (fun h => (Or.inr (Or.inr (Or.inr (Or.inr (Or.inl h)))))) (fun h => (Or.inr (Or.inr (Or.inr (Or.inr (Or.inr (Or.inl h))))))))))))))))) g172
            have FJ174 := gc_frc (W := fun q j => (q = 23 ∧ j = 9) ∨ q = 44 ∨ q = 45 ∨ q = 17) (V := fun q j => (q = 23 ∧ j = 9)) FJ97 (fun q j h => (Or.inl h)) k172
            have t175 := (g172 23 1).resolve_left (fun h => h.elim (fun h => absurd h.2 (by decide)) (fun h => h.elim (fun h => absurd h.2 (by decide)) (fun h => h.elim (fun h => absurd h.2 (by decide)) (fun h => h.elim (fun h => absurd h.2 (by decide)) (fun h => h.elim (fun h => absurd h.2 (by decide)) (fun h => absurd h.2 (by decide)))))))
            have t176 := (g172 39 12).resolve_left (fun h => h.elim (fun h => absurd h.2 (by decide)) (fun h => h.elim (fun h => absurd h.2 (by decide)) (fun h => h.elim (fun h => absurd h.2 (by decide)) (fun h => h.elim (fun h => absurd h.2 (by decide)) (fun h => h.elim (fun h => absurd h.2 (by decide)) (fun h => absurd h.2 (by decide)))))))
            have t177 := (g172 39 15).resolve_left (fun h => h.elim (fun h => absurd h.2 (by decide)) (fun h => h.elim (fun h => absurd h.2 (by decide)) (fun h => h.elim (fun h => absurd h.2 (by decide)) (fun h => h.elim (fun h => absurd h.2 (by decide)) (fun h => h.elim (fun h => absurd h.2 (by decide)) (fun h => absurd h.2 (by decide)))))))
            have t178 := (g172 4 1).resolve_left (fun h => h.elim (fun h => absurd h.2 (by decide)) (fun h => h.elim (fun h => absurd h.2 (by decide)) (fun h => h.elim (fun h => absurd h.2 (by decide)) (fun h => h.elim (fun h => absurd h.2 (by decide)) (fun h => h.elim (fun h => absurd h.2 (by decide)) (fun h => absurd h.2 (by decide)))))))
            have t179 := (g172 39 5).resolve_left (fun h => h.elim (fun h => absurd h.2 (by decide)) (fun h => h.elim (fun h => absurd h.2 (by decide)) (fun h => h.elim (fun h => absurd h.1 (by decide)) (fun h => h.elim (fun h => absurd h.2 (by decide)) (fun h => h.elim (fun h => absurd h.2 (by decide)) (fun h => absurd h.2 (by decide)))))))
            have t180 := (g172 1 18).resolve_left (fun h => h.elim (fun h => absurd h.2 (by decide)) (fun h => h.elim (fun h => absurd h.2 (by decide)) (fun h => h.elim (fun h => absurd h.2 (by decide)) (fun h => h.elim (fun h => absurd h.2 (by decide)) (fun h => h.elim (fun h => absurd h.2 (by decide)) (fun h => absurd h.2 (by decide)))))))
            have f181 := (show 0 ≤ I173 23 5 ∧ I173 23 5 ≤ 1000 from gc_in hI173 R_23 rfl rfl)
            have f182 := (show 0 ≤ I173 23 6 ∧ I173 23 6 ≤ 1001 from gc_in hI173 R_23 rfl rfl)
            have f183 := (show 0 ≤ I173 23 7 ∧ I173 23 7 ≤ 125 from gc_in hI173 R_23 rfl rfl)
            have t184 := gc_TK_mo KTK_I173
            have KMS_I173 := gc_MS_fr KMS_I96 (Int.le_of_eq ((g172 4 1).resolve_left (fun h => h.elim (fun h => absurd h.2 (by decide)) (fun h => h.elim (fun h => absurd h.2 (by decide)) (fun h => h.elim (fun h => absurd h.2 (by decide)) (fun h => h.elim (fun h => absurd h.2 (by decide)) (fun h => h.elim (fun h => absurd h.2 (by decide)) (fun h => absurd h.2 (by decide)))))))).symm) (fun k => (g172 12 k).resolve_left (fun h => h.elim (fun h => absurd h.1 (by decide)) (fun h => h.elim (fun h => absurd h.1 (by decide)) (fun h => h.elim (fun h => absurd h.1 (by decide)) (fun h => h.elim (fun h => absurd h.1 (by decide)) (fun h => h.elim (fun h => absurd h.1 (by decide)) (fun h => absurd h.1 (by decide)))))))) (fun k => (g172 15 k).resolve_left (fun h => h.elim (fun h => absurd h.1 (by decide)) (fun h => h.elim (fun h => absurd h.1 (by decide)) (fun h => h.elim (fun h => absurd h.1 (by decide)) (fun h => h.elim (fun h => absurd h.1 (by decide)) (fun h => h.elim (fun h => absurd h.1 (by decide)) (fun h => absurd h.1 (by decide)))))))) (fun k => (g172 16 k).resolve_left (fun h => h.elim (fun h => absurd h.1 (by decide)) (fun h => h.elim (fun h => absurd h.1 (by decide)) (fun h => h.elim (fun h => absurd h.1 (by decide)) (fun h => h.elim (fun h => absurd h.1 (by decide)) (fun h => h.elim (fun h => absurd h.1 (by decide)) (fun h => absurd h.1 (by decide))))))))
            have KTO_I173 := gc_TO_fr KTO_I96 ((g172 39 12).resolve_left (fun h => h.elim (fun h => absurd h.2 (by decide)) (fun h => h.elim (fun h => absurd h.2 (by decide)) (fun h => h.elim (fun h => absurd h.2 (by decide)) (fun h => h.elim (fun h => absurd h.2 (by decide)) (fun h => h.elim (fun h => absurd h.2 (by decide)) (fun h => absurd h.2 (by decide)))))))) (fun k => (g172 43 k).resolve_left (fun h => h.elim (fun h => absurd h.1 (by decide)) (fun h => h.elim (fun h => absurd h.1 (by decide)) (fun h => h.elim (fun h => absurd h.1 (by decide)) (fun h => h.elim (fun h => absurd h.1 (by decide)) (fun h => h.elim (fun h => absurd h.1 (by decide)) (fun h => absurd h.1 (by decide))))))))
            refine gv_callV hD rfl (As := [.inl 1]) (st := []) rfl B_39 S_39 rfl (gc_lV6 hws rfl) (Nat.le_of_ble_eq_true rfl) (gz_Ev_mono (d := 4) (by decide) E172) ?_
            show gv_X _ _ (112, [(1, .inl z28), (0, .inr (.inr (some 39)))], [.inl z172], sh, gc_h sh I173 J174 A)
            refine gv_if_ne (t := 117) hD rfl rfl ⟨by omega, by omega⟩ (fun c185 => ?_) (fun c185 => ?_)
            · show gv_X _ _ (117, [(1, .inl z28), (0, .inr (.inr (some 39)))], [], sh, gc_h sh I173 J174 A)
              have V186 := q172.2.2.2.2.2
              rw [show I96 39 5 = I 39 5 from by omega] at V186
              rw [show (if (1 : Int) = 0 then (1 : Int) else 0) = 0 from if_neg (by decide)] at V186
              obtain ⟨u186, A186⟩ := gs_or1 V186 (by omega)
              have t187 := gc_AT_l A186
              refine gv_run 1 true hD (pc' := 118) (lv' := [(1, .inl z28), (0, .inr (.inr (some 39)))]) (st' := [.inr (.inr (some 39))]) (h' := gc_h sh I173 J174 A) (C := (True ∧ True)) rfl ⟨trivial, trivial⟩ ?_
              refine gv_get hD rfl rfl S_39 ⟨by decide, B_39⟩ (gc_hA S_39 rfl A_39_0) ?_
              show gv_X _ _ (121, [(1, .inl z28), (0, .inr (.inr (some 39)))], [.inr (.inr (some 1))], sh, gc_h sh I173 J174 A)
              refine gv_get hD rfl rfl S_1 ⟨by decide, B_1⟩ (gc_hA S_1 rfl A_1_10) ?_
              show gv_X _ _ (124, [(1, .inl z28), (0, .inr (.inr (some 39)))], [.inr (.inr (some 15))], sh, gc_h sh I173 J174 A)
              refine gv_run 2 true hD (pc' := 126) (lv' := [(1, .inl z28), (0, .inr (.inr (some 39)))]) (st' := [.inr (.inr (some 39)), .inl z28, .inr (.inr (some 15))]) (h' := gc_h sh I173 J174 A) (C := ((True ∧ True) ∧ True)) rfl ⟨⟨trivial, trivial⟩, trivial⟩ ?_
              have f188 := (show 0 ≤ I173 39 12 ∧ I173 39 12 ≤ 2000 from gc_in hI173 R_39 rfl rfl)
              refine gv_get hD rfl rfl S_39 ⟨by decide, B_39⟩ (gc_hI S_39 rfl) ?_
              show gv_X _ _ (129, [(1, .inl z28), (0, .inr (.inr (some 39)))], [.inl (I173 39 12), .inl z28, .inr (.inr (some 15))], sh, gc_h sh I173 J174 A)
              refine gv_iast hD rfl S_15 ⟨by decide, B_15⟩ ⟨by omega, by omega⟩ ?_
              refine gc_st hI173 S_15 rfl R_15 (lo := 0) (hi := 40) rfl rfl (by omega) (by omega) (fun I189 hI189 q190 p190 => ?_)
              have FI189 := gc_frs (W := fun q j => (q = 39 ∧ j = 3) ∨ (q = 39 ∧ j = 4) ∨ (q = 23 ∧ j = 5) ∨ (q = 23 ∧ j = 6) ∨ (q = 23 ∧ j = 7) ∨ (q = 23 ∧ j = 8) ∨ (q = 39 ∧ j = 12) ∨ (q = 39 ∧ j = 15) ∨ q = 43 ∨ (q = 15 ∧ (I 15 j ≤ 0)) ∨ (q = 16 ∧ (I 15 (j / 40) ≤ 0))) FI173 (Or.inr (Or.inr (Or.inr (Or.inr (Or.inr (Or.inr (Or.inr (Or.inr (Or.inr (Or.inl ⟨rfl, by omega⟩)))))))))) p190
              have t191 := p190 23 1 (fun h => absurd h.1 (by decide))
              have t192 := p190 23 5 (fun h => absurd h.1 (by decide))
              have t193 := p190 23 6 (fun h => absurd h.1 (by decide))
              have t194 := p190 23 7 (fun h => absurd h.1 (by decide))
              have t195 := p190 39 12 (fun h => absurd h.1 (by decide))
              have t196 := p190 39 15 (fun h => absurd h.1 (by decide))
              have t197 := p190 4 1 (fun h => absurd h.1 (by decide))
              have t198 := p190 39 5 (fun h => absurd h.1 (by decide))
              have t199 := p190 1 18 (fun h => absurd h.1 (by decide))
              have KLT_I189 := gc_LT_fr KLT_I173 (p190 23 5 (fun h => absurd h.1 (by decide))) (p190 23 6 (fun h => absurd h.1 (by decide))) (p190 23 7 (fun h => absurd h.1 (by decide))) (fun k => p190 24 k (fun h => absurd h.1 (by decide)))
              have KTK_I189 := gc_TK_fr KTK_I173 (p190 23 1 (fun h => absurd h.1 (by decide))) (p190 23 5 (fun h => absurd h.1 (by decide))) (p190 23 6 (fun h => absurd h.1 (by decide))) (p190 23 7 (fun h => absurd h.1 (by decide)))
              have KTO_I189 := gc_TO_fr KTO_I173 (p190 39 12 (fun h => absurd h.1 (by decide))) (fun k => p190 43 k (fun h => absurd h.1 (by decide)))
              have A200 := gc_AT_I A186 (p190 23 1 (fun h => absurd h.1 (by decide))) (p190 23 5 (fun h => absurd h.1 (by decide))) (p190 23 6 (fun h => absurd h.1 (by decide))) (p190 23 7 (fun h => absurd h.1 (by decide))) (p190 23 8 (fun h => absurd h.1 (by decide))) (fun k => p190 24 k (fun h => absurd h.1 (by decide)))
              show gv_X _ _ (130, [(1, .inl z28), (0, .inr (.inr (some 39)))], [], sh, gc_h sh I189 J174 A)
              refine gv_run 1 true hD (pc' := 131) (lv' := [(1, .inl z28), (0, .inr (.inr (some 39)))]) (st' := [.inr (.inr (some 39))]) (h' := gc_h sh I189 J174 A) (C := (True ∧ True)) rfl ⟨trivial, trivial⟩ ?_
              refine gv_get hD rfl rfl S_39 ⟨by decide, B_39⟩ (gc_hA S_39 rfl A_39_13) ?_
              show gv_X _ _ (134, [(1, .inl z28), (0, .inr (.inr (some 39)))], [.inr (.inr (some 43))], sh, gc_h sh I189 J174 A)
              refine gv_run 2 true hD (pc' := 136) (lv' := [(1, .inl z28), (0, .inr (.inr (some 39)))]) (st' := [.inr (.inr (some 39)), .inl 0, .inr (.inr (some 43))]) (h' := gc_h sh I189 J174 A) (C := ((True ∧ True) ∧ True)) rfl ⟨⟨trivial, trivial⟩, trivial⟩ ?_
              refine gv_get hD rfl rfl S_39 ⟨by decide, B_39⟩ (gc_hA S_39 rfl A_39_0) ?_
              show gv_X _ _ (139, [(1, .inl z28), (0, .inr (.inr (some 39)))], [.inr (.inr (some 1)), .inl 0, .inr (.inr (some 43))], sh, gc_h sh I189 J174 A)
              refine gv_get hD rfl rfl S_1 ⟨by decide, B_1⟩ (gc_hA S_1 rfl A_1_11) ?_
              show gv_X _ _ (142, [(1, .inl z28), (0, .inr (.inr (some 39)))], [.inr (.inr (some 16)), .inl 0, .inr (.inr (some 43))], sh, gc_h sh I189 J174 A)
              refine gv_run 4 true hD (pc' := 147) (lv' := [(1, .inl z28), (0, .inr (.inr (some 39)))]) (st' := [.inr (.inr (some 39)), .inl (z28 * 40), .inr (.inr (some 16)), .inl 0, .inr (.inr (some 43))]) (h' := gc_h sh I189 J174 A) (C := ((((True ∧ True) ∧ True) ∧ True) ∧ True)) rfl ⟨⟨⟨⟨trivial, trivial⟩, trivial⟩, trivial⟩, trivial⟩ ?_
              have f201 := (show 0 ≤ I189 39 12 ∧ I189 39 12 ≤ 2000 from gc_in hI189 R_39 rfl rfl)
              refine gv_get hD rfl rfl S_39 ⟨by decide, B_39⟩ (gc_hI S_39 rfl) ?_
              show gv_X _ _ (150, [(1, .inl z28), (0, .inr (.inr (some 39)))], [.inl (I189 39 12), .inl (z28 * 40), .inr (.inr (some 16)), .inl 0, .inr (.inr (some 43))], sh, gc_h sh I189 J174 A)
              refine gv_copy hD rfl (gc_lC6_263 hws) (Nat.le_of_ble_eq_true rfl) ⟨B_43, B_16⟩ S_43 S_16 (by decide) ⟨by decide, by decide⟩ ⟨by omega, by omega, by omega⟩ (by omega) (by omega) (fun h => absurd h (by decide)) ?_
              refine gc_cp hI189 S_43 S_16 (by decide) (fun j hj => by have h9 := (show (-7) ≤ I189 43 (Int.toNat 0 + j) ∧ I189 43 (Int.toNat 0 + j) ≤ 41 from gc_in hI189 R_43 rfl rfl); rw [R_16]; exact ⟨by show (-7) ≤ _; omega, by show _ ≤ 41; omega⟩) (fun I203 hI203 p202 q202 => ?_)
              have FI203 := gc_frp (W := fun q j => (q = 39 ∧ j = 3) ∨ (q = 39 ∧ j = 4) ∨ (q = 23 ∧ j = 5) ∨ (q = 23 ∧ j = 6) ∨ (q = 23 ∧ j = 7) ∨ (q = 23 ∧ j = 8) ∨ (q = 39 ∧ j = 12) ∨ (q = 39 ∧ j = 15) ∨ q = 43 ∨ (q = 15 ∧ (I 15 j ≤ 0)) ∨ (q = 16 ∧ (I 15 (j / 40) ≤ 0))) (V := fun q j => q = 16 ∧ Int.toNat (z28 * 40) ≤ j ∧ j < Int.toNat (z28 * 40) + Int.toNat (I189 39 12)) FI189 (fun q j h => (Or.inr (Or.inr (Or.inr (Or.inr (Or.inr (Or.inr (Or.inr (Or.inr (Or.inr (Or.inr ⟨h.1, by have h9 := h.2; rw [show j / 40 = Int.toNat z28 from by omega]; omega⟩))))))))))) p202
              have KLT_I203 := gc_LT_fr KLT_I189 (p202 23 5 (fun h => absurd h.1 (by decide))) (p202 23 6 (fun h => absurd h.1 (by decide))) (p202 23 7 (fun h => absurd h.1 (by decide))) (fun k => p202 24 k (fun h => absurd h.1 (by decide)))
              have KTK_I203 := gc_TK_fr KTK_I189 (p202 23 1 (fun h => absurd h.1 (by decide))) (p202 23 5 (fun h => absurd h.1 (by decide))) (p202 23 6 (fun h => absurd h.1 (by decide))) (p202 23 7 (fun h => absurd h.1 (by decide)))
              have KTO_I203 := gc_TO_fr KTO_I189 (p202 39 12 (fun h => absurd h.1 (by decide))) (fun k => p202 43 k (fun h => absurd h.1 (by decide)))
              have t205 := p202 23 1 (fun h => absurd h.1 (by decide))
              have t206 := p202 23 5 (fun h => absurd h.1 (by decide))
              have t207 := p202 23 6 (fun h => absurd h.1 (by decide))
              have t208 := p202 23 7 (fun h => absurd h.1 (by decide))
              have t209 := p202 39 12 (fun h => absurd h.1 (by decide))
              have t210 := p202 39 15 (fun h => absurd h.1 (by decide))
              have t211 := p202 4 1 (fun h => absurd h.1 (by decide))
              have t212 := p202 39 5 (fun h => absurd h.1 (by decide))
              have t213 := p202 1 18 (fun h => absurd h.1 (by decide))
              have t214 := gc_TK_mo KTK_I203
              have f215 := (show 0 ≤ I203 23 1 ∧ I203 23 1 ≤ 1000 from gc_in hI203 R_23 rfl rfl)
              have f216 := (show 0 ≤ I203 23 5 ∧ I203 23 5 ≤ 1000 from gc_in hI203 R_23 rfl rfl)
              have f217 := (show 0 ≤ I203 23 6 ∧ I203 23 6 ≤ 1001 from gc_in hI203 R_23 rfl rfl)
              have f218 := (show 0 ≤ I203 23 7 ∧ I203 23 7 ≤ 125 from gc_in hI203 R_23 rfl rfl)
              have f219 := (show 0 ≤ I203 39 12 ∧ I203 39 12 ≤ 2000 from gc_in hI203 R_39 rfl rfl)
              have f220 := (show 0 ≤ I203 39 15 ∧ I203 39 15 ≤ 41 from gc_in hI203 R_39 rfl rfl)
              have f221 := (show 0 ≤ I203 4 1 ∧ I203 4 1 ≤ 96 from gc_in hI203 R_4 rfl rfl)
              have f222 := (show 0 ≤ I203 39 5 ∧ I203 39 5 ≤ 1000 from gc_in hI203 R_39 rfl rfl)
              have f223 := (show 0 ≤ I203 1 18 ∧ I203 1 18 ≤ 1 from gc_in hI203 R_1 rfl rfl)
              have A224 := gc_AT_I A200 (p202 23 1 (fun h => absurd h.1 (by decide))) (p202 23 5 (fun h => absurd h.1 (by decide))) (p202 23 6 (fun h => absurd h.1 (by decide))) (p202 23 7 (fun h => absurd h.1 (by decide))) (p202 23 8 (fun h => absurd h.1 (by decide))) (fun k => p202 24 k (fun h => absurd h.1 (by decide)))
              show gv_X _ _ (153, [(1, .inl z28), (0, .inr (.inr (some 39)))], [], sh, gc_h sh I203 J174 A)
              refine gv_run 1 true hD (pc' := 154) (lv' := [(1, .inl z28), (0, .inr (.inr (some 39)))]) (st' := [.inr (.inr (some 39))]) (h' := gc_h sh I203 J174 A) (C := (True ∧ True)) rfl ⟨trivial, trivial⟩ ?_
              refine gv_get hD rfl rfl S_39 ⟨by decide, B_39⟩ (gc_hA S_39 rfl A_39_14) ?_
              show gv_X _ _ (157, [(1, .inl z28), (0, .inr (.inr (some 39)))], [.inr (.inr (some 44))], sh, gc_h sh I203 J174 A)
              refine gv_run 2 true hD (pc' := 159) (lv' := [(1, .inl z28), (0, .inr (.inr (some 39)))]) (st' := [.inr (.inr (some 39)), .inl 0, .inr (.inr (some 44))]) (h' := gc_h sh I203 J174 A) (C := ((True ∧ True) ∧ True)) rfl ⟨⟨trivial, trivial⟩, trivial⟩ ?_
              refine gv_get hD rfl rfl S_39 ⟨by decide, B_39⟩ (gc_hA S_39 rfl A_39_0) ?_
              show gv_X _ _ (162, [(1, .inl z28), (0, .inr (.inr (some 39)))], [.inr (.inr (some 1)), .inl 0, .inr (.inr (some 44))], sh, gc_h sh I203 J174 A)
              refine gv_get hD rfl rfl S_1 ⟨by decide, B_1⟩ (gc_hA S_1 rfl A_1_12) ?_
              show gv_X _ _ (165, [(1, .inl z28), (0, .inr (.inr (some 39)))], [.inr (.inr (some 17)), .inl 0, .inr (.inr (some 44))], sh, gc_h sh I203 J174 A)
              refine gv_run 4 true hD (pc' := 170) (lv' := [(1, .inl z28), (0, .inr (.inr (some 39)))]) (st' := [.inr (.inr (some 39)), .inl (z28 * 40), .inr (.inr (some 17)), .inl 0, .inr (.inr (some 44))]) (h' := gc_h sh I203 J174 A) (C := ((((True ∧ True) ∧ True) ∧ True) ∧ True)) rfl ⟨⟨⟨⟨trivial, trivial⟩, trivial⟩, trivial⟩, trivial⟩ ?_
              have f225 := (show 0 ≤ I203 39 12 ∧ I203 39 12 ≤ 2000 from gc_in hI203 R_39 rfl rfl)
              refine gv_get hD rfl rfl S_39 ⟨by decide, B_39⟩ (gc_hI S_39 rfl) ?_
              show gv_X _ _ (173, [(1, .inl z28), (0, .inr (.inr (some 39)))], [.inl (I203 39 12), .inl (z28 * 40), .inr (.inr (some 17)), .inl 0, .inr (.inr (some 44))], sh, gc_h sh I203 J174 A)
              refine gv_copy hD rfl (gc_lC6_263 hws) (Nat.le_of_ble_eq_true rfl) ⟨B_44, B_17⟩ S_44 S_17 (by decide) ⟨by decide, by decide⟩ ⟨by omega, by omega, by omega⟩ (by omega) (by omega) (fun h => absurd h (by decide)) ?_
              refine gc_cpJ S_44 S_17 (fun J228 p226 q226 => ?_)
              have FJ228 := gc_frp (W := fun q j => (q = 23 ∧ j = 9) ∨ q = 44 ∨ q = 45 ∨ q = 17) (V := fun q j => q = 17 ∧ Int.toNat (z28 * 40) ≤ j ∧ j < Int.toNat (z28 * 40) + Int.toNat (I203 39 12)) FJ174 (fun q j h => (Or.inr (Or.inr (Or.inr h.1)))) p226
              show gv_X _ _ (176, [(1, .inl z28), (0, .inr (.inr (some 39)))], [], sh, gc_h sh I203 J228 A)
              refine gv_run 1 true hD (pc' := 177) (lv' := [(1, .inl z28), (0, .inr (.inr (some 39)))]) (st' := [.inl 1]) (h' := gc_h sh I203 J228 A) (C := (True ∧ True)) rfl ⟨trivial, trivial⟩ ?_
              exact gv_zret hD rfl (by omega) ⟨I203, J228, rfl, hI203, FI203, FJ228, KLT_I203, KTK_I203, (gc_MS_put (f0 := (Int.toNat z28)) (n := I96 39 12) (g := I96 43) KMS_I173 (by omega) (fun k => (p202 12 k (fun h => absurd h.1 (by decide))).trans (p190 12 k (fun h => absurd h.1 (by decide)))) (fun k hk => (p202 15 k (fun h => absurd h.1 (by decide))).trans (p190 15 k (fun h => hk h.2))) (fun k hk => (p202 16 k (fun h => hk (by have := h.2; omega))).trans (p190 16 k (fun h => absurd h.1 (by decide)))) (fun k => (show 0 ≤ I173 15 k ∧ I173 15 k ≤ 40 from gc_in hI173 R_15 rfl rfl).2) (by have h9 := (p202 15 (Int.toNat z28) (fun h => absurd h.1 (by decide))).trans q190; omega) (by omega) ((gc_TZ_of (q95.2.2.2.2.2.2.2.1.resolve_left (by omega)) (by omega)) (by omega)) (fun k hk => by have h9 := q202 k (by omega); rw [show Int.toNat ((z28 * 40)) = (Int.toNat z28) * 40 from by omega, show Int.toNat 0 + k = k from by omega] at h9; rw [h9]; exact (p190 43 k (fun h => absurd h.1 (by decide))).trans (((g172 43 k).resolve_left (fun h => h.elim (fun h => absurd h.1 (by decide)) (fun h => h.elim (fun h => absurd h.1 (by decide)) (fun h => h.elim (fun h => absurd h.1 (by decide)) (fun h => h.elim (fun h => absurd h.1 (by decide)) (fun h => h.elim (fun h => absurd h.1 (by decide)) (fun h => absurd h.1 (by decide)))))))))) (fun k hk => by have h9 := KTO_I96 k (by omega) (by omega); have h8 : I203 12 (Int.toNat z28) = I 12 (Int.toNat z28) := (FI203 12 (Int.toNat z28)).resolve_left (by omega); omega)), ⟨_, rfl, by omega, by omega, by omega, by omega, (by exfalso; omega)⟩⟩
            · show gv_X _ _ (115, [(1, .inl z28), (0, .inr (.inr (some 39)))], [], sh, gc_h sh I173 J174 A)
              have V229 := q172.2.2.2.2.2
              rw [show I96 39 5 = I 39 5 from by omega] at V229
              rw [show (if (1 : Int) = 0 then (1 : Int) else 0) = 0 from if_neg (by decide)] at V229
              obtain ⟨u229, u229_⟩ := gs_or0 V229 (by omega)
              refine gv_run 1 true hD (pc' := 116) (lv' := [(1, .inl z28), (0, .inr (.inr (some 39)))]) (st' := [.inl 0]) (h' := gc_h sh I173 J174 A) (C := (True ∧ True)) rfl ⟨trivial, trivial⟩ ?_
              exact gv_zret hD rfl (by omega) ⟨I173, J174, rfl, hI173, FI173, FJ174, KLT_I173, KTK_I173, KMS_I173, ⟨_, rfl, by omega, by omega, by omega, by omega, (Or.inr ⟨by omega, by first | (exfalso; omega) | (unfold gs_mn gs_mn0 gs_mn1 gs_mn2; (repeat first | rw [if_pos (by omega)] | rw [if_neg (by omega)]); exact ⟨by omega, by omega, (fun j => ((((((((g172 15 j).resolve_left (fun h => h.elim (fun h => absurd h.1 (by decide)) (fun h => h.elim (fun h => absurd h.1 (by decide)) (fun h => h.elim (fun h => absurd h.1 (by decide)) (fun h => h.elim (fun h => absurd h.1 (by decide)) (fun h => h.elim (fun h => absurd h.1 (by decide)) (fun h => absurd h.1 (by decide)))))))).trans ((g95 15 j).resolve_left (fun h => h.elim (fun h => absurd h.1 (by decide)) (fun h => h.elim (fun h => absurd h.1 (by decide)) (fun h => h.elim (fun h => absurd h.1 (by decide)) (fun h => h.elim (fun h => absurd h.1 (by decide)) (fun h => h.elim (fun h => absurd h.1 (by decide)) (fun h => h.elim (fun h => absurd h.1 (by decide)) (fun h => h.elim (fun h => absurd h.1 (by decide)) (fun h => h.elim (fun h => absurd h.1 (by decide)) (fun h => absurd h (by decide)))))))))))).trans ((g76 15 j).resolve_left (fun h => h.elim (fun h => absurd h.1 (by decide)) (fun h => h.elim (fun h => absurd h.1 (by decide)) (fun h => h.elim (fun h => absurd h.1 (by decide)) (fun h => h.elim (fun h => absurd h.1 (by decide)) (fun h => h.elim (fun h => absurd h.1 (by decide)) (fun h => absurd h.1 (by decide))))))))).trans (p65 15 j (fun h => absurd h.1 (by decide)))).trans (p53 15 j (fun h => absurd h.1 (by decide)))).trans ((g35 15 j).resolve_left (fun h => h.elim (fun h => absurd h.1 (by decide)) (fun h => h.elim (fun h => absurd h.1 (by decide)) (fun h => h.elim (fun h => absurd h.1 (by decide)) (fun h => absurd h.1 (by decide))))))).trans ((g11 15 j).resolve_left (fun h => h.elim (fun h => absurd h.1 (by decide)) (fun h => absurd h.1 (by decide))))))⟩)⟩)⟩⟩
    · show gv_X _ _ (46, [(1, .inl z28), (0, .inr (.inr (some 39)))], [], sh, gc_h sh I12 J A)
      have tM : 0 ≤ Ir 10 (Int.toNat (gs_lk Ir Jr 3 3 (gs_rn β η p9))) := tE.mp (by omega)
      clear tE
      refine gv_run 3 true hD (pc' := 49) (lv' := [(1, .inl z28), (0, .inr (.inr (some 39)))]) (st' := [.inr (.inr (some 39)), .inl 4, .inr (.inr (some 39))]) (h' := gc_h sh I12 J A) (C := (((True ∧ True) ∧ True) ∧ True)) rfl ⟨⟨⟨trivial, trivial⟩, trivial⟩, trivial⟩ ?_
      refine gv_get hD rfl rfl S_39 ⟨by decide, B_39⟩ (gc_hA S_39 rfl A_39_1) ?_
      show gv_X _ _ (52, [(1, .inl z28), (0, .inr (.inr (some 39)))], [.inr (.inr (some 23)), .inl 4, .inr (.inr (some 39))], sh, gc_h sh I12 J A)
      have f230 := (show 0 ≤ I12 23 5 ∧ I12 23 5 ≤ 1000 from gc_in hI12 R_23 rfl rfl)
      refine gv_get hD rfl rfl S_23 ⟨by decide, B_23⟩ (gc_hI S_23 rfl) ?_
      show gv_X _ _ (55, [(1, .inl z28), (0, .inr (.inr (some 39)))], [.inl (I12 23 5), .inl 4, .inr (.inr (some 39))], sh, gc_h sh I12 J A)
      obtain ⟨r231, h231, E231, P231⟩ := d_X6_wrong_p (ws0 := ws0) (tb := tb) hws htb sh ro I12 J A hI12  4 (I12 23 5) hb   ⟨by omega, by omega⟩ ⟨by omega, by omega⟩  
      obtain ⟨I232, J233, rfl, hI232, g231, k231, ⟨z231, rfl, q231⟩⟩ := P231
      have FI232 := gc_frc (W := fun q j => (q = 39 ∧ j = 3) ∨ (q = 39 ∧ j = 4) ∨ (q = 23 ∧ j = 5) ∨ (q = 23 ∧ j = 6) ∨ (q = 23 ∧ j = 7) ∨ (q = 23 ∧ j = 8) ∨ (q = 39 ∧ j = 12) ∨ (q = 39 ∧ j = 15) ∨ q = 43 ∨ (q = 15 ∧ (I 15 j ≤ 0)) ∨ (q = 16 ∧ (I 15 (j / 40) ≤ 0))) (V := fun q j => (q = 39 ∧ j = 3) ∨ (q = 39 ∧ j = 4)) FI12 (fun q j h => (h.elim (fun h => (Or.inl h)) (fun h => (Or.inr (Or.inl h))))) g231
      have t234 := (g231 23 1).resolve_left (fun h => h.elim (fun h => absurd h.2 (by decide)) (fun h => absurd h.2 (by decide)))
      have t235 := (g231 23 5).resolve_left (fun h => h.elim (fun h => absurd h.2 (by decide)) (fun h => absurd h.2 (by decide)))
      have t236 := (g231 23 6).resolve_left (fun h => h.elim (fun h => absurd h.2 (by decide)) (fun h => absurd h.2 (by decide)))
      have t237 := (g231 23 7).resolve_left (fun h => h.elim (fun h => absurd h.2 (by decide)) (fun h => absurd h.2 (by decide)))
      have t238 := (g231 39 12).resolve_left (fun h => h.elim (fun h => absurd h.2 (by decide)) (fun h => absurd h.2 (by decide)))
      have t239 := (g231 39 15).resolve_left (fun h => h.elim (fun h => absurd h.2 (by decide)) (fun h => absurd h.2 (by decide)))
      have t240 := (g231 4 1).resolve_left (fun h => h.elim (fun h => absurd h.2 (by decide)) (fun h => absurd h.2 (by decide)))
      have t241 := (g231 39 5).resolve_left (fun h => h.elim (fun h => absurd h.2 (by decide)) (fun h => absurd h.2 (by decide)))
      have t242 := (g231 1 18).resolve_left (fun h => h.elim (fun h => absurd h.2 (by decide)) (fun h => absurd h.2 (by decide)))
      obtain rfl : J = J233 := funext fun q => funext fun j => ((k231 q j).resolve_left id).symm
      have KLT_I232 := gc_LT_fr KLT_I12 ((g231 23 5).resolve_left (fun h => h.elim (fun h => absurd h.2 (by decide)) (fun h => absurd h.2 (by decide)))) ((g231 23 6).resolve_left (fun h => h.elim (fun h => absurd h.2 (by decide)) (fun h => absurd h.2 (by decide)))) ((g231 23 7).resolve_left (fun h => h.elim (fun h => absurd h.2 (by decide)) (fun h => absurd h.2 (by decide)))) (fun k => (g231 24 k).resolve_left (fun h => h.elim (fun h => absurd h.1 (by decide)) (fun h => absurd h.1 (by decide))))
      have KTK_I232 := gc_TK_fr KTK_I12 ((g231 23 1).resolve_left (fun h => h.elim (fun h => absurd h.2 (by decide)) (fun h => absurd h.2 (by decide)))) ((g231 23 5).resolve_left (fun h => h.elim (fun h => absurd h.2 (by decide)) (fun h => absurd h.2 (by decide)))) ((g231 23 6).resolve_left (fun h => h.elim (fun h => absurd h.2 (by decide)) (fun h => absurd h.2 (by decide)))) ((g231 23 7).resolve_left (fun h => h.elim (fun h => absurd h.2 (by decide)) (fun h => absurd h.2 (by decide))))
      have KMS_I232 := gc_MS_fr KMS_I12 (Int.le_of_eq ((g231 4 1).resolve_left (fun h => h.elim (fun h => absurd h.2 (by decide)) (fun h => absurd h.2 (by decide)))).symm) (fun k => (g231 12 k).resolve_left (fun h => h.elim (fun h => absurd h.1 (by decide)) (fun h => absurd h.1 (by decide)))) (fun k => (g231 15 k).resolve_left (fun h => h.elim (fun h => absurd h.1 (by decide)) (fun h => absurd h.1 (by decide)))) (fun k => (g231 16 k).resolve_left (fun h => h.elim (fun h => absurd h.1 (by decide)) (fun h => absurd h.1 (by decide))))
      have A243 := gc_AT_I A23 ((g231 23 1).resolve_left (fun h => h.elim (fun h => absurd h.2 (by decide)) (fun h => absurd h.2 (by decide)))) ((g231 23 5).resolve_left (fun h => h.elim (fun h => absurd h.2 (by decide)) (fun h => absurd h.2 (by decide)))) ((g231 23 6).resolve_left (fun h => h.elim (fun h => absurd h.2 (by decide)) (fun h => absurd h.2 (by decide)))) ((g231 23 7).resolve_left (fun h => h.elim (fun h => absurd h.2 (by decide)) (fun h => absurd h.2 (by decide)))) ((g231 23 8).resolve_left (fun h => h.elim (fun h => absurd h.2 (by decide)) (fun h => absurd h.2 (by decide)))) (fun k => (g231 24 k).resolve_left (fun h => h.elim (fun h => absurd h.1 (by decide)) (fun h => absurd h.1 (by decide))))
      have t244 := gc_AT_l A243
      refine gv_callV hD rfl (As := [.inl 4, .inl (I12 23 5)]) (st := []) rfl B_39 S_39 rfl (gc_lV6 hws rfl) (Nat.le_of_ble_eq_true rfl) (gz_Ev_mono (d := 1) (by decide) E231) ?_
      show gv_X _ _ (58, [(1, .inl z28), (0, .inr (.inr (some 39)))], [.inl z231], sh, gc_h sh I232 J A)
      exact gv_zret hD rfl (by omega) ⟨I232, J, rfl, hI232, FI232, FJ, KLT_I232, KTK_I232, KMS_I232, ⟨_, rfl, by omega, by omega, by omega, by omega, (Or.inr ⟨by omega, by first | (exfalso; omega) | (unfold gs_mn gs_mn0 gs_mn1 gs_mn2; (repeat first | rw [if_pos (by omega)] | rw [if_neg (by omega)]); exact ⟨by omega, by omega, (fun j => (((g231 15 j).resolve_left (fun h => h.elim (fun h => absurd h.1 (by decide)) (fun h => absurd h.1 (by decide)))).trans ((g11 15 j).resolve_left (fun h => h.elim (fun h => absurd h.1 (by decide)) (fun h => absurd h.1 (by decide))))))⟩)⟩)⟩⟩
  · show gv_X _ _ (14, [(0, .inr (.inr (some 39)))], [], sh, gc_h sh I12 J A)
    have u245 := gs_or0 q11.2.2.2 (by omega)
    have L11 : gs_T β η p9 = 1 → gc_fd (J (4 + 1)) (gs_M β η p9) (Int.toNat (I 4 1)) = gs_lk Ir Jr 3 3 (gs_rn β η p9) := (fun h => by exact gs_NA_lk x6 x5 h)
    refine gv_run 1 true hD (pc' := 15) (lv' := [(0, .inr (.inr (some 39)))]) (st' := [.inl 0]) (h' := gc_h sh I12 J A) (C := (True ∧ True)) rfl ⟨trivial, trivial⟩ ?_
    exact gv_zret hD rfl (by omega) ⟨I12, J, rfl, hI12, FI12, FJ, KLT_I12, KTK_I12, KMS_I12, ⟨_, rfl, by omega, by omega, by omega, by omega, (Or.inr ⟨by omega, by first | (exfalso; omega) | (unfold gs_mn gs_mn0 gs_mn1 gs_mn2; by_cases c9 : gs_T β η p9 = 1; (have h9 := L11 c9; (repeat first | rw [if_pos (by omega)] | rw [if_neg (by omega)]); exact ⟨by omega, by omega, (fun j => ((g11 15 j).resolve_left (fun h => h.elim (fun h => absurd h.1 (by decide)) (fun h => absurd h.1 (by decide)))))⟩); (repeat first | rw [if_pos (by omega)] | rw [if_neg (by omega)]); exact ⟨by omega, by omega, (fun j => ((g11 15 j).resolve_left (fun h => h.elim (fun h => absurd h.1 (by decide)) (fun h => absurd h.1 (by decide)))))⟩)⟩)⟩⟩
