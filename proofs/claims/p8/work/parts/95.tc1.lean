theorem gs_rm {z : Int} {c : Prop} [Decidable c] (h : z = 0 ↔ c) : (if z = 0 then (1 : Int) else 0) = (if c then 1 else 0) := by
  by_cases hc : c
  · rw [if_pos hc, if_pos (h.mpr hc)]
  · rw [if_neg hc, if_neg (fun e => hc (h.mp e))]
set_option maxHeartbeats 8000000 in
set_option maxRecDepth 100000 in
theorem d_X6_readNewName_a_p {ws0 : List Cond} {tb : String → gz_T} (hws : gc_Ws ws0) (htb : gc_tbs tb) (sh : gz_Sh) (ro : Nat → Nat) (I : gr_I) (J : gr_J) (A : gc_A) (hI : gc_Inv ro I) (n ρ : Nat) (β : Int → Int) (η : Int) (p9 : Int) (Ir : gr_I) (Jr : gr_J) (ro9 : Nat) (fo9 : Nat) (a1 : Nat) (hb : gc_Base sh ro A) (h_a1 : gc_isNames sh ro A a1 n ρ)  (x0 : gc_AT β η p9 23 I J) (x1 : 0 ≤ p9) (x2 : I 1 18 = 0) (x3 : I a1 1 = Ir 0 fo9) (x4 : gs_NA (I a1 1) (J (a1 + 1)) (Jr ro9)) (KLT_I : gc_LT I) (KTK_I : gc_TK I) : ∃ r h', gz_Ev ws0 tb 5 (yX6_readNewName, cX6_readNewName, 4, (some .boolean)) [.inr (.inr (some 39)), .inr (.inr (some a1))] sh (gc_h sh I J A) r sh h' 0 0 ∧ (∃ (I' : gr_I) (J' : gr_J), h' = gc_h sh I' J' A ∧ gc_Inv ro I' ∧ (∀ q j : Nat, ((q = 39 ∧ j = 3) ∨ (q = 39 ∧ j = 4) ∨ (q = 23 ∧ j = 5) ∨ (q = 23 ∧ j = 6) ∨ (q = 23 ∧ j = 7) ∨ (q = 23 ∧ j = 8) ∨ (q = a1 ∧ j = 1)) ∨ I' q j = I q j) ∧ (∀ q j : Nat, ((q = 23 ∧ j = 9) ∨ q = (a1 + 1)) ∨ J' q j = J q j) ∧ gc_LT I' ∧ gc_TK I' ∧ (∃ z : Int, r = some (.inl z) ∧ 0 ≤ z ∧ z ≤ 1 ∧ (I' 23 1 = I 23 1) ∧ (I 23 5 ≤ I' 23 5) ∧ (I a1 1 ≤ I' a1 1) ∧ (gs_Or z (0 ≤ (gs_new β η Ir Jr ro9 fo9 ((n : Nat) : Int) (I 39 5) p9) ∧ gc_AT β η (gs_new β η Ir Jr ro9 fo9 ((n : Nat) : Int) (I 39 5) p9) 23 I' J' ∧ gc_PU a1 n (gs_M β η p9) I J I' J' ∧ I a1 1 < ((n : Nat) : Int)) ((gs_new β η Ir Jr ro9 fo9 ((n : Nat) : Int) (I 39 5) p9) < 0 ∧ I' 39 4 = -1 - (gs_new β η Ir Jr ro9 fo9 ((n : Nat) : Int) (I 39 5) p9) ∧ I' a1 1 = I a1 1 ∧ ∀ j, J' (a1 + 1) j = J (a1 + 1) j)))) := by
  have FI : ∀ q j : Nat, ((q = 39 ∧ j = 3) ∨ (q = 39 ∧ j = 4) ∨ (q = 23 ∧ j = 5) ∨ (q = 23 ∧ j = 6) ∨ (q = 23 ∧ j = 7) ∨ (q = 23 ∧ j = 8) ∨ (q = a1 ∧ j = 1)) ∨ I q j = I q j := fun _ _ => Or.inr rfl
  have FJ : ∀ q j : Nat, ((q = 23 ∧ j = 9) ∨ q = (a1 + 1)) ∨ J q j = J q j := fun _ _ => Or.inr rfl
  have A_39_1 : A 39 1 = some 23 := gc_bA hb rfl
  have B_23 : 23 < 1000000 := by decide
  have B_39 : 39 < 1000000 := by decide
  have R_1 : ro 1 = 22 := gc_bR hb (by decide) rfl
  have R_23 : ro 23 = 3 := gc_bR hb (by decide) rfl
  have R_39 : ro 39 = 42 := gc_bR hb (by decide) rfl
  have S_23 : sh[23]? = some (false, 9, 10) := gc_bS hb rfl
  have S_39 : sh[39]? = some (false, 6, 19) := gc_bS hb rfl
  obtain ⟨S_a1, R_a1, B_a1, A_a1_0, S_a1_1, R_a1_1, B_a1_1, Q_lo, Q_hi, Q_n⟩ := id h_a1
  have N1 : a1 ≠ 23 := fun h => by
    have h9 := S_a1
    rw [h, S_23] at h9
    cases h9
  have N2 : a1 ≠ 39 := fun h => by
    have h9 := S_a1
    rw [h, gc_bS hb (p := 39) rfl] at h9
    cases h9
  have N3 : a1 ≠ 24 := fun h => by
    have h9 := S_a1
    rw [h, gc_bS hb (p := 24) rfl] at h9
    cases h9
  have N4 : a1 ≠ 22 := fun h => by
    have h9 := S_a1
    rw [h, gc_bS hb (p := 22) rfl] at h9
    cases h9
  have hD : gv_D (gc_E6 ws0 tb 4 (yX6_readNewName, cX6_readNewName, 4, (some .boolean)) kX6_readNewName) := gq_of oX6_readNewName
  refine gc_ev6 (d := 4) (l := kX6_readNewName) (Po := fun r h' => (∃ (I' : gr_I) (J' : gr_J), h' = gc_h sh I' J' A ∧ gc_Inv ro I' ∧ (∀ q j : Nat, ((q = 39 ∧ j = 3) ∨ (q = 39 ∧ j = 4) ∨ (q = 23 ∧ j = 5) ∨ (q = 23 ∧ j = 6) ∨ (q = 23 ∧ j = 7) ∨ (q = 23 ∧ j = 8) ∨ (q = a1 ∧ j = 1)) ∨ I' q j = I q j) ∧ (∀ q j : Nat, ((q = 23 ∧ j = 9) ∨ q = (a1 + 1)) ∨ J' q j = J q j) ∧ gc_LT I' ∧ gc_TK I' ∧ (∃ z : Int, r = some (.inl z) ∧ 0 ≤ z ∧ z ≤ 1 ∧ (I' 23 1 = I 23 1) ∧ (I 23 5 ≤ I' 23 5) ∧ (I a1 1 ≤ I' a1 1) ∧ (gs_Or z (0 ≤ (gs_new β η Ir Jr ro9 fo9 ((n : Nat) : Int) (I 39 5) p9) ∧ gc_AT β η (gs_new β η Ir Jr ro9 fo9 ((n : Nat) : Int) (I 39 5) p9) 23 I' J' ∧ gc_PU a1 n (gs_M β η p9) I J I' J' ∧ I a1 1 < ((n : Nat) : Int)) ((gs_new β η Ir Jr ro9 fo9 ((n : Nat) : Int) (I 39 5) p9) < 0 ∧ I' 39 4 = -1 - (gs_new β η Ir Jr ro9 fo9 ((n : Nat) : Int) (I 39 5) p9) ∧ I' a1 1 = I a1 1 ∧ ∀ j, J' (a1 + 1) j = J (a1 + 1) j))))) htb rfl (Nat.le_of_ble_eq_true rfl) ?_
  have N_23__a1 : ¬ (23 = a1) := by exact gz_m 0 (by omega)
  have N_24__a1 : ¬ (24 = a1) := by exact gz_m 1 (by omega)
  have N_23__a1_1 : ¬ (23 = (a1 + 1)) := by exact gz_m 2 (by omega)
  have t1 := gc_TK_mo KTK_I
  have f2 := (show 0 ≤ I 23 1 ∧ I 23 1 ≤ 1000 from gc_in hI R_23 rfl rfl)
  have f3 := (show 0 ≤ I 23 5 ∧ I 23 5 ≤ 1000 from gc_in hI R_23 rfl rfl)
  have f4 := (show 0 ≤ I 23 6 ∧ I 23 6 ≤ 1001 from gc_in hI R_23 rfl rfl)
  have f5 := (show 0 ≤ I 23 7 ∧ I 23 7 ≤ 125 from gc_in hI R_23 rfl rfl)
  have f6 := (show 0 ≤ I a1 1 ∧ I a1 1 ≤ ((n : Nat) : Int) from gc_in hI R_a1 Q_lo Q_hi)
  have f7 := (show 0 ≤ I 39 5 ∧ I 39 5 ≤ 1000 from gc_in hI R_39 rfl rfl)
  have f8 := (show 0 ≤ I 1 18 ∧ I 1 18 ≤ 1 from gc_in hI R_1 rfl rfl)
  have f9 := (show 0 ≤ I a1 1 ∧ I a1 1 ≤ ((n : Nat) : Int) from gc_in hI R_a1 Q_lo Q_hi)
  have tAT := gc_AT_l x0
  refine gv_run 2 true hD (pc' := 2) (lv' := [(0, .inr (.inr (some 39))), (1, .inr (.inr (some a1)))]) (st' := [.inr (.inr (some a1)), .inr (.inr (some 39))]) (h' := gc_h sh I J A) (C := ((True ∧ True) ∧ True)) rfl ⟨⟨trivial, trivial⟩, trivial⟩ ?_
  obtain ⟨r10, h10, E10, P10⟩ := d_X6_needNew_p (ws0 := ws0) (tb := tb) hws htb sh ro I J A hI  n ρ β η p9 a1 hb h_a1   x0 (by exact gz_m 3 (by omega)) 
  obtain ⟨I11, J12, rfl, hI11, g10, k10, ⟨z10, rfl, q10⟩⟩ := P10
  have FI11 := gc_frc (W := fun q j => (q = 39 ∧ j = 3) ∨ (q = 39 ∧ j = 4) ∨ (q = 23 ∧ j = 5) ∨ (q = 23 ∧ j = 6) ∨ (q = 23 ∧ j = 7) ∨ (q = 23 ∧ j = 8) ∨ (q = a1 ∧ j = 1)) (V := fun q j => (q = 39 ∧ j = 3) ∨ (q = 39 ∧ j = 4)) FI (fun q j h => (h.elim (fun h => (Or.inl h)) (fun h => (Or.inr (Or.inl h))))) g10
  have t13 := (g10 23 1).resolve_left (fun h => h.elim (fun h => absurd h.2 (by decide)) (fun h => absurd h.2 (by decide)))
  have t14 := (g10 23 5).resolve_left (fun h => h.elim (fun h => absurd h.2 (by decide)) (fun h => absurd h.2 (by decide)))
  have t15 := (g10 23 6).resolve_left (fun h => h.elim (fun h => absurd h.2 (by decide)) (fun h => absurd h.2 (by decide)))
  have t16 := (g10 23 7).resolve_left (fun h => h.elim (fun h => absurd h.2 (by decide)) (fun h => absurd h.2 (by decide)))
  have t17 := (g10 a1 1).resolve_left (fun h => h.elim (fun h => absurd h.2 (by decide)) (fun h => absurd h.2 (by decide)))
  have t18 := (g10 39 5).resolve_left (fun h => h.elim (fun h => absurd h.2 (by decide)) (fun h => absurd h.2 (by decide)))
  have t19 := (g10 1 18).resolve_left (fun h => h.elim (fun h => absurd h.2 (by decide)) (fun h => absurd h.2 (by decide)))
  have t20 := (g10 a1 1).resolve_left (fun h => h.elim (fun h => absurd h.2 (by decide)) (fun h => absurd h.2 (by decide)))
  obtain rfl : J = J12 := funext fun q => funext fun j => ((k10 q j).resolve_left id).symm
  have KLT_I11 := gc_LT_fr KLT_I ((g10 23 5).resolve_left (fun h => h.elim (fun h => absurd h.2 (by decide)) (fun h => absurd h.2 (by decide)))) ((g10 23 6).resolve_left (fun h => h.elim (fun h => absurd h.2 (by decide)) (fun h => absurd h.2 (by decide)))) ((g10 23 7).resolve_left (fun h => h.elim (fun h => absurd h.2 (by decide)) (fun h => absurd h.2 (by decide)))) (fun k => (g10 24 k).resolve_left (fun h => h.elim (fun h => absurd h.1 (by decide)) (fun h => absurd h.1 (by decide))))
  have KTK_I11 := gc_TK_fr KTK_I ((g10 23 1).resolve_left (fun h => h.elim (fun h => absurd h.2 (by decide)) (fun h => absurd h.2 (by decide)))) ((g10 23 5).resolve_left (fun h => h.elim (fun h => absurd h.2 (by decide)) (fun h => absurd h.2 (by decide)))) ((g10 23 6).resolve_left (fun h => h.elim (fun h => absurd h.2 (by decide)) (fun h => absurd h.2 (by decide)))) ((g10 23 7).resolve_left (fun h => h.elim (fun h => absurd h.2 (by decide)) (fun h => absurd h.2 (by decide))))
  have A21 := gc_AT_I x0 ((g10 23 1).resolve_left (fun h => h.elim (fun h => absurd h.2 (by decide)) (fun h => absurd h.2 (by decide)))) ((g10 23 5).resolve_left (fun h => h.elim (fun h => absurd h.2 (by decide)) (fun h => absurd h.2 (by decide)))) ((g10 23 6).resolve_left (fun h => h.elim (fun h => absurd h.2 (by decide)) (fun h => absurd h.2 (by decide)))) ((g10 23 7).resolve_left (fun h => h.elim (fun h => absurd h.2 (by decide)) (fun h => absurd h.2 (by decide)))) ((g10 23 8).resolve_left (fun h => h.elim (fun h => absurd h.2 (by decide)) (fun h => absurd h.2 (by decide)))) (fun k => (g10 24 k).resolve_left (fun h => h.elim (fun h => absurd h.1 (by decide)) (fun h => absurd h.1 (by decide))))
  have t22 := gc_AT_l A21
  refine gv_callV hD rfl (As := [.inr (.inr (some a1))]) (st := []) rfl B_39 S_39 rfl (gc_lV6 hws rfl) (Nat.le_of_ble_eq_true rfl) (gz_Ev_mono (d := 3) (by decide) E10) ?_
  show gv_X _ _ (5, [(0, .inr (.inr (some 39))), (1, .inr (.inr (some a1)))], [.inl z10], sh, gc_h sh I11 J A)
  refine gv_if_ne (t := 10) hD rfl rfl ⟨by exact gz_m 4 (by omega), by exact gz_m 5 (by omega)⟩ (fun c23 => ?_) (fun c23 => ?_)
  · show gv_X _ _ (10, [(0, .inr (.inr (some 39))), (1, .inr (.inr (some a1)))], [], sh, gc_h sh I11 J A)
    have u24 := gs_or1 q10.2.2.2 (by exact gz_m 6 (by omega))
    have tM := gc_AT_m A21 (by exact gz_m 7 (by omega))
    have tL : gs_T β η p9 = 1 → gc_fd (J (a1 + 1)) (gs_M β η p9) (Int.toNat (I a1 1)) = gs_lk Ir Jr ro9 fo9 (gs_rn β η p9) := fun h => gs_NA_lk x4 x3 h
    refine gv_run 1 true hD (pc' := 11) (lv' := [(0, .inr (.inr (some 39))), (1, .inr (.inr (some a1)))]) (st' := [.inr (.inr (some 39))]) (h' := gc_h sh I11 J A) (C := (True ∧ True)) rfl ⟨trivial, trivial⟩ ?_
    refine gv_get hD rfl rfl S_39 ⟨by decide, B_39⟩ (gc_hA S_39 rfl A_39_1) ?_
    show gv_X _ _ (14, [(0, .inr (.inr (some 39))), (1, .inr (.inr (some a1)))], [.inr (.inr (some 23))], sh, gc_h sh I11 J A)
    refine gv_get hD rfl rfl S_23 ⟨by decide, B_23⟩ (gc_hJ S_23 rfl) ?_
    show gv_X _ _ (17, [(0, .inr (.inr (some 39))), (1, .inr (.inr (some a1)))], [.inr (.inl (J 23 9))], sh, gc_h sh I11 J A)
    refine gv_run 2 true hD (pc' := 19) (lv' := [(2, .inr (.inl (J 23 9))), (0, .inr (.inr (some 39))), (1, .inr (.inr (some a1)))]) (st' := [.inr (.inr (some 39))]) (h' := gc_h sh I11 J A) (C := ((True ∧ True) ∧ True)) rfl ⟨⟨trivial, trivial⟩, trivial⟩ ?_
    refine gv_get hD rfl rfl S_39 ⟨by decide, B_39⟩ (gc_hA S_39 rfl A_39_1) ?_
    show gv_X _ _ (22, [(2, .inr (.inl (J 23 9))), (0, .inr (.inr (some 39))), (1, .inr (.inr (some a1)))], [.inr (.inr (some 23))], sh, gc_h sh I11 J A)
    have t26 := gc_TK_nx KTK_I11 (by exact gz_m 8 (by omega))
    obtain ⟨r25, h25, E25, P25⟩ := d_X9_advance_p (ws0 := ws0) (tb := tb) hws htb sh ro I11 J A hI11 23 β η  (gc_b23 hb)    (by exact gz_m 9 (by omega)) A21.1.1 A21.1.2 
    obtain ⟨I27, J28, rfl, hI27, g25, k25, ⟨rfl, V25_0, V25_1, V25_2, V25_3, V25_4, q25⟩⟩ := P25
    have FI27 := gc_frc (W := fun q j => (q = 39 ∧ j = 3) ∨ (q = 39 ∧ j = 4) ∨ (q = 23 ∧ j = 5) ∨ (q = 23 ∧ j = 6) ∨ (q = 23 ∧ j = 7) ∨ (q = 23 ∧ j = 8) ∨ (q = a1 ∧ j = 1)) (V := fun q j => (q = 23 ∧ j = 5) ∨ (q = 23 ∧ j = 6) ∨ (q = 23 ∧ j = 7) ∨ (q = 23 ∧ j = 8)) FI11 (fun q j h => (h.elim (fun h => (Or.inr (Or.inr (Or.inl h)))) (fun h => (h.elim (fun h => (Or.inr (Or.inr (Or.inr (Or.inl h))))) (fun h => (h.elim (fun h => (Or.inr (Or.inr (Or.inr (Or.inr (Or.inl h)))))) (fun h => (Or.inr (Or.inr (Or.inr (Or.inr (Or.inr (Or.inl h))))))))))))) g25
    have FJ28 := gc_frc (W := fun q j => (q = 23 ∧ j = 9) ∨ q = (a1 + 1)) (V := fun q j => (q = 23 ∧ j = 9)) FJ (fun q j h => (Or.inl h)) k25
    have t29 := (g25 23 1).resolve_left (fun h => h.elim (fun h => absurd h.2 (by decide)) (fun h => h.elim (fun h => absurd h.2 (by decide)) (fun h => h.elim (fun h => absurd h.2 (by decide)) (fun h => absurd h.2 (by decide)))))
    have t30 := (g25 a1 1).resolve_left (fun h => h.elim (fun h => absurd h.2 (by decide)) (fun h => h.elim (fun h => absurd h.2 (by decide)) (fun h => h.elim (fun h => absurd h.2 (by decide)) (fun h => absurd h.2 (by decide)))))
    have t31 := (g25 39 5).resolve_left (fun h => h.elim (fun h => absurd h.1 (by decide)) (fun h => h.elim (fun h => absurd h.2 (by decide)) (fun h => h.elim (fun h => absurd h.2 (by decide)) (fun h => absurd h.2 (by decide)))))
    have t32 := (g25 1 18).resolve_left (fun h => h.elim (fun h => absurd h.2 (by decide)) (fun h => h.elim (fun h => absurd h.2 (by decide)) (fun h => h.elim (fun h => absurd h.2 (by decide)) (fun h => absurd h.2 (by decide)))))
    have t33 := (g25 a1 1).resolve_left (fun h => h.elim (fun h => absurd h.2 (by decide)) (fun h => h.elim (fun h => absurd h.2 (by decide)) (fun h => h.elim (fun h => absurd h.2 (by decide)) (fun h => absurd h.2 (by decide)))))
    have f34 := (show 0 ≤ I27 23 5 ∧ I27 23 5 ≤ 1000 from gc_in hI27 R_23 rfl rfl)
    have f35 := (show 0 ≤ I27 23 6 ∧ I27 23 6 ≤ 1001 from gc_in hI27 R_23 rfl rfl)
    have f36 := (show 0 ≤ I27 23 7 ∧ I27 23 7 ≤ 125 from gc_in hI27 R_23 rfl rfl)
    have KLT_I27 : gc_LT I27 := q25.2.2.1
    have KTK_I27 : gc_TK I27 := And.intro V25_0 (And.intro V25_1 (And.intro V25_2 (And.intro V25_3 V25_4)))
    have t37 := gc_TK_mo KTK_I27
    clear V25_0 V25_1 V25_2 V25_3 V25_4
    have A38 := gc_AT_nx A21 q25.2.2.2
    have t39 := gc_AT_l A38
    refine gv_callV hD rfl (As := []) (st := []) rfl B_23 S_23 rfl (gc_lV6 hws rfl) (Nat.le_of_ble_eq_true rfl) (gz_Ev_mono (d := 2) (by decide) E25) ?_
    show gv_X _ _ (25, [(2, .inr (.inl (J 23 9))), (0, .inr (.inr (some 39))), (1, .inr (.inr (some a1)))], [], sh, gc_h sh I27 J28 A)
    refine gv_run 2 true hD (pc' := 27) (lv' := [(2, .inr (.inl (J 23 9))), (0, .inr (.inr (some 39))), (1, .inr (.inr (some a1)))]) (st' := [.inr (.inr (some a1)), .inr (.inr (some 39))]) (h' := gc_h sh I27 J28 A) (C := ((True ∧ True) ∧ True)) rfl ⟨⟨trivial, trivial⟩, trivial⟩ ?_
    obtain ⟨r40, h40, E40, P40⟩ := d_X4_isFull_p (ws0 := ws0) (tb := tb) hws htb sh ro I27 J28 A hI27 a1 n ρ  h_a1     
    obtain ⟨rfl, ⟨z40, rfl, q40⟩⟩ := P40
    refine gv_callV hD rfl (As := []) (st := [.inr (.inr (some 39))]) rfl B_a1 S_a1 rfl (gc_lV6 hws rfl) (Nat.le_of_ble_eq_true rfl) (gz_Ev_mono (d := 1) (by decide) E40) ?_
    show gv_X _ _ (30, [(2, .inr (.inl (J 23 9))), (0, .inr (.inr (some 39))), (1, .inr (.inr (some a1)))], [.inl z40, .inr (.inr (some 39))], sh, gc_h sh I27 J28 A)
    obtain ⟨r41, h41, E41, P41⟩ := d_X6_closes_p (ws0 := ws0) (tb := tb) hws htb sh ro I27 J28 A hI27  β η (gs_X β η p9) z40 hb   ⟨by exact gz_m 10 (by omega), by exact gz_m 11 (by omega)⟩ A38 (by exact gz_m 12 (by omega)) (by exact gz_m 13 (by omega)) KLT_I27 KTK_I27
    obtain ⟨I42, J43, rfl, hI42, g41, k41, KLT_I42, KTK_I42, ⟨z41, rfl, q41⟩⟩ := P41
    have FI42 := gc_frc (W := fun q j => (q = 39 ∧ j = 3) ∨ (q = 39 ∧ j = 4) ∨ (q = 23 ∧ j = 5) ∨ (q = 23 ∧ j = 6) ∨ (q = 23 ∧ j = 7) ∨ (q = 23 ∧ j = 8) ∨ (q = a1 ∧ j = 1)) (V := fun q j => (q = 39 ∧ j = 3) ∨ (q = 39 ∧ j = 4) ∨ (q = 23 ∧ j = 5) ∨ (q = 23 ∧ j = 6) ∨ (q = 23 ∧ j = 7) ∨ (q = 23 ∧ j = 8)) FI27 (fun q j h => (h.elim (fun h => (Or.inl h)) (fun h => (h.elim (fun h => (Or.inr (Or.inl h))) (fun h => (h.elim (fun h => (Or.inr (Or.inr (Or.inl h)))) (fun h => (h.elim (fun h => (Or.inr (Or.inr (Or.inr (Or.inl h))))) (fun h => (h.elim (fun h => (Or.inr (Or.inr (Or.inr (Or.inr (Or.inl h)))))) (fun h => (Or.inr (Or.inr (Or.inr (Or.inr (Or.inr (Or.inl h))))))))))))))))) g41
    have FJ43 := gc_frc (W := fun q j => (q = 23 ∧ j = 9) ∨ q = (a1 + 1)) (V := fun q j => (q = 23 ∧ j = 9)) FJ28 (fun q j h => (Or.inl h)) k41
    have t44 := (g41 23 1).resolve_left (fun h => h.elim (fun h => absurd h.2 (by decide)) (fun h => h.elim (fun h => absurd h.2 (by decide)) (fun h => h.elim (fun h => absurd h.2 (by decide)) (fun h => h.elim (fun h => absurd h.2 (by decide)) (fun h => h.elim (fun h => absurd h.2 (by decide)) (fun h => absurd h.2 (by decide)))))))
    have t45 := (g41 a1 1).resolve_left (fun h => h.elim (fun h => absurd h.2 (by decide)) (fun h => h.elim (fun h => absurd h.2 (by decide)) (fun h => h.elim (fun h => absurd h.2 (by decide)) (fun h => h.elim (fun h => absurd h.2 (by decide)) (fun h => h.elim (fun h => absurd h.2 (by decide)) (fun h => absurd h.2 (by decide)))))))
    have t46 := (g41 39 5).resolve_left (fun h => h.elim (fun h => absurd h.2 (by decide)) (fun h => h.elim (fun h => absurd h.2 (by decide)) (fun h => h.elim (fun h => absurd h.1 (by decide)) (fun h => h.elim (fun h => absurd h.2 (by decide)) (fun h => h.elim (fun h => absurd h.2 (by decide)) (fun h => absurd h.2 (by decide)))))))
    have t47 := (g41 1 18).resolve_left (fun h => h.elim (fun h => absurd h.2 (by decide)) (fun h => h.elim (fun h => absurd h.2 (by decide)) (fun h => h.elim (fun h => absurd h.2 (by decide)) (fun h => h.elim (fun h => absurd h.2 (by decide)) (fun h => h.elim (fun h => absurd h.2 (by decide)) (fun h => absurd h.2 (by decide)))))))
    have t48 := (g41 a1 1).resolve_left (fun h => h.elim (fun h => absurd h.2 (by decide)) (fun h => h.elim (fun h => absurd h.2 (by decide)) (fun h => h.elim (fun h => absurd h.2 (by decide)) (fun h => h.elim (fun h => absurd h.2 (by decide)) (fun h => h.elim (fun h => absurd h.2 (by decide)) (fun h => absurd h.2 (by decide)))))))
    have f49 := (show 0 ≤ I42 23 5 ∧ I42 23 5 ≤ 1000 from gc_in hI42 R_23 rfl rfl)
    have f50 := (show 0 ≤ I42 23 6 ∧ I42 23 6 ≤ 1001 from gc_in hI42 R_23 rfl rfl)
    have f51 := (show 0 ≤ I42 23 7 ∧ I42 23 7 ≤ 125 from gc_in hI42 R_23 rfl rfl)
    have t52 := gc_TK_mo KTK_I42
    refine gv_callV hD rfl (As := [.inl z40]) (st := []) rfl B_39 S_39 rfl (gc_lV6 hws rfl) (Nat.le_of_ble_eq_true rfl) (gz_Ev_mono (d := 4) (by decide) E41) ?_
    show gv_X _ _ (33, [(2, .inr (.inl (J 23 9))), (0, .inr (.inr (some 39))), (1, .inr (.inr (some a1)))], [.inl z41], sh, gc_h sh I42 J43 A)
    refine gv_if_ne (t := 38) hD rfl rfl ⟨by exact gz_m 14 (by omega), by exact gz_m 15 (by omega)⟩ (fun c53 => ?_) (fun c53 => ?_)
    · show gv_X _ _ (38, [(2, .inr (.inl (J 23 9))), (0, .inr (.inr (some 39))), (1, .inr (.inr (some a1)))], [], sh, gc_h sh I42 J43 A)
      have V54 := q41.2.2.2.2.2
      rw [show I27 39 5 = I 39 5 from by exact gz_m 16 (by omega)] at V54
      rw [show (if z40 = 0 then (1 : Int) else 0) = (if Ir 0 fo9 < ((n : Nat) : Int) then 1 else 0) from gs_rm (by exact gz_m 17 (by omega))] at V54
      obtain ⟨u54, A54⟩ := gs_or1 V54 (by exact gz_m 18 (by omega))
      have t55 := gc_AT_l A54
      refine gv_run 2 true hD (pc' := 40) (lv' := [(2, .inr (.inl (J 23 9))), (0, .inr (.inr (some 39))), (1, .inr (.inr (some a1)))]) (st' := [.inr (.inl (J 23 9)), .inr (.inr (some a1))]) (h' := gc_h sh I42 J43 A) (C := ((True ∧ True) ∧ True)) rfl ⟨⟨trivial, trivial⟩, trivial⟩ ?_
      obtain ⟨r56, h56, E56, P56⟩ := d_X4_put_p (ws0 := ws0) (tb := tb) hws htb sh ro I42 J43 A hI42 a1 n ρ (J 23 9) h_a1     
      obtain ⟨I57, J58, rfl, hI57, g56, k56, ⟨rfl, q56⟩⟩ := P56
      have FI57 := gc_frc (W := fun q j => (q = 39 ∧ j = 3) ∨ (q = 39 ∧ j = 4) ∨ (q = 23 ∧ j = 5) ∨ (q = 23 ∧ j = 6) ∨ (q = 23 ∧ j = 7) ∨ (q = 23 ∧ j = 8) ∨ (q = a1 ∧ j = 1)) (V := fun q j => (q = a1 ∧ j = 1)) FI42 (fun q j h => (Or.inr (Or.inr (Or.inr (Or.inr (Or.inr (Or.inr h))))))) g56
      have FJ58 := gc_frc (W := fun q j => (q = 23 ∧ j = 9) ∨ q = (a1 + 1)) (V := fun q j => q = (a1 + 1)) FJ43 (fun q j h => (Or.inr h)) k56
      have t59 := (g56 23 1).resolve_left (fun h => absurd h.1 N_23__a1)
      have t60 := (g56 23 5).resolve_left (fun h => absurd h.2 (by decide))
      have t61 := (g56 23 6).resolve_left (fun h => absurd h.2 (by decide))
      have t62 := (g56 23 7).resolve_left (fun h => absurd h.2 (by decide))
      have t63 := (g56 39 5).resolve_left (fun h => absurd h.2 (by decide))
      have t64 := (g56 1 18).resolve_left (fun h => absurd h.2 (by decide))
      have f65 := (show 0 ≤ I57 a1 1 ∧ I57 a1 1 ≤ ((n : Nat) : Int) from gc_in hI57 R_a1 Q_lo Q_hi)
      have f66 := (show 0 ≤ I57 a1 1 ∧ I57 a1 1 ≤ ((n : Nat) : Int) from gc_in hI57 R_a1 Q_lo Q_hi)
      have KLT_I57 := gc_LT_fr KLT_I42 ((g56 23 5).resolve_left (fun h => absurd h.2 (by decide))) ((g56 23 6).resolve_left (fun h => absurd h.2 (by decide))) ((g56 23 7).resolve_left (fun h => absurd h.2 (by decide))) (fun k => (g56 24 k).resolve_left (fun h => absurd h.1 N_24__a1))
      have KTK_I57 := gc_TK_fr KTK_I42 ((g56 23 1).resolve_left (fun h => absurd h.1 N_23__a1)) ((g56 23 5).resolve_left (fun h => absurd h.2 (by decide))) ((g56 23 6).resolve_left (fun h => absurd h.2 (by decide))) ((g56 23 7).resolve_left (fun h => absurd h.2 (by decide)))
      have A67 := gc_AT_I A54 ((g56 23 1).resolve_left (fun h => absurd h.1 N_23__a1)) ((g56 23 5).resolve_left (fun h => absurd h.2 (by decide))) ((g56 23 6).resolve_left (fun h => absurd h.2 (by decide))) ((g56 23 7).resolve_left (fun h => absurd h.2 (by decide))) ((g56 23 8).resolve_left (fun h => absurd h.2 (by decide))) (fun k => (g56 24 k).resolve_left (fun h => absurd h.1 N_24__a1))
      have A68 := gc_AT_J A67 ((k56 23 9).resolve_left (fun h => absurd h N_23__a1_1))
      have t69 := gc_AT_l A68
      refine gv_callV hD rfl (As := [.inr (.inl (J 23 9))]) (st := []) rfl B_a1 S_a1 rfl (gc_lV6 hws rfl) (Nat.le_of_ble_eq_true rfl) (gz_Ev_mono (d := 1) (by decide) E56) ?_
      show gv_X _ _ (43, [(2, .inr (.inl (J 23 9))), (0, .inr (.inr (some 39))), (1, .inr (.inr (some a1)))], [], sh, gc_h sh I57 J58 A)
      refine gv_run 1 true hD (pc' := 44) (lv' := [(2, .inr (.inl (J 23 9))), (0, .inr (.inr (some 39))), (1, .inr (.inr (some a1)))]) (st' := [.inl 1]) (h' := gc_h sh I57 J58 A) (C := (True ∧ True)) rfl ⟨trivial, trivial⟩ ?_
      exact gv_zret hD rfl (by exact gz_m 19 (by omega)) ⟨I57, J58, rfl, hI57, FI57, FJ58, KLT_I57, KTK_I57, ⟨_, rfl, by exact gz_m 20 (by omega), by exact gz_m 21 (by omega), by exact gz_m 22 (by omega), by exact gz_m 23 (by omega), by exact gz_m 24 (by omega), (Or.inl ⟨by exact gz_m 25 (by omega), by have e9 : (gs_new β η Ir Jr ro9 fo9 ((n : Nat) : Int) (I 39 5) p9) = (gs_done β η (if Ir 0 fo9 < ((n : Nat) : Int) then 1 else 0) (I 39 5) (gs_X β η p9)) := (by unfold gs_new; have h9 := tL (by exact gz_m 26 (by omega)); (repeat first | rw [if_pos (by exact gz_m 27 (by omega))] | rw [if_neg (by exact gz_m 28 (by omega))])); rw [e9]; exact ⟨by exact gz_m 29 (by omega), A68, (gc_PU_tr q56.2.2.2 ((((g41 a1 1).resolve_left (by exact gz_m 30 (by omega))).trans ((g25 a1 1).resolve_left (by exact gz_m 31 (by omega)))).trans ((g10 a1 1).resolve_left (by exact gz_m 32 (by omega)))) (fun j => (((k41 (a1 + 1) j).resolve_left (by exact gz_m 33 (by omega))).trans ((k25 (a1 + 1) j).resolve_left (by exact gz_m 34 (by omega))))) tM), by exact gz_m 35 (by omega)⟩⟩)⟩⟩
    · show gv_X _ _ (36, [(2, .inr (.inl (J 23 9))), (0, .inr (.inr (some 39))), (1, .inr (.inr (some a1)))], [], sh, gc_h sh I42 J43 A)
      have V70 := q41.2.2.2.2.2
      rw [show I27 39 5 = I 39 5 from by exact gz_m 36 (by omega)] at V70
      rw [show (if z40 = 0 then (1 : Int) else 0) = (if Ir 0 fo9 < ((n : Nat) : Int) then 1 else 0) from gs_rm (by exact gz_m 37 (by omega))] at V70
      obtain ⟨u70, u70_⟩ := gs_or0 V70 (by exact gz_m 38 (by omega))
      refine gv_run 1 true hD (pc' := 37) (lv' := [(2, .inr (.inl (J 23 9))), (0, .inr (.inr (some 39))), (1, .inr (.inr (some a1)))]) (st' := [.inl 0]) (h' := gc_h sh I42 J43 A) (C := (True ∧ True)) rfl ⟨trivial, trivial⟩ ?_
      exact gv_zret hD rfl (by exact gz_m 39 (by omega)) ⟨I42, J43, rfl, hI42, FI42, FJ43, KLT_I42, KTK_I42, ⟨_, rfl, by exact gz_m 40 (by omega), by exact gz_m 41 (by omega), by exact gz_m 42 (by omega), by exact gz_m 43 (by omega), by exact gz_m 44 (by omega), (Or.inr ⟨by exact gz_m 45 (by omega), by unfold gs_new; have h9 := tL (by exact gz_m 46 (by omega)); (repeat first | rw [if_pos (by exact gz_m 47 (by omega))] | rw [if_neg (by exact gz_m 48 (by omega))]); exact ⟨by exact gz_m 49 (by omega), by exact gz_m 50 (by omega), ((((g41 a1 1).resolve_left (by exact gz_m 51 (by omega))).trans ((g25 a1 1).resolve_left (by exact gz_m 52 (by omega)))).trans ((g10 a1 1).resolve_left (by exact gz_m 53 (by omega)))), fun j => (((k41 (a1 + 1) j).resolve_left (by exact gz_m 54 (by omega))).trans ((k25 (a1 + 1) j).resolve_left (by exact gz_m 55 (by omega))))⟩⟩)⟩⟩
  · show gv_X _ _ (8, [(0, .inr (.inr (some 39))), (1, .inr (.inr (some a1)))], [], sh, gc_h sh I11 J A)
    have u71 := gs_or0 q10.2.2.2 (by exact gz_m 56 (by omega))
    have tL : gs_T β η p9 = 1 → gc_fd (J (a1 + 1)) (gs_M β η p9) (Int.toNat (I a1 1)) = gs_lk Ir Jr ro9 fo9 (gs_rn β η p9) := fun h => gs_NA_lk x4 x3 h
    refine gv_run 1 true hD (pc' := 9) (lv' := [(0, .inr (.inr (some 39))), (1, .inr (.inr (some a1)))]) (st' := [.inl 0]) (h' := gc_h sh I11 J A) (C := (True ∧ True)) rfl ⟨trivial, trivial⟩ ?_
    exact gv_zret hD rfl (by exact gz_m 57 (by omega)) ⟨I11, J, rfl, hI11, FI11, FJ, KLT_I11, KTK_I11, ⟨_, rfl, by exact gz_m 58 (by omega), by exact gz_m 59 (by omega), by exact gz_m 60 (by omega), by exact gz_m 61 (by omega), by exact gz_m 62 (by omega), (Or.inr ⟨by exact gz_m 63 (by omega), by unfold gs_new; by_cases c9 : gs_T β η p9 = 1; (have h9 := tL c9; (repeat first | rw [if_pos (by exact gz_m 64 (by omega))] | rw [if_neg (by exact gz_m 65 (by omega))]); exact ⟨by exact gz_m 66 (by omega), by exact gz_m 67 (by omega), ((g10 a1 1).resolve_left (by exact gz_m 68 (by omega))), fun j => rfl⟩); (repeat first | rw [if_pos (by exact gz_m 69 (by omega))] | rw [if_neg (by exact gz_m 70 (by omega))]); exact ⟨by exact gz_m 71 (by omega), by exact gz_m 72 (by omega), ((g10 a1 1).resolve_left (by exact gz_m 73 (by omega))), fun j => rfl⟩⟩)⟩⟩
