/-! PARITY, the class's side: a statement's keyword -/
set_option maxHeartbeats 8000000 in
set_option maxRecDepth 100000 in
theorem d_X6_readStatement_h_p {ws0 : List Cond} {tb : String → gz_T} (hws : gc_Ws ws0) (htb : gc_tbs tb) (sh : gz_Sh) (ro : Nat → Nat) (I : gr_I) (J : gr_J) (A : gc_A) (hI : gc_Inv ro I) (β : Int → Int) (η : Int) (p9 : Int)  (hb : gc_Base sh ro A)  (x0 : gc_AT β η p9 23 I J) (x1 : 0 ≤ p9) (KLT_I : gc_LT I) (KTK_I : gc_TK I) {Q : gz_S → Prop} (hQ : ∀ v, gv_Q cX6_readStatement (some .boolean) sh (fun r hₚ => (∃ (Iₚ : gr_I) (Jₚ : gr_J), hₚ = gc_h sh Iₚ Jₚ A ∧ gc_Inv ro Iₚ ∧ (∀ q j : Nat, ((q = 39 ∧ j = 3) ∨ (q = 39 ∧ j = 4) ∨ (q = 23 ∧ j = 5) ∨ (q = 23 ∧ j = 6) ∨ (q = 23 ∧ j = 7) ∨ (q = 23 ∧ j = 8) ∨ (q = 39 ∧ j = 5)) ∨ Iₚ q j = I q j) ∧ (∀ q j : Nat, ((q = 23 ∧ j = 9)) ∨ Jₚ q j = J q j) ∧ gc_LT Iₚ ∧ gc_TK Iₚ ∧ (∃ z : Int, r = some (.inl z) ∧ 0 ≤ z ∧ z ≤ 1 ∧ (Iₚ 23 1 = I 23 1) ∧ (I 23 5 ≤ Iₚ 23 5) ∧ (z = 0) ∧ (¬ gs_T β η p9 = 1 ∧ Iₚ 39 4 = gs_A β η p9)))) v → Q v) (L47 : ∀ (I7 : gr_I) (J8 : gr_J) (v1_9 : Int64), gc_Inv ro I7 → (∀ q j : Nat, ((q = 39 ∧ j = 3) ∨ (q = 39 ∧ j = 4) ∨ (q = 23 ∧ j = 5) ∨ (q = 23 ∧ j = 6) ∨ (q = 23 ∧ j = 7) ∨ (q = 23 ∧ j = 8) ∨ (q = 39 ∧ j = 5)) ∨ I7 q j = I q j) → (∀ q j : Nat, ((q = 23 ∧ j = 9)) ∨ J8 q j = J q j) → gc_LT I7 → gc_TK I7 → ((I 23 5 < I7 23 5) ∧ (gs_T β η p9 = 1) ∧ (I7 39 5 = gs_A β η p9) ∧ (I7 23 1 = I 23 1) ∧ (I 23 5 ≤ I7 23 5)) → (v1_9 = gs_M β η p9) → (gc_AT β η (gs_X β η p9) 23 I7 J8) → gv_X (gc_E6 ws0 tb 91 (yX6_readStatement, cX6_readStatement, 4, (some .boolean)) kX6_readStatement) Q (47, [(0, .inr (.inr (some 39))), (1, .inr (.inl v1_9))], [], sh, gc_h sh I7 J8 A)) : gv_X (gc_E6 ws0 tb 91 (yX6_readStatement, cX6_readStatement, 4, (some .boolean)) kX6_readStatement) Q (0, [(0, .inr (.inr (some 39)))], [], sh, gc_h sh I J A) := by
  have FI : ∀ q j : Nat, ((q = 39 ∧ j = 3) ∨ (q = 39 ∧ j = 4) ∨ (q = 23 ∧ j = 5) ∨ (q = 23 ∧ j = 6) ∨ (q = 23 ∧ j = 7) ∨ (q = 23 ∧ j = 8) ∨ (q = 39 ∧ j = 5)) ∨ I q j = I q j := fun _ _ => Or.inr rfl
  have FJ : ∀ q j : Nat, ((q = 23 ∧ j = 9)) ∨ J q j = J q j := fun _ _ => Or.inr rfl
  have A_39_1 : A 39 1 = some 23 := gc_bA_39_1 hb
  have B_23 := gz_hi (show 23 < 1000000 from by decide)
  have B_39 := gz_hi (show 39 < 1000000 from by decide)
  have R_23 := gz_hi (show ro 23 = 3 from gc_bR_23 hb)
  have R_39 := gz_hi (show ro 39 = 42 from gc_bR_39 hb)
  have S_23 : sh[23]? = some (false, 9, 10) := gc_bS_23 hb
  have S_39 : sh[39]? = some (false, 6, 19) := gc_bS_39 hb
  have hD : gv_D (gc_E6 ws0 tb 91 (yX6_readStatement, cX6_readStatement, 4, (some .boolean)) kX6_readStatement) := gq_of oX6_readStatement
  have f3 := gz_hi ((gc_b_3_5 hI (gz_sh R_23)))
  have f5 := gz_hi ((gc_b_3_7 hI (gz_sh R_23)))
  have tAT := gc_AT_l x0
  refine gv_run 2 true hD (pcₚ := 2) (lvₚ := [(0, .inr (.inr (some 39)))]) (stₚ := [.inr (.inr (some 39)), .inr (.inr (some 39))]) (hₚ := gc_h sh I J A) (C := ((True ∧ True) ∧ True)) rfl ⟨⟨trivial, trivial⟩, trivial⟩ ?_
  refine gv_get hD rfl rfl S_39 ⟨by decide, (gz_sh B_39)⟩ (gc_hA S_39 rfl A_39_1) ?_
  show gv_X _ _ (5, [(0, .inr (.inr (some 39)))], [.inr (.inr (some 23)), .inr (.inr (some 39))], sh, gc_h sh I J A)
  refine gv_get hD rfl rfl S_23 ⟨by decide, (gz_sh B_23)⟩ (gc_hI S_23 rfl) ?_
  show gv_X _ _ (8, [(0, .inr (.inr (some 39)))], [.inl (I 23 5), .inr (.inr (some 39))], sh, gc_h sh I J A)
  refine gv_put hD rfl rfl S_39 ⟨by decide, (gz_sh B_39)⟩ rfl trivial ?_
  refine gc_st (k := 5) hI S_39 rfl (gz_sh R_39) (lo := 0) (hi := 1000) rfl rfl (by (/-0-/first | (have o1 := gz_sh f3; omega) | (simp only [gz_hd] at *; omega))) (by (/-1-/first | (have o1 := gz_sh f3; omega) | (simp only [gz_hd] at *; omega))) (fun I11 hI11 q12 p12 => ?_)
  have FI11 := gc_frs (W := fun q j => (q = 39 ∧ j = 3) ∨ (q = 39 ∧ j = 4) ∨ (q = 23 ∧ j = 5) ∨ (q = 23 ∧ j = 6) ∨ (q = 23 ∧ j = 7) ∨ (q = 23 ∧ j = 8) ∨ (q = 39 ∧ j = 5)) FI (Or.inr (Or.inr (Or.inr (Or.inr (Or.inr (Or.inr ⟨rfl, rfl⟩)))))) p12
  have t13 := gz_hi (p12 23 1 (fun h => absurd h.2 (by first | exact gz_ne rfl | decide)))
  have t14 := gz_hi (p12 23 5 (fun h => absurd h.1 (by first | exact gz_ne rfl | decide)))
  have t16 := gz_hi (p12 23 7 (fun h => absurd h.2 (by first | exact gz_ne rfl | decide)))
  have KLT_I11 := gc_LT_fr KLT_I (p12 23 5 (fun h => absurd h.1 (by first | exact gz_ne rfl | decide))) (p12 23 6 (fun h => absurd h.2 (by first | exact gz_ne rfl | decide))) (p12 23 7 (fun h => absurd h.2 (by first | exact gz_ne rfl | decide))) (fun k => p12 24 k (fun h => absurd h.1 (by first | exact gz_ne rfl | decide)))
  have KTK_I11 := gc_TK_fr KTK_I (p12 23 1 (fun h => absurd h.2 (by first | exact gz_ne rfl | decide))) (p12 23 5 (fun h => absurd h.1 (by first | exact gz_ne rfl | decide))) (p12 23 6 (fun h => absurd h.2 (by first | exact gz_ne rfl | decide))) (p12 23 7 (fun h => absurd h.2 (by first | exact gz_ne rfl | decide)))
  have A18 := gc_AT_I x0 (p12 23 1 (fun h => absurd h.2 (by first | exact gz_ne rfl | decide))) (p12 23 5 (fun h => absurd h.1 (by first | exact gz_ne rfl | decide))) (p12 23 6 (fun h => absurd h.2 (by first | exact gz_ne rfl | decide))) (p12 23 7 (fun h => absurd h.2 (by first | exact gz_ne rfl | decide))) (p12 23 8 (fun h => absurd h.2 (by first | exact gz_ne rfl | decide))) (fun k => p12 24 k (fun h => absurd h.1 (by first | exact gz_ne rfl | decide)))
  show gv_X _ _ (11, [(0, .inr (.inr (some 39)))], [], sh, gc_h sh I11 J A)
  refine gv_run 1 true hD (pcₚ := 12) (lvₚ := [(0, .inr (.inr (some 39)))]) (stₚ := [.inr (.inr (some 39))]) (hₚ := gc_h sh I11 J A) (C := (True ∧ True)) rfl ⟨trivial, trivial⟩ ?_
  refine gv_get hD rfl rfl S_39 ⟨by decide, (gz_sh B_39)⟩ (gc_hA S_39 rfl A_39_1) ?_
  show gv_X _ _ (15, [(0, .inr (.inr (some 39)))], [.inr (.inr (some 23))], sh, gc_h sh I11 J A)
  refine gv_get hD rfl rfl S_23 ⟨by decide, (gz_sh B_23)⟩ (gc_hI S_23 rfl) ?_
  show gv_X _ _ (18, [(0, .inr (.inr (some 39)))], [.inl (I11 23 7)], sh, gc_h sh I11 J A)
  refine gv_run 1 true hD (pcₚ := 19) (lvₚ := [(0, .inr (.inr (some 39)))]) (stₚ := [.inl 1, .inl (I11 23 7)]) (hₚ := gc_h sh I11 J A) (C := (True ∧ True)) rfl ⟨trivial, trivial⟩ ?_
  refine gv_icmp_eq (t := 32) hD rfl rfl ⟨⟨by (/-2-/first | (have o1 := gz_sh f5; have o2 := gz_sh t16; omega) | (simp only [gz_hd] at *; omega)), by (/-3-/first | (have o1 := gz_sh f5; have o2 := gz_sh t16; omega) | (simp only [gz_hd] at *; omega))⟩, ⟨by (/-4-/first | omega | (simp only [gz_hd] at *; omega)), by (/-5-/first | omega | (simp only [gz_hd] at *; omega))⟩⟩ (fun c20 => ?_) (fun c20 => ?_)
  · show gv_X _ _ (32, [(0, .inr (.inr (some 39)))], [], sh, gc_h sh I11 J A)
    have tM := gc_AT_m A18 (by (/-6-/first | (have o1 := gz_sh t16; omega) | (simp only [gz_hd] at *; omega)))
    refine gv_run 1 true hD (pcₚ := 33) (lvₚ := [(0, .inr (.inr (some 39)))]) (stₚ := [.inr (.inr (some 39))]) (hₚ := gc_h sh I11 J A) (C := (True ∧ True)) rfl ⟨trivial, trivial⟩ ?_
    refine gv_get hD rfl rfl S_39 ⟨by decide, (gz_sh B_39)⟩ (gc_hA S_39 rfl A_39_1) ?_
    show gv_X _ _ (36, [(0, .inr (.inr (some 39)))], [.inr (.inr (some 23))], sh, gc_h sh I11 J A)
    refine gv_get hD rfl rfl S_23 ⟨by decide, (gz_sh B_23)⟩ (gc_hJ S_23 rfl) ?_
    show gv_X _ _ (39, [(0, .inr (.inr (some 39)))], [.inr (.inl (J 23 9))], sh, gc_h sh I11 J A)
    refine gv_run 2 true hD (pcₚ := 41) (lvₚ := [(1, .inr (.inl (J 23 9))), (0, .inr (.inr (some 39)))]) (stₚ := [.inr (.inr (some 39))]) (hₚ := gc_h sh I11 J A) (C := ((True ∧ True) ∧ True)) rfl ⟨⟨trivial, trivial⟩, trivial⟩ ?_
    refine gv_get hD rfl rfl S_39 ⟨by decide, (gz_sh B_39)⟩ (gc_hA S_39 rfl A_39_1) ?_
    show gv_X _ _ (44, [(1, .inr (.inl (J 23 9))), (0, .inr (.inr (some 39)))], [.inr (.inr (some 23))], sh, gc_h sh I11 J A)
    have t22 := gz_hi (gc_TK_nx KTK_I11 (by (/-7-/first | omega | (simp only [gz_hd] at *; omega))))
    have t23 := gz_hi (gc_TK_st KTK_I11 (by (/-8-/first | omega | (simp only [gz_hd] at *; omega))))
    obtain ⟨r21, h21, E21, P21⟩ := d_X9_advance_p (ws0 := ws0) (tb := tb) hws htb sh ro I11 J A hI11 23 β η  (gc_b23 hb)    (by (/-9-/first | (have o1 := gz_sh t22; omega) | (simp only [gz_hd] at *; omega))) A18.1.1 A18.1.2 
    obtain ⟨I24, J25, rfl, hI24, g21, k21, ⟨rfl, V21_0, V21_1, V21_2, V21_3, V21_4, q21⟩⟩ := P21
    replace q21 := gz_hi q21
    have FI24 := gc_frc (W := fun q j => (q = 39 ∧ j = 3) ∨ (q = 39 ∧ j = 4) ∨ (q = 23 ∧ j = 5) ∨ (q = 23 ∧ j = 6) ∨ (q = 23 ∧ j = 7) ∨ (q = 23 ∧ j = 8) ∨ (q = 39 ∧ j = 5)) (V := fun q j => (q = 23 ∧ j = 5) ∨ (q = 23 ∧ j = 6) ∨ (q = 23 ∧ j = 7) ∨ (q = 23 ∧ j = 8)) FI11 (fun q j h => (h.elim (fun h => (Or.inr (Or.inr (Or.inl h)))) (fun h => (h.elim (fun h => (Or.inr (Or.inr (Or.inr (Or.inl h))))) (fun h => (h.elim (fun h => (Or.inr (Or.inr (Or.inr (Or.inr (Or.inl h)))))) (fun h => (Or.inr (Or.inr (Or.inr (Or.inr (Or.inr (Or.inl h))))))))))))) g21
    have FJ25 := gc_frc (W := fun q j => (q = 23 ∧ j = 9)) (V := fun q j => (q = 23 ∧ j = 9)) FJ (fun q j h => h) k21
    have t27 := gz_hi ((g21 39 5).resolve_left (fun h => h.elim (fun h => absurd h.1 (by first | exact gz_ne rfl | decide)) (fun h => h.elim (fun h => absurd h.2 (by first | exact gz_ne rfl | decide)) (fun h => h.elim (fun h => absurd h.2 (by first | exact gz_ne rfl | decide)) (fun h => absurd h.2 (by first | exact gz_ne rfl | decide))))))
    have KLT_I24 : gc_LT I24 := (gz_sh q21).2.2.1
    have KTK_I24 : gc_TK I24 := And.intro V21_0 (And.intro V21_1 (And.intro V21_2 (And.intro V21_3 V21_4)))
    clear V21_0 V21_1 V21_2 V21_3 V21_4
    have A32 := gc_AT_nx A18 (gz_sh q21).2.2.2
    have t33 := gz_hi (gc_AT_l A32)
    refine gv_callV hD rfl (As := []) (st := []) rfl (gz_sh B_23) S_23 rfl (gc_lV6 hws rfl) (Nat.le_of_ble_eq_true rfl) (gz_Ev_mono (d := 2) (by decide) E21) ?_
    show gv_X _ _ (47, [(1, .inr (.inl (J 23 9))), (0, .inr (.inr (some 39)))], [], sh, gc_h sh I24 J25 A)
    refine gv_pick [1, 0] rfl ?_
    exact L47 I24 J25 (J 23 9) hI24 FI24 FJ25 KLT_I24 KTK_I24 (by (/-10-/first | (and_intros; (have o1 := gz_sh q21; have o2 := gz_sh t14; have o3 := gz_sh t23; omega); (have o1 := gz_sh t16; omega); (have o1 := gz_sh t27; omega); (have o1 := gz_sh q21; have o2 := gz_sh t13; omega); (have o1 := gz_sh q21; have o2 := gz_sh t14; have o3 := gz_sh t23; omega)) | (simp only [gz_hd] at *; omega))) tM A32
  · show gv_X _ _ (22, [(0, .inr (.inr (some 39)))], [], sh, gc_h sh I11 J A)
    refine gv_run 3 true hD (pcₚ := 25) (lvₚ := [(0, .inr (.inr (some 39)))]) (stₚ := [.inr (.inr (some 39)), .inl 1, .inr (.inr (some 39))]) (hₚ := gc_h sh I11 J A) (C := (((True ∧ True) ∧ True) ∧ True)) rfl ⟨⟨⟨trivial, trivial⟩, trivial⟩, trivial⟩ ?_
    refine gv_get hD rfl rfl S_39 ⟨by decide, (gz_sh B_39)⟩ (gc_hI S_39 rfl) ?_
    show gv_X _ _ (28, [(0, .inr (.inr (some 39)))], [.inl (I11 39 5), .inl 1, .inr (.inr (some 39))], sh, gc_h sh I11 J A)
    obtain ⟨r35, h35, E35, P35⟩ := d_X6_wrong_p (ws0 := ws0) (tb := tb) hws htb sh ro I11 J A hI11  1 (I11 39 5) hb   ⟨by (/-11-/first | omega | (simp only [gz_hd] at *; omega)), by (/-12-/first | omega | (simp only [gz_hd] at *; omega))⟩ ⟨by (/-13-/first | (have o1 := gz_sh f3; omega) | (simp only [gz_hd] at *; omega)), by (/-14-/first | (have o1 := gz_sh f3; omega) | (simp only [gz_hd] at *; omega))⟩  
    obtain ⟨I36, J37, rfl, hI36, g35, k35, ⟨z35, rfl, q35⟩⟩ := P35
    replace q35 := gz_hi q35
    have FI36 := gc_frc (W := fun q j => (q = 39 ∧ j = 3) ∨ (q = 39 ∧ j = 4) ∨ (q = 23 ∧ j = 5) ∨ (q = 23 ∧ j = 6) ∨ (q = 23 ∧ j = 7) ∨ (q = 23 ∧ j = 8) ∨ (q = 39 ∧ j = 5)) (V := fun q j => (q = 39 ∧ j = 3) ∨ (q = 39 ∧ j = 4)) FI11 (fun q j h => (h.elim (fun h => (Or.inl h)) (fun h => (Or.inr (Or.inl h))))) g35
    have t38 := gz_hi ((g35 23 1).resolve_left (fun h => h.elim (fun h => absurd h.2 (by first | exact gz_ne rfl | decide)) (fun h => absurd h.2 (by first | exact gz_ne rfl | decide))))
    have t39 := gz_hi ((g35 23 5).resolve_left (fun h => h.elim (fun h => absurd h.2 (by first | exact gz_ne rfl | decide)) (fun h => absurd h.2 (by first | exact gz_ne rfl | decide))))
    have t41 := gz_hi ((g35 23 7).resolve_left (fun h => h.elim (fun h => absurd h.2 (by first | exact gz_ne rfl | decide)) (fun h => absurd h.2 (by first | exact gz_ne rfl | decide))))
    obtain rfl : J = J37 := funext fun q => funext fun j => ((k35 q j).resolve_left id).symm
    have KLT_I36 := gc_LT_fr KLT_I11 ((g35 23 5).resolve_left (fun h => h.elim (fun h => absurd h.2 (by first | exact gz_ne rfl | decide)) (fun h => absurd h.2 (by first | exact gz_ne rfl | decide)))) ((g35 23 6).resolve_left (fun h => h.elim (fun h => absurd h.2 (by first | exact gz_ne rfl | decide)) (fun h => absurd h.2 (by first | exact gz_ne rfl | decide)))) ((g35 23 7).resolve_left (fun h => h.elim (fun h => absurd h.2 (by first | exact gz_ne rfl | decide)) (fun h => absurd h.2 (by first | exact gz_ne rfl | decide)))) (fun k => (g35 24 k).resolve_left (fun h => h.elim (fun h => absurd h.1 (by first | exact gz_ne rfl | decide)) (fun h => absurd h.1 (by first | exact gz_ne rfl | decide))))
    have KTK_I36 := gc_TK_fr KTK_I11 ((g35 23 1).resolve_left (fun h => h.elim (fun h => absurd h.2 (by first | exact gz_ne rfl | decide)) (fun h => absurd h.2 (by first | exact gz_ne rfl | decide)))) ((g35 23 5).resolve_left (fun h => h.elim (fun h => absurd h.2 (by first | exact gz_ne rfl | decide)) (fun h => absurd h.2 (by first | exact gz_ne rfl | decide)))) ((g35 23 6).resolve_left (fun h => h.elim (fun h => absurd h.2 (by first | exact gz_ne rfl | decide)) (fun h => absurd h.2 (by first | exact gz_ne rfl | decide)))) ((g35 23 7).resolve_left (fun h => h.elim (fun h => absurd h.2 (by first | exact gz_ne rfl | decide)) (fun h => absurd h.2 (by first | exact gz_ne rfl | decide))))
    have A43 := gc_AT_I A18 ((g35 23 1).resolve_left (fun h => h.elim (fun h => absurd h.2 (by first | exact gz_ne rfl | decide)) (fun h => absurd h.2 (by first | exact gz_ne rfl | decide)))) ((g35 23 5).resolve_left (fun h => h.elim (fun h => absurd h.2 (by first | exact gz_ne rfl | decide)) (fun h => absurd h.2 (by first | exact gz_ne rfl | decide)))) ((g35 23 6).resolve_left (fun h => h.elim (fun h => absurd h.2 (by first | exact gz_ne rfl | decide)) (fun h => absurd h.2 (by first | exact gz_ne rfl | decide)))) ((g35 23 7).resolve_left (fun h => h.elim (fun h => absurd h.2 (by first | exact gz_ne rfl | decide)) (fun h => absurd h.2 (by first | exact gz_ne rfl | decide)))) ((g35 23 8).resolve_left (fun h => h.elim (fun h => absurd h.2 (by first | exact gz_ne rfl | decide)) (fun h => absurd h.2 (by first | exact gz_ne rfl | decide)))) (fun k => (g35 24 k).resolve_left (fun h => h.elim (fun h => absurd h.1 (by first | exact gz_ne rfl | decide)) (fun h => absurd h.1 (by first | exact gz_ne rfl | decide))))
    refine gv_callV hD rfl (As := [.inl 1, .inl (I11 39 5)]) (st := []) rfl (gz_sh B_39) S_39 rfl (gc_lV6 hws rfl) (Nat.le_of_ble_eq_true rfl) (gz_Ev_mono (d := 1) (by decide) E35) ?_
    show gv_X _ _ (31, [(0, .inr (.inr (some 39)))], [.inl z35], sh, gc_h sh I36 J A)
    exact gv_Xm hQ (gv_zret hD rfl (by (/-15-/first | (have o1 := gz_sh q35; omega) | (simp only [gz_hd] at *; omega))) ⟨I36, J, rfl, hI36, FI36, FJ, KLT_I36, KTK_I36, ⟨_, rfl, by (/-16-/first | (have o1 := gz_sh q35; omega) | (simp only [gz_hd] at *; omega)), by (/-17-/first | (have o1 := gz_sh q35; omega) | (simp only [gz_hd] at *; omega)), by (/-18-/first | (have o1 := gz_sh t13; have o2 := gz_sh t38; omega) | (simp only [gz_hd] at *; omega)), by (/-19-/first | (have o1 := gz_sh t14; have o2 := gz_sh t39; omega) | (simp only [gz_hd] at *; omega)), by (/-20-/first | (have o1 := gz_sh q35; omega) | (simp only [gz_hd] at *; omega)), (by (/-21-/first | (and_intros; (have o1 := gz_sh t16; omega); (have o1 := gz_sh q35; omega)) | (simp only [gz_hd] at *; omega)))⟩⟩)
set_option maxHeartbeats 8000000 in
set_option maxRecDepth 100000 in
theorem d_X6_readStatement_m_p {ws0 : List Cond} {tb : String → gz_T} (hws : gc_Ws ws0) (htb : gc_tbs tb) (sh : gz_Sh) (ro : Nat → Nat) (I : gr_I) (J : gr_J) (A : gc_A) (hI : gc_Inv ro I) (β : Int → Int) (η : Int) (p9 : Int) (a1 : Int64) (hb : gc_Base sh ro A)  (x0 : a1 = gs_M β η p9) (x1 : gs_T β η p9 = 1) (KLT_I : gc_LT I) (KTK_I : gc_TK I) {Q : gz_S → Prop} (hQ : ∀ v, gv_Q cX6_readStatement (some .boolean) sh (fun r hₚ => (∃ (Iₚ : gr_I) (Jₚ : gr_J), hₚ = gc_h sh Iₚ Jₚ A ∧ gc_Inv ro Iₚ ∧ (∀ q j : Nat, ((q = 39 ∧ j = 3) ∨ (q = 39 ∧ j = 4) ∨ (q = 23 ∧ j = 5) ∨ (q = 23 ∧ j = 6) ∨ (q = 23 ∧ j = 7) ∨ (q = 23 ∧ j = 8)) ∨ Iₚ q j = I q j) ∧ (∀ q j : Nat, ((q = 23 ∧ j = 9)) ∨ Jₚ q j = J q j) ∧ gc_LT Iₚ ∧ gc_TK Iₚ ∧ (∃ z : Int, r = some (.inl z) ∧ 0 ≤ z ∧ z ≤ 1 ∧ (Iₚ 23 1 = I 23 1) ∧ (I 23 5 ≤ Iₚ 23 5) ∧ (z = 0) ∧ (¬ gs_K6 (gs_rn β η p9) ∧ Iₚ 39 4 = I 39 5)))) v → Q v) (L207 : ((I 23 1 = I 23 1) ∧ (I 23 5 ≤ I 23 5)) → (gs_K6 (gs_rn β η p9)) → gv_X (gc_E6 ws0 tb 91 (yX6_readStatement, cX6_readStatement, 4, (some .boolean)) kX6_readStatement) Q (207, [(0, .inr (.inr (some 39))), (1, .inr (.inl a1))], [], sh, gc_h sh I J A)) : gv_X (gc_E6 ws0 tb 91 (yX6_readStatement, cX6_readStatement, 4, (some .boolean)) kX6_readStatement) Q (139, [(0, .inr (.inr (some 39))), (1, .inr (.inl a1))], [], sh, gc_h sh I J A) := by
  have FI : ∀ q j : Nat, ((q = 39 ∧ j = 3) ∨ (q = 39 ∧ j = 4) ∨ (q = 23 ∧ j = 5) ∨ (q = 23 ∧ j = 6) ∨ (q = 23 ∧ j = 7) ∨ (q = 23 ∧ j = 8)) ∨ I q j = I q j := fun _ _ => Or.inr rfl
  have FJ : ∀ q j : Nat, ((q = 23 ∧ j = 9)) ∨ J q j = J q j := fun _ _ => Or.inr rfl
  have B_39 := gz_hi (show 39 < 1000000 from by decide)
  have R_23 := gz_hi (show ro 23 = 3 from gc_bR_23 hb)
  have R_39 := gz_hi (show ro 39 = 42 from gc_bR_39 hb)
  have S_39 : sh[39]? = some (false, 6, 19) := gc_bS_39 hb
  have hD : gv_D (gc_E6 ws0 tb 91 (yX6_readStatement, cX6_readStatement, 4, (some .boolean)) kX6_readStatement) := gq_of oX6_readStatement
  have f6 := gz_hi ((gc_b_42_5 hI (gz_sh R_39)))
  have f8 := gz_hi (gw_cmp (a1) ((28821916864574053)))
  refine gv_run 3 true hD (pcₚ := 144) (lvₚ := [(0, .inr (.inr (some 39))), (1, .inr (.inl a1))]) (stₚ := [.inl ((lg_cmp (a1) ((28821916864574053))).toInt)]) (hₚ := gc_h sh I J A) (C := (((True ∧ True) ∧ True) ∧ True)) rfl ⟨⟨⟨trivial, trivial⟩, trivial⟩, trivial⟩ ?_
  refine gv_if_eq (t := 163) hD rfl rfl ⟨by (/-0-/first | (have o1 := gz_sh f8; omega) | (simp only [gz_hd] at *; omega)), by (/-1-/first | (have o1 := gz_sh f8; omega) | (simp only [gz_hd] at *; omega))⟩ (fun c9 => ?_) (fun c9 => ?_)
  · show gv_X _ _ (163, [(0, .inr (.inr (some 39))), (1, .inr (.inl a1))], [], sh, gc_h sh I J A)
    have j9 := gs_cmp0 (a := a1) (b := (28821916864574053)) (by (/-2-/first | omega | (simp only [gz_hd] at *; omega)))
    refine gv_run 4 true hD (pcₚ := 170) (lvₚ := [(3, .inl 1), (0, .inr (.inr (some 39))), (1, .inr (.inl a1))]) (stₚ := [.inl 1]) (hₚ := gc_h sh I J A) (C := ((((True ∧ True) ∧ True) ∧ True) ∧ True)) rfl ⟨⟨⟨⟨trivial, trivial⟩, trivial⟩, trivial⟩, trivial⟩ ?_
    refine gv_if_ne (t := 207) hD rfl rfl ⟨by (/-3-/first | omega | (simp only [gz_hd] at *; omega)), by (/-4-/first | omega | (simp only [gz_hd] at *; omega))⟩ (fun c10 => ?_) (fun c10 => ?_)
    · show gv_X _ _ (207, [(3, .inl 1), (0, .inr (.inr (some 39))), (1, .inr (.inl a1))], [], sh, gc_h sh I J A)
      refine gv_pick [1, 2] rfl ?_
      exact L207 (by (/-5-/first | (and_intros <;> omega) | (simp only [gz_hd] at *; omega))) (Or.inl ((gs_al_eq (gs_al_p x1) (gs_W_al 83 (by decide) (by decide))).mp (x0.symm.trans j9)))
    · exfalso; (/-6-/first | omega | (simp only [gz_hd] at *; omega))
  · show gv_X _ _ (147, [(0, .inr (.inr (some 39))), (1, .inr (.inl a1))], [], sh, gc_h sh I J A)
    have j9 := gs_cmpn (a := a1) (b := (28821916864574053)) (by (/-7-/first | omega | (simp only [gz_hd] at *; omega)))
    have f11 := gz_hi (gw_cmp (a1) ((30510848328168051)))
    refine gv_run 3 true hD (pcₚ := 152) (lvₚ := [(0, .inr (.inr (some 39))), (1, .inr (.inl a1))]) (stₚ := [.inl ((lg_cmp (a1) ((30510848328168051))).toInt)]) (hₚ := gc_h sh I J A) (C := (((True ∧ True) ∧ True) ∧ True)) rfl ⟨⟨⟨trivial, trivial⟩, trivial⟩, trivial⟩ ?_
    refine gv_if_eq (t := 163) hD rfl rfl ⟨by (/-8-/first | (have o1 := gz_sh f11; omega) | (simp only [gz_hd] at *; omega)), by (/-9-/first | (have o1 := gz_sh f11; omega) | (simp only [gz_hd] at *; omega))⟩ (fun c12 => ?_) (fun c12 => ?_)
    · show gv_X _ _ (163, [(0, .inr (.inr (some 39))), (1, .inr (.inl a1))], [], sh, gc_h sh I J A)
      have j12 := gs_cmp0 (a := a1) (b := (30510848328168051)) (by (/-10-/first | omega | (simp only [gz_hd] at *; omega)))
      refine gv_run 4 true hD (pcₚ := 170) (lvₚ := [(3, .inl 1), (0, .inr (.inr (some 39))), (1, .inr (.inl a1))]) (stₚ := [.inl 1]) (hₚ := gc_h sh I J A) (C := ((((True ∧ True) ∧ True) ∧ True) ∧ True)) rfl ⟨⟨⟨⟨trivial, trivial⟩, trivial⟩, trivial⟩, trivial⟩ ?_
      refine gv_if_ne (t := 207) hD rfl rfl ⟨by (/-11-/first | omega | (simp only [gz_hd] at *; omega)), by (/-12-/first | omega | (simp only [gz_hd] at *; omega))⟩ (fun c13 => ?_) (fun c13 => ?_)
      · show gv_X _ _ (207, [(3, .inl 1), (0, .inr (.inr (some 39))), (1, .inr (.inl a1))], [], sh, gc_h sh I J A)
        refine gv_pick [1, 2] rfl ?_
        exact L207 (by (/-13-/first | (and_intros <;> omega) | (simp only [gz_hd] at *; omega))) (Or.inr (Or.inl ((gs_al_eq (gs_al_p x1) (gs_W_al 84 (by decide) (by decide))).mp (x0.symm.trans j12))))
      · exfalso; (/-14-/first | omega | (simp only [gz_hd] at *; omega))
    · show gv_X _ _ (155, [(0, .inr (.inr (some 39))), (1, .inr (.inl a1))], [], sh, gc_h sh I J A)
      have j12 := gs_cmpn (a := a1) (b := (30510848328168051)) (by (/-15-/first | omega | (simp only [gz_hd] at *; omega)))
      have f14 := gz_hi (gw_cmp (a1) ((495791205988)))
      refine gv_run 3 true hD (pcₚ := 160) (lvₚ := [(0, .inr (.inr (some 39))), (1, .inr (.inl a1))]) (stₚ := [.inl ((lg_cmp (a1) ((495791205988))).toInt)]) (hₚ := gc_h sh I J A) (C := (((True ∧ True) ∧ True) ∧ True)) rfl ⟨⟨⟨trivial, trivial⟩, trivial⟩, trivial⟩ ?_
      refine gv_if_ne (t := 167) hD rfl rfl ⟨by (/-16-/first | (have o1 := gz_sh f14; omega) | (simp only [gz_hd] at *; omega)), by (/-17-/first | (have o1 := gz_sh f14; omega) | (simp only [gz_hd] at *; omega))⟩ (fun c15 => ?_) (fun c15 => ?_)
      · show gv_X _ _ (167, [(0, .inr (.inr (some 39))), (1, .inr (.inl a1))], [], sh, gc_h sh I J A)
        have j15 := gs_cmpn (a := a1) (b := (495791205988)) (by (/-18-/first | omega | (simp only [gz_hd] at *; omega)))
        refine gv_run 3 true hD (pcₚ := 170) (lvₚ := [(3, .inl 0), (0, .inr (.inr (some 39))), (1, .inr (.inl a1))]) (stₚ := [.inl 0]) (hₚ := gc_h sh I J A) (C := (((True ∧ True) ∧ True) ∧ True)) rfl ⟨⟨⟨trivial, trivial⟩, trivial⟩, trivial⟩ ?_
        refine gv_if_ne (t := 207) hD rfl rfl ⟨by (/-19-/first | omega | (simp only [gz_hd] at *; omega)), by (/-20-/first | omega | (simp only [gz_hd] at *; omega))⟩ (fun c16 => ?_) (fun c16 => ?_)
        · exfalso; (/-21-/first | omega | (simp only [gz_hd] at *; omega))
        · show gv_X _ _ (173, [(3, .inl 0), (0, .inr (.inr (some 39))), (1, .inr (.inl a1))], [], sh, gc_h sh I J A)
          have f17 := gz_hi (gw_cmp (a1) ((31632350188499566)))
          refine gv_run 3 true hD (pcₚ := 178) (lvₚ := [(3, .inl 0), (0, .inr (.inr (some 39))), (1, .inr (.inl a1))]) (stₚ := [.inl ((lg_cmp (a1) ((31632350188499566))).toInt)]) (hₚ := gc_h sh I J A) (C := (((True ∧ True) ∧ True) ∧ True)) rfl ⟨⟨⟨trivial, trivial⟩, trivial⟩, trivial⟩ ?_
          refine gv_if_eq (t := 207) hD rfl rfl ⟨by (/-22-/first | (have o1 := gz_sh f17; omega) | (simp only [gz_hd] at *; omega)), by (/-23-/first | (have o1 := gz_sh f17; omega) | (simp only [gz_hd] at *; omega))⟩ (fun c18 => ?_) (fun c18 => ?_)
          · show gv_X _ _ (207, [(3, .inl 0), (0, .inr (.inr (some 39))), (1, .inr (.inl a1))], [], sh, gc_h sh I J A)
            have j18 := gs_cmp0 (a := a1) (b := (31632350188499566)) (by (/-24-/first | omega | (simp only [gz_hd] at *; omega)))
            refine gv_pick [1, 2] rfl ?_
            exact L207 (by (/-25-/first | (and_intros <;> omega) | (simp only [gz_hd] at *; omega))) (Or.inr (Or.inr (Or.inr (Or.inl ((gs_al_eq (gs_al_p x1) (gs_W_al 86 (by decide) (by decide))).mp (x0.symm.trans j18))))))
          · show gv_X _ _ (181, [(3, .inl 0), (0, .inr (.inr (some 39))), (1, .inr (.inl a1))], [], sh, gc_h sh I J A)
            have j18 := gs_cmpn (a := a1) (b := (31632350188499566)) (by (/-26-/first | omega | (simp only [gz_hd] at *; omega)))
            have f19 := gz_hi (gw_cmp (a1) ((2003792484)))
            refine gv_run 3 true hD (pcₚ := 186) (lvₚ := [(3, .inl 0), (0, .inr (.inr (some 39))), (1, .inr (.inl a1))]) (stₚ := [.inl ((lg_cmp (a1) ((2003792484))).toInt)]) (hₚ := gc_h sh I J A) (C := (((True ∧ True) ∧ True) ∧ True)) rfl ⟨⟨⟨trivial, trivial⟩, trivial⟩, trivial⟩ ?_
            refine gv_if_eq (t := 207) hD rfl rfl ⟨by (/-27-/first | (have o1 := gz_sh f19; omega) | (simp only [gz_hd] at *; omega)), by (/-28-/first | (have o1 := gz_sh f19; omega) | (simp only [gz_hd] at *; omega))⟩ (fun c20 => ?_) (fun c20 => ?_)
            · show gv_X _ _ (207, [(3, .inl 0), (0, .inr (.inr (some 39))), (1, .inr (.inl a1))], [], sh, gc_h sh I J A)
              have j20 := gs_cmp0 (a := a1) (b := (2003792484)) (by (/-29-/first | omega | (simp only [gz_hd] at *; omega)))
              refine gv_pick [1, 2] rfl ?_
              exact L207 (by (/-30-/first | (and_intros <;> omega) | (simp only [gz_hd] at *; omega))) (Or.inr (Or.inr (Or.inr (Or.inr (Or.inl ((gs_al_eq (gs_al_p x1) (gs_W_al 87 (by decide) (by decide))).mp (x0.symm.trans j20)))))))
            · show gv_X _ _ (189, [(3, .inl 0), (0, .inr (.inr (some 39))), (1, .inr (.inl a1))], [], sh, gc_h sh I J A)
              have j20 := gs_cmpn (a := a1) (b := (2003792484)) (by (/-31-/first | omega | (simp only [gz_hd] at *; omega)))
              have f21 := gz_hi (gw_cmp (a1) ((7104878)))
              refine gv_run 3 true hD (pcₚ := 194) (lvₚ := [(3, .inl 0), (0, .inr (.inr (some 39))), (1, .inr (.inl a1))]) (stₚ := [.inl ((lg_cmp (a1) ((7104878))).toInt)]) (hₚ := gc_h sh I J A) (C := (((True ∧ True) ∧ True) ∧ True)) rfl ⟨⟨⟨trivial, trivial⟩, trivial⟩, trivial⟩ ?_
              refine gv_if_eq (t := 207) hD rfl rfl ⟨by (/-32-/first | (have o1 := gz_sh f21; omega) | (simp only [gz_hd] at *; omega)), by (/-33-/first | (have o1 := gz_sh f21; omega) | (simp only [gz_hd] at *; omega))⟩ (fun c22 => ?_) (fun c22 => ?_)
              · show gv_X _ _ (207, [(3, .inl 0), (0, .inr (.inr (some 39))), (1, .inr (.inl a1))], [], sh, gc_h sh I J A)
                have j22 := gs_cmp0 (a := a1) (b := (7104878)) (by (/-34-/first | omega | (simp only [gz_hd] at *; omega)))
                refine gv_pick [1, 2] rfl ?_
                exact L207 (by (/-35-/first | (and_intros <;> omega) | (simp only [gz_hd] at *; omega))) (Or.inr (Or.inr (Or.inr (Or.inr (Or.inr ((gs_al_eq (gs_al_p x1) (gs_W_al 88 (by decide) (by decide))).mp (x0.symm.trans j22)))))))
              · show gv_X _ _ (197, [(3, .inl 0), (0, .inr (.inr (some 39))), (1, .inr (.inl a1))], [], sh, gc_h sh I J A)
                have j22 := gs_cmpn (a := a1) (b := (7104878)) (by (/-36-/first | omega | (simp only [gz_hd] at *; omega)))
                refine gv_run 3 true hD (pcₚ := 200) (lvₚ := [(3, .inl 0), (0, .inr (.inr (some 39))), (1, .inr (.inl a1))]) (stₚ := [.inr (.inr (some 39)), .inl 1, .inr (.inr (some 39))]) (hₚ := gc_h sh I J A) (C := (((True ∧ True) ∧ True) ∧ True)) rfl ⟨⟨⟨trivial, trivial⟩, trivial⟩, trivial⟩ ?_
                refine gv_get hD rfl rfl S_39 ⟨by decide, (gz_sh B_39)⟩ (gc_hI S_39 rfl) ?_
                show gv_X _ _ (203, [(3, .inl 0), (0, .inr (.inr (some 39))), (1, .inr (.inl a1))], [.inl (I 39 5), .inl 1, .inr (.inr (some 39))], sh, gc_h sh I J A)
                obtain ⟨r24, h24, E24, P24⟩ := d_X6_wrong_p (ws0 := ws0) (tb := tb) hws htb sh ro I J A hI  1 (I 39 5) hb   ⟨by (/-37-/first | omega | (simp only [gz_hd] at *; omega)), by (/-38-/first | omega | (simp only [gz_hd] at *; omega))⟩ ⟨by (/-39-/first | (have o1 := gz_sh f6; omega) | (simp only [gz_hd] at *; omega)), by (/-40-/first | (have o1 := gz_sh f6; omega) | (simp only [gz_hd] at *; omega))⟩  
                obtain ⟨I25, J26, rfl, hI25, g24, k24, ⟨z24, rfl, q24⟩⟩ := P24
                replace q24 := gz_hi q24
                have FI25 := gc_frc (W := fun q j => (q = 39 ∧ j = 3) ∨ (q = 39 ∧ j = 4) ∨ (q = 23 ∧ j = 5) ∨ (q = 23 ∧ j = 6) ∨ (q = 23 ∧ j = 7) ∨ (q = 23 ∧ j = 8)) (V := fun q j => (q = 39 ∧ j = 3) ∨ (q = 39 ∧ j = 4)) FI (fun q j h => (h.elim (fun h => (Or.inl h)) (fun h => (Or.inr (Or.inl h))))) g24
                have t27 := gz_hi ((g24 23 1).resolve_left (fun h => h.elim (fun h => absurd h.2 (by first | exact gz_ne rfl | decide)) (fun h => absurd h.2 (by first | exact gz_ne rfl | decide))))
                have t28 := gz_hi ((g24 23 5).resolve_left (fun h => h.elim (fun h => absurd h.2 (by first | exact gz_ne rfl | decide)) (fun h => absurd h.2 (by first | exact gz_ne rfl | decide))))
                obtain rfl : J = J26 := funext fun q => funext fun j => ((k24 q j).resolve_left id).symm
                have KLT_I25 := gc_LT_fr KLT_I ((g24 23 5).resolve_left (fun h => h.elim (fun h => absurd h.2 (by first | exact gz_ne rfl | decide)) (fun h => absurd h.2 (by first | exact gz_ne rfl | decide)))) ((g24 23 6).resolve_left (fun h => h.elim (fun h => absurd h.2 (by first | exact gz_ne rfl | decide)) (fun h => absurd h.2 (by first | exact gz_ne rfl | decide)))) ((g24 23 7).resolve_left (fun h => h.elim (fun h => absurd h.2 (by first | exact gz_ne rfl | decide)) (fun h => absurd h.2 (by first | exact gz_ne rfl | decide)))) (fun k => (g24 24 k).resolve_left (fun h => h.elim (fun h => absurd h.1 (by first | exact gz_ne rfl | decide)) (fun h => absurd h.1 (by first | exact gz_ne rfl | decide))))
                have KTK_I25 := gc_TK_fr KTK_I ((g24 23 1).resolve_left (fun h => h.elim (fun h => absurd h.2 (by first | exact gz_ne rfl | decide)) (fun h => absurd h.2 (by first | exact gz_ne rfl | decide)))) ((g24 23 5).resolve_left (fun h => h.elim (fun h => absurd h.2 (by first | exact gz_ne rfl | decide)) (fun h => absurd h.2 (by first | exact gz_ne rfl | decide)))) ((g24 23 6).resolve_left (fun h => h.elim (fun h => absurd h.2 (by first | exact gz_ne rfl | decide)) (fun h => absurd h.2 (by first | exact gz_ne rfl | decide)))) ((g24 23 7).resolve_left (fun h => h.elim (fun h => absurd h.2 (by first | exact gz_ne rfl | decide)) (fun h => absurd h.2 (by first | exact gz_ne rfl | decide))))
                refine gv_callV hD rfl (As := [.inl 1, .inl (I 39 5)]) (st := []) rfl (gz_sh B_39) S_39 rfl (gc_lV6 hws rfl) (Nat.le_of_ble_eq_true rfl) (gz_Ev_mono (d := 1) (by decide) E24) ?_
                show gv_X _ _ (206, [(3, .inl 0), (0, .inr (.inr (some 39))), (1, .inr (.inl a1))], [.inl z24], sh, gc_h sh I25 J A)
                exact gv_Xm hQ (gv_zret hD rfl (by (/-41-/first | (have o1 := gz_sh q24; omega) | (simp only [gz_hd] at *; omega))) ⟨I25, J, rfl, hI25, FI25, FJ, KLT_I25, KTK_I25, ⟨_, rfl, by (/-42-/first | (have o1 := gz_sh q24; omega) | (simp only [gz_hd] at *; omega)), by (/-43-/first | (have o1 := gz_sh q24; omega) | (simp only [gz_hd] at *; omega)), by (/-44-/first | (have o1 := gz_sh t27; omega) | (simp only [gz_hd] at *; omega)), by (/-45-/first | (have o1 := gz_sh t28; omega) | (simp only [gz_hd] at *; omega)), by (/-46-/first | (have o1 := gz_sh q24; omega) | (simp only [gz_hd] at *; omega)), ⟨fun h9 => h9.elim (fun e => j9 (x0.trans ((gs_al_eq (gs_al_p x1) (gs_W_al 83 (by decide) (by decide))).mpr e))) (fun h => h.elim (fun e => j12 (x0.trans ((gs_al_eq (gs_al_p x1) (gs_W_al 84 (by decide) (by decide))).mpr e))) (fun h => h.elim (fun e => j15 (x0.trans ((gs_al_eq (gs_al_p x1) (gs_W_al 85 (by decide) (by decide))).mpr e))) (fun h => h.elim (fun e => j18 (x0.trans ((gs_al_eq (gs_al_p x1) (gs_W_al 86 (by decide) (by decide))).mpr e))) (fun h => h.elim (fun e => j20 (x0.trans ((gs_al_eq (gs_al_p x1) (gs_W_al 87 (by decide) (by decide))).mpr e))) (fun e => j22 (x0.trans ((gs_al_eq (gs_al_p x1) (gs_W_al 88 (by decide) (by decide))).mpr e))))))), by (/-47-/first | (have o1 := gz_sh q24; omega) | (simp only [gz_hd] at *; omega))⟩⟩⟩)
      · show gv_X _ _ (163, [(0, .inr (.inr (some 39))), (1, .inr (.inl a1))], [], sh, gc_h sh I J A)
        have j15 := gs_cmp0 (a := a1) (b := (495791205988)) (by (/-48-/first | omega | (simp only [gz_hd] at *; omega)))
        refine gv_run 4 true hD (pcₚ := 170) (lvₚ := [(3, .inl 1), (0, .inr (.inr (some 39))), (1, .inr (.inl a1))]) (stₚ := [.inl 1]) (hₚ := gc_h sh I J A) (C := ((((True ∧ True) ∧ True) ∧ True) ∧ True)) rfl ⟨⟨⟨⟨trivial, trivial⟩, trivial⟩, trivial⟩, trivial⟩ ?_
        refine gv_if_ne (t := 207) hD rfl rfl ⟨by (/-49-/first | omega | (simp only [gz_hd] at *; omega)), by (/-50-/first | omega | (simp only [gz_hd] at *; omega))⟩ (fun c32 => ?_) (fun c32 => ?_)
        · show gv_X _ _ (207, [(3, .inl 1), (0, .inr (.inr (some 39))), (1, .inr (.inl a1))], [], sh, gc_h sh I J A)
          refine gv_pick [1, 2] rfl ?_
          exact L207 (by (/-51-/first | (and_intros <;> omega) | (simp only [gz_hd] at *; omega))) (Or.inr (Or.inr (Or.inl ((gs_al_eq (gs_al_p x1) (gs_W_al 85 (by decide) (by decide))).mp (x0.symm.trans j15)))))
        · exfalso; (/-52-/first | omega | (simp only [gz_hd] at *; omega))
