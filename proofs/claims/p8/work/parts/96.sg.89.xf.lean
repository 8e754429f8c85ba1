set_option maxHeartbeats 8000000 in
set_option maxRecDepth 100000 in
theorem d_X12_mean {ws0 : List Cond} {tb : String → gz_T} (hws : gc_Ws ws0) (htb : gc_tbs tb) (sh : gz_Sh) (ro : Nat → Nat) (I : gr_I) (J : gr_J) (A : gc_A) (hI : gc_Inv ro I) (u : Nat) (a1 : Int) (hb : gc_Base sh ro A) (S_u : sh[u]? = some (true, 1, 60)) (R_u : ro u = 37) (B_u : u < 1000000) (ha1 : 0 ≤ a1 ∧ a1 ≤ 7) (x0 : A 114 (Int.toNat a1) = some u) (x1 : u = 115 + Int.toNat a1) (x2 : I 86 2 + I 86 4 = 1) (x3 : I 124 (Int.toNat a1) = 0 ∨ gc_wtr I u (I 124 (Int.toNat a1))) (x4 : gc_MS I) : ∃ r hₚ, gz_Ev ws0 tb 7 (yX12_mean, cX12_mean, 3, (some .int)) [.inr (.inr (some 0)), .inl a1] sh (gc_h sh I J A) r sh hₚ 0 0 ∧ (∃ (Iₚ : gr_I) (Jₚ : gr_J), hₚ = gc_h sh Iₚ Jₚ A ∧ gc_Inv ro Iₚ ∧ (∀ q j : Nat, (q = 87 ∨ q = 89 ∨ (q = 86 ∧ j = 1) ∨ (q = 86 ∧ j = 2) ∨ (q = 86 ∧ j = 3) ∨ (q = 86 ∧ j = 4) ∨ (q = 86 ∧ j = 5) ∨ q = 91 ∨ q = 22 ∨ q = 92 ∨ q = 93 ∨ (q = 27 ∧ j = 1) ∨ q = 28) ∨ Iₚ q j = I q j) ∧ (∀ q j : Nat, (q = 88 ∨ q = 90) ∨ Jₚ q j = J q j) ∧ (∃ z : Int, r = some (.inl z) ∧ (-4) ≤ z ∧ z ≤ 1000 ∧ (Iₚ 86 2 + Iₚ 86 4 = 1))) := by
  have FI : ∀ q j : Nat, (q = 87 ∨ q = 89 ∨ (q = 86 ∧ j = 1) ∨ (q = 86 ∧ j = 2) ∨ (q = 86 ∧ j = 3) ∨ (q = 86 ∧ j = 4) ∨ (q = 86 ∧ j = 5) ∨ q = 91 ∨ q = 22 ∨ q = 92 ∨ q = 93 ∨ (q = 27 ∧ j = 1) ∨ q = 28) ∨ I q j = I q j := fun _ _ => Or.inr rfl
  have FJ : ∀ q j : Nat, (q = 88 ∨ q = 90) ∨ J q j = J q j := fun _ _ => Or.inr rfl
  have A_0_2 : A 0 2 = some 27 := gc_bA_0_2 hb
  have A_0_9 : A 0 9 = some 86 := gc_bA_0_9 hb
  have B_0 : 0 < 1000000 := by decide
  have B_27 : 27 < 1000000 := by decide
  have B_86 : 86 < 1000000 := by decide
  have R_124 : ro 124 = 68 := gc_bR_124 hb
  have R_27 : ro 27 = 3 := gc_bR_27 hb
  have R_86 : ro 86 = 74 := gc_bR_86 hb
  have S_0 : sh[0]? = some (false, 12, 17) := gc_bS_0 hb
  have S_27 : sh[27]? = some (false, 9, 10) := gc_bS_27 hb
  have S_86 : sh[86]? = some (false, 10, 19) := gc_bS_86 hb
  have hD : gv_D (gc_E12 ws0 tb 6 (yX12_mean, cX12_mean, 3, (some .int)) kX12_mean) := gq_of oX12_mean
  refine gc_ev12 (d := 6) (l := kX12_mean) (Po := fun r hₚ => (∃ (Iₚ : gr_I) (Jₚ : gr_J), hₚ = gc_h sh Iₚ Jₚ A ∧ gc_Inv ro Iₚ ∧ (∀ q j : Nat, (q = 87 ∨ q = 89 ∨ (q = 86 ∧ j = 1) ∨ (q = 86 ∧ j = 2) ∨ (q = 86 ∧ j = 3) ∨ (q = 86 ∧ j = 4) ∨ (q = 86 ∧ j = 5) ∨ q = 91 ∨ q = 22 ∨ q = 92 ∨ q = 93 ∨ (q = 27 ∧ j = 1) ∨ q = 28) ∨ Iₚ q j = I q j) ∧ (∀ q j : Nat, (q = 88 ∨ q = 90) ∨ Jₚ q j = J q j) ∧ (∃ z : Int, r = some (.inl z) ∧ (-4) ≤ z ∧ z ≤ 1000 ∧ (Iₚ 86 2 + Iₚ 86 4 = 1)))) htb rfl (Nat.le_of_ble_eq_true rfl) ?_
  have f1 := (gc_b_74_1 hI R_86)
  have f2 := (gc_b_74_2 hI R_86)
  have f3 := (gc_b_74_4 hI R_86)
  refine gv_run 1 true hD (pcₚ := 1) (lvₚ := [(0, .inr (.inr (some 0))), (1, .inl a1)]) (stₚ := [.inl a1]) (hₚ := gc_h sh I J A) (C := (True ∧ True)) rfl ⟨trivial, trivial⟩ ?_
  obtain ⟨r4, h4, E4, P4⟩ := d_X12_checkPlace (ws0 := ws0) (tb := tb) hws htb sh ro I J A hI  a1 hb   ⟨by exact gz_m 0 (by omega), by exact gz_m 1 (by omega)⟩  
  obtain ⟨rfl, rfl⟩ := P4
  refine gv_callS hD rfl (As := [.inl a1]) (st := []) rfl (gc_lS12 hws rfl) (Nat.le_of_ble_eq_true rfl) (gz_Ev_mono (d := 1) (by decide) E4) ?_
  show gv_X _ _ (4, [(0, .inr (.inr (some 0))), (1, .inl a1)], [], sh, gc_h sh I J A)
  refine gv_run 1 true hD (pcₚ := 5) (lvₚ := [(0, .inr (.inr (some 0))), (1, .inl a1)]) (stₚ := [.inr (.inr (some 0))]) (hₚ := gc_h sh I J A) (C := (True ∧ True)) rfl ⟨trivial, trivial⟩ ?_
  refine gv_get hD rfl rfl S_0 ⟨by decide, B_0⟩ (gc_hA S_0 rfl A_0_2) ?_
  show gv_X _ _ (8, [(0, .inr (.inr (some 0))), (1, .inl a1)], [.inr (.inr (some 27))], sh, gc_h sh I J A)
  refine gv_run 1 true hD (pcₚ := 9) (lvₚ := [(0, .inr (.inr (some 0))), (1, .inl a1)]) (stₚ := [.inl 0, .inr (.inr (some 27))]) (hₚ := gc_h sh I J A) (C := (True ∧ True)) rfl ⟨trivial, trivial⟩ ?_
  refine gv_put hD rfl rfl S_27 ⟨by decide, B_27⟩ rfl trivial ?_
  refine gc_st (k := 1) hI S_27 rfl R_27 (lo := 0) (hi := 1000) rfl rfl (by exact gz_m 2 (by omega)) (by exact gz_m 3 (by omega)) (fun I5 hI5 q6 p6 => ?_)
  have FI5 := gc_frs (W := fun q j => q = 87 ∨ q = 89 ∨ (q = 86 ∧ j = 1) ∨ (q = 86 ∧ j = 2) ∨ (q = 86 ∧ j = 3) ∨ (q = 86 ∧ j = 4) ∨ (q = 86 ∧ j = 5) ∨ q = 91 ∨ q = 22 ∨ q = 92 ∨ q = 93 ∨ (q = 27 ∧ j = 1) ∨ q = 28) FI (Or.inr (Or.inr (Or.inr (Or.inr (Or.inr (Or.inr (Or.inr (Or.inr (Or.inr (Or.inr (Or.inr (Or.inl ⟨rfl, rfl⟩)))))))))))) p6
  have t7 := p6 86 1 (fun h => absurd h.1 (by first | exact gz_ne rfl | decide))
  have t8 := p6 86 2 (fun h => absurd h.2 (by first | exact gz_ne rfl | decide))
  have t9 := p6 86 4 (fun h => absurd h.2 (by first | exact gz_ne rfl | decide))
  show gv_X _ _ (12, [(0, .inr (.inr (some 0))), (1, .inl a1)], [], sh, gc_h sh I5 J A)
  refine gv_run 2 true hD (pcₚ := 14) (lvₚ := [(0, .inr (.inr (some 0))), (1, .inl a1)]) (stₚ := [.inl a1, .inr (.inr (some 0))]) (hₚ := gc_h sh I5 J A) (C := ((True ∧ True) ∧ True)) rfl ⟨⟨trivial, trivial⟩, trivial⟩ ?_
  obtain ⟨r10, h10, E10, P10⟩ := d_X12_meaningOf (ws0 := ws0) (tb := tb) hws htb sh ro I5 J A hI5  u a1 hb  S_u R_u B_u ⟨by exact gz_m 4 (by omega), by exact gz_m 5 (by omega)⟩ x0 (by exact gz_m 6 (by omega)) (by exact gz_m 7 (by omega)) (by rw [show I5 124 (Int.toNat a1) = I 124 (Int.toNat a1) from (p6 124 (Int.toNat a1) (fun h => absurd h.1 (by exact gz_m 8 (by omega))))]; exact x3.imp id (fun h9 => gh_wtr_cp h9 (gc_b_68 hI R_124 (Int.toNat a1)).1 (fun k _ => (p6 u k (fun h => absurd h.1 (by exact gz_m 9 (by omega))))) (fun k => (p6 12 k (fun h => absurd h.1 (by exact gz_m 10 (by omega))))))) (gc_MS_fr x4 (Int.le_of_eq ((p6 4 1 (fun h => absurd h.1 (by exact gz_m 11 (by omega))))).symm) (fun k => (p6 12 k (fun h => absurd h.1 (by exact gz_m 12 (by omega))))) (fun k => (p6 15 k (fun h => absurd h.1 (by exact gz_m 13 (by omega))))) (fun k => (p6 16 k (fun h => absurd h.1 (by exact gz_m 14 (by omega)))))) 
  obtain ⟨I11, J12, rfl, hI11, g10, k10, ⟨z10, rfl, q10⟩⟩ := P10
  have FI11 := gc_frc (W := fun q j => q = 87 ∨ q = 89 ∨ (q = 86 ∧ j = 1) ∨ (q = 86 ∧ j = 2) ∨ (q = 86 ∧ j = 3) ∨ (q = 86 ∧ j = 4) ∨ (q = 86 ∧ j = 5) ∨ q = 91 ∨ q = 22 ∨ q = 92 ∨ q = 93 ∨ (q = 27 ∧ j = 1) ∨ q = 28) (V := fun q j => q = 87 ∨ q = 89 ∨ (q = 86 ∧ j = 1) ∨ (q = 86 ∧ j = 2) ∨ (q = 86 ∧ j = 3) ∨ (q = 86 ∧ j = 4) ∨ (q = 86 ∧ j = 5) ∨ q = 91 ∨ q = 22 ∨ q = 92 ∨ q = 93) FI5 (fun q j h => (h.elim (fun h => (Or.inl h)) (fun h => (h.elim (fun h => (Or.inr (Or.inl h))) (fun h => (h.elim (fun h => (Or.inr (Or.inr (Or.inl h)))) (fun h => (h.elim (fun h => (Or.inr (Or.inr (Or.inr (Or.inl h))))) (fun h => (h.elim (fun h => (Or.inr (Or.inr (Or.inr (Or.inr (Or.inl h)))))) (fun h => (h.elim (fun h => (Or.inr (Or.inr (Or.inr (Or.inr (Or.inr (Or.inl h))))))) (fun h => (h.elim (fun h => (Or.inr (Or.inr (Or.inr (Or.inr (Or.inr (Or.inr (Or.inl h)))))))) (fun h => (h.elim (fun h => (Or.inr (Or.inr (Or.inr (Or.inr (Or.inr (Or.inr (Or.inr (Or.inl h))))))))) (fun h => (h.elim (fun h => (Or.inr (Or.inr (Or.inr (Or.inr (Or.inr (Or.inr (Or.inr (Or.inr (Or.inl h)))))))))) (fun h => (h.elim (fun h => (Or.inr (Or.inr (Or.inr (Or.inr (Or.inr (Or.inr (Or.inr (Or.inr (Or.inr (Or.inl h))))))))))) (fun h => (Or.inr (Or.inr (Or.inr (Or.inr (Or.inr (Or.inr (Or.inr (Or.inr (Or.inr (Or.inr (Or.inl h)))))))))))))))))))))))))))))))) g10
  have FJ12 := gc_frc (W := fun q j => q = 88 ∨ q = 90) (V := fun q j => q = 88 ∨ q = 90) FJ (fun q j h => (h.elim (fun h => (Or.inl h)) (fun h => (Or.inr h)))) k10
  have f13 := (gc_b_74_1 hI11 R_86)
  have f14 := (gc_b_74_2 hI11 R_86)
  have f15 := (gc_b_74_4 hI11 R_86)
  refine gv_callV hD rfl (As := [.inl a1]) (st := []) rfl B_0 S_0 rfl (gc_lV12 hws rfl) (Nat.le_of_ble_eq_true rfl) (gz_Ev_mono (d := 6) (by decide) E10) ?_
  show gv_X _ _ (17, [(0, .inr (.inr (some 0))), (1, .inl a1)], [.inl z10], sh, gc_h sh I11 J12 A)
  refine gv_run 2 true hD (pcₚ := 19) (lvₚ := [(2, .inl z10), (0, .inr (.inr (some 0))), (1, .inl a1)]) (stₚ := [.inl z10]) (hₚ := gc_h sh I11 J12 A) (C := ((True ∧ True) ∧ True)) rfl ⟨⟨trivial, trivial⟩, trivial⟩ ?_
  refine gv_if_ge (t := 24) hD rfl rfl ⟨by exact gz_m 15 (by omega), by exact gz_m 16 (by omega)⟩ (fun c16 => ?_) (fun c16 => ?_)
  · show gv_X _ _ (24, [(2, .inl z10), (0, .inr (.inr (some 0))), (1, .inl a1)], [], sh, gc_h sh I11 J12 A)
    refine gv_run 1 true hD (pcₚ := 25) (lvₚ := [(2, .inl z10), (0, .inr (.inr (some 0))), (1, .inl a1)]) (stₚ := [.inr (.inr (some 0))]) (hₚ := gc_h sh I11 J12 A) (C := (True ∧ True)) rfl ⟨trivial, trivial⟩ ?_
    refine gv_get hD rfl rfl S_0 ⟨by decide, B_0⟩ (gc_hA S_0 rfl A_0_9) ?_
    show gv_X _ _ (28, [(2, .inl z10), (0, .inr (.inr (some 0))), (1, .inl a1)], [.inr (.inr (some 86))], sh, gc_h sh I11 J12 A)
    refine gv_run 1 true hD (pcₚ := 29) (lvₚ := [(2, .inl z10), (0, .inr (.inr (some 0))), (1, .inl a1)]) (stₚ := [.inr (.inr (some 0)), .inr (.inr (some 86))]) (hₚ := gc_h sh I11 J12 A) (C := (True ∧ True)) rfl ⟨trivial, trivial⟩ ?_
    refine gv_get hD rfl rfl S_0 ⟨by decide, B_0⟩ (gc_hA S_0 rfl A_0_2) ?_
    show gv_X _ _ (32, [(2, .inl z10), (0, .inr (.inr (some 0))), (1, .inl a1)], [.inr (.inr (some 27)), .inr (.inr (some 86))], sh, gc_h sh I11 J12 A)
    obtain ⟨r17, h17, E17, P17⟩ := d_X10_tell (ws0 := ws0) (tb := tb) hws htb sh ro I11 J12 A hI11  27 hb (gc_b27 hb) (by exact gz_m 17 (by omega))    
    obtain ⟨I18, J19, rfl, hI18, g17, k17, rfl⟩ := P17
    have FI18 := gc_frc (W := fun q j => q = 87 ∨ q = 89 ∨ (q = 86 ∧ j = 1) ∨ (q = 86 ∧ j = 2) ∨ (q = 86 ∧ j = 3) ∨ (q = 86 ∧ j = 4) ∨ (q = 86 ∧ j = 5) ∨ q = 91 ∨ q = 22 ∨ q = 92 ∨ q = 93 ∨ (q = 27 ∧ j = 1) ∨ q = 28) (V := fun q j => (q = 27 ∧ j = 1) ∨ q = 28 ∨ q = 92 ∨ q = 93) FI11 (fun q j h => (h.elim (fun h => (Or.inr (Or.inr (Or.inr (Or.inr (Or.inr (Or.inr (Or.inr (Or.inr (Or.inr (Or.inr (Or.inr (Or.inl h))))))))))))) (fun h => (h.elim (fun h => (Or.inr (Or.inr (Or.inr (Or.inr (Or.inr (Or.inr (Or.inr (Or.inr (Or.inr (Or.inr (Or.inr (Or.inr h))))))))))))) (fun h => (h.elim (fun h => (Or.inr (Or.inr (Or.inr (Or.inr (Or.inr (Or.inr (Or.inr (Or.inr (Or.inr (Or.inl h))))))))))) (fun h => (Or.inr (Or.inr (Or.inr (Or.inr (Or.inr (Or.inr (Or.inr (Or.inr (Or.inr (Or.inr (Or.inl h)))))))))))))))))) g17
    have t20 := (g17 86 1).resolve_left (fun h => h.elim (fun h => absurd h.1 (by first | exact gz_ne rfl | decide)) (fun h => h.elim (fun h => absurd h (by first | exact gz_ne rfl | decide)) (fun h => h.elim (fun h => absurd h (by first | exact gz_ne rfl | decide)) (fun h => absurd h (by first | exact gz_ne rfl | decide)))))
    have t21 := (g17 86 2).resolve_left (fun h => h.elim (fun h => absurd h.2 (by first | exact gz_ne rfl | decide)) (fun h => h.elim (fun h => absurd h (by first | exact gz_ne rfl | decide)) (fun h => h.elim (fun h => absurd h (by first | exact gz_ne rfl | decide)) (fun h => absurd h (by first | exact gz_ne rfl | decide)))))
    have t22 := (g17 86 4).resolve_left (fun h => h.elim (fun h => absurd h.2 (by first | exact gz_ne rfl | decide)) (fun h => h.elim (fun h => absurd h (by first | exact gz_ne rfl | decide)) (fun h => h.elim (fun h => absurd h (by first | exact gz_ne rfl | decide)) (fun h => absurd h (by first | exact gz_ne rfl | decide)))))
    obtain rfl : J12 = J19 := funext fun q => funext fun j => ((k17 q j).resolve_left id).symm
    refine gv_callV hD rfl (As := [.inr (.inr (some 27))]) (st := []) rfl B_86 S_86 rfl (gc_lV12 hws rfl) (Nat.le_of_ble_eq_true rfl) (gz_Ev_mono (d := 4) (by decide) E17) ?_
    show gv_X _ _ (35, [(2, .inl z10), (0, .inr (.inr (some 0))), (1, .inl a1)], [], sh, gc_h sh I18 J12 A)
    refine gv_run 1 true hD (pcₚ := 36) (lvₚ := [(2, .inl z10), (0, .inr (.inr (some 0))), (1, .inl a1)]) (stₚ := [.inr (.inr (some 0))]) (hₚ := gc_h sh I18 J12 A) (C := (True ∧ True)) rfl ⟨trivial, trivial⟩ ?_
    refine gv_get hD rfl rfl S_0 ⟨by decide, B_0⟩ (gc_hA S_0 rfl A_0_2) ?_
    show gv_X _ _ (39, [(2, .inl z10), (0, .inr (.inr (some 0))), (1, .inl a1)], [.inr (.inr (some 27))], sh, gc_h sh I18 J12 A)
    have f23 := (gc_b_3_1 hI18 R_27)
    refine gv_get hD rfl rfl S_27 ⟨by decide, B_27⟩ (gc_hI S_27 rfl) ?_
    show gv_X _ _ (42, [(2, .inl z10), (0, .inr (.inr (some 0))), (1, .inl a1)], [.inl (I18 27 1)], sh, gc_h sh I18 J12 A)
    exact gv_iret hD rfl ⟨I18, J12, rfl, hI18, FI18, FJ12, ⟨_, rfl, by exact gz_m 18 (by omega)⟩⟩
  · show gv_X _ _ (22, [(2, .inl z10), (0, .inr (.inr (some 0))), (1, .inl a1)], [], sh, gc_h sh I11 J12 A)
    refine gv_run 1 true hD (pcₚ := 23) (lvₚ := [(2, .inl z10), (0, .inr (.inr (some 0))), (1, .inl a1)]) (stₚ := [.inl z10]) (hₚ := gc_h sh I11 J12 A) (C := (True ∧ True)) rfl ⟨trivial, trivial⟩ ?_
    exact gv_iret hD rfl ⟨I11, J12, rfl, hI11, FI11, FJ12, ⟨_, rfl, by exact gz_m 19 (by omega)⟩⟩
set_option maxHeartbeats 8000000 in
set_option maxRecDepth 100000 in
theorem d_X12_truth {ws0 : List Cond} {tb : String → gz_T} (hws : gc_Ws ws0) (htb : gc_tbs tb) (sh : gz_Sh) (ro : Nat → Nat) (I : gr_I) (J : gr_J) (A : gc_A) (hI : gc_Inv ro I) (u : Nat) (a1 : Int) (hb : gc_Base sh ro A) (S_u : sh[u]? = some (true, 1, 60)) (R_u : ro u = 37) (B_u : u < 1000000) (ha1 : 0 ≤ a1 ∧ a1 ≤ 7) (x0 : A 114 (Int.toNat a1) = some u) (x1 : u = 115 + Int.toNat a1) (x2 : I 86 2 + I 86 4 = 1) (x3 : I 124 (Int.toNat a1) = 0 ∨ gc_wtr I u (I 124 (Int.toNat a1))) (x4 : gc_MS I) : ∃ r hₚ, gz_Ev ws0 tb 7 (yX12_truth, cX12_truth, 3, (some .int)) [.inr (.inr (some 0)), .inl a1] sh (gc_h sh I J A) r sh hₚ 0 0 ∧ (∃ (Iₚ : gr_I) (Jₚ : gr_J), hₚ = gc_h sh Iₚ Jₚ A ∧ gc_Inv ro Iₚ ∧ (∀ q j : Nat, (q = 87 ∨ q = 89 ∨ (q = 86 ∧ j = 1) ∨ (q = 86 ∧ j = 2) ∨ (q = 86 ∧ j = 3) ∨ (q = 86 ∧ j = 4) ∨ (q = 86 ∧ j = 5) ∨ q = 91 ∨ q = 22 ∨ q = 92 ∨ q = 93 ∨ q = 95 ∨ q = 96 ∨ q = 98 ∨ (q = 86 ∧ j = 9) ∨ (q = 86 ∧ j = 16) ∨ (q = 86 ∧ j = 17) ∨ (q = 86 ∧ j = 18) ∨ q = 97 ∨ q = 99) ∨ Iₚ q j = I q j) ∧ (∀ q j : Nat, (q = 88 ∨ q = 90 ∨ q = 94) ∨ Jₚ q j = J q j) ∧ (∃ z : Int, r = some (.inl z) ∧ (-4) ≤ z ∧ z ≤ 1 ∧ (Iₚ 86 2 + Iₚ 86 4 = 1))) := by
  have FI : ∀ q j : Nat, (q = 87 ∨ q = 89 ∨ (q = 86 ∧ j = 1) ∨ (q = 86 ∧ j = 2) ∨ (q = 86 ∧ j = 3) ∨ (q = 86 ∧ j = 4) ∨ (q = 86 ∧ j = 5) ∨ q = 91 ∨ q = 22 ∨ q = 92 ∨ q = 93 ∨ q = 95 ∨ q = 96 ∨ q = 98 ∨ (q = 86 ∧ j = 9) ∨ (q = 86 ∧ j = 16) ∨ (q = 86 ∧ j = 17) ∨ (q = 86 ∧ j = 18) ∨ q = 97 ∨ q = 99) ∨ I q j = I q j := fun _ _ => Or.inr rfl
  have FJ : ∀ q j : Nat, (q = 88 ∨ q = 90 ∨ q = 94) ∨ J q j = J q j := fun _ _ => Or.inr rfl
  have A_0_9 : A 0 9 = some 86 := gc_bA_0_9 hb
  have B_0 : 0 < 1000000 := by decide
  have B_86 : 86 < 1000000 := by decide
  have R_86 : ro 86 = 74 := gc_bR_86 hb
  have S_0 : sh[0]? = some (false, 12, 17) := gc_bS_0 hb
  have S_86 : sh[86]? = some (false, 10, 19) := gc_bS_86 hb
  have hD : gv_D (gc_E12 ws0 tb 6 (yX12_truth, cX12_truth, 3, (some .int)) kX12_truth) := gq_of oX12_truth
  refine gc_ev12 (d := 6) (l := kX12_truth) (Po := fun r hₚ => (∃ (Iₚ : gr_I) (Jₚ : gr_J), hₚ = gc_h sh Iₚ Jₚ A ∧ gc_Inv ro Iₚ ∧ (∀ q j : Nat, (q = 87 ∨ q = 89 ∨ (q = 86 ∧ j = 1) ∨ (q = 86 ∧ j = 2) ∨ (q = 86 ∧ j = 3) ∨ (q = 86 ∧ j = 4) ∨ (q = 86 ∧ j = 5) ∨ q = 91 ∨ q = 22 ∨ q = 92 ∨ q = 93 ∨ q = 95 ∨ q = 96 ∨ q = 98 ∨ (q = 86 ∧ j = 9) ∨ (q = 86 ∧ j = 16) ∨ (q = 86 ∧ j = 17) ∨ (q = 86 ∧ j = 18) ∨ q = 97 ∨ q = 99) ∨ Iₚ q j = I q j) ∧ (∀ q j : Nat, (q = 88 ∨ q = 90 ∨ q = 94) ∨ Jₚ q j = J q j) ∧ (∃ z : Int, r = some (.inl z) ∧ (-4) ≤ z ∧ z ≤ 1 ∧ (Iₚ 86 2 + Iₚ 86 4 = 1)))) htb rfl (Nat.le_of_ble_eq_true rfl) ?_
  have f1 := (gc_b_74_1 hI R_86)
  have f2 := (gc_b_74_2 hI R_86)
  have f3 := (gc_b_74_4 hI R_86)
  have L25 : ∀ (I4 : gr_I) (J5 : gr_J) (s0_6 : Int), gc_Inv ro I4 → (∀ q j : Nat, (q = 87 ∨ q = 89 ∨ (q = 86 ∧ j = 1) ∨ (q = 86 ∧ j = 2) ∨ (q = 86 ∧ j = 3) ∨ (q = 86 ∧ j = 4) ∨ (q = 86 ∧ j = 5) ∨ q = 91 ∨ q = 22 ∨ q = 92 ∨ q = 93 ∨ q = 95 ∨ q = 96 ∨ q = 98 ∨ (q = 86 ∧ j = 9) ∨ (q = 86 ∧ j = 16) ∨ (q = 86 ∧ j = 17) ∨ (q = 86 ∧ j = 18) ∨ q = 97 ∨ q = 99) ∨ I4 q j = I q j) → (∀ q j : Nat, (q = 88 ∨ q = 90 ∨ q = 94) ∨ J5 q j = J q j) → (((-4) ≤ s0_6 ∧ s0_6 ≤ 1) ∧ (I4 86 2 + I4 86 4 = 1)) → gv_X (gc_E12 ws0 tb 6 (yX12_truth, cX12_truth, 3, (some .int)) kX12_truth) (gv_Q cX12_truth (some .int) sh (fun r hₚ => (∃ (Iₚ : gr_I) (Jₚ : gr_J), hₚ = gc_h sh Iₚ Jₚ A ∧ gc_Inv ro Iₚ ∧ (∀ q j : Nat, (q = 87 ∨ q = 89 ∨ (q = 86 ∧ j = 1) ∨ (q = 86 ∧ j = 2) ∨ (q = 86 ∧ j = 3) ∨ (q = 86 ∧ j = 4) ∨ (q = 86 ∧ j = 5) ∨ q = 91 ∨ q = 22 ∨ q = 92 ∨ q = 93 ∨ q = 95 ∨ q = 96 ∨ q = 98 ∨ (q = 86 ∧ j = 9) ∨ (q = 86 ∧ j = 16) ∨ (q = 86 ∧ j = 17) ∨ (q = 86 ∧ j = 18) ∨ q = 97 ∨ q = 99) ∨ Iₚ q j = I q j) ∧ (∀ q j : Nat, (q = 88 ∨ q = 90 ∨ q = 94) ∨ Jₚ q j = J q j) ∧ (∃ z : Int, r = some (.inl z) ∧ (-4) ≤ z ∧ z ≤ 1 ∧ (Iₚ 86 2 + Iₚ 86 4 = 1))))) (25, [], [.inl s0_6], sh, gc_h sh I4 J5 A) := by
    intro I4 J5 s0_6 hI4 FI4 FJ5 m_6
    obtain ⟨hs0_6, e0_6⟩ := m_6
    have f7 := (gc_b_74_1 hI4 R_86)
    have f8 := (gc_b_74_2 hI4 R_86)
    have f9 := (gc_b_74_4 hI4 R_86)
    exact gv_iret hD rfl ⟨I4, J5, rfl, hI4, FI4, FJ5, ⟨_, rfl, by exact gz_m 0 (by omega)⟩⟩
  refine gv_run 1 true hD (pcₚ := 1) (lvₚ := [(0, .inr (.inr (some 0))), (1, .inl a1)]) (stₚ := [.inl a1]) (hₚ := gc_h sh I J A) (C := (True ∧ True)) rfl ⟨trivial, trivial⟩ ?_
  obtain ⟨r10, h10, E10, P10⟩ := d_X12_checkPlace (ws0 := ws0) (tb := tb) hws htb sh ro I J A hI  a1 hb   ⟨by exact gz_m 1 (by omega), by exact gz_m 2 (by omega)⟩  
  obtain ⟨rfl, rfl⟩ := P10
  refine gv_callS hD rfl (As := [.inl a1]) (st := []) rfl (gc_lS12 hws rfl) (Nat.le_of_ble_eq_true rfl) (gz_Ev_mono (d := 1) (by decide) E10) ?_
  show gv_X _ _ (4, [(0, .inr (.inr (some 0))), (1, .inl a1)], [], sh, gc_h sh I J A)
  refine gv_run 2 true hD (pcₚ := 6) (lvₚ := [(0, .inr (.inr (some 0))), (1, .inl a1)]) (stₚ := [.inl a1, .inr (.inr (some 0))]) (hₚ := gc_h sh I J A) (C := ((True ∧ True) ∧ True)) rfl ⟨⟨trivial, trivial⟩, trivial⟩ ?_
  obtain ⟨r11, h11, E11, P11⟩ := d_X12_meaningOf (ws0 := ws0) (tb := tb) hws htb sh ro I J A hI  u a1 hb  S_u R_u B_u ⟨by exact gz_m 3 (by omega), by exact gz_m 4 (by omega)⟩ x0 (by exact gz_m 5 (by omega)) (by exact gz_m 6 (by omega)) x3 x4 
  obtain ⟨I12, J13, rfl, hI12, g11, k11, ⟨z11, rfl, q11⟩⟩ := P11
  have FI12 := gc_frc (W := fun q j => q = 87 ∨ q = 89 ∨ (q = 86 ∧ j = 1) ∨ (q = 86 ∧ j = 2) ∨ (q = 86 ∧ j = 3) ∨ (q = 86 ∧ j = 4) ∨ (q = 86 ∧ j = 5) ∨ q = 91 ∨ q = 22 ∨ q = 92 ∨ q = 93 ∨ q = 95 ∨ q = 96 ∨ q = 98 ∨ (q = 86 ∧ j = 9) ∨ (q = 86 ∧ j = 16) ∨ (q = 86 ∧ j = 17) ∨ (q = 86 ∧ j = 18) ∨ q = 97 ∨ q = 99) (V := fun q j => q = 87 ∨ q = 89 ∨ (q = 86 ∧ j = 1) ∨ (q = 86 ∧ j = 2) ∨ (q = 86 ∧ j = 3) ∨ (q = 86 ∧ j = 4) ∨ (q = 86 ∧ j = 5) ∨ q = 91 ∨ q = 22 ∨ q = 92 ∨ q = 93) FI (fun q j h => (h.elim (fun h => (Or.inl h)) (fun h => (h.elim (fun h => (Or.inr (Or.inl h))) (fun h => (h.elim (fun h => (Or.inr (Or.inr (Or.inl h)))) (fun h => (h.elim (fun h => (Or.inr (Or.inr (Or.inr (Or.inl h))))) (fun h => (h.elim (fun h => (Or.inr (Or.inr (Or.inr (Or.inr (Or.inl h)))))) (fun h => (h.elim (fun h => (Or.inr (Or.inr (Or.inr (Or.inr (Or.inr (Or.inl h))))))) (fun h => (h.elim (fun h => (Or.inr (Or.inr (Or.inr (Or.inr (Or.inr (Or.inr (Or.inl h)))))))) (fun h => (h.elim (fun h => (Or.inr (Or.inr (Or.inr (Or.inr (Or.inr (Or.inr (Or.inr (Or.inl h))))))))) (fun h => (h.elim (fun h => (Or.inr (Or.inr (Or.inr (Or.inr (Or.inr (Or.inr (Or.inr (Or.inr (Or.inl h)))))))))) (fun h => (h.elim (fun h => (Or.inr (Or.inr (Or.inr (Or.inr (Or.inr (Or.inr (Or.inr (Or.inr (Or.inr (Or.inl h))))))))))) (fun h => (Or.inr (Or.inr (Or.inr (Or.inr (Or.inr (Or.inr (Or.inr (Or.inr (Or.inr (Or.inr (Or.inl h)))))))))))))))))))))))))))))))) g11
  have FJ13 := gc_frc (W := fun q j => q = 88 ∨ q = 90 ∨ q = 94) (V := fun q j => q = 88 ∨ q = 90) FJ (fun q j h => (h.elim (fun h => (Or.inl h)) (fun h => (Or.inr (Or.inl h))))) k11
  have f14 := (gc_b_74_1 hI12 R_86)
  have f15 := (gc_b_74_2 hI12 R_86)
  have f16 := (gc_b_74_4 hI12 R_86)
  refine gv_callV hD rfl (As := [.inl a1]) (st := []) rfl B_0 S_0 rfl (gc_lV12 hws rfl) (Nat.le_of_ble_eq_true rfl) (gz_Ev_mono (d := 6) (by decide) E11) ?_
  show gv_X _ _ (9, [(0, .inr (.inr (some 0))), (1, .inl a1)], [.inl z11], sh, gc_h sh I12 J13 A)
  refine gv_run 2 true hD (pcₚ := 11) (lvₚ := [(2, .inl z11), (0, .inr (.inr (some 0))), (1, .inl a1)]) (stₚ := [.inl z11]) (hₚ := gc_h sh I12 J13 A) (C := ((True ∧ True) ∧ True)) rfl ⟨⟨trivial, trivial⟩, trivial⟩ ?_
  refine gv_if_ge (t := 18) hD rfl rfl ⟨by exact gz_m 7 (by omega), by exact gz_m 8 (by omega)⟩ (fun c17 => ?_) (fun c17 => ?_)
  · show gv_X _ _ (18, [(2, .inl z11), (0, .inr (.inr (some 0))), (1, .inl a1)], [], sh, gc_h sh I12 J13 A)
    refine gv_run 1 true hD (pcₚ := 19) (lvₚ := [(2, .inl z11), (0, .inr (.inr (some 0))), (1, .inl a1)]) (stₚ := [.inr (.inr (some 0))]) (hₚ := gc_h sh I12 J13 A) (C := (True ∧ True)) rfl ⟨trivial, trivial⟩ ?_
    refine gv_get hD rfl rfl S_0 ⟨by decide, B_0⟩ (gc_hA S_0 rfl A_0_9) ?_
    show gv_X _ _ (22, [(2, .inl z11), (0, .inr (.inr (some 0))), (1, .inl a1)], [.inr (.inr (some 86))], sh, gc_h sh I12 J13 A)
    obtain ⟨r18, h18, E18, P18⟩ := d_X10_judge (ws0 := ws0) (tb := tb) hws htb sh ro I12 J13 A hI12   hb    (q11.2.2.2.resolve_left (by exact gz_m 9 (by omega))) 
    obtain ⟨I19, J20, rfl, hI19, g18, k18, ⟨z18, rfl, q18⟩⟩ := P18
    have FI19 := gc_frc (W := fun q j => q = 87 ∨ q = 89 ∨ (q = 86 ∧ j = 1) ∨ (q = 86 ∧ j = 2) ∨ (q = 86 ∧ j = 3) ∨ (q = 86 ∧ j = 4) ∨ (q = 86 ∧ j = 5) ∨ q = 91 ∨ q = 22 ∨ q = 92 ∨ q = 93 ∨ q = 95 ∨ q = 96 ∨ q = 98 ∨ (q = 86 ∧ j = 9) ∨ (q = 86 ∧ j = 16) ∨ (q = 86 ∧ j = 17) ∨ (q = 86 ∧ j = 18) ∨ q = 97 ∨ q = 99) (V := fun q j => q = 95 ∨ q = 96 ∨ q = 98 ∨ (q = 86 ∧ j = 9) ∨ (q = 86 ∧ j = 16) ∨ (q = 86 ∧ j = 17) ∨ (q = 86 ∧ j = 18) ∨ q = 97 ∨ q = 99) FI12 (fun q j h => (h.elim (fun h => (Or.inr (Or.inr (Or.inr (Or.inr (Or.inr (Or.inr (Or.inr (Or.inr (Or.inr (Or.inr (Or.inr (Or.inl h))))))))))))) (fun h => (h.elim (fun h => (Or.inr (Or.inr (Or.inr (Or.inr (Or.inr (Or.inr (Or.inr (Or.inr (Or.inr (Or.inr (Or.inr (Or.inr (Or.inl h)))))))))))))) (fun h => (h.elim (fun h => (Or.inr (Or.inr (Or.inr (Or.inr (Or.inr (Or.inr (Or.inr (Or.inr (Or.inr (Or.inr (Or.inr (Or.inr (Or.inr (Or.inl h))))))))))))))) (fun h => (h.elim (fun h => (Or.inr (Or.inr (Or.inr (Or.inr (Or.inr (Or.inr (Or.inr (Or.inr (Or.inr (Or.inr (Or.inr (Or.inr (Or.inr (Or.inr (Or.inl h)))))))))))))))) (fun h => (h.elim (fun h => (Or.inr (Or.inr (Or.inr (Or.inr (Or.inr (Or.inr (Or.inr (Or.inr (Or.inr (Or.inr (Or.inr (Or.inr (Or.inr (Or.inr (Or.inr (Or.inl h))))))))))))))))) (fun h => (h.elim (fun h => (Or.inr (Or.inr (Or.inr (Or.inr (Or.inr (Or.inr (Or.inr (Or.inr (Or.inr (Or.inr (Or.inr (Or.inr (Or.inr (Or.inr (Or.inr (Or.inr (Or.inl h)))))))))))))))))) (fun h => (h.elim (fun h => (Or.inr (Or.inr (Or.inr (Or.inr (Or.inr (Or.inr (Or.inr (Or.inr (Or.inr (Or.inr (Or.inr (Or.inr (Or.inr (Or.inr (Or.inr (Or.inr (Or.inr (Or.inl h))))))))))))))))))) (fun h => (h.elim (fun h => (Or.inr (Or.inr (Or.inr (Or.inr (Or.inr (Or.inr (Or.inr (Or.inr (Or.inr (Or.inr (Or.inr (Or.inr (Or.inr (Or.inr (Or.inr (Or.inr (Or.inr (Or.inr (Or.inl h)))))))))))))))))))) (fun h => (Or.inr (Or.inr (Or.inr (Or.inr (Or.inr (Or.inr (Or.inr (Or.inr (Or.inr (Or.inr (Or.inr (Or.inr (Or.inr (Or.inr (Or.inr (Or.inr (Or.inr (Or.inr (Or.inr h)))))))))))))))))))))))))))))))))))) g18
    have FJ20 := gc_frc (W := fun q j => q = 88 ∨ q = 90 ∨ q = 94) (V := fun q j => q = 94) FJ13 (fun q j h => (Or.inr (Or.inr h))) k18
    have t21 := (g18 86 1).resolve_left (fun h => h.elim (fun h => absurd h (by first | exact gz_ne rfl | decide)) (fun h => h.elim (fun h => absurd h (by first | exact gz_ne rfl | decide)) (fun h => h.elim (fun h => absurd h (by first | exact gz_ne rfl | decide)) (fun h => h.elim (fun h => absurd h.2 (by first | exact gz_ne rfl | decide)) (fun h => h.elim (fun h => absurd h.2 (by first | exact gz_ne rfl | decide)) (fun h => h.elim (fun h => absurd h.2 (by first | exact gz_ne rfl | decide)) (fun h => h.elim (fun h => absurd h.2 (by first | exact gz_ne rfl | decide)) (fun h => h.elim (fun h => absurd h (by first | exact gz_ne rfl | decide)) (fun h => absurd h (by first | exact gz_ne rfl | decide))))))))))
    have t22 := (g18 86 2).resolve_left (fun h => h.elim (fun h => absurd h (by first | exact gz_ne rfl | decide)) (fun h => h.elim (fun h => absurd h (by first | exact gz_ne rfl | decide)) (fun h => h.elim (fun h => absurd h (by first | exact gz_ne rfl | decide)) (fun h => h.elim (fun h => absurd h.2 (by first | exact gz_ne rfl | decide)) (fun h => h.elim (fun h => absurd h.2 (by first | exact gz_ne rfl | decide)) (fun h => h.elim (fun h => absurd h.2 (by first | exact gz_ne rfl | decide)) (fun h => h.elim (fun h => absurd h.2 (by first | exact gz_ne rfl | decide)) (fun h => h.elim (fun h => absurd h (by first | exact gz_ne rfl | decide)) (fun h => absurd h (by first | exact gz_ne rfl | decide))))))))))
    have t23 := (g18 86 4).resolve_left (fun h => h.elim (fun h => absurd h (by first | exact gz_ne rfl | decide)) (fun h => h.elim (fun h => absurd h (by first | exact gz_ne rfl | decide)) (fun h => h.elim (fun h => absurd h (by first | exact gz_ne rfl | decide)) (fun h => h.elim (fun h => absurd h.2 (by first | exact gz_ne rfl | decide)) (fun h => h.elim (fun h => absurd h.2 (by first | exact gz_ne rfl | decide)) (fun h => h.elim (fun h => absurd h.2 (by first | exact gz_ne rfl | decide)) (fun h => h.elim (fun h => absurd h.2 (by first | exact gz_ne rfl | decide)) (fun h => h.elim (fun h => absurd h (by first | exact gz_ne rfl | decide)) (fun h => absurd h (by first | exact gz_ne rfl | decide))))))))))
    refine gv_callV hD rfl (As := []) (st := []) rfl B_86 S_86 rfl (gc_lV12 hws rfl) (Nat.le_of_ble_eq_true rfl) (gz_Ev_mono (d := 4) (by decide) E18) ?_
    show gv_X _ _ (25, [(2, .inl z11), (0, .inr (.inr (some 0))), (1, .inl a1)], [.inl z18], sh, gc_h sh I19 J20 A)
    refine gv_pick [] rfl ?_
    exact L25 I19 J20 z18 hI19 FI19 FJ20 (by exact gz_m 10 (by omega))
  · show gv_X _ _ (14, [(2, .inl z11), (0, .inr (.inr (some 0))), (1, .inl a1)], [], sh, gc_h sh I12 J13 A)
    refine gv_run 2 true hD (pcₚ := 25) (lvₚ := [(2, .inl z11), (0, .inr (.inr (some 0))), (1, .inl a1)]) (stₚ := [.inl z11]) (hₚ := gc_h sh I12 J13 A) (C := ((True ∧ True) ∧ True)) rfl ⟨⟨trivial, trivial⟩, trivial⟩ ?_
    refine gv_pick [] rfl ?_
    exact L25 I12 J13 z11 hI12 FI12 FJ13 (by exact gz_m 11 (by omega))
