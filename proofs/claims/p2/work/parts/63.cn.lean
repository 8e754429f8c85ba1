def gc_TK (I : gr_I) : Prop := I 23 5 ≤ I 23 6 ∧ (I 23 7 = 5 ∨ I 23 6 ≤ I 23 1) ∧ I 23 5 ≤ I 23 1 ∧ (I 23 7 = 4 ∨ (I 23 5 < I 23 6 ∧ I 23 5 < I 23 1)) ∧ (I 23 7 = 3 → 2 ≤ I 23 6 - I 23 5 ∧ I 23 6 - I 23 5 ≤ 14)
theorem gc_TK_fr {I I' : gr_I} (h : gc_TK I) (h1 : I' 23 1 = I 23 1) (h5 : I' 23 5 = I 23 5) (h6 : I' 23 6 = I 23 6) (h7 : I' 23 7 = I 23 7) : gc_TK I' := by
  unfold gc_TK at h ⊢
  rw [h1, h5, h6, h7]
  exact h
theorem gc_TK_nx {I : gr_I} (h : gc_TK I) (h5 : ¬ I 23 7 = 5) : I 23 6 ≤ I 23 1 := h.2.1.resolve_left h5
theorem gc_TK_mo {I : gr_I} (h : gc_TK I) : I 23 5 ≤ I 23 6 ∧ I 23 5 ≤ I 23 1 := ⟨h.1, h.2.2.1⟩
theorem gc_TK_st {I : gr_I} (h : gc_TK I) (h4 : ¬ I 23 7 = 4) : I 23 5 < I 23 6 ∧ I 23 5 < I 23 1 := h.2.2.2.1.resolve_left h4
theorem gc_TK_l3 {I : gr_I} (h : gc_TK I) (h3 : I 23 7 = 3) : 2 ≤ I 23 6 - I 23 5 ∧ I 23 6 - I 23 5 ≤ 14 := h.2.2.2.2 h3
def gc_LT (I : gr_I) : Prop := I 23 7 = 3 → ∀ k : Int, I 23 5 < k → k < I 23 6 - 1 → 97 ≤ I 24 (Int.toNat k) ∧ I 24 (Int.toNat k) ≤ 122
theorem gc_LT_fr {I I' : gr_I} (h : gc_LT I) (h1 : I' 23 5 = I 23 5) (h2 : I' 23 6 = I 23 6) (h3 : I' 23 7 = I 23 7) (h4 : ∀ k, I' 24 k = I 24 k) : gc_LT I' := fun h9 k a b => by
  rw [h4]
  exact h (by omega) k (by omega) (by omega)
set_option maxHeartbeats 4000000 in
set_option maxRecDepth 100000 in
theorem d_X6_wrong {ws0 : List Cond} {tb : String → gz_T} (hws : gc_Ws ws0) (htb : gc_tbs tb) (sh : gz_Sh) (ro : Nat → Nat) (I : gr_I) (J : gr_J) (A : gc_A) (hI : gc_Inv ro I) (a1 : Int) (a2 : Int) (hb : gc_Base sh ro A) (ha1 : 0 ≤ a1 ∧ a1 ≤ 6) (ha2 : 0 ≤ a2 ∧ a2 ≤ 1000)  : ∃ r h', gz_Ev ws0 tb 1 (yX6_wrong, cX6_wrong, 3, (some .boolean)) [.inr (.inr (some 39)), .inl a1, .inl a2] sh (gc_h sh I J A) r sh h' 0 0 ∧ (∃ (I' : gr_I) (J' : gr_J), h' = gc_h sh I' J' A ∧ gc_Inv ro I' ∧ (∀ q j : Nat, ((q = 39 ∧ j = 3) ∨ (q = 39 ∧ j = 4)) ∨ I' q j = I q j) ∧ (∀ q j : Nat, (False) ∨ J' q j = J q j) ∧ (∃ z : Int, r = some (.inl z) ∧ 0 ≤ z ∧ z ≤ 1 ∧ (z = 0))) := by
  have FI : ∀ q j : Nat, ((q = 39 ∧ j = 3) ∨ (q = 39 ∧ j = 4)) ∨ I q j = I q j := fun _ _ => Or.inr rfl
  have FJ : ∀ q j : Nat, (False) ∨ J q j = J q j := fun _ _ => Or.inr rfl
  have B_39 : 39 < 1000000 := by decide
  have R_39 : ro 39 = 42 := gc_bR hb (by decide) rfl
  have S_39 : sh[39]? = some (false, 6, 19) := gc_bS hb rfl
  have hD : gv_D (gc_E6 ws0 tb 0 (yX6_wrong, cX6_wrong, 3, (some .boolean)) kX6_wrong) := gq_ok oX6_wrong
  refine gc_ev6 (d := 0) (l := kX6_wrong) (Po := fun r h' => (∃ (I' : gr_I) (J' : gr_J), h' = gc_h sh I' J' A ∧ gc_Inv ro I' ∧ (∀ q j : Nat, ((q = 39 ∧ j = 3) ∨ (q = 39 ∧ j = 4)) ∨ I' q j = I q j) ∧ (∀ q j : Nat, (False) ∨ J' q j = J q j) ∧ (∃ z : Int, r = some (.inl z) ∧ 0 ≤ z ∧ z ≤ 1 ∧ (z = 0)))) htb rfl (Nat.le_of_ble_eq_true rfl) ?_
  refine gv_run 2 true hD (pc' := 2) (lv' := [(0, .inr (.inr (some 39))), (1, .inl a1), (2, .inl a2)]) (st' := [.inl a1, .inr (.inr (some 39))]) (h' := gc_h sh I J A) (C := ((True ∧ True) ∧ True)) rfl ⟨⟨trivial, trivial⟩, trivial⟩ ?_
  refine gv_put hD rfl rfl S_39 ⟨by decide, B_39⟩ rfl trivial ?_
  refine gc_st (k := 3) hI S_39 rfl R_39 (lo := 0) (hi := 6) rfl rfl (by omega) (by omega) (fun I1 hI1 q2 p2 => ?_)
  have FI1 := gc_frs (W := fun q j => (q = 39 ∧ j = 3) ∨ (q = 39 ∧ j = 4)) FI (Or.inl ⟨rfl, rfl⟩) p2
  show gv_X _ _ (5, [(0, .inr (.inr (some 39))), (1, .inl a1), (2, .inl a2)], [], sh, gc_h sh I1 J A)
  refine gv_run 2 true hD (pc' := 7) (lv' := [(0, .inr (.inr (some 39))), (1, .inl a1), (2, .inl a2)]) (st' := [.inl a2, .inr (.inr (some 39))]) (h' := gc_h sh I1 J A) (C := ((True ∧ True) ∧ True)) rfl ⟨⟨trivial, trivial⟩, trivial⟩ ?_
  refine gv_put hD rfl rfl S_39 ⟨by decide, B_39⟩ rfl trivial ?_
  refine gc_st (k := 4) hI1 S_39 rfl R_39 (lo := 0) (hi := 1000) rfl rfl (by omega) (by omega) (fun I3 hI3 q4 p4 => ?_)
  have FI3 := gc_frs (W := fun q j => (q = 39 ∧ j = 3) ∨ (q = 39 ∧ j = 4)) FI1 (Or.inr ⟨rfl, rfl⟩) p4
  show gv_X _ _ (10, [(0, .inr (.inr (some 39))), (1, .inl a1), (2, .inl a2)], [], sh, gc_h sh I3 J A)
  refine gv_run 1 true hD (pc' := 11) (lv' := [(0, .inr (.inr (some 39))), (1, .inl a1), (2, .inl a2)]) (st' := [.inl 0]) (h' := gc_h sh I3 J A) (C := (True ∧ True)) rfl ⟨trivial, trivial⟩ ?_
  exact gv_zret hD rfl (by omega) ⟨I3, J, rfl, hI3, FI3, FJ, ⟨_, rfl, by omega⟩⟩
set_option maxHeartbeats 4000000 in
set_option maxRecDepth 100000 in
theorem d_X6_take {ws0 : List Cond} {tb : String → gz_T} (hws : gc_Ws ws0) (htb : gc_tbs tb) (sh : gz_Sh) (ro : Nat → Nat) (I : gr_I) (J : gr_J) (A : gc_A) (hI : gc_Inv ro I) (a1 : Int) (hb : gc_Base sh ro A) (ha1 : 0 ≤ a1 ∧ a1 ≤ 125) (x0 : ¬ a1 = 5) (KLT_I : gc_LT I) (KTK_I : gc_TK I) : ∃ r h', gz_Ev ws0 tb 3 (yX6_take, cX6_take, 2, (some .boolean)) [.inr (.inr (some 39)), .inl a1] sh (gc_h sh I J A) r sh h' 0 0 ∧ (∃ (I' : gr_I) (J' : gr_J), h' = gc_h sh I' J' A ∧ gc_Inv ro I' ∧ (∀ q j : Nat, ((q = 39 ∧ j = 3) ∨ (q = 39 ∧ j = 4) ∨ (q = 23 ∧ j = 5) ∨ (q = 23 ∧ j = 6) ∨ (q = 23 ∧ j = 7) ∨ (q = 23 ∧ j = 8)) ∨ I' q j = I q j) ∧ (∀ q j : Nat, ((q = 23 ∧ j = 9)) ∨ J' q j = J q j) ∧ gc_LT I' ∧ gc_TK I' ∧ (∃ z : Int, r = some (.inl z) ∧ 0 ≤ z ∧ z ≤ 1 ∧ (I' 23 1 = I 23 1) ∧ (I 23 5 ≤ I' 23 5) ∧ (z = 0 ∨ (I 23 7 = a1 ∧ I 23 6 ≤ I' 23 5)))) := by
  have FI : ∀ q j : Nat, ((q = 39 ∧ j = 3) ∨ (q = 39 ∧ j = 4) ∨ (q = 23 ∧ j = 5) ∨ (q = 23 ∧ j = 6) ∨ (q = 23 ∧ j = 7) ∨ (q = 23 ∧ j = 8)) ∨ I q j = I q j := fun _ _ => Or.inr rfl
  have FJ : ∀ q j : Nat, ((q = 23 ∧ j = 9)) ∨ J q j = J q j := fun _ _ => Or.inr rfl
  have A_39_1 : A 39 1 = some 23 := gc_bA hb rfl
  have B_23 : 23 < 1000000 := by decide
  have B_39 : 39 < 1000000 := by decide
  have R_23 : ro 23 = 3 := gc_bR hb (by decide) rfl
  have S_23 : sh[23]? = some (false, 9, 10) := gc_bS hb rfl
  have S_39 : sh[39]? = some (false, 6, 19) := gc_bS hb rfl
  have hD : gv_D (gc_E6 ws0 tb 2 (yX6_take, cX6_take, 2, (some .boolean)) kX6_take) := gq_ok oX6_take
  refine gc_ev6 (d := 2) (l := kX6_take) (Po := fun r h' => (∃ (I' : gr_I) (J' : gr_J), h' = gc_h sh I' J' A ∧ gc_Inv ro I' ∧ (∀ q j : Nat, ((q = 39 ∧ j = 3) ∨ (q = 39 ∧ j = 4) ∨ (q = 23 ∧ j = 5) ∨ (q = 23 ∧ j = 6) ∨ (q = 23 ∧ j = 7) ∨ (q = 23 ∧ j = 8)) ∨ I' q j = I q j) ∧ (∀ q j : Nat, ((q = 23 ∧ j = 9)) ∨ J' q j = J q j) ∧ gc_LT I' ∧ gc_TK I' ∧ (∃ z : Int, r = some (.inl z) ∧ 0 ≤ z ∧ z ≤ 1 ∧ (I' 23 1 = I 23 1) ∧ (I 23 5 ≤ I' 23 5) ∧ (z = 0 ∨ (I 23 7 = a1 ∧ I 23 6 ≤ I' 23 5))))) htb rfl (Nat.le_of_ble_eq_true rfl) ?_
  have t1 := gc_TK_mo KTK_I
  have f2 := (show 0 ≤ I 23 1 ∧ I 23 1 ≤ 1000 from gc_in hI R_23 rfl rfl)
  have f3 := (show 0 ≤ I 23 5 ∧ I 23 5 ≤ 1000 from gc_in hI R_23 rfl rfl)
  have f4 := (show 0 ≤ I 23 6 ∧ I 23 6 ≤ 1001 from gc_in hI R_23 rfl rfl)
  have f5 := (show 0 ≤ I 23 7 ∧ I 23 7 ≤ 125 from gc_in hI R_23 rfl rfl)
  refine gv_run 1 true hD (pc' := 1) (lv' := [(0, .inr (.inr (some 39))), (1, .inl a1)]) (st' := [.inr (.inr (some 39))]) (h' := gc_h sh I J A) (C := (True ∧ True)) rfl ⟨trivial, trivial⟩ ?_
  refine gv_get hD rfl rfl S_39 ⟨by decide, B_39⟩ (gc_hA S_39 rfl A_39_1) ?_
  show gv_X _ _ (4, [(0, .inr (.inr (some 39))), (1, .inl a1)], [.inr (.inr (some 23))], sh, gc_h sh I J A)
  have f6 := (show 0 ≤ I 23 7 ∧ I 23 7 ≤ 125 from gc_in hI R_23 rfl rfl)
  refine gv_get hD rfl rfl S_23 ⟨by decide, B_23⟩ (gc_hI S_23 rfl) ?_
  show gv_X _ _ (7, [(0, .inr (.inr (some 39))), (1, .inl a1)], [.inl (I 23 7)], sh, gc_h sh I J A)
  refine gv_run 1 true hD (pc' := 8) (lv' := [(0, .inr (.inr (some 39))), (1, .inl a1)]) (st' := [.inl a1, .inl (I 23 7)]) (h' := gc_h sh I J A) (C := (True ∧ True)) rfl ⟨trivial, trivial⟩ ?_
  refine gv_icmp_eq (t := 24) hD rfl rfl ⟨⟨by omega, by omega⟩, ⟨by omega, by omega⟩⟩ (fun c7 => ?_) (fun c7 => ?_)
  · show gv_X _ _ (24, [(0, .inr (.inr (some 39))), (1, .inl a1)], [], sh, gc_h sh I J A)
    refine gv_run 1 true hD (pc' := 25) (lv' := [(0, .inr (.inr (some 39))), (1, .inl a1)]) (st' := [.inr (.inr (some 39))]) (h' := gc_h sh I J A) (C := (True ∧ True)) rfl ⟨trivial, trivial⟩ ?_
    refine gv_get hD rfl rfl S_39 ⟨by decide, B_39⟩ (gc_hA S_39 rfl A_39_1) ?_
    show gv_X _ _ (28, [(0, .inr (.inr (some 39))), (1, .inl a1)], [.inr (.inr (some 23))], sh, gc_h sh I J A)
    have t9 := gc_TK_nx KTK_I (by omega)
    obtain ⟨r8, h8, E8, P8⟩ := d_X9_advance (ws0 := ws0) (tb := tb) hws htb sh ro I J A hI 23  (gc_b23 hb)    (by omega) 
    obtain ⟨I10, J11, rfl, hI10, g8, k8, ⟨rfl, V8_0, V8_1, V8_2, V8_3, V8_4, q8⟩⟩ := P8
    have FI10 := gc_frc (W := fun q j => (q = 39 ∧ j = 3) ∨ (q = 39 ∧ j = 4) ∨ (q = 23 ∧ j = 5) ∨ (q = 23 ∧ j = 6) ∨ (q = 23 ∧ j = 7) ∨ (q = 23 ∧ j = 8)) (V := fun q j => (q = 23 ∧ j = 5) ∨ (q = 23 ∧ j = 6) ∨ (q = 23 ∧ j = 7) ∨ (q = 23 ∧ j = 8)) FI (fun q j h => (h.elim (fun h => (Or.inr (Or.inr (Or.inl h)))) (fun h => (h.elim (fun h => (Or.inr (Or.inr (Or.inr (Or.inl h))))) (fun h => (h.elim (fun h => (Or.inr (Or.inr (Or.inr (Or.inr (Or.inl h)))))) (fun h => (Or.inr (Or.inr (Or.inr (Or.inr (Or.inr h)))))))))))) g8
    have FJ11 := gc_frc (W := fun q j => (q = 23 ∧ j = 9)) (V := fun q j => (q = 23 ∧ j = 9)) FJ (fun q j h => h) k8
    have t12 := (g8 23 1).resolve_left (fun h => h.elim (fun h => absurd h.2 (by decide)) (fun h => h.elim (fun h => absurd h.2 (by decide)) (fun h => h.elim (fun h => absurd h.2 (by decide)) (fun h => absurd h.2 (by decide)))))
    have f13 := (show 0 ≤ I10 23 5 ∧ I10 23 5 ≤ 1000 from gc_in hI10 R_23 rfl rfl)
    have f14 := (show 0 ≤ I10 23 6 ∧ I10 23 6 ≤ 1001 from gc_in hI10 R_23 rfl rfl)
    have f15 := (show 0 ≤ I10 23 7 ∧ I10 23 7 ≤ 125 from gc_in hI10 R_23 rfl rfl)
    have KLT_I10 : gc_LT I10 := q8.2.2
    have KTK_I10 : gc_TK I10 := And.intro V8_0 (And.intro V8_1 (And.intro V8_2 (And.intro V8_3 V8_4)))
    have t16 := gc_TK_mo KTK_I10
    clear V8_0 V8_1 V8_2 V8_3 V8_4
    refine gv_callV hD rfl (As := []) (st := []) rfl B_23 S_23 rfl (gc_lV6 hws rfl) (Nat.le_of_ble_eq_true rfl) (gz_Ev_mono (d := 2) (by decide) E8) ?_
    show gv_X _ _ (31, [(0, .inr (.inr (some 39))), (1, .inl a1)], [], sh, gc_h sh I10 J11 A)
    refine gv_run 1 true hD (pc' := 32) (lv' := [(0, .inr (.inr (some 39))), (1, .inl a1)]) (st' := [.inl 1]) (h' := gc_h sh I10 J11 A) (C := (True ∧ True)) rfl ⟨trivial, trivial⟩ ?_
    exact gv_zret hD rfl (by omega) ⟨I10, J11, rfl, hI10, FI10, FJ11, KLT_I10, KTK_I10, ⟨_, rfl, by omega⟩⟩
  · show gv_X _ _ (11, [(0, .inr (.inr (some 39))), (1, .inl a1)], [], sh, gc_h sh I J A)
    refine gv_run 3 true hD (pc' := 14) (lv' := [(0, .inr (.inr (some 39))), (1, .inl a1)]) (st' := [.inr (.inr (some 39)), .inl 1, .inr (.inr (some 39))]) (h' := gc_h sh I J A) (C := (((True ∧ True) ∧ True) ∧ True)) rfl ⟨⟨⟨trivial, trivial⟩, trivial⟩, trivial⟩ ?_
    refine gv_get hD rfl rfl S_39 ⟨by decide, B_39⟩ (gc_hA S_39 rfl A_39_1) ?_
    show gv_X _ _ (17, [(0, .inr (.inr (some 39))), (1, .inl a1)], [.inr (.inr (some 23)), .inl 1, .inr (.inr (some 39))], sh, gc_h sh I J A)
    have f17 := (show 0 ≤ I 23 5 ∧ I 23 5 ≤ 1000 from gc_in hI R_23 rfl rfl)
    refine gv_get hD rfl rfl S_23 ⟨by decide, B_23⟩ (gc_hI S_23 rfl) ?_
    show gv_X _ _ (20, [(0, .inr (.inr (some 39))), (1, .inl a1)], [.inl (I 23 5), .inl 1, .inr (.inr (some 39))], sh, gc_h sh I J A)
    obtain ⟨r18, h18, E18, P18⟩ := d_X6_wrong (ws0 := ws0) (tb := tb) hws htb sh ro I J A hI  1 (I 23 5) hb   ⟨by omega, by omega⟩ ⟨by omega, by omega⟩  
    obtain ⟨I19, J20, rfl, hI19, g18, k18, ⟨z18, rfl, q18⟩⟩ := P18
    have FI19 := gc_frc (W := fun q j => (q = 39 ∧ j = 3) ∨ (q = 39 ∧ j = 4) ∨ (q = 23 ∧ j = 5) ∨ (q = 23 ∧ j = 6) ∨ (q = 23 ∧ j = 7) ∨ (q = 23 ∧ j = 8)) (V := fun q j => (q = 39 ∧ j = 3) ∨ (q = 39 ∧ j = 4)) FI (fun q j h => (h.elim (fun h => (Or.inl h)) (fun h => (Or.inr (Or.inl h))))) g18
    have t21 := (g18 23 1).resolve_left (fun h => h.elim (fun h => absurd h.2 (by decide)) (fun h => absurd h.2 (by decide)))
    have t22 := (g18 23 5).resolve_left (fun h => h.elim (fun h => absurd h.2 (by decide)) (fun h => absurd h.2 (by decide)))
    have t23 := (g18 23 6).resolve_left (fun h => h.elim (fun h => absurd h.2 (by decide)) (fun h => absurd h.2 (by decide)))
    have t24 := (g18 23 7).resolve_left (fun h => h.elim (fun h => absurd h.2 (by decide)) (fun h => absurd h.2 (by decide)))
    obtain rfl : J = J20 := funext fun q => funext fun j => ((k18 q j).resolve_left id).symm
    have KLT_I19 := gc_LT_fr KLT_I ((g18 23 5).resolve_left (fun h => h.elim (fun h => absurd h.2 (by decide)) (fun h => absurd h.2 (by decide)))) ((g18 23 6).resolve_left (fun h => h.elim (fun h => absurd h.2 (by decide)) (fun h => absurd h.2 (by decide)))) ((g18 23 7).resolve_left (fun h => h.elim (fun h => absurd h.2 (by decide)) (fun h => absurd h.2 (by decide)))) (fun k => (g18 24 k).resolve_left (fun h => h.elim (fun h => absurd h.1 (by decide)) (fun h => absurd h.1 (by decide))))
    have KTK_I19 := gc_TK_fr KTK_I ((g18 23 1).resolve_left (fun h => h.elim (fun h => absurd h.2 (by decide)) (fun h => absurd h.2 (by decide)))) ((g18 23 5).resolve_left (fun h => h.elim (fun h => absurd h.2 (by decide)) (fun h => absurd h.2 (by decide)))) ((g18 23 6).resolve_left (fun h => h.elim (fun h => absurd h.2 (by decide)) (fun h => absurd h.2 (by decide)))) ((g18 23 7).resolve_left (fun h => h.elim (fun h => absurd h.2 (by decide)) (fun h => absurd h.2 (by decide))))
    refine gv_callV hD rfl (As := [.inl 1, .inl (I 23 5)]) (st := []) rfl B_39 S_39 rfl (gc_lV6 hws rfl) (Nat.le_of_ble_eq_true rfl) (gz_Ev_mono (d := 1) (by decide) E18) ?_
    show gv_X _ _ (23, [(0, .inr (.inr (some 39))), (1, .inl a1)], [.inl z18], sh, gc_h sh I19 J A)
    exact gv_zret hD rfl (by omega) ⟨I19, J, rfl, hI19, FI19, FJ, KLT_I19, KTK_I19, ⟨_, rfl, by omega⟩⟩
set_option maxHeartbeats 4000000 in
set_option maxRecDepth 100000 in
theorem d_X6_need {ws0 : List Cond} {tb : String → gz_T} (hws : gc_Ws ws0) (htb : gc_tbs tb) (sh : gz_Sh) (ro : Nat → Nat) (I : gr_I) (J : gr_J) (A : gc_A) (hI : gc_Inv ro I) (a1 : Int) (hb : gc_Base sh ro A) (ha1 : 0 ≤ a1 ∧ a1 ≤ 125)  : ∃ r h', gz_Ev ws0 tb 2 (yX6_need, cX6_need, 2, (some .boolean)) [.inr (.inr (some 39)), .inl a1] sh (gc_h sh I J A) r sh h' 0 0 ∧ (∃ (I' : gr_I) (J' : gr_J), h' = gc_h sh I' J' A ∧ gc_Inv ro I' ∧ (∀ q j : Nat, ((q = 39 ∧ j = 3) ∨ (q = 39 ∧ j = 4)) ∨ I' q j = I q j) ∧ (∀ q j : Nat, (False) ∨ J' q j = J q j) ∧ (∃ z : Int, r = some (.inl z) ∧ 0 ≤ z ∧ z ≤ 1 ∧ (z = 0 ∨ I 23 7 = a1))) := by
  have FI : ∀ q j : Nat, ((q = 39 ∧ j = 3) ∨ (q = 39 ∧ j = 4)) ∨ I q j = I q j := fun _ _ => Or.inr rfl
  have FJ : ∀ q j : Nat, (False) ∨ J q j = J q j := fun _ _ => Or.inr rfl
  have A_39_1 : A 39 1 = some 23 := gc_bA hb rfl
  have B_23 : 23 < 1000000 := by decide
  have B_39 : 39 < 1000000 := by decide
  have R_23 : ro 23 = 3 := gc_bR hb (by decide) rfl
  have S_23 : sh[23]? = some (false, 9, 10) := gc_bS hb rfl
  have S_39 : sh[39]? = some (false, 6, 19) := gc_bS hb rfl
  have hD : gv_D (gc_E6 ws0 tb 1 (yX6_need, cX6_need, 2, (some .boolean)) kX6_need) := gq_ok oX6_need
  refine gc_ev6 (d := 1) (l := kX6_need) (Po := fun r h' => (∃ (I' : gr_I) (J' : gr_J), h' = gc_h sh I' J' A ∧ gc_Inv ro I' ∧ (∀ q j : Nat, ((q = 39 ∧ j = 3) ∨ (q = 39 ∧ j = 4)) ∨ I' q j = I q j) ∧ (∀ q j : Nat, (False) ∨ J' q j = J q j) ∧ (∃ z : Int, r = some (.inl z) ∧ 0 ≤ z ∧ z ≤ 1 ∧ (z = 0 ∨ I 23 7 = a1)))) htb rfl (Nat.le_of_ble_eq_true rfl) ?_
  have f1 := (show 0 ≤ I 23 7 ∧ I 23 7 ≤ 125 from gc_in hI R_23 rfl rfl)
  have f2 := (show 0 ≤ I 23 5 ∧ I 23 5 ≤ 1000 from gc_in hI R_23 rfl rfl)
  have L31 : ∀ (I3 : gr_I) (J4 : gr_J) (s0_5 : Int), gc_Inv ro I3 → (∀ q j : Nat, ((q = 39 ∧ j = 3) ∨ (q = 39 ∧ j = 4)) ∨ I3 q j = I q j) → (∀ q j : Nat, (False) ∨ J4 q j = J q j) → ((0 ≤ s0_5 ∧ s0_5 ≤ 1) ∧ (s0_5 = 0 ∨ I 23 7 = a1)) → gv_X (gc_E6 ws0 tb 1 (yX6_need, cX6_need, 2, (some .boolean)) kX6_need) (gv_Q cX6_need (some .boolean) sh (fun r h' => (∃ (I' : gr_I) (J' : gr_J), h' = gc_h sh I' J' A ∧ gc_Inv ro I' ∧ (∀ q j : Nat, ((q = 39 ∧ j = 3) ∨ (q = 39 ∧ j = 4)) ∨ I' q j = I q j) ∧ (∀ q j : Nat, (False) ∨ J' q j = J q j) ∧ (∃ z : Int, r = some (.inl z) ∧ 0 ≤ z ∧ z ≤ 1 ∧ (z = 0 ∨ I 23 7 = a1))))) (31, [], [.inl s0_5], sh, gc_h sh I3 J4 A) := by
    intro I3 J4 s0_5 hI3 FI3 FJ4 m_5
    obtain ⟨hs0_5, e0_5⟩ := m_5
    have f6 := (show 0 ≤ I3 23 7 ∧ I3 23 7 ≤ 125 from gc_in hI3 R_23 rfl rfl)
    have f7 := (show 0 ≤ I3 23 5 ∧ I3 23 5 ≤ 1000 from gc_in hI3 R_23 rfl rfl)
    exact gv_zret hD rfl (by omega) ⟨I3, J4, rfl, hI3, FI3, FJ4, ⟨_, rfl, by omega⟩⟩
  have L26 : ∀ (I8 : gr_I) (J9 : gr_J) , gc_Inv ro I8 → (∀ q j : Nat, ((q = 39 ∧ j = 3) ∨ (q = 39 ∧ j = 4)) ∨ I8 q j = I q j) → (∀ q j : Nat, (False) ∨ J9 q j = J q j) → ((I 23 7 = a1)) → gv_X (gc_E6 ws0 tb 1 (yX6_need, cX6_need, 2, (some .boolean)) kX6_need) (gv_Q cX6_need (some .boolean) sh (fun r h' => (∃ (I' : gr_I) (J' : gr_J), h' = gc_h sh I' J' A ∧ gc_Inv ro I' ∧ (∀ q j : Nat, ((q = 39 ∧ j = 3) ∨ (q = 39 ∧ j = 4)) ∨ I' q j = I q j) ∧ (∀ q j : Nat, (False) ∨ J' q j = J q j) ∧ (∃ z : Int, r = some (.inl z) ∧ 0 ≤ z ∧ z ≤ 1 ∧ (z = 0 ∨ I 23 7 = a1))))) (26, [], [], sh, gc_h sh I8 J9 A) := by
    intro I8 J9 hI8 FI8 FJ9 m_10
    have e0_10 := m_10
    have f11 := (show 0 ≤ I8 23 7 ∧ I8 23 7 ≤ 125 from gc_in hI8 R_23 rfl rfl)
    have f12 := (show 0 ≤ I8 23 5 ∧ I8 23 5 ≤ 1000 from gc_in hI8 R_23 rfl rfl)
    refine gv_run 2 true hD (pc' := 31) (lv' := []) (st' := [.inl 1]) (h' := gc_h sh I8 J9 A) (C := ((True ∧ True) ∧ True)) rfl ⟨⟨trivial, trivial⟩, trivial⟩ ?_
    exact L31 I8 J9 1 hI8 FI8 FJ9 (by omega)
  refine gv_run 1 true hD (pc' := 1) (lv' := [(0, .inr (.inr (some 39))), (1, .inl a1)]) (st' := [.inr (.inr (some 39))]) (h' := gc_h sh I J A) (C := (True ∧ True)) rfl ⟨trivial, trivial⟩ ?_
  refine gv_get hD rfl rfl S_39 ⟨by decide, B_39⟩ (gc_hA S_39 rfl A_39_1) ?_
  show gv_X _ _ (4, [(0, .inr (.inr (some 39))), (1, .inl a1)], [.inr (.inr (some 23))], sh, gc_h sh I J A)
  have f13 := (show 0 ≤ I 23 7 ∧ I 23 7 ≤ 125 from gc_in hI R_23 rfl rfl)
  refine gv_get hD rfl rfl S_23 ⟨by decide, B_23⟩ (gc_hI S_23 rfl) ?_
  show gv_X _ _ (7, [(0, .inr (.inr (some 39))), (1, .inl a1)], [.inl (I 23 7)], sh, gc_h sh I J A)
  refine gv_run 1 true hD (pc' := 8) (lv' := [(0, .inr (.inr (some 39))), (1, .inl a1)]) (st' := [.inl a1, .inl (I 23 7)]) (h' := gc_h sh I J A) (C := (True ∧ True)) rfl ⟨trivial, trivial⟩ ?_
  refine gv_icmp_eq (t := 26) hD rfl rfl ⟨⟨by omega, by omega⟩, ⟨by omega, by omega⟩⟩ (fun c14 => ?_) (fun c14 => ?_)
  · show gv_X _ _ (26, [(0, .inr (.inr (some 39))), (1, .inl a1)], [], sh, gc_h sh I J A)
    refine gv_pick [] rfl ?_
    exact L26 I J hI FI FJ (by omega)
  · show gv_X _ _ (11, [(0, .inr (.inr (some 39))), (1, .inl a1)], [], sh, gc_h sh I J A)
    refine gv_run 3 true hD (pc' := 14) (lv' := [(0, .inr (.inr (some 39))), (1, .inl a1)]) (st' := [.inr (.inr (some 39)), .inl 1, .inr (.inr (some 39))]) (h' := gc_h sh I J A) (C := (((True ∧ True) ∧ True) ∧ True)) rfl ⟨⟨⟨trivial, trivial⟩, trivial⟩, trivial⟩ ?_
    refine gv_get hD rfl rfl S_39 ⟨by decide, B_39⟩ (gc_hA S_39 rfl A_39_1) ?_
    show gv_X _ _ (17, [(0, .inr (.inr (some 39))), (1, .inl a1)], [.inr (.inr (some 23)), .inl 1, .inr (.inr (some 39))], sh, gc_h sh I J A)
    have f15 := (show 0 ≤ I 23 5 ∧ I 23 5 ≤ 1000 from gc_in hI R_23 rfl rfl)
    refine gv_get hD rfl rfl S_23 ⟨by decide, B_23⟩ (gc_hI S_23 rfl) ?_
    show gv_X _ _ (20, [(0, .inr (.inr (some 39))), (1, .inl a1)], [.inl (I 23 5), .inl 1, .inr (.inr (some 39))], sh, gc_h sh I J A)
    obtain ⟨r16, h16, E16, P16⟩ := d_X6_wrong (ws0 := ws0) (tb := tb) hws htb sh ro I J A hI  1 (I 23 5) hb   ⟨by omega, by omega⟩ ⟨by omega, by omega⟩  
    obtain ⟨I17, J18, rfl, hI17, g16, k16, ⟨z16, rfl, q16⟩⟩ := P16
    have FI17 := gc_frc (W := fun q j => (q = 39 ∧ j = 3) ∨ (q = 39 ∧ j = 4)) (V := fun q j => (q = 39 ∧ j = 3) ∨ (q = 39 ∧ j = 4)) FI (fun q j h => (h.elim (fun h => (Or.inl h)) (fun h => (Or.inr h)))) g16
    have t19 := (g16 23 7).resolve_left (fun h => h.elim (fun h => absurd h.2 (by decide)) (fun h => absurd h.2 (by decide)))
    have t20 := (g16 23 5).resolve_left (fun h => h.elim (fun h => absurd h.2 (by decide)) (fun h => absurd h.2 (by decide)))
    obtain rfl : J = J18 := funext fun q => funext fun j => ((k16 q j).resolve_left id).symm
    refine gv_callV hD rfl (As := [.inl 1, .inl (I 23 5)]) (st := []) rfl B_39 S_39 rfl (gc_lV6 hws rfl) (Nat.le_of_ble_eq_true rfl) (gz_Ev_mono (d := 1) (by decide) E16) ?_
    show gv_X _ _ (23, [(0, .inr (.inr (some 39))), (1, .inl a1)], [.inl z16], sh, gc_h sh I17 J A)
    refine gv_if_eq (t := 30) hD rfl rfl ⟨by omega, by omega⟩ (fun c21 => ?_) (fun c21 => ?_)
    · show gv_X _ _ (30, [(0, .inr (.inr (some 39))), (1, .inl a1)], [], sh, gc_h sh I17 J A)
      refine gv_run 1 true hD (pc' := 31) (lv' := [(0, .inr (.inr (some 39))), (1, .inl a1)]) (st' := [.inl 0]) (h' := gc_h sh I17 J A) (C := (True ∧ True)) rfl ⟨trivial, trivial⟩ ?_
      refine gv_pick [] rfl ?_
      exact L31 I17 J 0 hI17 FI17 FJ (by omega)
    · show gv_X _ _ (26, [(0, .inr (.inr (some 39))), (1, .inl a1)], [], sh, gc_h sh I17 J A)
      refine gv_pick [] rfl ?_
      exact L26 I17 J hI17 FI17 FJ (by omega)
set_option maxHeartbeats 4000000 in
set_option maxRecDepth 100000 in
theorem d_X6_isWord {ws0 : List Cond} {tb : String → gz_T} (hws : gc_Ws ws0) (htb : gc_tbs tb) (sh : gz_Sh) (ro : Nat → Nat) (I : gr_I) (J : gr_J) (A : gc_A) (hI : gc_Inv ro I) (a1 : Int64) (hb : gc_Base sh ro A)   : ∃ r h', gz_Ev ws0 tb 1 (yX6_isWord, cX6_isWord, 3, (some .boolean)) [.inr (.inr (some 39)), .inr (.inl a1)] sh (gc_h sh I J A) r sh h' 0 0 ∧ (h' = gc_h sh I J A ∧ (∃ z : Int, r = some (.inl z) ∧ 0 ≤ z ∧ z ≤ 1 ∧ (z = 0 ∨ I 23 7 = 1))) := by
  have A_39_1 : A 39 1 = some 23 := gc_bA hb rfl
  have B_23 : 23 < 1000000 := by decide
  have B_39 : 39 < 1000000 := by decide
  have R_23 : ro 23 = 3 := gc_bR hb (by decide) rfl
  have S_23 : sh[23]? = some (false, 9, 10) := gc_bS hb rfl
  have S_39 : sh[39]? = some (false, 6, 19) := gc_bS hb rfl
  have hD : gv_D (gc_E6 ws0 tb 0 (yX6_isWord, cX6_isWord, 3, (some .boolean)) kX6_isWord) := gq_ok oX6_isWord
  refine gc_ev6 (d := 0) (l := kX6_isWord) (Po := fun r h' => (h' = gc_h sh I J A ∧ (∃ z : Int, r = some (.inl z) ∧ 0 ≤ z ∧ z ≤ 1 ∧ (z = 0 ∨ I 23 7 = 1)))) htb rfl (Nat.le_of_ble_eq_true rfl) ?_
  have f1 := (show 0 ≤ I 23 7 ∧ I 23 7 ≤ 125 from gc_in hI R_23 rfl rfl)
  have L28 : ∀ (s0_2 : Int), ((0 ≤ s0_2 ∧ s0_2 ≤ 1) ∧ (s0_2 = 0 ∨ I 23 7 = 1)) → gv_X (gc_E6 ws0 tb 0 (yX6_isWord, cX6_isWord, 3, (some .boolean)) kX6_isWord) (gv_Q cX6_isWord (some .boolean) sh (fun r h' => (h' = gc_h sh I J A ∧ (∃ z : Int, r = some (.inl z) ∧ 0 ≤ z ∧ z ≤ 1 ∧ (z = 0 ∨ I 23 7 = 1))))) (28, [], [.inl s0_2], sh, gc_h sh I J A) := by
    intro s0_2 m_2
    obtain ⟨hs0_2, e0_2⟩ := m_2
    have f3 := (show 0 ≤ I 23 7 ∧ I 23 7 ≤ 125 from gc_in hI R_23 rfl rfl)
    exact gv_zret hD rfl (by omega) ⟨rfl, ⟨_, rfl, by omega⟩⟩
  have L27 : gv_X (gc_E6 ws0 tb 0 (yX6_isWord, cX6_isWord, 3, (some .boolean)) kX6_isWord) (gv_Q cX6_isWord (some .boolean) sh (fun r h' => (h' = gc_h sh I J A ∧ (∃ z : Int, r = some (.inl z) ∧ 0 ≤ z ∧ z ≤ 1 ∧ (z = 0 ∨ I 23 7 = 1))))) (27, [], [], sh, gc_h sh I J A) := by
    have f5 := (show 0 ≤ I 23 7 ∧ I 23 7 ≤ 125 from gc_in hI R_23 rfl rfl)
    refine gv_run 1 true hD (pc' := 28) (lv' := []) (st' := [.inl 0]) (h' := gc_h sh I J A) (C := (True ∧ True)) rfl ⟨trivial, trivial⟩ ?_
    exact L28 0 (by omega)
  refine gv_run 1 true hD (pc' := 1) (lv' := [(0, .inr (.inr (some 39))), (1, .inr (.inl a1))]) (st' := [.inr (.inr (some 39))]) (h' := gc_h sh I J A) (C := (True ∧ True)) rfl ⟨trivial, trivial⟩ ?_
  refine gv_get hD rfl rfl S_39 ⟨by decide, B_39⟩ (gc_hA S_39 rfl A_39_1) ?_
  show gv_X _ _ (4, [(0, .inr (.inr (some 39))), (1, .inr (.inl a1))], [.inr (.inr (some 23))], sh, gc_h sh I J A)
  have f6 := (show 0 ≤ I 23 7 ∧ I 23 7 ≤ 125 from gc_in hI R_23 rfl rfl)
  refine gv_get hD rfl rfl S_23 ⟨by decide, B_23⟩ (gc_hI S_23 rfl) ?_
  show gv_X _ _ (7, [(0, .inr (.inr (some 39))), (1, .inr (.inl a1))], [.inl (I 23 7)], sh, gc_h sh I J A)
  refine gv_run 1 true hD (pc' := 8) (lv' := [(0, .inr (.inr (some 39))), (1, .inr (.inl a1))]) (st' := [.inl 1, .inl (I 23 7)]) (h' := gc_h sh I J A) (C := (True ∧ True)) rfl ⟨trivial, trivial⟩ ?_
  refine gv_icmp_ne (t := 27) hD rfl rfl ⟨⟨by omega, by omega⟩, ⟨by omega, by omega⟩⟩ (fun c7 => ?_) (fun c7 => ?_)
  · show gv_X _ _ (27, [(0, .inr (.inr (some 39))), (1, .inr (.inl a1))], [], sh, gc_h sh I J A)
    refine gv_pick [] rfl ?_
    exact L27 
  · show gv_X _ _ (11, [(0, .inr (.inr (some 39))), (1, .inr (.inl a1))], [], sh, gc_h sh I J A)
    refine gv_run 1 true hD (pc' := 12) (lv' := [(0, .inr (.inr (some 39))), (1, .inr (.inl a1))]) (st' := [.inr (.inr (some 39))]) (h' := gc_h sh I J A) (C := (True ∧ True)) rfl ⟨trivial, trivial⟩ ?_
    refine gv_get hD rfl rfl S_39 ⟨by decide, B_39⟩ (gc_hA S_39 rfl A_39_1) ?_
    show gv_X _ _ (15, [(0, .inr (.inr (some 39))), (1, .inr (.inl a1))], [.inr (.inr (some 23))], sh, gc_h sh I J A)
    refine gv_get hD rfl rfl S_23 ⟨by decide, B_23⟩ (gc_hJ S_23 rfl) ?_
    show gv_X _ _ (18, [(0, .inr (.inr (some 39))), (1, .inr (.inl a1))], [.inr (.inl (J 23 9))], sh, gc_h sh I J A)
    have f8 := gw_cmp ((J 23 9)) (a1)
    refine gv_run 2 true hD (pc' := 20) (lv' := [(0, .inr (.inr (some 39))), (1, .inr (.inl a1))]) (st' := [.inl ((lg_cmp ((J 23 9)) (a1)).toInt)]) (h' := gc_h sh I J A) (C := ((True ∧ True) ∧ True)) rfl ⟨⟨trivial, trivial⟩, trivial⟩ ?_
    refine gv_if_ne (t := 27) hD rfl rfl ⟨by omega, by omega⟩ (fun c9 => ?_) (fun c9 => ?_)
    · show gv_X _ _ (27, [(0, .inr (.inr (some 39))), (1, .inr (.inl a1))], [], sh, gc_h sh I J A)
      refine gv_pick [] rfl ?_
      exact L27 
    · show gv_X _ _ (23, [(0, .inr (.inr (some 39))), (1, .inr (.inl a1))], [], sh, gc_h sh I J A)
      refine gv_run 2 true hD (pc' := 28) (lv' := [(0, .inr (.inr (some 39))), (1, .inr (.inl a1))]) (st' := [.inl 1]) (h' := gc_h sh I J A) (C := ((True ∧ True) ∧ True)) rfl ⟨⟨trivial, trivial⟩, trivial⟩ ?_
      refine gv_pick [] rfl ?_
      exact L28 1 (by omega)
set_option maxHeartbeats 4000000 in
set_option maxRecDepth 100000 in
theorem d_X6_needNew {ws0 : List Cond} {tb : String → gz_T} (hws : gc_Ws ws0) (htb : gc_tbs tb) (sh : gz_Sh) (ro : Nat → Nat) (I : gr_I) (J : gr_J) (A : gc_A) (hI : gc_Inv ro I) (n ρ : Nat) (a1 : Nat) (hb : gc_Base sh ro A) (h_a1 : gc_isNames sh ro A a1 n ρ)   : ∃ r h', gz_Ev ws0 tb 3 (yX6_needNew, cX6_needNew, 2, (some .boolean)) [.inr (.inr (some 39)), .inr (.inr (some a1))] sh (gc_h sh I J A) r sh h' 0 0 ∧ (∃ (I' : gr_I) (J' : gr_J), h' = gc_h sh I' J' A ∧ gc_Inv ro I' ∧ (∀ q j : Nat, ((q = 39 ∧ j = 3) ∨ (q = 39 ∧ j = 4)) ∨ I' q j = I q j) ∧ (∀ q j : Nat, (False) ∨ J' q j = J q j) ∧ (∃ z : Int, r = some (.inl z) ∧ 0 ≤ z ∧ z ≤ 1 ∧ (z = 0 ∨ I 23 7 = 1))) := by
  have FI : ∀ q j : Nat, ((q = 39 ∧ j = 3) ∨ (q = 39 ∧ j = 4)) ∨ I q j = I q j := fun _ _ => Or.inr rfl
  have FJ : ∀ q j : Nat, (False) ∨ J q j = J q j := fun _ _ => Or.inr rfl
  have A_39_1 : A 39 1 = some 23 := gc_bA hb rfl
  have B_23 : 23 < 1000000 := by decide
  have B_39 : 39 < 1000000 := by decide
  have R_23 : ro 23 = 3 := gc_bR hb (by decide) rfl
  have S_23 : sh[23]? = some (false, 9, 10) := gc_bS hb rfl
  have S_39 : sh[39]? = some (false, 6, 19) := gc_bS hb rfl
  obtain ⟨S_a1, R_a1, B_a1, A_a1_0, S_a1_1, R_a1_1, B_a1_1, Q_lo, Q_hi, Q_n⟩ := id h_a1
  have hD : gv_D (gc_E6 ws0 tb 2 (yX6_needNew, cX6_needNew, 2, (some .boolean)) kX6_needNew) := gq_ok oX6_needNew
  refine gc_ev6 (d := 2) (l := kX6_needNew) (Po := fun r h' => (∃ (I' : gr_I) (J' : gr_J), h' = gc_h sh I' J' A ∧ gc_Inv ro I' ∧ (∀ q j : Nat, ((q = 39 ∧ j = 3) ∨ (q = 39 ∧ j = 4)) ∨ I' q j = I q j) ∧ (∀ q j : Nat, (False) ∨ J' q j = J q j) ∧ (∃ z : Int, r = some (.inl z) ∧ 0 ≤ z ∧ z ≤ 1 ∧ (z = 0 ∨ I 23 7 = 1)))) htb rfl (Nat.le_of_ble_eq_true rfl) ?_
  have f1 := (show 0 ≤ I 23 7 ∧ I 23 7 ≤ 125 from gc_in hI R_23 rfl rfl)
  have f2 := (show 0 ≤ I 23 5 ∧ I 23 5 ≤ 1000 from gc_in hI R_23 rfl rfl)
  have L42 : ∀ (I3 : gr_I) (J4 : gr_J) (s0_5 : Int), gc_Inv ro I3 → (∀ q j : Nat, ((q = 39 ∧ j = 3) ∨ (q = 39 ∧ j = 4)) ∨ I3 q j = I q j) → (∀ q j : Nat, (False) ∨ J4 q j = J q j) → ((0 ≤ s0_5 ∧ s0_5 ≤ 1) ∧ (s0_5 = 0 ∨ I 23 7 = 1)) → gv_X (gc_E6 ws0 tb 2 (yX6_needNew, cX6_needNew, 2, (some .boolean)) kX6_needNew) (gv_Q cX6_needNew (some .boolean) sh (fun r h' => (∃ (I' : gr_I) (J' : gr_J), h' = gc_h sh I' J' A ∧ gc_Inv ro I' ∧ (∀ q j : Nat, ((q = 39 ∧ j = 3) ∨ (q = 39 ∧ j = 4)) ∨ I' q j = I q j) ∧ (∀ q j : Nat, (False) ∨ J' q j = J q j) ∧ (∃ z : Int, r = some (.inl z) ∧ 0 ≤ z ∧ z ≤ 1 ∧ (z = 0 ∨ I 23 7 = 1))))) (42, [], [.inl s0_5], sh, gc_h sh I3 J4 A) := by
    intro I3 J4 s0_5 hI3 FI3 FJ4 m_5
    obtain ⟨hs0_5, e0_5⟩ := m_5
    have f6 := (show 0 ≤ I3 23 7 ∧ I3 23 7 ≤ 125 from gc_in hI3 R_23 rfl rfl)
    have f7 := (show 0 ≤ I3 23 5 ∧ I3 23 5 ≤ 1000 from gc_in hI3 R_23 rfl rfl)
    exact gv_zret hD rfl (by omega) ⟨I3, J4, rfl, hI3, FI3, FJ4, ⟨_, rfl, by omega⟩⟩
  have L37 : ∀ (I8 : gr_I) (J9 : gr_J) , gc_Inv ro I8 → (∀ q j : Nat, ((q = 39 ∧ j = 3) ∨ (q = 39 ∧ j = 4)) ∨ I8 q j = I q j) → (∀ q j : Nat, (False) ∨ J9 q j = J q j) → ((I 23 7 = 1)) → gv_X (gc_E6 ws0 tb 2 (yX6_needNew, cX6_needNew, 2, (some .boolean)) kX6_needNew) (gv_Q cX6_needNew (some .boolean) sh (fun r h' => (∃ (I' : gr_I) (J' : gr_J), h' = gc_h sh I' J' A ∧ gc_Inv ro I' ∧ (∀ q j : Nat, ((q = 39 ∧ j = 3) ∨ (q = 39 ∧ j = 4)) ∨ I' q j = I q j) ∧ (∀ q j : Nat, (False) ∨ J' q j = J q j) ∧ (∃ z : Int, r = some (.inl z) ∧ 0 ≤ z ∧ z ≤ 1 ∧ (z = 0 ∨ I 23 7 = 1))))) (37, [], [], sh, gc_h sh I8 J9 A) := by
    intro I8 J9 hI8 FI8 FJ9 m_10
    have e0_10 := m_10
    have f11 := (show 0 ≤ I8 23 7 ∧ I8 23 7 ≤ 125 from gc_in hI8 R_23 rfl rfl)
    have f12 := (show 0 ≤ I8 23 5 ∧ I8 23 5 ≤ 1000 from gc_in hI8 R_23 rfl rfl)
    refine gv_run 2 true hD (pc' := 42) (lv' := []) (st' := [.inl 1]) (h' := gc_h sh I8 J9 A) (C := ((True ∧ True) ∧ True)) rfl ⟨⟨trivial, trivial⟩, trivial⟩ ?_
    exact L42 I8 J9 1 hI8 FI8 FJ9 (by omega)
  have L41 : ∀ (I13 : gr_I) (J14 : gr_J) , gc_Inv ro I13 → (∀ q j : Nat, ((q = 39 ∧ j = 3) ∨ (q = 39 ∧ j = 4)) ∨ I13 q j = I q j) → (∀ q j : Nat, (False) ∨ J14 q j = J q j) → gv_X (gc_E6 ws0 tb 2 (yX6_needNew, cX6_needNew, 2, (some .boolean)) kX6_needNew) (gv_Q cX6_needNew (some .boolean) sh (fun r h' => (∃ (I' : gr_I) (J' : gr_J), h' = gc_h sh I' J' A ∧ gc_Inv ro I' ∧ (∀ q j : Nat, ((q = 39 ∧ j = 3) ∨ (q = 39 ∧ j = 4)) ∨ I' q j = I q j) ∧ (∀ q j : Nat, (False) ∨ J' q j = J q j) ∧ (∃ z : Int, r = some (.inl z) ∧ 0 ≤ z ∧ z ≤ 1 ∧ (z = 0 ∨ I 23 7 = 1))))) (41, [], [], sh, gc_h sh I13 J14 A) := by
    intro I13 J14 hI13 FI13 FJ14
    have f16 := (show 0 ≤ I13 23 7 ∧ I13 23 7 ≤ 125 from gc_in hI13 R_23 rfl rfl)
    have f17 := (show 0 ≤ I13 23 5 ∧ I13 23 5 ≤ 1000 from gc_in hI13 R_23 rfl rfl)
    refine gv_run 1 true hD (pc' := 42) (lv' := []) (st' := [.inl 0]) (h' := gc_h sh I13 J14 A) (C := (True ∧ True)) rfl ⟨trivial, trivial⟩ ?_
    exact L42 I13 J14 0 hI13 FI13 FJ14 (by omega)
  refine gv_run 2 true hD (pc' := 2) (lv' := [(0, .inr (.inr (some 39))), (1, .inr (.inr (some a1)))]) (st' := [.inl 1, .inr (.inr (some 39))]) (h' := gc_h sh I J A) (C := ((True ∧ True) ∧ True)) rfl ⟨⟨trivial, trivial⟩, trivial⟩ ?_
  obtain ⟨r18, h18, E18, P18⟩ := d_X6_need (ws0 := ws0) (tb := tb) hws htb sh ro I J A hI  1 hb   ⟨by omega, by omega⟩  
  obtain ⟨I19, J20, rfl, hI19, g18, k18, ⟨z18, rfl, q18⟩⟩ := P18
  have FI19 := gc_frc (W := fun q j => (q = 39 ∧ j = 3) ∨ (q = 39 ∧ j = 4)) (V := fun q j => (q = 39 ∧ j = 3) ∨ (q = 39 ∧ j = 4)) FI (fun q j h => (h.elim (fun h => (Or.inl h)) (fun h => (Or.inr h)))) g18
  have t21 := (g18 23 7).resolve_left (fun h => h.elim (fun h => absurd h.2 (by decide)) (fun h => absurd h.2 (by decide)))
  have t22 := (g18 23 5).resolve_left (fun h => h.elim (fun h => absurd h.2 (by decide)) (fun h => absurd h.2 (by decide)))
  obtain rfl : J = J20 := funext fun q => funext fun j => ((k18 q j).resolve_left id).symm
  refine gv_callV hD rfl (As := [.inl 1]) (st := []) rfl B_39 S_39 rfl (gc_lV6 hws rfl) (Nat.le_of_ble_eq_true rfl) (gz_Ev_mono (d := 2) (by decide) E18) ?_
  show gv_X _ _ (5, [(0, .inr (.inr (some 39))), (1, .inr (.inr (some a1)))], [.inl z18], sh, gc_h sh I19 J A)
  refine gv_if_eq (t := 41) hD rfl rfl ⟨by omega, by omega⟩ (fun c23 => ?_) (fun c23 => ?_)
  · show gv_X _ _ (41, [(0, .inr (.inr (some 39))), (1, .inr (.inr (some a1)))], [], sh, gc_h sh I19 J A)
    refine gv_pick [] rfl ?_
    exact L41 I19 J hI19 FI19 FJ
  · show gv_X _ _ (8, [(0, .inr (.inr (some 39))), (1, .inr (.inr (some a1)))], [], sh, gc_h sh I19 J A)
    refine gv_run 2 true hD (pc' := 10) (lv' := [(0, .inr (.inr (some 39))), (1, .inr (.inr (some a1)))]) (st' := [.inr (.inr (some 39)), .inr (.inr (some a1))]) (h' := gc_h sh I19 J A) (C := ((True ∧ True) ∧ True)) rfl ⟨⟨trivial, trivial⟩, trivial⟩ ?_
    refine gv_get hD rfl rfl S_39 ⟨by decide, B_39⟩ (gc_hA S_39 rfl A_39_1) ?_
    show gv_X _ _ (13, [(0, .inr (.inr (some 39))), (1, .inr (.inr (some a1)))], [.inr (.inr (some 23)), .inr (.inr (some a1))], sh, gc_h sh I19 J A)
    refine gv_get hD rfl rfl S_23 ⟨by decide, B_23⟩ (gc_hJ S_23 rfl) ?_
    show gv_X _ _ (16, [(0, .inr (.inr (some 39))), (1, .inr (.inr (some a1)))], [.inr (.inl (J 23 9)), .inr (.inr (some a1))], sh, gc_h sh I19 J A)
    obtain ⟨r24, h24, E24, P24⟩ := d_X4_find (ws0 := ws0) (tb := tb) hws htb sh ro I19 J A hI19 a1 n ρ (J 23 9) h_a1     
    obtain ⟨rfl, ⟨z24, rfl, q24⟩⟩ := P24
    refine gv_callV hD rfl (As := [.inr (.inl (J 23 9))]) (st := []) rfl B_a1 S_a1 rfl (gc_lV6 hws rfl) (Nat.le_of_ble_eq_true rfl) (gz_Ev_mono (d := 1) (by decide) E24) ?_
    show gv_X _ _ (19, [(0, .inr (.inr (some 39))), (1, .inr (.inr (some a1)))], [.inl z24], sh, gc_h sh I19 J A)
    refine gv_if_lt (t := 37) hD rfl rfl ⟨by omega, by omega⟩ (fun c25 => ?_) (fun c25 => ?_)
    · show gv_X _ _ (37, [(0, .inr (.inr (some 39))), (1, .inr (.inr (some a1)))], [], sh, gc_h sh I19 J A)
      refine gv_pick [] rfl ?_
      exact L37 I19 J hI19 FI19 FJ (by omega)
    · show gv_X _ _ (22, [(0, .inr (.inr (some 39))), (1, .inr (.inr (some a1)))], [], sh, gc_h sh I19 J A)
      refine gv_run 3 true hD (pc' := 25) (lv' := [(0, .inr (.inr (some 39))), (1, .inr (.inr (some a1)))]) (st' := [.inr (.inr (some 39)), .inl 4, .inr (.inr (some 39))]) (h' := gc_h sh I19 J A) (C := (((True ∧ True) ∧ True) ∧ True)) rfl ⟨⟨⟨trivial, trivial⟩, trivial⟩, trivial⟩ ?_
      refine gv_get hD rfl rfl S_39 ⟨by decide, B_39⟩ (gc_hA S_39 rfl A_39_1) ?_
      show gv_X _ _ (28, [(0, .inr (.inr (some 39))), (1, .inr (.inr (some a1)))], [.inr (.inr (some 23)), .inl 4, .inr (.inr (some 39))], sh, gc_h sh I19 J A)
      have f26 := (show 0 ≤ I19 23 5 ∧ I19 23 5 ≤ 1000 from gc_in hI19 R_23 rfl rfl)
      refine gv_get hD rfl rfl S_23 ⟨by decide, B_23⟩ (gc_hI S_23 rfl) ?_
      show gv_X _ _ (31, [(0, .inr (.inr (some 39))), (1, .inr (.inr (some a1)))], [.inl (I19 23 5), .inl 4, .inr (.inr (some 39))], sh, gc_h sh I19 J A)
      obtain ⟨r27, h27, E27, P27⟩ := d_X6_wrong (ws0 := ws0) (tb := tb) hws htb sh ro I19 J A hI19  4 (I19 23 5) hb   ⟨by omega, by omega⟩ ⟨by omega, by omega⟩  
      obtain ⟨I28, J29, rfl, hI28, g27, k27, ⟨z27, rfl, q27⟩⟩ := P27
      have FI28 := gc_frc (W := fun q j => (q = 39 ∧ j = 3) ∨ (q = 39 ∧ j = 4)) (V := fun q j => (q = 39 ∧ j = 3) ∨ (q = 39 ∧ j = 4)) FI19 (fun q j h => (h.elim (fun h => (Or.inl h)) (fun h => (Or.inr h)))) g27
      have t30 := (g27 23 7).resolve_left (fun h => h.elim (fun h => absurd h.2 (by decide)) (fun h => absurd h.2 (by decide)))
      have t31 := (g27 23 5).resolve_left (fun h => h.elim (fun h => absurd h.2 (by decide)) (fun h => absurd h.2 (by decide)))
      obtain rfl : J = J29 := funext fun q => funext fun j => ((k27 q j).resolve_left id).symm
      refine gv_callV hD rfl (As := [.inl 4, .inl (I19 23 5)]) (st := []) rfl B_39 S_39 rfl (gc_lV6 hws rfl) (Nat.le_of_ble_eq_true rfl) (gz_Ev_mono (d := 1) (by decide) E27) ?_
      show gv_X _ _ (34, [(0, .inr (.inr (some 39))), (1, .inr (.inr (some a1)))], [.inl z27], sh, gc_h sh I28 J A)
      refine gv_if_eq (t := 41) hD rfl rfl ⟨by omega, by omega⟩ (fun c32 => ?_) (fun c32 => ?_)
      · show gv_X _ _ (41, [(0, .inr (.inr (some 39))), (1, .inr (.inr (some a1)))], [], sh, gc_h sh I28 J A)
        refine gv_pick [] rfl ?_
        exact L41 I28 J hI28 FI28 FJ
      · show gv_X _ _ (37, [(0, .inr (.inr (some 39))), (1, .inr (.inr (some a1)))], [], sh, gc_h sh I28 J A)
        refine gv_pick [] rfl ?_
        exact L37 I28 J hI28 FI28 FJ (by omega)
set_option maxHeartbeats 4000000 in
set_option maxRecDepth 100000 in
theorem d_X6_needKnown {ws0 : List Cond} {tb : String → gz_T} (hws : gc_Ws ws0) (htb : gc_tbs tb) (sh : gz_Sh) (ro : Nat → Nat) (I : gr_I) (J : gr_J) (A : gc_A) (hI : gc_Inv ro I) (n ρ : Nat) (a1 : Nat) (hb : gc_Base sh ro A) (h_a1 : gc_isNames sh ro A a1 n ρ)   : ∃ r h', gz_Ev ws0 tb 3 (yX6_needKnown, cX6_needKnown, 2, (some .boolean)) [.inr (.inr (some 39)), .inr (.inr (some a1))] sh (gc_h sh I J A) r sh h' 0 0 ∧ (∃ (I' : gr_I) (J' : gr_J), h' = gc_h sh I' J' A ∧ gc_Inv ro I' ∧ (∀ q j : Nat, ((q = 39 ∧ j = 3) ∨ (q = 39 ∧ j = 4)) ∨ I' q j = I q j) ∧ (∀ q j : Nat, (False) ∨ J' q j = J q j) ∧ (∃ z : Int, r = some (.inl z) ∧ 0 ≤ z ∧ z ≤ 1 ∧ (z = 0 ∨ (I 23 7 = 1 ∧ 0 ≤ gc_fd (J (a1 + 1)) (J 23 9) (Int.toNat (I' a1 1)))))) := by
  have FI : ∀ q j : Nat, ((q = 39 ∧ j = 3) ∨ (q = 39 ∧ j = 4)) ∨ I q j = I q j := fun _ _ => Or.inr rfl
  have FJ : ∀ q j : Nat, (False) ∨ J q j = J q j := fun _ _ => Or.inr rfl
  have A_39_1 : A 39 1 = some 23 := gc_bA hb rfl
  have B_23 : 23 < 1000000 := by decide
  have B_39 : 39 < 1000000 := by decide
  have R_23 : ro 23 = 3 := gc_bR hb (by decide) rfl
  have S_23 : sh[23]? = some (false, 9, 10) := gc_bS hb rfl
  have S_39 : sh[39]? = some (false, 6, 19) := gc_bS hb rfl
  obtain ⟨S_a1, R_a1, B_a1, A_a1_0, S_a1_1, R_a1_1, B_a1_1, Q_lo, Q_hi, Q_n⟩ := id h_a1
  have hD : gv_D (gc_E6 ws0 tb 2 (yX6_needKnown, cX6_needKnown, 2, (some .boolean)) kX6_needKnown) := gq_ok oX6_needKnown
  refine gc_ev6 (d := 2) (l := kX6_needKnown) (Po := fun r h' => (∃ (I' : gr_I) (J' : gr_J), h' = gc_h sh I' J' A ∧ gc_Inv ro I' ∧ (∀ q j : Nat, ((q = 39 ∧ j = 3) ∨ (q = 39 ∧ j = 4)) ∨ I' q j = I q j) ∧ (∀ q j : Nat, (False) ∨ J' q j = J q j) ∧ (∃ z : Int, r = some (.inl z) ∧ 0 ≤ z ∧ z ≤ 1 ∧ (z = 0 ∨ (I 23 7 = 1 ∧ 0 ≤ gc_fd (J (a1 + 1)) (J 23 9) (Int.toNat (I' a1 1))))))) htb rfl (Nat.le_of_ble_eq_true rfl) ?_
  have f1 := (show 0 ≤ I 23 7 ∧ I 23 7 ≤ 125 from gc_in hI R_23 rfl rfl)
  have f2 := (show 0 ≤ I 23 5 ∧ I 23 5 ≤ 1000 from gc_in hI R_23 rfl rfl)
  have f3 := (show 0 ≤ I a1 1 ∧ I a1 1 ≤ ((n : Nat) : Int) from gc_in hI R_a1 Q_lo Q_hi)
  have L42 : ∀ (I4 : gr_I) (J5 : gr_J) (s0_6 : Int), gc_Inv ro I4 → (∀ q j : Nat, ((q = 39 ∧ j = 3) ∨ (q = 39 ∧ j = 4)) ∨ I4 q j = I q j) → (∀ q j : Nat, (False) ∨ J5 q j = J q j) → ((0 ≤ s0_6 ∧ s0_6 ≤ 1) ∧ (s0_6 = 0 ∨ (I 23 7 = 1 ∧ 0 ≤ gc_fd (J (a1 + 1)) (J 23 9) (Int.toNat (I4 a1 1))))) → gv_X (gc_E6 ws0 tb 2 (yX6_needKnown, cX6_needKnown, 2, (some .boolean)) kX6_needKnown) (gv_Q cX6_needKnown (some .boolean) sh (fun r h' => (∃ (I' : gr_I) (J' : gr_J), h' = gc_h sh I' J' A ∧ gc_Inv ro I' ∧ (∀ q j : Nat, ((q = 39 ∧ j = 3) ∨ (q = 39 ∧ j = 4)) ∨ I' q j = I q j) ∧ (∀ q j : Nat, (False) ∨ J' q j = J q j) ∧ (∃ z : Int, r = some (.inl z) ∧ 0 ≤ z ∧ z ≤ 1 ∧ (z = 0 ∨ (I 23 7 = 1 ∧ 0 ≤ gc_fd (J (a1 + 1)) (J 23 9) (Int.toNat (I' a1 1)))))))) (42, [], [.inl s0_6], sh, gc_h sh I4 J5 A) := by
    intro I4 J5 s0_6 hI4 FI4 FJ5 m_6
    obtain ⟨hs0_6, e0_6⟩ := m_6
    have f7 := (show 0 ≤ I4 23 7 ∧ I4 23 7 ≤ 125 from gc_in hI4 R_23 rfl rfl)
    have f8 := (show 0 ≤ I4 23 5 ∧ I4 23 5 ≤ 1000 from gc_in hI4 R_23 rfl rfl)
    have f9 := (show 0 ≤ I4 a1 1 ∧ I4 a1 1 ≤ ((n : Nat) : Int) from gc_in hI4 R_a1 Q_lo Q_hi)
    exact gv_zret hD rfl (by omega) ⟨I4, J5, rfl, hI4, FI4, FJ5, ⟨_, rfl, by omega⟩⟩
  have L37 : ∀ (I10 : gr_I) (J11 : gr_J) , gc_Inv ro I10 → (∀ q j : Nat, ((q = 39 ∧ j = 3) ∨ (q = 39 ∧ j = 4)) ∨ I10 q j = I q j) → (∀ q j : Nat, (False) ∨ J11 q j = J q j) → ((I 23 7 = 1) ∧ (0 ≤ gc_fd (J (a1 + 1)) (J 23 9) (Int.toNat (I10 a1 1)))) → gv_X (gc_E6 ws0 tb 2 (yX6_needKnown, cX6_needKnown, 2, (some .boolean)) kX6_needKnown) (gv_Q cX6_needKnown (some .boolean) sh (fun r h' => (∃ (I' : gr_I) (J' : gr_J), h' = gc_h sh I' J' A ∧ gc_Inv ro I' ∧ (∀ q j : Nat, ((q = 39 ∧ j = 3) ∨ (q = 39 ∧ j = 4)) ∨ I' q j = I q j) ∧ (∀ q j : Nat, (False) ∨ J' q j = J q j) ∧ (∃ z : Int, r = some (.inl z) ∧ 0 ≤ z ∧ z ≤ 1 ∧ (z = 0 ∨ (I 23 7 = 1 ∧ 0 ≤ gc_fd (J (a1 + 1)) (J 23 9) (Int.toNat (I' a1 1)))))))) (37, [], [], sh, gc_h sh I10 J11 A) := by
    intro I10 J11 hI10 FI10 FJ11 m_12
    obtain ⟨e0_12, e1_12⟩ := m_12
    have f13 := (show 0 ≤ I10 23 7 ∧ I10 23 7 ≤ 125 from gc_in hI10 R_23 rfl rfl)
    have f14 := (show 0 ≤ I10 23 5 ∧ I10 23 5 ≤ 1000 from gc_in hI10 R_23 rfl rfl)
    have f15 := (show 0 ≤ I10 a1 1 ∧ I10 a1 1 ≤ ((n : Nat) : Int) from gc_in hI10 R_a1 Q_lo Q_hi)
    refine gv_run 2 true hD (pc' := 42) (lv' := []) (st' := [.inl 1]) (h' := gc_h sh I10 J11 A) (C := ((True ∧ True) ∧ True)) rfl ⟨⟨trivial, trivial⟩, trivial⟩ ?_
    exact L42 I10 J11 1 hI10 FI10 FJ11 (by omega)
  have L41 : ∀ (I16 : gr_I) (J17 : gr_J) , gc_Inv ro I16 → (∀ q j : Nat, ((q = 39 ∧ j = 3) ∨ (q = 39 ∧ j = 4)) ∨ I16 q j = I q j) → (∀ q j : Nat, (False) ∨ J17 q j = J q j) → gv_X (gc_E6 ws0 tb 2 (yX6_needKnown, cX6_needKnown, 2, (some .boolean)) kX6_needKnown) (gv_Q cX6_needKnown (some .boolean) sh (fun r h' => (∃ (I' : gr_I) (J' : gr_J), h' = gc_h sh I' J' A ∧ gc_Inv ro I' ∧ (∀ q j : Nat, ((q = 39 ∧ j = 3) ∨ (q = 39 ∧ j = 4)) ∨ I' q j = I q j) ∧ (∀ q j : Nat, (False) ∨ J' q j = J q j) ∧ (∃ z : Int, r = some (.inl z) ∧ 0 ≤ z ∧ z ≤ 1 ∧ (z = 0 ∨ (I 23 7 = 1 ∧ 0 ≤ gc_fd (J (a1 + 1)) (J 23 9) (Int.toNat (I' a1 1)))))))) (41, [], [], sh, gc_h sh I16 J17 A) := by
    intro I16 J17 hI16 FI16 FJ17
    have f19 := (show 0 ≤ I16 23 7 ∧ I16 23 7 ≤ 125 from gc_in hI16 R_23 rfl rfl)
    have f20 := (show 0 ≤ I16 23 5 ∧ I16 23 5 ≤ 1000 from gc_in hI16 R_23 rfl rfl)
    have f21 := (show 0 ≤ I16 a1 1 ∧ I16 a1 1 ≤ ((n : Nat) : Int) from gc_in hI16 R_a1 Q_lo Q_hi)
    refine gv_run 1 true hD (pc' := 42) (lv' := []) (st' := [.inl 0]) (h' := gc_h sh I16 J17 A) (C := (True ∧ True)) rfl ⟨trivial, trivial⟩ ?_
    exact L42 I16 J17 0 hI16 FI16 FJ17 (by omega)
  refine gv_run 2 true hD (pc' := 2) (lv' := [(0, .inr (.inr (some 39))), (1, .inr (.inr (some a1)))]) (st' := [.inl 1, .inr (.inr (some 39))]) (h' := gc_h sh I J A) (C := ((True ∧ True) ∧ True)) rfl ⟨⟨trivial, trivial⟩, trivial⟩ ?_
  obtain ⟨r22, h22, E22, P22⟩ := d_X6_need (ws0 := ws0) (tb := tb) hws htb sh ro I J A hI  1 hb   ⟨by omega, by omega⟩  
  obtain ⟨I23, J24, rfl, hI23, g22, k22, ⟨z22, rfl, q22⟩⟩ := P22
  have FI23 := gc_frc (W := fun q j => (q = 39 ∧ j = 3) ∨ (q = 39 ∧ j = 4)) (V := fun q j => (q = 39 ∧ j = 3) ∨ (q = 39 ∧ j = 4)) FI (fun q j h => (h.elim (fun h => (Or.inl h)) (fun h => (Or.inr h)))) g22
  have t25 := (g22 23 7).resolve_left (fun h => h.elim (fun h => absurd h.2 (by decide)) (fun h => absurd h.2 (by decide)))
  have t26 := (g22 23 5).resolve_left (fun h => h.elim (fun h => absurd h.2 (by decide)) (fun h => absurd h.2 (by decide)))
  have t27 := (g22 a1 1).resolve_left (fun h => h.elim (fun h => absurd h.2 (by decide)) (fun h => absurd h.2 (by decide)))
  obtain rfl : J = J24 := funext fun q => funext fun j => ((k22 q j).resolve_left id).symm
  refine gv_callV hD rfl (As := [.inl 1]) (st := []) rfl B_39 S_39 rfl (gc_lV6 hws rfl) (Nat.le_of_ble_eq_true rfl) (gz_Ev_mono (d := 2) (by decide) E22) ?_
  show gv_X _ _ (5, [(0, .inr (.inr (some 39))), (1, .inr (.inr (some a1)))], [.inl z22], sh, gc_h sh I23 J A)
  refine gv_if_eq (t := 41) hD rfl rfl ⟨by omega, by omega⟩ (fun c28 => ?_) (fun c28 => ?_)
  · show gv_X _ _ (41, [(0, .inr (.inr (some 39))), (1, .inr (.inr (some a1)))], [], sh, gc_h sh I23 J A)
    refine gv_pick [] rfl ?_
    exact L41 I23 J hI23 FI23 FJ
  · show gv_X _ _ (8, [(0, .inr (.inr (some 39))), (1, .inr (.inr (some a1)))], [], sh, gc_h sh I23 J A)
    refine gv_run 2 true hD (pc' := 10) (lv' := [(0, .inr (.inr (some 39))), (1, .inr (.inr (some a1)))]) (st' := [.inr (.inr (some 39)), .inr (.inr (some a1))]) (h' := gc_h sh I23 J A) (C := ((True ∧ True) ∧ True)) rfl ⟨⟨trivial, trivial⟩, trivial⟩ ?_
    refine gv_get hD rfl rfl S_39 ⟨by decide, B_39⟩ (gc_hA S_39 rfl A_39_1) ?_
    show gv_X _ _ (13, [(0, .inr (.inr (some 39))), (1, .inr (.inr (some a1)))], [.inr (.inr (some 23)), .inr (.inr (some a1))], sh, gc_h sh I23 J A)
    refine gv_get hD rfl rfl S_23 ⟨by decide, B_23⟩ (gc_hJ S_23 rfl) ?_
    show gv_X _ _ (16, [(0, .inr (.inr (some 39))), (1, .inr (.inr (some a1)))], [.inr (.inl (J 23 9)), .inr (.inr (some a1))], sh, gc_h sh I23 J A)
    obtain ⟨r29, h29, E29, P29⟩ := d_X4_find (ws0 := ws0) (tb := tb) hws htb sh ro I23 J A hI23 a1 n ρ (J 23 9) h_a1     
    obtain ⟨rfl, ⟨z29, rfl, q29⟩⟩ := P29
    refine gv_callV hD rfl (As := [.inr (.inl (J 23 9))]) (st := []) rfl B_a1 S_a1 rfl (gc_lV6 hws rfl) (Nat.le_of_ble_eq_true rfl) (gz_Ev_mono (d := 1) (by decide) E29) ?_
    show gv_X _ _ (19, [(0, .inr (.inr (some 39))), (1, .inr (.inr (some a1)))], [.inl z29], sh, gc_h sh I23 J A)
    refine gv_if_ge (t := 37) hD rfl rfl ⟨by omega, by omega⟩ (fun c30 => ?_) (fun c30 => ?_)
    · show gv_X _ _ (37, [(0, .inr (.inr (some 39))), (1, .inr (.inr (some a1)))], [], sh, gc_h sh I23 J A)
      refine gv_pick [] rfl ?_
      exact L37 I23 J hI23 FI23 FJ (by omega)
    · show gv_X _ _ (22, [(0, .inr (.inr (some 39))), (1, .inr (.inr (some a1)))], [], sh, gc_h sh I23 J A)
      refine gv_run 3 true hD (pc' := 25) (lv' := [(0, .inr (.inr (some 39))), (1, .inr (.inr (some a1)))]) (st' := [.inr (.inr (some 39)), .inl 5, .inr (.inr (some 39))]) (h' := gc_h sh I23 J A) (C := (((True ∧ True) ∧ True) ∧ True)) rfl ⟨⟨⟨trivial, trivial⟩, trivial⟩, trivial⟩ ?_
      refine gv_get hD rfl rfl S_39 ⟨by decide, B_39⟩ (gc_hA S_39 rfl A_39_1) ?_
      show gv_X _ _ (28, [(0, .inr (.inr (some 39))), (1, .inr (.inr (some a1)))], [.inr (.inr (some 23)), .inl 5, .inr (.inr (some 39))], sh, gc_h sh I23 J A)
      have f31 := (show 0 ≤ I23 23 5 ∧ I23 23 5 ≤ 1000 from gc_in hI23 R_23 rfl rfl)
      refine gv_get hD rfl rfl S_23 ⟨by decide, B_23⟩ (gc_hI S_23 rfl) ?_
      show gv_X _ _ (31, [(0, .inr (.inr (some 39))), (1, .inr (.inr (some a1)))], [.inl (I23 23 5), .inl 5, .inr (.inr (some 39))], sh, gc_h sh I23 J A)
      obtain ⟨r32, h32, E32, P32⟩ := d_X6_wrong (ws0 := ws0) (tb := tb) hws htb sh ro I23 J A hI23  5 (I23 23 5) hb   ⟨by omega, by omega⟩ ⟨by omega, by omega⟩  
      obtain ⟨I33, J34, rfl, hI33, g32, k32, ⟨z32, rfl, q32⟩⟩ := P32
      have FI33 := gc_frc (W := fun q j => (q = 39 ∧ j = 3) ∨ (q = 39 ∧ j = 4)) (V := fun q j => (q = 39 ∧ j = 3) ∨ (q = 39 ∧ j = 4)) FI23 (fun q j h => (h.elim (fun h => (Or.inl h)) (fun h => (Or.inr h)))) g32
      have t35 := (g32 23 7).resolve_left (fun h => h.elim (fun h => absurd h.2 (by decide)) (fun h => absurd h.2 (by decide)))
      have t36 := (g32 23 5).resolve_left (fun h => h.elim (fun h => absurd h.2 (by decide)) (fun h => absurd h.2 (by decide)))
      have t37 := (g32 a1 1).resolve_left (fun h => h.elim (fun h => absurd h.2 (by decide)) (fun h => absurd h.2 (by decide)))
      obtain rfl : J = J34 := funext fun q => funext fun j => ((k32 q j).resolve_left id).symm
      refine gv_callV hD rfl (As := [.inl 5, .inl (I23 23 5)]) (st := []) rfl B_39 S_39 rfl (gc_lV6 hws rfl) (Nat.le_of_ble_eq_true rfl) (gz_Ev_mono (d := 1) (by decide) E32) ?_
      show gv_X _ _ (34, [(0, .inr (.inr (some 39))), (1, .inr (.inr (some a1)))], [.inl z32], sh, gc_h sh I33 J A)
      refine gv_if_eq (t := 41) hD rfl rfl ⟨by omega, by omega⟩ (fun c38 => ?_) (fun c38 => ?_)
      · show gv_X _ _ (41, [(0, .inr (.inr (some 39))), (1, .inr (.inr (some a1)))], [], sh, gc_h sh I33 J A)
        refine gv_pick [] rfl ?_
        exact L41 I33 J hI33 FI33 FJ
      · show gv_X _ _ (37, [(0, .inr (.inr (some 39))), (1, .inr (.inr (some a1)))], [], sh, gc_h sh I33 J A)
        refine gv_pick [] rfl ?_
        exact L37 I33 J hI33 FI33 FJ (by omega)
set_option maxHeartbeats 4000000 in
set_option maxRecDepth 100000 in
theorem d_X6_closes {ws0 : List Cond} {tb : String → gz_T} (hws : gc_Ws ws0) (htb : gc_tbs tb) (sh : gz_Sh) (ro : Nat → Nat) (I : gr_I) (J : gr_J) (A : gc_A) (hI : gc_Inv ro I) (a1 : Int) (hb : gc_Base sh ro A) (ha1 : 0 ≤ a1 ∧ a1 ≤ 1) (KLT_I : gc_LT I) (KTK_I : gc_TK I) : ∃ r h', gz_Ev ws0 tb 4 (yX6_closes, cX6_closes, 2, (some .boolean)) [.inr (.inr (some 39)), .inl a1] sh (gc_h sh I J A) r sh h' 0 0 ∧ (∃ (I' : gr_I) (J' : gr_J), h' = gc_h sh I' J' A ∧ gc_Inv ro I' ∧ (∀ q j : Nat, ((q = 39 ∧ j = 3) ∨ (q = 39 ∧ j = 4) ∨ (q = 23 ∧ j = 5) ∨ (q = 23 ∧ j = 6) ∨ (q = 23 ∧ j = 7) ∨ (q = 23 ∧ j = 8)) ∨ I' q j = I q j) ∧ (∀ q j : Nat, ((q = 23 ∧ j = 9)) ∨ J' q j = J q j) ∧ gc_LT I' ∧ gc_TK I' ∧ (∃ z : Int, r = some (.inl z) ∧ 0 ≤ z ∧ z ≤ 1 ∧ (I' 23 1 = I 23 1) ∧ (I 23 5 ≤ I' 23 5) ∧ (z = 0 ∨ (a1 = 0 ∧ I 23 7 = 59 ∧ I 23 6 ≤ I' 23 5)))) := by
  have FI : ∀ q j : Nat, ((q = 39 ∧ j = 3) ∨ (q = 39 ∧ j = 4) ∨ (q = 23 ∧ j = 5) ∨ (q = 23 ∧ j = 6) ∨ (q = 23 ∧ j = 7) ∨ (q = 23 ∧ j = 8)) ∨ I q j = I q j := fun _ _ => Or.inr rfl
  have FJ : ∀ q j : Nat, ((q = 23 ∧ j = 9)) ∨ J q j = J q j := fun _ _ => Or.inr rfl
  have A_39_0 : A 39 0 = some 1 := gc_bA hb rfl
  have B_1 : 1 < 1000000 := by decide
  have B_39 : 39 < 1000000 := by decide
  have R_1 : ro 1 = 22 := gc_bR hb (by decide) rfl
  have R_23 : ro 23 = 3 := gc_bR hb (by decide) rfl
  have R_39 : ro 39 = 42 := gc_bR hb (by decide) rfl
  have S_1 : sh[1]? = some (false, 8, 21) := gc_bS hb rfl
  have S_39 : sh[39]? = some (false, 6, 19) := gc_bS hb rfl
  have hD : gv_D (gc_E6 ws0 tb 3 (yX6_closes, cX6_closes, 2, (some .boolean)) kX6_closes) := gq_ok oX6_closes
  refine gc_ev6 (d := 3) (l := kX6_closes) (Po := fun r h' => (∃ (I' : gr_I) (J' : gr_J), h' = gc_h sh I' J' A ∧ gc_Inv ro I' ∧ (∀ q j : Nat, ((q = 39 ∧ j = 3) ∨ (q = 39 ∧ j = 4) ∨ (q = 23 ∧ j = 5) ∨ (q = 23 ∧ j = 6) ∨ (q = 23 ∧ j = 7) ∨ (q = 23 ∧ j = 8)) ∨ I' q j = I q j) ∧ (∀ q j : Nat, ((q = 23 ∧ j = 9)) ∨ J' q j = J q j) ∧ gc_LT I' ∧ gc_TK I' ∧ (∃ z : Int, r = some (.inl z) ∧ 0 ≤ z ∧ z ≤ 1 ∧ (I' 23 1 = I 23 1) ∧ (I 23 5 ≤ I' 23 5) ∧ (z = 0 ∨ (a1 = 0 ∧ I 23 7 = 59 ∧ I 23 6 ≤ I' 23 5))))) htb rfl (Nat.le_of_ble_eq_true rfl) ?_
  have t1 := gc_TK_mo KTK_I
  have f2 := (show 0 ≤ I 23 1 ∧ I 23 1 ≤ 1000 from gc_in hI R_23 rfl rfl)
  have f3 := (show 0 ≤ I 23 5 ∧ I 23 5 ≤ 1000 from gc_in hI R_23 rfl rfl)
  have f4 := (show 0 ≤ I 23 6 ∧ I 23 6 ≤ 1001 from gc_in hI R_23 rfl rfl)
  have f5 := (show 0 ≤ I 23 7 ∧ I 23 7 ≤ 125 from gc_in hI R_23 rfl rfl)
  have L42 : ∀ (I6 : gr_I) (J7 : gr_J) (s0_8 : Int), gc_Inv ro I6 → (∀ q j : Nat, ((q = 39 ∧ j = 3) ∨ (q = 39 ∧ j = 4) ∨ (q = 23 ∧ j = 5) ∨ (q = 23 ∧ j = 6) ∨ (q = 23 ∧ j = 7) ∨ (q = 23 ∧ j = 8)) ∨ I6 q j = I q j) → (∀ q j : Nat, ((q = 23 ∧ j = 9)) ∨ J7 q j = J q j) → gc_LT I6 → gc_TK I6 → ((0 ≤ s0_8 ∧ s0_8 ≤ 1) ∧ (s0_8 = 0 ∨ (a1 = 0 ∧ I 23 7 = 59 ∧ I 23 6 ≤ I6 23 5)) ∧ (I6 23 1 = I 23 1) ∧ (I 23 5 ≤ I6 23 5)) → gv_X (gc_E6 ws0 tb 3 (yX6_closes, cX6_closes, 2, (some .boolean)) kX6_closes) (gv_Q cX6_closes (some .boolean) sh (fun r h' => (∃ (I' : gr_I) (J' : gr_J), h' = gc_h sh I' J' A ∧ gc_Inv ro I' ∧ (∀ q j : Nat, ((q = 39 ∧ j = 3) ∨ (q = 39 ∧ j = 4) ∨ (q = 23 ∧ j = 5) ∨ (q = 23 ∧ j = 6) ∨ (q = 23 ∧ j = 7) ∨ (q = 23 ∧ j = 8)) ∨ I' q j = I q j) ∧ (∀ q j : Nat, ((q = 23 ∧ j = 9)) ∨ J' q j = J q j) ∧ gc_LT I' ∧ gc_TK I' ∧ (∃ z : Int, r = some (.inl z) ∧ 0 ≤ z ∧ z ≤ 1 ∧ (I' 23 1 = I 23 1) ∧ (I 23 5 ≤ I' 23 5) ∧ (z = 0 ∨ (a1 = 0 ∧ I 23 7 = 59 ∧ I 23 6 ≤ I' 23 5)))))) (42, [], [.inl s0_8], sh, gc_h sh I6 J7 A) := by
    intro I6 J7 s0_8 hI6 FI6 FJ7 KLT_I6 KTK_I6 m_8
    obtain ⟨hs0_8, e0_8, e1_8, e2_8⟩ := m_8
    have t9 := gc_TK_mo KTK_I6
    have f10 := (show 0 ≤ I6 23 1 ∧ I6 23 1 ≤ 1000 from gc_in hI6 R_23 rfl rfl)
    have f11 := (show 0 ≤ I6 23 5 ∧ I6 23 5 ≤ 1000 from gc_in hI6 R_23 rfl rfl)
    have f12 := (show 0 ≤ I6 23 6 ∧ I6 23 6 ≤ 1001 from gc_in hI6 R_23 rfl rfl)
    have f13 := (show 0 ≤ I6 23 7 ∧ I6 23 7 ≤ 125 from gc_in hI6 R_23 rfl rfl)
    exact gv_zret hD rfl (by omega) ⟨I6, J7, rfl, hI6, FI6, FJ7, KLT_I6, KTK_I6, ⟨_, rfl, by omega⟩⟩
  have L37 : ∀ (I14 : gr_I) (J15 : gr_J) , gc_Inv ro I14 → (∀ q j : Nat, ((q = 39 ∧ j = 3) ∨ (q = 39 ∧ j = 4) ∨ (q = 23 ∧ j = 5) ∨ (q = 23 ∧ j = 6) ∨ (q = 23 ∧ j = 7) ∨ (q = 23 ∧ j = 8)) ∨ I14 q j = I q j) → (∀ q j : Nat, ((q = 23 ∧ j = 9)) ∨ J15 q j = J q j) → gc_LT I14 → gc_TK I14 → ((a1 = 0) ∧ (I 23 7 = 59) ∧ (I 23 6 ≤ I14 23 5) ∧ (I14 23 1 = I 23 1) ∧ (I 23 5 ≤ I14 23 5)) → gv_X (gc_E6 ws0 tb 3 (yX6_closes, cX6_closes, 2, (some .boolean)) kX6_closes) (gv_Q cX6_closes (some .boolean) sh (fun r h' => (∃ (I' : gr_I) (J' : gr_J), h' = gc_h sh I' J' A ∧ gc_Inv ro I' ∧ (∀ q j : Nat, ((q = 39 ∧ j = 3) ∨ (q = 39 ∧ j = 4) ∨ (q = 23 ∧ j = 5) ∨ (q = 23 ∧ j = 6) ∨ (q = 23 ∧ j = 7) ∨ (q = 23 ∧ j = 8)) ∨ I' q j = I q j) ∧ (∀ q j : Nat, ((q = 23 ∧ j = 9)) ∨ J' q j = J q j) ∧ gc_LT I' ∧ gc_TK I' ∧ (∃ z : Int, r = some (.inl z) ∧ 0 ≤ z ∧ z ≤ 1 ∧ (I' 23 1 = I 23 1) ∧ (I 23 5 ≤ I' 23 5) ∧ (z = 0 ∨ (a1 = 0 ∧ I 23 7 = 59 ∧ I 23 6 ≤ I' 23 5)))))) (37, [], [], sh, gc_h sh I14 J15 A) := by
    intro I14 J15 hI14 FI14 FJ15 KLT_I14 KTK_I14 m_16
    obtain ⟨e0_16, e1_16, e2_16, e3_16, e4_16⟩ := m_16
    have t17 := gc_TK_mo KTK_I14
    have f18 := (show 0 ≤ I14 23 1 ∧ I14 23 1 ≤ 1000 from gc_in hI14 R_23 rfl rfl)
    have f19 := (show 0 ≤ I14 23 5 ∧ I14 23 5 ≤ 1000 from gc_in hI14 R_23 rfl rfl)
    have f20 := (show 0 ≤ I14 23 6 ∧ I14 23 6 ≤ 1001 from gc_in hI14 R_23 rfl rfl)
    have f21 := (show 0 ≤ I14 23 7 ∧ I14 23 7 ≤ 125 from gc_in hI14 R_23 rfl rfl)
    refine gv_run 2 true hD (pc' := 42) (lv' := []) (st' := [.inl 1]) (h' := gc_h sh I14 J15 A) (C := ((True ∧ True) ∧ True)) rfl ⟨⟨trivial, trivial⟩, trivial⟩ ?_
    exact L42 I14 J15 1 hI14 FI14 FJ15 KLT_I14 KTK_I14 (by omega)
  have L25 : ∀ (I22 : gr_I) (J23 : gr_J) , gc_Inv ro I22 → (∀ q j : Nat, ((q = 39 ∧ j = 3) ∨ (q = 39 ∧ j = 4) ∨ (q = 23 ∧ j = 5) ∨ (q = 23 ∧ j = 6) ∨ (q = 23 ∧ j = 7) ∨ (q = 23 ∧ j = 8)) ∨ I22 q j = I q j) → (∀ q j : Nat, ((q = 23 ∧ j = 9)) ∨ J23 q j = J q j) → gc_LT I22 → gc_TK I22 → ((I 23 7 = 59) ∧ (I 23 6 ≤ I22 23 5) ∧ (I22 23 1 = I 23 1) ∧ (I 23 5 ≤ I22 23 5)) → gv_X (gc_E6 ws0 tb 3 (yX6_closes, cX6_closes, 2, (some .boolean)) kX6_closes) (gv_Q cX6_closes (some .boolean) sh (fun r h' => (∃ (I' : gr_I) (J' : gr_J), h' = gc_h sh I' J' A ∧ gc_Inv ro I' ∧ (∀ q j : Nat, ((q = 39 ∧ j = 3) ∨ (q = 39 ∧ j = 4) ∨ (q = 23 ∧ j = 5) ∨ (q = 23 ∧ j = 6) ∨ (q = 23 ∧ j = 7) ∨ (q = 23 ∧ j = 8)) ∨ I' q j = I q j) ∧ (∀ q j : Nat, ((q = 23 ∧ j = 9)) ∨ J' q j = J q j) ∧ gc_LT I' ∧ gc_TK I' ∧ (∃ z : Int, r = some (.inl z) ∧ 0 ≤ z ∧ z ≤ 1 ∧ (I' 23 1 = I 23 1) ∧ (I 23 5 ≤ I' 23 5) ∧ (z = 0 ∨ (a1 = 0 ∧ I 23 7 = 59 ∧ I 23 6 ≤ I' 23 5)))))) (25, [(0, .inr (.inr (some 39)))], [], sh, gc_h sh I22 J23 A) := by
    intro I22 J23 hI22 FI22 FJ23 KLT_I22 KTK_I22 m_24
    obtain ⟨e0_24, e1_24, e2_24, e3_24⟩ := m_24
    have t25 := gc_TK_mo KTK_I22
    have f26 := (show 0 ≤ I22 23 1 ∧ I22 23 1 ≤ 1000 from gc_in hI22 R_23 rfl rfl)
    have f27 := (show 0 ≤ I22 23 5 ∧ I22 23 5 ≤ 1000 from gc_in hI22 R_23 rfl rfl)
    have f28 := (show 0 ≤ I22 23 6 ∧ I22 23 6 ≤ 1001 from gc_in hI22 R_23 rfl rfl)
    have f29 := (show 0 ≤ I22 23 7 ∧ I22 23 7 ≤ 125 from gc_in hI22 R_23 rfl rfl)
    refine gv_run 3 true hD (pc' := 28) (lv' := [(0, .inr (.inr (some 39)))]) (st' := [.inr (.inr (some 39)), .inl 2, .inr (.inr (some 39))]) (h' := gc_h sh I22 J23 A) (C := (((True ∧ True) ∧ True) ∧ True)) rfl ⟨⟨⟨trivial, trivial⟩, trivial⟩, trivial⟩ ?_
    have f30 := (show 0 ≤ I22 39 5 ∧ I22 39 5 ≤ 1000 from gc_in hI22 R_39 rfl rfl)
    refine gv_get hD rfl rfl S_39 ⟨by decide, B_39⟩ (gc_hI S_39 rfl) ?_
    show gv_X _ _ (31, [(0, .inr (.inr (some 39)))], [.inl (I22 39 5), .inl 2, .inr (.inr (some 39))], sh, gc_h sh I22 J23 A)
    obtain ⟨r31, h31, E31, P31⟩ := d_X6_wrong (ws0 := ws0) (tb := tb) hws htb sh ro I22 J23 A hI22  2 (I22 39 5) hb   ⟨by omega, by omega⟩ ⟨by omega, by omega⟩  
    obtain ⟨I32, J33, rfl, hI32, g31, k31, ⟨z31, rfl, q31⟩⟩ := P31
    have FI32 := gc_frc (W := fun q j => (q = 39 ∧ j = 3) ∨ (q = 39 ∧ j = 4) ∨ (q = 23 ∧ j = 5) ∨ (q = 23 ∧ j = 6) ∨ (q = 23 ∧ j = 7) ∨ (q = 23 ∧ j = 8)) (V := fun q j => (q = 39 ∧ j = 3) ∨ (q = 39 ∧ j = 4)) FI22 (fun q j h => (h.elim (fun h => (Or.inl h)) (fun h => (Or.inr (Or.inl h))))) g31
    have t34 := (g31 23 1).resolve_left (fun h => h.elim (fun h => absurd h.2 (by decide)) (fun h => absurd h.2 (by decide)))
    have t35 := (g31 23 5).resolve_left (fun h => h.elim (fun h => absurd h.2 (by decide)) (fun h => absurd h.2 (by decide)))
    have t36 := (g31 23 6).resolve_left (fun h => h.elim (fun h => absurd h.2 (by decide)) (fun h => absurd h.2 (by decide)))
    have t37 := (g31 23 7).resolve_left (fun h => h.elim (fun h => absurd h.2 (by decide)) (fun h => absurd h.2 (by decide)))
    obtain rfl : J23 = J33 := funext fun q => funext fun j => ((k31 q j).resolve_left id).symm
    have KLT_I32 := gc_LT_fr KLT_I22 ((g31 23 5).resolve_left (fun h => h.elim (fun h => absurd h.2 (by decide)) (fun h => absurd h.2 (by decide)))) ((g31 23 6).resolve_left (fun h => h.elim (fun h => absurd h.2 (by decide)) (fun h => absurd h.2 (by decide)))) ((g31 23 7).resolve_left (fun h => h.elim (fun h => absurd h.2 (by decide)) (fun h => absurd h.2 (by decide)))) (fun k => (g31 24 k).resolve_left (fun h => h.elim (fun h => absurd h.1 (by decide)) (fun h => absurd h.1 (by decide))))
    have KTK_I32 := gc_TK_fr KTK_I22 ((g31 23 1).resolve_left (fun h => h.elim (fun h => absurd h.2 (by decide)) (fun h => absurd h.2 (by decide)))) ((g31 23 5).resolve_left (fun h => h.elim (fun h => absurd h.2 (by decide)) (fun h => absurd h.2 (by decide)))) ((g31 23 6).resolve_left (fun h => h.elim (fun h => absurd h.2 (by decide)) (fun h => absurd h.2 (by decide)))) ((g31 23 7).resolve_left (fun h => h.elim (fun h => absurd h.2 (by decide)) (fun h => absurd h.2 (by decide))))
    refine gv_callV hD rfl (As := [.inl 2, .inl (I22 39 5)]) (st := []) rfl B_39 S_39 rfl (gc_lV6 hws rfl) (Nat.le_of_ble_eq_true rfl) (gz_Ev_mono (d := 1) (by decide) E31) ?_
    show gv_X _ _ (34, [(0, .inr (.inr (some 39)))], [.inl z31], sh, gc_h sh I32 J23 A)
    refine gv_if_eq (t := 41) hD rfl rfl ⟨by omega, by omega⟩ (fun c38 => ?_) (fun c38 => ?_)
    · show gv_X _ _ (41, [(0, .inr (.inr (some 39)))], [], sh, gc_h sh I32 J23 A)
      refine gv_run 1 true hD (pc' := 42) (lv' := [(0, .inr (.inr (some 39)))]) (st' := [.inl 0]) (h' := gc_h sh I32 J23 A) (C := (True ∧ True)) rfl ⟨trivial, trivial⟩ ?_
      refine gv_pick [] rfl ?_
      exact L42 I32 J23 0 hI32 FI32 FJ23 KLT_I32 KTK_I32 (by omega)
    · show gv_X _ _ (37, [(0, .inr (.inr (some 39)))], [], sh, gc_h sh I32 J23 A)
      refine gv_pick [] rfl ?_
      exact L37 I32 J23 hI32 FI32 FJ23 KLT_I32 KTK_I32 (by omega)
  refine gv_run 2 true hD (pc' := 3) (lv' := [(0, .inr (.inr (some 39))), (1, .inl a1)]) (st' := [.inl 59, .inr (.inr (some 39))]) (h' := gc_h sh I J A) (C := ((True ∧ True) ∧ True)) rfl ⟨⟨trivial, trivial⟩, trivial⟩ ?_
  obtain ⟨r39, h39, E39, P39⟩ := d_X6_take (ws0 := ws0) (tb := tb) hws htb sh ro I J A hI  59 hb   ⟨by omega, by omega⟩ (by omega) KLT_I KTK_I
  obtain ⟨I40, J41, rfl, hI40, g39, k39, KLT_I40, KTK_I40, ⟨z39, rfl, q39⟩⟩ := P39
  have FI40 := gc_frc (W := fun q j => (q = 39 ∧ j = 3) ∨ (q = 39 ∧ j = 4) ∨ (q = 23 ∧ j = 5) ∨ (q = 23 ∧ j = 6) ∨ (q = 23 ∧ j = 7) ∨ (q = 23 ∧ j = 8)) (V := fun q j => (q = 39 ∧ j = 3) ∨ (q = 39 ∧ j = 4) ∨ (q = 23 ∧ j = 5) ∨ (q = 23 ∧ j = 6) ∨ (q = 23 ∧ j = 7) ∨ (q = 23 ∧ j = 8)) FI (fun q j h => (h.elim (fun h => (Or.inl h)) (fun h => (h.elim (fun h => (Or.inr (Or.inl h))) (fun h => (h.elim (fun h => (Or.inr (Or.inr (Or.inl h)))) (fun h => (h.elim (fun h => (Or.inr (Or.inr (Or.inr (Or.inl h))))) (fun h => (h.elim (fun h => (Or.inr (Or.inr (Or.inr (Or.inr (Or.inl h)))))) (fun h => (Or.inr (Or.inr (Or.inr (Or.inr (Or.inr h)))))))))))))))) g39
  have FJ41 := gc_frc (W := fun q j => (q = 23 ∧ j = 9)) (V := fun q j => (q = 23 ∧ j = 9)) FJ (fun q j h => h) k39
  have t42 := (g39 23 1).resolve_left (fun h => h.elim (fun h => absurd h.2 (by decide)) (fun h => h.elim (fun h => absurd h.2 (by decide)) (fun h => h.elim (fun h => absurd h.2 (by decide)) (fun h => h.elim (fun h => absurd h.2 (by decide)) (fun h => h.elim (fun h => absurd h.2 (by decide)) (fun h => absurd h.2 (by decide)))))))
  have f43 := (show 0 ≤ I40 23 5 ∧ I40 23 5 ≤ 1000 from gc_in hI40 R_23 rfl rfl)
  have f44 := (show 0 ≤ I40 23 6 ∧ I40 23 6 ≤ 1001 from gc_in hI40 R_23 rfl rfl)
  have f45 := (show 0 ≤ I40 23 7 ∧ I40 23 7 ≤ 125 from gc_in hI40 R_23 rfl rfl)
  have t46 := gc_TK_mo KTK_I40
  refine gv_callV hD rfl (As := [.inl 59]) (st := []) rfl B_39 S_39 rfl (gc_lV6 hws rfl) (Nat.le_of_ble_eq_true rfl) (gz_Ev_mono (d := 3) (by decide) E39) ?_
  show gv_X _ _ (6, [(0, .inr (.inr (some 39))), (1, .inl a1)], [.inl z39], sh, gc_h sh I40 J41 A)
  refine gv_if_ne (t := 11) hD rfl rfl ⟨by omega, by omega⟩ (fun c47 => ?_) (fun c47 => ?_)
  · show gv_X _ _ (11, [(0, .inr (.inr (some 39))), (1, .inl a1)], [], sh, gc_h sh I40 J41 A)
    refine gv_run 1 true hD (pc' := 12) (lv' := [(0, .inr (.inr (some 39))), (1, .inl a1)]) (st' := [.inl a1]) (h' := gc_h sh I40 J41 A) (C := (True ∧ True)) rfl ⟨trivial, trivial⟩ ?_
    refine gv_if_ne (t := 25) hD rfl rfl ⟨by omega, by omega⟩ (fun c48 => ?_) (fun c48 => ?_)
    · show gv_X _ _ (25, [(0, .inr (.inr (some 39))), (1, .inl a1)], [], sh, gc_h sh I40 J41 A)
      refine gv_pick [0] rfl ?_
      exact L25 I40 J41 hI40 FI40 FJ41 KLT_I40 KTK_I40 (by omega)
    · show gv_X _ _ (15, [(0, .inr (.inr (some 39))), (1, .inl a1)], [], sh, gc_h sh I40 J41 A)
      refine gv_run 1 true hD (pc' := 16) (lv' := [(0, .inr (.inr (some 39))), (1, .inl a1)]) (st' := [.inr (.inr (some 39))]) (h' := gc_h sh I40 J41 A) (C := (True ∧ True)) rfl ⟨trivial, trivial⟩ ?_
      refine gv_get hD rfl rfl S_39 ⟨by decide, B_39⟩ (gc_hA S_39 rfl A_39_0) ?_
      show gv_X _ _ (19, [(0, .inr (.inr (some 39))), (1, .inl a1)], [.inr (.inr (some 1))], sh, gc_h sh I40 J41 A)
      have f49 := (show 0 ≤ I40 1 18 ∧ I40 1 18 ≤ 1 from gc_in hI40 R_1 rfl rfl)
      refine gv_get hD rfl rfl S_1 ⟨by decide, B_1⟩ (gc_hI S_1 rfl) ?_
      show gv_X _ _ (22, [(0, .inr (.inr (some 39))), (1, .inl a1)], [.inl (I40 1 18)], sh, gc_h sh I40 J41 A)
      refine gv_if_eq (t := 37) hD rfl rfl ⟨by omega, by omega⟩ (fun c50 => ?_) (fun c50 => ?_)
      · show gv_X _ _ (37, [(0, .inr (.inr (some 39))), (1, .inl a1)], [], sh, gc_h sh I40 J41 A)
        refine gv_pick [] rfl ?_
        exact L37 I40 J41 hI40 FI40 FJ41 KLT_I40 KTK_I40 (by omega)
      · show gv_X _ _ (25, [(0, .inr (.inr (some 39))), (1, .inl a1)], [], sh, gc_h sh I40 J41 A)
        refine gv_pick [0] rfl ?_
        exact L25 I40 J41 hI40 FI40 FJ41 KLT_I40 KTK_I40 (by omega)
  · show gv_X _ _ (9, [(0, .inr (.inr (some 39))), (1, .inl a1)], [], sh, gc_h sh I40 J41 A)
    refine gv_run 1 true hD (pc' := 10) (lv' := [(0, .inr (.inr (some 39))), (1, .inl a1)]) (st' := [.inl 0]) (h' := gc_h sh I40 J41 A) (C := (True ∧ True)) rfl ⟨trivial, trivial⟩ ?_
    exact gv_zret hD rfl (by omega) ⟨I40, J41, rfl, hI40, FI40, FJ41, KLT_I40, KTK_I40, ⟨_, rfl, by omega⟩⟩
set_option maxHeartbeats 4000000 in
set_option maxRecDepth 100000 in
theorem d_X6_readCost {ws0 : List Cond} {tb : String → gz_T} (hws : gc_Ws ws0) (htb : gc_tbs tb) (sh : gz_Sh) (ro : Nat → Nat) (I : gr_I) (J : gr_J) (A : gc_A) (hI : gc_Inv ro I)  (hb : gc_Base sh ro A)  (KLT_I : gc_LT I) (KTK_I : gc_TK I) : ∃ r h', gz_Ev ws0 tb 3 (yX6_readCost, cX6_readCost, 1, (some .boolean)) [.inr (.inr (some 39))] sh (gc_h sh I J A) r sh h' 0 0 ∧ (∃ (I' : gr_I) (J' : gr_J), h' = gc_h sh I' J' A ∧ gc_Inv ro I' ∧ (∀ q j : Nat, ((q = 39 ∧ j = 3) ∨ (q = 39 ∧ j = 4) ∨ (q = 23 ∧ j = 5) ∨ (q = 23 ∧ j = 6) ∨ (q = 23 ∧ j = 7) ∨ (q = 23 ∧ j = 8) ∨ (q = 39 ∧ j = 7)) ∨ I' q j = I q j) ∧ (∀ q j : Nat, ((q = 23 ∧ j = 9)) ∨ J' q j = J q j) ∧ gc_LT I' ∧ gc_TK I' ∧ (∃ z : Int, r = some (.inl z) ∧ 0 ≤ z ∧ z ≤ 1 ∧ (I' 23 1 = I 23 1) ∧ (I 23 5 ≤ I' 23 5))) := by
  have FI : ∀ q j : Nat, ((q = 39 ∧ j = 3) ∨ (q = 39 ∧ j = 4) ∨ (q = 23 ∧ j = 5) ∨ (q = 23 ∧ j = 6) ∨ (q = 23 ∧ j = 7) ∨ (q = 23 ∧ j = 8) ∨ (q = 39 ∧ j = 7)) ∨ I q j = I q j := fun _ _ => Or.inr rfl
  have FJ : ∀ q j : Nat, ((q = 23 ∧ j = 9)) ∨ J q j = J q j := fun _ _ => Or.inr rfl
  have A_39_1 : A 39 1 = some 23 := gc_bA hb rfl
  have B_23 : 23 < 1000000 := by decide
  have B_39 : 39 < 1000000 := by decide
  have R_23 : ro 23 = 3 := gc_bR hb (by decide) rfl
  have R_39 : ro 39 = 42 := gc_bR hb (by decide) rfl
  have S_23 : sh[23]? = some (false, 9, 10) := gc_bS hb rfl
  have S_39 : sh[39]? = some (false, 6, 19) := gc_bS hb rfl
  have hD : gv_D (gc_E6 ws0 tb 2 (yX6_readCost, cX6_readCost, 1, (some .boolean)) kX6_readCost) := gq_ok oX6_readCost
  refine gc_ev6 (d := 2) (l := kX6_readCost) (Po := fun r h' => (∃ (I' : gr_I) (J' : gr_J), h' = gc_h sh I' J' A ∧ gc_Inv ro I' ∧ (∀ q j : Nat, ((q = 39 ∧ j = 3) ∨ (q = 39 ∧ j = 4) ∨ (q = 23 ∧ j = 5) ∨ (q = 23 ∧ j = 6) ∨ (q = 23 ∧ j = 7) ∨ (q = 23 ∧ j = 8) ∨ (q = 39 ∧ j = 7)) ∨ I' q j = I q j) ∧ (∀ q j : Nat, ((q = 23 ∧ j = 9)) ∨ J' q j = J q j) ∧ gc_LT I' ∧ gc_TK I' ∧ (∃ z : Int, r = some (.inl z) ∧ 0 ≤ z ∧ z ≤ 1 ∧ (I' 23 1 = I 23 1) ∧ (I 23 5 ≤ I' 23 5)))) htb rfl (Nat.le_of_ble_eq_true rfl) ?_
  have t1 := gc_TK_mo KTK_I
  have f2 := (show 0 ≤ I 23 1 ∧ I 23 1 ≤ 1000 from gc_in hI R_23 rfl rfl)
  have f3 := (show 0 ≤ I 23 5 ∧ I 23 5 ≤ 1000 from gc_in hI R_23 rfl rfl)
  have f4 := (show 0 ≤ I 23 6 ∧ I 23 6 ≤ 1001 from gc_in hI R_23 rfl rfl)
  have f5 := (show 0 ≤ I 23 7 ∧ I 23 7 ≤ 125 from gc_in hI R_23 rfl rfl)
  refine gv_run 2 true hD (pc' := 2) (lv' := [(0, .inr (.inr (some 39)))]) (st' := [.inl 0, .inr (.inr (some 39))]) (h' := gc_h sh I J A) (C := ((True ∧ True) ∧ True)) rfl ⟨⟨trivial, trivial⟩, trivial⟩ ?_
  refine gv_put hD rfl rfl S_39 ⟨by decide, B_39⟩ rfl trivial ?_
  refine gc_st (k := 7) hI S_39 rfl R_39 (lo := 0) (hi := 10000) rfl rfl (by omega) (by omega) (fun I6 hI6 q7 p7 => ?_)
  have FI6 := gc_frs (W := fun q j => (q = 39 ∧ j = 3) ∨ (q = 39 ∧ j = 4) ∨ (q = 23 ∧ j = 5) ∨ (q = 23 ∧ j = 6) ∨ (q = 23 ∧ j = 7) ∨ (q = 23 ∧ j = 8) ∨ (q = 39 ∧ j = 7)) FI (Or.inr (Or.inr (Or.inr (Or.inr (Or.inr (Or.inr ⟨rfl, rfl⟩)))))) p7
  have t8 := p7 23 1 (fun h => absurd h.2 (by decide))
  have t9 := p7 23 5 (fun h => absurd h.2 (by decide))
  have t10 := p7 23 6 (fun h => absurd h.2 (by decide))
  have t11 := p7 23 7 (fun h => absurd h.1 (by decide))
  have KLT_I6 := gc_LT_fr KLT_I (p7 23 5 (fun h => absurd h.2 (by decide))) (p7 23 6 (fun h => absurd h.2 (by decide))) (p7 23 7 (fun h => absurd h.1 (by decide))) (fun k => p7 24 k (fun h => absurd h.1 (by decide)))
  have KTK_I6 := gc_TK_fr KTK_I (p7 23 1 (fun h => absurd h.2 (by decide))) (p7 23 5 (fun h => absurd h.2 (by decide))) (p7 23 6 (fun h => absurd h.2 (by decide))) (p7 23 7 (fun h => absurd h.1 (by decide)))
  show gv_X _ _ (5, [(0, .inr (.inr (some 39)))], [], sh, gc_h sh I6 J A)
  refine gv_run 2 true hD (pc' := 9) (lv' := [(0, .inr (.inr (some 39)))]) (st' := [.inr (.inl (1668248436)), .inr (.inr (some 39))]) (h' := gc_h sh I6 J A) (C := ((True ∧ True) ∧ True)) rfl ⟨⟨trivial, trivial⟩, trivial⟩ ?_
  obtain ⟨r12, h12, E12, P12⟩ := d_X6_isWord (ws0 := ws0) (tb := tb) hws htb sh ro I6 J A hI6  (1668248436) hb     
  obtain ⟨rfl, ⟨z12, rfl, q12⟩⟩ := P12
  refine gv_callV hD rfl (As := [.inr (.inl (1668248436))]) (st := []) rfl B_39 S_39 rfl (gc_lV6 hws rfl) (Nat.le_of_ble_eq_true rfl) (gz_Ev_mono (d := 1) (by decide) E12) ?_
  show gv_X _ _ (12, [(0, .inr (.inr (some 39)))], [.inl z12], sh, gc_h sh I6 J A)
  refine gv_if_ne (t := 17) hD rfl rfl ⟨by omega, by omega⟩ (fun c13 => ?_) (fun c13 => ?_)
  · show gv_X _ _ (17, [(0, .inr (.inr (some 39)))], [], sh, gc_h sh I6 J A)
    refine gv_run 1 true hD (pc' := 18) (lv' := [(0, .inr (.inr (some 39)))]) (st' := [.inr (.inr (some 39))]) (h' := gc_h sh I6 J A) (C := (True ∧ True)) rfl ⟨trivial, trivial⟩ ?_
    refine gv_get hD rfl rfl S_39 ⟨by decide, B_39⟩ (gc_hA S_39 rfl A_39_1) ?_
    show gv_X _ _ (21, [(0, .inr (.inr (some 39)))], [.inr (.inr (some 23))], sh, gc_h sh I6 J A)
    have t15 := gc_TK_nx KTK_I6 (by omega)
    obtain ⟨r14, h14, E14, P14⟩ := d_X9_advance (ws0 := ws0) (tb := tb) hws htb sh ro I6 J A hI6 23  (gc_b23 hb)    (by omega) 
    obtain ⟨I16, J17, rfl, hI16, g14, k14, ⟨rfl, V14_0, V14_1, V14_2, V14_3, V14_4, q14⟩⟩ := P14
    have FI16 := gc_frc (W := fun q j => (q = 39 ∧ j = 3) ∨ (q = 39 ∧ j = 4) ∨ (q = 23 ∧ j = 5) ∨ (q = 23 ∧ j = 6) ∨ (q = 23 ∧ j = 7) ∨ (q = 23 ∧ j = 8) ∨ (q = 39 ∧ j = 7)) (V := fun q j => (q = 23 ∧ j = 5) ∨ (q = 23 ∧ j = 6) ∨ (q = 23 ∧ j = 7) ∨ (q = 23 ∧ j = 8)) FI6 (fun q j h => (h.elim (fun h => (Or.inr (Or.inr (Or.inl h)))) (fun h => (h.elim (fun h => (Or.inr (Or.inr (Or.inr (Or.inl h))))) (fun h => (h.elim (fun h => (Or.inr (Or.inr (Or.inr (Or.inr (Or.inl h)))))) (fun h => (Or.inr (Or.inr (Or.inr (Or.inr (Or.inr (Or.inl h))))))))))))) g14
    have FJ17 := gc_frc (W := fun q j => (q = 23 ∧ j = 9)) (V := fun q j => (q = 23 ∧ j = 9)) FJ (fun q j h => h) k14
    have t18 := (g14 23 1).resolve_left (fun h => h.elim (fun h => absurd h.2 (by decide)) (fun h => h.elim (fun h => absurd h.2 (by decide)) (fun h => h.elim (fun h => absurd h.2 (by decide)) (fun h => absurd h.2 (by decide)))))
    have f19 := (show 0 ≤ I16 23 5 ∧ I16 23 5 ≤ 1000 from gc_in hI16 R_23 rfl rfl)
    have f20 := (show 0 ≤ I16 23 6 ∧ I16 23 6 ≤ 1001 from gc_in hI16 R_23 rfl rfl)
    have f21 := (show 0 ≤ I16 23 7 ∧ I16 23 7 ≤ 125 from gc_in hI16 R_23 rfl rfl)
    have KLT_I16 : gc_LT I16 := q14.2.2
    have KTK_I16 : gc_TK I16 := And.intro V14_0 (And.intro V14_1 (And.intro V14_2 (And.intro V14_3 V14_4)))
    have t22 := gc_TK_mo KTK_I16
    clear V14_0 V14_1 V14_2 V14_3 V14_4
    refine gv_callV hD rfl (As := []) (st := []) rfl B_23 S_23 rfl (gc_lV6 hws rfl) (Nat.le_of_ble_eq_true rfl) (gz_Ev_mono (d := 2) (by decide) E14) ?_
    show gv_X _ _ (24, [(0, .inr (.inr (some 39)))], [], sh, gc_h sh I16 J17 A)
    refine gv_run 2 true hD (pc' := 26) (lv' := [(0, .inr (.inr (some 39)))]) (st' := [.inl 2, .inr (.inr (some 39))]) (h' := gc_h sh I16 J17 A) (C := ((True ∧ True) ∧ True)) rfl ⟨⟨trivial, trivial⟩, trivial⟩ ?_
    obtain ⟨r23, h23, E23, P23⟩ := d_X6_need (ws0 := ws0) (tb := tb) hws htb sh ro I16 J17 A hI16  2 hb   ⟨by omega, by omega⟩  
    obtain ⟨I24, J25, rfl, hI24, g23, k23, ⟨z23, rfl, q23⟩⟩ := P23
    have FI24 := gc_frc (W := fun q j => (q = 39 ∧ j = 3) ∨ (q = 39 ∧ j = 4) ∨ (q = 23 ∧ j = 5) ∨ (q = 23 ∧ j = 6) ∨ (q = 23 ∧ j = 7) ∨ (q = 23 ∧ j = 8) ∨ (q = 39 ∧ j = 7)) (V := fun q j => (q = 39 ∧ j = 3) ∨ (q = 39 ∧ j = 4)) FI16 (fun q j h => (h.elim (fun h => (Or.inl h)) (fun h => (Or.inr (Or.inl h))))) g23
    have t26 := (g23 23 1).resolve_left (fun h => h.elim (fun h => absurd h.2 (by decide)) (fun h => absurd h.2 (by decide)))
    have t27 := (g23 23 5).resolve_left (fun h => h.elim (fun h => absurd h.2 (by decide)) (fun h => absurd h.2 (by decide)))
    have t28 := (g23 23 6).resolve_left (fun h => h.elim (fun h => absurd h.2 (by decide)) (fun h => absurd h.2 (by decide)))
    have t29 := (g23 23 7).resolve_left (fun h => h.elim (fun h => absurd h.2 (by decide)) (fun h => absurd h.2 (by decide)))
    obtain rfl : J17 = J25 := funext fun q => funext fun j => ((k23 q j).resolve_left id).symm
    have KLT_I24 := gc_LT_fr KLT_I16 ((g23 23 5).resolve_left (fun h => h.elim (fun h => absurd h.2 (by decide)) (fun h => absurd h.2 (by decide)))) ((g23 23 6).resolve_left (fun h => h.elim (fun h => absurd h.2 (by decide)) (fun h => absurd h.2 (by decide)))) ((g23 23 7).resolve_left (fun h => h.elim (fun h => absurd h.2 (by decide)) (fun h => absurd h.2 (by decide)))) (fun k => (g23 24 k).resolve_left (fun h => h.elim (fun h => absurd h.1 (by decide)) (fun h => absurd h.1 (by decide))))
    have KTK_I24 := gc_TK_fr KTK_I16 ((g23 23 1).resolve_left (fun h => h.elim (fun h => absurd h.2 (by decide)) (fun h => absurd h.2 (by decide)))) ((g23 23 5).resolve_left (fun h => h.elim (fun h => absurd h.2 (by decide)) (fun h => absurd h.2 (by decide)))) ((g23 23 6).resolve_left (fun h => h.elim (fun h => absurd h.2 (by decide)) (fun h => absurd h.2 (by decide)))) ((g23 23 7).resolve_left (fun h => h.elim (fun h => absurd h.2 (by decide)) (fun h => absurd h.2 (by decide))))
    refine gv_callV hD rfl (As := [.inl 2]) (st := []) rfl B_39 S_39 rfl (gc_lV6 hws rfl) (Nat.le_of_ble_eq_true rfl) (gz_Ev_mono (d := 2) (by decide) E23) ?_
    show gv_X _ _ (29, [(0, .inr (.inr (some 39)))], [.inl z23], sh, gc_h sh I24 J17 A)
    refine gv_if_ne (t := 34) hD rfl rfl ⟨by omega, by omega⟩ (fun c30 => ?_) (fun c30 => ?_)
    · show gv_X _ _ (34, [(0, .inr (.inr (some 39)))], [], sh, gc_h sh I24 J17 A)
      refine gv_run 1 true hD (pc' := 35) (lv' := [(0, .inr (.inr (some 39)))]) (st' := [.inr (.inr (some 39))]) (h' := gc_h sh I24 J17 A) (C := (True ∧ True)) rfl ⟨trivial, trivial⟩ ?_
      refine gv_get hD rfl rfl S_39 ⟨by decide, B_39⟩ (gc_hA S_39 rfl A_39_1) ?_
      show gv_X _ _ (38, [(0, .inr (.inr (some 39)))], [.inr (.inr (some 23))], sh, gc_h sh I24 J17 A)
      have f31 := (show 0 ≤ I24 23 8 ∧ I24 23 8 ≤ 999999 from gc_in hI24 R_23 rfl rfl)
      refine gv_get hD rfl rfl S_23 ⟨by decide, B_23⟩ (gc_hI S_23 rfl) ?_
      show gv_X _ _ (41, [(0, .inr (.inr (some 39)))], [.inl (I24 23 8)], sh, gc_h sh I24 J17 A)
      refine gv_run 1 true hD (pc' := 44) (lv' := [(0, .inr (.inr (some 39)))]) (st' := [.inl 10000, .inl (I24 23 8)]) (h' := gc_h sh I24 J17 A) (C := (True ∧ True)) rfl ⟨trivial, trivial⟩ ?_
      refine gv_icmp_le (t := 60) hD rfl rfl ⟨⟨by omega, by omega⟩, ⟨by omega, by omega⟩⟩ (fun c32 => ?_) (fun c32 => ?_)
      · show gv_X _ _ (60, [(0, .inr (.inr (some 39)))], [], sh, gc_h sh I24 J17 A)
        refine gv_run 2 true hD (pc' := 62) (lv' := [(0, .inr (.inr (some 39)))]) (st' := [.inr (.inr (some 39)), .inr (.inr (some 39))]) (h' := gc_h sh I24 J17 A) (C := ((True ∧ True) ∧ True)) rfl ⟨⟨trivial, trivial⟩, trivial⟩ ?_
        refine gv_get hD rfl rfl S_39 ⟨by decide, B_39⟩ (gc_hA S_39 rfl A_39_1) ?_
        show gv_X _ _ (65, [(0, .inr (.inr (some 39)))], [.inr (.inr (some 23)), .inr (.inr (some 39))], sh, gc_h sh I24 J17 A)
        have f33 := (show 0 ≤ I24 23 8 ∧ I24 23 8 ≤ 999999 from gc_in hI24 R_23 rfl rfl)
        refine gv_get hD rfl rfl S_23 ⟨by decide, B_23⟩ (gc_hI S_23 rfl) ?_
        show gv_X _ _ (68, [(0, .inr (.inr (some 39)))], [.inl (I24 23 8), .inr (.inr (some 39))], sh, gc_h sh I24 J17 A)
        refine gv_put hD rfl rfl S_39 ⟨by decide, B_39⟩ rfl trivial ?_
        refine gc_st (k := 7) hI24 S_39 rfl R_39 (lo := 0) (hi := 10000) rfl rfl (by omega) (by omega) (fun I34 hI34 q35 p35 => ?_)
        have FI34 := gc_frs (W := fun q j => (q = 39 ∧ j = 3) ∨ (q = 39 ∧ j = 4) ∨ (q = 23 ∧ j = 5) ∨ (q = 23 ∧ j = 6) ∨ (q = 23 ∧ j = 7) ∨ (q = 23 ∧ j = 8) ∨ (q = 39 ∧ j = 7)) FI24 (Or.inr (Or.inr (Or.inr (Or.inr (Or.inr (Or.inr ⟨rfl, rfl⟩)))))) p35
        have t36 := p35 23 1 (fun h => absurd h.2 (by decide))
        have t37 := p35 23 5 (fun h => absurd h.2 (by decide))
        have t38 := p35 23 6 (fun h => absurd h.2 (by decide))
        have t39 := p35 23 7 (fun h => absurd h.1 (by decide))
        have KLT_I34 := gc_LT_fr KLT_I24 (p35 23 5 (fun h => absurd h.2 (by decide))) (p35 23 6 (fun h => absurd h.2 (by decide))) (p35 23 7 (fun h => absurd h.1 (by decide))) (fun k => p35 24 k (fun h => absurd h.1 (by decide)))
        have KTK_I34 := gc_TK_fr KTK_I24 (p35 23 1 (fun h => absurd h.2 (by decide))) (p35 23 5 (fun h => absurd h.2 (by decide))) (p35 23 6 (fun h => absurd h.2 (by decide))) (p35 23 7 (fun h => absurd h.1 (by decide)))
        show gv_X _ _ (71, [(0, .inr (.inr (some 39)))], [], sh, gc_h sh I34 J17 A)
        refine gv_run 1 true hD (pc' := 72) (lv' := [(0, .inr (.inr (some 39)))]) (st' := [.inr (.inr (some 39))]) (h' := gc_h sh I34 J17 A) (C := (True ∧ True)) rfl ⟨trivial, trivial⟩ ?_
        refine gv_get hD rfl rfl S_39 ⟨by decide, B_39⟩ (gc_hA S_39 rfl A_39_1) ?_
        show gv_X _ _ (75, [(0, .inr (.inr (some 39)))], [.inr (.inr (some 23))], sh, gc_h sh I34 J17 A)
        have t41 := gc_TK_nx KTK_I34 (by omega)
        obtain ⟨r40, h40, E40, P40⟩ := d_X9_advance (ws0 := ws0) (tb := tb) hws htb sh ro I34 J17 A hI34 23  (gc_b23 hb)    (by omega) 
        obtain ⟨I42, J43, rfl, hI42, g40, k40, ⟨rfl, V40_0, V40_1, V40_2, V40_3, V40_4, q40⟩⟩ := P40
        have FI42 := gc_frc (W := fun q j => (q = 39 ∧ j = 3) ∨ (q = 39 ∧ j = 4) ∨ (q = 23 ∧ j = 5) ∨ (q = 23 ∧ j = 6) ∨ (q = 23 ∧ j = 7) ∨ (q = 23 ∧ j = 8) ∨ (q = 39 ∧ j = 7)) (V := fun q j => (q = 23 ∧ j = 5) ∨ (q = 23 ∧ j = 6) ∨ (q = 23 ∧ j = 7) ∨ (q = 23 ∧ j = 8)) FI34 (fun q j h => (h.elim (fun h => (Or.inr (Or.inr (Or.inl h)))) (fun h => (h.elim (fun h => (Or.inr (Or.inr (Or.inr (Or.inl h))))) (fun h => (h.elim (fun h => (Or.inr (Or.inr (Or.inr (Or.inr (Or.inl h)))))) (fun h => (Or.inr (Or.inr (Or.inr (Or.inr (Or.inr (Or.inl h))))))))))))) g40
        have FJ43 := gc_frc (W := fun q j => (q = 23 ∧ j = 9)) (V := fun q j => (q = 23 ∧ j = 9)) FJ17 (fun q j h => h) k40
        have t44 := (g40 23 1).resolve_left (fun h => h.elim (fun h => absurd h.2 (by decide)) (fun h => h.elim (fun h => absurd h.2 (by decide)) (fun h => h.elim (fun h => absurd h.2 (by decide)) (fun h => absurd h.2 (by decide)))))
        have f45 := (show 0 ≤ I42 23 5 ∧ I42 23 5 ≤ 1000 from gc_in hI42 R_23 rfl rfl)
        have f46 := (show 0 ≤ I42 23 6 ∧ I42 23 6 ≤ 1001 from gc_in hI42 R_23 rfl rfl)
        have f47 := (show 0 ≤ I42 23 7 ∧ I42 23 7 ≤ 125 from gc_in hI42 R_23 rfl rfl)
        have KLT_I42 : gc_LT I42 := q40.2.2
        have KTK_I42 : gc_TK I42 := And.intro V40_0 (And.intro V40_1 (And.intro V40_2 (And.intro V40_3 V40_4)))
        have t48 := gc_TK_mo KTK_I42
        clear V40_0 V40_1 V40_2 V40_3 V40_4
        refine gv_callV hD rfl (As := []) (st := []) rfl B_23 S_23 rfl (gc_lV6 hws rfl) (Nat.le_of_ble_eq_true rfl) (gz_Ev_mono (d := 2) (by decide) E40) ?_
        show gv_X _ _ (78, [(0, .inr (.inr (some 39)))], [], sh, gc_h sh I42 J43 A)
        refine gv_run 1 true hD (pc' := 79) (lv' := [(0, .inr (.inr (some 39)))]) (st' := [.inl 1]) (h' := gc_h sh I42 J43 A) (C := (True ∧ True)) rfl ⟨trivial, trivial⟩ ?_
        exact gv_zret hD rfl (by omega) ⟨I42, J43, rfl, hI42, FI42, FJ43, KLT_I42, KTK_I42, ⟨_, rfl, by omega⟩⟩
      · show gv_X _ _ (47, [(0, .inr (.inr (some 39)))], [], sh, gc_h sh I24 J17 A)
        refine gv_run 3 true hD (pc' := 50) (lv' := [(0, .inr (.inr (some 39)))]) (st' := [.inr (.inr (some 39)), .inl 5, .inr (.inr (some 39))]) (h' := gc_h sh I24 J17 A) (C := (((True ∧ True) ∧ True) ∧ True)) rfl ⟨⟨⟨trivial, trivial⟩, trivial⟩, trivial⟩ ?_
        refine gv_get hD rfl rfl S_39 ⟨by decide, B_39⟩ (gc_hA S_39 rfl A_39_1) ?_
        show gv_X _ _ (53, [(0, .inr (.inr (some 39)))], [.inr (.inr (some 23)), .inl 5, .inr (.inr (some 39))], sh, gc_h sh I24 J17 A)
        have f49 := (show 0 ≤ I24 23 5 ∧ I24 23 5 ≤ 1000 from gc_in hI24 R_23 rfl rfl)
        refine gv_get hD rfl rfl S_23 ⟨by decide, B_23⟩ (gc_hI S_23 rfl) ?_
        show gv_X _ _ (56, [(0, .inr (.inr (some 39)))], [.inl (I24 23 5), .inl 5, .inr (.inr (some 39))], sh, gc_h sh I24 J17 A)
        obtain ⟨r50, h50, E50, P50⟩ := d_X6_wrong (ws0 := ws0) (tb := tb) hws htb sh ro I24 J17 A hI24  5 (I24 23 5) hb   ⟨by omega, by omega⟩ ⟨by omega, by omega⟩  
        obtain ⟨I51, J52, rfl, hI51, g50, k50, ⟨z50, rfl, q50⟩⟩ := P50
        have FI51 := gc_frc (W := fun q j => (q = 39 ∧ j = 3) ∨ (q = 39 ∧ j = 4) ∨ (q = 23 ∧ j = 5) ∨ (q = 23 ∧ j = 6) ∨ (q = 23 ∧ j = 7) ∨ (q = 23 ∧ j = 8) ∨ (q = 39 ∧ j = 7)) (V := fun q j => (q = 39 ∧ j = 3) ∨ (q = 39 ∧ j = 4)) FI24 (fun q j h => (h.elim (fun h => (Or.inl h)) (fun h => (Or.inr (Or.inl h))))) g50
        have t53 := (g50 23 1).resolve_left (fun h => h.elim (fun h => absurd h.2 (by decide)) (fun h => absurd h.2 (by decide)))
        have t54 := (g50 23 5).resolve_left (fun h => h.elim (fun h => absurd h.2 (by decide)) (fun h => absurd h.2 (by decide)))
        have t55 := (g50 23 6).resolve_left (fun h => h.elim (fun h => absurd h.2 (by decide)) (fun h => absurd h.2 (by decide)))
        have t56 := (g50 23 7).resolve_left (fun h => h.elim (fun h => absurd h.2 (by decide)) (fun h => absurd h.2 (by decide)))
        obtain rfl : J17 = J52 := funext fun q => funext fun j => ((k50 q j).resolve_left id).symm
        have KLT_I51 := gc_LT_fr KLT_I24 ((g50 23 5).resolve_left (fun h => h.elim (fun h => absurd h.2 (by decide)) (fun h => absurd h.2 (by decide)))) ((g50 23 6).resolve_left (fun h => h.elim (fun h => absurd h.2 (by decide)) (fun h => absurd h.2 (by decide)))) ((g50 23 7).resolve_left (fun h => h.elim (fun h => absurd h.2 (by decide)) (fun h => absurd h.2 (by decide)))) (fun k => (g50 24 k).resolve_left (fun h => h.elim (fun h => absurd h.1 (by decide)) (fun h => absurd h.1 (by decide))))
        have KTK_I51 := gc_TK_fr KTK_I24 ((g50 23 1).resolve_left (fun h => h.elim (fun h => absurd h.2 (by decide)) (fun h => absurd h.2 (by decide)))) ((g50 23 5).resolve_left (fun h => h.elim (fun h => absurd h.2 (by decide)) (fun h => absurd h.2 (by decide)))) ((g50 23 6).resolve_left (fun h => h.elim (fun h => absurd h.2 (by decide)) (fun h => absurd h.2 (by decide)))) ((g50 23 7).resolve_left (fun h => h.elim (fun h => absurd h.2 (by decide)) (fun h => absurd h.2 (by decide))))
        refine gv_callV hD rfl (As := [.inl 5, .inl (I24 23 5)]) (st := []) rfl B_39 S_39 rfl (gc_lV6 hws rfl) (Nat.le_of_ble_eq_true rfl) (gz_Ev_mono (d := 1) (by decide) E50) ?_
        show gv_X _ _ (59, [(0, .inr (.inr (some 39)))], [.inl z50], sh, gc_h sh I51 J17 A)
        exact gv_zret hD rfl (by omega) ⟨I51, J17, rfl, hI51, FI51, FJ17, KLT_I51, KTK_I51, ⟨_, rfl, by omega⟩⟩
    · show gv_X _ _ (32, [(0, .inr (.inr (some 39)))], [], sh, gc_h sh I24 J17 A)
      refine gv_run 1 true hD (pc' := 33) (lv' := [(0, .inr (.inr (some 39)))]) (st' := [.inl 0]) (h' := gc_h sh I24 J17 A) (C := (True ∧ True)) rfl ⟨trivial, trivial⟩ ?_
      exact gv_zret hD rfl (by omega) ⟨I24, J17, rfl, hI24, FI24, FJ17, KLT_I24, KTK_I24, ⟨_, rfl, by omega⟩⟩
  · show gv_X _ _ (15, [(0, .inr (.inr (some 39)))], [], sh, gc_h sh I6 J A)
    refine gv_run 1 true hD (pc' := 16) (lv' := [(0, .inr (.inr (some 39)))]) (st' := [.inl 1]) (h' := gc_h sh I6 J A) (C := (True ∧ True)) rfl ⟨trivial, trivial⟩ ?_
    exact gv_zret hD rfl (by omega) ⟨I6, J, rfl, hI6, FI6, FJ, KLT_I6, KTK_I6, ⟨_, rfl, by omega⟩⟩
