def gc_LT (I : gr_I) : Prop := I 23 7 = 3 → ∀ k : Int, I 23 5 < k → k < I 23 6 - 1 → 97 ≤ I 24 (Int.toNat k) ∧ I 24 (Int.toNat k) ≤ 122
theorem gc_LT_fr {I I' : gr_I} (h : gc_LT I) (h1 : I' 23 5 = I 23 5) (h2 : I' 23 6 = I 23 6) (h3 : I' 23 7 = I 23 7) (h4 : ∀ k, I' 24 k = I 24 k) : gc_LT I' := fun h9 k a b => by
  rw [h4]
  exact h (by omega) k (by omega) (by omega)
set_option maxHeartbeats 4000000 in
set_option maxRecDepth 100000 in
theorem d_X6_wrong {ws0 : List Cond} {tb : String → gz_T} (hws : gc_Ws ws0) (htb : gc_tbs tb) (sh : gz_Sh) (ro : Nat → Nat) (I : gr_I) (J : gr_J) (A : gc_A) (hI : gc_Inv ro I) (a1 : Int) (a2 : Int) (hb : gc_Base sh ro A) (ha1 : 0 ≤ a1 ∧ a1 ≤ 6) (ha2 : 0 ≤ a2 ∧ a2 ≤ 1000)  : ∃ r h', gz_Ev ws0 tb 1 (yX6_wrong, cX6_wrong, 3, (some .boolean)) [.inr (.inr (some 39)), .inl a1, .inl a2] sh (gc_h sh I J A) r sh h' 0 0 ∧ (∃ (I' : gr_I) (J' : gr_J), h' = gc_h sh I' J' A ∧ gc_Inv ro I' ∧ (∀ q j : Nat, ((q = 39 ∧ j = 3) ∨ (q = 39 ∧ j = 4)) ∨ I' q j = I q j) ∧ (∀ q j : Nat, (False) ∨ J' q j = J q j) ∧ (∃ z : Int, r = some (.inl z) ∧ 0 ≤ z ∧ z ≤ 1 ∧ (z = 0))) := by
  have FI : ∀ q j : Nat, ((q = 39 ∧ j = 3) ∨ (q = 39 ∧ j = 4)) ∨ I q j = I q j := fun _ _ => Or.inr rfl
  have FJ : ∀ q j : Nat, (False) ∨ J q j = J q j := fun _ _ => Or.inr rfl
  have B_39 : 39 < 1000000 := by decide
  have R_39 : ro 39 = 42 := gc_bR hb (by decide) rfl
  have S_39 : sh[39]? = some (false, 6, 19) := gc_bS hb rfl
  have hD : gv_D (gc_E6 ws0 tb 0 (yX6_wrong, cX6_wrong, 3, (some .boolean)) kX6_wrong) := gq_ok oX6_wrong
  refine gc_ev6 (d := 0) (l := kX6_wrong) (Po := fun r h' => (∃ (I' : gr_I) (J' : gr_J), h' = gc_h sh I' J' A ∧ gc_Inv ro I' ∧ (∀ q j : Nat, ((q = 39 ∧ j = 3) ∨ (q = 39 ∧ j = 4)) ∨ I' q j = I q j) ∧ (∀ q j : Nat, (False) ∨ J' q j = J q j) ∧ (∃ z : Int, r = some (.inl z) ∧ 0 ≤ z ∧ z ≤ 1 ∧ (z = 0)))) htb rfl (Nat.le_of_ble_eq_true rfl) ?_
  refine gv_run 2 true hD (pc' := 2) (lv' := [(0, .inr (.inr (some 39))), (1, .inl a1), (2, .inl a2)]) (st' := [.inl a1, .inr (.inr (some 39))]) (h' := gc_h sh I J A) (C := ((True ∧ True) ∧ True)) rfl ⟨⟨trivial, trivial⟩, trivial⟩ ?_
  refine gv_put hD rfl rfl S_39 ⟨by decide, B_39⟩ rfl trivial ?_
  refine gc_st (k := 3) hI S_39 rfl R_39 (lo := 0) (hi := 6) rfl rfl (by omega) (by omega) (fun I1 hI1 q2 p2 => ?_)
  have FI1 := gc_frs (W := fun q j => (q = 39 ∧ j = 3) ∨ (q = 39 ∧ j = 4)) FI (Or.inl ⟨rfl, rfl⟩) p2
  show gv_X _ _ (5, [(0, .inr (.inr (some 39))), (1, .inl a1), (2, .inl a2)], [], sh, gc_h sh I1 J A)
  refine gv_run 2 true hD (pc' := 7) (lv' := [(0, .inr (.inr (some 39))), (1, .inl a1), (2, .inl a2)]) (st' := [.inl a2, .inr (.inr (some 39))]) (h' := gc_h sh I1 J A) (C := ((True ∧ True) ∧ True)) rfl ⟨⟨trivial, trivial⟩, trivial⟩ ?_
  refine gv_put hD rfl rfl S_39 ⟨by decide, B_39⟩ rfl trivial ?_
  refine gc_st (k := 4) hI1 S_39 rfl R_39 (lo := 0) (hi := 1000) rfl rfl (by omega) (by omega) (fun I3 hI3 q4 p4 => ?_)
  have FI3 := gc_frs (W := fun q j => (q = 39 ∧ j = 3) ∨ (q = 39 ∧ j = 4)) FI1 (Or.inr ⟨rfl, rfl⟩) p4
  show gv_X _ _ (10, [(0, .inr (.inr (some 39))), (1, .inl a1), (2, .inl a2)], [], sh, gc_h sh I3 J A)
  refine gv_run 1 true hD (pc' := 11) (lv' := [(0, .inr (.inr (some 39))), (1, .inl a1), (2, .inl a2)]) (st' := [.inl 0]) (h' := gc_h sh I3 J A) (C := (True ∧ True)) rfl ⟨trivial, trivial⟩ ?_
  exact gv_zret hD rfl (by omega) ⟨I3, J, rfl, hI3, FI3, FJ, ⟨_, rfl, by omega⟩⟩
set_option maxHeartbeats 4000000 in
set_option maxRecDepth 100000 in
theorem d_X6_take {ws0 : List Cond} {tb : String → gz_T} (hws : gc_Ws ws0) (htb : gc_tbs tb) (sh : gz_Sh) (ro : Nat → Nat) (I : gr_I) (J : gr_J) (A : gc_A) (hI : gc_Inv ro I) (a1 : Int) (hb : gc_Base sh ro A) (ha1 : 0 ≤ a1 ∧ a1 ≤ 125) (x0 : I 23 5 ≤ I 23 6) (x1 : I 23 7 = 5 ∨ I 23 6 ≤ I 23 1) (x2 : I 23 5 ≤ I 23 1) (x3 : I 23 7 = 4 ∨ (I 23 5 < I 23 6 ∧ I 23 5 < I 23 1)) (x4 : I 23 7 = 3 → 2 ≤ I 23 6 - I 23 5 ∧ I 23 6 - I 23 5 ≤ 14) (x5 : ¬ a1 = 5) (KLT_I : gc_LT I) : ∃ r h', gz_Ev ws0 tb 3 (yX6_take, cX6_take, 2, (some .boolean)) [.inr (.inr (some 39)), .inl a1] sh (gc_h sh I J A) r sh h' 0 0 ∧ (∃ (I' : gr_I) (J' : gr_J), h' = gc_h sh I' J' A ∧ gc_Inv ro I' ∧ (∀ q j : Nat, ((q = 39 ∧ j = 3) ∨ (q = 39 ∧ j = 4) ∨ (q = 23 ∧ j = 5) ∨ (q = 23 ∧ j = 6) ∨ (q = 23 ∧ j = 7) ∨ (q = 23 ∧ j = 8)) ∨ I' q j = I q j) ∧ (∀ q j : Nat, ((q = 23 ∧ j = 9)) ∨ J' q j = J q j) ∧ gc_LT I' ∧ (∃ z : Int, r = some (.inl z) ∧ 0 ≤ z ∧ z ≤ 1 ∧ (I' 23 5 ≤ I' 23 6) ∧ (I' 23 7 = 5 ∨ I' 23 6 ≤ I' 23 1) ∧ (I' 23 5 ≤ I' 23 1) ∧ (I' 23 7 = 4 ∨ (I' 23 5 < I' 23 6 ∧ I' 23 5 < I' 23 1)) ∧ (I' 23 7 = 3 → 2 ≤ I' 23 6 - I' 23 5 ∧ I' 23 6 - I' 23 5 ≤ 14) ∧ (I' 23 1 = I 23 1) ∧ (I 23 5 ≤ I' 23 5) ∧ (z = 0 ∨ (I 23 7 = a1 ∧ I 23 6 ≤ I' 23 5)))) := by
  have FI : ∀ q j : Nat, ((q = 39 ∧ j = 3) ∨ (q = 39 ∧ j = 4) ∨ (q = 23 ∧ j = 5) ∨ (q = 23 ∧ j = 6) ∨ (q = 23 ∧ j = 7) ∨ (q = 23 ∧ j = 8)) ∨ I q j = I q j := fun _ _ => Or.inr rfl
  have FJ : ∀ q j : Nat, ((q = 23 ∧ j = 9)) ∨ J q j = J q j := fun _ _ => Or.inr rfl
  have A_39_1 : A 39 1 = some 23 := gc_bA hb rfl
  have B_23 : 23 < 1000000 := by decide
  have B_39 : 39 < 1000000 := by decide
  have R_23 : ro 23 = 3 := gc_bR hb (by decide) rfl
  have S_23 : sh[23]? = some (false, 9, 10) := gc_bS hb rfl
  have S_39 : sh[39]? = some (false, 6, 19) := gc_bS hb rfl
  have hD : gv_D (gc_E6 ws0 tb 2 (yX6_take, cX6_take, 2, (some .boolean)) kX6_take) := gq_ok oX6_take
  refine gc_ev6 (d := 2) (l := kX6_take) (Po := fun r h' => (∃ (I' : gr_I) (J' : gr_J), h' = gc_h sh I' J' A ∧ gc_Inv ro I' ∧ (∀ q j : Nat, ((q = 39 ∧ j = 3) ∨ (q = 39 ∧ j = 4) ∨ (q = 23 ∧ j = 5) ∨ (q = 23 ∧ j = 6) ∨ (q = 23 ∧ j = 7) ∨ (q = 23 ∧ j = 8)) ∨ I' q j = I q j) ∧ (∀ q j : Nat, ((q = 23 ∧ j = 9)) ∨ J' q j = J q j) ∧ gc_LT I' ∧ (∃ z : Int, r = some (.inl z) ∧ 0 ≤ z ∧ z ≤ 1 ∧ (I' 23 5 ≤ I' 23 6) ∧ (I' 23 7 = 5 ∨ I' 23 6 ≤ I' 23 1) ∧ (I' 23 5 ≤ I' 23 1) ∧ (I' 23 7 = 4 ∨ (I' 23 5 < I' 23 6 ∧ I' 23 5 < I' 23 1)) ∧ (I' 23 7 = 3 → 2 ≤ I' 23 6 - I' 23 5 ∧ I' 23 6 - I' 23 5 ≤ 14) ∧ (I' 23 1 = I 23 1) ∧ (I 23 5 ≤ I' 23 5) ∧ (z = 0 ∨ (I 23 7 = a1 ∧ I 23 6 ≤ I' 23 5))))) htb rfl (Nat.le_of_ble_eq_true rfl) ?_
  have f1 := (show 0 ≤ I 23 1 ∧ I 23 1 ≤ 1000 from gc_in hI R_23 rfl rfl)
  have f2 := (show 0 ≤ I 23 5 ∧ I 23 5 ≤ 1000 from gc_in hI R_23 rfl rfl)
  have f3 := (show 0 ≤ I 23 6 ∧ I 23 6 ≤ 1001 from gc_in hI R_23 rfl rfl)
  have f4 := (show 0 ≤ I 23 7 ∧ I 23 7 ≤ 125 from gc_in hI R_23 rfl rfl)
  refine gv_run 1 true hD (pc' := 1) (lv' := [(0, .inr (.inr (some 39))), (1, .inl a1)]) (st' := [.inr (.inr (some 39))]) (h' := gc_h sh I J A) (C := (True ∧ True)) rfl ⟨trivial, trivial⟩ ?_
  refine gv_get hD rfl rfl S_39 ⟨by decide, B_39⟩ (gc_hA S_39 rfl A_39_1) ?_
  show gv_X _ _ (4, [(0, .inr (.inr (some 39))), (1, .inl a1)], [.inr (.inr (some 23))], sh, gc_h sh I J A)
  have f5 := (show 0 ≤ I 23 7 ∧ I 23 7 ≤ 125 from gc_in hI R_23 rfl rfl)
  refine gv_get hD rfl rfl S_23 ⟨by decide, B_23⟩ (gc_hI S_23 rfl) ?_
  show gv_X _ _ (7, [(0, .inr (.inr (some 39))), (1, .inl a1)], [.inl (I 23 7)], sh, gc_h sh I J A)
  refine gv_run 1 true hD (pc' := 8) (lv' := [(0, .inr (.inr (some 39))), (1, .inl a1)]) (st' := [.inl a1, .inl (I 23 7)]) (h' := gc_h sh I J A) (C := (True ∧ True)) rfl ⟨trivial, trivial⟩ ?_
  refine gv_icmp_eq (t := 24) hD rfl rfl ⟨⟨by omega, by omega⟩, ⟨by omega, by omega⟩⟩ (fun c6 => ?_) (fun c6 => ?_)
  · show gv_X _ _ (24, [(0, .inr (.inr (some 39))), (1, .inl a1)], [], sh, gc_h sh I J A)
    refine gv_run 1 true hD (pc' := 25) (lv' := [(0, .inr (.inr (some 39))), (1, .inl a1)]) (st' := [.inr (.inr (some 39))]) (h' := gc_h sh I J A) (C := (True ∧ True)) rfl ⟨trivial, trivial⟩ ?_
    refine gv_get hD rfl rfl S_39 ⟨by decide, B_39⟩ (gc_hA S_39 rfl A_39_1) ?_
    show gv_X _ _ (28, [(0, .inr (.inr (some 39))), (1, .inl a1)], [.inr (.inr (some 23))], sh, gc_h sh I J A)
    obtain ⟨r7, h7, E7, P7⟩ := d_X9_advance (ws0 := ws0) (tb := tb) hws htb sh ro I J A hI 23  (gc_b23 hb)    (by omega) 
    obtain ⟨I8, J9, rfl, hI8, g7, k7, ⟨rfl, q7⟩⟩ := P7
    have FI8 := gc_frc (W := fun q j => (q = 39 ∧ j = 3) ∨ (q = 39 ∧ j = 4) ∨ (q = 23 ∧ j = 5) ∨ (q = 23 ∧ j = 6) ∨ (q = 23 ∧ j = 7) ∨ (q = 23 ∧ j = 8)) (V := fun q j => (q = 23 ∧ j = 5) ∨ (q = 23 ∧ j = 6) ∨ (q = 23 ∧ j = 7) ∨ (q = 23 ∧ j = 8)) FI (fun q j h => (h.elim (fun h => (Or.inr (Or.inr (Or.inl h)))) (fun h => (h.elim (fun h => (Or.inr (Or.inr (Or.inr (Or.inl h))))) (fun h => (h.elim (fun h => (Or.inr (Or.inr (Or.inr (Or.inr (Or.inl h)))))) (fun h => (Or.inr (Or.inr (Or.inr (Or.inr (Or.inr h)))))))))))) g7
    have FJ9 := gc_frc (W := fun q j => (q = 23 ∧ j = 9)) (V := fun q j => (q = 23 ∧ j = 9)) FJ (fun q j h => h) k7
    have t10 := (g7 23 1).resolve_left (by omega)
    have f11 := (show 0 ≤ I8 23 1 ∧ I8 23 1 ≤ 1000 from gc_in hI8 R_23 rfl rfl)
    have f12 := (show 0 ≤ I8 23 5 ∧ I8 23 5 ≤ 1000 from gc_in hI8 R_23 rfl rfl)
    have f13 := (show 0 ≤ I8 23 6 ∧ I8 23 6 ≤ 1001 from gc_in hI8 R_23 rfl rfl)
    have f14 := (show 0 ≤ I8 23 7 ∧ I8 23 7 ≤ 125 from gc_in hI8 R_23 rfl rfl)
    have KLT_I8 : gc_LT I8 := q7.2.2.2.2.2.2.2
    refine gv_callV hD rfl (As := []) (st := []) rfl B_23 S_23 rfl (gc_lV6 hws rfl) (Nat.le_of_ble_eq_true rfl) (gz_Ev_mono (d := 2) (by decide) E7) ?_
    show gv_X _ _ (31, [(0, .inr (.inr (some 39))), (1, .inl a1)], [], sh, gc_h sh I8 J9 A)
    refine gv_run 1 true hD (pc' := 32) (lv' := [(0, .inr (.inr (some 39))), (1, .inl a1)]) (st' := [.inl 1]) (h' := gc_h sh I8 J9 A) (C := (True ∧ True)) rfl ⟨trivial, trivial⟩ ?_
    exact gv_zret hD rfl (by omega) ⟨I8, J9, rfl, hI8, FI8, FJ9, KLT_I8, ⟨_, rfl, by omega⟩⟩
  · show gv_X _ _ (11, [(0, .inr (.inr (some 39))), (1, .inl a1)], [], sh, gc_h sh I J A)
    refine gv_run 3 true hD (pc' := 14) (lv' := [(0, .inr (.inr (some 39))), (1, .inl a1)]) (st' := [.inr (.inr (some 39)), .inl 1, .inr (.inr (some 39))]) (h' := gc_h sh I J A) (C := (((True ∧ True) ∧ True) ∧ True)) rfl ⟨⟨⟨trivial, trivial⟩, trivial⟩, trivial⟩ ?_
    refine gv_get hD rfl rfl S_39 ⟨by decide, B_39⟩ (gc_hA S_39 rfl A_39_1) ?_
    show gv_X _ _ (17, [(0, .inr (.inr (some 39))), (1, .inl a1)], [.inr (.inr (some 23)), .inl 1, .inr (.inr (some 39))], sh, gc_h sh I J A)
    have f15 := (show 0 ≤ I 23 5 ∧ I 23 5 ≤ 1000 from gc_in hI R_23 rfl rfl)
    refine gv_get hD rfl rfl S_23 ⟨by decide, B_23⟩ (gc_hI S_23 rfl) ?_
    show gv_X _ _ (20, [(0, .inr (.inr (some 39))), (1, .inl a1)], [.inl (I 23 5), .inl 1, .inr (.inr (some 39))], sh, gc_h sh I J A)
    obtain ⟨r16, h16, E16, P16⟩ := d_X6_wrong (ws0 := ws0) (tb := tb) hws htb sh ro I J A hI  1 (I 23 5) hb   ⟨by omega, by omega⟩ ⟨by omega, by omega⟩  
    obtain ⟨I17, J18, rfl, hI17, g16, k16, ⟨z16, rfl, q16⟩⟩ := P16
    have FI17 := gc_frc (W := fun q j => (q = 39 ∧ j = 3) ∨ (q = 39 ∧ j = 4) ∨ (q = 23 ∧ j = 5) ∨ (q = 23 ∧ j = 6) ∨ (q = 23 ∧ j = 7) ∨ (q = 23 ∧ j = 8)) (V := fun q j => (q = 39 ∧ j = 3) ∨ (q = 39 ∧ j = 4)) FI (fun q j h => (h.elim (fun h => (Or.inl h)) (fun h => (Or.inr (Or.inl h))))) g16
    have t19 := (g16 23 1).resolve_left (by omega)
    have t20 := (g16 23 5).resolve_left (by omega)
    have t21 := (g16 23 6).resolve_left (by omega)
    have t22 := (g16 23 7).resolve_left (by omega)
    have f23 := (show 0 ≤ I17 23 1 ∧ I17 23 1 ≤ 1000 from gc_in hI17 R_23 rfl rfl)
    have f24 := (show 0 ≤ I17 23 5 ∧ I17 23 5 ≤ 1000 from gc_in hI17 R_23 rfl rfl)
    have f25 := (show 0 ≤ I17 23 6 ∧ I17 23 6 ≤ 1001 from gc_in hI17 R_23 rfl rfl)
    have f26 := (show 0 ≤ I17 23 7 ∧ I17 23 7 ≤ 125 from gc_in hI17 R_23 rfl rfl)
    obtain rfl : J = J18 := funext fun q => funext fun j => ((k16 q j).resolve_left id).symm
    have KLT_I17 := gc_LT_fr KLT_I ((g16 23 5).resolve_left (by omega)) ((g16 23 6).resolve_left (by omega)) ((g16 23 7).resolve_left (by omega)) (fun k => (g16 24 k).resolve_left (by omega))
    refine gv_callV hD rfl (As := [.inl 1, .inl (I 23 5)]) (st := []) rfl B_39 S_39 rfl (gc_lV6 hws rfl) (Nat.le_of_ble_eq_true rfl) (gz_Ev_mono (d := 1) (by decide) E16) ?_
    show gv_X _ _ (23, [(0, .inr (.inr (some 39))), (1, .inl a1)], [.inl z16], sh, gc_h sh I17 J A)
    exact gv_zret hD rfl (by omega) ⟨I17, J, rfl, hI17, FI17, FJ, KLT_I17, ⟨_, rfl, by omega⟩⟩
set_option maxHeartbeats 4000000 in
set_option maxRecDepth 100000 in
theorem d_X6_need {ws0 : List Cond} {tb : String → gz_T} (hws : gc_Ws ws0) (htb : gc_tbs tb) (sh : gz_Sh) (ro : Nat → Nat) (I : gr_I) (J : gr_J) (A : gc_A) (hI : gc_Inv ro I) (a1 : Int) (hb : gc_Base sh ro A) (ha1 : 0 ≤ a1 ∧ a1 ≤ 125)  : ∃ r h', gz_Ev ws0 tb 2 (yX6_need, cX6_need, 2, (some .boolean)) [.inr (.inr (some 39)), .inl a1] sh (gc_h sh I J A) r sh h' 0 0 ∧ (∃ (I' : gr_I) (J' : gr_J), h' = gc_h sh I' J' A ∧ gc_Inv ro I' ∧ (∀ q j : Nat, ((q = 39 ∧ j = 3) ∨ (q = 39 ∧ j = 4)) ∨ I' q j = I q j) ∧ (∀ q j : Nat, (False) ∨ J' q j = J q j) ∧ (∃ z : Int, r = some (.inl z) ∧ 0 ≤ z ∧ z ≤ 1 ∧ (z = 0 ∨ I 23 7 = a1))) := by
  have FI : ∀ q j : Nat, ((q = 39 ∧ j = 3) ∨ (q = 39 ∧ j = 4)) ∨ I q j = I q j := fun _ _ => Or.inr rfl
  have FJ : ∀ q j : Nat, (False) ∨ J q j = J q j := fun _ _ => Or.inr rfl
  have A_39_1 : A 39 1 = some 23 := gc_bA hb rfl
  have B_23 : 23 < 1000000 := by decide
  have B_39 : 39 < 1000000 := by decide
  have R_23 : ro 23 = 3 := gc_bR hb (by decide) rfl
  have S_23 : sh[23]? = some (false, 9, 10) := gc_bS hb rfl
  have S_39 : sh[39]? = some (false, 6, 19) := gc_bS hb rfl
  have hD : gv_D (gc_E6 ws0 tb 1 (yX6_need, cX6_need, 2, (some .boolean)) kX6_need) := gq_ok oX6_need
  refine gc_ev6 (d := 1) (l := kX6_need) (Po := fun r h' => (∃ (I' : gr_I) (J' : gr_J), h' = gc_h sh I' J' A ∧ gc_Inv ro I' ∧ (∀ q j : Nat, ((q = 39 ∧ j = 3) ∨ (q = 39 ∧ j = 4)) ∨ I' q j = I q j) ∧ (∀ q j : Nat, (False) ∨ J' q j = J q j) ∧ (∃ z : Int, r = some (.inl z) ∧ 0 ≤ z ∧ z ≤ 1 ∧ (z = 0 ∨ I 23 7 = a1)))) htb rfl (Nat.le_of_ble_eq_true rfl) ?_
  have f1 := (show 0 ≤ I 23 7 ∧ I 23 7 ≤ 125 from gc_in hI R_23 rfl rfl)
  have f2 := (show 0 ≤ I 23 5 ∧ I 23 5 ≤ 1000 from gc_in hI R_23 rfl rfl)
  have L31 : ∀ (I3 : gr_I) (J4 : gr_J) (s0_5 : Int), gc_Inv ro I3 → (∀ q j : Nat, ((q = 39 ∧ j = 3) ∨ (q = 39 ∧ j = 4)) ∨ I3 q j = I q j) → (∀ q j : Nat, (False) ∨ J4 q j = J q j) → ((0 ≤ s0_5 ∧ s0_5 ≤ 1) ∧ (s0_5 = 0 ∨ I 23 7 = a1)) → gv_X (gc_E6 ws0 tb 1 (yX6_need, cX6_need, 2, (some .boolean)) kX6_need) (gv_Q cX6_need (some .boolean) sh (fun r h' => (∃ (I' : gr_I) (J' : gr_J), h' = gc_h sh I' J' A ∧ gc_Inv ro I' ∧ (∀ q j : Nat, ((q = 39 ∧ j = 3) ∨ (q = 39 ∧ j = 4)) ∨ I' q j = I q j) ∧ (∀ q j : Nat, (False) ∨ J' q j = J q j) ∧ (∃ z : Int, r = some (.inl z) ∧ 0 ≤ z ∧ z ≤ 1 ∧ (z = 0 ∨ I 23 7 = a1))))) (31, [], [.inl s0_5], sh, gc_h sh I3 J4 A) := by
    intro I3 J4 s0_5 hI3 FI3 FJ4 m_5
    obtain ⟨hs0_5, e0_5⟩ := m_5
    have f6 := (show 0 ≤ I3 23 7 ∧ I3 23 7 ≤ 125 from gc_in hI3 R_23 rfl rfl)
    have f7 := (show 0 ≤ I3 23 5 ∧ I3 23 5 ≤ 1000 from gc_in hI3 R_23 rfl rfl)
    exact gv_zret hD rfl (by omega) ⟨I3, J4, rfl, hI3, FI3, FJ4, ⟨_, rfl, by omega⟩⟩
  have L26 : ∀ (I8 : gr_I) (J9 : gr_J) , gc_Inv ro I8 → (∀ q j : Nat, ((q = 39 ∧ j = 3) ∨ (q = 39 ∧ j = 4)) ∨ I8 q j = I q j) → (∀ q j : Nat, (False) ∨ J9 q j = J q j) → ((I 23 7 = a1)) → gv_X (gc_E6 ws0 tb 1 (yX6_need, cX6_need, 2, (some .boolean)) kX6_need) (gv_Q cX6_need (some .boolean) sh (fun r h' => (∃ (I' : gr_I) (J' : gr_J), h' = gc_h sh I' J' A ∧ gc_Inv ro I' ∧ (∀ q j : Nat, ((q = 39 ∧ j = 3) ∨ (q = 39 ∧ j = 4)) ∨ I' q j = I q j) ∧ (∀ q j : Nat, (False) ∨ J' q j = J q j) ∧ (∃ z : Int, r = some (.inl z) ∧ 0 ≤ z ∧ z ≤ 1 ∧ (z = 0 ∨ I 23 7 = a1))))) (26, [], [], sh, gc_h sh I8 J9 A) := by
    intro I8 J9 hI8 FI8 FJ9 m_10
    have e0_10 := m_10
    have f11 := (show 0 ≤ I8 23 7 ∧ I8 23 7 ≤ 125 from gc_in hI8 R_23 rfl rfl)
    have f12 := (show 0 ≤ I8 23 5 ∧ I8 23 5 ≤ 1000 from gc_in hI8 R_23 rfl rfl)
    refine gv_run 2 true hD (pc' := 31) (lv' := []) (st' := [.inl 1]) (h' := gc_h sh I8 J9 A) (C := ((True ∧ True) ∧ True)) rfl ⟨⟨trivial, trivial⟩, trivial⟩ ?_
    exact L31 I8 J9 1 hI8 FI8 FJ9 (by omega)
  refine gv_run 1 true hD (pc' := 1) (lv' := [(0, .inr (.inr (some 39))), (1, .inl a1)]) (st' := [.inr (.inr (some 39))]) (h' := gc_h sh I J A) (C := (True ∧ True)) rfl ⟨trivial, trivial⟩ ?_
  refine gv_get hD rfl rfl S_39 ⟨by decide, B_39⟩ (gc_hA S_39 rfl A_39_1) ?_
  show gv_X _ _ (4, [(0, .inr (.inr (some 39))), (1, .inl a1)], [.inr (.inr (some 23))], sh, gc_h sh I J A)
  have f13 := (show 0 ≤ I 23 7 ∧ I 23 7 ≤ 125 from gc_in hI R_23 rfl rfl)
  refine gv_get hD rfl rfl S_23 ⟨by decide, B_23⟩ (gc_hI S_23 rfl) ?_
  show gv_X _ _ (7, [(0, .inr (.inr (some 39))), (1, .inl a1)], [.inl (I 23 7)], sh, gc_h sh I J A)
  refine gv_run 1 true hD (pc' := 8) (lv' := [(0, .inr (.inr (some 39))), (1, .inl a1)]) (st' := [.inl a1, .inl (I 23 7)]) (h' := gc_h sh I J A) (C := (True ∧ True)) rfl ⟨trivial, trivial⟩ ?_
  refine gv_icmp_eq (t := 26) hD rfl rfl ⟨⟨by omega, by omega⟩, ⟨by omega, by omega⟩⟩ (fun c14 => ?_) (fun c14 => ?_)
  · show gv_X _ _ (26, [(0, .inr (.inr (some 39))), (1, .inl a1)], [], sh, gc_h sh I J A)
    refine gv_pick [] rfl ?_
    exact L26 I J hI FI FJ (by omega)
  · show gv_X _ _ (11, [(0, .inr (.inr (some 39))), (1, .inl a1)], [], sh, gc_h sh I J A)
    refine gv_run 3 true hD (pc' := 14) (lv' := [(0, .inr (.inr (some 39))), (1, .inl a1)]) (st' := [.inr (.inr (some 39)), .inl 1, .inr (.inr (some 39))]) (h' := gc_h sh I J A) (C := (((True ∧ True) ∧ True) ∧ True)) rfl ⟨⟨⟨trivial, trivial⟩, trivial⟩, trivial⟩ ?_
    refine gv_get hD rfl rfl S_39 ⟨by decide, B_39⟩ (gc_hA S_39 rfl A_39_1) ?_
    show gv_X _ _ (17, [(0, .inr (.inr (some 39))), (1, .inl a1)], [.inr (.inr (some 23)), .inl 1, .inr (.inr (some 39))], sh, gc_h sh I J A)
    have f15 := (show 0 ≤ I 23 5 ∧ I 23 5 ≤ 1000 from gc_in hI R_23 rfl rfl)
    refine gv_get hD rfl rfl S_23 ⟨by decide, B_23⟩ (gc_hI S_23 rfl) ?_
    show gv_X _ _ (20, [(0, .inr (.inr (some 39))), (1, .inl a1)], [.inl (I 23 5), .inl 1, .inr (.inr (some 39))], sh, gc_h sh I J A)
    obtain ⟨r16, h16, E16, P16⟩ := d_X6_wrong (ws0 := ws0) (tb := tb) hws htb sh ro I J A hI  1 (I 23 5) hb   ⟨by omega, by omega⟩ ⟨by omega, by omega⟩  
    obtain ⟨I17, J18, rfl, hI17, g16, k16, ⟨z16, rfl, q16⟩⟩ := P16
    have FI17 := gc_frc (W := fun q j => (q = 39 ∧ j = 3) ∨ (q = 39 ∧ j = 4)) (V := fun q j => (q = 39 ∧ j = 3) ∨ (q = 39 ∧ j = 4)) FI (fun q j h => (h.elim (fun h => (Or.inl h)) (fun h => (Or.inr h)))) g16
    have t19 := (g16 23 7).resolve_left (by omega)
    have t20 := (g16 23 5).resolve_left (by omega)
    have f21 := (show 0 ≤ I17 23 7 ∧ I17 23 7 ≤ 125 from gc_in hI17 R_23 rfl rfl)
    have f22 := (show 0 ≤ I17 23 5 ∧ I17 23 5 ≤ 1000 from gc_in hI17 R_23 rfl rfl)
    obtain rfl : J = J18 := funext fun q => funext fun j => ((k16 q j).resolve_left id).symm
    refine gv_callV hD rfl (As := [.inl 1, .inl (I 23 5)]) (st := []) rfl B_39 S_39 rfl (gc_lV6 hws rfl) (Nat.le_of_ble_eq_true rfl) (gz_Ev_mono (d := 1) (by decide) E16) ?_
    show gv_X _ _ (23, [(0, .inr (.inr (some 39))), (1, .inl a1)], [.inl z16], sh, gc_h sh I17 J A)
    refine gv_if_eq (t := 30) hD rfl rfl ⟨by omega, by omega⟩ (fun c23 => ?_) (fun c23 => ?_)
    · show gv_X _ _ (30, [(0, .inr (.inr (some 39))), (1, .inl a1)], [], sh, gc_h sh I17 J A)
      refine gv_run 1 true hD (pc' := 31) (lv' := [(0, .inr (.inr (some 39))), (1, .inl a1)]) (st' := [.inl 0]) (h' := gc_h sh I17 J A) (C := (True ∧ True)) rfl ⟨trivial, trivial⟩ ?_
      refine gv_pick [] rfl ?_
      exact L31 I17 J 0 hI17 FI17 FJ (by omega)
    · show gv_X _ _ (26, [(0, .inr (.inr (some 39))), (1, .inl a1)], [], sh, gc_h sh I17 J A)
      refine gv_pick [] rfl ?_
      exact L26 I17 J hI17 FI17 FJ (by omega)
set_option maxHeartbeats 4000000 in
set_option maxRecDepth 100000 in
theorem d_X6_isWord {ws0 : List Cond} {tb : String → gz_T} (hws : gc_Ws ws0) (htb : gc_tbs tb) (sh : gz_Sh) (ro : Nat → Nat) (I : gr_I) (J : gr_J) (A : gc_A) (hI : gc_Inv ro I) (a1 : Int64) (hb : gc_Base sh ro A)   : ∃ r h', gz_Ev ws0 tb 1 (yX6_isWord, cX6_isWord, 3, (some .boolean)) [.inr (.inr (some 39)), .inr (.inl a1)] sh (gc_h sh I J A) r sh h' 0 0 ∧ (h' = gc_h sh I J A ∧ (∃ z : Int, r = some (.inl z) ∧ 0 ≤ z ∧ z ≤ 1 ∧ (z = 0 ∨ I 23 7 = 1))) := by
  have A_39_1 : A 39 1 = some 23 := gc_bA hb rfl
  have B_23 : 23 < 1000000 := by decide
  have B_39 : 39 < 1000000 := by decide
  have R_23 : ro 23 = 3 := gc_bR hb (by decide) rfl
  have S_23 : sh[23]? = some (false, 9, 10) := gc_bS hb rfl
  have S_39 : sh[39]? = some (false, 6, 19) := gc_bS hb rfl
  have hD : gv_D (gc_E6 ws0 tb 0 (yX6_isWord, cX6_isWord, 3, (some .boolean)) kX6_isWord) := gq_ok oX6_isWord
  refine gc_ev6 (d := 0) (l := kX6_isWord) (Po := fun r h' => (h' = gc_h sh I J A ∧ (∃ z : Int, r = some (.inl z) ∧ 0 ≤ z ∧ z ≤ 1 ∧ (z = 0 ∨ I 23 7 = 1)))) htb rfl (Nat.le_of_ble_eq_true rfl) ?_
  have f1 := (show 0 ≤ I 23 7 ∧ I 23 7 ≤ 125 from gc_in hI R_23 rfl rfl)
  have L28 : ∀ (s0_2 : Int), ((0 ≤ s0_2 ∧ s0_2 ≤ 1) ∧ (s0_2 = 0 ∨ I 23 7 = 1)) → gv_X (gc_E6 ws0 tb 0 (yX6_isWord, cX6_isWord, 3, (some .boolean)) kX6_isWord) (gv_Q cX6_isWord (some .boolean) sh (fun r h' => (h' = gc_h sh I J A ∧ (∃ z : Int, r = some (.inl z) ∧ 0 ≤ z ∧ z ≤ 1 ∧ (z = 0 ∨ I 23 7 = 1))))) (28, [], [.inl s0_2], sh, gc_h sh I J A) := by
    intro s0_2 m_2
    obtain ⟨hs0_2, e0_2⟩ := m_2
    have f3 := (show 0 ≤ I 23 7 ∧ I 23 7 ≤ 125 from gc_in hI R_23 rfl rfl)
    exact gv_zret hD rfl (by omega) ⟨rfl, ⟨_, rfl, by omega⟩⟩
  have L27 : gv_X (gc_E6 ws0 tb 0 (yX6_isWord, cX6_isWord, 3, (some .boolean)) kX6_isWord) (gv_Q cX6_isWord (some .boolean) sh (fun r h' => (h' = gc_h sh I J A ∧ (∃ z : Int, r = some (.inl z) ∧ 0 ≤ z ∧ z ≤ 1 ∧ (z = 0 ∨ I 23 7 = 1))))) (27, [], [], sh, gc_h sh I J A) := by
    have f5 := (show 0 ≤ I 23 7 ∧ I 23 7 ≤ 125 from gc_in hI R_23 rfl rfl)
    refine gv_run 1 true hD (pc' := 28) (lv' := []) (st' := [.inl 0]) (h' := gc_h sh I J A) (C := (True ∧ True)) rfl ⟨trivial, trivial⟩ ?_
    exact L28 0 (by omega)
  refine gv_run 1 true hD (pc' := 1) (lv' := [(0, .inr (.inr (some 39))), (1, .inr (.inl a1))]) (st' := [.inr (.inr (some 39))]) (h' := gc_h sh I J A) (C := (True ∧ True)) rfl ⟨trivial, trivial⟩ ?_
  refine gv_get hD rfl rfl S_39 ⟨by decide, B_39⟩ (gc_hA S_39 rfl A_39_1) ?_
  show gv_X _ _ (4, [(0, .inr (.inr (some 39))), (1, .inr (.inl a1))], [.inr (.inr (some 23))], sh, gc_h sh I J A)
  have f6 := (show 0 ≤ I 23 7 ∧ I 23 7 ≤ 125 from gc_in hI R_23 rfl rfl)
  refine gv_get hD rfl rfl S_23 ⟨by decide, B_23⟩ (gc_hI S_23 rfl) ?_
  show gv_X _ _ (7, [(0, .inr (.inr (some 39))), (1, .inr (.inl a1))], [.inl (I 23 7)], sh, gc_h sh I J A)
  refine gv_run 1 true hD (pc' := 8) (lv' := [(0, .inr (.inr (some 39))), (1, .inr (.inl a1))]) (st' := [.inl 1, .inl (I 23 7)]) (h' := gc_h sh I J A) (C := (True ∧ True)) rfl ⟨trivial, trivial⟩ ?_
  refine gv_icmp_ne (t := 27) hD rfl rfl ⟨⟨by omega, by omega⟩, ⟨by omega, by omega⟩⟩ (fun c7 => ?_) (fun c7 => ?_)
  · show gv_X _ _ (27, [(0, .inr (.inr (some 39))), (1, .inr (.inl a1))], [], sh, gc_h sh I J A)
    refine gv_pick [] rfl ?_
    exact L27 
  · show gv_X _ _ (11, [(0, .inr (.inr (some 39))), (1, .inr (.inl a1))], [], sh, gc_h sh I J A)
    refine gv_run 1 true hD (pc' := 12) (lv' := [(0, .inr (.inr (some 39))), (1, .inr (.inl a1))]) (st' := [.inr (.inr (some 39))]) (h' := gc_h sh I J A) (C := (True ∧ True)) rfl ⟨trivial, trivial⟩ ?_
    refine gv_get hD rfl rfl S_39 ⟨by decide, B_39⟩ (gc_hA S_39 rfl A_39_1) ?_
    show gv_X _ _ (15, [(0, .inr (.inr (some 39))), (1, .inr (.inl a1))], [.inr (.inr (some 23))], sh, gc_h sh I J A)
    refine gv_get hD rfl rfl S_23 ⟨by decide, B_23⟩ (gc_hJ S_23 rfl) ?_
    show gv_X _ _ (18, [(0, .inr (.inr (some 39))), (1, .inr (.inl a1))], [.inr (.inl (J 23 9))], sh, gc_h sh I J A)
    have f8 := gw_cmp ((J 23 9)) (a1)
    refine gv_run 2 true hD (pc' := 20) (lv' := [(0, .inr (.inr (some 39))), (1, .inr (.inl a1))]) (st' := [.inl ((lg_cmp ((J 23 9)) (a1)).toInt)]) (h' := gc_h sh I J A) (C := ((True ∧ True) ∧ True)) rfl ⟨⟨trivial, trivial⟩, trivial⟩ ?_
    refine gv_if_ne (t := 27) hD rfl rfl ⟨by omega, by omega⟩ (fun c9 => ?_) (fun c9 => ?_)
    · show gv_X _ _ (27, [(0, .inr (.inr (some 39))), (1, .inr (.inl a1))], [], sh, gc_h sh I J A)
      refine gv_pick [] rfl ?_
      exact L27 
    · show gv_X _ _ (23, [(0, .inr (.inr (some 39))), (1, .inr (.inl a1))], [], sh, gc_h sh I J A)
      refine gv_run 2 true hD (pc' := 28) (lv' := [(0, .inr (.inr (some 39))), (1, .inr (.inl a1))]) (st' := [.inl 1]) (h' := gc_h sh I J A) (C := ((True ∧ True) ∧ True)) rfl ⟨⟨trivial, trivial⟩, trivial⟩ ?_
      refine gv_pick [] rfl ?_
      exact L28 1 (by omega)
set_option maxHeartbeats 4000000 in
set_option maxRecDepth 100000 in
theorem d_X6_needNew {ws0 : List Cond} {tb : String → gz_T} (hws : gc_Ws ws0) (htb : gc_tbs tb) (sh : gz_Sh) (ro : Nat → Nat) (I : gr_I) (J : gr_J) (A : gc_A) (hI : gc_Inv ro I) (n ρ : Nat) (a1 : Nat) (hb : gc_Base sh ro A) (h_a1 : gc_isNames sh ro A a1 n ρ)   : ∃ r h', gz_Ev ws0 tb 3 (yX6_needNew, cX6_needNew, 2, (some .boolean)) [.inr (.inr (some 39)), .inr (.inr (some a1))] sh (gc_h sh I J A) r sh h' 0 0 ∧ (∃ (I' : gr_I) (J' : gr_J), h' = gc_h sh I' J' A ∧ gc_Inv ro I' ∧ (∀ q j : Nat, ((q = 39 ∧ j = 3) ∨ (q = 39 ∧ j = 4)) ∨ I' q j = I q j) ∧ (∀ q j : Nat, (False) ∨ J' q j = J q j) ∧ (∃ z : Int, r = some (.inl z) ∧ 0 ≤ z ∧ z ≤ 1 ∧ (z = 0 ∨ I 23 7 = 1))) := by
  have FI : ∀ q j : Nat, ((q = 39 ∧ j = 3) ∨ (q = 39 ∧ j = 4)) ∨ I q j = I q j := fun _ _ => Or.inr rfl
  have FJ : ∀ q j : Nat, (False) ∨ J q j = J q j := fun _ _ => Or.inr rfl
  have A_39_1 : A 39 1 = some 23 := gc_bA hb rfl
  have B_23 : 23 < 1000000 := by decide
  have B_39 : 39 < 1000000 := by decide
  have R_23 : ro 23 = 3 := gc_bR hb (by decide) rfl
  have S_23 : sh[23]? = some (false, 9, 10) := gc_bS hb rfl
  have S_39 : sh[39]? = some (false, 6, 19) := gc_bS hb rfl
  obtain ⟨S_a1, R_a1, B_a1, A_a1_0, S_a1_1, R_a1_1, B_a1_1, Q_lo, Q_hi, Q_n⟩ := id h_a1
  have hD : gv_D (gc_E6 ws0 tb 2 (yX6_needNew, cX6_needNew, 2, (some .boolean)) kX6_needNew) := gq_ok oX6_needNew
  refine gc_ev6 (d := 2) (l := kX6_needNew) (Po := fun r h' => (∃ (I' : gr_I) (J' : gr_J), h' = gc_h sh I' J' A ∧ gc_Inv ro I' ∧ (∀ q j : Nat, ((q = 39 ∧ j = 3) ∨ (q = 39 ∧ j = 4)) ∨ I' q j = I q j) ∧ (∀ q j : Nat, (False) ∨ J' q j = J q j) ∧ (∃ z : Int, r = some (.inl z) ∧ 0 ≤ z ∧ z ≤ 1 ∧ (z = 0 ∨ I 23 7 = 1)))) htb rfl (Nat.le_of_ble_eq_true rfl) ?_
  have f1 := (show 0 ≤ I 23 7 ∧ I 23 7 ≤ 125 from gc_in hI R_23 rfl rfl)
  have f2 := (show 0 ≤ I 23 5 ∧ I 23 5 ≤ 1000 from gc_in hI R_23 rfl rfl)
  have L42 : ∀ (I3 : gr_I) (J4 : gr_J) (s0_5 : Int), gc_Inv ro I3 → (∀ q j : Nat, ((q = 39 ∧ j = 3) ∨ (q = 39 ∧ j = 4)) ∨ I3 q j = I q j) → (∀ q j : Nat, (False) ∨ J4 q j = J q j) → ((0 ≤ s0_5 ∧ s0_5 ≤ 1) ∧ (s0_5 = 0 ∨ I 23 7 = 1)) → gv_X (gc_E6 ws0 tb 2 (yX6_needNew, cX6_needNew, 2, (some .boolean)) kX6_needNew) (gv_Q cX6_needNew (some .boolean) sh (fun r h' => (∃ (I' : gr_I) (J' : gr_J), h' = gc_h sh I' J' A ∧ gc_Inv ro I' ∧ (∀ q j : Nat, ((q = 39 ∧ j = 3) ∨ (q = 39 ∧ j = 4)) ∨ I' q j = I q j) ∧ (∀ q j : Nat, (False) ∨ J' q j = J q j) ∧ (∃ z : Int, r = some (.inl z) ∧ 0 ≤ z ∧ z ≤ 1 ∧ (z = 0 ∨ I 23 7 = 1))))) (42, [], [.inl s0_5], sh, gc_h sh I3 J4 A) := by
    intro I3 J4 s0_5 hI3 FI3 FJ4 m_5
    obtain ⟨hs0_5, e0_5⟩ := m_5
    have f6 := (show 0 ≤ I3 23 7 ∧ I3 23 7 ≤ 125 from gc_in hI3 R_23 rfl rfl)
    have f7 := (show 0 ≤ I3 23 5 ∧ I3 23 5 ≤ 1000 from gc_in hI3 R_23 rfl rfl)
    exact gv_zret hD rfl (by omega) ⟨I3, J4, rfl, hI3, FI3, FJ4, ⟨_, rfl, by omega⟩⟩
  have L37 : ∀ (I8 : gr_I) (J9 : gr_J) , gc_Inv ro I8 → (∀ q j : Nat, ((q = 39 ∧ j = 3) ∨ (q = 39 ∧ j = 4)) ∨ I8 q j = I q j) → (∀ q j : Nat, (False) ∨ J9 q j = J q j) → ((I 23 7 = 1)) → gv_X (gc_E6 ws0 tb 2 (yX6_needNew, cX6_needNew, 2, (some .boolean)) kX6_needNew) (gv_Q cX6_needNew (some .boolean) sh (fun r h' => (∃ (I' : gr_I) (J' : gr_J), h' = gc_h sh I' J' A ∧ gc_Inv ro I' ∧ (∀ q j : Nat, ((q = 39 ∧ j = 3) ∨ (q = 39 ∧ j = 4)) ∨ I' q j = I q j) ∧ (∀ q j : Nat, (False) ∨ J' q j = J q j) ∧ (∃ z : Int, r = some (.inl z) ∧ 0 ≤ z ∧ z ≤ 1 ∧ (z = 0 ∨ I 23 7 = 1))))) (37, [], [], sh, gc_h sh I8 J9 A) := by
    intro I8 J9 hI8 FI8 FJ9 m_10
    have e0_10 := m_10
    have f11 := (show 0 ≤ I8 23 7 ∧ I8 23 7 ≤ 125 from gc_in hI8 R_23 rfl rfl)
    have f12 := (show 0 ≤ I8 23 5 ∧ I8 23 5 ≤ 1000 from gc_in hI8 R_23 rfl rfl)
    refine gv_run 2 true hD (pc' := 42) (lv' := []) (st' := [.inl 1]) (h' := gc_h sh I8 J9 A) (C := ((True ∧ True) ∧ True)) rfl ⟨⟨trivial, trivial⟩, trivial⟩ ?_
    exact L42 I8 J9 1 hI8 FI8 FJ9 (by omega)
  have L41 : ∀ (I13 : gr_I) (J14 : gr_J) , gc_Inv ro I13 → (∀ q j : Nat, ((q = 39 ∧ j = 3) ∨ (q = 39 ∧ j = 4)) ∨ I13 q j = I q j) → (∀ q j : Nat, (False) ∨ J14 q j = J q j) → gv_X (gc_E6 ws0 tb 2 (yX6_needNew, cX6_needNew, 2, (some .boolean)) kX6_needNew) (gv_Q cX6_needNew (some .boolean) sh (fun r h' => (∃ (I' : gr_I) (J' : gr_J), h' = gc_h sh I' J' A ∧ gc_Inv ro I' ∧ (∀ q j : Nat, ((q = 39 ∧ j = 3) ∨ (q = 39 ∧ j = 4)) ∨ I' q j = I q j) ∧ (∀ q j : Nat, (False) ∨ J' q j = J q j) ∧ (∃ z : Int, r = some (.inl z) ∧ 0 ≤ z ∧ z ≤ 1 ∧ (z = 0 ∨ I 23 7 = 1))))) (41, [], [], sh, gc_h sh I13 J14 A) := by
    intro I13 J14 hI13 FI13 FJ14
    have f16 := (show 0 ≤ I13 23 7 ∧ I13 23 7 ≤ 125 from gc_in hI13 R_23 rfl rfl)
    have f17 := (show 0 ≤ I13 23 5 ∧ I13 23 5 ≤ 1000 from gc_in hI13 R_23 rfl rfl)
    refine gv_run 1 true hD (pc' := 42) (lv' := []) (st' := [.inl 0]) (h' := gc_h sh I13 J14 A) (C := (True ∧ True)) rfl ⟨trivial, trivial⟩ ?_
    exact L42 I13 J14 0 hI13 FI13 FJ14 (by omega)
  refine gv_run 2 true hD (pc' := 2) (lv' := [(0, .inr (.inr (some 39))), (1, .inr (.inr (some a1)))]) (st' := [.inl 1, .inr (.inr (some 39))]) (h' := gc_h sh I J A) (C := ((True ∧ True) ∧ True)) rfl ⟨⟨trivial, trivial⟩, trivial⟩ ?_
  obtain ⟨r18, h18, E18, P18⟩ := d_X6_need (ws0 := ws0) (tb := tb) hws htb sh ro I J A hI  1 hb   ⟨by omega, by omega⟩  
  obtain ⟨I19, J20, rfl, hI19, g18, k18, ⟨z18, rfl, q18⟩⟩ := P18
  have FI19 := gc_frc (W := fun q j => (q = 39 ∧ j = 3) ∨ (q = 39 ∧ j = 4)) (V := fun q j => (q = 39 ∧ j = 3) ∨ (q = 39 ∧ j = 4)) FI (fun q j h => (h.elim (fun h => (Or.inl h)) (fun h => (Or.inr h)))) g18
  have t21 := (g18 23 7).resolve_left (by omega)
  have t22 := (g18 23 5).resolve_left (by omega)
  have f23 := (show 0 ≤ I19 23 7 ∧ I19 23 7 ≤ 125 from gc_in hI19 R_23 rfl rfl)
  have f24 := (show 0 ≤ I19 23 5 ∧ I19 23 5 ≤ 1000 from gc_in hI19 R_23 rfl rfl)
  obtain rfl : J = J20 := funext fun q => funext fun j => ((k18 q j).resolve_left id).symm
  refine gv_callV hD rfl (As := [.inl 1]) (st := []) rfl B_39 S_39 rfl (gc_lV6 hws rfl) (Nat.le_of_ble_eq_true rfl) (gz_Ev_mono (d := 2) (by decide) E18) ?_
  show gv_X _ _ (5, [(0, .inr (.inr (some 39))), (1, .inr (.inr (some a1)))], [.inl z18], sh, gc_h sh I19 J A)
  refine gv_if_eq (t := 41) hD rfl rfl ⟨by omega, by omega⟩ (fun c25 => ?_) (fun c25 => ?_)
  · show gv_X _ _ (41, [(0, .inr (.inr (some 39))), (1, .inr (.inr (some a1)))], [], sh, gc_h sh I19 J A)
    refine gv_pick [] rfl ?_
    exact L41 I19 J hI19 FI19 FJ
  · show gv_X _ _ (8, [(0, .inr (.inr (some 39))), (1, .inr (.inr (some a1)))], [], sh, gc_h sh I19 J A)
    refine gv_run 2 true hD (pc' := 10) (lv' := [(0, .inr (.inr (some 39))), (1, .inr (.inr (some a1)))]) (st' := [.inr (.inr (some 39)), .inr (.inr (some a1))]) (h' := gc_h sh I19 J A) (C := ((True ∧ True) ∧ True)) rfl ⟨⟨trivial, trivial⟩, trivial⟩ ?_
    refine gv_get hD rfl rfl S_39 ⟨by decide, B_39⟩ (gc_hA S_39 rfl A_39_1) ?_
    show gv_X _ _ (13, [(0, .inr (.inr (some 39))), (1, .inr (.inr (some a1)))], [.inr (.inr (some 23)), .inr (.inr (some a1))], sh, gc_h sh I19 J A)
    refine gv_get hD rfl rfl S_23 ⟨by decide, B_23⟩ (gc_hJ S_23 rfl) ?_
    show gv_X _ _ (16, [(0, .inr (.inr (some 39))), (1, .inr (.inr (some a1)))], [.inr (.inl (J 23 9)), .inr (.inr (some a1))], sh, gc_h sh I19 J A)
    obtain ⟨r26, h26, E26, P26⟩ := d_X4_find (ws0 := ws0) (tb := tb) hws htb sh ro I19 J A hI19 a1 n ρ (J 23 9) h_a1     
    obtain ⟨rfl, ⟨z26, rfl, q26⟩⟩ := P26
    refine gv_callV hD rfl (As := [.inr (.inl (J 23 9))]) (st := []) rfl B_a1 S_a1 rfl (gc_lV6 hws rfl) (Nat.le_of_ble_eq_true rfl) (gz_Ev_mono (d := 1) (by decide) E26) ?_
    show gv_X _ _ (19, [(0, .inr (.inr (some 39))), (1, .inr (.inr (some a1)))], [.inl z26], sh, gc_h sh I19 J A)
    refine gv_if_lt (t := 37) hD rfl rfl ⟨by omega, by omega⟩ (fun c27 => ?_) (fun c27 => ?_)
    · show gv_X _ _ (37, [(0, .inr (.inr (some 39))), (1, .inr (.inr (some a1)))], [], sh, gc_h sh I19 J A)
      refine gv_pick [] rfl ?_
      exact L37 I19 J hI19 FI19 FJ (by omega)
    · show gv_X _ _ (22, [(0, .inr (.inr (some 39))), (1, .inr (.inr (some a1)))], [], sh, gc_h sh I19 J A)
      refine gv_run 3 true hD (pc' := 25) (lv' := [(0, .inr (.inr (some 39))), (1, .inr (.inr (some a1)))]) (st' := [.inr (.inr (some 39)), .inl 4, .inr (.inr (some 39))]) (h' := gc_h sh I19 J A) (C := (((True ∧ True) ∧ True) ∧ True)) rfl ⟨⟨⟨trivial, trivial⟩, trivial⟩, trivial⟩ ?_
      refine gv_get hD rfl rfl S_39 ⟨by decide, B_39⟩ (gc_hA S_39 rfl A_39_1) ?_
      show gv_X _ _ (28, [(0, .inr (.inr (some 39))), (1, .inr (.inr (some a1)))], [.inr (.inr (some 23)), .inl 4, .inr (.inr (some 39))], sh, gc_h sh I19 J A)
      have f28 := (show 0 ≤ I19 23 5 ∧ I19 23 5 ≤ 1000 from gc_in hI19 R_23 rfl rfl)
      refine gv_get hD rfl rfl S_23 ⟨by decide, B_23⟩ (gc_hI S_23 rfl) ?_
      show gv_X _ _ (31, [(0, .inr (.inr (some 39))), (1, .inr (.inr (some a1)))], [.inl (I19 23 5), .inl 4, .inr (.inr (some 39))], sh, gc_h sh I19 J A)
      obtain ⟨r29, h29, E29, P29⟩ := d_X6_wrong (ws0 := ws0) (tb := tb) hws htb sh ro I19 J A hI19  4 (I19 23 5) hb   ⟨by omega, by omega⟩ ⟨by omega, by omega⟩  
      obtain ⟨I30, J31, rfl, hI30, g29, k29, ⟨z29, rfl, q29⟩⟩ := P29
      have FI30 := gc_frc (W := fun q j => (q = 39 ∧ j = 3) ∨ (q = 39 ∧ j = 4)) (V := fun q j => (q = 39 ∧ j = 3) ∨ (q = 39 ∧ j = 4)) FI19 (fun q j h => (h.elim (fun h => (Or.inl h)) (fun h => (Or.inr h)))) g29
      have t32 := (g29 23 7).resolve_left (by omega)
      have t33 := (g29 23 5).resolve_left (by omega)
      have f34 := (show 0 ≤ I30 23 7 ∧ I30 23 7 ≤ 125 from gc_in hI30 R_23 rfl rfl)
      have f35 := (show 0 ≤ I30 23 5 ∧ I30 23 5 ≤ 1000 from gc_in hI30 R_23 rfl rfl)
      obtain rfl : J = J31 := funext fun q => funext fun j => ((k29 q j).resolve_left id).symm
      refine gv_callV hD rfl (As := [.inl 4, .inl (I19 23 5)]) (st := []) rfl B_39 S_39 rfl (gc_lV6 hws rfl) (Nat.le_of_ble_eq_true rfl) (gz_Ev_mono (d := 1) (by decide) E29) ?_
      show gv_X _ _ (34, [(0, .inr (.inr (some 39))), (1, .inr (.inr (some a1)))], [.inl z29], sh, gc_h sh I30 J A)
      refine gv_if_eq (t := 41) hD rfl rfl ⟨by omega, by omega⟩ (fun c36 => ?_) (fun c36 => ?_)
      · show gv_X _ _ (41, [(0, .inr (.inr (some 39))), (1, .inr (.inr (some a1)))], [], sh, gc_h sh I30 J A)
        refine gv_pick [] rfl ?_
        exact L41 I30 J hI30 FI30 FJ
      · show gv_X _ _ (37, [(0, .inr (.inr (some 39))), (1, .inr (.inr (some a1)))], [], sh, gc_h sh I30 J A)
        refine gv_pick [] rfl ?_
        exact L37 I30 J hI30 FI30 FJ (by omega)
set_option maxHeartbeats 4000000 in
set_option maxRecDepth 100000 in
theorem d_X6_needKnown {ws0 : List Cond} {tb : String → gz_T} (hws : gc_Ws ws0) (htb : gc_tbs tb) (sh : gz_Sh) (ro : Nat → Nat) (I : gr_I) (J : gr_J) (A : gc_A) (hI : gc_Inv ro I) (n ρ : Nat) (a1 : Nat) (hb : gc_Base sh ro A) (h_a1 : gc_isNames sh ro A a1 n ρ)   : ∃ r h', gz_Ev ws0 tb 3 (yX6_needKnown, cX6_needKnown, 2, (some .boolean)) [.inr (.inr (some 39)), .inr (.inr (some a1))] sh (gc_h sh I J A) r sh h' 0 0 ∧ (∃ (I' : gr_I) (J' : gr_J), h' = gc_h sh I' J' A ∧ gc_Inv ro I' ∧ (∀ q j : Nat, ((q = 39 ∧ j = 3) ∨ (q = 39 ∧ j = 4)) ∨ I' q j = I q j) ∧ (∀ q j : Nat, (False) ∨ J' q j = J q j) ∧ (∃ z : Int, r = some (.inl z) ∧ 0 ≤ z ∧ z ≤ 1 ∧ (z = 0 ∨ (I 23 7 = 1 ∧ 0 ≤ gc_fd (J (a1 + 1)) (J 23 9) (Int.toNat (I' a1 1)))))) := by
  have FI : ∀ q j : Nat, ((q = 39 ∧ j = 3) ∨ (q = 39 ∧ j = 4)) ∨ I q j = I q j := fun _ _ => Or.inr rfl
  have FJ : ∀ q j : Nat, (False) ∨ J q j = J q j := fun _ _ => Or.inr rfl
  have A_39_1 : A 39 1 = some 23 := gc_bA hb rfl
  have B_23 : 23 < 1000000 := by decide
  have B_39 : 39 < 1000000 := by decide
  have R_23 : ro 23 = 3 := gc_bR hb (by decide) rfl
  have S_23 : sh[23]? = some (false, 9, 10) := gc_bS hb rfl
  have S_39 : sh[39]? = some (false, 6, 19) := gc_bS hb rfl
  obtain ⟨S_a1, R_a1, B_a1, A_a1_0, S_a1_1, R_a1_1, B_a1_1, Q_lo, Q_hi, Q_n⟩ := id h_a1
  have hD : gv_D (gc_E6 ws0 tb 2 (yX6_needKnown, cX6_needKnown, 2, (some .boolean)) kX6_needKnown) := gq_ok oX6_needKnown
  refine gc_ev6 (d := 2) (l := kX6_needKnown) (Po := fun r h' => (∃ (I' : gr_I) (J' : gr_J), h' = gc_h sh I' J' A ∧ gc_Inv ro I' ∧ (∀ q j : Nat, ((q = 39 ∧ j = 3) ∨ (q = 39 ∧ j = 4)) ∨ I' q j = I q j) ∧ (∀ q j : Nat, (False) ∨ J' q j = J q j) ∧ (∃ z : Int, r = some (.inl z) ∧ 0 ≤ z ∧ z ≤ 1 ∧ (z = 0 ∨ (I 23 7 = 1 ∧ 0 ≤ gc_fd (J (a1 + 1)) (J 23 9) (Int.toNat (I' a1 1))))))) htb rfl (Nat.le_of_ble_eq_true rfl) ?_
  have f1 := (show 0 ≤ I 23 7 ∧ I 23 7 ≤ 125 from gc_in hI R_23 rfl rfl)
  have f2 := (show 0 ≤ I 23 5 ∧ I 23 5 ≤ 1000 from gc_in hI R_23 rfl rfl)
  have f3 := (show 0 ≤ I a1 1 ∧ I a1 1 ≤ ((n : Nat) : Int) from gc_in hI R_a1 Q_lo Q_hi)
  have L42 : ∀ (I4 : gr_I) (J5 : gr_J) (s0_6 : Int), gc_Inv ro I4 → (∀ q j : Nat, ((q = 39 ∧ j = 3) ∨ (q = 39 ∧ j = 4)) ∨ I4 q j = I q j) → (∀ q j : Nat, (False) ∨ J5 q j = J q j) → ((0 ≤ s0_6 ∧ s0_6 ≤ 1) ∧ (s0_6 = 0 ∨ (I 23 7 = 1 ∧ 0 ≤ gc_fd (J (a1 + 1)) (J 23 9) (Int.toNat (I4 a1 1))))) → gv_X (gc_E6 ws0 tb 2 (yX6_needKnown, cX6_needKnown, 2, (some .boolean)) kX6_needKnown) (gv_Q cX6_needKnown (some .boolean) sh (fun r h' => (∃ (I' : gr_I) (J' : gr_J), h' = gc_h sh I' J' A ∧ gc_Inv ro I' ∧ (∀ q j : Nat, ((q = 39 ∧ j = 3) ∨ (q = 39 ∧ j = 4)) ∨ I' q j = I q j) ∧ (∀ q j : Nat, (False) ∨ J' q j = J q j) ∧ (∃ z : Int, r = some (.inl z) ∧ 0 ≤ z ∧ z ≤ 1 ∧ (z = 0 ∨ (I 23 7 = 1 ∧ 0 ≤ gc_fd (J (a1 + 1)) (J 23 9) (Int.toNat (I' a1 1)))))))) (42, [], [.inl s0_6], sh, gc_h sh I4 J5 A) := by
    intro I4 J5 s0_6 hI4 FI4 FJ5 m_6
    obtain ⟨hs0_6, e0_6⟩ := m_6
    have f7 := (show 0 ≤ I4 23 7 ∧ I4 23 7 ≤ 125 from gc_in hI4 R_23 rfl rfl)
    have f8 := (show 0 ≤ I4 23 5 ∧ I4 23 5 ≤ 1000 from gc_in hI4 R_23 rfl rfl)
    have f9 := (show 0 ≤ I4 a1 1 ∧ I4 a1 1 ≤ ((n : Nat) : Int) from gc_in hI4 R_a1 Q_lo Q_hi)
    exact gv_zret hD rfl (by omega) ⟨I4, J5, rfl, hI4, FI4, FJ5, ⟨_, rfl, by omega⟩⟩
  have L37 : ∀ (I10 : gr_I) (J11 : gr_J) , gc_Inv ro I10 → (∀ q j : Nat, ((q = 39 ∧ j = 3) ∨ (q = 39 ∧ j = 4)) ∨ I10 q j = I q j) → (∀ q j : Nat, (False) ∨ J11 q j = J q j) → ((I 23 7 = 1) ∧ (0 ≤ gc_fd (J (a1 + 1)) (J 23 9) (Int.toNat (I10 a1 1)))) → gv_X (gc_E6 ws0 tb 2 (yX6_needKnown, cX6_needKnown, 2, (some .boolean)) kX6_needKnown) (gv_Q cX6_needKnown (some .boolean) sh (fun r h' => (∃ (I' : gr_I) (J' : gr_J), h' = gc_h sh I' J' A ∧ gc_Inv ro I' ∧ (∀ q j : Nat, ((q = 39 ∧ j = 3) ∨ (q = 39 ∧ j = 4)) ∨ I' q j = I q j) ∧ (∀ q j : Nat, (False) ∨ J' q j = J q j) ∧ (∃ z : Int, r = some (.inl z) ∧ 0 ≤ z ∧ z ≤ 1 ∧ (z = 0 ∨ (I 23 7 = 1 ∧ 0 ≤ gc_fd (J (a1 + 1)) (J 23 9) (Int.toNat (I' a1 1)))))))) (37, [], [], sh, gc_h sh I10 J11 A) := by
    intro I10 J11 hI10 FI10 FJ11 m_12
    obtain ⟨e0_12, e1_12⟩ := m_12
    have f13 := (show 0 ≤ I10 23 7 ∧ I10 23 7 ≤ 125 from gc_in hI10 R_23 rfl rfl)
    have f14 := (show 0 ≤ I10 23 5 ∧ I10 23 5 ≤ 1000 from gc_in hI10 R_23 rfl rfl)
    have f15 := (show 0 ≤ I10 a1 1 ∧ I10 a1 1 ≤ ((n : Nat) : Int) from gc_in hI10 R_a1 Q_lo Q_hi)
    refine gv_run 2 true hD (pc' := 42) (lv' := []) (st' := [.inl 1]) (h' := gc_h sh I10 J11 A) (C := ((True ∧ True) ∧ True)) rfl ⟨⟨trivial, trivial⟩, trivial⟩ ?_
    exact L42 I10 J11 1 hI10 FI10 FJ11 (by omega)
  have L41 : ∀ (I16 : gr_I) (J17 : gr_J) , gc_Inv ro I16 → (∀ q j : Nat, ((q = 39 ∧ j = 3) ∨ (q = 39 ∧ j = 4)) ∨ I16 q j = I q j) → (∀ q j : Nat, (False) ∨ J17 q j = J q j) → gv_X (gc_E6 ws0 tb 2 (yX6_needKnown, cX6_needKnown, 2, (some .boolean)) kX6_needKnown) (gv_Q cX6_needKnown (some .boolean) sh (fun r h' => (∃ (I' : gr_I) (J' : gr_J), h' = gc_h sh I' J' A ∧ gc_Inv ro I' ∧ (∀ q j : Nat, ((q = 39 ∧ j = 3) ∨ (q = 39 ∧ j = 4)) ∨ I' q j = I q j) ∧ (∀ q j : Nat, (False) ∨ J' q j = J q j) ∧ (∃ z : Int, r = some (.inl z) ∧ 0 ≤ z ∧ z ≤ 1 ∧ (z = 0 ∨ (I 23 7 = 1 ∧ 0 ≤ gc_fd (J (a1 + 1)) (J 23 9) (Int.toNat (I' a1 1)))))))) (41, [], [], sh, gc_h sh I16 J17 A) := by
    intro I16 J17 hI16 FI16 FJ17
    have f19 := (show 0 ≤ I16 23 7 ∧ I16 23 7 ≤ 125 from gc_in hI16 R_23 rfl rfl)
    have f20 := (show 0 ≤ I16 23 5 ∧ I16 23 5 ≤ 1000 from gc_in hI16 R_23 rfl rfl)
    have f21 := (show 0 ≤ I16 a1 1 ∧ I16 a1 1 ≤ ((n : Nat) : Int) from gc_in hI16 R_a1 Q_lo Q_hi)
    refine gv_run 1 true hD (pc' := 42) (lv' := []) (st' := [.inl 0]) (h' := gc_h sh I16 J17 A) (C := (True ∧ True)) rfl ⟨trivial, trivial⟩ ?_
    exact L42 I16 J17 0 hI16 FI16 FJ17 (by omega)
  refine gv_run 2 true hD (pc' := 2) (lv' := [(0, .inr (.inr (some 39))), (1, .inr (.inr (some a1)))]) (st' := [.inl 1, .inr (.inr (some 39))]) (h' := gc_h sh I J A) (C := ((True ∧ True) ∧ True)) rfl ⟨⟨trivial, trivial⟩, trivial⟩ ?_
  obtain ⟨r22, h22, E22, P22⟩ := d_X6_need (ws0 := ws0) (tb := tb) hws htb sh ro I J A hI  1 hb   ⟨by omega, by omega⟩  
  obtain ⟨I23, J24, rfl, hI23, g22, k22, ⟨z22, rfl, q22⟩⟩ := P22
  have FI23 := gc_frc (W := fun q j => (q = 39 ∧ j = 3) ∨ (q = 39 ∧ j = 4)) (V := fun q j => (q = 39 ∧ j = 3) ∨ (q = 39 ∧ j = 4)) FI (fun q j h => (h.elim (fun h => (Or.inl h)) (fun h => (Or.inr h)))) g22
  have t25 := (g22 23 7).resolve_left (by omega)
  have t26 := (g22 23 5).resolve_left (by omega)
  have t27 := (g22 a1 1).resolve_left (by omega)
  have f28 := (show 0 ≤ I23 23 7 ∧ I23 23 7 ≤ 125 from gc_in hI23 R_23 rfl rfl)
  have f29 := (show 0 ≤ I23 23 5 ∧ I23 23 5 ≤ 1000 from gc_in hI23 R_23 rfl rfl)
  have f30 := (show 0 ≤ I23 a1 1 ∧ I23 a1 1 ≤ ((n : Nat) : Int) from gc_in hI23 R_a1 Q_lo Q_hi)
  obtain rfl : J = J24 := funext fun q => funext fun j => ((k22 q j).resolve_left id).symm
  refine gv_callV hD rfl (As := [.inl 1]) (st := []) rfl B_39 S_39 rfl (gc_lV6 hws rfl) (Nat.le_of_ble_eq_true rfl) (gz_Ev_mono (d := 2) (by decide) E22) ?_
  show gv_X _ _ (5, [(0, .inr (.inr (some 39))), (1, .inr (.inr (some a1)))], [.inl z22], sh, gc_h sh I23 J A)
  refine gv_if_eq (t := 41) hD rfl rfl ⟨by omega, by omega⟩ (fun c31 => ?_) (fun c31 => ?_)
  · show gv_X _ _ (41, [(0, .inr (.inr (some 39))), (1, .inr (.inr (some a1)))], [], sh, gc_h sh I23 J A)
    refine gv_pick [] rfl ?_
    exact L41 I23 J hI23 FI23 FJ
  · show gv_X _ _ (8, [(0, .inr (.inr (some 39))), (1, .inr (.inr (some a1)))], [], sh, gc_h sh I23 J A)
    refine gv_run 2 true hD (pc' := 10) (lv' := [(0, .inr (.inr (some 39))), (1, .inr (.inr (some a1)))]) (st' := [.inr (.inr (some 39)), .inr (.inr (some a1))]) (h' := gc_h sh I23 J A) (C := ((True ∧ True) ∧ True)) rfl ⟨⟨trivial, trivial⟩, trivial⟩ ?_
    refine gv_get hD rfl rfl S_39 ⟨by decide, B_39⟩ (gc_hA S_39 rfl A_39_1) ?_
    show gv_X _ _ (13, [(0, .inr (.inr (some 39))), (1, .inr (.inr (some a1)))], [.inr (.inr (some 23)), .inr (.inr (some a1))], sh, gc_h sh I23 J A)
    refine gv_get hD rfl rfl S_23 ⟨by decide, B_23⟩ (gc_hJ S_23 rfl) ?_
    show gv_X _ _ (16, [(0, .inr (.inr (some 39))), (1, .inr (.inr (some a1)))], [.inr (.inl (J 23 9)), .inr (.inr (some a1))], sh, gc_h sh I23 J A)
    obtain ⟨r32, h32, E32, P32⟩ := d_X4_find (ws0 := ws0) (tb := tb) hws htb sh ro I23 J A hI23 a1 n ρ (J 23 9) h_a1     
    obtain ⟨rfl, ⟨z32, rfl, q32⟩⟩ := P32
    refine gv_callV hD rfl (As := [.inr (.inl (J 23 9))]) (st := []) rfl B_a1 S_a1 rfl (gc_lV6 hws rfl) (Nat.le_of_ble_eq_true rfl) (gz_Ev_mono (d := 1) (by decide) E32) ?_
    show gv_X _ _ (19, [(0, .inr (.inr (some 39))), (1, .inr (.inr (some a1)))], [.inl z32], sh, gc_h sh I23 J A)
    refine gv_if_ge (t := 37) hD rfl rfl ⟨by omega, by omega⟩ (fun c33 => ?_) (fun c33 => ?_)
    · show gv_X _ _ (37, [(0, .inr (.inr (some 39))), (1, .inr (.inr (some a1)))], [], sh, gc_h sh I23 J A)
      refine gv_pick [] rfl ?_
      exact L37 I23 J hI23 FI23 FJ (by omega)
    · show gv_X _ _ (22, [(0, .inr (.inr (some 39))), (1, .inr (.inr (some a1)))], [], sh, gc_h sh I23 J A)
      refine gv_run 3 true hD (pc' := 25) (lv' := [(0, .inr (.inr (some 39))), (1, .inr (.inr (some a1)))]) (st' := [.inr (.inr (some 39)), .inl 5, .inr (.inr (some 39))]) (h' := gc_h sh I23 J A) (C := (((True ∧ True) ∧ True) ∧ True)) rfl ⟨⟨⟨trivial, trivial⟩, trivial⟩, trivial⟩ ?_
      refine gv_get hD rfl rfl S_39 ⟨by decide, B_39⟩ (gc_hA S_39 rfl A_39_1) ?_
      show gv_X _ _ (28, [(0, .inr (.inr (some 39))), (1, .inr (.inr (some a1)))], [.inr (.inr (some 23)), .inl 5, .inr (.inr (some 39))], sh, gc_h sh I23 J A)
      have f34 := (show 0 ≤ I23 23 5 ∧ I23 23 5 ≤ 1000 from gc_in hI23 R_23 rfl rfl)
      refine gv_get hD rfl rfl S_23 ⟨by decide, B_23⟩ (gc_hI S_23 rfl) ?_
      show gv_X _ _ (31, [(0, .inr (.inr (some 39))), (1, .inr (.inr (some a1)))], [.inl (I23 23 5), .inl 5, .inr (.inr (some 39))], sh, gc_h sh I23 J A)
      obtain ⟨r35, h35, E35, P35⟩ := d_X6_wrong (ws0 := ws0) (tb := tb) hws htb sh ro I23 J A hI23  5 (I23 23 5) hb   ⟨by omega, by omega⟩ ⟨by omega, by omega⟩  
      obtain ⟨I36, J37, rfl, hI36, g35, k35, ⟨z35, rfl, q35⟩⟩ := P35
      have FI36 := gc_frc (W := fun q j => (q = 39 ∧ j = 3) ∨ (q = 39 ∧ j = 4)) (V := fun q j => (q = 39 ∧ j = 3) ∨ (q = 39 ∧ j = 4)) FI23 (fun q j h => (h.elim (fun h => (Or.inl h)) (fun h => (Or.inr h)))) g35
      have t38 := (g35 23 7).resolve_left (by omega)
      have t39 := (g35 23 5).resolve_left (by omega)
      have t40 := (g35 a1 1).resolve_left (by omega)
      have f41 := (show 0 ≤ I36 23 7 ∧ I36 23 7 ≤ 125 from gc_in hI36 R_23 rfl rfl)
      have f42 := (show 0 ≤ I36 23 5 ∧ I36 23 5 ≤ 1000 from gc_in hI36 R_23 rfl rfl)
      have f43 := (show 0 ≤ I36 a1 1 ∧ I36 a1 1 ≤ ((n : Nat) : Int) from gc_in hI36 R_a1 Q_lo Q_hi)
      obtain rfl : J = J37 := funext fun q => funext fun j => ((k35 q j).resolve_left id).symm
      refine gv_callV hD rfl (As := [.inl 5, .inl (I23 23 5)]) (st := []) rfl B_39 S_39 rfl (gc_lV6 hws rfl) (Nat.le_of_ble_eq_true rfl) (gz_Ev_mono (d := 1) (by decide) E35) ?_
      show gv_X _ _ (34, [(0, .inr (.inr (some 39))), (1, .inr (.inr (some a1)))], [.inl z35], sh, gc_h sh I36 J A)
      refine gv_if_eq (t := 41) hD rfl rfl ⟨by omega, by omega⟩ (fun c44 => ?_) (fun c44 => ?_)
      · show gv_X _ _ (41, [(0, .inr (.inr (some 39))), (1, .inr (.inr (some a1)))], [], sh, gc_h sh I36 J A)
        refine gv_pick [] rfl ?_
        exact L41 I36 J hI36 FI36 FJ
      · show gv_X _ _ (37, [(0, .inr (.inr (some 39))), (1, .inr (.inr (some a1)))], [], sh, gc_h sh I36 J A)
        refine gv_pick [] rfl ?_
        exact L37 I36 J hI36 FI36 FJ (by omega)
set_option maxHeartbeats 4000000 in
set_option maxRecDepth 100000 in
theorem d_X6_closes {ws0 : List Cond} {tb : String → gz_T} (hws : gc_Ws ws0) (htb : gc_tbs tb) (sh : gz_Sh) (ro : Nat → Nat) (I : gr_I) (J : gr_J) (A : gc_A) (hI : gc_Inv ro I) (a1 : Int) (hb : gc_Base sh ro A) (ha1 : 0 ≤ a1 ∧ a1 ≤ 1) (x0 : I 23 5 ≤ I 23 6) (x1 : I 23 7 = 5 ∨ I 23 6 ≤ I 23 1) (x2 : I 23 5 ≤ I 23 1) (x3 : I 23 7 = 4 ∨ (I 23 5 < I 23 6 ∧ I 23 5 < I 23 1)) (x4 : I 23 7 = 3 → 2 ≤ I 23 6 - I 23 5 ∧ I 23 6 - I 23 5 ≤ 14) (KLT_I : gc_LT I) : ∃ r h', gz_Ev ws0 tb 4 (yX6_closes, cX6_closes, 2, (some .boolean)) [.inr (.inr (some 39)), .inl a1] sh (gc_h sh I J A) r sh h' 0 0 ∧ (∃ (I' : gr_I) (J' : gr_J), h' = gc_h sh I' J' A ∧ gc_Inv ro I' ∧ (∀ q j : Nat, ((q = 39 ∧ j = 3) ∨ (q = 39 ∧ j = 4) ∨ (q = 23 ∧ j = 5) ∨ (q = 23 ∧ j = 6) ∨ (q = 23 ∧ j = 7) ∨ (q = 23 ∧ j = 8)) ∨ I' q j = I q j) ∧ (∀ q j : Nat, ((q = 23 ∧ j = 9)) ∨ J' q j = J q j) ∧ gc_LT I' ∧ (∃ z : Int, r = some (.inl z) ∧ 0 ≤ z ∧ z ≤ 1 ∧ (I' 23 5 ≤ I' 23 6) ∧ (I' 23 7 = 5 ∨ I' 23 6 ≤ I' 23 1) ∧ (I' 23 5 ≤ I' 23 1) ∧ (I' 23 7 = 4 ∨ (I' 23 5 < I' 23 6 ∧ I' 23 5 < I' 23 1)) ∧ (I' 23 7 = 3 → 2 ≤ I' 23 6 - I' 23 5 ∧ I' 23 6 - I' 23 5 ≤ 14) ∧ (I' 23 1 = I 23 1) ∧ (I 23 5 ≤ I' 23 5) ∧ (z = 0 ∨ (a1 = 0 ∧ I 23 7 = 59 ∧ I 23 6 ≤ I' 23 5)))) := by
  have FI : ∀ q j : Nat, ((q = 39 ∧ j = 3) ∨ (q = 39 ∧ j = 4) ∨ (q = 23 ∧ j = 5) ∨ (q = 23 ∧ j = 6) ∨ (q = 23 ∧ j = 7) ∨ (q = 23 ∧ j = 8)) ∨ I q j = I q j := fun _ _ => Or.inr rfl
  have FJ : ∀ q j : Nat, ((q = 23 ∧ j = 9)) ∨ J q j = J q j := fun _ _ => Or.inr rfl
  have A_39_0 : A 39 0 = some 1 := gc_bA hb rfl
  have B_1 : 1 < 1000000 := by decide
  have B_39 : 39 < 1000000 := by decide
  have R_1 : ro 1 = 22 := gc_bR hb (by decide) rfl
  have R_23 : ro 23 = 3 := gc_bR hb (by decide) rfl
  have R_39 : ro 39 = 42 := gc_bR hb (by decide) rfl
  have S_1 : sh[1]? = some (false, 8, 21) := gc_bS hb rfl
  have S_39 : sh[39]? = some (false, 6, 19) := gc_bS hb rfl
  have hD : gv_D (gc_E6 ws0 tb 3 (yX6_closes, cX6_closes, 2, (some .boolean)) kX6_closes) := gq_ok oX6_closes
  refine gc_ev6 (d := 3) (l := kX6_closes) (Po := fun r h' => (∃ (I' : gr_I) (J' : gr_J), h' = gc_h sh I' J' A ∧ gc_Inv ro I' ∧ (∀ q j : Nat, ((q = 39 ∧ j = 3) ∨ (q = 39 ∧ j = 4) ∨ (q = 23 ∧ j = 5) ∨ (q = 23 ∧ j = 6) ∨ (q = 23 ∧ j = 7) ∨ (q = 23 ∧ j = 8)) ∨ I' q j = I q j) ∧ (∀ q j : Nat, ((q = 23 ∧ j = 9)) ∨ J' q j = J q j) ∧ gc_LT I' ∧ (∃ z : Int, r = some (.inl z) ∧ 0 ≤ z ∧ z ≤ 1 ∧ (I' 23 5 ≤ I' 23 6) ∧ (I' 23 7 = 5 ∨ I' 23 6 ≤ I' 23 1) ∧ (I' 23 5 ≤ I' 23 1) ∧ (I' 23 7 = 4 ∨ (I' 23 5 < I' 23 6 ∧ I' 23 5 < I' 23 1)) ∧ (I' 23 7 = 3 → 2 ≤ I' 23 6 - I' 23 5 ∧ I' 23 6 - I' 23 5 ≤ 14) ∧ (I' 23 1 = I 23 1) ∧ (I 23 5 ≤ I' 23 5) ∧ (z = 0 ∨ (a1 = 0 ∧ I 23 7 = 59 ∧ I 23 6 ≤ I' 23 5))))) htb rfl (Nat.le_of_ble_eq_true rfl) ?_
  have f1 := (show 0 ≤ I 23 1 ∧ I 23 1 ≤ 1000 from gc_in hI R_23 rfl rfl)
  have f2 := (show 0 ≤ I 23 5 ∧ I 23 5 ≤ 1000 from gc_in hI R_23 rfl rfl)
  have f3 := (show 0 ≤ I 23 6 ∧ I 23 6 ≤ 1001 from gc_in hI R_23 rfl rfl)
  have f4 := (show 0 ≤ I 23 7 ∧ I 23 7 ≤ 125 from gc_in hI R_23 rfl rfl)
  have L42 : ∀ (I5 : gr_I) (J6 : gr_J) (s0_7 : Int), gc_Inv ro I5 → (∀ q j : Nat, ((q = 39 ∧ j = 3) ∨ (q = 39 ∧ j = 4) ∨ (q = 23 ∧ j = 5) ∨ (q = 23 ∧ j = 6) ∨ (q = 23 ∧ j = 7) ∨ (q = 23 ∧ j = 8)) ∨ I5 q j = I q j) → (∀ q j : Nat, ((q = 23 ∧ j = 9)) ∨ J6 q j = J q j) → gc_LT I5 → ((0 ≤ s0_7 ∧ s0_7 ≤ 1) ∧ (s0_7 = 0 ∨ (a1 = 0 ∧ I 23 7 = 59 ∧ I 23 6 ≤ I5 23 5)) ∧ (I5 23 5 ≤ I5 23 6) ∧ (I5 23 7 = 5 ∨ I5 23 6 ≤ I5 23 1) ∧ (I5 23 5 ≤ I5 23 1) ∧ (I5 23 7 = 4 ∨ (I5 23 5 < I5 23 6 ∧ I5 23 5 < I5 23 1)) ∧ (I5 23 7 = 3 → 2 ≤ I5 23 6 - I5 23 5 ∧ I5 23 6 - I5 23 5 ≤ 14) ∧ (I5 23 1 = I 23 1) ∧ (I 23 5 ≤ I5 23 5)) → gv_X (gc_E6 ws0 tb 3 (yX6_closes, cX6_closes, 2, (some .boolean)) kX6_closes) (gv_Q cX6_closes (some .boolean) sh (fun r h' => (∃ (I' : gr_I) (J' : gr_J), h' = gc_h sh I' J' A ∧ gc_Inv ro I' ∧ (∀ q j : Nat, ((q = 39 ∧ j = 3) ∨ (q = 39 ∧ j = 4) ∨ (q = 23 ∧ j = 5) ∨ (q = 23 ∧ j = 6) ∨ (q = 23 ∧ j = 7) ∨ (q = 23 ∧ j = 8)) ∨ I' q j = I q j) ∧ (∀ q j : Nat, ((q = 23 ∧ j = 9)) ∨ J' q j = J q j) ∧ gc_LT I' ∧ (∃ z : Int, r = some (.inl z) ∧ 0 ≤ z ∧ z ≤ 1 ∧ (I' 23 5 ≤ I' 23 6) ∧ (I' 23 7 = 5 ∨ I' 23 6 ≤ I' 23 1) ∧ (I' 23 5 ≤ I' 23 1) ∧ (I' 23 7 = 4 ∨ (I' 23 5 < I' 23 6 ∧ I' 23 5 < I' 23 1)) ∧ (I' 23 7 = 3 → 2 ≤ I' 23 6 - I' 23 5 ∧ I' 23 6 - I' 23 5 ≤ 14) ∧ (I' 23 1 = I 23 1) ∧ (I 23 5 ≤ I' 23 5) ∧ (z = 0 ∨ (a1 = 0 ∧ I 23 7 = 59 ∧ I 23 6 ≤ I' 23 5)))))) (42, [], [.inl s0_7], sh, gc_h sh I5 J6 A) := by
    intro I5 J6 s0_7 hI5 FI5 FJ6 KLT_I5 m_7
    clear x0 x1 x2 x3 x4
    obtain ⟨hs0_7, e0_7, e1_7, e2_7, e3_7, e4_7, e5_7, e6_7, e7_7⟩ := m_7
    have f8 := (show 0 ≤ I5 23 1 ∧ I5 23 1 ≤ 1000 from gc_in hI5 R_23 rfl rfl)
    have f9 := (show 0 ≤ I5 23 5 ∧ I5 23 5 ≤ 1000 from gc_in hI5 R_23 rfl rfl)
    have f10 := (show 0 ≤ I5 23 6 ∧ I5 23 6 ≤ 1001 from gc_in hI5 R_23 rfl rfl)
    have f11 := (show 0 ≤ I5 23 7 ∧ I5 23 7 ≤ 125 from gc_in hI5 R_23 rfl rfl)
    exact gv_zret hD rfl (by omega) ⟨I5, J6, rfl, hI5, FI5, FJ6, KLT_I5, ⟨_, rfl, by omega⟩⟩
  have L37 : ∀ (I12 : gr_I) (J13 : gr_J) , gc_Inv ro I12 → (∀ q j : Nat, ((q = 39 ∧ j = 3) ∨ (q = 39 ∧ j = 4) ∨ (q = 23 ∧ j = 5) ∨ (q = 23 ∧ j = 6) ∨ (q = 23 ∧ j = 7) ∨ (q = 23 ∧ j = 8)) ∨ I12 q j = I q j) → (∀ q j : Nat, ((q = 23 ∧ j = 9)) ∨ J13 q j = J q j) → gc_LT I12 → ((a1 = 0) ∧ (I 23 7 = 59) ∧ (I 23 6 ≤ I12 23 5) ∧ (I12 23 5 ≤ I12 23 6) ∧ (I12 23 7 = 5 ∨ I12 23 6 ≤ I12 23 1) ∧ (I12 23 5 ≤ I12 23 1) ∧ (I12 23 7 = 4 ∨ (I12 23 5 < I12 23 6 ∧ I12 23 5 < I12 23 1)) ∧ (I12 23 7 = 3 → 2 ≤ I12 23 6 - I12 23 5 ∧ I12 23 6 - I12 23 5 ≤ 14) ∧ (I12 23 1 = I 23 1) ∧ (I 23 5 ≤ I12 23 5)) → gv_X (gc_E6 ws0 tb 3 (yX6_closes, cX6_closes, 2, (some .boolean)) kX6_closes) (gv_Q cX6_closes (some .boolean) sh (fun r h' => (∃ (I' : gr_I) (J' : gr_J), h' = gc_h sh I' J' A ∧ gc_Inv ro I' ∧ (∀ q j : Nat, ((q = 39 ∧ j = 3) ∨ (q = 39 ∧ j = 4) ∨ (q = 23 ∧ j = 5) ∨ (q = 23 ∧ j = 6) ∨ (q = 23 ∧ j = 7) ∨ (q = 23 ∧ j = 8)) ∨ I' q j = I q j) ∧ (∀ q j : Nat, ((q = 23 ∧ j = 9)) ∨ J' q j = J q j) ∧ gc_LT I' ∧ (∃ z : Int, r = some (.inl z) ∧ 0 ≤ z ∧ z ≤ 1 ∧ (I' 23 5 ≤ I' 23 6) ∧ (I' 23 7 = 5 ∨ I' 23 6 ≤ I' 23 1) ∧ (I' 23 5 ≤ I' 23 1) ∧ (I' 23 7 = 4 ∨ (I' 23 5 < I' 23 6 ∧ I' 23 5 < I' 23 1)) ∧ (I' 23 7 = 3 → 2 ≤ I' 23 6 - I' 23 5 ∧ I' 23 6 - I' 23 5 ≤ 14) ∧ (I' 23 1 = I 23 1) ∧ (I 23 5 ≤ I' 23 5) ∧ (z = 0 ∨ (a1 = 0 ∧ I 23 7 = 59 ∧ I 23 6 ≤ I' 23 5)))))) (37, [], [], sh, gc_h sh I12 J13 A) := by
    intro I12 J13 hI12 FI12 FJ13 KLT_I12 m_14
    clear x0 x1 x2 x3 x4
    obtain ⟨e0_14, e1_14, e2_14, e3_14, e4_14, e5_14, e6_14, e7_14, e8_14, e9_14⟩ := m_14
    have f15 := (show 0 ≤ I12 23 1 ∧ I12 23 1 ≤ 1000 from gc_in hI12 R_23 rfl rfl)
    have f16 := (show 0 ≤ I12 23 5 ∧ I12 23 5 ≤ 1000 from gc_in hI12 R_23 rfl rfl)
    have f17 := (show 0 ≤ I12 23 6 ∧ I12 23 6 ≤ 1001 from gc_in hI12 R_23 rfl rfl)
    have f18 := (show 0 ≤ I12 23 7 ∧ I12 23 7 ≤ 125 from gc_in hI12 R_23 rfl rfl)
    refine gv_run 2 true hD (pc' := 42) (lv' := []) (st' := [.inl 1]) (h' := gc_h sh I12 J13 A) (C := ((True ∧ True) ∧ True)) rfl ⟨⟨trivial, trivial⟩, trivial⟩ ?_
    exact L42 I12 J13 1 hI12 FI12 FJ13 KLT_I12 (by omega)
  have L25 : ∀ (I19 : gr_I) (J20 : gr_J) , gc_Inv ro I19 → (∀ q j : Nat, ((q = 39 ∧ j = 3) ∨ (q = 39 ∧ j = 4) ∨ (q = 23 ∧ j = 5) ∨ (q = 23 ∧ j = 6) ∨ (q = 23 ∧ j = 7) ∨ (q = 23 ∧ j = 8)) ∨ I19 q j = I q j) → (∀ q j : Nat, ((q = 23 ∧ j = 9)) ∨ J20 q j = J q j) → gc_LT I19 → ((I 23 7 = 59) ∧ (I 23 6 ≤ I19 23 5) ∧ (I19 23 5 ≤ I19 23 6) ∧ (I19 23 7 = 5 ∨ I19 23 6 ≤ I19 23 1) ∧ (I19 23 5 ≤ I19 23 1) ∧ (I19 23 7 = 4 ∨ (I19 23 5 < I19 23 6 ∧ I19 23 5 < I19 23 1)) ∧ (I19 23 7 = 3 → 2 ≤ I19 23 6 - I19 23 5 ∧ I19 23 6 - I19 23 5 ≤ 14) ∧ (I19 23 1 = I 23 1) ∧ (I 23 5 ≤ I19 23 5)) → gv_X (gc_E6 ws0 tb 3 (yX6_closes, cX6_closes, 2, (some .boolean)) kX6_closes) (gv_Q cX6_closes (some .boolean) sh (fun r h' => (∃ (I' : gr_I) (J' : gr_J), h' = gc_h sh I' J' A ∧ gc_Inv ro I' ∧ (∀ q j : Nat, ((q = 39 ∧ j = 3) ∨ (q = 39 ∧ j = 4) ∨ (q = 23 ∧ j = 5) ∨ (q = 23 ∧ j = 6) ∨ (q = 23 ∧ j = 7) ∨ (q = 23 ∧ j = 8)) ∨ I' q j = I q j) ∧ (∀ q j : Nat, ((q = 23 ∧ j = 9)) ∨ J' q j = J q j) ∧ gc_LT I' ∧ (∃ z : Int, r = some (.inl z) ∧ 0 ≤ z ∧ z ≤ 1 ∧ (I' 23 5 ≤ I' 23 6) ∧ (I' 23 7 = 5 ∨ I' 23 6 ≤ I' 23 1) ∧ (I' 23 5 ≤ I' 23 1) ∧ (I' 23 7 = 4 ∨ (I' 23 5 < I' 23 6 ∧ I' 23 5 < I' 23 1)) ∧ (I' 23 7 = 3 → 2 ≤ I' 23 6 - I' 23 5 ∧ I' 23 6 - I' 23 5 ≤ 14) ∧ (I' 23 1 = I 23 1) ∧ (I 23 5 ≤ I' 23 5) ∧ (z = 0 ∨ (a1 = 0 ∧ I 23 7 = 59 ∧ I 23 6 ≤ I' 23 5)))))) (25, [(0, .inr (.inr (some 39)))], [], sh, gc_h sh I19 J20 A) := by
    intro I19 J20 hI19 FI19 FJ20 KLT_I19 m_21
    clear x0 x1 x2 x3 x4
    obtain ⟨e0_21, e1_21, e2_21, e3_21, e4_21, e5_21, e6_21, e7_21, e8_21⟩ := m_21
    have f22 := (show 0 ≤ I19 23 1 ∧ I19 23 1 ≤ 1000 from gc_in hI19 R_23 rfl rfl)
    have f23 := (show 0 ≤ I19 23 5 ∧ I19 23 5 ≤ 1000 from gc_in hI19 R_23 rfl rfl)
    have f24 := (show 0 ≤ I19 23 6 ∧ I19 23 6 ≤ 1001 from gc_in hI19 R_23 rfl rfl)
    have f25 := (show 0 ≤ I19 23 7 ∧ I19 23 7 ≤ 125 from gc_in hI19 R_23 rfl rfl)
    refine gv_run 3 true hD (pc' := 28) (lv' := [(0, .inr (.inr (some 39)))]) (st' := [.inr (.inr (some 39)), .inl 2, .inr (.inr (some 39))]) (h' := gc_h sh I19 J20 A) (C := (((True ∧ True) ∧ True) ∧ True)) rfl ⟨⟨⟨trivial, trivial⟩, trivial⟩, trivial⟩ ?_
    have f26 := (show 0 ≤ I19 39 5 ∧ I19 39 5 ≤ 1000 from gc_in hI19 R_39 rfl rfl)
    refine gv_get hD rfl rfl S_39 ⟨by decide, B_39⟩ (gc_hI S_39 rfl) ?_
    show gv_X _ _ (31, [(0, .inr (.inr (some 39)))], [.inl (I19 39 5), .inl 2, .inr (.inr (some 39))], sh, gc_h sh I19 J20 A)
    obtain ⟨r27, h27, E27, P27⟩ := d_X6_wrong (ws0 := ws0) (tb := tb) hws htb sh ro I19 J20 A hI19  2 (I19 39 5) hb   ⟨by omega, by omega⟩ ⟨by omega, by omega⟩  
    obtain ⟨I28, J29, rfl, hI28, g27, k27, ⟨z27, rfl, q27⟩⟩ := P27
    have FI28 := gc_frc (W := fun q j => (q = 39 ∧ j = 3) ∨ (q = 39 ∧ j = 4) ∨ (q = 23 ∧ j = 5) ∨ (q = 23 ∧ j = 6) ∨ (q = 23 ∧ j = 7) ∨ (q = 23 ∧ j = 8)) (V := fun q j => (q = 39 ∧ j = 3) ∨ (q = 39 ∧ j = 4)) FI19 (fun q j h => (h.elim (fun h => (Or.inl h)) (fun h => (Or.inr (Or.inl h))))) g27
    have t30 := (g27 23 1).resolve_left (by omega)
    have t31 := (g27 23 5).resolve_left (by omega)
    have t32 := (g27 23 6).resolve_left (by omega)
    have t33 := (g27 23 7).resolve_left (by omega)
    have f34 := (show 0 ≤ I28 23 1 ∧ I28 23 1 ≤ 1000 from gc_in hI28 R_23 rfl rfl)
    have f35 := (show 0 ≤ I28 23 5 ∧ I28 23 5 ≤ 1000 from gc_in hI28 R_23 rfl rfl)
    have f36 := (show 0 ≤ I28 23 6 ∧ I28 23 6 ≤ 1001 from gc_in hI28 R_23 rfl rfl)
    have f37 := (show 0 ≤ I28 23 7 ∧ I28 23 7 ≤ 125 from gc_in hI28 R_23 rfl rfl)
    obtain rfl : J20 = J29 := funext fun q => funext fun j => ((k27 q j).resolve_left id).symm
    have KLT_I28 := gc_LT_fr KLT_I19 ((g27 23 5).resolve_left (by omega)) ((g27 23 6).resolve_left (by omega)) ((g27 23 7).resolve_left (by omega)) (fun k => (g27 24 k).resolve_left (by omega))
    refine gv_callV hD rfl (As := [.inl 2, .inl (I19 39 5)]) (st := []) rfl B_39 S_39 rfl (gc_lV6 hws rfl) (Nat.le_of_ble_eq_true rfl) (gz_Ev_mono (d := 1) (by decide) E27) ?_
    show gv_X _ _ (34, [(0, .inr (.inr (some 39)))], [.inl z27], sh, gc_h sh I28 J20 A)
    refine gv_if_eq (t := 41) hD rfl rfl ⟨by omega, by omega⟩ (fun c38 => ?_) (fun c38 => ?_)
    · show gv_X _ _ (41, [(0, .inr (.inr (some 39)))], [], sh, gc_h sh I28 J20 A)
      refine gv_run 1 true hD (pc' := 42) (lv' := [(0, .inr (.inr (some 39)))]) (st' := [.inl 0]) (h' := gc_h sh I28 J20 A) (C := (True ∧ True)) rfl ⟨trivial, trivial⟩ ?_
      refine gv_pick [] rfl ?_
      exact L42 I28 J20 0 hI28 FI28 FJ20 KLT_I28 (by omega)
    · show gv_X _ _ (37, [(0, .inr (.inr (some 39)))], [], sh, gc_h sh I28 J20 A)
      refine gv_pick [] rfl ?_
      exact L37 I28 J20 hI28 FI28 FJ20 KLT_I28 (by omega)
  refine gv_run 2 true hD (pc' := 3) (lv' := [(0, .inr (.inr (some 39))), (1, .inl a1)]) (st' := [.inl 59, .inr (.inr (some 39))]) (h' := gc_h sh I J A) (C := ((True ∧ True) ∧ True)) rfl ⟨⟨trivial, trivial⟩, trivial⟩ ?_
  obtain ⟨r39, h39, E39, P39⟩ := d_X6_take (ws0 := ws0) (tb := tb) hws htb sh ro I J A hI  59 hb   ⟨by omega, by omega⟩ (by omega) (by omega) (by omega) (by omega) (by omega) (by omega) KLT_I
  obtain ⟨I40, J41, rfl, hI40, g39, k39, KLT_I40, ⟨z39, rfl, q39⟩⟩ := P39
  have FI40 := gc_frc (W := fun q j => (q = 39 ∧ j = 3) ∨ (q = 39 ∧ j = 4) ∨ (q = 23 ∧ j = 5) ∨ (q = 23 ∧ j = 6) ∨ (q = 23 ∧ j = 7) ∨ (q = 23 ∧ j = 8)) (V := fun q j => (q = 39 ∧ j = 3) ∨ (q = 39 ∧ j = 4) ∨ (q = 23 ∧ j = 5) ∨ (q = 23 ∧ j = 6) ∨ (q = 23 ∧ j = 7) ∨ (q = 23 ∧ j = 8)) FI (fun q j h => (h.elim (fun h => (Or.inl h)) (fun h => (h.elim (fun h => (Or.inr (Or.inl h))) (fun h => (h.elim (fun h => (Or.inr (Or.inr (Or.inl h)))) (fun h => (h.elim (fun h => (Or.inr (Or.inr (Or.inr (Or.inl h))))) (fun h => (h.elim (fun h => (Or.inr (Or.inr (Or.inr (Or.inr (Or.inl h)))))) (fun h => (Or.inr (Or.inr (Or.inr (Or.inr (Or.inr h)))))))))))))))) g39
  have FJ41 := gc_frc (W := fun q j => (q = 23 ∧ j = 9)) (V := fun q j => (q = 23 ∧ j = 9)) FJ (fun q j h => h) k39
  have t42 := (g39 23 1).resolve_left (by omega)
  have f43 := (show 0 ≤ I40 23 1 ∧ I40 23 1 ≤ 1000 from gc_in hI40 R_23 rfl rfl)
  have f44 := (show 0 ≤ I40 23 5 ∧ I40 23 5 ≤ 1000 from gc_in hI40 R_23 rfl rfl)
  have f45 := (show 0 ≤ I40 23 6 ∧ I40 23 6 ≤ 1001 from gc_in hI40 R_23 rfl rfl)
  have f46 := (show 0 ≤ I40 23 7 ∧ I40 23 7 ≤ 125 from gc_in hI40 R_23 rfl rfl)
  refine gv_callV hD rfl (As := [.inl 59]) (st := []) rfl B_39 S_39 rfl (gc_lV6 hws rfl) (Nat.le_of_ble_eq_true rfl) (gz_Ev_mono (d := 3) (by decide) E39) ?_
  show gv_X _ _ (6, [(0, .inr (.inr (some 39))), (1, .inl a1)], [.inl z39], sh, gc_h sh I40 J41 A)
  refine gv_if_ne (t := 11) hD rfl rfl ⟨by omega, by omega⟩ (fun c47 => ?_) (fun c47 => ?_)
  · show gv_X _ _ (11, [(0, .inr (.inr (some 39))), (1, .inl a1)], [], sh, gc_h sh I40 J41 A)
    refine gv_run 1 true hD (pc' := 12) (lv' := [(0, .inr (.inr (some 39))), (1, .inl a1)]) (st' := [.inl a1]) (h' := gc_h sh I40 J41 A) (C := (True ∧ True)) rfl ⟨trivial, trivial⟩ ?_
    refine gv_if_ne (t := 25) hD rfl rfl ⟨by omega, by omega⟩ (fun c48 => ?_) (fun c48 => ?_)
    · show gv_X _ _ (25, [(0, .inr (.inr (some 39))), (1, .inl a1)], [], sh, gc_h sh I40 J41 A)
      refine gv_pick [0] rfl ?_
      exact L25 I40 J41 hI40 FI40 FJ41 KLT_I40 (by omega)
    · show gv_X _ _ (15, [(0, .inr (.inr (some 39))), (1, .inl a1)], [], sh, gc_h sh I40 J41 A)
      refine gv_run 1 true hD (pc' := 16) (lv' := [(0, .inr (.inr (some 39))), (1, .inl a1)]) (st' := [.inr (.inr (some 39))]) (h' := gc_h sh I40 J41 A) (C := (True ∧ True)) rfl ⟨trivial, trivial⟩ ?_
      refine gv_get hD rfl rfl S_39 ⟨by decide, B_39⟩ (gc_hA S_39 rfl A_39_0) ?_
      show gv_X _ _ (19, [(0, .inr (.inr (some 39))), (1, .inl a1)], [.inr (.inr (some 1))], sh, gc_h sh I40 J41 A)
      have f49 := (show 0 ≤ I40 1 18 ∧ I40 1 18 ≤ 1 from gc_in hI40 R_1 rfl rfl)
      refine gv_get hD rfl rfl S_1 ⟨by decide, B_1⟩ (gc_hI S_1 rfl) ?_
      show gv_X _ _ (22, [(0, .inr (.inr (some 39))), (1, .inl a1)], [.inl (I40 1 18)], sh, gc_h sh I40 J41 A)
      refine gv_if_eq (t := 37) hD rfl rfl ⟨by omega, by omega⟩ (fun c50 => ?_) (fun c50 => ?_)
      · show gv_X _ _ (37, [(0, .inr (.inr (some 39))), (1, .inl a1)], [], sh, gc_h sh I40 J41 A)
        refine gv_pick [] rfl ?_
        exact L37 I40 J41 hI40 FI40 FJ41 KLT_I40 (by omega)
      · show gv_X _ _ (25, [(0, .inr (.inr (some 39))), (1, .inl a1)], [], sh, gc_h sh I40 J41 A)
        refine gv_pick [0] rfl ?_
        exact L25 I40 J41 hI40 FI40 FJ41 KLT_I40 (by omega)
  · show gv_X _ _ (9, [(0, .inr (.inr (some 39))), (1, .inl a1)], [], sh, gc_h sh I40 J41 A)
    refine gv_run 1 true hD (pc' := 10) (lv' := [(0, .inr (.inr (some 39))), (1, .inl a1)]) (st' := [.inl 0]) (h' := gc_h sh I40 J41 A) (C := (True ∧ True)) rfl ⟨trivial, trivial⟩ ?_
    exact gv_zret hD rfl (by omega) ⟨I40, J41, rfl, hI40, FI40, FJ41, KLT_I40, ⟨_, rfl, by omega⟩⟩
set_option maxHeartbeats 4000000 in
set_option maxRecDepth 100000 in
theorem d_X6_readCost {ws0 : List Cond} {tb : String → gz_T} (hws : gc_Ws ws0) (htb : gc_tbs tb) (sh : gz_Sh) (ro : Nat → Nat) (I : gr_I) (J : gr_J) (A : gc_A) (hI : gc_Inv ro I)  (hb : gc_Base sh ro A)  (x0 : I 23 5 ≤ I 23 6) (x1 : I 23 7 = 5 ∨ I 23 6 ≤ I 23 1) (x2 : I 23 5 ≤ I 23 1) (x3 : I 23 7 = 4 ∨ (I 23 5 < I 23 6 ∧ I 23 5 < I 23 1)) (x4 : I 23 7 = 3 → 2 ≤ I 23 6 - I 23 5 ∧ I 23 6 - I 23 5 ≤ 14) (KLT_I : gc_LT I) : ∃ r h', gz_Ev ws0 tb 3 (yX6_readCost, cX6_readCost, 1, (some .boolean)) [.inr (.inr (some 39))] sh (gc_h sh I J A) r sh h' 0 0 ∧ (∃ (I' : gr_I) (J' : gr_J), h' = gc_h sh I' J' A ∧ gc_Inv ro I' ∧ (∀ q j : Nat, ((q = 39 ∧ j = 3) ∨ (q = 39 ∧ j = 4) ∨ (q = 23 ∧ j = 5) ∨ (q = 23 ∧ j = 6) ∨ (q = 23 ∧ j = 7) ∨ (q = 23 ∧ j = 8) ∨ (q = 39 ∧ j = 7)) ∨ I' q j = I q j) ∧ (∀ q j : Nat, ((q = 23 ∧ j = 9)) ∨ J' q j = J q j) ∧ gc_LT I' ∧ (∃ z : Int, r = some (.inl z) ∧ 0 ≤ z ∧ z ≤ 1 ∧ (I' 23 5 ≤ I' 23 6) ∧ (I' 23 7 = 5 ∨ I' 23 6 ≤ I' 23 1) ∧ (I' 23 5 ≤ I' 23 1) ∧ (I' 23 7 = 4 ∨ (I' 23 5 < I' 23 6 ∧ I' 23 5 < I' 23 1)) ∧ (I' 23 7 = 3 → 2 ≤ I' 23 6 - I' 23 5 ∧ I' 23 6 - I' 23 5 ≤ 14) ∧ (I' 23 1 = I 23 1) ∧ (I 23 5 ≤ I' 23 5))) := by
  have FI : ∀ q j : Nat, ((q = 39 ∧ j = 3) ∨ (q = 39 ∧ j = 4) ∨ (q = 23 ∧ j = 5) ∨ (q = 23 ∧ j = 6) ∨ (q = 23 ∧ j = 7) ∨ (q = 23 ∧ j = 8) ∨ (q = 39 ∧ j = 7)) ∨ I q j = I q j := fun _ _ => Or.inr rfl
  have FJ : ∀ q j : Nat, ((q = 23 ∧ j = 9)) ∨ J q j = J q j := fun _ _ => Or.inr rfl
  have A_39_1 : A 39 1 = some 23 := gc_bA hb rfl
  have B_23 : 23 < 1000000 := by decide
  have B_39 : 39 < 1000000 := by decide
  have R_23 : ro 23 = 3 := gc_bR hb (by decide) rfl
  have R_39 : ro 39 = 42 := gc_bR hb (by decide) rfl
  have S_23 : sh[23]? = some (false, 9, 10) := gc_bS hb rfl
  have S_39 : sh[39]? = some (false, 6, 19) := gc_bS hb rfl
  have hD : gv_D (gc_E6 ws0 tb 2 (yX6_readCost, cX6_readCost, 1, (some .boolean)) kX6_readCost) := gq_ok oX6_readCost
  refine gc_ev6 (d := 2) (l := kX6_readCost) (Po := fun r h' => (∃ (I' : gr_I) (J' : gr_J), h' = gc_h sh I' J' A ∧ gc_Inv ro I' ∧ (∀ q j : Nat, ((q = 39 ∧ j = 3) ∨ (q = 39 ∧ j = 4) ∨ (q = 23 ∧ j = 5) ∨ (q = 23 ∧ j = 6) ∨ (q = 23 ∧ j = 7) ∨ (q = 23 ∧ j = 8) ∨ (q = 39 ∧ j = 7)) ∨ I' q j = I q j) ∧ (∀ q j : Nat, ((q = 23 ∧ j = 9)) ∨ J' q j = J q j) ∧ gc_LT I' ∧ (∃ z : Int, r = some (.inl z) ∧ 0 ≤ z ∧ z ≤ 1 ∧ (I' 23 5 ≤ I' 23 6) ∧ (I' 23 7 = 5 ∨ I' 23 6 ≤ I' 23 1) ∧ (I' 23 5 ≤ I' 23 1) ∧ (I' 23 7 = 4 ∨ (I' 23 5 < I' 23 6 ∧ I' 23 5 < I' 23 1)) ∧ (I' 23 7 = 3 → 2 ≤ I' 23 6 - I' 23 5 ∧ I' 23 6 - I' 23 5 ≤ 14) ∧ (I' 23 1 = I 23 1) ∧ (I 23 5 ≤ I' 23 5)))) htb rfl (Nat.le_of_ble_eq_true rfl) ?_
  have f1 := (show 0 ≤ I 23 1 ∧ I 23 1 ≤ 1000 from gc_in hI R_23 rfl rfl)
  have f2 := (show 0 ≤ I 23 5 ∧ I 23 5 ≤ 1000 from gc_in hI R_23 rfl rfl)
  have f3 := (show 0 ≤ I 23 6 ∧ I 23 6 ≤ 1001 from gc_in hI R_23 rfl rfl)
  have f4 := (show 0 ≤ I 23 7 ∧ I 23 7 ≤ 125 from gc_in hI R_23 rfl rfl)
  refine gv_run 2 true hD (pc' := 2) (lv' := [(0, .inr (.inr (some 39)))]) (st' := [.inl 0, .inr (.inr (some 39))]) (h' := gc_h sh I J A) (C := ((True ∧ True) ∧ True)) rfl ⟨⟨trivial, trivial⟩, trivial⟩ ?_
  refine gv_put hD rfl rfl S_39 ⟨by decide, B_39⟩ rfl trivial ?_
  refine gc_st (k := 7) hI S_39 rfl R_39 (lo := 0) (hi := 10000) rfl rfl (by omega) (by omega) (fun I5 hI5 q6 p6 => ?_)
  have FI5 := gc_frs (W := fun q j => (q = 39 ∧ j = 3) ∨ (q = 39 ∧ j = 4) ∨ (q = 23 ∧ j = 5) ∨ (q = 23 ∧ j = 6) ∨ (q = 23 ∧ j = 7) ∨ (q = 23 ∧ j = 8) ∨ (q = 39 ∧ j = 7)) FI (Or.inr (Or.inr (Or.inr (Or.inr (Or.inr (Or.inr ⟨rfl, rfl⟩)))))) p6
  have t7 := p6 23 1 (fun h => absurd h.1 (by omega))
  have t8 := p6 23 5 (fun h => absurd h.1 (by omega))
  have t9 := p6 23 6 (fun h => absurd h.1 (by omega))
  have t10 := p6 23 7 (fun h => absurd h.1 (by omega))
  have f11 := (show 0 ≤ I5 23 1 ∧ I5 23 1 ≤ 1000 from gc_in hI5 R_23 rfl rfl)
  have f12 := (show 0 ≤ I5 23 5 ∧ I5 23 5 ≤ 1000 from gc_in hI5 R_23 rfl rfl)
  have f13 := (show 0 ≤ I5 23 6 ∧ I5 23 6 ≤ 1001 from gc_in hI5 R_23 rfl rfl)
  have f14 := (show 0 ≤ I5 23 7 ∧ I5 23 7 ≤ 125 from gc_in hI5 R_23 rfl rfl)
  have KLT_I5 := gc_LT_fr KLT_I (p6 23 5 (fun h => absurd h.1 (by omega))) (p6 23 6 (fun h => absurd h.1 (by omega))) (p6 23 7 (fun h => absurd h.1 (by omega))) (fun k => p6 24 k (fun h => absurd h.1 (by omega)))
  show gv_X _ _ (5, [(0, .inr (.inr (some 39)))], [], sh, gc_h sh I5 J A)
  refine gv_run 2 true hD (pc' := 9) (lv' := [(0, .inr (.inr (some 39)))]) (st' := [.inr (.inl (1668248436)), .inr (.inr (some 39))]) (h' := gc_h sh I5 J A) (C := ((True ∧ True) ∧ True)) rfl ⟨⟨trivial, trivial⟩, trivial⟩ ?_
  obtain ⟨r15, h15, E15, P15⟩ := d_X6_isWord (ws0 := ws0) (tb := tb) hws htb sh ro I5 J A hI5  (1668248436) hb     
  obtain ⟨rfl, ⟨z15, rfl, q15⟩⟩ := P15
  refine gv_callV hD rfl (As := [.inr (.inl (1668248436))]) (st := []) rfl B_39 S_39 rfl (gc_lV6 hws rfl) (Nat.le_of_ble_eq_true rfl) (gz_Ev_mono (d := 1) (by decide) E15) ?_
  show gv_X _ _ (12, [(0, .inr (.inr (some 39)))], [.inl z15], sh, gc_h sh I5 J A)
  refine gv_if_ne (t := 17) hD rfl rfl ⟨by omega, by omega⟩ (fun c16 => ?_) (fun c16 => ?_)
  · show gv_X _ _ (17, [(0, .inr (.inr (some 39)))], [], sh, gc_h sh I5 J A)
    refine gv_run 1 true hD (pc' := 18) (lv' := [(0, .inr (.inr (some 39)))]) (st' := [.inr (.inr (some 39))]) (h' := gc_h sh I5 J A) (C := (True ∧ True)) rfl ⟨trivial, trivial⟩ ?_
    refine gv_get hD rfl rfl S_39 ⟨by decide, B_39⟩ (gc_hA S_39 rfl A_39_1) ?_
    show gv_X _ _ (21, [(0, .inr (.inr (some 39)))], [.inr (.inr (some 23))], sh, gc_h sh I5 J A)
    obtain ⟨r17, h17, E17, P17⟩ := d_X9_advance (ws0 := ws0) (tb := tb) hws htb sh ro I5 J A hI5 23  (gc_b23 hb)    (by omega) 
    obtain ⟨I18, J19, rfl, hI18, g17, k17, ⟨rfl, q17⟩⟩ := P17
    have FI18 := gc_frc (W := fun q j => (q = 39 ∧ j = 3) ∨ (q = 39 ∧ j = 4) ∨ (q = 23 ∧ j = 5) ∨ (q = 23 ∧ j = 6) ∨ (q = 23 ∧ j = 7) ∨ (q = 23 ∧ j = 8) ∨ (q = 39 ∧ j = 7)) (V := fun q j => (q = 23 ∧ j = 5) ∨ (q = 23 ∧ j = 6) ∨ (q = 23 ∧ j = 7) ∨ (q = 23 ∧ j = 8)) FI5 (fun q j h => (h.elim (fun h => (Or.inr (Or.inr (Or.inl h)))) (fun h => (h.elim (fun h => (Or.inr (Or.inr (Or.inr (Or.inl h))))) (fun h => (h.elim (fun h => (Or.inr (Or.inr (Or.inr (Or.inr (Or.inl h)))))) (fun h => (Or.inr (Or.inr (Or.inr (Or.inr (Or.inr (Or.inl h))))))))))))) g17
    have FJ19 := gc_frc (W := fun q j => (q = 23 ∧ j = 9)) (V := fun q j => (q = 23 ∧ j = 9)) FJ (fun q j h => h) k17
    have t20 := (g17 23 1).resolve_left (by omega)
    have f21 := (show 0 ≤ I18 23 1 ∧ I18 23 1 ≤ 1000 from gc_in hI18 R_23 rfl rfl)
    have f22 := (show 0 ≤ I18 23 5 ∧ I18 23 5 ≤ 1000 from gc_in hI18 R_23 rfl rfl)
    have f23 := (show 0 ≤ I18 23 6 ∧ I18 23 6 ≤ 1001 from gc_in hI18 R_23 rfl rfl)
    have f24 := (show 0 ≤ I18 23 7 ∧ I18 23 7 ≤ 125 from gc_in hI18 R_23 rfl rfl)
    have KLT_I18 : gc_LT I18 := q17.2.2.2.2.2.2.2
    refine gv_callV hD rfl (As := []) (st := []) rfl B_23 S_23 rfl (gc_lV6 hws rfl) (Nat.le_of_ble_eq_true rfl) (gz_Ev_mono (d := 2) (by decide) E17) ?_
    show gv_X _ _ (24, [(0, .inr (.inr (some 39)))], [], sh, gc_h sh I18 J19 A)
    refine gv_run 2 true hD (pc' := 26) (lv' := [(0, .inr (.inr (some 39)))]) (st' := [.inl 2, .inr (.inr (some 39))]) (h' := gc_h sh I18 J19 A) (C := ((True ∧ True) ∧ True)) rfl ⟨⟨trivial, trivial⟩, trivial⟩ ?_
    obtain ⟨r25, h25, E25, P25⟩ := d_X6_need (ws0 := ws0) (tb := tb) hws htb sh ro I18 J19 A hI18  2 hb   ⟨by omega, by omega⟩  
    obtain ⟨I26, J27, rfl, hI26, g25, k25, ⟨z25, rfl, q25⟩⟩ := P25
    have FI26 := gc_frc (W := fun q j => (q = 39 ∧ j = 3) ∨ (q = 39 ∧ j = 4) ∨ (q = 23 ∧ j = 5) ∨ (q = 23 ∧ j = 6) ∨ (q = 23 ∧ j = 7) ∨ (q = 23 ∧ j = 8) ∨ (q = 39 ∧ j = 7)) (V := fun q j => (q = 39 ∧ j = 3) ∨ (q = 39 ∧ j = 4)) FI18 (fun q j h => (h.elim (fun h => (Or.inl h)) (fun h => (Or.inr (Or.inl h))))) g25
    have t28 := (g25 23 1).resolve_left (by omega)
    have t29 := (g25 23 5).resolve_left (by omega)
    have t30 := (g25 23 6).resolve_left (by omega)
    have t31 := (g25 23 7).resolve_left (by omega)
    have f32 := (show 0 ≤ I26 23 1 ∧ I26 23 1 ≤ 1000 from gc_in hI26 R_23 rfl rfl)
    have f33 := (show 0 ≤ I26 23 5 ∧ I26 23 5 ≤ 1000 from gc_in hI26 R_23 rfl rfl)
    have f34 := (show 0 ≤ I26 23 6 ∧ I26 23 6 ≤ 1001 from gc_in hI26 R_23 rfl rfl)
    have f35 := (show 0 ≤ I26 23 7 ∧ I26 23 7 ≤ 125 from gc_in hI26 R_23 rfl rfl)
    obtain rfl : J19 = J27 := funext fun q => funext fun j => ((k25 q j).resolve_left id).symm
    have KLT_I26 := gc_LT_fr KLT_I18 ((g25 23 5).resolve_left (by omega)) ((g25 23 6).resolve_left (by omega)) ((g25 23 7).resolve_left (by omega)) (fun k => (g25 24 k).resolve_left (by omega))
    refine gv_callV hD rfl (As := [.inl 2]) (st := []) rfl B_39 S_39 rfl (gc_lV6 hws rfl) (Nat.le_of_ble_eq_true rfl) (gz_Ev_mono (d := 2) (by decide) E25) ?_
    show gv_X _ _ (29, [(0, .inr (.inr (some 39)))], [.inl z25], sh, gc_h sh I26 J19 A)
    refine gv_if_ne (t := 34) hD rfl rfl ⟨by omega, by omega⟩ (fun c36 => ?_) (fun c36 => ?_)
    · show gv_X _ _ (34, [(0, .inr (.inr (some 39)))], [], sh, gc_h sh I26 J19 A)
      refine gv_run 1 true hD (pc' := 35) (lv' := [(0, .inr (.inr (some 39)))]) (st' := [.inr (.inr (some 39))]) (h' := gc_h sh I26 J19 A) (C := (True ∧ True)) rfl ⟨trivial, trivial⟩ ?_
      refine gv_get hD rfl rfl S_39 ⟨by decide, B_39⟩ (gc_hA S_39 rfl A_39_1) ?_
      show gv_X _ _ (38, [(0, .inr (.inr (some 39)))], [.inr (.inr (some 23))], sh, gc_h sh I26 J19 A)
      have f37 := (show 0 ≤ I26 23 8 ∧ I26 23 8 ≤ 999999 from gc_in hI26 R_23 rfl rfl)
      refine gv_get hD rfl rfl S_23 ⟨by decide, B_23⟩ (gc_hI S_23 rfl) ?_
      show gv_X _ _ (41, [(0, .inr (.inr (some 39)))], [.inl (I26 23 8)], sh, gc_h sh I26 J19 A)
      refine gv_run 1 true hD (pc' := 44) (lv' := [(0, .inr (.inr (some 39)))]) (st' := [.inl 10000, .inl (I26 23 8)]) (h' := gc_h sh I26 J19 A) (C := (True ∧ True)) rfl ⟨trivial, trivial⟩ ?_
      refine gv_icmp_le (t := 60) hD rfl rfl ⟨⟨by omega, by omega⟩, ⟨by omega, by omega⟩⟩ (fun c38 => ?_) (fun c38 => ?_)
      · show gv_X _ _ (60, [(0, .inr (.inr (some 39)))], [], sh, gc_h sh I26 J19 A)
        refine gv_run 2 true hD (pc' := 62) (lv' := [(0, .inr (.inr (some 39)))]) (st' := [.inr (.inr (some 39)), .inr (.inr (some 39))]) (h' := gc_h sh I26 J19 A) (C := ((True ∧ True) ∧ True)) rfl ⟨⟨trivial, trivial⟩, trivial⟩ ?_
        refine gv_get hD rfl rfl S_39 ⟨by decide, B_39⟩ (gc_hA S_39 rfl A_39_1) ?_
        show gv_X _ _ (65, [(0, .inr (.inr (some 39)))], [.inr (.inr (some 23)), .inr (.inr (some 39))], sh, gc_h sh I26 J19 A)
        have f39 := (show 0 ≤ I26 23 8 ∧ I26 23 8 ≤ 999999 from gc_in hI26 R_23 rfl rfl)
        refine gv_get hD rfl rfl S_23 ⟨by decide, B_23⟩ (gc_hI S_23 rfl) ?_
        show gv_X _ _ (68, [(0, .inr (.inr (some 39)))], [.inl (I26 23 8), .inr (.inr (some 39))], sh, gc_h sh I26 J19 A)
        refine gv_put hD rfl rfl S_39 ⟨by decide, B_39⟩ rfl trivial ?_
        refine gc_st (k := 7) hI26 S_39 rfl R_39 (lo := 0) (hi := 10000) rfl rfl (by omega) (by omega) (fun I40 hI40 q41 p41 => ?_)
        have FI40 := gc_frs (W := fun q j => (q = 39 ∧ j = 3) ∨ (q = 39 ∧ j = 4) ∨ (q = 23 ∧ j = 5) ∨ (q = 23 ∧ j = 6) ∨ (q = 23 ∧ j = 7) ∨ (q = 23 ∧ j = 8) ∨ (q = 39 ∧ j = 7)) FI26 (Or.inr (Or.inr (Or.inr (Or.inr (Or.inr (Or.inr ⟨rfl, rfl⟩)))))) p41
        have t42 := p41 23 1 (fun h => absurd h.1 (by omega))
        have t43 := p41 23 5 (fun h => absurd h.1 (by omega))
        have t44 := p41 23 6 (fun h => absurd h.1 (by omega))
        have t45 := p41 23 7 (fun h => absurd h.1 (by omega))
        have f46 := (show 0 ≤ I40 23 1 ∧ I40 23 1 ≤ 1000 from gc_in hI40 R_23 rfl rfl)
        have f47 := (show 0 ≤ I40 23 5 ∧ I40 23 5 ≤ 1000 from gc_in hI40 R_23 rfl rfl)
        have f48 := (show 0 ≤ I40 23 6 ∧ I40 23 6 ≤ 1001 from gc_in hI40 R_23 rfl rfl)
        have f49 := (show 0 ≤ I40 23 7 ∧ I40 23 7 ≤ 125 from gc_in hI40 R_23 rfl rfl)
        have KLT_I40 := gc_LT_fr KLT_I26 (p41 23 5 (fun h => absurd h.1 (by omega))) (p41 23 6 (fun h => absurd h.1 (by omega))) (p41 23 7 (fun h => absurd h.1 (by omega))) (fun k => p41 24 k (fun h => absurd h.1 (by omega)))
        show gv_X _ _ (71, [(0, .inr (.inr (some 39)))], [], sh, gc_h sh I40 J19 A)
        refine gv_run 1 true hD (pc' := 72) (lv' := [(0, .inr (.inr (some 39)))]) (st' := [.inr (.inr (some 39))]) (h' := gc_h sh I40 J19 A) (C := (True ∧ True)) rfl ⟨trivial, trivial⟩ ?_
        refine gv_get hD rfl rfl S_39 ⟨by decide, B_39⟩ (gc_hA S_39 rfl A_39_1) ?_
        show gv_X _ _ (75, [(0, .inr (.inr (some 39)))], [.inr (.inr (some 23))], sh, gc_h sh I40 J19 A)
        obtain ⟨r50, h50, E50, P50⟩ := d_X9_advance (ws0 := ws0) (tb := tb) hws htb sh ro I40 J19 A hI40 23  (gc_b23 hb)    (by omega) 
        obtain ⟨I51, J52, rfl, hI51, g50, k50, ⟨rfl, q50⟩⟩ := P50
        have FI51 := gc_frc (W := fun q j => (q = 39 ∧ j = 3) ∨ (q = 39 ∧ j = 4) ∨ (q = 23 ∧ j = 5) ∨ (q = 23 ∧ j = 6) ∨ (q = 23 ∧ j = 7) ∨ (q = 23 ∧ j = 8) ∨ (q = 39 ∧ j = 7)) (V := fun q j => (q = 23 ∧ j = 5) ∨ (q = 23 ∧ j = 6) ∨ (q = 23 ∧ j = 7) ∨ (q = 23 ∧ j = 8)) FI40 (fun q j h => (h.elim (fun h => (Or.inr (Or.inr (Or.inl h)))) (fun h => (h.elim (fun h => (Or.inr (Or.inr (Or.inr (Or.inl h))))) (fun h => (h.elim (fun h => (Or.inr (Or.inr (Or.inr (Or.inr (Or.inl h)))))) (fun h => (Or.inr (Or.inr (Or.inr (Or.inr (Or.inr (Or.inl h))))))))))))) g50
        have FJ52 := gc_frc (W := fun q j => (q = 23 ∧ j = 9)) (V := fun q j => (q = 23 ∧ j = 9)) FJ19 (fun q j h => h) k50
        have t53 := (g50 23 1).resolve_left (by omega)
        have f54 := (show 0 ≤ I51 23 1 ∧ I51 23 1 ≤ 1000 from gc_in hI51 R_23 rfl rfl)
        have f55 := (show 0 ≤ I51 23 5 ∧ I51 23 5 ≤ 1000 from gc_in hI51 R_23 rfl rfl)
        have f56 := (show 0 ≤ I51 23 6 ∧ I51 23 6 ≤ 1001 from gc_in hI51 R_23 rfl rfl)
        have f57 := (show 0 ≤ I51 23 7 ∧ I51 23 7 ≤ 125 from gc_in hI51 R_23 rfl rfl)
        have KLT_I51 : gc_LT I51 := q50.2.2.2.2.2.2.2
        refine gv_callV hD rfl (As := []) (st := []) rfl B_23 S_23 rfl (gc_lV6 hws rfl) (Nat.le_of_ble_eq_true rfl) (gz_Ev_mono (d := 2) (by decide) E50) ?_
        show gv_X _ _ (78, [(0, .inr (.inr (some 39)))], [], sh, gc_h sh I51 J52 A)
        refine gv_run 1 true hD (pc' := 79) (lv' := [(0, .inr (.inr (some 39)))]) (st' := [.inl 1]) (h' := gc_h sh I51 J52 A) (C := (True ∧ True)) rfl ⟨trivial, trivial⟩ ?_
        exact gv_zret hD rfl (by omega) ⟨I51, J52, rfl, hI51, FI51, FJ52, KLT_I51, ⟨_, rfl, by omega⟩⟩
      · show gv_X _ _ (47, [(0, .inr (.inr (some 39)))], [], sh, gc_h sh I26 J19 A)
        refine gv_run 3 true hD (pc' := 50) (lv' := [(0, .inr (.inr (some 39)))]) (st' := [.inr (.inr (some 39)), .inl 5, .inr (.inr (some 39))]) (h' := gc_h sh I26 J19 A) (C := (((True ∧ True) ∧ True) ∧ True)) rfl ⟨⟨⟨trivial, trivial⟩, trivial⟩, trivial⟩ ?_
        refine gv_get hD rfl rfl S_39 ⟨by decide, B_39⟩ (gc_hA S_39 rfl A_39_1) ?_
        show gv_X _ _ (53, [(0, .inr (.inr (some 39)))], [.inr (.inr (some 23)), .inl 5, .inr (.inr (some 39))], sh, gc_h sh I26 J19 A)
        have f58 := (show 0 ≤ I26 23 5 ∧ I26 23 5 ≤ 1000 from gc_in hI26 R_23 rfl rfl)
        refine gv_get hD rfl rfl S_23 ⟨by decide, B_23⟩ (gc_hI S_23 rfl) ?_
        show gv_X _ _ (56, [(0, .inr (.inr (some 39)))], [.inl (I26 23 5), .inl 5, .inr (.inr (some 39))], sh, gc_h sh I26 J19 A)
        obtain ⟨r59, h59, E59, P59⟩ := d_X6_wrong (ws0 := ws0) (tb := tb) hws htb sh ro I26 J19 A hI26  5 (I26 23 5) hb   ⟨by omega, by omega⟩ ⟨by omega, by omega⟩  
        obtain ⟨I60, J61, rfl, hI60, g59, k59, ⟨z59, rfl, q59⟩⟩ := P59
        have FI60 := gc_frc (W := fun q j => (q = 39 ∧ j = 3) ∨ (q = 39 ∧ j = 4) ∨ (q = 23 ∧ j = 5) ∨ (q = 23 ∧ j = 6) ∨ (q = 23 ∧ j = 7) ∨ (q = 23 ∧ j = 8) ∨ (q = 39 ∧ j = 7)) (V := fun q j => (q = 39 ∧ j = 3) ∨ (q = 39 ∧ j = 4)) FI26 (fun q j h => (h.elim (fun h => (Or.inl h)) (fun h => (Or.inr (Or.inl h))))) g59
        have t62 := (g59 23 1).resolve_left (by omega)
        have t63 := (g59 23 5).resolve_left (by omega)
        have t64 := (g59 23 6).resolve_left (by omega)
        have t65 := (g59 23 7).resolve_left (by omega)
        have f66 := (show 0 ≤ I60 23 1 ∧ I60 23 1 ≤ 1000 from gc_in hI60 R_23 rfl rfl)
        have f67 := (show 0 ≤ I60 23 5 ∧ I60 23 5 ≤ 1000 from gc_in hI60 R_23 rfl rfl)
        have f68 := (show 0 ≤ I60 23 6 ∧ I60 23 6 ≤ 1001 from gc_in hI60 R_23 rfl rfl)
        have f69 := (show 0 ≤ I60 23 7 ∧ I60 23 7 ≤ 125 from gc_in hI60 R_23 rfl rfl)
        obtain rfl : J19 = J61 := funext fun q => funext fun j => ((k59 q j).resolve_left id).symm
        have KLT_I60 := gc_LT_fr KLT_I26 ((g59 23 5).resolve_left (by omega)) ((g59 23 6).resolve_left (by omega)) ((g59 23 7).resolve_left (by omega)) (fun k => (g59 24 k).resolve_left (by omega))
        refine gv_callV hD rfl (As := [.inl 5, .inl (I26 23 5)]) (st := []) rfl B_39 S_39 rfl (gc_lV6 hws rfl) (Nat.le_of_ble_eq_true rfl) (gz_Ev_mono (d := 1) (by decide) E59) ?_
        show gv_X _ _ (59, [(0, .inr (.inr (some 39)))], [.inl z59], sh, gc_h sh I60 J19 A)
        exact gv_zret hD rfl (by omega) ⟨I60, J19, rfl, hI60, FI60, FJ19, KLT_I60, ⟨_, rfl, by omega⟩⟩
    · show gv_X _ _ (32, [(0, .inr (.inr (some 39)))], [], sh, gc_h sh I26 J19 A)
      refine gv_run 1 true hD (pc' := 33) (lv' := [(0, .inr (.inr (some 39)))]) (st' := [.inl 0]) (h' := gc_h sh I26 J19 A) (C := (True ∧ True)) rfl ⟨trivial, trivial⟩ ?_
      exact gv_zret hD rfl (by omega) ⟨I26, J19, rfl, hI26, FI26, FJ19, KLT_I26, ⟨_, rfl, by omega⟩⟩
  · show gv_X _ _ (15, [(0, .inr (.inr (some 39)))], [], sh, gc_h sh I5 J A)
    refine gv_run 1 true hD (pc' := 16) (lv' := [(0, .inr (.inr (some 39)))]) (st' := [.inl 1]) (h' := gc_h sh I5 J A) (C := (True ∧ True)) rfl ⟨trivial, trivial⟩ ?_
    exact gv_zret hD rfl (by omega) ⟨I5, J, rfl, hI5, FI5, FJ, KLT_I5, ⟨_, rfl, by omega⟩⟩
