set_option maxHeartbeats 4000000 in
set_option maxRecDepth 100000 in
theorem d_X6_readBinder {ws0 : List Cond} {tb : String → gz_T} (hws : gc_Ws ws0) (htb : gc_tbs tb) (sh : gz_Sh) (ro : Nat → Nat) (A : gc_A) (b : Int)  (hb : gc_Base sh ro A) (nr : Nat) (ihR : ∀ (I : gr_I) (J : gr_J) (hI : gc_Inv ro I) (a1 : Int) (a2 : Int) (ha1 : 0 ≤ a1 ∧ a1 ≤ 95) (ha2 : 1 ≤ a2 ∧ a2 ≤ 41) (x0 : I 23 5 ≤ I 23 6) (x1 : I 23 7 = 5 ∨ I 23 6 ≤ I 23 1) (x2 : I 23 5 ≤ I 23 1) (x3 : I 23 7 = 4 ∨ (I 23 5 < I 23 6 ∧ I 23 5 < I 23 1)) (x4 : I 23 7 = 3 → 2 ≤ I 23 6 - I 23 5 ∧ I 23 6 - I 23 5 ≤ 14) (x5 : I 39 12 ≤ I 23 5) (x6 : I 39 15 ≤ a2 - 1) (x7 : b ≤ -3 - I 12 (Int.toNat a1)) (x8 : b ≤ -3) (KLT_I : gc_LT I) (KTO_I : gc_TO b I) (_ : (42 - a2).toNat < nr), ∃ r h', gz_Ev ws0 tb (6 + 2 * nr) (yX6_readTerm, cX6_readTerm, 7, (some .boolean)) [.inr (.inr (some 39)), .inl a1, .inl a2] sh (gc_h sh I J A) r sh h' 0 0 ∧ (∃ (I' : gr_I) (J' : gr_J), h' = gc_h sh I' J' A ∧ gc_Inv ro I' ∧ (∀ q j : Nat, ((q = 39 ∧ j = 3) ∨ (q = 39 ∧ j = 4) ∨ (q = 23 ∧ j = 5) ∨ (q = 23 ∧ j = 6) ∨ (q = 23 ∧ j = 7) ∨ (q = 23 ∧ j = 8) ∨ (q = 39 ∧ j = 12) ∨ (q = 39 ∧ j = 15) ∨ q = 43) ∨ I' q j = I q j) ∧ (∀ q j : Nat, ((q = 23 ∧ j = 9) ∨ q = 44 ∨ q = 45) ∨ J' q j = J q j) ∧ gc_LT I' ∧ gc_TO b I' ∧ (∃ z : Int, r = some (.inl z) ∧ 0 ≤ z ∧ z ≤ 1 ∧ (I' 23 5 ≤ I' 23 6) ∧ (I' 23 7 = 5 ∨ I' 23 6 ≤ I' 23 1) ∧ (I' 23 5 ≤ I' 23 1) ∧ (I' 23 7 = 4 ∨ (I' 23 5 < I' 23 6 ∧ I' 23 5 < I' 23 1)) ∧ (I' 23 7 = 3 → 2 ≤ I' 23 6 - I' 23 5 ∧ I' 23 6 - I' 23 5 ≤ 14) ∧ (I' 23 1 = I 23 1) ∧ (I 23 5 ≤ I' 23 5) ∧ (I' 39 12 ≤ I' 23 5) ∧ (z = 0 ∨ I' 39 15 = I 39 15) ∧ (I 39 12 ≤ I' 39 12)))) (I : gr_I) (J : gr_J) (hI : gc_Inv ro I) (a1 : Int) (a2 : Int) (ha1 : 0 ≤ a1 ∧ a1 ≤ 95) (ha2 : 1 ≤ a2 ∧ a2 ≤ 40) (x0 : I 23 5 ≤ I 23 6) (x1 : I 23 7 = 5 ∨ I 23 6 ≤ I 23 1) (x2 : I 23 5 ≤ I 23 1) (x3 : I 23 7 = 4 ∨ (I 23 5 < I 23 6 ∧ I 23 5 < I 23 1)) (x4 : I 23 7 = 3 → 2 ≤ I 23 6 - I 23 5 ∧ I 23 6 - I 23 5 ≤ 14) (x5 : I 39 12 ≤ I 23 5) (x6 : I 39 15 ≤ a2 - 1) (x7 : b ≤ -3 - I 12 (Int.toNat a1)) (x8 : b ≤ -3) (x9 : I 23 7 = 92) (KLT_I : gc_LT I) (KTO_I : gc_TO b I) (hnr : (41 - a2).toNat < nr) : ∃ r h', gz_Ev ws0 tb (6 + 2 * nr + 1) (yX6_readBinder, cX6_readBinder, 3, (some .boolean)) [.inr (.inr (some 39)), .inl a1, .inl a2] sh (gc_h sh I J A) r sh h' 0 0 ∧ (∃ (I' : gr_I) (J' : gr_J), h' = gc_h sh I' J' A ∧ gc_Inv ro I' ∧ (∀ q j : Nat, ((q = 39 ∧ j = 3) ∨ (q = 39 ∧ j = 4) ∨ (q = 23 ∧ j = 5) ∨ (q = 23 ∧ j = 6) ∨ (q = 23 ∧ j = 7) ∨ (q = 23 ∧ j = 8) ∨ (q = 39 ∧ j = 12) ∨ (q = 39 ∧ j = 15) ∨ q = 43) ∨ I' q j = I q j) ∧ (∀ q j : Nat, ((q = 23 ∧ j = 9) ∨ q = 44 ∨ q = 45) ∨ J' q j = J q j) ∧ gc_LT I' ∧ gc_TO b I' ∧ (∃ z : Int, r = some (.inl z) ∧ 0 ≤ z ∧ z ≤ 1 ∧ (I' 23 5 ≤ I' 23 6) ∧ (I' 23 7 = 5 ∨ I' 23 6 ≤ I' 23 1) ∧ (I' 23 5 ≤ I' 23 1) ∧ (I' 23 7 = 4 ∨ (I' 23 5 < I' 23 6 ∧ I' 23 5 < I' 23 1)) ∧ (I' 23 7 = 3 → 2 ≤ I' 23 6 - I' 23 5 ∧ I' 23 6 - I' 23 5 ≤ 14) ∧ (I' 23 1 = I 23 1) ∧ (I 23 5 ≤ I' 23 5) ∧ (I' 39 12 ≤ I' 23 5) ∧ (z = 0 ∨ I' 39 15 = I 39 15) ∧ (I 39 12 ≤ I' 39 12))) := by
  have FI : ∀ q j : Nat, ((q = 39 ∧ j = 3) ∨ (q = 39 ∧ j = 4) ∨ (q = 23 ∧ j = 5) ∨ (q = 23 ∧ j = 6) ∨ (q = 23 ∧ j = 7) ∨ (q = 23 ∧ j = 8) ∨ (q = 39 ∧ j = 12) ∨ (q = 39 ∧ j = 15) ∨ q = 43) ∨ I q j = I q j := fun _ _ => Or.inr rfl
  have FJ : ∀ q j : Nat, ((q = 23 ∧ j = 9) ∨ q = 44 ∨ q = 45) ∨ J q j = J q j := fun _ _ => Or.inr rfl
  have A_39_1 : A 39 1 = some 23 := gc_bA hb rfl
  have A_39_16 : A 39 16 = some 45 := gc_bA hb rfl
  have B_23 : 23 < 1000000 := by decide
  have B_39 : 39 < 1000000 := by decide
  have B_45 : 45 < 1000000 := by decide
  have R_23 : ro 23 = 3 := gc_bR hb (by decide) rfl
  have R_39 : ro 39 = 42 := gc_bR hb (by decide) rfl
  have S_23 : sh[23]? = some (false, 9, 10) := gc_bS hb rfl
  have S_39 : sh[39]? = some (false, 6, 19) := gc_bS hb rfl
  have S_45 : sh[45]? = some (true, 2, 41) := gc_bS hb rfl
  have hD : gv_D (gc_E6 ws0 tb (6 + 2 * nr) (yX6_readBinder, cX6_readBinder, 3, (some .boolean)) kX6_readBinder) := gq_ok oX6_readBinder
  refine gc_ev6 (d := (6 + 2 * nr)) (l := kX6_readBinder) (Po := fun r h' => (∃ (I' : gr_I) (J' : gr_J), h' = gc_h sh I' J' A ∧ gc_Inv ro I' ∧ (∀ q j : Nat, ((q = 39 ∧ j = 3) ∨ (q = 39 ∧ j = 4) ∨ (q = 23 ∧ j = 5) ∨ (q = 23 ∧ j = 6) ∨ (q = 23 ∧ j = 7) ∨ (q = 23 ∧ j = 8) ∨ (q = 39 ∧ j = 12) ∨ (q = 39 ∧ j = 15) ∨ q = 43) ∨ I' q j = I q j) ∧ (∀ q j : Nat, ((q = 23 ∧ j = 9) ∨ q = 44 ∨ q = 45) ∨ J' q j = J q j) ∧ gc_LT I' ∧ gc_TO b I' ∧ (∃ z : Int, r = some (.inl z) ∧ 0 ≤ z ∧ z ≤ 1 ∧ (I' 23 5 ≤ I' 23 6) ∧ (I' 23 7 = 5 ∨ I' 23 6 ≤ I' 23 1) ∧ (I' 23 5 ≤ I' 23 1) ∧ (I' 23 7 = 4 ∨ (I' 23 5 < I' 23 6 ∧ I' 23 5 < I' 23 1)) ∧ (I' 23 7 = 3 → 2 ≤ I' 23 6 - I' 23 5 ∧ I' 23 6 - I' 23 5 ≤ 14) ∧ (I' 23 1 = I 23 1) ∧ (I 23 5 ≤ I' 23 5) ∧ (I' 39 12 ≤ I' 23 5) ∧ (z = 0 ∨ I' 39 15 = I 39 15) ∧ (I 39 12 ≤ I' 39 12)))) htb rfl (Nat.le_of_ble_eq_true rfl) ?_
  have f1 := (show 0 ≤ I 23 1 ∧ I 23 1 ≤ 1000 from gc_in hI R_23 rfl rfl)
  have f2 := (show 0 ≤ I 23 5 ∧ I 23 5 ≤ 1000 from gc_in hI R_23 rfl rfl)
  have f3 := (show 0 ≤ I 23 6 ∧ I 23 6 ≤ 1001 from gc_in hI R_23 rfl rfl)
  have f4 := (show 0 ≤ I 23 7 ∧ I 23 7 ≤ 125 from gc_in hI R_23 rfl rfl)
  have f5 := (show 0 ≤ I 39 12 ∧ I 39 12 ≤ 2000 from gc_in hI R_39 rfl rfl)
  have f6 := (show 0 ≤ I 39 15 ∧ I 39 15 ≤ 41 from gc_in hI R_39 rfl rfl)
  have L78 : ∀ (I7 : gr_I) (J8 : gr_J) , gc_Inv ro I7 → (∀ q j : Nat, ((q = 39 ∧ j = 3) ∨ (q = 39 ∧ j = 4) ∨ (q = 23 ∧ j = 5) ∨ (q = 23 ∧ j = 6) ∨ (q = 23 ∧ j = 7) ∨ (q = 23 ∧ j = 8) ∨ (q = 39 ∧ j = 12) ∨ (q = 39 ∧ j = 15) ∨ q = 43) ∨ I7 q j = I q j) → (∀ q j : Nat, ((q = 23 ∧ j = 9) ∨ q = 44 ∨ q = 45) ∨ J8 q j = J q j) → gc_LT I7 → gc_TO b I7 → ((I7 39 12 ≤ I7 23 5) ∧ (I 39 12 ≤ I7 39 12) ∧ (b ≤ -3 - I7 12 (Int.toNat a1)) ∧ (I7 23 5 ≤ I7 23 6) ∧ (I7 23 7 = 5 ∨ I7 23 6 ≤ I7 23 1) ∧ (I7 23 5 ≤ I7 23 1) ∧ (I7 23 7 = 4 ∨ (I7 23 5 < I7 23 6 ∧ I7 23 5 < I7 23 1)) ∧ (I7 23 7 = 3 → 2 ≤ I7 23 6 - I7 23 5 ∧ I7 23 6 - I7 23 5 ≤ 14) ∧ (I7 23 1 = I 23 1) ∧ (I 23 5 ≤ I7 23 5)) → gv_X (gc_E6 ws0 tb (6 + 2 * nr) (yX6_readBinder, cX6_readBinder, 3, (some .boolean)) kX6_readBinder) (gv_Q cX6_readBinder (some .boolean) sh (fun r h' => (∃ (I' : gr_I) (J' : gr_J), h' = gc_h sh I' J' A ∧ gc_Inv ro I' ∧ (∀ q j : Nat, ((q = 39 ∧ j = 3) ∨ (q = 39 ∧ j = 4) ∨ (q = 23 ∧ j = 5) ∨ (q = 23 ∧ j = 6) ∨ (q = 23 ∧ j = 7) ∨ (q = 23 ∧ j = 8) ∨ (q = 39 ∧ j = 12) ∨ (q = 39 ∧ j = 15) ∨ q = 43) ∨ I' q j = I q j) ∧ (∀ q j : Nat, ((q = 23 ∧ j = 9) ∨ q = 44 ∨ q = 45) ∨ J' q j = J q j) ∧ gc_LT I' ∧ gc_TO b I' ∧ (∃ z : Int, r = some (.inl z) ∧ 0 ≤ z ∧ z ≤ 1 ∧ (I' 23 5 ≤ I' 23 6) ∧ (I' 23 7 = 5 ∨ I' 23 6 ≤ I' 23 1) ∧ (I' 23 5 ≤ I' 23 1) ∧ (I' 23 7 = 4 ∨ (I' 23 5 < I' 23 6 ∧ I' 23 5 < I' 23 1)) ∧ (I' 23 7 = 3 → 2 ≤ I' 23 6 - I' 23 5 ∧ I' 23 6 - I' 23 5 ≤ 14) ∧ (I' 23 1 = I 23 1) ∧ (I 23 5 ≤ I' 23 5) ∧ (I' 39 12 ≤ I' 23 5) ∧ (z = 0 ∨ I' 39 15 = I 39 15) ∧ (I 39 12 ≤ I' 39 12))))) (78, [], [], sh, gc_h sh I7 J8 A) := by
    intro I7 J8 hI7 FI7 FJ8 KLT_I7 KTO_I7 m_9
    clear x0 x1 x2 x3 x4
    obtain ⟨e0_9, e1_9, e2_9, e3_9, e4_9, e5_9, e6_9, e7_9, e8_9, e9_9⟩ := m_9
    have f10 := (show 0 ≤ I7 23 1 ∧ I7 23 1 ≤ 1000 from gc_in hI7 R_23 rfl rfl)
    have f11 := (show 0 ≤ I7 23 5 ∧ I7 23 5 ≤ 1000 from gc_in hI7 R_23 rfl rfl)
    have f12 := (show 0 ≤ I7 23 6 ∧ I7 23 6 ≤ 1001 from gc_in hI7 R_23 rfl rfl)
    have f13 := (show 0 ≤ I7 23 7 ∧ I7 23 7 ≤ 125 from gc_in hI7 R_23 rfl rfl)
    have f14 := (show 0 ≤ I7 39 12 ∧ I7 39 12 ≤ 2000 from gc_in hI7 R_39 rfl rfl)
    have f15 := (show 0 ≤ I7 39 15 ∧ I7 39 15 ≤ 41 from gc_in hI7 R_39 rfl rfl)
    refine gv_run 1 true hD (pc' := 79) (lv' := []) (st' := [.inl 0]) (h' := gc_h sh I7 J8 A) (C := (True ∧ True)) rfl ⟨trivial, trivial⟩ ?_
    exact gv_zret hD rfl (by omega) ⟨I7, J8, rfl, hI7, FI7, FJ8, KLT_I7, KTO_I7, ⟨_, rfl, by omega⟩⟩
  refine gv_run 1 true hD (pc' := 1) (lv' := [(0, .inr (.inr (some 39))), (1, .inl a1), (2, .inl a2)]) (st' := [.inr (.inr (some 39))]) (h' := gc_h sh I J A) (C := (True ∧ True)) rfl ⟨trivial, trivial⟩ ?_
  refine gv_get hD rfl rfl S_39 ⟨by decide, B_39⟩ (gc_hA S_39 rfl A_39_1) ?_
  show gv_X _ _ (4, [(0, .inr (.inr (some 39))), (1, .inl a1), (2, .inl a2)], [.inr (.inr (some 23))], sh, gc_h sh I J A)
  obtain ⟨r16, h16, E16, P16⟩ := d_X9_advance (ws0 := ws0) (tb := tb) hws htb sh ro I J A hI 23  (gc_b23 hb)    (by omega) 
  obtain ⟨I17, J18, rfl, hI17, g16, k16, ⟨rfl, q16⟩⟩ := P16
  have FI17 := gc_frc (W := fun q j => (q = 39 ∧ j = 3) ∨ (q = 39 ∧ j = 4) ∨ (q = 23 ∧ j = 5) ∨ (q = 23 ∧ j = 6) ∨ (q = 23 ∧ j = 7) ∨ (q = 23 ∧ j = 8) ∨ (q = 39 ∧ j = 12) ∨ (q = 39 ∧ j = 15) ∨ q = 43) (V := fun q j => (q = 23 ∧ j = 5) ∨ (q = 23 ∧ j = 6) ∨ (q = 23 ∧ j = 7) ∨ (q = 23 ∧ j = 8)) FI (fun q j h => (h.elim (fun h => (Or.inr (Or.inr (Or.inl h)))) (fun h => (h.elim (fun h => (Or.inr (Or.inr (Or.inr (Or.inl h))))) (fun h => (h.elim (fun h => (Or.inr (Or.inr (Or.inr (Or.inr (Or.inl h)))))) (fun h => (Or.inr (Or.inr (Or.inr (Or.inr (Or.inr (Or.inl h))))))))))))) g16
  have FJ18 := gc_frc (W := fun q j => (q = 23 ∧ j = 9) ∨ q = 44 ∨ q = 45) (V := fun q j => (q = 23 ∧ j = 9)) FJ (fun q j h => (Or.inl h)) k16
  have t19 := (g16 23 1).resolve_left (by omega)
  have t20 := (g16 39 12).resolve_left (by omega)
  have t21 := (g16 39 15).resolve_left (by omega)
  have t22 := (g16 12 (Int.toNat a1)).resolve_left (by omega)
  have f23 := (show 0 ≤ I17 23 1 ∧ I17 23 1 ≤ 1000 from gc_in hI17 R_23 rfl rfl)
  have f24 := (show 0 ≤ I17 23 5 ∧ I17 23 5 ≤ 1000 from gc_in hI17 R_23 rfl rfl)
  have f25 := (show 0 ≤ I17 23 6 ∧ I17 23 6 ≤ 1001 from gc_in hI17 R_23 rfl rfl)
  have f26 := (show 0 ≤ I17 23 7 ∧ I17 23 7 ≤ 125 from gc_in hI17 R_23 rfl rfl)
  have f27 := (show 0 ≤ I17 39 12 ∧ I17 39 12 ≤ 2000 from gc_in hI17 R_39 rfl rfl)
  have f28 := (show 0 ≤ I17 39 15 ∧ I17 39 15 ≤ 41 from gc_in hI17 R_39 rfl rfl)
  have KLT_I17 : gc_LT I17 := q16.2.2.2.2.2.2.2
  have KTO_I17 := gc_TO_fr KTO_I ((g16 39 12).resolve_left (by omega)) (fun k => (g16 43 k).resolve_left (by omega))
  refine gv_callV hD rfl (As := []) (st := []) rfl B_23 S_23 rfl (gc_lV6 hws rfl) (Nat.le_of_ble_eq_true rfl) (gz_Ev_mono (d := 2) (by omega) E16) ?_
  show gv_X _ _ (7, [(0, .inr (.inr (some 39))), (1, .inl a1), (2, .inl a2)], [], sh, gc_h sh I17 J18 A)
  refine gv_run 2 true hD (pc' := 9) (lv' := [(0, .inr (.inr (some 39))), (1, .inl a1), (2, .inl a2)]) (st' := [.inl 1, .inr (.inr (some 39))]) (h' := gc_h sh I17 J18 A) (C := ((True ∧ True) ∧ True)) rfl ⟨⟨trivial, trivial⟩, trivial⟩ ?_
  obtain ⟨r29, h29, E29, P29⟩ := d_X6_need (ws0 := ws0) (tb := tb) hws htb sh ro I17 J18 A hI17  1 hb   ⟨by omega, by omega⟩  
  obtain ⟨I30, J31, rfl, hI30, g29, k29, ⟨z29, rfl, q29⟩⟩ := P29
  have FI30 := gc_frc (W := fun q j => (q = 39 ∧ j = 3) ∨ (q = 39 ∧ j = 4) ∨ (q = 23 ∧ j = 5) ∨ (q = 23 ∧ j = 6) ∨ (q = 23 ∧ j = 7) ∨ (q = 23 ∧ j = 8) ∨ (q = 39 ∧ j = 12) ∨ (q = 39 ∧ j = 15) ∨ q = 43) (V := fun q j => (q = 39 ∧ j = 3) ∨ (q = 39 ∧ j = 4)) FI17 (fun q j h => (h.elim (fun h => (Or.inl h)) (fun h => (Or.inr (Or.inl h))))) g29
  have t32 := (g29 23 1).resolve_left (by omega)
  have t33 := (g29 23 5).resolve_left (by omega)
  have t34 := (g29 23 6).resolve_left (by omega)
  have t35 := (g29 23 7).resolve_left (by omega)
  have t36 := (g29 39 12).resolve_left (by omega)
  have t37 := (g29 39 15).resolve_left (by omega)
  have t38 := (g29 12 (Int.toNat a1)).resolve_left (by omega)
  have f39 := (show 0 ≤ I30 23 1 ∧ I30 23 1 ≤ 1000 from gc_in hI30 R_23 rfl rfl)
  have f40 := (show 0 ≤ I30 23 5 ∧ I30 23 5 ≤ 1000 from gc_in hI30 R_23 rfl rfl)
  have f41 := (show 0 ≤ I30 23 6 ∧ I30 23 6 ≤ 1001 from gc_in hI30 R_23 rfl rfl)
  have f42 := (show 0 ≤ I30 23 7 ∧ I30 23 7 ≤ 125 from gc_in hI30 R_23 rfl rfl)
  have f43 := (show 0 ≤ I30 39 12 ∧ I30 39 12 ≤ 2000 from gc_in hI30 R_39 rfl rfl)
  have f44 := (show 0 ≤ I30 39 15 ∧ I30 39 15 ≤ 41 from gc_in hI30 R_39 rfl rfl)
  obtain rfl : J18 = J31 := funext fun q => funext fun j => ((k29 q j).resolve_left id).symm
  have KLT_I30 := gc_LT_fr KLT_I17 ((g29 23 5).resolve_left (by omega)) ((g29 23 6).resolve_left (by omega)) ((g29 23 7).resolve_left (by omega)) (fun k => (g29 24 k).resolve_left (by omega))
  have KTO_I30 := gc_TO_fr KTO_I17 ((g29 39 12).resolve_left (by omega)) (fun k => (g29 43 k).resolve_left (by omega))
  refine gv_callV hD rfl (As := [.inl 1]) (st := []) rfl B_39 S_39 rfl (gc_lV6 hws rfl) (Nat.le_of_ble_eq_true rfl) (gz_Ev_mono (d := 2) (by omega) E29) ?_
  show gv_X _ _ (12, [(0, .inr (.inr (some 39))), (1, .inl a1), (2, .inl a2)], [.inl z29], sh, gc_h sh I30 J18 A)
  refine gv_if_ne (t := 17) hD rfl rfl ⟨by omega, by omega⟩ (fun c45 => ?_) (fun c45 => ?_)
  · show gv_X _ _ (17, [(0, .inr (.inr (some 39))), (1, .inl a1), (2, .inl a2)], [], sh, gc_h sh I30 J18 A)
    refine gv_run 1 true hD (pc' := 18) (lv' := [(0, .inr (.inr (some 39))), (1, .inl a1), (2, .inl a2)]) (st' := [.inr (.inr (some 39))]) (h' := gc_h sh I30 J18 A) (C := (True ∧ True)) rfl ⟨trivial, trivial⟩ ?_
    refine gv_get hD rfl rfl S_39 ⟨by decide, B_39⟩ (gc_hA S_39 rfl A_39_16) ?_
    show gv_X _ _ (21, [(0, .inr (.inr (some 39))), (1, .inl a1), (2, .inl a2)], [.inr (.inr (some 45))], sh, gc_h sh I30 J18 A)
    refine gv_run 2 true hD (pc' := 23) (lv' := [(0, .inr (.inr (some 39))), (1, .inl a1), (2, .inl a2)]) (st' := [.inr (.inr (some 39)), .inr (.inr (some 39)), .inr (.inr (some 45))]) (h' := gc_h sh I30 J18 A) (C := ((True ∧ True) ∧ True)) rfl ⟨⟨trivial, trivial⟩, trivial⟩ ?_
    have f46 := (show 0 ≤ I30 39 15 ∧ I30 39 15 ≤ 41 from gc_in hI30 R_39 rfl rfl)
    refine gv_get hD rfl rfl S_39 ⟨by decide, B_39⟩ (gc_hI S_39 rfl) ?_
    show gv_X _ _ (26, [(0, .inr (.inr (some 39))), (1, .inl a1), (2, .inl a2)], [.inl (I30 39 15), .inr (.inr (some 39)), .inr (.inr (some 45))], sh, gc_h sh I30 J18 A)
    refine gv_run 3 true hD (pc' := 29) (lv' := [(0, .inr (.inr (some 39))), (1, .inl a1), (2, .inl a2)]) (st' := [.inl ((I30 39 15) + 1), .inr (.inr (some 39)), .inl (I30 39 15), .inr (.inr (some 45))]) (h' := gc_h sh I30 J18 A) (C := (((True ∧ True) ∧ True) ∧ True)) rfl ⟨⟨⟨trivial, trivial⟩, trivial⟩, trivial⟩ ?_
    refine gv_put hD rfl rfl S_39 ⟨by decide, B_39⟩ rfl trivial ?_
    refine gc_st (k := 15) hI30 S_39 rfl R_39 (lo := 0) (hi := 41) rfl rfl (by omega) (by omega) (fun I47 hI47 q48 p48 => ?_)
    have FI47 := gc_frs (W := fun q j => (q = 39 ∧ j = 3) ∨ (q = 39 ∧ j = 4) ∨ (q = 23 ∧ j = 5) ∨ (q = 23 ∧ j = 6) ∨ (q = 23 ∧ j = 7) ∨ (q = 23 ∧ j = 8) ∨ (q = 39 ∧ j = 12) ∨ (q = 39 ∧ j = 15) ∨ q = 43) FI30 (Or.inr (Or.inr (Or.inr (Or.inr (Or.inr (Or.inr (Or.inr (Or.inl ⟨rfl, rfl⟩)))))))) p48
    have t49 := p48 23 1 (fun h => absurd h.1 (by omega))
    have t50 := p48 23 5 (fun h => absurd h.1 (by omega))
    have t51 := p48 23 6 (fun h => absurd h.1 (by omega))
    have t52 := p48 23 7 (fun h => absurd h.1 (by omega))
    have t53 := p48 39 12 (fun h => absurd h.2 (by decide))
    have t54 := p48 12 (Int.toNat a1) (fun h => absurd h.1 (by omega))
    have f55 := (show 0 ≤ I47 23 1 ∧ I47 23 1 ≤ 1000 from gc_in hI47 R_23 rfl rfl)
    have f56 := (show 0 ≤ I47 23 5 ∧ I47 23 5 ≤ 1000 from gc_in hI47 R_23 rfl rfl)
    have f57 := (show 0 ≤ I47 23 6 ∧ I47 23 6 ≤ 1001 from gc_in hI47 R_23 rfl rfl)
    have f58 := (show 0 ≤ I47 23 7 ∧ I47 23 7 ≤ 125 from gc_in hI47 R_23 rfl rfl)
    have f59 := (show 0 ≤ I47 39 12 ∧ I47 39 12 ≤ 2000 from gc_in hI47 R_39 rfl rfl)
    have f60 := (show 0 ≤ I47 39 15 ∧ I47 39 15 ≤ 41 from gc_in hI47 R_39 rfl rfl)
    have KLT_I47 := gc_LT_fr KLT_I30 (p48 23 5 (fun h => absurd h.1 (by omega))) (p48 23 6 (fun h => absurd h.1 (by omega))) (p48 23 7 (fun h => absurd h.1 (by omega))) (fun k => p48 24 k (fun h => absurd h.1 (by omega)))
    have KTO_I47 := gc_TO_fr KTO_I30 (p48 39 12 (fun h => absurd h.2 (by decide))) (fun k => p48 43 k (fun h => absurd h.1 (by omega)))
    show gv_X _ _ (32, [(0, .inr (.inr (some 39))), (1, .inl a1), (2, .inl a2)], [.inl (I30 39 15), .inr (.inr (some 45))], sh, gc_h sh I47 J18 A)
    refine gv_run 1 true hD (pc' := 33) (lv' := [(0, .inr (.inr (some 39))), (1, .inl a1), (2, .inl a2)]) (st' := [.inr (.inr (some 39)), .inl (I30 39 15), .inr (.inr (some 45))]) (h' := gc_h sh I47 J18 A) (C := (True ∧ True)) rfl ⟨trivial, trivial⟩ ?_
    refine gv_get hD rfl rfl S_39 ⟨by decide, B_39⟩ (gc_hA S_39 rfl A_39_1) ?_
    show gv_X _ _ (36, [(0, .inr (.inr (some 39))), (1, .inl a1), (2, .inl a2)], [.inr (.inr (some 23)), .inl (I30 39 15), .inr (.inr (some 45))], sh, gc_h sh I47 J18 A)
    refine gv_get hD rfl rfl S_23 ⟨by decide, B_23⟩ (gc_hJ S_23 rfl) ?_
    show gv_X _ _ (39, [(0, .inr (.inr (some 39))), (1, .inl a1), (2, .inl a2)], [.inr (.inl (J18 23 9)), .inl (I30 39 15), .inr (.inr (some 45))], sh, gc_h sh I47 J18 A)
    refine gv_last hD rfl S_45 ⟨by decide, B_45⟩ ⟨by omega, by omega⟩ ?_
    refine gc_stJ S_45 rfl (fun J61 q62 p62 => ?_)
    have FJ61 := gc_frs (W := fun q j => (q = 23 ∧ j = 9) ∨ q = 44 ∨ q = 45) FJ18 (Or.inr (Or.inr rfl)) p62
    show gv_X _ _ (40, [(0, .inr (.inr (some 39))), (1, .inl a1), (2, .inl a2)], [], sh, gc_h sh I47 J61 A)
    refine gv_run 2 true hD (pc' := 42) (lv' := [(0, .inr (.inr (some 39))), (1, .inl a1), (2, .inl a2)]) (st' := [.inr (.inr (some 39)), .inr (.inr (some 39))]) (h' := gc_h sh I47 J61 A) (C := ((True ∧ True) ∧ True)) rfl ⟨⟨trivial, trivial⟩, trivial⟩ ?_
    have f63 := (show 0 ≤ I47 39 12 ∧ I47 39 12 ≤ 2000 from gc_in hI47 R_39 rfl rfl)
    refine gv_get hD rfl rfl S_39 ⟨by decide, B_39⟩ (gc_hI S_39 rfl) ?_
    show gv_X _ _ (45, [(0, .inr (.inr (some 39))), (1, .inl a1), (2, .inl a2)], [.inl (I47 39 12), .inr (.inr (some 39))], sh, gc_h sh I47 J61 A)
    refine gv_run 2 true hD (pc' := 48) (lv' := [(0, .inr (.inr (some 39))), (1, .inl a1), (2, .inl a2)]) (st' := [.inr (.inl (Int64.ofNat 0)), .inl (-2), .inl (I47 39 12), .inr (.inr (some 39))]) (h' := gc_h sh I47 J61 A) (C := ((True ∧ True) ∧ True)) rfl ⟨⟨trivial, trivial⟩, trivial⟩ ?_
    obtain ⟨r64, h64, E64, P64⟩ := d_X6_putNode (ws0 := ws0) (tb := tb) hws htb sh ro I47 J61 A hI47  b (I47 39 12) (-2) (Int64.ofNat 0) hb   ⟨by omega, by omega⟩ ⟨by omega, by omega⟩ (by omega) (by omega) (by omega) KTO_I47
    obtain ⟨I65, J66, rfl, hI65, g64, k64, KTO_I65, ⟨rfl, q64⟩⟩ := P64
    have FI65 := gc_frc (W := fun q j => (q = 39 ∧ j = 3) ∨ (q = 39 ∧ j = 4) ∨ (q = 23 ∧ j = 5) ∨ (q = 23 ∧ j = 6) ∨ (q = 23 ∧ j = 7) ∨ (q = 23 ∧ j = 8) ∨ (q = 39 ∧ j = 12) ∨ (q = 39 ∧ j = 15) ∨ q = 43) (V := fun q j => (q = 39 ∧ j = 12) ∨ q = 43) FI47 (fun q j h => (h.elim (fun h => (Or.inr (Or.inr (Or.inr (Or.inr (Or.inr (Or.inr (Or.inl h)))))))) (fun h => (Or.inr (Or.inr (Or.inr (Or.inr (Or.inr (Or.inr (Or.inr (Or.inr h))))))))))) g64
    have FJ66 := gc_frc (W := fun q j => (q = 23 ∧ j = 9) ∨ q = 44 ∨ q = 45) (V := fun q j => q = 44) FJ61 (fun q j h => (Or.inr (Or.inl h))) k64
    have t67 := (g64 23 1).resolve_left (by omega)
    have t68 := (g64 23 5).resolve_left (by omega)
    have t69 := (g64 23 6).resolve_left (by omega)
    have t70 := (g64 23 7).resolve_left (by omega)
    have t71 := (g64 39 15).resolve_left (by omega)
    have t72 := (g64 12 (Int.toNat a1)).resolve_left (by omega)
    have f73 := (show 0 ≤ I65 23 1 ∧ I65 23 1 ≤ 1000 from gc_in hI65 R_23 rfl rfl)
    have f74 := (show 0 ≤ I65 23 5 ∧ I65 23 5 ≤ 1000 from gc_in hI65 R_23 rfl rfl)
    have f75 := (show 0 ≤ I65 23 6 ∧ I65 23 6 ≤ 1001 from gc_in hI65 R_23 rfl rfl)
    have f76 := (show 0 ≤ I65 23 7 ∧ I65 23 7 ≤ 125 from gc_in hI65 R_23 rfl rfl)
    have f77 := (show 0 ≤ I65 39 12 ∧ I65 39 12 ≤ 2000 from gc_in hI65 R_39 rfl rfl)
    have f78 := (show 0 ≤ I65 39 15 ∧ I65 39 15 ≤ 41 from gc_in hI65 R_39 rfl rfl)
    have KLT_I65 := gc_LT_fr KLT_I47 ((g64 23 5).resolve_left (by omega)) ((g64 23 6).resolve_left (by omega)) ((g64 23 7).resolve_left (by omega)) (fun k => (g64 24 k).resolve_left (by omega))
    refine gv_callV hD rfl (As := [.inl (I47 39 12), .inl (-2), .inr (.inl (Int64.ofNat 0))]) (st := []) rfl B_39 S_39 rfl (gc_lV6 hws rfl) (Nat.le_of_ble_eq_true rfl) (gz_Ev_mono (d := 1) (by omega) E64) ?_
    show gv_X _ _ (51, [(0, .inr (.inr (some 39))), (1, .inl a1), (2, .inl a2)], [], sh, gc_h sh I65 J66 A)
    refine gv_run 1 true hD (pc' := 52) (lv' := [(0, .inr (.inr (some 39))), (1, .inl a1), (2, .inl a2)]) (st' := [.inr (.inr (some 39))]) (h' := gc_h sh I65 J66 A) (C := (True ∧ True)) rfl ⟨trivial, trivial⟩ ?_
    refine gv_get hD rfl rfl S_39 ⟨by decide, B_39⟩ (gc_hA S_39 rfl A_39_1) ?_
    show gv_X _ _ (55, [(0, .inr (.inr (some 39))), (1, .inl a1), (2, .inl a2)], [.inr (.inr (some 23))], sh, gc_h sh I65 J66 A)
    obtain ⟨r79, h79, E79, P79⟩ := d_X9_advance (ws0 := ws0) (tb := tb) hws htb sh ro I65 J66 A hI65 23  (gc_b23 hb)    (by omega) 
    obtain ⟨I80, J81, rfl, hI80, g79, k79, ⟨rfl, q79⟩⟩ := P79
    have FI80 := gc_frc (W := fun q j => (q = 39 ∧ j = 3) ∨ (q = 39 ∧ j = 4) ∨ (q = 23 ∧ j = 5) ∨ (q = 23 ∧ j = 6) ∨ (q = 23 ∧ j = 7) ∨ (q = 23 ∧ j = 8) ∨ (q = 39 ∧ j = 12) ∨ (q = 39 ∧ j = 15) ∨ q = 43) (V := fun q j => (q = 23 ∧ j = 5) ∨ (q = 23 ∧ j = 6) ∨ (q = 23 ∧ j = 7) ∨ (q = 23 ∧ j = 8)) FI65 (fun q j h => (h.elim (fun h => (Or.inr (Or.inr (Or.inl h)))) (fun h => (h.elim (fun h => (Or.inr (Or.inr (Or.inr (Or.inl h))))) (fun h => (h.elim (fun h => (Or.inr (Or.inr (Or.inr (Or.inr (Or.inl h)))))) (fun h => (Or.inr (Or.inr (Or.inr (Or.inr (Or.inr (Or.inl h))))))))))))) g79
    have FJ81 := gc_frc (W := fun q j => (q = 23 ∧ j = 9) ∨ q = 44 ∨ q = 45) (V := fun q j => (q = 23 ∧ j = 9)) FJ66 (fun q j h => (Or.inl h)) k79
    have t82 := (g79 23 1).resolve_left (by omega)
    have t83 := (g79 39 12).resolve_left (by omega)
    have t84 := (g79 39 15).resolve_left (by omega)
    have t85 := (g79 12 (Int.toNat a1)).resolve_left (by omega)
    have f86 := (show 0 ≤ I80 23 1 ∧ I80 23 1 ≤ 1000 from gc_in hI80 R_23 rfl rfl)
    have f87 := (show 0 ≤ I80 23 5 ∧ I80 23 5 ≤ 1000 from gc_in hI80 R_23 rfl rfl)
    have f88 := (show 0 ≤ I80 23 6 ∧ I80 23 6 ≤ 1001 from gc_in hI80 R_23 rfl rfl)
    have f89 := (show 0 ≤ I80 23 7 ∧ I80 23 7 ≤ 125 from gc_in hI80 R_23 rfl rfl)
    have f90 := (show 0 ≤ I80 39 12 ∧ I80 39 12 ≤ 2000 from gc_in hI80 R_39 rfl rfl)
    have f91 := (show 0 ≤ I80 39 15 ∧ I80 39 15 ≤ 41 from gc_in hI80 R_39 rfl rfl)
    have KLT_I80 : gc_LT I80 := q79.2.2.2.2.2.2.2
    have KTO_I80 := gc_TO_fr KTO_I65 ((g79 39 12).resolve_left (by omega)) (fun k => (g79 43 k).resolve_left (by omega))
    refine gv_callV hD rfl (As := []) (st := []) rfl B_23 S_23 rfl (gc_lV6 hws rfl) (Nat.le_of_ble_eq_true rfl) (gz_Ev_mono (d := 2) (by omega) E79) ?_
    show gv_X _ _ (58, [(0, .inr (.inr (some 39))), (1, .inl a1), (2, .inl a2)], [], sh, gc_h sh I80 J81 A)
    refine gv_run 2 true hD (pc' := 61) (lv' := [(0, .inr (.inr (some 39))), (1, .inl a1), (2, .inl a2)]) (st' := [.inl 46, .inr (.inr (some 39))]) (h' := gc_h sh I80 J81 A) (C := ((True ∧ True) ∧ True)) rfl ⟨⟨trivial, trivial⟩, trivial⟩ ?_
    obtain ⟨r92, h92, E92, P92⟩ := d_X6_take (ws0 := ws0) (tb := tb) hws htb sh ro I80 J81 A hI80  46 hb   ⟨by omega, by omega⟩ (by omega) (by omega) (by omega) (by omega) (by omega) (by omega) KLT_I80
    obtain ⟨I93, J94, rfl, hI93, g92, k92, KLT_I93, ⟨z92, rfl, q92⟩⟩ := P92
    have FI93 := gc_frc (W := fun q j => (q = 39 ∧ j = 3) ∨ (q = 39 ∧ j = 4) ∨ (q = 23 ∧ j = 5) ∨ (q = 23 ∧ j = 6) ∨ (q = 23 ∧ j = 7) ∨ (q = 23 ∧ j = 8) ∨ (q = 39 ∧ j = 12) ∨ (q = 39 ∧ j = 15) ∨ q = 43) (V := fun q j => (q = 39 ∧ j = 3) ∨ (q = 39 ∧ j = 4) ∨ (q = 23 ∧ j = 5) ∨ (q = 23 ∧ j = 6) ∨ (q = 23 ∧ j = 7) ∨ (q = 23 ∧ j = 8)) FI80 (fun q j h => (h.elim (fun h => (Or.inl h)) (fun h => (h.elim (fun h => (Or.inr (Or.inl h))) (fun h => (h.elim (fun h => (Or.inr (Or.inr (Or.inl h)))) (fun h => (h.elim (fun h => (Or.inr (Or.inr (Or.inr (Or.inl h))))) (fun h => (h.elim (fun h => (Or.inr (Or.inr (Or.inr (Or.inr (Or.inl h)))))) (fun h => (Or.inr (Or.inr (Or.inr (Or.inr (Or.inr (Or.inl h))))))))))))))))) g92
    have FJ94 := gc_frc (W := fun q j => (q = 23 ∧ j = 9) ∨ q = 44 ∨ q = 45) (V := fun q j => (q = 23 ∧ j = 9)) FJ81 (fun q j h => (Or.inl h)) k92
    have t95 := (g92 23 1).resolve_left (by omega)
    have t96 := (g92 39 12).resolve_left (by omega)
    have t97 := (g92 39 15).resolve_left (by omega)
    have t98 := (g92 12 (Int.toNat a1)).resolve_left (by omega)
    have f99 := (show 0 ≤ I93 23 1 ∧ I93 23 1 ≤ 1000 from gc_in hI93 R_23 rfl rfl)
    have f100 := (show 0 ≤ I93 23 5 ∧ I93 23 5 ≤ 1000 from gc_in hI93 R_23 rfl rfl)
    have f101 := (show 0 ≤ I93 23 6 ∧ I93 23 6 ≤ 1001 from gc_in hI93 R_23 rfl rfl)
    have f102 := (show 0 ≤ I93 23 7 ∧ I93 23 7 ≤ 125 from gc_in hI93 R_23 rfl rfl)
    have f103 := (show 0 ≤ I93 39 12 ∧ I93 39 12 ≤ 2000 from gc_in hI93 R_39 rfl rfl)
    have f104 := (show 0 ≤ I93 39 15 ∧ I93 39 15 ≤ 41 from gc_in hI93 R_39 rfl rfl)
    have KTO_I93 := gc_TO_fr KTO_I80 ((g92 39 12).resolve_left (by omega)) (fun k => (g92 43 k).resolve_left (by omega))
    refine gv_callV hD rfl (As := [.inl 46]) (st := []) rfl B_39 S_39 rfl (gc_lV6 hws rfl) (Nat.le_of_ble_eq_true rfl) (gz_Ev_mono (d := 3) (by omega) E92) ?_
    show gv_X _ _ (64, [(0, .inr (.inr (some 39))), (1, .inl a1), (2, .inl a2)], [.inl z92], sh, gc_h sh I93 J94 A)
    refine gv_if_eq (t := 78) hD rfl rfl ⟨by omega, by omega⟩ (fun c105 => ?_) (fun c105 => ?_)
    · show gv_X _ _ (78, [(0, .inr (.inr (some 39))), (1, .inl a1), (2, .inl a2)], [], sh, gc_h sh I93 J94 A)
      refine gv_pick [] rfl ?_
      exact L78 I93 J94 hI93 FI93 FJ94 KLT_I93 KTO_I93 (by omega)
    · show gv_X _ _ (67, [(0, .inr (.inr (some 39))), (1, .inl a1), (2, .inl a2)], [], sh, gc_h sh I93 J94 A)
      refine gv_run 5 true hD (pc' := 72) (lv' := [(0, .inr (.inr (some 39))), (1, .inl a1), (2, .inl a2)]) (st' := [.inl (a2 + 1), .inl a1, .inr (.inr (some 39))]) (h' := gc_h sh I93 J94 A) (C := (((((True ∧ True) ∧ True) ∧ True) ∧ True) ∧ True)) rfl ⟨⟨⟨⟨⟨trivial, trivial⟩, trivial⟩, trivial⟩, trivial⟩, trivial⟩ ?_
      obtain ⟨r106, h106, E106, P106⟩ := ihR I93 J94 hI93 a1 (a2 + 1) ⟨by omega, by omega⟩ ⟨by omega, by omega⟩ (by omega) (by omega) (by omega) (by omega) (by omega) (by omega) (by omega) (by omega) (by omega) KLT_I93 KTO_I93 (by omega)
      obtain ⟨I107, J108, rfl, hI107, g106, k106, KLT_I107, KTO_I107, ⟨z106, rfl, q106⟩⟩ := P106
      have FI107 := gc_frc (W := fun q j => (q = 39 ∧ j = 3) ∨ (q = 39 ∧ j = 4) ∨ (q = 23 ∧ j = 5) ∨ (q = 23 ∧ j = 6) ∨ (q = 23 ∧ j = 7) ∨ (q = 23 ∧ j = 8) ∨ (q = 39 ∧ j = 12) ∨ (q = 39 ∧ j = 15) ∨ q = 43) (V := fun q j => (q = 39 ∧ j = 3) ∨ (q = 39 ∧ j = 4) ∨ (q = 23 ∧ j = 5) ∨ (q = 23 ∧ j = 6) ∨ (q = 23 ∧ j = 7) ∨ (q = 23 ∧ j = 8) ∨ (q = 39 ∧ j = 12) ∨ (q = 39 ∧ j = 15) ∨ q = 43) FI93 (fun q j h => (h.elim (fun h => (Or.inl h)) (fun h => (h.elim (fun h => (Or.inr (Or.inl h))) (fun h => (h.elim (fun h => (Or.inr (Or.inr (Or.inl h)))) (fun h => (h.elim (fun h => (Or.inr (Or.inr (Or.inr (Or.inl h))))) (fun h => (h.elim (fun h => (Or.inr (Or.inr (Or.inr (Or.inr (Or.inl h)))))) (fun h => (h.elim (fun h => (Or.inr (Or.inr (Or.inr (Or.inr (Or.inr (Or.inl h))))))) (fun h => (h.elim (fun h => (Or.inr (Or.inr (Or.inr (Or.inr (Or.inr (Or.inr (Or.inl h)))))))) (fun h => (h.elim (fun h => (Or.inr (Or.inr (Or.inr (Or.inr (Or.inr (Or.inr (Or.inr (Or.inl h))))))))) (fun h => (Or.inr (Or.inr (Or.inr (Or.inr (Or.inr (Or.inr (Or.inr (Or.inr h))))))))))))))))))))))))) g106
      have FJ108 := gc_frc (W := fun q j => (q = 23 ∧ j = 9) ∨ q = 44 ∨ q = 45) (V := fun q j => (q = 23 ∧ j = 9) ∨ q = 44 ∨ q = 45) FJ94 (fun q j h => (h.elim (fun h => (Or.inl h)) (fun h => (h.elim (fun h => (Or.inr (Or.inl h))) (fun h => (Or.inr (Or.inr h))))))) k106
      have t109 := (g106 23 1).resolve_left (by omega)
      have t110 := (g106 12 (Int.toNat a1)).resolve_left (by omega)
      have f111 := (show 0 ≤ I107 23 1 ∧ I107 23 1 ≤ 1000 from gc_in hI107 R_23 rfl rfl)
      have f112 := (show 0 ≤ I107 23 5 ∧ I107 23 5 ≤ 1000 from gc_in hI107 R_23 rfl rfl)
      have f113 := (show 0 ≤ I107 23 6 ∧ I107 23 6 ≤ 1001 from gc_in hI107 R_23 rfl rfl)
      have f114 := (show 0 ≤ I107 23 7 ∧ I107 23 7 ≤ 125 from gc_in hI107 R_23 rfl rfl)
      have f115 := (show 0 ≤ I107 39 12 ∧ I107 39 12 ≤ 2000 from gc_in hI107 R_39 rfl rfl)
      have f116 := (show 0 ≤ I107 39 15 ∧ I107 39 15 ≤ 41 from gc_in hI107 R_39 rfl rfl)
      refine gv_callV hD rfl (As := [.inl a1, .inl (a2 + 1)]) (st := []) rfl B_39 S_39 rfl (gc_lV6 hws rfl) (Nat.le_of_ble_eq_true rfl) (gz_Ev_mono (d := (6 + 2 * nr)) (Nat.le_refl _) E106) ?_
      show gv_X _ _ (75, [(0, .inr (.inr (some 39))), (1, .inl a1), (2, .inl a2)], [.inl z106], sh, gc_h sh I107 J108 A)
      refine gv_if_ne (t := 80) hD rfl rfl ⟨by omega, by omega⟩ (fun c117 => ?_) (fun c117 => ?_)
      · show gv_X _ _ (80, [(0, .inr (.inr (some 39))), (1, .inl a1), (2, .inl a2)], [], sh, gc_h sh I107 J108 A)
        refine gv_run 2 true hD (pc' := 82) (lv' := [(0, .inr (.inr (some 39))), (1, .inl a1), (2, .inl a2)]) (st' := [.inr (.inr (some 39)), .inr (.inr (some 39))]) (h' := gc_h sh I107 J108 A) (C := ((True ∧ True) ∧ True)) rfl ⟨⟨trivial, trivial⟩, trivial⟩ ?_
        have f118 := (show 0 ≤ I107 39 15 ∧ I107 39 15 ≤ 41 from gc_in hI107 R_39 rfl rfl)
        refine gv_get hD rfl rfl S_39 ⟨by decide, B_39⟩ (gc_hI S_39 rfl) ?_
        show gv_X _ _ (85, [(0, .inr (.inr (some 39))), (1, .inl a1), (2, .inl a2)], [.inl (I107 39 15), .inr (.inr (some 39))], sh, gc_h sh I107 J108 A)
        refine gv_run 2 true hD (pc' := 87) (lv' := [(0, .inr (.inr (some 39))), (1, .inl a1), (2, .inl a2)]) (st' := [.inl ((I107 39 15) - 1), .inr (.inr (some 39))]) (h' := gc_h sh I107 J108 A) (C := ((True ∧ True) ∧ True)) rfl ⟨⟨trivial, trivial⟩, trivial⟩ ?_
        refine gv_put hD rfl rfl S_39 ⟨by decide, B_39⟩ rfl trivial ?_
        refine gc_st (k := 15) hI107 S_39 rfl R_39 (lo := 0) (hi := 41) rfl rfl (by omega) (by omega) (fun I119 hI119 q120 p120 => ?_)
        have FI119 := gc_frs (W := fun q j => (q = 39 ∧ j = 3) ∨ (q = 39 ∧ j = 4) ∨ (q = 23 ∧ j = 5) ∨ (q = 23 ∧ j = 6) ∨ (q = 23 ∧ j = 7) ∨ (q = 23 ∧ j = 8) ∨ (q = 39 ∧ j = 12) ∨ (q = 39 ∧ j = 15) ∨ q = 43) FI107 (Or.inr (Or.inr (Or.inr (Or.inr (Or.inr (Or.inr (Or.inr (Or.inl ⟨rfl, rfl⟩)))))))) p120
        have t121 := p120 23 1 (fun h => absurd h.1 (by omega))
        have t122 := p120 23 5 (fun h => absurd h.1 (by omega))
        have t123 := p120 23 6 (fun h => absurd h.1 (by omega))
        have t124 := p120 23 7 (fun h => absurd h.1 (by omega))
        have t125 := p120 39 12 (fun h => absurd h.2 (by decide))
        have t126 := p120 12 (Int.toNat a1) (fun h => absurd h.1 (by omega))
        have f127 := (show 0 ≤ I119 23 1 ∧ I119 23 1 ≤ 1000 from gc_in hI119 R_23 rfl rfl)
        have f128 := (show 0 ≤ I119 23 5 ∧ I119 23 5 ≤ 1000 from gc_in hI119 R_23 rfl rfl)
        have f129 := (show 0 ≤ I119 23 6 ∧ I119 23 6 ≤ 1001 from gc_in hI119 R_23 rfl rfl)
        have f130 := (show 0 ≤ I119 23 7 ∧ I119 23 7 ≤ 125 from gc_in hI119 R_23 rfl rfl)
        have f131 := (show 0 ≤ I119 39 12 ∧ I119 39 12 ≤ 2000 from gc_in hI119 R_39 rfl rfl)
        have f132 := (show 0 ≤ I119 39 15 ∧ I119 39 15 ≤ 41 from gc_in hI119 R_39 rfl rfl)
        have KLT_I119 := gc_LT_fr KLT_I107 (p120 23 5 (fun h => absurd h.1 (by omega))) (p120 23 6 (fun h => absurd h.1 (by omega))) (p120 23 7 (fun h => absurd h.1 (by omega))) (fun k => p120 24 k (fun h => absurd h.1 (by omega)))
        have KTO_I119 := gc_TO_fr KTO_I107 (p120 39 12 (fun h => absurd h.2 (by decide))) (fun k => p120 43 k (fun h => absurd h.1 (by omega)))
        show gv_X _ _ (90, [(0, .inr (.inr (some 39))), (1, .inl a1), (2, .inl a2)], [], sh, gc_h sh I119 J108 A)
        refine gv_run 1 true hD (pc' := 91) (lv' := [(0, .inr (.inr (some 39))), (1, .inl a1), (2, .inl a2)]) (st' := [.inl 1]) (h' := gc_h sh I119 J108 A) (C := (True ∧ True)) rfl ⟨trivial, trivial⟩ ?_
        exact gv_zret hD rfl (by omega) ⟨I119, J108, rfl, hI119, FI119, FJ108, KLT_I119, KTO_I119, ⟨_, rfl, by omega⟩⟩
      · show gv_X _ _ (78, [(0, .inr (.inr (some 39))), (1, .inl a1), (2, .inl a2)], [], sh, gc_h sh I107 J108 A)
        refine gv_pick [] rfl ?_
        exact L78 I107 J108 hI107 FI107 FJ108 KLT_I107 KTO_I107 (by omega)
  · show gv_X _ _ (15, [(0, .inr (.inr (some 39))), (1, .inl a1), (2, .inl a2)], [], sh, gc_h sh I30 J18 A)
    refine gv_run 1 true hD (pc' := 16) (lv' := [(0, .inr (.inr (some 39))), (1, .inl a1), (2, .inl a2)]) (st' := [.inl 0]) (h' := gc_h sh I30 J18 A) (C := (True ∧ True)) rfl ⟨trivial, trivial⟩ ?_
    exact gv_zret hD rfl (by omega) ⟨I30, J18, rfl, hI30, FI30, FJ18, KLT_I30, KTO_I30, ⟨_, rfl, by omega⟩⟩
set_option maxHeartbeats 4000000 in
set_option maxRecDepth 100000 in
theorem d_X6_readAtom {ws0 : List Cond} {tb : String → gz_T} (hws : gc_Ws ws0) (htb : gc_tbs tb) (sh : gz_Sh) (ro : Nat → Nat) (A : gc_A) (b : Int)  (hb : gc_Base sh ro A) (nr : Nat) (ihR : ∀ (I : gr_I) (J : gr_J) (hI : gc_Inv ro I) (a1 : Int) (a2 : Int) (ha1 : 0 ≤ a1 ∧ a1 ≤ 95) (ha2 : 1 ≤ a2 ∧ a2 ≤ 41) (x0 : I 23 5 ≤ I 23 6) (x1 : I 23 7 = 5 ∨ I 23 6 ≤ I 23 1) (x2 : I 23 5 ≤ I 23 1) (x3 : I 23 7 = 4 ∨ (I 23 5 < I 23 6 ∧ I 23 5 < I 23 1)) (x4 : I 23 7 = 3 → 2 ≤ I 23 6 - I 23 5 ∧ I 23 6 - I 23 5 ≤ 14) (x5 : I 39 12 ≤ I 23 5) (x6 : I 39 15 ≤ a2 - 1) (x7 : b ≤ -3 - I 12 (Int.toNat a1)) (x8 : b ≤ -3) (KLT_I : gc_LT I) (KTO_I : gc_TO b I) (_ : (42 - a2).toNat < nr), ∃ r h', gz_Ev ws0 tb (6 + 2 * nr) (yX6_readTerm, cX6_readTerm, 7, (some .boolean)) [.inr (.inr (some 39)), .inl a1, .inl a2] sh (gc_h sh I J A) r sh h' 0 0 ∧ (∃ (I' : gr_I) (J' : gr_J), h' = gc_h sh I' J' A ∧ gc_Inv ro I' ∧ (∀ q j : Nat, ((q = 39 ∧ j = 3) ∨ (q = 39 ∧ j = 4) ∨ (q = 23 ∧ j = 5) ∨ (q = 23 ∧ j = 6) ∨ (q = 23 ∧ j = 7) ∨ (q = 23 ∧ j = 8) ∨ (q = 39 ∧ j = 12) ∨ (q = 39 ∧ j = 15) ∨ q = 43) ∨ I' q j = I q j) ∧ (∀ q j : Nat, ((q = 23 ∧ j = 9) ∨ q = 44 ∨ q = 45) ∨ J' q j = J q j) ∧ gc_LT I' ∧ gc_TO b I' ∧ (∃ z : Int, r = some (.inl z) ∧ 0 ≤ z ∧ z ≤ 1 ∧ (I' 23 5 ≤ I' 23 6) ∧ (I' 23 7 = 5 ∨ I' 23 6 ≤ I' 23 1) ∧ (I' 23 5 ≤ I' 23 1) ∧ (I' 23 7 = 4 ∨ (I' 23 5 < I' 23 6 ∧ I' 23 5 < I' 23 1)) ∧ (I' 23 7 = 3 → 2 ≤ I' 23 6 - I' 23 5 ∧ I' 23 6 - I' 23 5 ≤ 14) ∧ (I' 23 1 = I 23 1) ∧ (I 23 5 ≤ I' 23 5) ∧ (I' 39 12 ≤ I' 23 5) ∧ (z = 0 ∨ I' 39 15 = I 39 15) ∧ (I 39 12 ≤ I' 39 12)))) (I : gr_I) (J : gr_J) (hI : gc_Inv ro I) (a1 : Int) (a2 : Int) (ha1 : 0 ≤ a1 ∧ a1 ≤ 95) (ha2 : 1 ≤ a2 ∧ a2 ≤ 40) (x0 : I 23 5 ≤ I 23 6) (x1 : I 23 7 = 5 ∨ I 23 6 ≤ I 23 1) (x2 : I 23 5 ≤ I 23 1) (x3 : I 23 7 = 4 ∨ (I 23 5 < I 23 6 ∧ I 23 5 < I 23 1)) (x4 : I 23 7 = 3 → 2 ≤ I 23 6 - I 23 5 ∧ I 23 6 - I 23 5 ≤ 14) (x5 : I 39 12 ≤ I 23 5) (x6 : I 39 15 ≤ a2 - 1) (x7 : b ≤ -3 - I 12 (Int.toNat a1)) (x8 : b ≤ -3) (x9 : I 23 7 = 40 ∨ I 23 7 = 1 ∨ I 23 7 = 2) (KLT_I : gc_LT I) (KTO_I : gc_TO b I) (hnr : (41 - a2).toNat < nr) : ∃ r h', gz_Ev ws0 tb (6 + 2 * nr + 1) (yX6_readAtom, cX6_readAtom, 4, (some .boolean)) [.inr (.inr (some 39)), .inl a1, .inl a2] sh (gc_h sh I J A) r sh h' 0 0 ∧ (∃ (I' : gr_I) (J' : gr_J), h' = gc_h sh I' J' A ∧ gc_Inv ro I' ∧ (∀ q j : Nat, ((q = 39 ∧ j = 3) ∨ (q = 39 ∧ j = 4) ∨ (q = 23 ∧ j = 5) ∨ (q = 23 ∧ j = 6) ∨ (q = 23 ∧ j = 7) ∨ (q = 23 ∧ j = 8) ∨ (q = 39 ∧ j = 12) ∨ (q = 39 ∧ j = 15) ∨ q = 43) ∨ I' q j = I q j) ∧ (∀ q j : Nat, ((q = 23 ∧ j = 9) ∨ q = 44 ∨ q = 45) ∨ J' q j = J q j) ∧ gc_LT I' ∧ gc_TO b I' ∧ (∃ z : Int, r = some (.inl z) ∧ 0 ≤ z ∧ z ≤ 1 ∧ (I' 23 5 ≤ I' 23 6) ∧ (I' 23 7 = 5 ∨ I' 23 6 ≤ I' 23 1) ∧ (I' 23 5 ≤ I' 23 1) ∧ (I' 23 7 = 4 ∨ (I' 23 5 < I' 23 6 ∧ I' 23 5 < I' 23 1)) ∧ (I' 23 7 = 3 → 2 ≤ I' 23 6 - I' 23 5 ∧ I' 23 6 - I' 23 5 ≤ 14) ∧ (I' 23 1 = I 23 1) ∧ (I 23 5 ≤ I' 23 5) ∧ (I' 39 12 ≤ I' 23 5) ∧ (z = 0 ∨ I' 39 15 = I 39 15) ∧ (I 39 12 ≤ I' 39 12))) := by
  have FI : ∀ q j : Nat, ((q = 39 ∧ j = 3) ∨ (q = 39 ∧ j = 4) ∨ (q = 23 ∧ j = 5) ∨ (q = 23 ∧ j = 6) ∨ (q = 23 ∧ j = 7) ∨ (q = 23 ∧ j = 8) ∨ (q = 39 ∧ j = 12) ∨ (q = 39 ∧ j = 15) ∨ q = 43) ∨ I q j = I q j := fun _ _ => Or.inr rfl
  have FJ : ∀ q j : Nat, ((q = 23 ∧ j = 9) ∨ q = 44 ∨ q = 45) ∨ J q j = J q j := fun _ _ => Or.inr rfl
  have A_1_7 : A 1 7 = some 12 := gc_bA hb rfl
  have A_39_0 : A 39 0 = some 1 := gc_bA hb rfl
  have A_39_1 : A 39 1 = some 23 := gc_bA hb rfl
  have A_39_16 : A 39 16 = some 45 := gc_bA hb rfl
  have B_1 : 1 < 1000000 := by decide
  have B_12 : 12 < 1000000 := by decide
  have B_23 : 23 < 1000000 := by decide
  have B_39 : 39 < 1000000 := by decide
  have B_45 : 45 < 1000000 := by decide
  have R_12 : ro 12 = 26 := gc_bR hb (by decide) rfl
  have R_23 : ro 23 = 3 := gc_bR hb (by decide) rfl
  have R_39 : ro 39 = 42 := gc_bR hb (by decide) rfl
  have S_1 : sh[1]? = some (false, 8, 21) := gc_bS hb rfl
  have S_12 : sh[12]? = some (true, 1, 96) := gc_bS hb rfl
  have S_23 : sh[23]? = some (false, 9, 10) := gc_bS hb rfl
  have S_39 : sh[39]? = some (false, 6, 19) := gc_bS hb rfl
  have S_45 : sh[45]? = some (true, 2, 41) := gc_bS hb rfl
  have hD : gv_D (gc_E6 ws0 tb (6 + 2 * nr) (yX6_readAtom, cX6_readAtom, 4, (some .boolean)) kX6_readAtom) := gq_ok oX6_readAtom
  refine gc_ev6 (d := (6 + 2 * nr)) (l := kX6_readAtom) (Po := fun r h' => (∃ (I' : gr_I) (J' : gr_J), h' = gc_h sh I' J' A ∧ gc_Inv ro I' ∧ (∀ q j : Nat, ((q = 39 ∧ j = 3) ∨ (q = 39 ∧ j = 4) ∨ (q = 23 ∧ j = 5) ∨ (q = 23 ∧ j = 6) ∨ (q = 23 ∧ j = 7) ∨ (q = 23 ∧ j = 8) ∨ (q = 39 ∧ j = 12) ∨ (q = 39 ∧ j = 15) ∨ q = 43) ∨ I' q j = I q j) ∧ (∀ q j : Nat, ((q = 23 ∧ j = 9) ∨ q = 44 ∨ q = 45) ∨ J' q j = J q j) ∧ gc_LT I' ∧ gc_TO b I' ∧ (∃ z : Int, r = some (.inl z) ∧ 0 ≤ z ∧ z ≤ 1 ∧ (I' 23 5 ≤ I' 23 6) ∧ (I' 23 7 = 5 ∨ I' 23 6 ≤ I' 23 1) ∧ (I' 23 5 ≤ I' 23 1) ∧ (I' 23 7 = 4 ∨ (I' 23 5 < I' 23 6 ∧ I' 23 5 < I' 23 1)) ∧ (I' 23 7 = 3 → 2 ≤ I' 23 6 - I' 23 5 ∧ I' 23 6 - I' 23 5 ≤ 14) ∧ (I' 23 1 = I 23 1) ∧ (I 23 5 ≤ I' 23 5) ∧ (I' 39 12 ≤ I' 23 5) ∧ (z = 0 ∨ I' 39 15 = I 39 15) ∧ (I 39 12 ≤ I' 39 12)))) htb rfl (Nat.le_of_ble_eq_true rfl) ?_
  have f1 := (show 0 ≤ I 23 1 ∧ I 23 1 ≤ 1000 from gc_in hI R_23 rfl rfl)
  have f2 := (show 0 ≤ I 23 5 ∧ I 23 5 ≤ 1000 from gc_in hI R_23 rfl rfl)
  have f3 := (show 0 ≤ I 23 6 ∧ I 23 6 ≤ 1001 from gc_in hI R_23 rfl rfl)
  have f4 := (show 0 ≤ I 23 7 ∧ I 23 7 ≤ 125 from gc_in hI R_23 rfl rfl)
  have f5 := (show 0 ≤ I 39 12 ∧ I 39 12 ≤ 2000 from gc_in hI R_39 rfl rfl)
  have f6 := (show 0 ≤ I 39 15 ∧ I 39 15 ≤ 41 from gc_in hI R_39 rfl rfl)
  have f7 := (show 0 ≤ I 23 8 ∧ I 23 8 ≤ 999999 from gc_in hI R_23 rfl rfl)
  have L44 : ∀ (I8 : gr_I) (J9 : gr_J) (s0_10 : Int), gc_Inv ro I8 → (∀ q j : Nat, ((q = 39 ∧ j = 3) ∨ (q = 39 ∧ j = 4) ∨ (q = 23 ∧ j = 5) ∨ (q = 23 ∧ j = 6) ∨ (q = 23 ∧ j = 7) ∨ (q = 23 ∧ j = 8) ∨ (q = 39 ∧ j = 12) ∨ (q = 39 ∧ j = 15) ∨ q = 43) ∨ I8 q j = I q j) → (∀ q j : Nat, ((q = 23 ∧ j = 9) ∨ q = 44 ∨ q = 45) ∨ J9 q j = J q j) → gc_LT I8 → gc_TO b I8 → ((0 ≤ s0_10 ∧ s0_10 ≤ 1) ∧ (I8 39 12 ≤ I8 23 5) ∧ (I 39 12 ≤ I8 39 12) ∧ (b ≤ -3 - I8 12 (Int.toNat a1)) ∧ (s0_10 = 0 ∨ I8 39 15 = I 39 15) ∧ (I8 23 5 ≤ I8 23 6) ∧ (I8 23 7 = 5 ∨ I8 23 6 ≤ I8 23 1) ∧ (I8 23 5 ≤ I8 23 1) ∧ (I8 23 7 = 4 ∨ (I8 23 5 < I8 23 6 ∧ I8 23 5 < I8 23 1)) ∧ (I8 23 7 = 3 → 2 ≤ I8 23 6 - I8 23 5 ∧ I8 23 6 - I8 23 5 ≤ 14) ∧ (I8 23 1 = I 23 1) ∧ (I 23 5 ≤ I8 23 5)) → gv_X (gc_E6 ws0 tb (6 + 2 * nr) (yX6_readAtom, cX6_readAtom, 4, (some .boolean)) kX6_readAtom) (gv_Q cX6_readAtom (some .boolean) sh (fun r h' => (∃ (I' : gr_I) (J' : gr_J), h' = gc_h sh I' J' A ∧ gc_Inv ro I' ∧ (∀ q j : Nat, ((q = 39 ∧ j = 3) ∨ (q = 39 ∧ j = 4) ∨ (q = 23 ∧ j = 5) ∨ (q = 23 ∧ j = 6) ∨ (q = 23 ∧ j = 7) ∨ (q = 23 ∧ j = 8) ∨ (q = 39 ∧ j = 12) ∨ (q = 39 ∧ j = 15) ∨ q = 43) ∨ I' q j = I q j) ∧ (∀ q j : Nat, ((q = 23 ∧ j = 9) ∨ q = 44 ∨ q = 45) ∨ J' q j = J q j) ∧ gc_LT I' ∧ gc_TO b I' ∧ (∃ z : Int, r = some (.inl z) ∧ 0 ≤ z ∧ z ≤ 1 ∧ (I' 23 5 ≤ I' 23 6) ∧ (I' 23 7 = 5 ∨ I' 23 6 ≤ I' 23 1) ∧ (I' 23 5 ≤ I' 23 1) ∧ (I' 23 7 = 4 ∨ (I' 23 5 < I' 23 6 ∧ I' 23 5 < I' 23 1)) ∧ (I' 23 7 = 3 → 2 ≤ I' 23 6 - I' 23 5 ∧ I' 23 6 - I' 23 5 ≤ 14) ∧ (I' 23 1 = I 23 1) ∧ (I 23 5 ≤ I' 23 5) ∧ (I' 39 12 ≤ I' 23 5) ∧ (z = 0 ∨ I' 39 15 = I 39 15) ∧ (I 39 12 ≤ I' 39 12))))) (44, [], [.inl s0_10], sh, gc_h sh I8 J9 A) := by
    intro I8 J9 s0_10 hI8 FI8 FJ9 KLT_I8 KTO_I8 m_10
    clear x0 x1 x2 x3 x4
    obtain ⟨hs0_10, e0_10, e1_10, e2_10, e3_10, e4_10, e5_10, e6_10, e7_10, e8_10, e9_10, e10_10⟩ := m_10
    have f11 := (show 0 ≤ I8 23 1 ∧ I8 23 1 ≤ 1000 from gc_in hI8 R_23 rfl rfl)
    have f12 := (show 0 ≤ I8 23 5 ∧ I8 23 5 ≤ 1000 from gc_in hI8 R_23 rfl rfl)
    have f13 := (show 0 ≤ I8 23 6 ∧ I8 23 6 ≤ 1001 from gc_in hI8 R_23 rfl rfl)
    have f14 := (show 0 ≤ I8 23 7 ∧ I8 23 7 ≤ 125 from gc_in hI8 R_23 rfl rfl)
    have f15 := (show 0 ≤ I8 39 12 ∧ I8 39 12 ≤ 2000 from gc_in hI8 R_39 rfl rfl)
    have f16 := (show 0 ≤ I8 39 15 ∧ I8 39 15 ≤ 41 from gc_in hI8 R_39 rfl rfl)
    have f17 := (show 0 ≤ I8 23 8 ∧ I8 23 8 ≤ 999999 from gc_in hI8 R_23 rfl rfl)
    exact gv_zret hD rfl (by omega) ⟨I8, J9, rfl, hI8, FI8, FJ9, KLT_I8, KTO_I8, ⟨_, rfl, by omega⟩⟩
  have L43 : ∀ (I18 : gr_I) (J19 : gr_J) , gc_Inv ro I18 → (∀ q j : Nat, ((q = 39 ∧ j = 3) ∨ (q = 39 ∧ j = 4) ∨ (q = 23 ∧ j = 5) ∨ (q = 23 ∧ j = 6) ∨ (q = 23 ∧ j = 7) ∨ (q = 23 ∧ j = 8) ∨ (q = 39 ∧ j = 12) ∨ (q = 39 ∧ j = 15) ∨ q = 43) ∨ I18 q j = I q j) → (∀ q j : Nat, ((q = 23 ∧ j = 9) ∨ q = 44 ∨ q = 45) ∨ J19 q j = J q j) → gc_LT I18 → gc_TO b I18 → ((I18 39 12 ≤ I18 23 5) ∧ (I 39 12 ≤ I18 39 12) ∧ (b ≤ -3 - I18 12 (Int.toNat a1)) ∧ (I18 23 5 ≤ I18 23 6) ∧ (I18 23 7 = 5 ∨ I18 23 6 ≤ I18 23 1) ∧ (I18 23 5 ≤ I18 23 1) ∧ (I18 23 7 = 4 ∨ (I18 23 5 < I18 23 6 ∧ I18 23 5 < I18 23 1)) ∧ (I18 23 7 = 3 → 2 ≤ I18 23 6 - I18 23 5 ∧ I18 23 6 - I18 23 5 ≤ 14) ∧ (I18 23 1 = I 23 1) ∧ (I 23 5 ≤ I18 23 5)) → gv_X (gc_E6 ws0 tb (6 + 2 * nr) (yX6_readAtom, cX6_readAtom, 4, (some .boolean)) kX6_readAtom) (gv_Q cX6_readAtom (some .boolean) sh (fun r h' => (∃ (I' : gr_I) (J' : gr_J), h' = gc_h sh I' J' A ∧ gc_Inv ro I' ∧ (∀ q j : Nat, ((q = 39 ∧ j = 3) ∨ (q = 39 ∧ j = 4) ∨ (q = 23 ∧ j = 5) ∨ (q = 23 ∧ j = 6) ∨ (q = 23 ∧ j = 7) ∨ (q = 23 ∧ j = 8) ∨ (q = 39 ∧ j = 12) ∨ (q = 39 ∧ j = 15) ∨ q = 43) ∨ I' q j = I q j) ∧ (∀ q j : Nat, ((q = 23 ∧ j = 9) ∨ q = 44 ∨ q = 45) ∨ J' q j = J q j) ∧ gc_LT I' ∧ gc_TO b I' ∧ (∃ z : Int, r = some (.inl z) ∧ 0 ≤ z ∧ z ≤ 1 ∧ (I' 23 5 ≤ I' 23 6) ∧ (I' 23 7 = 5 ∨ I' 23 6 ≤ I' 23 1) ∧ (I' 23 5 ≤ I' 23 1) ∧ (I' 23 7 = 4 ∨ (I' 23 5 < I' 23 6 ∧ I' 23 5 < I' 23 1)) ∧ (I' 23 7 = 3 → 2 ≤ I' 23 6 - I' 23 5 ∧ I' 23 6 - I' 23 5 ≤ 14) ∧ (I' 23 1 = I 23 1) ∧ (I 23 5 ≤ I' 23 5) ∧ (I' 39 12 ≤ I' 23 5) ∧ (z = 0 ∨ I' 39 15 = I 39 15) ∧ (I 39 12 ≤ I' 39 12))))) (43, [], [], sh, gc_h sh I18 J19 A) := by
    intro I18 J19 hI18 FI18 FJ19 KLT_I18 KTO_I18 m_20
    clear x0 x1 x2 x3 x4
    obtain ⟨e0_20, e1_20, e2_20, e3_20, e4_20, e5_20, e6_20, e7_20, e8_20, e9_20⟩ := m_20
    have f21 := (show 0 ≤ I18 23 1 ∧ I18 23 1 ≤ 1000 from gc_in hI18 R_23 rfl rfl)
    have f22 := (show 0 ≤ I18 23 5 ∧ I18 23 5 ≤ 1000 from gc_in hI18 R_23 rfl rfl)
    have f23 := (show 0 ≤ I18 23 6 ∧ I18 23 6 ≤ 1001 from gc_in hI18 R_23 rfl rfl)
    have f24 := (show 0 ≤ I18 23 7 ∧ I18 23 7 ≤ 125 from gc_in hI18 R_23 rfl rfl)
    have f25 := (show 0 ≤ I18 39 12 ∧ I18 39 12 ≤ 2000 from gc_in hI18 R_39 rfl rfl)
    have f26 := (show 0 ≤ I18 39 15 ∧ I18 39 15 ≤ 41 from gc_in hI18 R_39 rfl rfl)
    have f27 := (show 0 ≤ I18 23 8 ∧ I18 23 8 ≤ 999999 from gc_in hI18 R_23 rfl rfl)
    refine gv_run 1 true hD (pc' := 44) (lv' := []) (st' := [.inl 0]) (h' := gc_h sh I18 J19 A) (C := (True ∧ True)) rfl ⟨trivial, trivial⟩ ?_
    exact L44 I18 J19 0 hI18 FI18 FJ19 KLT_I18 KTO_I18 (by omega)
  have L86 : ((I 39 12 ≤ I 23 5) ∧ (I 39 12 ≤ I 39 12) ∧ (b ≤ -3 - I 12 (Int.toNat a1)) ∧ (I 39 15 = I 39 15) ∧ (I 23 5 ≤ I 23 6) ∧ (I 23 7 = 5 ∨ I 23 6 ≤ I 23 1) ∧ (I 23 5 ≤ I 23 1) ∧ (I 23 7 = 4 ∨ (I 23 5 < I 23 6 ∧ I 23 5 < I 23 1)) ∧ (I 23 7 = 3 → 2 ≤ I 23 6 - I 23 5 ∧ I 23 6 - I 23 5 ≤ 14) ∧ (I 23 1 = I 23 1) ∧ (I 23 5 ≤ I 23 5)) → gv_X (gc_E6 ws0 tb (6 + 2 * nr) (yX6_readAtom, cX6_readAtom, 4, (some .boolean)) kX6_readAtom) (gv_Q cX6_readAtom (some .boolean) sh (fun r h' => (∃ (I' : gr_I) (J' : gr_J), h' = gc_h sh I' J' A ∧ gc_Inv ro I' ∧ (∀ q j : Nat, ((q = 39 ∧ j = 3) ∨ (q = 39 ∧ j = 4) ∨ (q = 23 ∧ j = 5) ∨ (q = 23 ∧ j = 6) ∨ (q = 23 ∧ j = 7) ∨ (q = 23 ∧ j = 8) ∨ (q = 39 ∧ j = 12) ∨ (q = 39 ∧ j = 15) ∨ q = 43) ∨ I' q j = I q j) ∧ (∀ q j : Nat, ((q = 23 ∧ j = 9) ∨ q = 44 ∨ q = 45) ∨ J' q j = J q j) ∧ gc_LT I' ∧ gc_TO b I' ∧ (∃ z : Int, r = some (.inl z) ∧ 0 ≤ z ∧ z ≤ 1 ∧ (I' 23 5 ≤ I' 23 6) ∧ (I' 23 7 = 5 ∨ I' 23 6 ≤ I' 23 1) ∧ (I' 23 5 ≤ I' 23 1) ∧ (I' 23 7 = 4 ∨ (I' 23 5 < I' 23 6 ∧ I' 23 5 < I' 23 1)) ∧ (I' 23 7 = 3 → 2 ≤ I' 23 6 - I' 23 5 ∧ I' 23 6 - I' 23 5 ≤ 14) ∧ (I' 23 1 = I 23 1) ∧ (I 23 5 ≤ I' 23 5) ∧ (I' 39 12 ≤ I' 23 5) ∧ (z = 0 ∨ I' 39 15 = I 39 15) ∧ (I 39 12 ≤ I' 39 12))))) (86, [(0, .inr (.inr (some 39)))], [], sh, gc_h sh I J A) := by
    intro m_28
    obtain ⟨e0_28, e1_28, e2_28, e3_28, e4_28, e5_28, e6_28, e7_28, e8_28, e9_28, e10_28⟩ := m_28
    have f29 := (show 0 ≤ I 23 1 ∧ I 23 1 ≤ 1000 from gc_in hI R_23 rfl rfl)
    have f30 := (show 0 ≤ I 23 5 ∧ I 23 5 ≤ 1000 from gc_in hI R_23 rfl rfl)
    have f31 := (show 0 ≤ I 23 6 ∧ I 23 6 ≤ 1001 from gc_in hI R_23 rfl rfl)
    have f32 := (show 0 ≤ I 23 7 ∧ I 23 7 ≤ 125 from gc_in hI R_23 rfl rfl)
    have f33 := (show 0 ≤ I 39 12 ∧ I 39 12 ≤ 2000 from gc_in hI R_39 rfl rfl)
    have f34 := (show 0 ≤ I 39 15 ∧ I 39 15 ≤ 41 from gc_in hI R_39 rfl rfl)
    have f35 := (show 0 ≤ I 23 8 ∧ I 23 8 ≤ 999999 from gc_in hI R_23 rfl rfl)
    refine gv_run 3 true hD (pc' := 89) (lv' := [(0, .inr (.inr (some 39)))]) (st' := [.inr (.inr (some 39)), .inl 5, .inr (.inr (some 39))]) (h' := gc_h sh I J A) (C := (((True ∧ True) ∧ True) ∧ True)) rfl ⟨⟨⟨trivial, trivial⟩, trivial⟩, trivial⟩ ?_
    refine gv_get hD rfl rfl S_39 ⟨by decide, B_39⟩ (gc_hA S_39 rfl A_39_1) ?_
    show gv_X _ _ (92, [(0, .inr (.inr (some 39)))], [.inr (.inr (some 23)), .inl 5, .inr (.inr (some 39))], sh, gc_h sh I J A)
    have f36 := (show 0 ≤ I 23 5 ∧ I 23 5 ≤ 1000 from gc_in hI R_23 rfl rfl)
    refine gv_get hD rfl rfl S_23 ⟨by decide, B_23⟩ (gc_hI S_23 rfl) ?_
    show gv_X _ _ (95, [(0, .inr (.inr (some 39)))], [.inl (I 23 5), .inl 5, .inr (.inr (some 39))], sh, gc_h sh I J A)
    obtain ⟨r37, h37, E37, P37⟩ := d_X6_wrong (ws0 := ws0) (tb := tb) hws htb sh ro I J A hI  5 (I 23 5) hb   ⟨by omega, by omega⟩ ⟨by omega, by omega⟩  
    obtain ⟨I38, J39, rfl, hI38, g37, k37, ⟨z37, rfl, q37⟩⟩ := P37
    have FI38 := gc_frc (W := fun q j => (q = 39 ∧ j = 3) ∨ (q = 39 ∧ j = 4) ∨ (q = 23 ∧ j = 5) ∨ (q = 23 ∧ j = 6) ∨ (q = 23 ∧ j = 7) ∨ (q = 23 ∧ j = 8) ∨ (q = 39 ∧ j = 12) ∨ (q = 39 ∧ j = 15) ∨ q = 43) (V := fun q j => (q = 39 ∧ j = 3) ∨ (q = 39 ∧ j = 4)) FI (fun q j h => (h.elim (fun h => (Or.inl h)) (fun h => (Or.inr (Or.inl h))))) g37
    have t40 := (g37 23 1).resolve_left (by omega)
    have t41 := (g37 23 5).resolve_left (by omega)
    have t42 := (g37 23 6).resolve_left (by omega)
    have t43 := (g37 23 7).resolve_left (by omega)
    have t44 := (g37 39 12).resolve_left (by omega)
    have t45 := (g37 39 15).resolve_left (by omega)
    have t46 := (g37 23 8).resolve_left (by omega)
    have t47 := (g37 12 (Int.toNat a1)).resolve_left (by omega)
    have f48 := (show 0 ≤ I38 23 1 ∧ I38 23 1 ≤ 1000 from gc_in hI38 R_23 rfl rfl)
    have f49 := (show 0 ≤ I38 23 5 ∧ I38 23 5 ≤ 1000 from gc_in hI38 R_23 rfl rfl)
    have f50 := (show 0 ≤ I38 23 6 ∧ I38 23 6 ≤ 1001 from gc_in hI38 R_23 rfl rfl)
    have f51 := (show 0 ≤ I38 23 7 ∧ I38 23 7 ≤ 125 from gc_in hI38 R_23 rfl rfl)
    have f52 := (show 0 ≤ I38 39 12 ∧ I38 39 12 ≤ 2000 from gc_in hI38 R_39 rfl rfl)
    have f53 := (show 0 ≤ I38 39 15 ∧ I38 39 15 ≤ 41 from gc_in hI38 R_39 rfl rfl)
    have f54 := (show 0 ≤ I38 23 8 ∧ I38 23 8 ≤ 999999 from gc_in hI38 R_23 rfl rfl)
    obtain rfl : J = J39 := funext fun q => funext fun j => ((k37 q j).resolve_left id).symm
    have KLT_I38 := gc_LT_fr KLT_I ((g37 23 5).resolve_left (by omega)) ((g37 23 6).resolve_left (by omega)) ((g37 23 7).resolve_left (by omega)) (fun k => (g37 24 k).resolve_left (by omega))
    have KTO_I38 := gc_TO_fr KTO_I ((g37 39 12).resolve_left (by omega)) (fun k => (g37 43 k).resolve_left (by omega))
    refine gv_callV hD rfl (As := [.inl 5, .inl (I 23 5)]) (st := []) rfl B_39 S_39 rfl (gc_lV6 hws rfl) (Nat.le_of_ble_eq_true rfl) (gz_Ev_mono (d := 1) (by omega) E37) ?_
    show gv_X _ _ (98, [(0, .inr (.inr (some 39)))], [.inl z37], sh, gc_h sh I38 J A)
    exact gv_zret hD rfl (by omega) ⟨I38, J, rfl, hI38, FI38, FJ, KLT_I38, KTO_I38, ⟨_, rfl, by omega⟩⟩
  have L201 : ∀ (I55 : gr_I) (J56 : gr_J) , gc_Inv ro I55 → (∀ q j : Nat, ((q = 39 ∧ j = 3) ∨ (q = 39 ∧ j = 4) ∨ (q = 23 ∧ j = 5) ∨ (q = 23 ∧ j = 6) ∨ (q = 23 ∧ j = 7) ∨ (q = 23 ∧ j = 8) ∨ (q = 39 ∧ j = 12) ∨ (q = 39 ∧ j = 15) ∨ q = 43) ∨ I55 q j = I q j) → (∀ q j : Nat, ((q = 23 ∧ j = 9) ∨ q = 44 ∨ q = 45) ∨ J56 q j = J q j) → gc_LT I55 → gc_TO b I55 → ((I 39 12 ≤ I55 39 12) ∧ (b ≤ -3 - I55 12 (Int.toNat a1)) ∧ (I55 39 15 = I 39 15) ∧ (I55 39 12 ≤ I55 23 5 + 1) ∧ (I55 23 7 = 1 ∨ I55 23 7 = 2) ∧ (I55 23 5 ≤ I55 23 6) ∧ (I55 23 7 = 5 ∨ I55 23 6 ≤ I55 23 1) ∧ (I55 23 5 ≤ I55 23 1) ∧ (I55 23 7 = 4 ∨ (I55 23 5 < I55 23 6 ∧ I55 23 5 < I55 23 1)) ∧ (I55 23 7 = 3 → 2 ≤ I55 23 6 - I55 23 5 ∧ I55 23 6 - I55 23 5 ≤ 14) ∧ (I55 23 1 = I 23 1) ∧ (I 23 5 ≤ I55 23 5)) → gv_X (gc_E6 ws0 tb (6 + 2 * nr) (yX6_readAtom, cX6_readAtom, 4, (some .boolean)) kX6_readAtom) (gv_Q cX6_readAtom (some .boolean) sh (fun r h' => (∃ (I' : gr_I) (J' : gr_J), h' = gc_h sh I' J' A ∧ gc_Inv ro I' ∧ (∀ q j : Nat, ((q = 39 ∧ j = 3) ∨ (q = 39 ∧ j = 4) ∨ (q = 23 ∧ j = 5) ∨ (q = 23 ∧ j = 6) ∨ (q = 23 ∧ j = 7) ∨ (q = 23 ∧ j = 8) ∨ (q = 39 ∧ j = 12) ∨ (q = 39 ∧ j = 15) ∨ q = 43) ∨ I' q j = I q j) ∧ (∀ q j : Nat, ((q = 23 ∧ j = 9) ∨ q = 44 ∨ q = 45) ∨ J' q j = J q j) ∧ gc_LT I' ∧ gc_TO b I' ∧ (∃ z : Int, r = some (.inl z) ∧ 0 ≤ z ∧ z ≤ 1 ∧ (I' 23 5 ≤ I' 23 6) ∧ (I' 23 7 = 5 ∨ I' 23 6 ≤ I' 23 1) ∧ (I' 23 5 ≤ I' 23 1) ∧ (I' 23 7 = 4 ∨ (I' 23 5 < I' 23 6 ∧ I' 23 5 < I' 23 1)) ∧ (I' 23 7 = 3 → 2 ≤ I' 23 6 - I' 23 5 ∧ I' 23 6 - I' 23 5 ≤ 14) ∧ (I' 23 1 = I 23 1) ∧ (I 23 5 ≤ I' 23 5) ∧ (I' 39 12 ≤ I' 23 5) ∧ (z = 0 ∨ I' 39 15 = I 39 15) ∧ (I 39 12 ≤ I' 39 12))))) (201, [(0, .inr (.inr (some 39)))], [], sh, gc_h sh I55 J56 A) := by
    intro I55 J56 hI55 FI55 FJ56 KLT_I55 KTO_I55 m_57
    clear x0 x1 x2 x3 x4
    obtain ⟨e0_57, e1_57, e2_57, e3_57, e4_57, e5_57, e6_57, e7_57, e8_57, e9_57, e10_57, e11_57⟩ := m_57
    have f58 := (show 0 ≤ I55 23 1 ∧ I55 23 1 ≤ 1000 from gc_in hI55 R_23 rfl rfl)
    have f59 := (show 0 ≤ I55 23 5 ∧ I55 23 5 ≤ 1000 from gc_in hI55 R_23 rfl rfl)
    have f60 := (show 0 ≤ I55 23 6 ∧ I55 23 6 ≤ 1001 from gc_in hI55 R_23 rfl rfl)
    have f61 := (show 0 ≤ I55 23 7 ∧ I55 23 7 ≤ 125 from gc_in hI55 R_23 rfl rfl)
    have f62 := (show 0 ≤ I55 39 12 ∧ I55 39 12 ≤ 2000 from gc_in hI55 R_39 rfl rfl)
    have f63 := (show 0 ≤ I55 39 15 ∧ I55 39 15 ≤ 41 from gc_in hI55 R_39 rfl rfl)
    have f64 := (show 0 ≤ I55 23 8 ∧ I55 23 8 ≤ 999999 from gc_in hI55 R_23 rfl rfl)
    refine gv_run 1 true hD (pc' := 202) (lv' := [(0, .inr (.inr (some 39)))]) (st' := [.inr (.inr (some 39))]) (h' := gc_h sh I55 J56 A) (C := (True ∧ True)) rfl ⟨trivial, trivial⟩ ?_
    refine gv_get hD rfl rfl S_39 ⟨by decide, B_39⟩ (gc_hA S_39 rfl A_39_1) ?_
    show gv_X _ _ (205, [(0, .inr (.inr (some 39)))], [.inr (.inr (some 23))], sh, gc_h sh I55 J56 A)
    obtain ⟨r65, h65, E65, P65⟩ := d_X9_advance (ws0 := ws0) (tb := tb) hws htb sh ro I55 J56 A hI55 23  (gc_b23 hb)    (by omega) 
    obtain ⟨I66, J67, rfl, hI66, g65, k65, ⟨rfl, q65⟩⟩ := P65
    have FI66 := gc_frc (W := fun q j => (q = 39 ∧ j = 3) ∨ (q = 39 ∧ j = 4) ∨ (q = 23 ∧ j = 5) ∨ (q = 23 ∧ j = 6) ∨ (q = 23 ∧ j = 7) ∨ (q = 23 ∧ j = 8) ∨ (q = 39 ∧ j = 12) ∨ (q = 39 ∧ j = 15) ∨ q = 43) (V := fun q j => (q = 23 ∧ j = 5) ∨ (q = 23 ∧ j = 6) ∨ (q = 23 ∧ j = 7) ∨ (q = 23 ∧ j = 8)) FI55 (fun q j h => (h.elim (fun h => (Or.inr (Or.inr (Or.inl h)))) (fun h => (h.elim (fun h => (Or.inr (Or.inr (Or.inr (Or.inl h))))) (fun h => (h.elim (fun h => (Or.inr (Or.inr (Or.inr (Or.inr (Or.inl h)))))) (fun h => (Or.inr (Or.inr (Or.inr (Or.inr (Or.inr (Or.inl h))))))))))))) g65
    have FJ67 := gc_frc (W := fun q j => (q = 23 ∧ j = 9) ∨ q = 44 ∨ q = 45) (V := fun q j => (q = 23 ∧ j = 9)) FJ56 (fun q j h => (Or.inl h)) k65
    have t68 := (g65 23 1).resolve_left (by omega)
    have t69 := (g65 39 12).resolve_left (by omega)
    have t70 := (g65 39 15).resolve_left (by omega)
    have t71 := (g65 12 (Int.toNat a1)).resolve_left (by omega)
    have f72 := (show 0 ≤ I66 23 1 ∧ I66 23 1 ≤ 1000 from gc_in hI66 R_23 rfl rfl)
    have f73 := (show 0 ≤ I66 23 5 ∧ I66 23 5 ≤ 1000 from gc_in hI66 R_23 rfl rfl)
    have f74 := (show 0 ≤ I66 23 6 ∧ I66 23 6 ≤ 1001 from gc_in hI66 R_23 rfl rfl)
    have f75 := (show 0 ≤ I66 23 7 ∧ I66 23 7 ≤ 125 from gc_in hI66 R_23 rfl rfl)
    have f76 := (show 0 ≤ I66 39 12 ∧ I66 39 12 ≤ 2000 from gc_in hI66 R_39 rfl rfl)
    have f77 := (show 0 ≤ I66 39 15 ∧ I66 39 15 ≤ 41 from gc_in hI66 R_39 rfl rfl)
    have f78 := (show 0 ≤ I66 23 8 ∧ I66 23 8 ≤ 999999 from gc_in hI66 R_23 rfl rfl)
    have KLT_I66 : gc_LT I66 := q65.2.2.2.2.2.2.2
    have KTO_I66 := gc_TO_fr KTO_I55 ((g65 39 12).resolve_left (by omega)) (fun k => (g65 43 k).resolve_left (by omega))
    refine gv_callV hD rfl (As := []) (st := []) rfl B_23 S_23 rfl (gc_lV6 hws rfl) (Nat.le_of_ble_eq_true rfl) (gz_Ev_mono (d := 2) (by omega) E65) ?_
    show gv_X _ _ (208, [(0, .inr (.inr (some 39)))], [], sh, gc_h sh I66 J67 A)
    refine gv_run 1 true hD (pc' := 209) (lv' := [(0, .inr (.inr (some 39)))]) (st' := [.inl 1]) (h' := gc_h sh I66 J67 A) (C := (True ∧ True)) rfl ⟨trivial, trivial⟩ ?_
    exact gv_zret hD rfl (by omega) ⟨I66, J67, rfl, hI66, FI66, FJ67, KLT_I66, KTO_I66, ⟨_, rfl, by omega⟩⟩
  have L125 : ∀ (n9 : Nat) (v3_79 : Int), (42 - v3_79).toNat < n9 → ((0 ≤ v3_79 ∧ v3_79 ≤ 41) ∧ (I 39 12 ≤ I 23 5) ∧ (I 39 12 ≤ I 39 12) ∧ (b ≤ -3 - I 12 (Int.toNat a1)) ∧ (I 39 15 = I 39 15) ∧ (I 23 7 = 1) ∧ (v3_79 ≤ I 39 15) ∧ (I 23 5 ≤ I 23 6) ∧ (I 23 7 = 5 ∨ I 23 6 ≤ I 23 1) ∧ (I 23 5 ≤ I 23 1) ∧ (I 23 7 = 4 ∨ (I 23 5 < I 23 6 ∧ I 23 5 < I 23 1)) ∧ (I 23 7 = 3 → 2 ≤ I 23 6 - I 23 5 ∧ I 23 6 - I 23 5 ≤ 14) ∧ (I 23 1 = I 23 1) ∧ (I 23 5 ≤ I 23 5)) → gv_X (gc_E6 ws0 tb (6 + 2 * nr) (yX6_readAtom, cX6_readAtom, 4, (some .boolean)) kX6_readAtom) (gv_Q cX6_readAtom (some .boolean) sh (fun r h' => (∃ (I' : gr_I) (J' : gr_J), h' = gc_h sh I' J' A ∧ gc_Inv ro I' ∧ (∀ q j : Nat, ((q = 39 ∧ j = 3) ∨ (q = 39 ∧ j = 4) ∨ (q = 23 ∧ j = 5) ∨ (q = 23 ∧ j = 6) ∨ (q = 23 ∧ j = 7) ∨ (q = 23 ∧ j = 8) ∨ (q = 39 ∧ j = 12) ∨ (q = 39 ∧ j = 15) ∨ q = 43) ∨ I' q j = I q j) ∧ (∀ q j : Nat, ((q = 23 ∧ j = 9) ∨ q = 44 ∨ q = 45) ∨ J' q j = J q j) ∧ gc_LT I' ∧ gc_TO b I' ∧ (∃ z : Int, r = some (.inl z) ∧ 0 ≤ z ∧ z ≤ 1 ∧ (I' 23 5 ≤ I' 23 6) ∧ (I' 23 7 = 5 ∨ I' 23 6 ≤ I' 23 1) ∧ (I' 23 5 ≤ I' 23 1) ∧ (I' 23 7 = 4 ∨ (I' 23 5 < I' 23 6 ∧ I' 23 5 < I' 23 1)) ∧ (I' 23 7 = 3 → 2 ≤ I' 23 6 - I' 23 5 ∧ I' 23 6 - I' 23 5 ≤ 14) ∧ (I' 23 1 = I 23 1) ∧ (I 23 5 ≤ I' 23 5) ∧ (I' 39 12 ≤ I' 23 5) ∧ (z = 0 ∨ I' 39 15 = I 39 15) ∧ (I 39 12 ≤ I' 39 12))))) (125, [(0, .inr (.inr (some 39))), (3, .inl v3_79)], [], sh, gc_h sh I J A) := by
    intro n9
    induction n9 with
    | zero => intro v3_79 hn; omega
    | succ n9 ih125 =>
      intro v3_79 hn m_79
      obtain ⟨hv3_79, e0_79, e1_79, e2_79, e3_79, e4_79, e5_79, e6_79, e7_79, e8_79, e9_79, e10_79, e11_79, e12_79⟩ := m_79
      have f80 := (show 0 ≤ I 23 1 ∧ I 23 1 ≤ 1000 from gc_in hI R_23 rfl rfl)
      have f81 := (show 0 ≤ I 23 5 ∧ I 23 5 ≤ 1000 from gc_in hI R_23 rfl rfl)
      have f82 := (show 0 ≤ I 23 6 ∧ I 23 6 ≤ 1001 from gc_in hI R_23 rfl rfl)
      have f83 := (show 0 ≤ I 23 7 ∧ I 23 7 ≤ 125 from gc_in hI R_23 rfl rfl)
      have f84 := (show 0 ≤ I 39 12 ∧ I 39 12 ≤ 2000 from gc_in hI R_39 rfl rfl)
      have f85 := (show 0 ≤ I 39 15 ∧ I 39 15 ≤ 41 from gc_in hI R_39 rfl rfl)
      have f86 := (show 0 ≤ I 23 8 ∧ I 23 8 ≤ 999999 from gc_in hI R_23 rfl rfl)
      have L163 : ((0 ≤ v3_79 ∧ v3_79 ≤ 41) ∧ (I 39 12 ≤ I 23 5) ∧ (I 39 12 ≤ I 39 12) ∧ (b ≤ -3 - I 12 (Int.toNat a1)) ∧ (I 39 15 = I 39 15) ∧ (I 23 7 = 1) ∧ (v3_79 ≤ I 39 15) ∧ (I 23 5 ≤ I 23 6) ∧ (I 23 7 = 5 ∨ I 23 6 ≤ I 23 1) ∧ (I 23 5 ≤ I 23 1) ∧ (I 23 7 = 4 ∨ (I 23 5 < I 23 6 ∧ I 23 5 < I 23 1)) ∧ (I 23 7 = 3 → 2 ≤ I 23 6 - I 23 5 ∧ I 23 6 - I 23 5 ≤ 14) ∧ (I 23 1 = I 23 1) ∧ (I 23 5 ≤ I 23 5)) → gv_X (gc_E6 ws0 tb (6 + 2 * nr) (yX6_readAtom, cX6_readAtom, 4, (some .boolean)) kX6_readAtom) (gv_Q cX6_readAtom (some .boolean) sh (fun r h' => (∃ (I' : gr_I) (J' : gr_J), h' = gc_h sh I' J' A ∧ gc_Inv ro I' ∧ (∀ q j : Nat, ((q = 39 ∧ j = 3) ∨ (q = 39 ∧ j = 4) ∨ (q = 23 ∧ j = 5) ∨ (q = 23 ∧ j = 6) ∨ (q = 23 ∧ j = 7) ∨ (q = 23 ∧ j = 8) ∨ (q = 39 ∧ j = 12) ∨ (q = 39 ∧ j = 15) ∨ q = 43) ∨ I' q j = I q j) ∧ (∀ q j : Nat, ((q = 23 ∧ j = 9) ∨ q = 44 ∨ q = 45) ∨ J' q j = J q j) ∧ gc_LT I' ∧ gc_TO b I' ∧ (∃ z : Int, r = some (.inl z) ∧ 0 ≤ z ∧ z ≤ 1 ∧ (I' 23 5 ≤ I' 23 6) ∧ (I' 23 7 = 5 ∨ I' 23 6 ≤ I' 23 1) ∧ (I' 23 5 ≤ I' 23 1) ∧ (I' 23 7 = 4 ∨ (I' 23 5 < I' 23 6 ∧ I' 23 5 < I' 23 1)) ∧ (I' 23 7 = 3 → 2 ≤ I' 23 6 - I' 23 5 ∧ I' 23 6 - I' 23 5 ≤ 14) ∧ (I' 23 1 = I 23 1) ∧ (I 23 5 ≤ I' 23 5) ∧ (I' 39 12 ≤ I' 23 5) ∧ (z = 0 ∨ I' 39 15 = I 39 15) ∧ (I 39 12 ≤ I' 39 12))))) (163, [(0, .inr (.inr (some 39))), (3, .inl v3_79)], [], sh, gc_h sh I J A) := by
        intro m_87
        obtain ⟨hv3_79_87, e0_87, e1_87, e2_87, e3_87, e4_87, e5_87, e6_87, e7_87, e8_87, e9_87, e10_87, e11_87, e12_87⟩ := m_87
        have f88 := (show 0 ≤ I 23 1 ∧ I 23 1 ≤ 1000 from gc_in hI R_23 rfl rfl)
        have f89 := (show 0 ≤ I 23 5 ∧ I 23 5 ≤ 1000 from gc_in hI R_23 rfl rfl)
        have f90 := (show 0 ≤ I 23 6 ∧ I 23 6 ≤ 1001 from gc_in hI R_23 rfl rfl)
        have f91 := (show 0 ≤ I 23 7 ∧ I 23 7 ≤ 125 from gc_in hI R_23 rfl rfl)
        have f92 := (show 0 ≤ I 39 12 ∧ I 39 12 ≤ 2000 from gc_in hI R_39 rfl rfl)
        have f93 := (show 0 ≤ I 39 15 ∧ I 39 15 ≤ 41 from gc_in hI R_39 rfl rfl)
        have f94 := (show 0 ≤ I 23 8 ∧ I 23 8 ≤ 999999 from gc_in hI R_23 rfl rfl)
        refine gv_run 2 true hD (pc' := 165) (lv' := [(0, .inr (.inr (some 39))), (3, .inl v3_79)]) (st' := [.inr (.inr (some 39)), .inl v3_79]) (h' := gc_h sh I J A) (C := ((True ∧ True) ∧ True)) rfl ⟨⟨trivial, trivial⟩, trivial⟩ ?_
        have f95 := (show 0 ≤ I 39 15 ∧ I 39 15 ≤ 41 from gc_in hI R_39 rfl rfl)
        refine gv_get hD rfl rfl S_39 ⟨by decide, B_39⟩ (gc_hI S_39 rfl) ?_
        show gv_X _ _ (168, [(0, .inr (.inr (some 39))), (3, .inl v3_79)], [.inl (I 39 15), .inl v3_79], sh, gc_h sh I J A)
        refine gv_icmp_ge (t := 184) hD rfl rfl ⟨⟨by omega, by omega⟩, ⟨by omega, by omega⟩⟩ (fun c96 => ?_) (fun c96 => ?_)
        · show gv_X _ _ (184, [(0, .inr (.inr (some 39))), (3, .inl v3_79)], [], sh, gc_h sh I J A)
          refine gv_run 2 true hD (pc' := 186) (lv' := [(0, .inr (.inr (some 39))), (3, .inl v3_79)]) (st' := [.inr (.inr (some 39)), .inr (.inr (some 39))]) (h' := gc_h sh I J A) (C := ((True ∧ True) ∧ True)) rfl ⟨⟨trivial, trivial⟩, trivial⟩ ?_
          have f97 := (show 0 ≤ I 39 12 ∧ I 39 12 ≤ 2000 from gc_in hI R_39 rfl rfl)
          refine gv_get hD rfl rfl S_39 ⟨by decide, B_39⟩ (gc_hI S_39 rfl) ?_
          show gv_X _ _ (189, [(0, .inr (.inr (some 39))), (3, .inl v3_79)], [.inl (I 39 12), .inr (.inr (some 39))], sh, gc_h sh I J A)
          refine gv_run 2 true hD (pc' := 192) (lv' := [(0, .inr (.inr (some 39))), (3, .inl v3_79)]) (st' := [.inr (.inr (some 39)), .inl (-3), .inl (I 39 12), .inr (.inr (some 39))]) (h' := gc_h sh I J A) (C := ((True ∧ True) ∧ True)) rfl ⟨⟨trivial, trivial⟩, trivial⟩ ?_
          refine gv_get hD rfl rfl S_39 ⟨by decide, B_39⟩ (gc_hA S_39 rfl A_39_1) ?_
          show gv_X _ _ (195, [(0, .inr (.inr (some 39))), (3, .inl v3_79)], [.inr (.inr (some 23)), .inl (-3), .inl (I 39 12), .inr (.inr (some 39))], sh, gc_h sh I J A)
          refine gv_get hD rfl rfl S_23 ⟨by decide, B_23⟩ (gc_hJ S_23 rfl) ?_
          show gv_X _ _ (198, [(0, .inr (.inr (some 39))), (3, .inl v3_79)], [.inr (.inl (J 23 9)), .inl (-3), .inl (I 39 12), .inr (.inr (some 39))], sh, gc_h sh I J A)
          obtain ⟨r98, h98, E98, P98⟩ := d_X6_putNode (ws0 := ws0) (tb := tb) hws htb sh ro I J A hI  b (I 39 12) (-3) (J 23 9) hb   ⟨by omega, by omega⟩ ⟨by omega, by omega⟩ (by omega) (by omega) (by omega) KTO_I
          obtain ⟨I99, J100, rfl, hI99, g98, k98, KTO_I99, ⟨rfl, q98⟩⟩ := P98
          have FI99 := gc_frc (W := fun q j => (q = 39 ∧ j = 3) ∨ (q = 39 ∧ j = 4) ∨ (q = 23 ∧ j = 5) ∨ (q = 23 ∧ j = 6) ∨ (q = 23 ∧ j = 7) ∨ (q = 23 ∧ j = 8) ∨ (q = 39 ∧ j = 12) ∨ (q = 39 ∧ j = 15) ∨ q = 43) (V := fun q j => (q = 39 ∧ j = 12) ∨ q = 43) FI (fun q j h => (h.elim (fun h => (Or.inr (Or.inr (Or.inr (Or.inr (Or.inr (Or.inr (Or.inl h)))))))) (fun h => (Or.inr (Or.inr (Or.inr (Or.inr (Or.inr (Or.inr (Or.inr (Or.inr h))))))))))) g98
          have FJ100 := gc_frc (W := fun q j => (q = 23 ∧ j = 9) ∨ q = 44 ∨ q = 45) (V := fun q j => q = 44) FJ (fun q j h => (Or.inr (Or.inl h))) k98
          have t101 := (g98 23 1).resolve_left (by omega)
          have t102 := (g98 23 5).resolve_left (by omega)
          have t103 := (g98 23 6).resolve_left (by omega)
          have t104 := (g98 23 7).resolve_left (by omega)
          have t105 := (g98 39 15).resolve_left (by omega)
          have t106 := (g98 23 8).resolve_left (by omega)
          have t107 := (g98 12 (Int.toNat a1)).resolve_left (by omega)
          have f108 := (show 0 ≤ I99 23 1 ∧ I99 23 1 ≤ 1000 from gc_in hI99 R_23 rfl rfl)
          have f109 := (show 0 ≤ I99 23 5 ∧ I99 23 5 ≤ 1000 from gc_in hI99 R_23 rfl rfl)
          have f110 := (show 0 ≤ I99 23 6 ∧ I99 23 6 ≤ 1001 from gc_in hI99 R_23 rfl rfl)
          have f111 := (show 0 ≤ I99 23 7 ∧ I99 23 7 ≤ 125 from gc_in hI99 R_23 rfl rfl)
          have f112 := (show 0 ≤ I99 39 12 ∧ I99 39 12 ≤ 2000 from gc_in hI99 R_39 rfl rfl)
          have f113 := (show 0 ≤ I99 39 15 ∧ I99 39 15 ≤ 41 from gc_in hI99 R_39 rfl rfl)
          have f114 := (show 0 ≤ I99 23 8 ∧ I99 23 8 ≤ 999999 from gc_in hI99 R_23 rfl rfl)
          have KLT_I99 := gc_LT_fr KLT_I ((g98 23 5).resolve_left (by omega)) ((g98 23 6).resolve_left (by omega)) ((g98 23 7).resolve_left (by omega)) (fun k => (g98 24 k).resolve_left (by omega))
          refine gv_callV hD rfl (As := [.inl (I 39 12), .inl (-3), .inr (.inl (J 23 9))]) (st := []) rfl B_39 S_39 rfl (gc_lV6 hws rfl) (Nat.le_of_ble_eq_true rfl) (gz_Ev_mono (d := 1) (by omega) E98) ?_
          show gv_X _ _ (201, [(0, .inr (.inr (some 39))), (3, .inl v3_79)], [], sh, gc_h sh I99 J100 A)
          refine gv_pick [0] rfl ?_
          exact L201 I99 J100 hI99 FI99 FJ100 KLT_I99 KTO_I99 (by omega)
        · show gv_X _ _ (171, [(0, .inr (.inr (some 39))), (3, .inl v3_79)], [], sh, gc_h sh I J A)
          refine gv_run 2 true hD (pc' := 173) (lv' := [(0, .inr (.inr (some 39))), (3, .inl v3_79)]) (st' := [.inr (.inr (some 39)), .inr (.inr (some 39))]) (h' := gc_h sh I J A) (C := ((True ∧ True) ∧ True)) rfl ⟨⟨trivial, trivial⟩, trivial⟩ ?_
          have f115 := (show 0 ≤ I 39 12 ∧ I 39 12 ≤ 2000 from gc_in hI R_39 rfl rfl)
          refine gv_get hD rfl rfl S_39 ⟨by decide, B_39⟩ (gc_hI S_39 rfl) ?_
          show gv_X _ _ (176, [(0, .inr (.inr (some 39))), (3, .inl v3_79)], [.inl (I 39 12), .inr (.inr (some 39))], sh, gc_h sh I J A)
          refine gv_run 2 true hD (pc' := 178) (lv' := [(0, .inr (.inr (some 39))), (3, .inl v3_79)]) (st' := [.inr (.inl (Int64.ofNat 0)), .inl v3_79, .inl (I 39 12), .inr (.inr (some 39))]) (h' := gc_h sh I J A) (C := ((True ∧ True) ∧ True)) rfl ⟨⟨trivial, trivial⟩, trivial⟩ ?_
          obtain ⟨r116, h116, E116, P116⟩ := d_X6_putNode (ws0 := ws0) (tb := tb) hws htb sh ro I J A hI  b (I 39 12) v3_79 (Int64.ofNat 0) hb   ⟨by omega, by omega⟩ ⟨by omega, by omega⟩ (by omega) (by omega) (by omega) KTO_I
          obtain ⟨I117, J118, rfl, hI117, g116, k116, KTO_I117, ⟨rfl, q116⟩⟩ := P116
          have FI117 := gc_frc (W := fun q j => (q = 39 ∧ j = 3) ∨ (q = 39 ∧ j = 4) ∨ (q = 23 ∧ j = 5) ∨ (q = 23 ∧ j = 6) ∨ (q = 23 ∧ j = 7) ∨ (q = 23 ∧ j = 8) ∨ (q = 39 ∧ j = 12) ∨ (q = 39 ∧ j = 15) ∨ q = 43) (V := fun q j => (q = 39 ∧ j = 12) ∨ q = 43) FI (fun q j h => (h.elim (fun h => (Or.inr (Or.inr (Or.inr (Or.inr (Or.inr (Or.inr (Or.inl h)))))))) (fun h => (Or.inr (Or.inr (Or.inr (Or.inr (Or.inr (Or.inr (Or.inr (Or.inr h))))))))))) g116
          have FJ118 := gc_frc (W := fun q j => (q = 23 ∧ j = 9) ∨ q = 44 ∨ q = 45) (V := fun q j => q = 44) FJ (fun q j h => (Or.inr (Or.inl h))) k116
          have t119 := (g116 23 1).resolve_left (by omega)
          have t120 := (g116 23 5).resolve_left (by omega)
          have t121 := (g116 23 6).resolve_left (by omega)
          have t122 := (g116 23 7).resolve_left (by omega)
          have t123 := (g116 39 15).resolve_left (by omega)
          have t124 := (g116 23 8).resolve_left (by omega)
          have t125 := (g116 12 (Int.toNat a1)).resolve_left (by omega)
          have f126 := (show 0 ≤ I117 23 1 ∧ I117 23 1 ≤ 1000 from gc_in hI117 R_23 rfl rfl)
          have f127 := (show 0 ≤ I117 23 5 ∧ I117 23 5 ≤ 1000 from gc_in hI117 R_23 rfl rfl)
          have f128 := (show 0 ≤ I117 23 6 ∧ I117 23 6 ≤ 1001 from gc_in hI117 R_23 rfl rfl)
          have f129 := (show 0 ≤ I117 23 7 ∧ I117 23 7 ≤ 125 from gc_in hI117 R_23 rfl rfl)
          have f130 := (show 0 ≤ I117 39 12 ∧ I117 39 12 ≤ 2000 from gc_in hI117 R_39 rfl rfl)
          have f131 := (show 0 ≤ I117 39 15 ∧ I117 39 15 ≤ 41 from gc_in hI117 R_39 rfl rfl)
          have f132 := (show 0 ≤ I117 23 8 ∧ I117 23 8 ≤ 999999 from gc_in hI117 R_23 rfl rfl)
          have KLT_I117 := gc_LT_fr KLT_I ((g116 23 5).resolve_left (by omega)) ((g116 23 6).resolve_left (by omega)) ((g116 23 7).resolve_left (by omega)) (fun k => (g116 24 k).resolve_left (by omega))
          refine gv_callV hD rfl (As := [.inl (I 39 12), .inl v3_79, .inr (.inl (Int64.ofNat 0))]) (st := []) rfl B_39 S_39 rfl (gc_lV6 hws rfl) (Nat.le_of_ble_eq_true rfl) (gz_Ev_mono (d := 1) (by omega) E116) ?_
          show gv_X _ _ (181, [(0, .inr (.inr (some 39))), (3, .inl v3_79)], [], sh, gc_h sh I117 J118 A)
          refine gv_run 1 true hD (pc' := 201) (lv' := [(0, .inr (.inr (some 39))), (3, .inl v3_79)]) (st' := []) (h' := gc_h sh I117 J118 A) (C := (True ∧ True)) rfl ⟨trivial, trivial⟩ ?_
          refine gv_pick [0] rfl ?_
          exact L201 I117 J118 hI117 FI117 FJ118 KLT_I117 KTO_I117 (by omega)
      refine gv_run 2 true hD (pc' := 127) (lv' := [(0, .inr (.inr (some 39))), (3, .inl v3_79)]) (st' := [.inr (.inr (some 39)), .inl v3_79]) (h' := gc_h sh I J A) (C := ((True ∧ True) ∧ True)) rfl ⟨⟨trivial, trivial⟩, trivial⟩ ?_
      have f133 := (show 0 ≤ I 39 15 ∧ I 39 15 ≤ 41 from gc_in hI R_39 rfl rfl)
      refine gv_get hD rfl rfl S_39 ⟨by decide, B_39⟩ (gc_hI S_39 rfl) ?_
      show gv_X _ _ (130, [(0, .inr (.inr (some 39))), (3, .inl v3_79)], [.inl (I 39 15), .inl v3_79], sh, gc_h sh I J A)
      refine gv_icmp_ge (t := 163) hD rfl rfl ⟨⟨by omega, by omega⟩, ⟨by omega, by omega⟩⟩ (fun c134 => ?_) (fun c134 => ?_)
      · show gv_X _ _ (163, [(0, .inr (.inr (some 39))), (3, .inl v3_79)], [], sh, gc_h sh I J A)
        exact L163 (by omega)
      · show gv_X _ _ (133, [(0, .inr (.inr (some 39))), (3, .inl v3_79)], [], sh, gc_h sh I J A)
        refine gv_run 1 true hD (pc' := 134) (lv' := [(0, .inr (.inr (some 39))), (3, .inl v3_79)]) (st' := [.inr (.inr (some 39))]) (h' := gc_h sh I J A) (C := (True ∧ True)) rfl ⟨trivial, trivial⟩ ?_
        refine gv_get hD rfl rfl S_39 ⟨by decide, B_39⟩ (gc_hA S_39 rfl A_39_16) ?_
        show gv_X _ _ (137, [(0, .inr (.inr (some 39))), (3, .inl v3_79)], [.inr (.inr (some 45))], sh, gc_h sh I J A)
        refine gv_run 1 true hD (pc' := 138) (lv' := [(0, .inr (.inr (some 39))), (3, .inl v3_79)]) (st' := [.inr (.inr (some 39)), .inr (.inr (some 45))]) (h' := gc_h sh I J A) (C := (True ∧ True)) rfl ⟨trivial, trivial⟩ ?_
        have f135 := (show 0 ≤ I 39 15 ∧ I 39 15 ≤ 41 from gc_in hI R_39 rfl rfl)
        refine gv_get hD rfl rfl S_39 ⟨by decide, B_39⟩ (gc_hI S_39 rfl) ?_
        show gv_X _ _ (141, [(0, .inr (.inr (some 39))), (3, .inl v3_79)], [.inl (I 39 15), .inr (.inr (some 45))], sh, gc_h sh I J A)
        refine gv_run 4 true hD (pc' := 145) (lv' := [(0, .inr (.inr (some 39))), (3, .inl v3_79)]) (st' := [.inl (((I 39 15) - 1) - v3_79), .inr (.inr (some 45))]) (h' := gc_h sh I J A) (C := ((((True ∧ True) ∧ True) ∧ True) ∧ True)) rfl ⟨⟨⟨⟨trivial, trivial⟩, trivial⟩, trivial⟩, trivial⟩ ?_
        refine gv_lald hD rfl S_45 rfl ⟨by decide, B_45⟩ ⟨by omega, by omega⟩ (gc_jJ S_45 rfl) ?_
        show gv_X _ _ (146, [(0, .inr (.inr (some 39))), (3, .inl v3_79)], [.inr (.inl (J 45 (Int.toNat ((((I 39 15) - 1) - v3_79)))))], sh, gc_h sh I J A)
        refine gv_run 1 true hD (pc' := 147) (lv' := [(0, .inr (.inr (some 39))), (3, .inl v3_79)]) (st' := [.inr (.inr (some 39)), .inr (.inl (J 45 (Int.toNat ((((I 39 15) - 1) - v3_79)))))]) (h' := gc_h sh I J A) (C := (True ∧ True)) rfl ⟨trivial, trivial⟩ ?_
        refine gv_get hD rfl rfl S_39 ⟨by decide, B_39⟩ (gc_hA S_39 rfl A_39_1) ?_
        show gv_X _ _ (150, [(0, .inr (.inr (some 39))), (3, .inl v3_79)], [.inr (.inr (some 23)), .inr (.inl (J 45 (Int.toNat ((((I 39 15) - 1) - v3_79)))))], sh, gc_h sh I J A)
        refine gv_get hD rfl rfl S_23 ⟨by decide, B_23⟩ (gc_hJ S_23 rfl) ?_
        show gv_X _ _ (153, [(0, .inr (.inr (some 39))), (3, .inl v3_79)], [.inr (.inl (J 23 9)), .inr (.inl (J 45 (Int.toNat ((((I 39 15) - 1) - v3_79)))))], sh, gc_h sh I J A)
        have f136 := gw_cmp ((J 45 (Int.toNat ((((I 39 15) - 1) - v3_79))))) ((J 23 9))
        refine gv_run 1 true hD (pc' := 154) (lv' := [(0, .inr (.inr (some 39))), (3, .inl v3_79)]) (st' := [.inl ((lg_cmp ((J 45 (Int.toNat ((((I 39 15) - 1) - v3_79))))) ((J 23 9))).toInt)]) (h' := gc_h sh I J A) (C := (True ∧ True)) rfl ⟨trivial, trivial⟩ ?_
        refine gv_if_eq (t := 163) hD rfl rfl ⟨by omega, by omega⟩ (fun c137 => ?_) (fun c137 => ?_)
        · show gv_X _ _ (163, [(0, .inr (.inr (some 39))), (3, .inl v3_79)], [], sh, gc_h sh I J A)
          exact L163 (by omega)
        · show gv_X _ _ (157, [(0, .inr (.inr (some 39))), (3, .inl v3_79)], [], sh, gc_h sh I J A)
          refine gv_run 2 true hD (pc' := 125) (lv' := [(3, .inl (v3_79 + 1)), (0, .inr (.inr (some 39)))]) (st' := []) (h' := gc_h sh I J A) (C := ((True ∧ True) ∧ True)) rfl ⟨⟨trivial, trivial⟩, trivial⟩ ?_
          refine gv_pick [1, 0] rfl ?_
          exact ih125 (v3_79 + 1) (by omega) (by omega)
  refine gv_run 1 true hD (pc' := 1) (lv' := [(0, .inr (.inr (some 39))), (1, .inl a1), (2, .inl a2)]) (st' := [.inr (.inr (some 39))]) (h' := gc_h sh I J A) (C := (True ∧ True)) rfl ⟨trivial, trivial⟩ ?_
  refine gv_get hD rfl rfl S_39 ⟨by decide, B_39⟩ (gc_hA S_39 rfl A_39_1) ?_
  show gv_X _ _ (4, [(0, .inr (.inr (some 39))), (1, .inl a1), (2, .inl a2)], [.inr (.inr (some 23))], sh, gc_h sh I J A)
  have f138 := (show 0 ≤ I 23 7 ∧ I 23 7 ≤ 125 from gc_in hI R_23 rfl rfl)
  refine gv_get hD rfl rfl S_23 ⟨by decide, B_23⟩ (gc_hI S_23 rfl) ?_
  show gv_X _ _ (7, [(0, .inr (.inr (some 39))), (1, .inl a1), (2, .inl a2)], [.inl (I 23 7)], sh, gc_h sh I J A)
  refine gv_run 1 true hD (pc' := 9) (lv' := [(0, .inr (.inr (some 39))), (1, .inl a1), (2, .inl a2)]) (st' := [.inl 40, .inl (I 23 7)]) (h' := gc_h sh I J A) (C := (True ∧ True)) rfl ⟨trivial, trivial⟩ ?_
  refine gv_icmp_ne (t := 45) hD rfl rfl ⟨⟨by omega, by omega⟩, ⟨by omega, by omega⟩⟩ (fun c139 => ?_) (fun c139 => ?_)
  · show gv_X _ _ (45, [(0, .inr (.inr (some 39))), (1, .inl a1), (2, .inl a2)], [], sh, gc_h sh I J A)
    refine gv_run 1 true hD (pc' := 46) (lv' := [(0, .inr (.inr (some 39))), (1, .inl a1), (2, .inl a2)]) (st' := [.inr (.inr (some 39))]) (h' := gc_h sh I J A) (C := (True ∧ True)) rfl ⟨trivial, trivial⟩ ?_
    refine gv_get hD rfl rfl S_39 ⟨by decide, B_39⟩ (gc_hA S_39 rfl A_39_1) ?_
    show gv_X _ _ (49, [(0, .inr (.inr (some 39))), (1, .inl a1), (2, .inl a2)], [.inr (.inr (some 23))], sh, gc_h sh I J A)
    have f140 := (show 0 ≤ I 23 7 ∧ I 23 7 ≤ 125 from gc_in hI R_23 rfl rfl)
    refine gv_get hD rfl rfl S_23 ⟨by decide, B_23⟩ (gc_hI S_23 rfl) ?_
    show gv_X _ _ (52, [(0, .inr (.inr (some 39))), (1, .inl a1), (2, .inl a2)], [.inl (I 23 7)], sh, gc_h sh I J A)
    refine gv_run 1 true hD (pc' := 53) (lv' := [(0, .inr (.inr (some 39))), (1, .inl a1), (2, .inl a2)]) (st' := [.inl 2, .inl (I 23 7)]) (h' := gc_h sh I J A) (C := (True ∧ True)) rfl ⟨trivial, trivial⟩ ?_
    refine gv_icmp_ne (t := 123) hD rfl rfl ⟨⟨by omega, by omega⟩, ⟨by omega, by omega⟩⟩ (fun c141 => ?_) (fun c141 => ?_)
    · show gv_X _ _ (123, [(0, .inr (.inr (some 39))), (1, .inl a1), (2, .inl a2)], [], sh, gc_h sh I J A)
      refine gv_run 2 true hD (pc' := 125) (lv' := [(3, .inl 0), (0, .inr (.inr (some 39))), (1, .inl a1), (2, .inl a2)]) (st' := []) (h' := gc_h sh I J A) (C := ((True ∧ True) ∧ True)) rfl ⟨⟨trivial, trivial⟩, trivial⟩ ?_
      refine gv_pick [1, 0] rfl ?_
      exact L125 _ 0 (Nat.lt_succ_self _) (by omega)
    · show gv_X _ _ (56, [(0, .inr (.inr (some 39))), (1, .inl a1), (2, .inl a2)], [], sh, gc_h sh I J A)
      refine gv_run 1 true hD (pc' := 57) (lv' := [(0, .inr (.inr (some 39))), (1, .inl a1), (2, .inl a2)]) (st' := [.inr (.inr (some 39))]) (h' := gc_h sh I J A) (C := (True ∧ True)) rfl ⟨trivial, trivial⟩ ?_
      refine gv_get hD rfl rfl S_39 ⟨by decide, B_39⟩ (gc_hA S_39 rfl A_39_1) ?_
      show gv_X _ _ (60, [(0, .inr (.inr (some 39))), (1, .inl a1), (2, .inl a2)], [.inr (.inr (some 23))], sh, gc_h sh I J A)
      have f142 := (show 0 ≤ I 23 8 ∧ I 23 8 ≤ 999999 from gc_in hI R_23 rfl rfl)
      refine gv_get hD rfl rfl S_23 ⟨by decide, B_23⟩ (gc_hI S_23 rfl) ?_
      show gv_X _ _ (63, [(0, .inr (.inr (some 39))), (1, .inl a1), (2, .inl a2)], [.inl (I 23 8)], sh, gc_h sh I J A)
      refine gv_run 1 true hD (pc' := 64) (lv' := [(0, .inr (.inr (some 39))), (1, .inl a1), (2, .inl a2)]) (st' := [.inl 1, .inl (I 23 8)]) (h' := gc_h sh I J A) (C := (True ∧ True)) rfl ⟨trivial, trivial⟩ ?_
      refine gv_icmp_lt (t := 86) hD rfl rfl ⟨⟨by omega, by omega⟩, ⟨by omega, by omega⟩⟩ (fun c143 => ?_) (fun c143 => ?_)
      · show gv_X _ _ (86, [(0, .inr (.inr (some 39))), (1, .inl a1), (2, .inl a2)], [], sh, gc_h sh I J A)
        refine gv_pick [0] rfl ?_
        exact L86 (by omega)
      · show gv_X _ _ (67, [(0, .inr (.inr (some 39))), (1, .inl a1), (2, .inl a2)], [], sh, gc_h sh I J A)
        refine gv_run 1 true hD (pc' := 68) (lv' := [(0, .inr (.inr (some 39))), (1, .inl a1), (2, .inl a2)]) (st' := [.inr (.inr (some 39))]) (h' := gc_h sh I J A) (C := (True ∧ True)) rfl ⟨trivial, trivial⟩ ?_
        refine gv_get hD rfl rfl S_39 ⟨by decide, B_39⟩ (gc_hA S_39 rfl A_39_1) ?_
        show gv_X _ _ (71, [(0, .inr (.inr (some 39))), (1, .inl a1), (2, .inl a2)], [.inr (.inr (some 23))], sh, gc_h sh I J A)
        have f144 := (show 0 ≤ I 23 8 ∧ I 23 8 ≤ 999999 from gc_in hI R_23 rfl rfl)
        refine gv_get hD rfl rfl S_23 ⟨by decide, B_23⟩ (gc_hI S_23 rfl) ?_
        show gv_X _ _ (74, [(0, .inr (.inr (some 39))), (1, .inl a1), (2, .inl a2)], [.inl (I 23 8)], sh, gc_h sh I J A)
        refine gv_run 1 true hD (pc' := 75) (lv' := [(0, .inr (.inr (some 39))), (1, .inl a1), (2, .inl a2)]) (st' := [.inr (.inr (some 39)), .inl (I 23 8)]) (h' := gc_h sh I J A) (C := (True ∧ True)) rfl ⟨trivial, trivial⟩ ?_
        refine gv_get hD rfl rfl S_39 ⟨by decide, B_39⟩ (gc_hA S_39 rfl A_39_0) ?_
        show gv_X _ _ (78, [(0, .inr (.inr (some 39))), (1, .inl a1), (2, .inl a2)], [.inr (.inr (some 1)), .inl (I 23 8)], sh, gc_h sh I J A)
        refine gv_get hD rfl rfl S_1 ⟨by decide, B_1⟩ (gc_hA S_1 rfl A_1_7) ?_
        show gv_X _ _ (81, [(0, .inr (.inr (some 39))), (1, .inl a1), (2, .inl a2)], [.inr (.inr (some 12)), .inl (I 23 8)], sh, gc_h sh I J A)
        refine gv_run 1 true hD (pc' := 82) (lv' := [(0, .inr (.inr (some 39))), (1, .inl a1), (2, .inl a2)]) (st' := [.inl a1, .inr (.inr (some 12)), .inl (I 23 8)]) (h' := gc_h sh I J A) (C := (True ∧ True)) rfl ⟨trivial, trivial⟩ ?_
        have f145 := (show 0 ≤ I 12 (Int.toNat a1) ∧ I 12 (Int.toNat a1) ≤ 4 from gc_in hI R_12 rfl rfl)
        refine gv_iald hD rfl S_12 rfl ⟨by decide, B_12⟩ ⟨by omega, by omega⟩ (gc_iI S_12 rfl) ?_
        show gv_X _ _ (83, [(0, .inr (.inr (some 39))), (1, .inl a1), (2, .inl a2)], [.inl (I 12 (Int.toNat a1)), .inl (I 23 8)], sh, gc_h sh I J A)
        refine gv_icmp_le (t := 99) hD rfl rfl ⟨⟨by omega, by omega⟩, ⟨by omega, by omega⟩⟩ (fun c146 => ?_) (fun c146 => ?_)
        · show gv_X _ _ (99, [(0, .inr (.inr (some 39))), (1, .inl a1), (2, .inl a2)], [], sh, gc_h sh I J A)
          refine gv_run 2 true hD (pc' := 101) (lv' := [(0, .inr (.inr (some 39))), (1, .inl a1), (2, .inl a2)]) (st' := [.inr (.inr (some 39)), .inr (.inr (some 39))]) (h' := gc_h sh I J A) (C := ((True ∧ True) ∧ True)) rfl ⟨⟨trivial, trivial⟩, trivial⟩ ?_
          have f147 := (show 0 ≤ I 39 12 ∧ I 39 12 ≤ 2000 from gc_in hI R_39 rfl rfl)
          refine gv_get hD rfl rfl S_39 ⟨by decide, B_39⟩ (gc_hI S_39 rfl) ?_
          show gv_X _ _ (104, [(0, .inr (.inr (some 39))), (1, .inl a1), (2, .inl a2)], [.inl (I 39 12), .inr (.inr (some 39))], sh, gc_h sh I J A)
          refine gv_run 2 true hD (pc' := 107) (lv' := [(0, .inr (.inr (some 39))), (1, .inl a1), (2, .inl a2)]) (st' := [.inr (.inr (some 39)), .inl (-4), .inl (I 39 12), .inr (.inr (some 39))]) (h' := gc_h sh I J A) (C := ((True ∧ True) ∧ True)) rfl ⟨⟨trivial, trivial⟩, trivial⟩ ?_
          refine gv_get hD rfl rfl S_39 ⟨by decide, B_39⟩ (gc_hA S_39 rfl A_39_1) ?_
          show gv_X _ _ (110, [(0, .inr (.inr (some 39))), (1, .inl a1), (2, .inl a2)], [.inr (.inr (some 23)), .inl (-4), .inl (I 39 12), .inr (.inr (some 39))], sh, gc_h sh I J A)
          have f148 := (show 0 ≤ I 23 8 ∧ I 23 8 ≤ 999999 from gc_in hI R_23 rfl rfl)
          refine gv_get hD rfl rfl S_23 ⟨by decide, B_23⟩ (gc_hI S_23 rfl) ?_
          show gv_X _ _ (113, [(0, .inr (.inr (some 39))), (1, .inl a1), (2, .inl a2)], [.inl (I 23 8), .inl (-4), .inl (I 39 12), .inr (.inr (some 39))], sh, gc_h sh I J A)
          refine gv_run 4 true hD (pc' := 117) (lv' := [(0, .inr (.inr (some 39))), (1, .inl a1), (2, .inl a2)]) (st' := [.inr (.inl (Int64.ofNat 0)), .inl (((-4) - (I 23 8)) + 1), .inl (I 39 12), .inr (.inr (some 39))]) (h' := gc_h sh I J A) (C := ((((True ∧ True) ∧ True) ∧ True) ∧ True)) rfl ⟨⟨⟨⟨trivial, trivial⟩, trivial⟩, trivial⟩, trivial⟩ ?_
          obtain ⟨r149, h149, E149, P149⟩ := d_X6_putNode (ws0 := ws0) (tb := tb) hws htb sh ro I J A hI  b (I 39 12) ((((-4) - (I 23 8)) + 1)) (Int64.ofNat 0) hb   ⟨by omega, by omega⟩ ⟨by omega, by omega⟩ (by omega) (by omega) (by omega) KTO_I
          obtain ⟨I150, J151, rfl, hI150, g149, k149, KTO_I150, ⟨rfl, q149⟩⟩ := P149
          have FI150 := gc_frc (W := fun q j => (q = 39 ∧ j = 3) ∨ (q = 39 ∧ j = 4) ∨ (q = 23 ∧ j = 5) ∨ (q = 23 ∧ j = 6) ∨ (q = 23 ∧ j = 7) ∨ (q = 23 ∧ j = 8) ∨ (q = 39 ∧ j = 12) ∨ (q = 39 ∧ j = 15) ∨ q = 43) (V := fun q j => (q = 39 ∧ j = 12) ∨ q = 43) FI (fun q j h => (h.elim (fun h => (Or.inr (Or.inr (Or.inr (Or.inr (Or.inr (Or.inr (Or.inl h)))))))) (fun h => (Or.inr (Or.inr (Or.inr (Or.inr (Or.inr (Or.inr (Or.inr (Or.inr h))))))))))) g149
          have FJ151 := gc_frc (W := fun q j => (q = 23 ∧ j = 9) ∨ q = 44 ∨ q = 45) (V := fun q j => q = 44) FJ (fun q j h => (Or.inr (Or.inl h))) k149
          have t152 := (g149 23 1).resolve_left (by omega)
          have t153 := (g149 23 5).resolve_left (by omega)
          have t154 := (g149 23 6).resolve_left (by omega)
          have t155 := (g149 23 7).resolve_left (by omega)
          have t156 := (g149 39 15).resolve_left (by omega)
          have t157 := (g149 23 8).resolve_left (by omega)
          have t158 := (g149 12 (Int.toNat a1)).resolve_left (by omega)
          have f159 := (show 0 ≤ I150 23 1 ∧ I150 23 1 ≤ 1000 from gc_in hI150 R_23 rfl rfl)
          have f160 := (show 0 ≤ I150 23 5 ∧ I150 23 5 ≤ 1000 from gc_in hI150 R_23 rfl rfl)
          have f161 := (show 0 ≤ I150 23 6 ∧ I150 23 6 ≤ 1001 from gc_in hI150 R_23 rfl rfl)
          have f162 := (show 0 ≤ I150 23 7 ∧ I150 23 7 ≤ 125 from gc_in hI150 R_23 rfl rfl)
          have f163 := (show 0 ≤ I150 39 12 ∧ I150 39 12 ≤ 2000 from gc_in hI150 R_39 rfl rfl)
          have f164 := (show 0 ≤ I150 39 15 ∧ I150 39 15 ≤ 41 from gc_in hI150 R_39 rfl rfl)
          have f165 := (show 0 ≤ I150 23 8 ∧ I150 23 8 ≤ 999999 from gc_in hI150 R_23 rfl rfl)
          have KLT_I150 := gc_LT_fr KLT_I ((g149 23 5).resolve_left (by omega)) ((g149 23 6).resolve_left (by omega)) ((g149 23 7).resolve_left (by omega)) (fun k => (g149 24 k).resolve_left (by omega))
          refine gv_callV hD rfl (As := [.inl (I 39 12), .inl (((-4) - (I 23 8)) + 1), .inr (.inl (Int64.ofNat 0))]) (st := []) rfl B_39 S_39 rfl (gc_lV6 hws rfl) (Nat.le_of_ble_eq_true rfl) (gz_Ev_mono (d := 1) (by omega) E149) ?_
          show gv_X _ _ (120, [(0, .inr (.inr (some 39))), (1, .inl a1), (2, .inl a2)], [], sh, gc_h sh I150 J151 A)
          refine gv_run 1 true hD (pc' := 201) (lv' := [(0, .inr (.inr (some 39))), (1, .inl a1), (2, .inl a2)]) (st' := []) (h' := gc_h sh I150 J151 A) (C := (True ∧ True)) rfl ⟨trivial, trivial⟩ ?_
          refine gv_pick [0] rfl ?_
          exact L201 I150 J151 hI150 FI150 FJ151 KLT_I150 KTO_I150 (by omega)
        · show gv_X _ _ (86, [(0, .inr (.inr (some 39))), (1, .inl a1), (2, .inl a2)], [], sh, gc_h sh I J A)
          refine gv_pick [0] rfl ?_
          exact L86 (by omega)
  · show gv_X _ _ (12, [(0, .inr (.inr (some 39))), (1, .inl a1), (2, .inl a2)], [], sh, gc_h sh I J A)
    refine gv_run 1 true hD (pc' := 13) (lv' := [(0, .inr (.inr (some 39))), (1, .inl a1), (2, .inl a2)]) (st' := [.inr (.inr (some 39))]) (h' := gc_h sh I J A) (C := (True ∧ True)) rfl ⟨trivial, trivial⟩ ?_
    refine gv_get hD rfl rfl S_39 ⟨by decide, B_39⟩ (gc_hA S_39 rfl A_39_1) ?_
    show gv_X _ _ (16, [(0, .inr (.inr (some 39))), (1, .inl a1), (2, .inl a2)], [.inr (.inr (some 23))], sh, gc_h sh I J A)
    obtain ⟨r166, h166, E166, P166⟩ := d_X9_advance (ws0 := ws0) (tb := tb) hws htb sh ro I J A hI 23  (gc_b23 hb)    (by omega) 
    obtain ⟨I167, J168, rfl, hI167, g166, k166, ⟨rfl, q166⟩⟩ := P166
    have FI167 := gc_frc (W := fun q j => (q = 39 ∧ j = 3) ∨ (q = 39 ∧ j = 4) ∨ (q = 23 ∧ j = 5) ∨ (q = 23 ∧ j = 6) ∨ (q = 23 ∧ j = 7) ∨ (q = 23 ∧ j = 8) ∨ (q = 39 ∧ j = 12) ∨ (q = 39 ∧ j = 15) ∨ q = 43) (V := fun q j => (q = 23 ∧ j = 5) ∨ (q = 23 ∧ j = 6) ∨ (q = 23 ∧ j = 7) ∨ (q = 23 ∧ j = 8)) FI (fun q j h => (h.elim (fun h => (Or.inr (Or.inr (Or.inl h)))) (fun h => (h.elim (fun h => (Or.inr (Or.inr (Or.inr (Or.inl h))))) (fun h => (h.elim (fun h => (Or.inr (Or.inr (Or.inr (Or.inr (Or.inl h)))))) (fun h => (Or.inr (Or.inr (Or.inr (Or.inr (Or.inr (Or.inl h))))))))))))) g166
    have FJ168 := gc_frc (W := fun q j => (q = 23 ∧ j = 9) ∨ q = 44 ∨ q = 45) (V := fun q j => (q = 23 ∧ j = 9)) FJ (fun q j h => (Or.inl h)) k166
    have t169 := (g166 23 1).resolve_left (by omega)
    have t170 := (g166 39 12).resolve_left (by omega)
    have t171 := (g166 39 15).resolve_left (by omega)
    have t172 := (g166 12 (Int.toNat a1)).resolve_left (by omega)
    have f173 := (show 0 ≤ I167 23 1 ∧ I167 23 1 ≤ 1000 from gc_in hI167 R_23 rfl rfl)
    have f174 := (show 0 ≤ I167 23 5 ∧ I167 23 5 ≤ 1000 from gc_in hI167 R_23 rfl rfl)
    have f175 := (show 0 ≤ I167 23 6 ∧ I167 23 6 ≤ 1001 from gc_in hI167 R_23 rfl rfl)
    have f176 := (show 0 ≤ I167 23 7 ∧ I167 23 7 ≤ 125 from gc_in hI167 R_23 rfl rfl)
    have f177 := (show 0 ≤ I167 39 12 ∧ I167 39 12 ≤ 2000 from gc_in hI167 R_39 rfl rfl)
    have f178 := (show 0 ≤ I167 39 15 ∧ I167 39 15 ≤ 41 from gc_in hI167 R_39 rfl rfl)
    have f179 := (show 0 ≤ I167 23 8 ∧ I167 23 8 ≤ 999999 from gc_in hI167 R_23 rfl rfl)
    have KLT_I167 : gc_LT I167 := q166.2.2.2.2.2.2.2
    have KTO_I167 := gc_TO_fr KTO_I ((g166 39 12).resolve_left (by omega)) (fun k => (g166 43 k).resolve_left (by omega))
    refine gv_callV hD rfl (As := []) (st := []) rfl B_23 S_23 rfl (gc_lV6 hws rfl) (Nat.le_of_ble_eq_true rfl) (gz_Ev_mono (d := 2) (by omega) E166) ?_
    show gv_X _ _ (19, [(0, .inr (.inr (some 39))), (1, .inl a1), (2, .inl a2)], [], sh, gc_h sh I167 J168 A)
    refine gv_run 5 true hD (pc' := 24) (lv' := [(0, .inr (.inr (some 39))), (1, .inl a1), (2, .inl a2)]) (st' := [.inl (a2 + 1), .inl a1, .inr (.inr (some 39))]) (h' := gc_h sh I167 J168 A) (C := (((((True ∧ True) ∧ True) ∧ True) ∧ True) ∧ True)) rfl ⟨⟨⟨⟨⟨trivial, trivial⟩, trivial⟩, trivial⟩, trivial⟩, trivial⟩ ?_
    obtain ⟨r180, h180, E180, P180⟩ := ihR I167 J168 hI167 a1 (a2 + 1) ⟨by omega, by omega⟩ ⟨by omega, by omega⟩ (by omega) (by omega) (by omega) (by omega) (by omega) (by omega) (by omega) (by omega) (by omega) KLT_I167 KTO_I167 (by omega)
    obtain ⟨I181, J182, rfl, hI181, g180, k180, KLT_I181, KTO_I181, ⟨z180, rfl, q180⟩⟩ := P180
    have FI181 := gc_frc (W := fun q j => (q = 39 ∧ j = 3) ∨ (q = 39 ∧ j = 4) ∨ (q = 23 ∧ j = 5) ∨ (q = 23 ∧ j = 6) ∨ (q = 23 ∧ j = 7) ∨ (q = 23 ∧ j = 8) ∨ (q = 39 ∧ j = 12) ∨ (q = 39 ∧ j = 15) ∨ q = 43) (V := fun q j => (q = 39 ∧ j = 3) ∨ (q = 39 ∧ j = 4) ∨ (q = 23 ∧ j = 5) ∨ (q = 23 ∧ j = 6) ∨ (q = 23 ∧ j = 7) ∨ (q = 23 ∧ j = 8) ∨ (q = 39 ∧ j = 12) ∨ (q = 39 ∧ j = 15) ∨ q = 43) FI167 (fun q j h => (h.elim (fun h => (Or.inl h)) (fun h => (h.elim (fun h => (Or.inr (Or.inl h))) (fun h => (h.elim (fun h => (Or.inr (Or.inr (Or.inl h)))) (fun h => (h.elim (fun h => (Or.inr (Or.inr (Or.inr (Or.inl h))))) (fun h => (h.elim (fun h => (Or.inr (Or.inr (Or.inr (Or.inr (Or.inl h)))))) (fun h => (h.elim (fun h => (Or.inr (Or.inr (Or.inr (Or.inr (Or.inr (Or.inl h))))))) (fun h => (h.elim (fun h => (Or.inr (Or.inr (Or.inr (Or.inr (Or.inr (Or.inr (Or.inl h)))))))) (fun h => (h.elim (fun h => (Or.inr (Or.inr (Or.inr (Or.inr (Or.inr (Or.inr (Or.inr (Or.inl h))))))))) (fun h => (Or.inr (Or.inr (Or.inr (Or.inr (Or.inr (Or.inr (Or.inr (Or.inr h))))))))))))))))))))))))) g180
    have FJ182 := gc_frc (W := fun q j => (q = 23 ∧ j = 9) ∨ q = 44 ∨ q = 45) (V := fun q j => (q = 23 ∧ j = 9) ∨ q = 44 ∨ q = 45) FJ168 (fun q j h => (h.elim (fun h => (Or.inl h)) (fun h => (h.elim (fun h => (Or.inr (Or.inl h))) (fun h => (Or.inr (Or.inr h))))))) k180
    have t183 := (g180 23 1).resolve_left (by omega)
    have t184 := (g180 12 (Int.toNat a1)).resolve_left (by omega)
    have f185 := (show 0 ≤ I181 23 1 ∧ I181 23 1 ≤ 1000 from gc_in hI181 R_23 rfl rfl)
    have f186 := (show 0 ≤ I181 23 5 ∧ I181 23 5 ≤ 1000 from gc_in hI181 R_23 rfl rfl)
    have f187 := (show 0 ≤ I181 23 6 ∧ I181 23 6 ≤ 1001 from gc_in hI181 R_23 rfl rfl)
    have f188 := (show 0 ≤ I181 23 7 ∧ I181 23 7 ≤ 125 from gc_in hI181 R_23 rfl rfl)
    have f189 := (show 0 ≤ I181 39 12 ∧ I181 39 12 ≤ 2000 from gc_in hI181 R_39 rfl rfl)
    have f190 := (show 0 ≤ I181 39 15 ∧ I181 39 15 ≤ 41 from gc_in hI181 R_39 rfl rfl)
    have f191 := (show 0 ≤ I181 23 8 ∧ I181 23 8 ≤ 999999 from gc_in hI181 R_23 rfl rfl)
    refine gv_callV hD rfl (As := [.inl a1, .inl (a2 + 1)]) (st := []) rfl B_39 S_39 rfl (gc_lV6 hws rfl) (Nat.le_of_ble_eq_true rfl) (gz_Ev_mono (d := (6 + 2 * nr)) (Nat.le_refl _) E180) ?_
    show gv_X _ _ (27, [(0, .inr (.inr (some 39))), (1, .inl a1), (2, .inl a2)], [.inl z180], sh, gc_h sh I181 J182 A)
    refine gv_if_eq (t := 43) hD rfl rfl ⟨by omega, by omega⟩ (fun c192 => ?_) (fun c192 => ?_)
    · show gv_X _ _ (43, [(0, .inr (.inr (some 39))), (1, .inl a1), (2, .inl a2)], [], sh, gc_h sh I181 J182 A)
      refine gv_pick [] rfl ?_
      exact L43 I181 J182 hI181 FI181 FJ182 KLT_I181 KTO_I181 (by omega)
    · show gv_X _ _ (30, [(0, .inr (.inr (some 39))), (1, .inl a1), (2, .inl a2)], [], sh, gc_h sh I181 J182 A)
      refine gv_run 2 true hD (pc' := 33) (lv' := [(0, .inr (.inr (some 39))), (1, .inl a1), (2, .inl a2)]) (st' := [.inl 41, .inr (.inr (some 39))]) (h' := gc_h sh I181 J182 A) (C := ((True ∧ True) ∧ True)) rfl ⟨⟨trivial, trivial⟩, trivial⟩ ?_
      obtain ⟨r193, h193, E193, P193⟩ := d_X6_take (ws0 := ws0) (tb := tb) hws htb sh ro I181 J182 A hI181  41 hb   ⟨by omega, by omega⟩ (by omega) (by omega) (by omega) (by omega) (by omega) (by omega) KLT_I181
      obtain ⟨I194, J195, rfl, hI194, g193, k193, KLT_I194, ⟨z193, rfl, q193⟩⟩ := P193
      have FI194 := gc_frc (W := fun q j => (q = 39 ∧ j = 3) ∨ (q = 39 ∧ j = 4) ∨ (q = 23 ∧ j = 5) ∨ (q = 23 ∧ j = 6) ∨ (q = 23 ∧ j = 7) ∨ (q = 23 ∧ j = 8) ∨ (q = 39 ∧ j = 12) ∨ (q = 39 ∧ j = 15) ∨ q = 43) (V := fun q j => (q = 39 ∧ j = 3) ∨ (q = 39 ∧ j = 4) ∨ (q = 23 ∧ j = 5) ∨ (q = 23 ∧ j = 6) ∨ (q = 23 ∧ j = 7) ∨ (q = 23 ∧ j = 8)) FI181 (fun q j h => (h.elim (fun h => (Or.inl h)) (fun h => (h.elim (fun h => (Or.inr (Or.inl h))) (fun h => (h.elim (fun h => (Or.inr (Or.inr (Or.inl h)))) (fun h => (h.elim (fun h => (Or.inr (Or.inr (Or.inr (Or.inl h))))) (fun h => (h.elim (fun h => (Or.inr (Or.inr (Or.inr (Or.inr (Or.inl h)))))) (fun h => (Or.inr (Or.inr (Or.inr (Or.inr (Or.inr (Or.inl h))))))))))))))))) g193
      have FJ195 := gc_frc (W := fun q j => (q = 23 ∧ j = 9) ∨ q = 44 ∨ q = 45) (V := fun q j => (q = 23 ∧ j = 9)) FJ182 (fun q j h => (Or.inl h)) k193
      have t196 := (g193 23 1).resolve_left (by omega)
      have t197 := (g193 39 12).resolve_left (by omega)
      have t198 := (g193 39 15).resolve_left (by omega)
      have t199 := (g193 12 (Int.toNat a1)).resolve_left (by omega)
      have f200 := (show 0 ≤ I194 23 1 ∧ I194 23 1 ≤ 1000 from gc_in hI194 R_23 rfl rfl)
      have f201 := (show 0 ≤ I194 23 5 ∧ I194 23 5 ≤ 1000 from gc_in hI194 R_23 rfl rfl)
      have f202 := (show 0 ≤ I194 23 6 ∧ I194 23 6 ≤ 1001 from gc_in hI194 R_23 rfl rfl)
      have f203 := (show 0 ≤ I194 23 7 ∧ I194 23 7 ≤ 125 from gc_in hI194 R_23 rfl rfl)
      have f204 := (show 0 ≤ I194 39 12 ∧ I194 39 12 ≤ 2000 from gc_in hI194 R_39 rfl rfl)
      have f205 := (show 0 ≤ I194 39 15 ∧ I194 39 15 ≤ 41 from gc_in hI194 R_39 rfl rfl)
      have f206 := (show 0 ≤ I194 23 8 ∧ I194 23 8 ≤ 999999 from gc_in hI194 R_23 rfl rfl)
      have KTO_I194 := gc_TO_fr KTO_I181 ((g193 39 12).resolve_left (by omega)) (fun k => (g193 43 k).resolve_left (by omega))
      refine gv_callV hD rfl (As := [.inl 41]) (st := []) rfl B_39 S_39 rfl (gc_lV6 hws rfl) (Nat.le_of_ble_eq_true rfl) (gz_Ev_mono (d := 3) (by omega) E193) ?_
      show gv_X _ _ (36, [(0, .inr (.inr (some 39))), (1, .inl a1), (2, .inl a2)], [.inl z193], sh, gc_h sh I194 J195 A)
      refine gv_if_eq (t := 43) hD rfl rfl ⟨by omega, by omega⟩ (fun c207 => ?_) (fun c207 => ?_)
      · show gv_X _ _ (43, [(0, .inr (.inr (some 39))), (1, .inl a1), (2, .inl a2)], [], sh, gc_h sh I194 J195 A)
        refine gv_pick [] rfl ?_
        exact L43 I194 J195 hI194 FI194 FJ195 KLT_I194 KTO_I194 (by omega)
      · show gv_X _ _ (39, [(0, .inr (.inr (some 39))), (1, .inl a1), (2, .inl a2)], [], sh, gc_h sh I194 J195 A)
        refine gv_run 2 true hD (pc' := 44) (lv' := [(0, .inr (.inr (some 39))), (1, .inl a1), (2, .inl a2)]) (st' := [.inl 1]) (h' := gc_h sh I194 J195 A) (C := ((True ∧ True) ∧ True)) rfl ⟨⟨trivial, trivial⟩, trivial⟩ ?_
        refine gv_pick [] rfl ?_
        exact L44 I194 J195 1 hI194 FI194 FJ195 KLT_I194 KTO_I194 (by omega)
set_option maxHeartbeats 4000000 in
set_option maxRecDepth 100000 in
theorem d_X6_readTerm {ws0 : List Cond} {tb : String → gz_T} (hws : gc_Ws ws0) (htb : gc_tbs tb) (sh : gz_Sh) (ro : Nat → Nat) (A : gc_A) (b : Int)  (hb : gc_Base sh ro A) : ∀ (nr : Nat), ∀ (I : gr_I) (J : gr_J) (hI : gc_Inv ro I) (a1 : Int) (a2 : Int) (ha1 : 0 ≤ a1 ∧ a1 ≤ 95) (ha2 : 1 ≤ a2 ∧ a2 ≤ 41) (x0 : I 23 5 ≤ I 23 6) (x1 : I 23 7 = 5 ∨ I 23 6 ≤ I 23 1) (x2 : I 23 5 ≤ I 23 1) (x3 : I 23 7 = 4 ∨ (I 23 5 < I 23 6 ∧ I 23 5 < I 23 1)) (x4 : I 23 7 = 3 → 2 ≤ I 23 6 - I 23 5 ∧ I 23 6 - I 23 5 ≤ 14) (x5 : I 39 12 ≤ I 23 5) (x6 : I 39 15 ≤ a2 - 1) (x7 : b ≤ -3 - I 12 (Int.toNat a1)) (x8 : b ≤ -3) (KLT_I : gc_LT I) (KTO_I : gc_TO b I) (_ : (42 - a2).toNat < nr), ∃ r h', gz_Ev ws0 tb (6 + 2 * nr) (yX6_readTerm, cX6_readTerm, 7, (some .boolean)) [.inr (.inr (some 39)), .inl a1, .inl a2] sh (gc_h sh I J A) r sh h' 0 0 ∧ (∃ (I' : gr_I) (J' : gr_J), h' = gc_h sh I' J' A ∧ gc_Inv ro I' ∧ (∀ q j : Nat, ((q = 39 ∧ j = 3) ∨ (q = 39 ∧ j = 4) ∨ (q = 23 ∧ j = 5) ∨ (q = 23 ∧ j = 6) ∨ (q = 23 ∧ j = 7) ∨ (q = 23 ∧ j = 8) ∨ (q = 39 ∧ j = 12) ∨ (q = 39 ∧ j = 15) ∨ q = 43) ∨ I' q j = I q j) ∧ (∀ q j : Nat, ((q = 23 ∧ j = 9) ∨ q = 44 ∨ q = 45) ∨ J' q j = J q j) ∧ gc_LT I' ∧ gc_TO b I' ∧ (∃ z : Int, r = some (.inl z) ∧ 0 ≤ z ∧ z ≤ 1 ∧ (I' 23 5 ≤ I' 23 6) ∧ (I' 23 7 = 5 ∨ I' 23 6 ≤ I' 23 1) ∧ (I' 23 5 ≤ I' 23 1) ∧ (I' 23 7 = 4 ∨ (I' 23 5 < I' 23 6 ∧ I' 23 5 < I' 23 1)) ∧ (I' 23 7 = 3 → 2 ≤ I' 23 6 - I' 23 5 ∧ I' 23 6 - I' 23 5 ≤ 14) ∧ (I' 23 1 = I 23 1) ∧ (I 23 5 ≤ I' 23 5) ∧ (I' 39 12 ≤ I' 23 5) ∧ (z = 0 ∨ I' 39 15 = I 39 15) ∧ (I 39 12 ≤ I' 39 12))) := by
  intro nr
  induction nr with
  | zero => intro I J hI a1 a2 ha1 ha2 x0 x1 x2 x3 x4 x5 x6 x7 x8 KLT_I KTO_I hnr; omega
  | succ nr ihR =>
  intro I J hI a1 a2 ha1 ha2 x0 x1 x2 x3 x4 x5 x6 x7 x8 KLT_I KTO_I hnr
  show ∃ r h', gz_Ev ws0 tb (6 + 2 * nr + 1 + 1) (yX6_readTerm, cX6_readTerm, 7, (some .boolean)) [.inr (.inr (some 39)), .inl a1, .inl a2] sh (gc_h sh I J A) r sh h' 0 0 ∧ (∃ (I' : gr_I) (J' : gr_J), h' = gc_h sh I' J' A ∧ gc_Inv ro I' ∧ (∀ q j : Nat, ((q = 39 ∧ j = 3) ∨ (q = 39 ∧ j = 4) ∨ (q = 23 ∧ j = 5) ∨ (q = 23 ∧ j = 6) ∨ (q = 23 ∧ j = 7) ∨ (q = 23 ∧ j = 8) ∨ (q = 39 ∧ j = 12) ∨ (q = 39 ∧ j = 15) ∨ q = 43) ∨ I' q j = I q j) ∧ (∀ q j : Nat, ((q = 23 ∧ j = 9) ∨ q = 44 ∨ q = 45) ∨ J' q j = J q j) ∧ gc_LT I' ∧ gc_TO b I' ∧ (∃ z : Int, r = some (.inl z) ∧ 0 ≤ z ∧ z ≤ 1 ∧ (I' 23 5 ≤ I' 23 6) ∧ (I' 23 7 = 5 ∨ I' 23 6 ≤ I' 23 1) ∧ (I' 23 5 ≤ I' 23 1) ∧ (I' 23 7 = 4 ∨ (I' 23 5 < I' 23 6 ∧ I' 23 5 < I' 23 1)) ∧ (I' 23 7 = 3 → 2 ≤ I' 23 6 - I' 23 5 ∧ I' 23 6 - I' 23 5 ≤ 14) ∧ (I' 23 1 = I 23 1) ∧ (I 23 5 ≤ I' 23 5) ∧ (I' 39 12 ≤ I' 23 5) ∧ (z = 0 ∨ I' 39 15 = I 39 15) ∧ (I 39 12 ≤ I' 39 12)))
  have FI : ∀ q j : Nat, ((q = 39 ∧ j = 3) ∨ (q = 39 ∧ j = 4) ∨ (q = 23 ∧ j = 5) ∨ (q = 23 ∧ j = 6) ∨ (q = 23 ∧ j = 7) ∨ (q = 23 ∧ j = 8) ∨ (q = 39 ∧ j = 12) ∨ (q = 39 ∧ j = 15) ∨ q = 43) ∨ I q j = I q j := fun _ _ => Or.inr rfl
  have FJ : ∀ q j : Nat, ((q = 23 ∧ j = 9) ∨ q = 44 ∨ q = 45) ∨ J q j = J q j := fun _ _ => Or.inr rfl
  have A_39_1 : A 39 1 = some 23 := gc_bA hb rfl
  have B_23 : 23 < 1000000 := by decide
  have B_39 : 39 < 1000000 := by decide
  have R_23 : ro 23 = 3 := gc_bR hb (by decide) rfl
  have R_39 : ro 39 = 42 := gc_bR hb (by decide) rfl
  have S_23 : sh[23]? = some (false, 9, 10) := gc_bS hb rfl
  have S_39 : sh[39]? = some (false, 6, 19) := gc_bS hb rfl
  have hD : gv_D (gc_E6 ws0 tb (6 + 2 * nr + 1) (yX6_readTerm, cX6_readTerm, 7, (some .boolean)) kX6_readTerm) := gq_ok oX6_readTerm
  refine gc_ev6 (d := (6 + 2 * nr + 1)) (l := kX6_readTerm) (Po := fun r h' => (∃ (I' : gr_I) (J' : gr_J), h' = gc_h sh I' J' A ∧ gc_Inv ro I' ∧ (∀ q j : Nat, ((q = 39 ∧ j = 3) ∨ (q = 39 ∧ j = 4) ∨ (q = 23 ∧ j = 5) ∨ (q = 23 ∧ j = 6) ∨ (q = 23 ∧ j = 7) ∨ (q = 23 ∧ j = 8) ∨ (q = 39 ∧ j = 12) ∨ (q = 39 ∧ j = 15) ∨ q = 43) ∨ I' q j = I q j) ∧ (∀ q j : Nat, ((q = 23 ∧ j = 9) ∨ q = 44 ∨ q = 45) ∨ J' q j = J q j) ∧ gc_LT I' ∧ gc_TO b I' ∧ (∃ z : Int, r = some (.inl z) ∧ 0 ≤ z ∧ z ≤ 1 ∧ (I' 23 5 ≤ I' 23 6) ∧ (I' 23 7 = 5 ∨ I' 23 6 ≤ I' 23 1) ∧ (I' 23 5 ≤ I' 23 1) ∧ (I' 23 7 = 4 ∨ (I' 23 5 < I' 23 6 ∧ I' 23 5 < I' 23 1)) ∧ (I' 23 7 = 3 → 2 ≤ I' 23 6 - I' 23 5 ∧ I' 23 6 - I' 23 5 ≤ 14) ∧ (I' 23 1 = I 23 1) ∧ (I 23 5 ≤ I' 23 5) ∧ (I' 39 12 ≤ I' 23 5) ∧ (z = 0 ∨ I' 39 15 = I 39 15) ∧ (I 39 12 ≤ I' 39 12)))) htb rfl (Nat.le_of_ble_eq_true rfl) ?_
  have f1 := (show 0 ≤ I 23 1 ∧ I 23 1 ≤ 1000 from gc_in hI R_23 rfl rfl)
  have f2 := (show 0 ≤ I 23 5 ∧ I 23 5 ≤ 1000 from gc_in hI R_23 rfl rfl)
  have f3 := (show 0 ≤ I 23 6 ∧ I 23 6 ≤ 1001 from gc_in hI R_23 rfl rfl)
  have f4 := (show 0 ≤ I 23 7 ∧ I 23 7 ≤ 125 from gc_in hI R_23 rfl rfl)
  have f5 := (show 0 ≤ I 39 12 ∧ I 39 12 ≤ 2000 from gc_in hI R_39 rfl rfl)
  have f6 := (show 0 ≤ I 39 15 ∧ I 39 15 ≤ 41 from gc_in hI R_39 rfl rfl)
  have L43 : ∀ (v3_7 : Int), ((0 ≤ a1 ∧ a1 ≤ 95) ∧ (1 ≤ a2 ∧ a2 ≤ 41) ∧ (1 ≤ v3_7 ∧ v3_7 ≤ 92) ∧ (a2 ≤ 41) ∧ (I 23 5 ≤ I 23 6) ∧ (I 23 7 = 5 ∨ I 23 6 ≤ I 23 1) ∧ (I 23 5 ≤ I 23 1) ∧ (I 23 7 = 4 ∨ (I 23 5 < I 23 6 ∧ I 23 5 < I 23 1)) ∧ (I 23 7 = 3 → 2 ≤ I 23 6 - I 23 5 ∧ I 23 6 - I 23 5 ≤ 14) ∧ (I 23 1 = I 23 1) ∧ (I 23 5 ≤ I 23 5) ∧ (I 39 12 ≤ I 23 5) ∧ (I 39 12 ≤ I 39 12) ∧ (b ≤ -3 - I 12 (Int.toNat a1)) ∧ (I 39 15 = I 39 15)) → gv_X (gc_E6 ws0 tb (6 + 2 * nr + 1) (yX6_readTerm, cX6_readTerm, 7, (some .boolean)) kX6_readTerm) (gv_Q cX6_readTerm (some .boolean) sh (fun r h' => (∃ (I' : gr_I) (J' : gr_J), h' = gc_h sh I' J' A ∧ gc_Inv ro I' ∧ (∀ q j : Nat, ((q = 39 ∧ j = 3) ∨ (q = 39 ∧ j = 4) ∨ (q = 23 ∧ j = 5) ∨ (q = 23 ∧ j = 6) ∨ (q = 23 ∧ j = 7) ∨ (q = 23 ∧ j = 8) ∨ (q = 39 ∧ j = 12) ∨ (q = 39 ∧ j = 15) ∨ q = 43) ∨ I' q j = I q j) ∧ (∀ q j : Nat, ((q = 23 ∧ j = 9) ∨ q = 44 ∨ q = 45) ∨ J' q j = J q j) ∧ gc_LT I' ∧ gc_TO b I' ∧ (∃ z : Int, r = some (.inl z) ∧ 0 ≤ z ∧ z ≤ 1 ∧ (I' 23 5 ≤ I' 23 6) ∧ (I' 23 7 = 5 ∨ I' 23 6 ≤ I' 23 1) ∧ (I' 23 5 ≤ I' 23 1) ∧ (I' 23 7 = 4 ∨ (I' 23 5 < I' 23 6 ∧ I' 23 5 < I' 23 1)) ∧ (I' 23 7 = 3 → 2 ≤ I' 23 6 - I' 23 5 ∧ I' 23 6 - I' 23 5 ≤ 14) ∧ (I' 23 1 = I 23 1) ∧ (I 23 5 ≤ I' 23 5) ∧ (I' 39 12 ≤ I' 23 5) ∧ (z = 0 ∨ I' 39 15 = I 39 15) ∧ (I 39 12 ≤ I' 39 12))))) (43, [(0, .inr (.inr (some 39))), (1, .inl a1), (2, .inl a2), (3, .inl v3_7)], [], sh, gc_h sh I J A) := by
    intro v3_7 m_7
    obtain ⟨ha1_7, ha2_7, hv3_7, e0_7, e1_7, e2_7, e3_7, e4_7, e5_7, e6_7, e7_7, e8_7, e9_7, e10_7, e11_7⟩ := m_7
    have f8 := (show 0 ≤ I 23 1 ∧ I 23 1 ≤ 1000 from gc_in hI R_23 rfl rfl)
    have f9 := (show 0 ≤ I 23 5 ∧ I 23 5 ≤ 1000 from gc_in hI R_23 rfl rfl)
    have f10 := (show 0 ≤ I 23 6 ∧ I 23 6 ≤ 1001 from gc_in hI R_23 rfl rfl)
    have f11 := (show 0 ≤ I 23 7 ∧ I 23 7 ≤ 125 from gc_in hI R_23 rfl rfl)
    have f12 := (show 0 ≤ I 39 12 ∧ I 39 12 ≤ 2000 from gc_in hI R_39 rfl rfl)
    have f13 := (show 0 ≤ I 39 15 ∧ I 39 15 ≤ 41 from gc_in hI R_39 rfl rfl)
    have L98 : ∀ (n9 : Nat) (I14 : gr_I) (J15 : gr_J) (v4_16 : Int) (v5_16 : Int) (v6_16 : Int), (1001 - v6_16).toNat < n9 → gc_Inv ro I14 → (∀ q j : Nat, ((q = 39 ∧ j = 3) ∨ (q = 39 ∧ j = 4) ∨ (q = 23 ∧ j = 5) ∨ (q = 23 ∧ j = 6) ∨ (q = 23 ∧ j = 7) ∨ (q = 23 ∧ j = 8) ∨ (q = 39 ∧ j = 12) ∨ (q = 39 ∧ j = 15) ∨ q = 43) ∨ I14 q j = I q j) → (∀ q j : Nat, ((q = 23 ∧ j = 9) ∨ q = 44 ∨ q = 45) ∨ J15 q j = J q j) → gc_LT I14 → gc_TO b I14 → ((0 ≤ a1 ∧ a1 ≤ 95) ∧ (1 ≤ a2 ∧ a2 ≤ 40) ∧ (0 ≤ v4_16 ∧ v4_16 ≤ 2000) ∧ (0 ≤ v5_16 ∧ v5_16 ≤ 1) ∧ (0 ≤ v6_16 ∧ v6_16 ≤ 1000) ∧ (a2 ≤ 40) ∧ (v4_16 ≤ I14 39 12) ∧ (v5_16 = 0 ∨ I14 23 7 = 44) ∧ (I14 23 5 ≤ I14 23 6) ∧ (I14 23 7 = 5 ∨ I14 23 6 ≤ I14 23 1) ∧ (I14 23 5 ≤ I14 23 1) ∧ (I14 23 7 = 4 ∨ (I14 23 5 < I14 23 6 ∧ I14 23 5 < I14 23 1)) ∧ (I14 23 7 = 3 → 2 ≤ I14 23 6 - I14 23 5 ∧ I14 23 6 - I14 23 5 ≤ 14) ∧ (I14 23 1 = I 23 1) ∧ (I 23 5 ≤ I14 23 5) ∧ (I14 39 12 ≤ I14 23 5) ∧ (I 39 12 ≤ I14 39 12) ∧ (b ≤ -3 - I14 12 (Int.toNat a1)) ∧ (I14 39 15 = I 39 15)) → gv_X (gc_E6 ws0 tb (6 + 2 * nr + 1) (yX6_readTerm, cX6_readTerm, 7, (some .boolean)) kX6_readTerm) (gv_Q cX6_readTerm (some .boolean) sh (fun r h' => (∃ (I' : gr_I) (J' : gr_J), h' = gc_h sh I' J' A ∧ gc_Inv ro I' ∧ (∀ q j : Nat, ((q = 39 ∧ j = 3) ∨ (q = 39 ∧ j = 4) ∨ (q = 23 ∧ j = 5) ∨ (q = 23 ∧ j = 6) ∨ (q = 23 ∧ j = 7) ∨ (q = 23 ∧ j = 8) ∨ (q = 39 ∧ j = 12) ∨ (q = 39 ∧ j = 15) ∨ q = 43) ∨ I' q j = I q j) ∧ (∀ q j : Nat, ((q = 23 ∧ j = 9) ∨ q = 44 ∨ q = 45) ∨ J' q j = J q j) ∧ gc_LT I' ∧ gc_TO b I' ∧ (∃ z : Int, r = some (.inl z) ∧ 0 ≤ z ∧ z ≤ 1 ∧ (I' 23 5 ≤ I' 23 6) ∧ (I' 23 7 = 5 ∨ I' 23 6 ≤ I' 23 1) ∧ (I' 23 5 ≤ I' 23 1) ∧ (I' 23 7 = 4 ∨ (I' 23 5 < I' 23 6 ∧ I' 23 5 < I' 23 1)) ∧ (I' 23 7 = 3 → 2 ≤ I' 23 6 - I' 23 5 ∧ I' 23 6 - I' 23 5 ≤ 14) ∧ (I' 23 1 = I 23 1) ∧ (I 23 5 ≤ I' 23 5) ∧ (I' 39 12 ≤ I' 23 5) ∧ (z = 0 ∨ I' 39 15 = I 39 15) ∧ (I 39 12 ≤ I' 39 12))))) (98, [(0, .inr (.inr (some 39))), (1, .inl a1), (2, .inl a2), (4, .inl v4_16), (5, .inl v5_16), (6, .inl v6_16)], [], sh, gc_h sh I14 J15 A) := by
      intro n9
      induction n9 with
      | zero => intro I14 J15 v4_16 v5_16 v6_16 hn; omega
      | succ n9 ih98 =>
        intro I14 J15 v4_16 v5_16 v6_16 hn hI14 FI14 FJ15 KLT_I14 KTO_I14 m_16
        clear ha1_7 ha2_7 hv3_7 e0_7 e1_7 e2_7 e3_7 e4_7 e5_7 e6_7 e7_7 e8_7 e9_7 e10_7 e11_7 f8 f9 f10 f11 f12 f13
        clear x0 x1 x2 x3 x4
        obtain ⟨ha1_16, ha2_16, hv4_16, hv5_16, hv6_16, e0_16, e1_16, e2_16, e3_16, e4_16, e5_16, e6_16, e7_16, e8_16, e9_16, e10_16, e11_16, e12_16, e13_16⟩ := m_16
        have f17 := (show 0 ≤ I14 23 1 ∧ I14 23 1 ≤ 1000 from gc_in hI14 R_23 rfl rfl)
        have f18 := (show 0 ≤ I14 23 5 ∧ I14 23 5 ≤ 1000 from gc_in hI14 R_23 rfl rfl)
        have f19 := (show 0 ≤ I14 23 6 ∧ I14 23 6 ≤ 1001 from gc_in hI14 R_23 rfl rfl)
        have f20 := (show 0 ≤ I14 23 7 ∧ I14 23 7 ≤ 125 from gc_in hI14 R_23 rfl rfl)
        have f21 := (show 0 ≤ I14 39 12 ∧ I14 39 12 ≤ 2000 from gc_in hI14 R_39 rfl rfl)
        have f22 := (show 0 ≤ I14 39 15 ∧ I14 39 15 ≤ 41 from gc_in hI14 R_39 rfl rfl)
        have L123 : ((0 ≤ a1 ∧ a1 ≤ 95) ∧ (1 ≤ a2 ∧ a2 ≤ 40) ∧ (0 ≤ v4_16 ∧ v4_16 ≤ 2000) ∧ (0 ≤ v6_16 ∧ v6_16 ≤ 999) ∧ (a2 ≤ 40) ∧ (v4_16 ≤ I14 39 12) ∧ (I14 23 7 = 40 ∨ I14 23 7 = 44) ∧ (I14 23 5 ≤ I14 23 6) ∧ (I14 23 7 = 5 ∨ I14 23 6 ≤ I14 23 1) ∧ (I14 23 5 ≤ I14 23 1) ∧ (I14 23 7 = 4 ∨ (I14 23 5 < I14 23 6 ∧ I14 23 5 < I14 23 1)) ∧ (I14 23 7 = 3 → 2 ≤ I14 23 6 - I14 23 5 ∧ I14 23 6 - I14 23 5 ≤ 14) ∧ (I14 23 1 = I 23 1) ∧ (I 23 5 ≤ I14 23 5) ∧ (I14 39 12 ≤ I14 23 5) ∧ (I 39 12 ≤ I14 39 12) ∧ (b ≤ -3 - I14 12 (Int.toNat a1)) ∧ (I14 39 15 = I 39 15)) → gv_X (gc_E6 ws0 tb (6 + 2 * nr + 1) (yX6_readTerm, cX6_readTerm, 7, (some .boolean)) kX6_readTerm) (gv_Q cX6_readTerm (some .boolean) sh (fun r h' => (∃ (I' : gr_I) (J' : gr_J), h' = gc_h sh I' J' A ∧ gc_Inv ro I' ∧ (∀ q j : Nat, ((q = 39 ∧ j = 3) ∨ (q = 39 ∧ j = 4) ∨ (q = 23 ∧ j = 5) ∨ (q = 23 ∧ j = 6) ∨ (q = 23 ∧ j = 7) ∨ (q = 23 ∧ j = 8) ∨ (q = 39 ∧ j = 12) ∨ (q = 39 ∧ j = 15) ∨ q = 43) ∨ I' q j = I q j) ∧ (∀ q j : Nat, ((q = 23 ∧ j = 9) ∨ q = 44 ∨ q = 45) ∨ J' q j = J q j) ∧ gc_LT I' ∧ gc_TO b I' ∧ (∃ z : Int, r = some (.inl z) ∧ 0 ≤ z ∧ z ≤ 1 ∧ (I' 23 5 ≤ I' 23 6) ∧ (I' 23 7 = 5 ∨ I' 23 6 ≤ I' 23 1) ∧ (I' 23 5 ≤ I' 23 1) ∧ (I' 23 7 = 4 ∨ (I' 23 5 < I' 23 6 ∧ I' 23 5 < I' 23 1)) ∧ (I' 23 7 = 3 → 2 ≤ I' 23 6 - I' 23 5 ∧ I' 23 6 - I' 23 5 ≤ 14) ∧ (I' 23 1 = I 23 1) ∧ (I 23 5 ≤ I' 23 5) ∧ (I' 39 12 ≤ I' 23 5) ∧ (z = 0 ∨ I' 39 15 = I 39 15) ∧ (I 39 12 ≤ I' 39 12))))) (123, [(0, .inr (.inr (some 39))), (1, .inl a1), (2, .inl a2), (4, .inl v4_16), (6, .inl v6_16)], [], sh, gc_h sh I14 J15 A) := by
          intro m_23
          obtain ⟨ha1_23, ha2_23, hv4_16_23, hv6_16_23, e0_23, e1_23, e2_23, e3_23, e4_23, e5_23, e6_23, e7_23, e8_23, e9_23, e10_23, e11_23, e12_23, e13_23⟩ := m_23
          have f24 := (show 0 ≤ I14 23 1 ∧ I14 23 1 ≤ 1000 from gc_in hI14 R_23 rfl rfl)
          have f25 := (show 0 ≤ I14 23 5 ∧ I14 23 5 ≤ 1000 from gc_in hI14 R_23 rfl rfl)
          have f26 := (show 0 ≤ I14 23 6 ∧ I14 23 6 ≤ 1001 from gc_in hI14 R_23 rfl rfl)
          have f27 := (show 0 ≤ I14 23 7 ∧ I14 23 7 ≤ 125 from gc_in hI14 R_23 rfl rfl)
          have f28 := (show 0 ≤ I14 39 12 ∧ I14 39 12 ≤ 2000 from gc_in hI14 R_39 rfl rfl)
          have f29 := (show 0 ≤ I14 39 15 ∧ I14 39 15 ≤ 41 from gc_in hI14 R_39 rfl rfl)
          have L168 : ∀ (I30 : gr_I) (J31 : gr_J) (s0_32 : Int), gc_Inv ro I30 → (∀ q j : Nat, ((q = 39 ∧ j = 3) ∨ (q = 39 ∧ j = 4) ∨ (q = 23 ∧ j = 5) ∨ (q = 23 ∧ j = 6) ∨ (q = 23 ∧ j = 7) ∨ (q = 23 ∧ j = 8) ∨ (q = 39 ∧ j = 12) ∨ (q = 39 ∧ j = 15) ∨ q = 43) ∨ I30 q j = I q j) → (∀ q j : Nat, ((q = 23 ∧ j = 9) ∨ q = 44 ∨ q = 45) ∨ J31 q j = J q j) → gc_LT I30 → gc_TO b I30 → ((0 ≤ a1 ∧ a1 ≤ 95) ∧ (1 ≤ a2 ∧ a2 ≤ 40) ∧ (0 ≤ v4_16 ∧ v4_16 ≤ 2000) ∧ (0 ≤ v6_16 ∧ v6_16 ≤ 999) ∧ (0 ≤ s0_32 ∧ s0_32 ≤ 1) ∧ (a2 ≤ 40) ∧ (v4_16 ≤ I30 39 12) ∧ (s0_32 = 0 ∨ I30 23 7 = 44) ∧ (I30 23 5 ≤ I30 23 6) ∧ (I30 23 7 = 5 ∨ I30 23 6 ≤ I30 23 1) ∧ (I30 23 5 ≤ I30 23 1) ∧ (I30 23 7 = 4 ∨ (I30 23 5 < I30 23 6 ∧ I30 23 5 < I30 23 1)) ∧ (I30 23 7 = 3 → 2 ≤ I30 23 6 - I30 23 5 ∧ I30 23 6 - I30 23 5 ≤ 14) ∧ (I30 23 1 = I 23 1) ∧ (I 23 5 ≤ I30 23 5) ∧ (I30 39 12 ≤ I30 23 5) ∧ (I 39 12 ≤ I30 39 12) ∧ (b ≤ -3 - I30 12 (Int.toNat a1)) ∧ (I30 39 15 = I 39 15)) → gv_X (gc_E6 ws0 tb (6 + 2 * nr + 1) (yX6_readTerm, cX6_readTerm, 7, (some .boolean)) kX6_readTerm) (gv_Q cX6_readTerm (some .boolean) sh (fun r h' => (∃ (I' : gr_I) (J' : gr_J), h' = gc_h sh I' J' A ∧ gc_Inv ro I' ∧ (∀ q j : Nat, ((q = 39 ∧ j = 3) ∨ (q = 39 ∧ j = 4) ∨ (q = 23 ∧ j = 5) ∨ (q = 23 ∧ j = 6) ∨ (q = 23 ∧ j = 7) ∨ (q = 23 ∧ j = 8) ∨ (q = 39 ∧ j = 12) ∨ (q = 39 ∧ j = 15) ∨ q = 43) ∨ I' q j = I q j) ∧ (∀ q j : Nat, ((q = 23 ∧ j = 9) ∨ q = 44 ∨ q = 45) ∨ J' q j = J q j) ∧ gc_LT I' ∧ gc_TO b I' ∧ (∃ z : Int, r = some (.inl z) ∧ 0 ≤ z ∧ z ≤ 1 ∧ (I' 23 5 ≤ I' 23 6) ∧ (I' 23 7 = 5 ∨ I' 23 6 ≤ I' 23 1) ∧ (I' 23 5 ≤ I' 23 1) ∧ (I' 23 7 = 4 ∨ (I' 23 5 < I' 23 6 ∧ I' 23 5 < I' 23 1)) ∧ (I' 23 7 = 3 → 2 ≤ I' 23 6 - I' 23 5 ∧ I' 23 6 - I' 23 5 ≤ 14) ∧ (I' 23 1 = I 23 1) ∧ (I 23 5 ≤ I' 23 5) ∧ (I' 39 12 ≤ I' 23 5) ∧ (z = 0 ∨ I' 39 15 = I 39 15) ∧ (I 39 12 ≤ I' 39 12))))) (168, [(0, .inr (.inr (some 39))), (1, .inl a1), (2, .inl a2), (4, .inl v4_16), (6, .inl v6_16)], [.inl s0_32], sh, gc_h sh I30 J31 A) := by
            intro I30 J31 s0_32 hI30 FI30 FJ31 KLT_I30 KTO_I30 m_32
            clear ha1_23 ha2_23 hv4_16_23 hv6_16_23 e0_23 e1_23 e2_23 e3_23 e4_23 e5_23 e6_23 e7_23 e8_23 e9_23 e10_23 e11_23 e12_23 e13_23 f24 f25 f26 f27 f28 f29 ha1_16 ha2_16 hv4_16 hv5_16 hv6_16 e0_16 e1_16 e2_16 e3_16 e4_16 e5_16 e6_16 e7_16 e8_16 e9_16 e10_16 e11_16 e12_16 e13_16 f17 f18 f19 f20 f21 f22
            obtain ⟨ha1_32, ha2_32, hv4_16_32, hv6_16_32, hs0_32, e0_32, e1_32, e2_32, e3_32, e4_32, e5_32, e6_32, e7_32, e8_32, e9_32, e10_32, e11_32, e12_32, e13_32⟩ := m_32
            have f33 := (show 0 ≤ I30 23 1 ∧ I30 23 1 ≤ 1000 from gc_in hI30 R_23 rfl rfl)
            have f34 := (show 0 ≤ I30 23 5 ∧ I30 23 5 ≤ 1000 from gc_in hI30 R_23 rfl rfl)
            have f35 := (show 0 ≤ I30 23 6 ∧ I30 23 6 ≤ 1001 from gc_in hI30 R_23 rfl rfl)
            have f36 := (show 0 ≤ I30 23 7 ∧ I30 23 7 ≤ 125 from gc_in hI30 R_23 rfl rfl)
            have f37 := (show 0 ≤ I30 39 12 ∧ I30 39 12 ≤ 2000 from gc_in hI30 R_39 rfl rfl)
            have f38 := (show 0 ≤ I30 39 15 ∧ I30 39 15 ≤ 41 from gc_in hI30 R_39 rfl rfl)
            have L186 : ∀ (I39 : gr_I) (J40 : gr_J) (v5_41 : Int), gc_Inv ro I39 → (∀ q j : Nat, ((q = 39 ∧ j = 3) ∨ (q = 39 ∧ j = 4) ∨ (q = 23 ∧ j = 5) ∨ (q = 23 ∧ j = 6) ∨ (q = 23 ∧ j = 7) ∨ (q = 23 ∧ j = 8) ∨ (q = 39 ∧ j = 12) ∨ (q = 39 ∧ j = 15) ∨ q = 43) ∨ I39 q j = I q j) → (∀ q j : Nat, ((q = 23 ∧ j = 9) ∨ q = 44 ∨ q = 45) ∨ J40 q j = J q j) → gc_LT I39 → gc_TO b I39 → ((0 ≤ a1 ∧ a1 ≤ 95) ∧ (1 ≤ a2 ∧ a2 ≤ 40) ∧ (0 ≤ v4_16 ∧ v4_16 ≤ 2000) ∧ (0 ≤ v5_41 ∧ v5_41 ≤ 1) ∧ (0 ≤ v6_16 ∧ v6_16 ≤ 999) ∧ (a2 ≤ 40) ∧ (v4_16 ≤ I39 39 12) ∧ (v5_41 = 0 ∨ I39 23 7 = 44) ∧ (I39 23 5 ≤ I39 23 6) ∧ (I39 23 7 = 5 ∨ I39 23 6 ≤ I39 23 1) ∧ (I39 23 5 ≤ I39 23 1) ∧ (I39 23 7 = 4 ∨ (I39 23 5 < I39 23 6 ∧ I39 23 5 < I39 23 1)) ∧ (I39 23 7 = 3 → 2 ≤ I39 23 6 - I39 23 5 ∧ I39 23 6 - I39 23 5 ≤ 14) ∧ (I39 23 1 = I 23 1) ∧ (I 23 5 ≤ I39 23 5) ∧ (I39 39 12 ≤ I39 23 5) ∧ (I 39 12 ≤ I39 39 12) ∧ (b ≤ -3 - I39 12 (Int.toNat a1)) ∧ (I39 39 15 = I 39 15)) → gv_X (gc_E6 ws0 tb (6 + 2 * nr + 1) (yX6_readTerm, cX6_readTerm, 7, (some .boolean)) kX6_readTerm) (gv_Q cX6_readTerm (some .boolean) sh (fun r h' => (∃ (I' : gr_I) (J' : gr_J), h' = gc_h sh I' J' A ∧ gc_Inv ro I' ∧ (∀ q j : Nat, ((q = 39 ∧ j = 3) ∨ (q = 39 ∧ j = 4) ∨ (q = 23 ∧ j = 5) ∨ (q = 23 ∧ j = 6) ∨ (q = 23 ∧ j = 7) ∨ (q = 23 ∧ j = 8) ∨ (q = 39 ∧ j = 12) ∨ (q = 39 ∧ j = 15) ∨ q = 43) ∨ I' q j = I q j) ∧ (∀ q j : Nat, ((q = 23 ∧ j = 9) ∨ q = 44 ∨ q = 45) ∨ J' q j = J q j) ∧ gc_LT I' ∧ gc_TO b I' ∧ (∃ z : Int, r = some (.inl z) ∧ 0 ≤ z ∧ z ≤ 1 ∧ (I' 23 5 ≤ I' 23 6) ∧ (I' 23 7 = 5 ∨ I' 23 6 ≤ I' 23 1) ∧ (I' 23 5 ≤ I' 23 1) ∧ (I' 23 7 = 4 ∨ (I' 23 5 < I' 23 6 ∧ I' 23 5 < I' 23 1)) ∧ (I' 23 7 = 3 → 2 ≤ I' 23 6 - I' 23 5 ∧ I' 23 6 - I' 23 5 ≤ 14) ∧ (I' 23 1 = I 23 1) ∧ (I 23 5 ≤ I' 23 5) ∧ (I' 39 12 ≤ I' 23 5) ∧ (z = 0 ∨ I' 39 15 = I 39 15) ∧ (I 39 12 ≤ I' 39 12))))) (186, [(0, .inr (.inr (some 39))), (1, .inl a1), (2, .inl a2), (4, .inl v4_16), (5, .inl v5_41), (6, .inl v6_16)], [], sh, gc_h sh I39 J40 A) := by
              intro I39 J40 v5_41 hI39 FI39 FJ40 KLT_I39 KTO_I39 m_41
              clear ha1_32 ha2_32 hv4_16_32 hv6_16_32 hs0_32 e0_32 e1_32 e2_32 e3_32 e4_32 e5_32 e6_32 e7_32 e8_32 e9_32 e10_32 e11_32 e12_32 e13_32 f33 f34 f35 f36 f37 f38
              obtain ⟨ha1_41, ha2_41, hv4_16_41, hv5_41, hv6_16_41, e0_41, e1_41, e2_41, e3_41, e4_41, e5_41, e6_41, e7_41, e8_41, e9_41, e10_41, e11_41, e12_41, e13_41⟩ := m_41
              have f42 := (show 0 ≤ I39 23 1 ∧ I39 23 1 ≤ 1000 from gc_in hI39 R_23 rfl rfl)
              have f43 := (show 0 ≤ I39 23 5 ∧ I39 23 5 ≤ 1000 from gc_in hI39 R_23 rfl rfl)
              have f44 := (show 0 ≤ I39 23 6 ∧ I39 23 6 ≤ 1001 from gc_in hI39 R_23 rfl rfl)
              have f45 := (show 0 ≤ I39 23 7 ∧ I39 23 7 ≤ 125 from gc_in hI39 R_23 rfl rfl)
              have f46 := (show 0 ≤ I39 39 12 ∧ I39 39 12 ≤ 2000 from gc_in hI39 R_39 rfl rfl)
              have f47 := (show 0 ≤ I39 39 15 ∧ I39 39 15 ≤ 41 from gc_in hI39 R_39 rfl rfl)
              refine gv_run 2 true hD (pc' := 98) (lv' := [(6, .inl (v6_16 + 1)), (0, .inr (.inr (some 39))), (1, .inl a1), (2, .inl a2), (4, .inl v4_16), (5, .inl v5_41)]) (st' := []) (h' := gc_h sh I39 J40 A) (C := ((True ∧ True) ∧ True)) rfl ⟨⟨trivial, trivial⟩, trivial⟩ ?_
              refine gv_pick [1, 2, 3, 4, 5, 0] rfl ?_
              exact ih98 I39 J40 v4_16 v5_41 (v6_16 + 1) (by omega) hI39 FI39 FJ40 KLT_I39 KTO_I39 (by omega)
            refine gv_run 2 true hD (pc' := 172) (lv' := [(5, .inl s0_32), (0, .inr (.inr (some 39))), (1, .inl a1), (2, .inl a2), (4, .inl v4_16), (6, .inl v6_16)]) (st' := [.inl s0_32]) (h' := gc_h sh I30 J31 A) (C := ((True ∧ True) ∧ True)) rfl ⟨⟨trivial, trivial⟩, trivial⟩ ?_
            refine gv_if_ne (t := 186) hD rfl rfl ⟨by omega, by omega⟩ (fun c48 => ?_) (fun c48 => ?_)
            · show gv_X _ _ (186, [(5, .inl s0_32), (0, .inr (.inr (some 39))), (1, .inl a1), (2, .inl a2), (4, .inl v4_16), (6, .inl v6_16)], [], sh, gc_h sh I30 J31 A)
              refine gv_pick [1, 2, 3, 4, 0, 5] rfl ?_
              exact L186 I30 J31 s0_32 hI30 FI30 FJ31 KLT_I30 KTO_I30 (by omega)
            · show gv_X _ _ (175, [(5, .inl s0_32), (0, .inr (.inr (some 39))), (1, .inl a1), (2, .inl a2), (4, .inl v4_16), (6, .inl v6_16)], [], sh, gc_h sh I30 J31 A)
              refine gv_run 2 true hD (pc' := 178) (lv' := [(5, .inl s0_32), (0, .inr (.inr (some 39))), (1, .inl a1), (2, .inl a2), (4, .inl v4_16), (6, .inl v6_16)]) (st' := [.inl 41, .inr (.inr (some 39))]) (h' := gc_h sh I30 J31 A) (C := ((True ∧ True) ∧ True)) rfl ⟨⟨trivial, trivial⟩, trivial⟩ ?_
              obtain ⟨r49, h49, E49, P49⟩ := d_X6_take (ws0 := ws0) (tb := tb) hws htb sh ro I30 J31 A hI30  41 hb   ⟨by omega, by omega⟩ (by omega) (by omega) (by omega) (by omega) (by omega) (by omega) KLT_I30
              obtain ⟨I50, J51, rfl, hI50, g49, k49, KLT_I50, ⟨z49, rfl, q49⟩⟩ := P49
              have FI50 := gc_frc (W := fun q j => (q = 39 ∧ j = 3) ∨ (q = 39 ∧ j = 4) ∨ (q = 23 ∧ j = 5) ∨ (q = 23 ∧ j = 6) ∨ (q = 23 ∧ j = 7) ∨ (q = 23 ∧ j = 8) ∨ (q = 39 ∧ j = 12) ∨ (q = 39 ∧ j = 15) ∨ q = 43) (V := fun q j => (q = 39 ∧ j = 3) ∨ (q = 39 ∧ j = 4) ∨ (q = 23 ∧ j = 5) ∨ (q = 23 ∧ j = 6) ∨ (q = 23 ∧ j = 7) ∨ (q = 23 ∧ j = 8)) FI30 (fun q j h => (h.elim (fun h => (Or.inl h)) (fun h => (h.elim (fun h => (Or.inr (Or.inl h))) (fun h => (h.elim (fun h => (Or.inr (Or.inr (Or.inl h)))) (fun h => (h.elim (fun h => (Or.inr (Or.inr (Or.inr (Or.inl h))))) (fun h => (h.elim (fun h => (Or.inr (Or.inr (Or.inr (Or.inr (Or.inl h)))))) (fun h => (Or.inr (Or.inr (Or.inr (Or.inr (Or.inr (Or.inl h))))))))))))))))) g49
              have FJ51 := gc_frc (W := fun q j => (q = 23 ∧ j = 9) ∨ q = 44 ∨ q = 45) (V := fun q j => (q = 23 ∧ j = 9)) FJ31 (fun q j h => (Or.inl h)) k49
              have t52 := (g49 23 1).resolve_left (by omega)
              have t53 := (g49 39 12).resolve_left (by omega)
              have t54 := (g49 39 15).resolve_left (by omega)
              have t55 := (g49 12 (Int.toNat a1)).resolve_left (by omega)
              have f56 := (show 0 ≤ I50 23 1 ∧ I50 23 1 ≤ 1000 from gc_in hI50 R_23 rfl rfl)
              have f57 := (show 0 ≤ I50 23 5 ∧ I50 23 5 ≤ 1000 from gc_in hI50 R_23 rfl rfl)
              have f58 := (show 0 ≤ I50 23 6 ∧ I50 23 6 ≤ 1001 from gc_in hI50 R_23 rfl rfl)
              have f59 := (show 0 ≤ I50 23 7 ∧ I50 23 7 ≤ 125 from gc_in hI50 R_23 rfl rfl)
              have f60 := (show 0 ≤ I50 39 12 ∧ I50 39 12 ≤ 2000 from gc_in hI50 R_39 rfl rfl)
              have f61 := (show 0 ≤ I50 39 15 ∧ I50 39 15 ≤ 41 from gc_in hI50 R_39 rfl rfl)
              have KTO_I50 := gc_TO_fr KTO_I30 ((g49 39 12).resolve_left (by omega)) (fun k => (g49 43 k).resolve_left (by omega))
              refine gv_callV hD rfl (As := [.inl 41]) (st := []) rfl B_39 S_39 rfl (gc_lV6 hws rfl) (Nat.le_of_ble_eq_true rfl) (gz_Ev_mono (d := 3) (by omega) E49) ?_
              show gv_X _ _ (181, [(5, .inl s0_32), (0, .inr (.inr (some 39))), (1, .inl a1), (2, .inl a2), (4, .inl v4_16), (6, .inl v6_16)], [.inl z49], sh, gc_h sh I50 J51 A)
              refine gv_if_ne (t := 186) hD rfl rfl ⟨by omega, by omega⟩ (fun c62 => ?_) (fun c62 => ?_)
              · show gv_X _ _ (186, [(5, .inl s0_32), (0, .inr (.inr (some 39))), (1, .inl a1), (2, .inl a2), (4, .inl v4_16), (6, .inl v6_16)], [], sh, gc_h sh I50 J51 A)
                refine gv_pick [1, 2, 3, 4, 0, 5] rfl ?_
                exact L186 I50 J51 s0_32 hI50 FI50 FJ51 KLT_I50 KTO_I50 (by omega)
              · show gv_X _ _ (184, [(5, .inl s0_32), (0, .inr (.inr (some 39))), (1, .inl a1), (2, .inl a2), (4, .inl v4_16), (6, .inl v6_16)], [], sh, gc_h sh I50 J51 A)
                refine gv_run 1 true hD (pc' := 185) (lv' := [(5, .inl s0_32), (0, .inr (.inr (some 39))), (1, .inl a1), (2, .inl a2), (4, .inl v4_16), (6, .inl v6_16)]) (st' := [.inl 0]) (h' := gc_h sh I50 J51 A) (C := (True ∧ True)) rfl ⟨trivial, trivial⟩ ?_
                exact gv_zret hD rfl (by omega) ⟨I50, J51, rfl, hI50, FI50, FJ51, KLT_I50, KTO_I50, ⟨_, rfl, by omega⟩⟩
          refine gv_run 1 true hD (pc' := 124) (lv' := [(0, .inr (.inr (some 39))), (1, .inl a1), (2, .inl a2), (4, .inl v4_16), (6, .inl v6_16)]) (st' := [.inr (.inr (some 39))]) (h' := gc_h sh I14 J15 A) (C := (True ∧ True)) rfl ⟨trivial, trivial⟩ ?_
          refine gv_get hD rfl rfl S_39 ⟨by decide, B_39⟩ (gc_hA S_39 rfl A_39_1) ?_
          show gv_X _ _ (127, [(0, .inr (.inr (some 39))), (1, .inl a1), (2, .inl a2), (4, .inl v4_16), (6, .inl v6_16)], [.inr (.inr (some 23))], sh, gc_h sh I14 J15 A)
          obtain ⟨r63, h63, E63, P63⟩ := d_X9_advance (ws0 := ws0) (tb := tb) hws htb sh ro I14 J15 A hI14 23  (gc_b23 hb)    (by omega) 
          obtain ⟨I64, J65, rfl, hI64, g63, k63, ⟨rfl, q63⟩⟩ := P63
          have FI64 := gc_frc (W := fun q j => (q = 39 ∧ j = 3) ∨ (q = 39 ∧ j = 4) ∨ (q = 23 ∧ j = 5) ∨ (q = 23 ∧ j = 6) ∨ (q = 23 ∧ j = 7) ∨ (q = 23 ∧ j = 8) ∨ (q = 39 ∧ j = 12) ∨ (q = 39 ∧ j = 15) ∨ q = 43) (V := fun q j => (q = 23 ∧ j = 5) ∨ (q = 23 ∧ j = 6) ∨ (q = 23 ∧ j = 7) ∨ (q = 23 ∧ j = 8)) FI14 (fun q j h => (h.elim (fun h => (Or.inr (Or.inr (Or.inl h)))) (fun h => (h.elim (fun h => (Or.inr (Or.inr (Or.inr (Or.inl h))))) (fun h => (h.elim (fun h => (Or.inr (Or.inr (Or.inr (Or.inr (Or.inl h)))))) (fun h => (Or.inr (Or.inr (Or.inr (Or.inr (Or.inr (Or.inl h))))))))))))) g63
          have FJ65 := gc_frc (W := fun q j => (q = 23 ∧ j = 9) ∨ q = 44 ∨ q = 45) (V := fun q j => (q = 23 ∧ j = 9)) FJ15 (fun q j h => (Or.inl h)) k63
          have t66 := (g63 23 1).resolve_left (by omega)
          have t67 := (g63 39 12).resolve_left (by omega)
          have t68 := (g63 39 15).resolve_left (by omega)
          have t69 := (g63 12 (Int.toNat a1)).resolve_left (by omega)
          have f70 := (show 0 ≤ I64 23 1 ∧ I64 23 1 ≤ 1000 from gc_in hI64 R_23 rfl rfl)
          have f71 := (show 0 ≤ I64 23 5 ∧ I64 23 5 ≤ 1000 from gc_in hI64 R_23 rfl rfl)
          have f72 := (show 0 ≤ I64 23 6 ∧ I64 23 6 ≤ 1001 from gc_in hI64 R_23 rfl rfl)
          have f73 := (show 0 ≤ I64 23 7 ∧ I64 23 7 ≤ 125 from gc_in hI64 R_23 rfl rfl)
          have f74 := (show 0 ≤ I64 39 12 ∧ I64 39 12 ≤ 2000 from gc_in hI64 R_39 rfl rfl)
          have f75 := (show 0 ≤ I64 39 15 ∧ I64 39 15 ≤ 41 from gc_in hI64 R_39 rfl rfl)
          have KLT_I64 : gc_LT I64 := q63.2.2.2.2.2.2.2
          have KTO_I64 := gc_TO_fr KTO_I14 ((g63 39 12).resolve_left (by omega)) (fun k => (g63 43 k).resolve_left (by omega))
          refine gv_callV hD rfl (As := []) (st := []) rfl B_23 S_23 rfl (gc_lV6 hws rfl) (Nat.le_of_ble_eq_true rfl) (gz_Ev_mono (d := 2) (by omega) E63) ?_
          show gv_X _ _ (130, [(0, .inr (.inr (some 39))), (1, .inl a1), (2, .inl a2), (4, .inl v4_16), (6, .inl v6_16)], [], sh, gc_h sh I64 J65 A)
          refine gv_run 4 true hD (pc' := 135) (lv' := [(0, .inr (.inr (some 39))), (1, .inl a1), (2, .inl a2), (4, .inl v4_16), (6, .inl v6_16)]) (st' := [.inr (.inl (Int64.ofNat 0)), .inl (-1), .inl v4_16, .inr (.inr (some 39))]) (h' := gc_h sh I64 J65 A) (C := ((((True ∧ True) ∧ True) ∧ True) ∧ True)) rfl ⟨⟨⟨⟨trivial, trivial⟩, trivial⟩, trivial⟩, trivial⟩ ?_
          obtain ⟨r76, h76, E76, P76⟩ := d_X6_putNode (ws0 := ws0) (tb := tb) hws htb sh ro I64 J65 A hI64  b v4_16 (-1) (Int64.ofNat 0) hb   ⟨by omega, by omega⟩ ⟨by omega, by omega⟩ (by omega) (by omega) (by omega) KTO_I64
          obtain ⟨I77, J78, rfl, hI77, g76, k76, KTO_I77, ⟨rfl, q76⟩⟩ := P76
          have FI77 := gc_frc (W := fun q j => (q = 39 ∧ j = 3) ∨ (q = 39 ∧ j = 4) ∨ (q = 23 ∧ j = 5) ∨ (q = 23 ∧ j = 6) ∨ (q = 23 ∧ j = 7) ∨ (q = 23 ∧ j = 8) ∨ (q = 39 ∧ j = 12) ∨ (q = 39 ∧ j = 15) ∨ q = 43) (V := fun q j => (q = 39 ∧ j = 12) ∨ q = 43) FI64 (fun q j h => (h.elim (fun h => (Or.inr (Or.inr (Or.inr (Or.inr (Or.inr (Or.inr (Or.inl h)))))))) (fun h => (Or.inr (Or.inr (Or.inr (Or.inr (Or.inr (Or.inr (Or.inr (Or.inr h))))))))))) g76
          have FJ78 := gc_frc (W := fun q j => (q = 23 ∧ j = 9) ∨ q = 44 ∨ q = 45) (V := fun q j => q = 44) FJ65 (fun q j h => (Or.inr (Or.inl h))) k76
          have t79 := (g76 23 1).resolve_left (by omega)
          have t80 := (g76 23 5).resolve_left (by omega)
          have t81 := (g76 23 6).resolve_left (by omega)
          have t82 := (g76 23 7).resolve_left (by omega)
          have t83 := (g76 39 15).resolve_left (by omega)
          have t84 := (g76 12 (Int.toNat a1)).resolve_left (by omega)
          have f85 := (show 0 ≤ I77 23 1 ∧ I77 23 1 ≤ 1000 from gc_in hI77 R_23 rfl rfl)
          have f86 := (show 0 ≤ I77 23 5 ∧ I77 23 5 ≤ 1000 from gc_in hI77 R_23 rfl rfl)
          have f87 := (show 0 ≤ I77 23 6 ∧ I77 23 6 ≤ 1001 from gc_in hI77 R_23 rfl rfl)
          have f88 := (show 0 ≤ I77 23 7 ∧ I77 23 7 ≤ 125 from gc_in hI77 R_23 rfl rfl)
          have f89 := (show 0 ≤ I77 39 12 ∧ I77 39 12 ≤ 2000 from gc_in hI77 R_39 rfl rfl)
          have f90 := (show 0 ≤ I77 39 15 ∧ I77 39 15 ≤ 41 from gc_in hI77 R_39 rfl rfl)
          have KLT_I77 := gc_LT_fr KLT_I64 ((g76 23 5).resolve_left (by omega)) ((g76 23 6).resolve_left (by omega)) ((g76 23 7).resolve_left (by omega)) (fun k => (g76 24 k).resolve_left (by omega))
          refine gv_callV hD rfl (As := [.inl v4_16, .inl (-1), .inr (.inl (Int64.ofNat 0))]) (st := []) rfl B_39 S_39 rfl (gc_lV6 hws rfl) (Nat.le_of_ble_eq_true rfl) (gz_Ev_mono (d := 1) (by omega) E76) ?_
          show gv_X _ _ (138, [(0, .inr (.inr (some 39))), (1, .inl a1), (2, .inl a2), (4, .inl v4_16), (6, .inl v6_16)], [], sh, gc_h sh I77 J78 A)
          refine gv_run 5 true hD (pc' := 143) (lv' := [(0, .inr (.inr (some 39))), (1, .inl a1), (2, .inl a2), (4, .inl v4_16), (6, .inl v6_16)]) (st' := [.inl (a2 + 1), .inl a1, .inr (.inr (some 39))]) (h' := gc_h sh I77 J78 A) (C := (((((True ∧ True) ∧ True) ∧ True) ∧ True) ∧ True)) rfl ⟨⟨⟨⟨⟨trivial, trivial⟩, trivial⟩, trivial⟩, trivial⟩, trivial⟩ ?_
          obtain ⟨r91, h91, E91, P91⟩ := ihR I77 J78 hI77 a1 (a2 + 1) ⟨by omega, by omega⟩ ⟨by omega, by omega⟩ (by omega) (by omega) (by omega) (by omega) (by omega) (by omega) (by omega) (by omega) (by omega) KLT_I77 KTO_I77 (by omega)
          obtain ⟨I92, J93, rfl, hI92, g91, k91, KLT_I92, KTO_I92, ⟨z91, rfl, q91⟩⟩ := P91
          have FI92 := gc_frc (W := fun q j => (q = 39 ∧ j = 3) ∨ (q = 39 ∧ j = 4) ∨ (q = 23 ∧ j = 5) ∨ (q = 23 ∧ j = 6) ∨ (q = 23 ∧ j = 7) ∨ (q = 23 ∧ j = 8) ∨ (q = 39 ∧ j = 12) ∨ (q = 39 ∧ j = 15) ∨ q = 43) (V := fun q j => (q = 39 ∧ j = 3) ∨ (q = 39 ∧ j = 4) ∨ (q = 23 ∧ j = 5) ∨ (q = 23 ∧ j = 6) ∨ (q = 23 ∧ j = 7) ∨ (q = 23 ∧ j = 8) ∨ (q = 39 ∧ j = 12) ∨ (q = 39 ∧ j = 15) ∨ q = 43) FI77 (fun q j h => (h.elim (fun h => (Or.inl h)) (fun h => (h.elim (fun h => (Or.inr (Or.inl h))) (fun h => (h.elim (fun h => (Or.inr (Or.inr (Or.inl h)))) (fun h => (h.elim (fun h => (Or.inr (Or.inr (Or.inr (Or.inl h))))) (fun h => (h.elim (fun h => (Or.inr (Or.inr (Or.inr (Or.inr (Or.inl h)))))) (fun h => (h.elim (fun h => (Or.inr (Or.inr (Or.inr (Or.inr (Or.inr (Or.inl h))))))) (fun h => (h.elim (fun h => (Or.inr (Or.inr (Or.inr (Or.inr (Or.inr (Or.inr (Or.inl h)))))))) (fun h => (h.elim (fun h => (Or.inr (Or.inr (Or.inr (Or.inr (Or.inr (Or.inr (Or.inr (Or.inl h))))))))) (fun h => (Or.inr (Or.inr (Or.inr (Or.inr (Or.inr (Or.inr (Or.inr (Or.inr h))))))))))))))))))))))))) g91
          have FJ93 := gc_frc (W := fun q j => (q = 23 ∧ j = 9) ∨ q = 44 ∨ q = 45) (V := fun q j => (q = 23 ∧ j = 9) ∨ q = 44 ∨ q = 45) FJ78 (fun q j h => (h.elim (fun h => (Or.inl h)) (fun h => (h.elim (fun h => (Or.inr (Or.inl h))) (fun h => (Or.inr (Or.inr h))))))) k91
          have t94 := (g91 23 1).resolve_left (by omega)
          have t95 := (g91 12 (Int.toNat a1)).resolve_left (by omega)
          have f96 := (show 0 ≤ I92 23 1 ∧ I92 23 1 ≤ 1000 from gc_in hI92 R_23 rfl rfl)
          have f97 := (show 0 ≤ I92 23 5 ∧ I92 23 5 ≤ 1000 from gc_in hI92 R_23 rfl rfl)
          have f98 := (show 0 ≤ I92 23 6 ∧ I92 23 6 ≤ 1001 from gc_in hI92 R_23 rfl rfl)
          have f99 := (show 0 ≤ I92 23 7 ∧ I92 23 7 ≤ 125 from gc_in hI92 R_23 rfl rfl)
          have f100 := (show 0 ≤ I92 39 12 ∧ I92 39 12 ≤ 2000 from gc_in hI92 R_39 rfl rfl)
          have f101 := (show 0 ≤ I92 39 15 ∧ I92 39 15 ≤ 41 from gc_in hI92 R_39 rfl rfl)
          refine gv_callV hD rfl (As := [.inl a1, .inl (a2 + 1)]) (st := []) rfl B_39 S_39 rfl (gc_lV6 hws rfl) (Nat.le_of_ble_eq_true rfl) (gz_Ev_mono (d := (6 + 2 * nr)) (by omega) E91) ?_
          show gv_X _ _ (146, [(0, .inr (.inr (some 39))), (1, .inl a1), (2, .inl a2), (4, .inl v4_16), (6, .inl v6_16)], [.inl z91], sh, gc_h sh I92 J93 A)
          refine gv_if_ne (t := 151) hD rfl rfl ⟨by omega, by omega⟩ (fun c102 => ?_) (fun c102 => ?_)
          · show gv_X _ _ (151, [(0, .inr (.inr (some 39))), (1, .inl a1), (2, .inl a2), (4, .inl v4_16), (6, .inl v6_16)], [], sh, gc_h sh I92 J93 A)
            refine gv_run 1 true hD (pc' := 152) (lv' := [(0, .inr (.inr (some 39))), (1, .inl a1), (2, .inl a2), (4, .inl v4_16), (6, .inl v6_16)]) (st' := [.inr (.inr (some 39))]) (h' := gc_h sh I92 J93 A) (C := (True ∧ True)) rfl ⟨trivial, trivial⟩ ?_
            refine gv_get hD rfl rfl S_39 ⟨by decide, B_39⟩ (gc_hA S_39 rfl A_39_1) ?_
            show gv_X _ _ (155, [(0, .inr (.inr (some 39))), (1, .inl a1), (2, .inl a2), (4, .inl v4_16), (6, .inl v6_16)], [.inr (.inr (some 23))], sh, gc_h sh I92 J93 A)
            have f103 := (show 0 ≤ I92 23 7 ∧ I92 23 7 ≤ 125 from gc_in hI92 R_23 rfl rfl)
            refine gv_get hD rfl rfl S_23 ⟨by decide, B_23⟩ (gc_hI S_23 rfl) ?_
            show gv_X _ _ (158, [(0, .inr (.inr (some 39))), (1, .inl a1), (2, .inl a2), (4, .inl v4_16), (6, .inl v6_16)], [.inl (I92 23 7)], sh, gc_h sh I92 J93 A)
            refine gv_run 1 true hD (pc' := 160) (lv' := [(0, .inr (.inr (some 39))), (1, .inl a1), (2, .inl a2), (4, .inl v4_16), (6, .inl v6_16)]) (st' := [.inl 44, .inl (I92 23 7)]) (h' := gc_h sh I92 J93 A) (C := (True ∧ True)) rfl ⟨trivial, trivial⟩ ?_
            refine gv_icmp_ne (t := 167) hD rfl rfl ⟨⟨by omega, by omega⟩, ⟨by omega, by omega⟩⟩ (fun c104 => ?_) (fun c104 => ?_)
            · show gv_X _ _ (167, [(0, .inr (.inr (some 39))), (1, .inl a1), (2, .inl a2), (4, .inl v4_16), (6, .inl v6_16)], [], sh, gc_h sh I92 J93 A)
              refine gv_run 1 true hD (pc' := 168) (lv' := [(0, .inr (.inr (some 39))), (1, .inl a1), (2, .inl a2), (4, .inl v4_16), (6, .inl v6_16)]) (st' := [.inl 0]) (h' := gc_h sh I92 J93 A) (C := (True ∧ True)) rfl ⟨trivial, trivial⟩ ?_
              exact L168 I92 J93 0 hI92 FI92 FJ93 KLT_I92 KTO_I92 (by omega)
            · show gv_X _ _ (163, [(0, .inr (.inr (some 39))), (1, .inl a1), (2, .inl a2), (4, .inl v4_16), (6, .inl v6_16)], [], sh, gc_h sh I92 J93 A)
              refine gv_run 2 true hD (pc' := 168) (lv' := [(0, .inr (.inr (some 39))), (1, .inl a1), (2, .inl a2), (4, .inl v4_16), (6, .inl v6_16)]) (st' := [.inl 1]) (h' := gc_h sh I92 J93 A) (C := ((True ∧ True) ∧ True)) rfl ⟨⟨trivial, trivial⟩, trivial⟩ ?_
              exact L168 I92 J93 1 hI92 FI92 FJ93 KLT_I92 KTO_I92 (by omega)
          · show gv_X _ _ (149, [(0, .inr (.inr (some 39))), (1, .inl a1), (2, .inl a2), (4, .inl v4_16), (6, .inl v6_16)], [], sh, gc_h sh I92 J93 A)
            refine gv_run 1 true hD (pc' := 150) (lv' := [(0, .inr (.inr (some 39))), (1, .inl a1), (2, .inl a2), (4, .inl v4_16), (6, .inl v6_16)]) (st' := [.inl 0]) (h' := gc_h sh I92 J93 A) (C := (True ∧ True)) rfl ⟨trivial, trivial⟩ ?_
            exact gv_zret hD rfl (by omega) ⟨I92, J93, rfl, hI92, FI92, FJ93, KLT_I92, KTO_I92, ⟨_, rfl, by omega⟩⟩
        have L192 : ((I14 23 5 ≤ I14 23 6) ∧ (I14 23 7 = 5 ∨ I14 23 6 ≤ I14 23 1) ∧ (I14 23 5 ≤ I14 23 1) ∧ (I14 23 7 = 4 ∨ (I14 23 5 < I14 23 6 ∧ I14 23 5 < I14 23 1)) ∧ (I14 23 7 = 3 → 2 ≤ I14 23 6 - I14 23 5 ∧ I14 23 6 - I14 23 5 ≤ 14) ∧ (I14 23 1 = I 23 1) ∧ (I 23 5 ≤ I14 23 5) ∧ (I14 39 12 ≤ I14 23 5) ∧ (I 39 12 ≤ I14 39 12) ∧ (b ≤ -3 - I14 12 (Int.toNat a1)) ∧ (I14 39 15 = I 39 15)) → gv_X (gc_E6 ws0 tb (6 + 2 * nr + 1) (yX6_readTerm, cX6_readTerm, 7, (some .boolean)) kX6_readTerm) (gv_Q cX6_readTerm (some .boolean) sh (fun r h' => (∃ (I' : gr_I) (J' : gr_J), h' = gc_h sh I' J' A ∧ gc_Inv ro I' ∧ (∀ q j : Nat, ((q = 39 ∧ j = 3) ∨ (q = 39 ∧ j = 4) ∨ (q = 23 ∧ j = 5) ∨ (q = 23 ∧ j = 6) ∨ (q = 23 ∧ j = 7) ∨ (q = 23 ∧ j = 8) ∨ (q = 39 ∧ j = 12) ∨ (q = 39 ∧ j = 15) ∨ q = 43) ∨ I' q j = I q j) ∧ (∀ q j : Nat, ((q = 23 ∧ j = 9) ∨ q = 44 ∨ q = 45) ∨ J' q j = J q j) ∧ gc_LT I' ∧ gc_TO b I' ∧ (∃ z : Int, r = some (.inl z) ∧ 0 ≤ z ∧ z ≤ 1 ∧ (I' 23 5 ≤ I' 23 6) ∧ (I' 23 7 = 5 ∨ I' 23 6 ≤ I' 23 1) ∧ (I' 23 5 ≤ I' 23 1) ∧ (I' 23 7 = 4 ∨ (I' 23 5 < I' 23 6 ∧ I' 23 5 < I' 23 1)) ∧ (I' 23 7 = 3 → 2 ≤ I' 23 6 - I' 23 5 ∧ I' 23 6 - I' 23 5 ≤ 14) ∧ (I' 23 1 = I 23 1) ∧ (I 23 5 ≤ I' 23 5) ∧ (I' 39 12 ≤ I' 23 5) ∧ (z = 0 ∨ I' 39 15 = I 39 15) ∧ (I 39 12 ≤ I' 39 12))))) (192, [], [], sh, gc_h sh I14 J15 A) := by
          intro m_105
          obtain ⟨e0_105, e1_105, e2_105, e3_105, e4_105, e5_105, e6_105, e7_105, e8_105, e9_105, e10_105⟩ := m_105
          have f106 := (show 0 ≤ I14 23 1 ∧ I14 23 1 ≤ 1000 from gc_in hI14 R_23 rfl rfl)
          have f107 := (show 0 ≤ I14 23 5 ∧ I14 23 5 ≤ 1000 from gc_in hI14 R_23 rfl rfl)
          have f108 := (show 0 ≤ I14 23 6 ∧ I14 23 6 ≤ 1001 from gc_in hI14 R_23 rfl rfl)
          have f109 := (show 0 ≤ I14 23 7 ∧ I14 23 7 ≤ 125 from gc_in hI14 R_23 rfl rfl)
          have f110 := (show 0 ≤ I14 39 12 ∧ I14 39 12 ≤ 2000 from gc_in hI14 R_39 rfl rfl)
          have f111 := (show 0 ≤ I14 39 15 ∧ I14 39 15 ≤ 41 from gc_in hI14 R_39 rfl rfl)
          refine gv_run 1 true hD (pc' := 193) (lv' := []) (st' := [.inl 1]) (h' := gc_h sh I14 J15 A) (C := (True ∧ True)) rfl ⟨trivial, trivial⟩ ?_
          exact gv_zret hD rfl (by omega) ⟨I14, J15, rfl, hI14, FI14, FJ15, KLT_I14, KTO_I14, ⟨_, rfl, by omega⟩⟩
        refine gv_run 2 true hD (pc' := 103) (lv' := [(0, .inr (.inr (some 39))), (1, .inl a1), (2, .inl a2), (4, .inl v4_16), (5, .inl v5_16), (6, .inl v6_16)]) (st' := [.inl 1000, .inl v6_16]) (h' := gc_h sh I14 J15 A) (C := ((True ∧ True) ∧ True)) rfl ⟨⟨trivial, trivial⟩, trivial⟩ ?_
        refine gv_icmp_ge (t := 192) hD rfl rfl ⟨⟨by omega, by omega⟩, ⟨by omega, by omega⟩⟩ (fun c112 => ?_) (fun c112 => ?_)
        · show gv_X _ _ (192, [(0, .inr (.inr (some 39))), (1, .inl a1), (2, .inl a2), (4, .inl v4_16), (5, .inl v5_16), (6, .inl v6_16)], [], sh, gc_h sh I14 J15 A)
          refine gv_pick [] rfl ?_
          exact L192 (by omega)
        · show gv_X _ _ (106, [(0, .inr (.inr (some 39))), (1, .inl a1), (2, .inl a2), (4, .inl v4_16), (5, .inl v5_16), (6, .inl v6_16)], [], sh, gc_h sh I14 J15 A)
          refine gv_run 1 true hD (pc' := 108) (lv' := [(0, .inr (.inr (some 39))), (1, .inl a1), (2, .inl a2), (4, .inl v4_16), (5, .inl v5_16), (6, .inl v6_16)]) (st' := [.inl v5_16]) (h' := gc_h sh I14 J15 A) (C := (True ∧ True)) rfl ⟨trivial, trivial⟩ ?_
          refine gv_if_ne (t := 123) hD rfl rfl ⟨by omega, by omega⟩ (fun c113 => ?_) (fun c113 => ?_)
          · show gv_X _ _ (123, [(0, .inr (.inr (some 39))), (1, .inl a1), (2, .inl a2), (4, .inl v4_16), (5, .inl v5_16), (6, .inl v6_16)], [], sh, gc_h sh I14 J15 A)
            refine gv_pick [0, 1, 2, 3, 5] rfl ?_
            exact L123 (by omega)
          · show gv_X _ _ (111, [(0, .inr (.inr (some 39))), (1, .inl a1), (2, .inl a2), (4, .inl v4_16), (5, .inl v5_16), (6, .inl v6_16)], [], sh, gc_h sh I14 J15 A)
            refine gv_run 1 true hD (pc' := 112) (lv' := [(0, .inr (.inr (some 39))), (1, .inl a1), (2, .inl a2), (4, .inl v4_16), (5, .inl v5_16), (6, .inl v6_16)]) (st' := [.inr (.inr (some 39))]) (h' := gc_h sh I14 J15 A) (C := (True ∧ True)) rfl ⟨trivial, trivial⟩ ?_
            refine gv_get hD rfl rfl S_39 ⟨by decide, B_39⟩ (gc_hA S_39 rfl A_39_1) ?_
            show gv_X _ _ (115, [(0, .inr (.inr (some 39))), (1, .inl a1), (2, .inl a2), (4, .inl v4_16), (5, .inl v5_16), (6, .inl v6_16)], [.inr (.inr (some 23))], sh, gc_h sh I14 J15 A)
            have f114 := (show 0 ≤ I14 23 7 ∧ I14 23 7 ≤ 125 from gc_in hI14 R_23 rfl rfl)
            refine gv_get hD rfl rfl S_23 ⟨by decide, B_23⟩ (gc_hI S_23 rfl) ?_
            show gv_X _ _ (118, [(0, .inr (.inr (some 39))), (1, .inl a1), (2, .inl a2), (4, .inl v4_16), (5, .inl v5_16), (6, .inl v6_16)], [.inl (I14 23 7)], sh, gc_h sh I14 J15 A)
            refine gv_run 1 true hD (pc' := 120) (lv' := [(0, .inr (.inr (some 39))), (1, .inl a1), (2, .inl a2), (4, .inl v4_16), (5, .inl v5_16), (6, .inl v6_16)]) (st' := [.inl 40, .inl (I14 23 7)]) (h' := gc_h sh I14 J15 A) (C := (True ∧ True)) rfl ⟨trivial, trivial⟩ ?_
            refine gv_icmp_ne (t := 192) hD rfl rfl ⟨⟨by omega, by omega⟩, ⟨by omega, by omega⟩⟩ (fun c115 => ?_) (fun c115 => ?_)
            · show gv_X _ _ (192, [(0, .inr (.inr (some 39))), (1, .inl a1), (2, .inl a2), (4, .inl v4_16), (5, .inl v5_16), (6, .inl v6_16)], [], sh, gc_h sh I14 J15 A)
              refine gv_pick [] rfl ?_
              exact L192 (by omega)
            · show gv_X _ _ (123, [(0, .inr (.inr (some 39))), (1, .inl a1), (2, .inl a2), (4, .inl v4_16), (5, .inl v5_16), (6, .inl v6_16)], [], sh, gc_h sh I14 J15 A)
              refine gv_pick [0, 1, 2, 3, 5] rfl ?_
              exact L123 (by omega)
    refine gv_run 2 true hD (pc' := 46) (lv' := [(0, .inr (.inr (some 39))), (1, .inl a1), (2, .inl a2), (3, .inl v3_7)]) (st' := [.inl 40, .inl a2]) (h' := gc_h sh I J A) (C := ((True ∧ True) ∧ True)) rfl ⟨⟨trivial, trivial⟩, trivial⟩ ?_
    refine gv_icmp_le (t := 62) hD rfl rfl ⟨⟨by omega, by omega⟩, ⟨by omega, by omega⟩⟩ (fun c116 => ?_) (fun c116 => ?_)
    · show gv_X _ _ (62, [(0, .inr (.inr (some 39))), (1, .inl a1), (2, .inl a2), (3, .inl v3_7)], [], sh, gc_h sh I J A)
      refine gv_run 2 true hD (pc' := 65) (lv' := [(0, .inr (.inr (some 39))), (1, .inl a1), (2, .inl a2), (3, .inl v3_7)]) (st' := [.inl 92, .inl v3_7]) (h' := gc_h sh I J A) (C := ((True ∧ True) ∧ True)) rfl ⟨⟨trivial, trivial⟩, trivial⟩ ?_
      refine gv_icmp_ne (t := 75) hD rfl rfl ⟨⟨by omega, by omega⟩, ⟨by omega, by omega⟩⟩ (fun c117 => ?_) (fun c117 => ?_)
      · show gv_X _ _ (75, [(0, .inr (.inr (some 39))), (1, .inl a1), (2, .inl a2), (3, .inl v3_7)], [], sh, gc_h sh I J A)
        refine gv_run 1 true hD (pc' := 76) (lv' := [(0, .inr (.inr (some 39))), (1, .inl a1), (2, .inl a2), (3, .inl v3_7)]) (st' := [.inr (.inr (some 39))]) (h' := gc_h sh I J A) (C := (True ∧ True)) rfl ⟨trivial, trivial⟩ ?_
        have f118 := (show 0 ≤ I 39 12 ∧ I 39 12 ≤ 2000 from gc_in hI R_39 rfl rfl)
        refine gv_get hD rfl rfl S_39 ⟨by decide, B_39⟩ (gc_hI S_39 rfl) ?_
        show gv_X _ _ (79, [(0, .inr (.inr (some 39))), (1, .inl a1), (2, .inl a2), (3, .inl v3_7)], [.inl (I 39 12)], sh, gc_h sh I J A)
        refine gv_run 4 true hD (pc' := 84) (lv' := [(4, .inl (I 39 12)), (0, .inr (.inr (some 39))), (1, .inl a1), (2, .inl a2), (3, .inl v3_7)]) (st' := [.inl a2, .inl a1, .inr (.inr (some 39))]) (h' := gc_h sh I J A) (C := ((((True ∧ True) ∧ True) ∧ True) ∧ True)) rfl ⟨⟨⟨⟨trivial, trivial⟩, trivial⟩, trivial⟩, trivial⟩ ?_
        obtain ⟨r119, h119, E119, P119⟩ := d_X6_readAtom (ws0 := ws0) (tb := tb) hws htb sh ro A  b  hb   nr ihR I J hI a1 a2 ⟨by omega, by omega⟩ ⟨by omega, by omega⟩ (by omega) (by omega) (by omega) (by omega) (by omega) (by omega) (by omega) (by omega) (by omega) (by omega) KLT_I KTO_I (by omega)
        obtain ⟨I120, J121, rfl, hI120, g119, k119, KLT_I120, KTO_I120, ⟨z119, rfl, q119⟩⟩ := P119
        have FI120 := gc_frc (W := fun q j => (q = 39 ∧ j = 3) ∨ (q = 39 ∧ j = 4) ∨ (q = 23 ∧ j = 5) ∨ (q = 23 ∧ j = 6) ∨ (q = 23 ∧ j = 7) ∨ (q = 23 ∧ j = 8) ∨ (q = 39 ∧ j = 12) ∨ (q = 39 ∧ j = 15) ∨ q = 43) (V := fun q j => (q = 39 ∧ j = 3) ∨ (q = 39 ∧ j = 4) ∨ (q = 23 ∧ j = 5) ∨ (q = 23 ∧ j = 6) ∨ (q = 23 ∧ j = 7) ∨ (q = 23 ∧ j = 8) ∨ (q = 39 ∧ j = 12) ∨ (q = 39 ∧ j = 15) ∨ q = 43) FI (fun q j h => (h.elim (fun h => (Or.inl h)) (fun h => (h.elim (fun h => (Or.inr (Or.inl h))) (fun h => (h.elim (fun h => (Or.inr (Or.inr (Or.inl h)))) (fun h => (h.elim (fun h => (Or.inr (Or.inr (Or.inr (Or.inl h))))) (fun h => (h.elim (fun h => (Or.inr (Or.inr (Or.inr (Or.inr (Or.inl h)))))) (fun h => (h.elim (fun h => (Or.inr (Or.inr (Or.inr (Or.inr (Or.inr (Or.inl h))))))) (fun h => (h.elim (fun h => (Or.inr (Or.inr (Or.inr (Or.inr (Or.inr (Or.inr (Or.inl h)))))))) (fun h => (h.elim (fun h => (Or.inr (Or.inr (Or.inr (Or.inr (Or.inr (Or.inr (Or.inr (Or.inl h))))))))) (fun h => (Or.inr (Or.inr (Or.inr (Or.inr (Or.inr (Or.inr (Or.inr (Or.inr h))))))))))))))))))))))))) g119
        have FJ121 := gc_frc (W := fun q j => (q = 23 ∧ j = 9) ∨ q = 44 ∨ q = 45) (V := fun q j => (q = 23 ∧ j = 9) ∨ q = 44 ∨ q = 45) FJ (fun q j h => (h.elim (fun h => (Or.inl h)) (fun h => (h.elim (fun h => (Or.inr (Or.inl h))) (fun h => (Or.inr (Or.inr h))))))) k119
        have t122 := (g119 23 1).resolve_left (by omega)
        have t123 := (g119 12 (Int.toNat a1)).resolve_left (by omega)
        have f124 := (show 0 ≤ I120 23 1 ∧ I120 23 1 ≤ 1000 from gc_in hI120 R_23 rfl rfl)
        have f125 := (show 0 ≤ I120 23 5 ∧ I120 23 5 ≤ 1000 from gc_in hI120 R_23 rfl rfl)
        have f126 := (show 0 ≤ I120 23 6 ∧ I120 23 6 ≤ 1001 from gc_in hI120 R_23 rfl rfl)
        have f127 := (show 0 ≤ I120 23 7 ∧ I120 23 7 ≤ 125 from gc_in hI120 R_23 rfl rfl)
        have f128 := (show 0 ≤ I120 39 12 ∧ I120 39 12 ≤ 2000 from gc_in hI120 R_39 rfl rfl)
        have f129 := (show 0 ≤ I120 39 15 ∧ I120 39 15 ≤ 41 from gc_in hI120 R_39 rfl rfl)
        refine gv_callV hD rfl (As := [.inl a1, .inl a2]) (st := []) rfl B_39 S_39 rfl (gc_lV6 hws rfl) (Nat.le_of_ble_eq_true rfl) (gz_Ev_mono (d := (6 + 2 * nr + 1)) (Nat.le_refl _) E119) ?_
        show gv_X _ _ (87, [(4, .inl (I 39 12)), (0, .inr (.inr (some 39))), (1, .inl a1), (2, .inl a2), (3, .inl v3_7)], [.inl z119], sh, gc_h sh I120 J121 A)
        refine gv_if_ne (t := 92) hD rfl rfl ⟨by omega, by omega⟩ (fun c130 => ?_) (fun c130 => ?_)
        · show gv_X _ _ (92, [(4, .inl (I 39 12)), (0, .inr (.inr (some 39))), (1, .inl a1), (2, .inl a2), (3, .inl v3_7)], [], sh, gc_h sh I120 J121 A)
          refine gv_run 4 true hD (pc' := 98) (lv' := [(6, .inl 0), (5, .inl 0), (4, .inl (I 39 12)), (0, .inr (.inr (some 39))), (1, .inl a1), (2, .inl a2), (3, .inl v3_7)]) (st' := []) (h' := gc_h sh I120 J121 A) (C := ((((True ∧ True) ∧ True) ∧ True) ∧ True)) rfl ⟨⟨⟨⟨trivial, trivial⟩, trivial⟩, trivial⟩, trivial⟩ ?_
          refine gv_pick [3, 4, 5, 2, 1, 0] rfl ?_
          exact L98 _ I120 J121 (I 39 12) 0 0 (Nat.lt_succ_self _) hI120 FI120 FJ121 KLT_I120 KTO_I120 (by omega)
        · show gv_X _ _ (90, [(4, .inl (I 39 12)), (0, .inr (.inr (some 39))), (1, .inl a1), (2, .inl a2), (3, .inl v3_7)], [], sh, gc_h sh I120 J121 A)
          refine gv_run 1 true hD (pc' := 91) (lv' := [(4, .inl (I 39 12)), (0, .inr (.inr (some 39))), (1, .inl a1), (2, .inl a2), (3, .inl v3_7)]) (st' := [.inl 0]) (h' := gc_h sh I120 J121 A) (C := (True ∧ True)) rfl ⟨trivial, trivial⟩ ?_
          exact gv_zret hD rfl (by omega) ⟨I120, J121, rfl, hI120, FI120, FJ121, KLT_I120, KTO_I120, ⟨_, rfl, by omega⟩⟩
      · show gv_X _ _ (68, [(0, .inr (.inr (some 39))), (1, .inl a1), (2, .inl a2), (3, .inl v3_7)], [], sh, gc_h sh I J A)
        refine gv_run 3 true hD (pc' := 71) (lv' := [(0, .inr (.inr (some 39))), (1, .inl a1), (2, .inl a2), (3, .inl v3_7)]) (st' := [.inl a2, .inl a1, .inr (.inr (some 39))]) (h' := gc_h sh I J A) (C := (((True ∧ True) ∧ True) ∧ True)) rfl ⟨⟨⟨trivial, trivial⟩, trivial⟩, trivial⟩ ?_
        obtain ⟨r131, h131, E131, P131⟩ := d_X6_readBinder (ws0 := ws0) (tb := tb) hws htb sh ro A  b  hb   nr ihR I J hI a1 a2 ⟨by omega, by omega⟩ ⟨by omega, by omega⟩ (by omega) (by omega) (by omega) (by omega) (by omega) (by omega) (by omega) (by omega) (by omega) (by omega) KLT_I KTO_I (by omega)
        obtain ⟨I132, J133, rfl, hI132, g131, k131, KLT_I132, KTO_I132, ⟨z131, rfl, q131⟩⟩ := P131
        have FI132 := gc_frc (W := fun q j => (q = 39 ∧ j = 3) ∨ (q = 39 ∧ j = 4) ∨ (q = 23 ∧ j = 5) ∨ (q = 23 ∧ j = 6) ∨ (q = 23 ∧ j = 7) ∨ (q = 23 ∧ j = 8) ∨ (q = 39 ∧ j = 12) ∨ (q = 39 ∧ j = 15) ∨ q = 43) (V := fun q j => (q = 39 ∧ j = 3) ∨ (q = 39 ∧ j = 4) ∨ (q = 23 ∧ j = 5) ∨ (q = 23 ∧ j = 6) ∨ (q = 23 ∧ j = 7) ∨ (q = 23 ∧ j = 8) ∨ (q = 39 ∧ j = 12) ∨ (q = 39 ∧ j = 15) ∨ q = 43) FI (fun q j h => (h.elim (fun h => (Or.inl h)) (fun h => (h.elim (fun h => (Or.inr (Or.inl h))) (fun h => (h.elim (fun h => (Or.inr (Or.inr (Or.inl h)))) (fun h => (h.elim (fun h => (Or.inr (Or.inr (Or.inr (Or.inl h))))) (fun h => (h.elim (fun h => (Or.inr (Or.inr (Or.inr (Or.inr (Or.inl h)))))) (fun h => (h.elim (fun h => (Or.inr (Or.inr (Or.inr (Or.inr (Or.inr (Or.inl h))))))) (fun h => (h.elim (fun h => (Or.inr (Or.inr (Or.inr (Or.inr (Or.inr (Or.inr (Or.inl h)))))))) (fun h => (h.elim (fun h => (Or.inr (Or.inr (Or.inr (Or.inr (Or.inr (Or.inr (Or.inr (Or.inl h))))))))) (fun h => (Or.inr (Or.inr (Or.inr (Or.inr (Or.inr (Or.inr (Or.inr (Or.inr h))))))))))))))))))))))))) g131
        have FJ133 := gc_frc (W := fun q j => (q = 23 ∧ j = 9) ∨ q = 44 ∨ q = 45) (V := fun q j => (q = 23 ∧ j = 9) ∨ q = 44 ∨ q = 45) FJ (fun q j h => (h.elim (fun h => (Or.inl h)) (fun h => (h.elim (fun h => (Or.inr (Or.inl h))) (fun h => (Or.inr (Or.inr h))))))) k131
        have t134 := (g131 23 1).resolve_left (by omega)
        have t135 := (g131 12 (Int.toNat a1)).resolve_left (by omega)
        have f136 := (show 0 ≤ I132 23 1 ∧ I132 23 1 ≤ 1000 from gc_in hI132 R_23 rfl rfl)
        have f137 := (show 0 ≤ I132 23 5 ∧ I132 23 5 ≤ 1000 from gc_in hI132 R_23 rfl rfl)
        have f138 := (show 0 ≤ I132 23 6 ∧ I132 23 6 ≤ 1001 from gc_in hI132 R_23 rfl rfl)
        have f139 := (show 0 ≤ I132 23 7 ∧ I132 23 7 ≤ 125 from gc_in hI132 R_23 rfl rfl)
        have f140 := (show 0 ≤ I132 39 12 ∧ I132 39 12 ≤ 2000 from gc_in hI132 R_39 rfl rfl)
        have f141 := (show 0 ≤ I132 39 15 ∧ I132 39 15 ≤ 41 from gc_in hI132 R_39 rfl rfl)
        refine gv_callV hD rfl (As := [.inl a1, .inl a2]) (st := []) rfl B_39 S_39 rfl (gc_lV6 hws rfl) (Nat.le_of_ble_eq_true rfl) (gz_Ev_mono (d := (6 + 2 * nr + 1)) (Nat.le_refl _) E131) ?_
        show gv_X _ _ (74, [(0, .inr (.inr (some 39))), (1, .inl a1), (2, .inl a2), (3, .inl v3_7)], [.inl z131], sh, gc_h sh I132 J133 A)
        exact gv_zret hD rfl (by omega) ⟨I132, J133, rfl, hI132, FI132, FJ133, KLT_I132, KTO_I132, ⟨_, rfl, by omega⟩⟩
    · show gv_X _ _ (49, [(0, .inr (.inr (some 39))), (1, .inl a1), (2, .inl a2), (3, .inl v3_7)], [], sh, gc_h sh I J A)
      refine gv_run 3 true hD (pc' := 52) (lv' := [(0, .inr (.inr (some 39))), (1, .inl a1), (2, .inl a2), (3, .inl v3_7)]) (st' := [.inr (.inr (some 39)), .inl 5, .inr (.inr (some 39))]) (h' := gc_h sh I J A) (C := (((True ∧ True) ∧ True) ∧ True)) rfl ⟨⟨⟨trivial, trivial⟩, trivial⟩, trivial⟩ ?_
      refine gv_get hD rfl rfl S_39 ⟨by decide, B_39⟩ (gc_hA S_39 rfl A_39_1) ?_
      show gv_X _ _ (55, [(0, .inr (.inr (some 39))), (1, .inl a1), (2, .inl a2), (3, .inl v3_7)], [.inr (.inr (some 23)), .inl 5, .inr (.inr (some 39))], sh, gc_h sh I J A)
      have f142 := (show 0 ≤ I 23 5 ∧ I 23 5 ≤ 1000 from gc_in hI R_23 rfl rfl)
      refine gv_get hD rfl rfl S_23 ⟨by decide, B_23⟩ (gc_hI S_23 rfl) ?_
      show gv_X _ _ (58, [(0, .inr (.inr (some 39))), (1, .inl a1), (2, .inl a2), (3, .inl v3_7)], [.inl (I 23 5), .inl 5, .inr (.inr (some 39))], sh, gc_h sh I J A)
      obtain ⟨r143, h143, E143, P143⟩ := d_X6_wrong (ws0 := ws0) (tb := tb) hws htb sh ro I J A hI  5 (I 23 5) hb   ⟨by omega, by omega⟩ ⟨by omega, by omega⟩  
      obtain ⟨I144, J145, rfl, hI144, g143, k143, ⟨z143, rfl, q143⟩⟩ := P143
      have FI144 := gc_frc (W := fun q j => (q = 39 ∧ j = 3) ∨ (q = 39 ∧ j = 4) ∨ (q = 23 ∧ j = 5) ∨ (q = 23 ∧ j = 6) ∨ (q = 23 ∧ j = 7) ∨ (q = 23 ∧ j = 8) ∨ (q = 39 ∧ j = 12) ∨ (q = 39 ∧ j = 15) ∨ q = 43) (V := fun q j => (q = 39 ∧ j = 3) ∨ (q = 39 ∧ j = 4)) FI (fun q j h => (h.elim (fun h => (Or.inl h)) (fun h => (Or.inr (Or.inl h))))) g143
      have t146 := (g143 23 1).resolve_left (by omega)
      have t147 := (g143 23 5).resolve_left (by omega)
      have t148 := (g143 23 6).resolve_left (by omega)
      have t149 := (g143 23 7).resolve_left (by omega)
      have t150 := (g143 39 12).resolve_left (by omega)
      have t151 := (g143 39 15).resolve_left (by omega)
      have t152 := (g143 12 (Int.toNat a1)).resolve_left (by omega)
      have f153 := (show 0 ≤ I144 23 1 ∧ I144 23 1 ≤ 1000 from gc_in hI144 R_23 rfl rfl)
      have f154 := (show 0 ≤ I144 23 5 ∧ I144 23 5 ≤ 1000 from gc_in hI144 R_23 rfl rfl)
      have f155 := (show 0 ≤ I144 23 6 ∧ I144 23 6 ≤ 1001 from gc_in hI144 R_23 rfl rfl)
      have f156 := (show 0 ≤ I144 23 7 ∧ I144 23 7 ≤ 125 from gc_in hI144 R_23 rfl rfl)
      have f157 := (show 0 ≤ I144 39 12 ∧ I144 39 12 ≤ 2000 from gc_in hI144 R_39 rfl rfl)
      have f158 := (show 0 ≤ I144 39 15 ∧ I144 39 15 ≤ 41 from gc_in hI144 R_39 rfl rfl)
      obtain rfl : J = J145 := funext fun q => funext fun j => ((k143 q j).resolve_left id).symm
      have KLT_I144 := gc_LT_fr KLT_I ((g143 23 5).resolve_left (by omega)) ((g143 23 6).resolve_left (by omega)) ((g143 23 7).resolve_left (by omega)) (fun k => (g143 24 k).resolve_left (by omega))
      have KTO_I144 := gc_TO_fr KTO_I ((g143 39 12).resolve_left (by omega)) (fun k => (g143 43 k).resolve_left (by omega))
      refine gv_callV hD rfl (As := [.inl 5, .inl (I 23 5)]) (st := []) rfl B_39 S_39 rfl (gc_lV6 hws rfl) (Nat.le_of_ble_eq_true rfl) (gz_Ev_mono (d := 1) (by omega) E143) ?_
      show gv_X _ _ (61, [(0, .inr (.inr (some 39))), (1, .inl a1), (2, .inl a2), (3, .inl v3_7)], [.inl z143], sh, gc_h sh I144 J A)
      exact gv_zret hD rfl (by omega) ⟨I144, J, rfl, hI144, FI144, FJ, KLT_I144, KTO_I144, ⟨_, rfl, by omega⟩⟩
  refine gv_run 1 true hD (pc' := 1) (lv' := [(0, .inr (.inr (some 39))), (1, .inl a1), (2, .inl a2)]) (st' := [.inr (.inr (some 39))]) (h' := gc_h sh I J A) (C := (True ∧ True)) rfl ⟨trivial, trivial⟩ ?_
  refine gv_get hD rfl rfl S_39 ⟨by decide, B_39⟩ (gc_hA S_39 rfl A_39_1) ?_
  show gv_X _ _ (4, [(0, .inr (.inr (some 39))), (1, .inl a1), (2, .inl a2)], [.inr (.inr (some 23))], sh, gc_h sh I J A)
  have f159 := (show 0 ≤ I 23 7 ∧ I 23 7 ≤ 125 from gc_in hI R_23 rfl rfl)
  refine gv_get hD rfl rfl S_23 ⟨by decide, B_23⟩ (gc_hI S_23 rfl) ?_
  show gv_X _ _ (7, [(0, .inr (.inr (some 39))), (1, .inl a1), (2, .inl a2)], [.inl (I 23 7)], sh, gc_h sh I J A)
  refine gv_run 3 true hD (pc' := 11) (lv' := [(3, .inl (I 23 7)), (0, .inr (.inr (some 39))), (1, .inl a1), (2, .inl a2)]) (st' := [.inl 92, .inl (I 23 7)]) (h' := gc_h sh I J A) (C := (((True ∧ True) ∧ True) ∧ True)) rfl ⟨⟨⟨trivial, trivial⟩, trivial⟩, trivial⟩ ?_
  refine gv_icmp_eq (t := 43) hD rfl rfl ⟨⟨by omega, by omega⟩, ⟨by omega, by omega⟩⟩ (fun c160 => ?_) (fun c160 => ?_)
  · show gv_X _ _ (43, [(3, .inl (I 23 7)), (0, .inr (.inr (some 39))), (1, .inl a1), (2, .inl a2)], [], sh, gc_h sh I J A)
    refine gv_pick [1, 2, 3, 0] rfl ?_
    exact L43 (I 23 7) (by omega)
  · show gv_X _ _ (14, [(3, .inl (I 23 7)), (0, .inr (.inr (some 39))), (1, .inl a1), (2, .inl a2)], [], sh, gc_h sh I J A)
    refine gv_run 2 true hD (pc' := 17) (lv' := [(3, .inl (I 23 7)), (0, .inr (.inr (some 39))), (1, .inl a1), (2, .inl a2)]) (st' := [.inl 40, .inl (I 23 7)]) (h' := gc_h sh I J A) (C := ((True ∧ True) ∧ True)) rfl ⟨⟨trivial, trivial⟩, trivial⟩ ?_
    refine gv_icmp_eq (t := 43) hD rfl rfl ⟨⟨by omega, by omega⟩, ⟨by omega, by omega⟩⟩ (fun c161 => ?_) (fun c161 => ?_)
    · show gv_X _ _ (43, [(3, .inl (I 23 7)), (0, .inr (.inr (some 39))), (1, .inl a1), (2, .inl a2)], [], sh, gc_h sh I J A)
      refine gv_pick [1, 2, 3, 0] rfl ?_
      exact L43 (I 23 7) (by omega)
    · show gv_X _ _ (20, [(3, .inl (I 23 7)), (0, .inr (.inr (some 39))), (1, .inl a1), (2, .inl a2)], [], sh, gc_h sh I J A)
      refine gv_run 2 true hD (pc' := 22) (lv' := [(3, .inl (I 23 7)), (0, .inr (.inr (some 39))), (1, .inl a1), (2, .inl a2)]) (st' := [.inl 1, .inl (I 23 7)]) (h' := gc_h sh I J A) (C := ((True ∧ True) ∧ True)) rfl ⟨⟨trivial, trivial⟩, trivial⟩ ?_
      refine gv_icmp_eq (t := 43) hD rfl rfl ⟨⟨by omega, by omega⟩, ⟨by omega, by omega⟩⟩ (fun c162 => ?_) (fun c162 => ?_)
      · show gv_X _ _ (43, [(3, .inl (I 23 7)), (0, .inr (.inr (some 39))), (1, .inl a1), (2, .inl a2)], [], sh, gc_h sh I J A)
        refine gv_pick [1, 2, 3, 0] rfl ?_
        exact L43 (I 23 7) (by omega)
      · show gv_X _ _ (25, [(3, .inl (I 23 7)), (0, .inr (.inr (some 39))), (1, .inl a1), (2, .inl a2)], [], sh, gc_h sh I J A)
        refine gv_run 2 true hD (pc' := 27) (lv' := [(3, .inl (I 23 7)), (0, .inr (.inr (some 39))), (1, .inl a1), (2, .inl a2)]) (st' := [.inl 2, .inl (I 23 7)]) (h' := gc_h sh I J A) (C := ((True ∧ True) ∧ True)) rfl ⟨⟨trivial, trivial⟩, trivial⟩ ?_
        refine gv_icmp_eq (t := 43) hD rfl rfl ⟨⟨by omega, by omega⟩, ⟨by omega, by omega⟩⟩ (fun c163 => ?_) (fun c163 => ?_)
        · show gv_X _ _ (43, [(3, .inl (I 23 7)), (0, .inr (.inr (some 39))), (1, .inl a1), (2, .inl a2)], [], sh, gc_h sh I J A)
          refine gv_pick [1, 2, 3, 0] rfl ?_
          exact L43 (I 23 7) (by omega)
        · show gv_X _ _ (30, [(3, .inl (I 23 7)), (0, .inr (.inr (some 39))), (1, .inl a1), (2, .inl a2)], [], sh, gc_h sh I J A)
          refine gv_run 3 true hD (pc' := 33) (lv' := [(3, .inl (I 23 7)), (0, .inr (.inr (some 39))), (1, .inl a1), (2, .inl a2)]) (st' := [.inr (.inr (some 39)), .inl 1, .inr (.inr (some 39))]) (h' := gc_h sh I J A) (C := (((True ∧ True) ∧ True) ∧ True)) rfl ⟨⟨⟨trivial, trivial⟩, trivial⟩, trivial⟩ ?_
          refine gv_get hD rfl rfl S_39 ⟨by decide, B_39⟩ (gc_hA S_39 rfl A_39_1) ?_
          show gv_X _ _ (36, [(3, .inl (I 23 7)), (0, .inr (.inr (some 39))), (1, .inl a1), (2, .inl a2)], [.inr (.inr (some 23)), .inl 1, .inr (.inr (some 39))], sh, gc_h sh I J A)
          have f164 := (show 0 ≤ I 23 5 ∧ I 23 5 ≤ 1000 from gc_in hI R_23 rfl rfl)
          refine gv_get hD rfl rfl S_23 ⟨by decide, B_23⟩ (gc_hI S_23 rfl) ?_
          show gv_X _ _ (39, [(3, .inl (I 23 7)), (0, .inr (.inr (some 39))), (1, .inl a1), (2, .inl a2)], [.inl (I 23 5), .inl 1, .inr (.inr (some 39))], sh, gc_h sh I J A)
          obtain ⟨r165, h165, E165, P165⟩ := d_X6_wrong (ws0 := ws0) (tb := tb) hws htb sh ro I J A hI  1 (I 23 5) hb   ⟨by omega, by omega⟩ ⟨by omega, by omega⟩  
          obtain ⟨I166, J167, rfl, hI166, g165, k165, ⟨z165, rfl, q165⟩⟩ := P165
          have FI166 := gc_frc (W := fun q j => (q = 39 ∧ j = 3) ∨ (q = 39 ∧ j = 4) ∨ (q = 23 ∧ j = 5) ∨ (q = 23 ∧ j = 6) ∨ (q = 23 ∧ j = 7) ∨ (q = 23 ∧ j = 8) ∨ (q = 39 ∧ j = 12) ∨ (q = 39 ∧ j = 15) ∨ q = 43) (V := fun q j => (q = 39 ∧ j = 3) ∨ (q = 39 ∧ j = 4)) FI (fun q j h => (h.elim (fun h => (Or.inl h)) (fun h => (Or.inr (Or.inl h))))) g165
          have t168 := (g165 23 1).resolve_left (by omega)
          have t169 := (g165 23 5).resolve_left (by omega)
          have t170 := (g165 23 6).resolve_left (by omega)
          have t171 := (g165 23 7).resolve_left (by omega)
          have t172 := (g165 39 12).resolve_left (by omega)
          have t173 := (g165 39 15).resolve_left (by omega)
          have t174 := (g165 12 (Int.toNat a1)).resolve_left (by omega)
          have f175 := (show 0 ≤ I166 23 1 ∧ I166 23 1 ≤ 1000 from gc_in hI166 R_23 rfl rfl)
          have f176 := (show 0 ≤ I166 23 5 ∧ I166 23 5 ≤ 1000 from gc_in hI166 R_23 rfl rfl)
          have f177 := (show 0 ≤ I166 23 6 ∧ I166 23 6 ≤ 1001 from gc_in hI166 R_23 rfl rfl)
          have f178 := (show 0 ≤ I166 23 7 ∧ I166 23 7 ≤ 125 from gc_in hI166 R_23 rfl rfl)
          have f179 := (show 0 ≤ I166 39 12 ∧ I166 39 12 ≤ 2000 from gc_in hI166 R_39 rfl rfl)
          have f180 := (show 0 ≤ I166 39 15 ∧ I166 39 15 ≤ 41 from gc_in hI166 R_39 rfl rfl)
          obtain rfl : J = J167 := funext fun q => funext fun j => ((k165 q j).resolve_left id).symm
          have KLT_I166 := gc_LT_fr KLT_I ((g165 23 5).resolve_left (by omega)) ((g165 23 6).resolve_left (by omega)) ((g165 23 7).resolve_left (by omega)) (fun k => (g165 24 k).resolve_left (by omega))
          have KTO_I166 := gc_TO_fr KTO_I ((g165 39 12).resolve_left (by omega)) (fun k => (g165 43 k).resolve_left (by omega))
          refine gv_callV hD rfl (As := [.inl 1, .inl (I 23 5)]) (st := []) rfl B_39 S_39 rfl (gc_lV6 hws rfl) (Nat.le_of_ble_eq_true rfl) (gz_Ev_mono (d := 1) (by omega) E165) ?_
          show gv_X _ _ (42, [(3, .inl (I 23 7)), (0, .inr (.inr (some 39))), (1, .inl a1), (2, .inl a2)], [.inl z165], sh, gc_h sh I166 J A)
          exact gv_zret hD rfl (by omega) ⟨I166, J, rfl, hI166, FI166, FJ, KLT_I166, KTO_I166, ⟨_, rfl, by omega⟩⟩
