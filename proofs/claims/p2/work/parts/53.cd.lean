set_option maxHeartbeats 4000000 in
set_option maxRecDepth 100000 in
theorem d_X9_takeName {ws0 : List Cond} {tb : String → gz_T} (hws : gc_Ws ws0) (htb : gc_tbs tb) (sh : gz_Sh) (ro : Nat → Nat) (I : gr_I) (J : gr_J) (A : gc_A) (hI : gc_Inv ro I) (p : Nat)  (hp : gc_isText sh ro A p)  (x0 : I p 5 < I p 1) (x1 : 97 ≤ I (p + 1) (Int.toNat (I p 5)) ∧ I (p + 1) (Int.toNat (I p 5)) ≤ 122) : ∃ r h', gz_Ev ws0 tb 1 (yX9_takeName, cX9_takeName, 3, none) [.inr (.inr (some p))] sh (gc_h sh I J A) r sh h' 0 0 ∧ (∃ (I' : gr_I) (J' : gr_J), h' = gc_h sh I' J' A ∧ gc_Inv ro I' ∧ (∀ q j : Nat, ((q = p ∧ j = 6) ∨ (q = p ∧ j = 7)) ∨ I' q j = I q j) ∧ (∀ q j : Nat, ((q = p ∧ j = 9)) ∨ J' q j = J q j) ∧ r = none ∧ (I p 5 < I' p 6) ∧ (I' p 6 ≤ I p 1) ∧ (I' p 7 = 1)) := by
  have FI : ∀ q j : Nat, ((q = p ∧ j = 6) ∨ (q = p ∧ j = 7)) ∨ I q j = I q j := fun _ _ => Or.inr rfl
  have FJ : ∀ q j : Nat, ((q = p ∧ j = 9)) ∨ J q j = J q j := fun _ _ => Or.inr rfl
  obtain ⟨S_p, R_p, B_p, A_p_0, S_p_1, R_p_1, B_p_1, A_p_2, S_p_2, R_p_2, B_p_2, A_p_3, S_p_3, R_p_3, B_p_3⟩ := id hp
  have hD : gv_D (gc_E9 ws0 tb 0 (yX9_takeName, cX9_takeName, 3, none) kX9_takeName) := gq_ok oX9_takeName
  refine gc_ev9 (d := 0) (l := kX9_takeName) (Po := fun r h' => (∃ (I' : gr_I) (J' : gr_J), h' = gc_h sh I' J' A ∧ gc_Inv ro I' ∧ (∀ q j : Nat, ((q = p ∧ j = 6) ∨ (q = p ∧ j = 7)) ∨ I' q j = I q j) ∧ (∀ q j : Nat, ((q = p ∧ j = 9)) ∨ J' q j = J q j) ∧ r = none ∧ (I p 5 < I' p 6) ∧ (I' p 6 ≤ I p 1) ∧ (I' p 7 = 1))) htb rfl (Nat.le_of_ble_eq_true rfl) ?_
  have f1 := (show 0 ≤ I p 1 ∧ I p 1 ≤ 1000 from gc_in hI R_p rfl rfl)
  have f2 := (show 0 ≤ I p 5 ∧ I p 5 ≤ 1000 from gc_in hI R_p rfl rfl)
  have f3 := (show 0 ≤ I p 6 ∧ I p 6 ≤ 1001 from gc_in hI R_p rfl rfl)
  have f4 := (show 0 ≤ I p 7 ∧ I p 7 ≤ 125 from gc_in hI R_p rfl rfl)
  have L10 : ∀ (n9 : Nat) (I5 : gr_I) (J6 : gr_J) (v1_7 : Int), (1001 - v1_7).toNat < n9 → gc_Inv ro I5 → (∀ q j : Nat, ((q = p ∧ j = 6) ∨ (q = p ∧ j = 7)) ∨ I5 q j = I q j) → (∀ q j : Nat, ((q = p ∧ j = 9)) ∨ J6 q j = J q j) → ((0 ≤ v1_7 ∧ v1_7 ≤ 1000) ∧ (I5 p 5 = I p 5) ∧ (I5 p 1 = I p 1) ∧ (I5 p 5 ≤ v1_7) ∧ (v1_7 ≤ I5 p 1) ∧ (I5 p 5 < v1_7 ∨ (v1_7 = I5 p 5 ∧ 97 ≤ I5 (p + 1) (Int.toNat v1_7) ∧ I5 (p + 1) (Int.toNat v1_7) ≤ 122))) → gv_X (gc_E9 ws0 tb 0 (yX9_takeName, cX9_takeName, 3, none) kX9_takeName) (gv_Q cX9_takeName none sh (fun r h' => (∃ (I' : gr_I) (J' : gr_J), h' = gc_h sh I' J' A ∧ gc_Inv ro I' ∧ (∀ q j : Nat, ((q = p ∧ j = 6) ∨ (q = p ∧ j = 7)) ∨ I' q j = I q j) ∧ (∀ q j : Nat, ((q = p ∧ j = 9)) ∨ J' q j = J q j) ∧ r = none ∧ (I p 5 < I' p 6) ∧ (I' p 6 ≤ I p 1) ∧ (I' p 7 = 1)))) (10, [(0, .inr (.inr (some p))), (1, .inl v1_7)], [], sh, gc_h sh I5 J6 A) := by
    intro n9
    induction n9 with
    | zero => intro I5 J6 v1_7 hn; omega
    | succ n9 ih10 =>
      intro I5 J6 v1_7 hn hI5 FI5 FJ6 m_7
      obtain ⟨hv1_7, e0_7, e1_7, e2_7, e3_7, e4_7⟩ := m_7
      have f8 := (show 0 ≤ I5 p 1 ∧ I5 p 1 ≤ 1000 from gc_in hI5 R_p rfl rfl)
      have f9 := (show 0 ≤ I5 p 5 ∧ I5 p 5 ≤ 1000 from gc_in hI5 R_p rfl rfl)
      have f10 := (show 0 ≤ I5 p 6 ∧ I5 p 6 ≤ 1001 from gc_in hI5 R_p rfl rfl)
      have f11 := (show 0 ≤ I5 p 7 ∧ I5 p 7 ≤ 125 from gc_in hI5 R_p rfl rfl)
      have L83 : ((0 ≤ v1_7 ∧ v1_7 ≤ 1000) ∧ (I5 p 5 = I p 5) ∧ (I5 p 1 = I p 1) ∧ (I5 p 5 < v1_7) ∧ (v1_7 ≤ I5 p 1)) → gv_X (gc_E9 ws0 tb 0 (yX9_takeName, cX9_takeName, 3, none) kX9_takeName) (gv_Q cX9_takeName none sh (fun r h' => (∃ (I' : gr_I) (J' : gr_J), h' = gc_h sh I' J' A ∧ gc_Inv ro I' ∧ (∀ q j : Nat, ((q = p ∧ j = 6) ∨ (q = p ∧ j = 7)) ∨ I' q j = I q j) ∧ (∀ q j : Nat, ((q = p ∧ j = 9)) ∨ J' q j = J q j) ∧ r = none ∧ (I p 5 < I' p 6) ∧ (I' p 6 ≤ I p 1) ∧ (I' p 7 = 1)))) (83, [(0, .inr (.inr (some p))), (1, .inl v1_7)], [], sh, gc_h sh I5 J6 A) := by
        intro m_12
        obtain ⟨hv1_7_12, e0_12, e1_12, e2_12, e3_12⟩ := m_12
        have f13 := (show 0 ≤ I5 p 1 ∧ I5 p 1 ≤ 1000 from gc_in hI5 R_p rfl rfl)
        have f14 := (show 0 ≤ I5 p 5 ∧ I5 p 5 ≤ 1000 from gc_in hI5 R_p rfl rfl)
        have f15 := (show 0 ≤ I5 p 6 ∧ I5 p 6 ≤ 1001 from gc_in hI5 R_p rfl rfl)
        have f16 := (show 0 ≤ I5 p 7 ∧ I5 p 7 ≤ 125 from gc_in hI5 R_p rfl rfl)
        refine gv_run 2 true hD (pc' := 85) (lv' := [(0, .inr (.inr (some p))), (1, .inl v1_7)]) (st' := [.inl 1, .inr (.inr (some p))]) (h' := gc_h sh I5 J6 A) (C := ((True ∧ True) ∧ True)) rfl ⟨⟨trivial, trivial⟩, trivial⟩ ?_
        refine gv_put hD rfl rfl S_p ⟨by decide, B_p⟩ rfl trivial ?_
        refine gc_st (k := 7) hI5 S_p rfl R_p (lo := 0) (hi := 125) rfl rfl (by omega) (by omega) (fun I17 hI17 q18 p18 => ?_)
        have FI17 := gc_frs (W := fun q j => (q = p ∧ j = 6) ∨ (q = p ∧ j = 7)) FI5 (Or.inr ⟨rfl, rfl⟩) p18
        have t19 := p18 p 1 (fun h => absurd h.2 (by decide))
        have t20 := p18 p 5 (fun h => absurd h.2 (by decide))
        have t21 := p18 p 6 (fun h => absurd h.2 (by decide))
        have f22 := (show 0 ≤ I17 p 1 ∧ I17 p 1 ≤ 1000 from gc_in hI17 R_p rfl rfl)
        have f23 := (show 0 ≤ I17 p 5 ∧ I17 p 5 ≤ 1000 from gc_in hI17 R_p rfl rfl)
        have f24 := (show 0 ≤ I17 p 6 ∧ I17 p 6 ≤ 1001 from gc_in hI17 R_p rfl rfl)
        have f25 := (show 0 ≤ I17 p 7 ∧ I17 p 7 ≤ 125 from gc_in hI17 R_p rfl rfl)
        show gv_X _ _ (88, [(0, .inr (.inr (some p))), (1, .inl v1_7)], [], sh, gc_h sh I17 J6 A)
        refine gv_run 2 true hD (pc' := 90) (lv' := [(0, .inr (.inr (some p))), (1, .inl v1_7)]) (st' := [.inl v1_7, .inr (.inr (some p))]) (h' := gc_h sh I17 J6 A) (C := ((True ∧ True) ∧ True)) rfl ⟨⟨trivial, trivial⟩, trivial⟩ ?_
        refine gv_put hD rfl rfl S_p ⟨by decide, B_p⟩ rfl trivial ?_
        refine gc_st (k := 6) hI17 S_p rfl R_p (lo := 0) (hi := 1001) rfl rfl (by omega) (by omega) (fun I26 hI26 q27 p27 => ?_)
        have FI26 := gc_frs (W := fun q j => (q = p ∧ j = 6) ∨ (q = p ∧ j = 7)) FI17 (Or.inl ⟨rfl, rfl⟩) p27
        have t28 := p27 p 1 (fun h => absurd h.2 (by decide))
        have t29 := p27 p 5 (fun h => absurd h.2 (by decide))
        have t30 := p27 p 7 (fun h => absurd h.2 (by decide))
        have f31 := (show 0 ≤ I26 p 1 ∧ I26 p 1 ≤ 1000 from gc_in hI26 R_p rfl rfl)
        have f32 := (show 0 ≤ I26 p 5 ∧ I26 p 5 ≤ 1000 from gc_in hI26 R_p rfl rfl)
        have f33 := (show 0 ≤ I26 p 6 ∧ I26 p 6 ≤ 1001 from gc_in hI26 R_p rfl rfl)
        have f34 := (show 0 ≤ I26 p 7 ∧ I26 p 7 ≤ 125 from gc_in hI26 R_p rfl rfl)
        show gv_X _ _ (93, [(0, .inr (.inr (some p))), (1, .inl v1_7)], [], sh, gc_h sh I26 J6 A)
        exact gv_vret hD rfl ⟨I26, J6, rfl, hI26, FI26, FJ6, ⟨rfl, by omega⟩⟩
      have L63 : ∀ (v2_35 : Int), ((0 ≤ v1_7 ∧ v1_7 ≤ 999) ∧ (48 ≤ v2_35 ∧ v2_35 ≤ 122) ∧ (I5 p 5 = I p 5) ∧ (I5 p 1 = I p 1) ∧ (I5 p 5 ≤ v1_7) ∧ (v1_7 < I5 p 1)) → gv_X (gc_E9 ws0 tb 0 (yX9_takeName, cX9_takeName, 3, none) kX9_takeName) (gv_Q cX9_takeName none sh (fun r h' => (∃ (I' : gr_I) (J' : gr_J), h' = gc_h sh I' J' A ∧ gc_Inv ro I' ∧ (∀ q j : Nat, ((q = p ∧ j = 6) ∨ (q = p ∧ j = 7)) ∨ I' q j = I q j) ∧ (∀ q j : Nat, ((q = p ∧ j = 9)) ∨ J' q j = J q j) ∧ r = none ∧ (I p 5 < I' p 6) ∧ (I' p 6 ≤ I p 1) ∧ (I' p 7 = 1)))) (63, [(0, .inr (.inr (some p))), (1, .inl v1_7), (2, .inl v2_35)], [], sh, gc_h sh I5 J6 A) := by
        intro v2_35 m_35
        obtain ⟨hv1_7_35, hv2_35, e0_35, e1_35, e2_35, e3_35⟩ := m_35
        have f36 := (show 0 ≤ I5 p 1 ∧ I5 p 1 ≤ 1000 from gc_in hI5 R_p rfl rfl)
        have f37 := (show 0 ≤ I5 p 5 ∧ I5 p 5 ≤ 1000 from gc_in hI5 R_p rfl rfl)
        have f38 := (show 0 ≤ I5 p 6 ∧ I5 p 6 ≤ 1001 from gc_in hI5 R_p rfl rfl)
        have f39 := (show 0 ≤ I5 p 7 ∧ I5 p 7 ≤ 125 from gc_in hI5 R_p rfl rfl)
        refine gv_run 2 true hD (pc' := 65) (lv' := [(0, .inr (.inr (some p))), (1, .inl v1_7), (2, .inl v2_35)]) (st' := [.inr (.inr (some p)), .inr (.inr (some p))]) (h' := gc_h sh I5 J6 A) (C := ((True ∧ True) ∧ True)) rfl ⟨⟨trivial, trivial⟩, trivial⟩ ?_
        refine gv_get hD rfl rfl S_p ⟨by decide, B_p⟩ (gc_hJ S_p rfl) ?_
        show gv_X _ _ (68, [(0, .inr (.inr (some p))), (1, .inl v1_7), (2, .inl v2_35)], [.inr (.inl (J6 p 9)), .inr (.inr (some p))], sh, gc_h sh I5 J6 A)
        refine gv_run 5 true hD (pc' := 74) (lv' := [(0, .inr (.inr (some p))), (1, .inl v1_7), (2, .inl v2_35)]) (st' := [.inr (.inl (((J6 p 9) <<< ((Int32.ofInt 8).toInt64 &&& 63)) ||| (Int32.ofInt v2_35).toInt64)), .inr (.inr (some p))]) (h' := gc_h sh I5 J6 A) (C := (((((True ∧ True) ∧ True) ∧ True) ∧ True) ∧ True)) rfl ⟨⟨⟨⟨⟨trivial, trivial⟩, trivial⟩, trivial⟩, trivial⟩, trivial⟩ ?_
        refine gv_put hD rfl rfl S_p ⟨by decide, B_p⟩ rfl trivial ?_
        refine gc_stJ S_p rfl (fun J40 q41 p41 => ?_)
        have FJ40 := gc_frs (W := fun q j => (q = p ∧ j = 9)) FJ6 ⟨rfl, rfl⟩ p41
        show gv_X _ _ (77, [(0, .inr (.inr (some p))), (1, .inl v1_7), (2, .inl v2_35)], [], sh, gc_h sh I5 J40 A)
        refine gv_run 2 true hD (pc' := 10) (lv' := [(1, .inl (v1_7 + 1)), (0, .inr (.inr (some p))), (2, .inl v2_35)]) (st' := []) (h' := gc_h sh I5 J40 A) (C := ((True ∧ True) ∧ True)) rfl ⟨⟨trivial, trivial⟩, trivial⟩ ?_
        refine gv_pick [1, 0] rfl ?_
        exact ih10 I5 J40 (v1_7 + 1) (by omega) hI5 FI5 FJ40 (by omega)
      have L48 : ∀ (v2_42 : Int), ((0 ≤ v1_7 ∧ v1_7 ≤ 999) ∧ ((-128) ≤ v2_42 ∧ v2_42 ≤ 127) ∧ (I5 p 5 = I p 5) ∧ (I5 p 1 = I p 1) ∧ (I5 p 5 ≤ v1_7) ∧ (v1_7 < I5 p 1) ∧ (I5 p 5 < v1_7 ∨ (v1_7 = I5 p 5 ∧ 97 ≤ I5 (p + 1) (Int.toNat v1_7) ∧ I5 (p + 1) (Int.toNat v1_7) ≤ 122)) ∧ (v2_42 = I5 (p + 1) (Int.toNat v1_7)) ∧ (v2_42 < 97 ∨ 122 < v2_42)) → gv_X (gc_E9 ws0 tb 0 (yX9_takeName, cX9_takeName, 3, none) kX9_takeName) (gv_Q cX9_takeName none sh (fun r h' => (∃ (I' : gr_I) (J' : gr_J), h' = gc_h sh I' J' A ∧ gc_Inv ro I' ∧ (∀ q j : Nat, ((q = p ∧ j = 6) ∨ (q = p ∧ j = 7)) ∨ I' q j = I q j) ∧ (∀ q j : Nat, ((q = p ∧ j = 9)) ∨ J' q j = J q j) ∧ r = none ∧ (I p 5 < I' p 6) ∧ (I' p 6 ≤ I p 1) ∧ (I' p 7 = 1)))) (48, [(0, .inr (.inr (some p))), (1, .inl v1_7), (2, .inl v2_42)], [], sh, gc_h sh I5 J6 A) := by
        intro v2_42 m_42
        obtain ⟨hv1_7_42, hv2_42, e0_42, e1_42, e2_42, e3_42, e4_42, e5_42, e6_42⟩ := m_42
        have f43 := (show 0 ≤ I5 p 1 ∧ I5 p 1 ≤ 1000 from gc_in hI5 R_p rfl rfl)
        have f44 := (show 0 ≤ I5 p 5 ∧ I5 p 5 ≤ 1000 from gc_in hI5 R_p rfl rfl)
        have f45 := (show 0 ≤ I5 p 6 ∧ I5 p 6 ≤ 1001 from gc_in hI5 R_p rfl rfl)
        have f46 := (show 0 ≤ I5 p 7 ∧ I5 p 7 ≤ 125 from gc_in hI5 R_p rfl rfl)
        refine gv_run 2 true hD (pc' := 51) (lv' := [(0, .inr (.inr (some p))), (1, .inl v1_7), (2, .inl v2_42)]) (st' := [.inl 48, .inl v2_42]) (h' := gc_h sh I5 J6 A) (C := ((True ∧ True) ∧ True)) rfl ⟨⟨trivial, trivial⟩, trivial⟩ ?_
        refine gv_icmp_lt (t := 83) hD rfl rfl ⟨⟨by omega, by omega⟩, ⟨by omega, by omega⟩⟩ (fun c47 => ?_) (fun c47 => ?_)
        · show gv_X _ _ (83, [(0, .inr (.inr (some p))), (1, .inl v1_7), (2, .inl v2_42)], [], sh, gc_h sh I5 J6 A)
          refine gv_pick [0, 1] rfl ?_
          exact L83 (by omega)
        · show gv_X _ _ (54, [(0, .inr (.inr (some p))), (1, .inl v1_7), (2, .inl v2_42)], [], sh, gc_h sh I5 J6 A)
          refine gv_run 2 true hD (pc' := 57) (lv' := [(0, .inr (.inr (some p))), (1, .inl v1_7), (2, .inl v2_42)]) (st' := [.inl 57, .inl v2_42]) (h' := gc_h sh I5 J6 A) (C := ((True ∧ True) ∧ True)) rfl ⟨⟨trivial, trivial⟩, trivial⟩ ?_
          refine gv_icmp_le (t := 63) hD rfl rfl ⟨⟨by omega, by omega⟩, ⟨by omega, by omega⟩⟩ (fun c48 => ?_) (fun c48 => ?_)
          · show gv_X _ _ (63, [(0, .inr (.inr (some p))), (1, .inl v1_7), (2, .inl v2_42)], [], sh, gc_h sh I5 J6 A)
            exact L63 v2_42 (by omega)
          · show gv_X _ _ (60, [(0, .inr (.inr (some p))), (1, .inl v1_7), (2, .inl v2_42)], [], sh, gc_h sh I5 J6 A)
            refine gv_run 1 true hD (pc' := 83) (lv' := [(0, .inr (.inr (some p))), (1, .inl v1_7), (2, .inl v2_42)]) (st' := []) (h' := gc_h sh I5 J6 A) (C := (True ∧ True)) rfl ⟨trivial, trivial⟩ ?_
            refine gv_pick [0, 1] rfl ?_
            exact L83 (by omega)
      refine gv_run 2 true hD (pc' := 12) (lv' := [(0, .inr (.inr (some p))), (1, .inl v1_7)]) (st' := [.inr (.inr (some p)), .inl v1_7]) (h' := gc_h sh I5 J6 A) (C := ((True ∧ True) ∧ True)) rfl ⟨⟨trivial, trivial⟩, trivial⟩ ?_
      have f49 := (show 0 ≤ I5 p 1 ∧ I5 p 1 ≤ 1000 from gc_in hI5 R_p rfl rfl)
      refine gv_get hD rfl rfl S_p ⟨by decide, B_p⟩ (gc_hI S_p rfl) ?_
      show gv_X _ _ (15, [(0, .inr (.inr (some p))), (1, .inl v1_7)], [.inl (I5 p 1), .inl v1_7], sh, gc_h sh I5 J6 A)
      refine gv_icmp_ge (t := 83) hD rfl rfl ⟨⟨by omega, by omega⟩, ⟨by omega, by omega⟩⟩ (fun c50 => ?_) (fun c50 => ?_)
      · show gv_X _ _ (83, [(0, .inr (.inr (some p))), (1, .inl v1_7)], [], sh, gc_h sh I5 J6 A)
        exact L83 (by omega)
      · show gv_X _ _ (18, [(0, .inr (.inr (some p))), (1, .inl v1_7)], [], sh, gc_h sh I5 J6 A)
        refine gv_run 2 true hD (pc' := 20) (lv' := [(0, .inr (.inr (some p))), (1, .inl v1_7)]) (st' := [.inr (.inr (some p)), .inl v1_7]) (h' := gc_h sh I5 J6 A) (C := ((True ∧ True) ∧ True)) rfl ⟨⟨trivial, trivial⟩, trivial⟩ ?_
        have f51 := (show 0 ≤ I5 p 5 ∧ I5 p 5 ≤ 1000 from gc_in hI5 R_p rfl rfl)
        refine gv_get hD rfl rfl S_p ⟨by decide, B_p⟩ (gc_hI S_p rfl) ?_
        show gv_X _ _ (23, [(0, .inr (.inr (some p))), (1, .inl v1_7)], [.inl (I5 p 5), .inl v1_7], sh, gc_h sh I5 J6 A)
        refine gv_run 2 true hD (pc' := 26) (lv' := [(0, .inr (.inr (some p))), (1, .inl v1_7)]) (st' := [.inl ((I5 p 5) + 8), .inl v1_7]) (h' := gc_h sh I5 J6 A) (C := ((True ∧ True) ∧ True)) rfl ⟨⟨trivial, trivial⟩, trivial⟩ ?_
        refine gv_icmp_ge (t := 83) hD rfl rfl ⟨⟨by omega, by omega⟩, ⟨by omega, by omega⟩⟩ (fun c52 => ?_) (fun c52 => ?_)
        · show gv_X _ _ (83, [(0, .inr (.inr (some p))), (1, .inl v1_7)], [], sh, gc_h sh I5 J6 A)
          exact L83 (by omega)
        · show gv_X _ _ (29, [(0, .inr (.inr (some p))), (1, .inl v1_7)], [], sh, gc_h sh I5 J6 A)
          refine gv_run 1 true hD (pc' := 30) (lv' := [(0, .inr (.inr (some p))), (1, .inl v1_7)]) (st' := [.inr (.inr (some p))]) (h' := gc_h sh I5 J6 A) (C := (True ∧ True)) rfl ⟨trivial, trivial⟩ ?_
          refine gv_get hD rfl rfl S_p ⟨by decide, B_p⟩ (gc_hA S_p rfl A_p_0) ?_
          show gv_X _ _ (33, [(0, .inr (.inr (some p))), (1, .inl v1_7)], [.inr (.inr (some (p + 1)))], sh, gc_h sh I5 J6 A)
          refine gv_run 1 true hD (pc' := 34) (lv' := [(0, .inr (.inr (some p))), (1, .inl v1_7)]) (st' := [.inl v1_7, .inr (.inr (some (p + 1)))]) (h' := gc_h sh I5 J6 A) (C := (True ∧ True)) rfl ⟨trivial, trivial⟩ ?_
          have f53 := (show (-128) ≤ I5 (p + 1) (Int.toNat v1_7) ∧ I5 (p + 1) (Int.toNat v1_7) ≤ 127 from gc_in hI5 R_p_1 rfl rfl)
          refine gv_bald hD rfl S_p_1 (Or.inl rfl) ⟨by decide, B_p_1⟩ ⟨by omega, by omega⟩ (gc_iI S_p_1 rfl) ?_
          show gv_X _ _ (35, [(0, .inr (.inr (some p))), (1, .inl v1_7)], [.inl (I5 (p + 1) (Int.toNat v1_7))], sh, gc_h sh I5 J6 A)
          refine gv_run 3 true hD (pc' := 39) (lv' := [(2, .inl (I5 (p + 1) (Int.toNat v1_7))), (0, .inr (.inr (some p))), (1, .inl v1_7)]) (st' := [.inl 97, .inl (I5 (p + 1) (Int.toNat v1_7))]) (h' := gc_h sh I5 J6 A) (C := (((True ∧ True) ∧ True) ∧ True)) rfl ⟨⟨⟨trivial, trivial⟩, trivial⟩, trivial⟩ ?_
          refine gv_icmp_lt (t := 48) hD rfl rfl ⟨⟨by omega, by omega⟩, ⟨by omega, by omega⟩⟩ (fun c54 => ?_) (fun c54 => ?_)
          · show gv_X _ _ (48, [(2, .inl (I5 (p + 1) (Int.toNat v1_7))), (0, .inr (.inr (some p))), (1, .inl v1_7)], [], sh, gc_h sh I5 J6 A)
            refine gv_pick [1, 2, 0] rfl ?_
            exact L48 ((I5 (p + 1) (Int.toNat v1_7))) (by omega)
          · show gv_X _ _ (42, [(2, .inl (I5 (p + 1) (Int.toNat v1_7))), (0, .inr (.inr (some p))), (1, .inl v1_7)], [], sh, gc_h sh I5 J6 A)
            refine gv_run 2 true hD (pc' := 45) (lv' := [(2, .inl (I5 (p + 1) (Int.toNat v1_7))), (0, .inr (.inr (some p))), (1, .inl v1_7)]) (st' := [.inl 122, .inl (I5 (p + 1) (Int.toNat v1_7))]) (h' := gc_h sh I5 J6 A) (C := ((True ∧ True) ∧ True)) rfl ⟨⟨trivial, trivial⟩, trivial⟩ ?_
            refine gv_icmp_le (t := 63) hD rfl rfl ⟨⟨by omega, by omega⟩, ⟨by omega, by omega⟩⟩ (fun c55 => ?_) (fun c55 => ?_)
            · show gv_X _ _ (63, [(2, .inl (I5 (p + 1) (Int.toNat v1_7))), (0, .inr (.inr (some p))), (1, .inl v1_7)], [], sh, gc_h sh I5 J6 A)
              refine gv_pick [1, 2, 0] rfl ?_
              exact L63 ((I5 (p + 1) (Int.toNat v1_7))) (by omega)
            · show gv_X _ _ (48, [(2, .inl (I5 (p + 1) (Int.toNat v1_7))), (0, .inr (.inr (some p))), (1, .inl v1_7)], [], sh, gc_h sh I5 J6 A)
              refine gv_pick [1, 2, 0] rfl ?_
              exact L48 ((I5 (p + 1) (Int.toNat v1_7))) (by omega)
  refine gv_run 1 true hD (pc' := 1) (lv' := [(0, .inr (.inr (some p)))]) (st' := [.inr (.inr (some p))]) (h' := gc_h sh I J A) (C := (True ∧ True)) rfl ⟨trivial, trivial⟩ ?_
  have f56 := (show 0 ≤ I p 5 ∧ I p 5 ≤ 1000 from gc_in hI R_p rfl rfl)
  refine gv_get hD rfl rfl S_p ⟨by decide, B_p⟩ (gc_hI S_p rfl) ?_
  show gv_X _ _ (4, [(0, .inr (.inr (some p)))], [.inl (I p 5)], sh, gc_h sh I J A)
  refine gv_run 3 true hD (pc' := 7) (lv' := [(1, .inl (I p 5)), (0, .inr (.inr (some p)))]) (st' := [.inr (.inl (Int64.ofNat 0)), .inr (.inr (some p))]) (h' := gc_h sh I J A) (C := (((True ∧ True) ∧ True) ∧ True)) rfl ⟨⟨⟨trivial, trivial⟩, trivial⟩, trivial⟩ ?_
  refine gv_put hD rfl rfl S_p ⟨by decide, B_p⟩ rfl trivial ?_
  refine gc_stJ S_p rfl (fun J57 q58 p58 => ?_)
  have FJ57 := gc_frs (W := fun q j => (q = p ∧ j = 9)) FJ ⟨rfl, rfl⟩ p58
  show gv_X _ _ (10, [(1, .inl (I p 5)), (0, .inr (.inr (some p)))], [], sh, gc_h sh I J57 A)
  refine gv_pick [1, 0] rfl ?_
  exact L10 _ I J57 (I p 5) (Nat.lt_succ_self _) hI FI FJ57 (by omega)
set_option maxHeartbeats 4000000 in
set_option maxRecDepth 100000 in
theorem d_X9_takeNumber {ws0 : List Cond} {tb : String → gz_T} (hws : gc_Ws ws0) (htb : gc_tbs tb) (sh : gz_Sh) (ro : Nat → Nat) (I : gr_I) (J : gr_J) (A : gc_A) (hI : gc_Inv ro I) (p : Nat)  (hp : gc_isText sh ro A p)  (x0 : I p 5 < I p 1) (x1 : 48 ≤ I (p + 1) (Int.toNat (I p 5)) ∧ I (p + 1) (Int.toNat (I p 5)) ≤ 57) : ∃ r h', gz_Ev ws0 tb 1 (yX9_takeNumber, cX9_takeNumber, 2, none) [.inr (.inr (some p))] sh (gc_h sh I J A) r sh h' 0 0 ∧ (∃ (I' : gr_I) (J' : gr_J), h' = gc_h sh I' J' A ∧ gc_Inv ro I' ∧ (∀ q j : Nat, ((q = p ∧ j = 6) ∨ (q = p ∧ j = 7) ∨ (q = p ∧ j = 8)) ∨ I' q j = I q j) ∧ (∀ q j : Nat, (False) ∨ J' q j = J q j) ∧ r = none ∧ (I p 5 < I' p 6) ∧ (I' p 6 ≤ I p 1) ∧ (I' p 7 = 2)) := by
  have FI : ∀ q j : Nat, ((q = p ∧ j = 6) ∨ (q = p ∧ j = 7) ∨ (q = p ∧ j = 8)) ∨ I q j = I q j := fun _ _ => Or.inr rfl
  have FJ : ∀ q j : Nat, (False) ∨ J q j = J q j := fun _ _ => Or.inr rfl
  obtain ⟨S_p, R_p, B_p, A_p_0, S_p_1, R_p_1, B_p_1, A_p_2, S_p_2, R_p_2, B_p_2, A_p_3, S_p_3, R_p_3, B_p_3⟩ := id hp
  have hD : gv_D (gc_E9 ws0 tb 0 (yX9_takeNumber, cX9_takeNumber, 2, none) kX9_takeNumber) := gq_ok oX9_takeNumber
  refine gc_ev9 (d := 0) (l := kX9_takeNumber) (Po := fun r h' => (∃ (I' : gr_I) (J' : gr_J), h' = gc_h sh I' J' A ∧ gc_Inv ro I' ∧ (∀ q j : Nat, ((q = p ∧ j = 6) ∨ (q = p ∧ j = 7) ∨ (q = p ∧ j = 8)) ∨ I' q j = I q j) ∧ (∀ q j : Nat, (False) ∨ J' q j = J q j) ∧ r = none ∧ (I p 5 < I' p 6) ∧ (I' p 6 ≤ I p 1) ∧ (I' p 7 = 2))) htb rfl (Nat.le_of_ble_eq_true rfl) ?_
  have f1 := (show 0 ≤ I p 1 ∧ I p 1 ≤ 1000 from gc_in hI R_p rfl rfl)
  have f2 := (show 0 ≤ I p 5 ∧ I p 5 ≤ 1000 from gc_in hI R_p rfl rfl)
  have f3 := (show 0 ≤ I p 6 ∧ I p 6 ≤ 1001 from gc_in hI R_p rfl rfl)
  have f4 := (show 0 ≤ I p 7 ∧ I p 7 ≤ 125 from gc_in hI R_p rfl rfl)
  have f5 := (show 0 ≤ I p 8 ∧ I p 8 ≤ 999999 from gc_in hI R_p rfl rfl)
  have L10 : ∀ (n9 : Nat) (I6 : gr_I) (J7 : gr_J) (v1_8 : Int), (1001 - v1_8).toNat < n9 → gc_Inv ro I6 → (∀ q j : Nat, ((q = p ∧ j = 6) ∨ (q = p ∧ j = 7) ∨ (q = p ∧ j = 8)) ∨ I6 q j = I q j) → (∀ q j : Nat, (False) ∨ J7 q j = J q j) → ((0 ≤ v1_8 ∧ v1_8 ≤ 1000) ∧ (I6 p 5 = I p 5) ∧ (I6 p 1 = I p 1) ∧ (v1_8 ≤ I6 p 1) ∧ (I6 p 5 < v1_8 ∨ (v1_8 = I6 p 5 ∧ 48 ≤ I6 (p + 1) (Int.toNat v1_8) ∧ I6 (p + 1) (Int.toNat v1_8) ≤ 57)) ∧ ((v1_8 - I6 p 5 = 0 ∧ I6 p 8 ≤ 0) ∨ (v1_8 - I6 p 5 = 1 ∧ I6 p 8 ≤ 9) ∨ (v1_8 - I6 p 5 = 2 ∧ I6 p 8 ≤ 99) ∨ (v1_8 - I6 p 5 = 3 ∧ I6 p 8 ≤ 999) ∨ (v1_8 - I6 p 5 = 4 ∧ I6 p 8 ≤ 9999) ∨ (v1_8 - I6 p 5 = 5 ∧ I6 p 8 ≤ 99999) ∨ (v1_8 - I6 p 5 = 6 ∧ I6 p 8 ≤ 999999))) → gv_X (gc_E9 ws0 tb 0 (yX9_takeNumber, cX9_takeNumber, 2, none) kX9_takeNumber) (gv_Q cX9_takeNumber none sh (fun r h' => (∃ (I' : gr_I) (J' : gr_J), h' = gc_h sh I' J' A ∧ gc_Inv ro I' ∧ (∀ q j : Nat, ((q = p ∧ j = 6) ∨ (q = p ∧ j = 7) ∨ (q = p ∧ j = 8)) ∨ I' q j = I q j) ∧ (∀ q j : Nat, (False) ∨ J' q j = J q j) ∧ r = none ∧ (I p 5 < I' p 6) ∧ (I' p 6 ≤ I p 1) ∧ (I' p 7 = 2)))) (10, [(0, .inr (.inr (some p))), (1, .inl v1_8)], [], sh, gc_h sh I6 J7 A) := by
    intro n9
    induction n9 with
    | zero => intro I6 J7 v1_8 hn; omega
    | succ n9 ih10 =>
      intro I6 J7 v1_8 hn hI6 FI6 FJ7 m_8
      obtain ⟨hv1_8, e0_8, e1_8, e2_8, e3_8, e4_8⟩ := m_8
      have f9 := (show 0 ≤ I6 p 1 ∧ I6 p 1 ≤ 1000 from gc_in hI6 R_p rfl rfl)
      have f10 := (show 0 ≤ I6 p 5 ∧ I6 p 5 ≤ 1000 from gc_in hI6 R_p rfl rfl)
      have f11 := (show 0 ≤ I6 p 6 ∧ I6 p 6 ≤ 1001 from gc_in hI6 R_p rfl rfl)
      have f12 := (show 0 ≤ I6 p 7 ∧ I6 p 7 ≤ 125 from gc_in hI6 R_p rfl rfl)
      have f13 := (show 0 ≤ I6 p 8 ∧ I6 p 8 ≤ 999999 from gc_in hI6 R_p rfl rfl)
      have L78 : ((0 ≤ v1_8 ∧ v1_8 ≤ 1000) ∧ (I6 p 5 = I p 5) ∧ (I6 p 1 = I p 1) ∧ (I6 p 5 < v1_8) ∧ (v1_8 ≤ I6 p 1)) → gv_X (gc_E9 ws0 tb 0 (yX9_takeNumber, cX9_takeNumber, 2, none) kX9_takeNumber) (gv_Q cX9_takeNumber none sh (fun r h' => (∃ (I' : gr_I) (J' : gr_J), h' = gc_h sh I' J' A ∧ gc_Inv ro I' ∧ (∀ q j : Nat, ((q = p ∧ j = 6) ∨ (q = p ∧ j = 7) ∨ (q = p ∧ j = 8)) ∨ I' q j = I q j) ∧ (∀ q j : Nat, (False) ∨ J' q j = J q j) ∧ r = none ∧ (I p 5 < I' p 6) ∧ (I' p 6 ≤ I p 1) ∧ (I' p 7 = 2)))) (78, [(0, .inr (.inr (some p))), (1, .inl v1_8)], [], sh, gc_h sh I6 J7 A) := by
        intro m_14
        obtain ⟨hv1_8_14, e0_14, e1_14, e2_14, e3_14⟩ := m_14
        have f15 := (show 0 ≤ I6 p 1 ∧ I6 p 1 ≤ 1000 from gc_in hI6 R_p rfl rfl)
        have f16 := (show 0 ≤ I6 p 5 ∧ I6 p 5 ≤ 1000 from gc_in hI6 R_p rfl rfl)
        have f17 := (show 0 ≤ I6 p 6 ∧ I6 p 6 ≤ 1001 from gc_in hI6 R_p rfl rfl)
        have f18 := (show 0 ≤ I6 p 7 ∧ I6 p 7 ≤ 125 from gc_in hI6 R_p rfl rfl)
        have f19 := (show 0 ≤ I6 p 8 ∧ I6 p 8 ≤ 999999 from gc_in hI6 R_p rfl rfl)
        refine gv_run 2 true hD (pc' := 80) (lv' := [(0, .inr (.inr (some p))), (1, .inl v1_8)]) (st' := [.inl 2, .inr (.inr (some p))]) (h' := gc_h sh I6 J7 A) (C := ((True ∧ True) ∧ True)) rfl ⟨⟨trivial, trivial⟩, trivial⟩ ?_
        refine gv_put hD rfl rfl S_p ⟨by decide, B_p⟩ rfl trivial ?_
        refine gc_st (k := 7) hI6 S_p rfl R_p (lo := 0) (hi := 125) rfl rfl (by omega) (by omega) (fun I20 hI20 q21 p21 => ?_)
        have FI20 := gc_frs (W := fun q j => (q = p ∧ j = 6) ∨ (q = p ∧ j = 7) ∨ (q = p ∧ j = 8)) FI6 (Or.inr (Or.inl ⟨rfl, rfl⟩)) p21
        have t22 := p21 p 1 (fun h => absurd h.2 (by decide))
        have t23 := p21 p 5 (fun h => absurd h.2 (by decide))
        have t24 := p21 p 6 (fun h => absurd h.2 (by decide))
        have t25 := p21 p 8 (fun h => absurd h.2 (by decide))
        have t26 := p21 (p + 1) (Int.toNat (I p 5)) (fun h => absurd h.1 (by omega))
        have f27 := (show 0 ≤ I20 p 1 ∧ I20 p 1 ≤ 1000 from gc_in hI20 R_p rfl rfl)
        have f28 := (show 0 ≤ I20 p 5 ∧ I20 p 5 ≤ 1000 from gc_in hI20 R_p rfl rfl)
        have f29 := (show 0 ≤ I20 p 6 ∧ I20 p 6 ≤ 1001 from gc_in hI20 R_p rfl rfl)
        have f30 := (show 0 ≤ I20 p 7 ∧ I20 p 7 ≤ 125 from gc_in hI20 R_p rfl rfl)
        have f31 := (show 0 ≤ I20 p 8 ∧ I20 p 8 ≤ 999999 from gc_in hI20 R_p rfl rfl)
        show gv_X _ _ (83, [(0, .inr (.inr (some p))), (1, .inl v1_8)], [], sh, gc_h sh I20 J7 A)
        refine gv_run 2 true hD (pc' := 85) (lv' := [(0, .inr (.inr (some p))), (1, .inl v1_8)]) (st' := [.inl v1_8, .inr (.inr (some p))]) (h' := gc_h sh I20 J7 A) (C := ((True ∧ True) ∧ True)) rfl ⟨⟨trivial, trivial⟩, trivial⟩ ?_
        refine gv_put hD rfl rfl S_p ⟨by decide, B_p⟩ rfl trivial ?_
        refine gc_st (k := 6) hI20 S_p rfl R_p (lo := 0) (hi := 1001) rfl rfl (by omega) (by omega) (fun I32 hI32 q33 p33 => ?_)
        have FI32 := gc_frs (W := fun q j => (q = p ∧ j = 6) ∨ (q = p ∧ j = 7) ∨ (q = p ∧ j = 8)) FI20 (Or.inl ⟨rfl, rfl⟩) p33
        have t34 := p33 p 1 (fun h => absurd h.2 (by decide))
        have t35 := p33 p 5 (fun h => absurd h.2 (by decide))
        have t36 := p33 p 7 (fun h => absurd h.2 (by decide))
        have t37 := p33 p 8 (fun h => absurd h.2 (by decide))
        have t38 := p33 (p + 1) (Int.toNat (I p 5)) (fun h => absurd h.1 (by omega))
        have f39 := (show 0 ≤ I32 p 1 ∧ I32 p 1 ≤ 1000 from gc_in hI32 R_p rfl rfl)
        have f40 := (show 0 ≤ I32 p 5 ∧ I32 p 5 ≤ 1000 from gc_in hI32 R_p rfl rfl)
        have f41 := (show 0 ≤ I32 p 6 ∧ I32 p 6 ≤ 1001 from gc_in hI32 R_p rfl rfl)
        have f42 := (show 0 ≤ I32 p 7 ∧ I32 p 7 ≤ 125 from gc_in hI32 R_p rfl rfl)
        have f43 := (show 0 ≤ I32 p 8 ∧ I32 p 8 ≤ 999999 from gc_in hI32 R_p rfl rfl)
        show gv_X _ _ (88, [(0, .inr (.inr (some p))), (1, .inl v1_8)], [], sh, gc_h sh I32 J7 A)
        exact gv_vret hD rfl ⟨I32, J7, rfl, hI32, FI32, FJ7, ⟨rfl, by omega⟩⟩
      refine gv_run 2 true hD (pc' := 12) (lv' := [(0, .inr (.inr (some p))), (1, .inl v1_8)]) (st' := [.inr (.inr (some p)), .inl v1_8]) (h' := gc_h sh I6 J7 A) (C := ((True ∧ True) ∧ True)) rfl ⟨⟨trivial, trivial⟩, trivial⟩ ?_
      have f44 := (show 0 ≤ I6 p 1 ∧ I6 p 1 ≤ 1000 from gc_in hI6 R_p rfl rfl)
      refine gv_get hD rfl rfl S_p ⟨by decide, B_p⟩ (gc_hI S_p rfl) ?_
      show gv_X _ _ (15, [(0, .inr (.inr (some p))), (1, .inl v1_8)], [.inl (I6 p 1), .inl v1_8], sh, gc_h sh I6 J7 A)
      refine gv_icmp_ge (t := 78) hD rfl rfl ⟨⟨by omega, by omega⟩, ⟨by omega, by omega⟩⟩ (fun c45 => ?_) (fun c45 => ?_)
      · show gv_X _ _ (78, [(0, .inr (.inr (some p))), (1, .inl v1_8)], [], sh, gc_h sh I6 J7 A)
        exact L78 (by omega)
      · show gv_X _ _ (18, [(0, .inr (.inr (some p))), (1, .inl v1_8)], [], sh, gc_h sh I6 J7 A)
        refine gv_run 2 true hD (pc' := 20) (lv' := [(0, .inr (.inr (some p))), (1, .inl v1_8)]) (st' := [.inr (.inr (some p)), .inl v1_8]) (h' := gc_h sh I6 J7 A) (C := ((True ∧ True) ∧ True)) rfl ⟨⟨trivial, trivial⟩, trivial⟩ ?_
        have f46 := (show 0 ≤ I6 p 5 ∧ I6 p 5 ≤ 1000 from gc_in hI6 R_p rfl rfl)
        refine gv_get hD rfl rfl S_p ⟨by decide, B_p⟩ (gc_hI S_p rfl) ?_
        show gv_X _ _ (23, [(0, .inr (.inr (some p))), (1, .inl v1_8)], [.inl (I6 p 5), .inl v1_8], sh, gc_h sh I6 J7 A)
        refine gv_run 2 true hD (pc' := 26) (lv' := [(0, .inr (.inr (some p))), (1, .inl v1_8)]) (st' := [.inl ((I6 p 5) + 6), .inl v1_8]) (h' := gc_h sh I6 J7 A) (C := ((True ∧ True) ∧ True)) rfl ⟨⟨trivial, trivial⟩, trivial⟩ ?_
        refine gv_icmp_ge (t := 78) hD rfl rfl ⟨⟨by omega, by omega⟩, ⟨by omega, by omega⟩⟩ (fun c47 => ?_) (fun c47 => ?_)
        · show gv_X _ _ (78, [(0, .inr (.inr (some p))), (1, .inl v1_8)], [], sh, gc_h sh I6 J7 A)
          exact L78 (by omega)
        · show gv_X _ _ (29, [(0, .inr (.inr (some p))), (1, .inl v1_8)], [], sh, gc_h sh I6 J7 A)
          refine gv_run 1 true hD (pc' := 30) (lv' := [(0, .inr (.inr (some p))), (1, .inl v1_8)]) (st' := [.inr (.inr (some p))]) (h' := gc_h sh I6 J7 A) (C := (True ∧ True)) rfl ⟨trivial, trivial⟩ ?_
          refine gv_get hD rfl rfl S_p ⟨by decide, B_p⟩ (gc_hA S_p rfl A_p_0) ?_
          show gv_X _ _ (33, [(0, .inr (.inr (some p))), (1, .inl v1_8)], [.inr (.inr (some (p + 1)))], sh, gc_h sh I6 J7 A)
          refine gv_run 1 true hD (pc' := 34) (lv' := [(0, .inr (.inr (some p))), (1, .inl v1_8)]) (st' := [.inl v1_8, .inr (.inr (some (p + 1)))]) (h' := gc_h sh I6 J7 A) (C := (True ∧ True)) rfl ⟨trivial, trivial⟩ ?_
          have f48 := (show (-128) ≤ I6 (p + 1) (Int.toNat v1_8) ∧ I6 (p + 1) (Int.toNat v1_8) ≤ 127 from gc_in hI6 R_p_1 rfl rfl)
          refine gv_bald hD rfl S_p_1 (Or.inl rfl) ⟨by decide, B_p_1⟩ ⟨by omega, by omega⟩ (gc_iI S_p_1 rfl) ?_
          show gv_X _ _ (35, [(0, .inr (.inr (some p))), (1, .inl v1_8)], [.inl (I6 (p + 1) (Int.toNat v1_8))], sh, gc_h sh I6 J7 A)
          refine gv_run 1 true hD (pc' := 37) (lv' := [(0, .inr (.inr (some p))), (1, .inl v1_8)]) (st' := [.inl 48, .inl (I6 (p + 1) (Int.toNat v1_8))]) (h' := gc_h sh I6 J7 A) (C := (True ∧ True)) rfl ⟨trivial, trivial⟩ ?_
          refine gv_icmp_lt (t := 78) hD rfl rfl ⟨⟨by omega, by omega⟩, ⟨by omega, by omega⟩⟩ (fun c49 => ?_) (fun c49 => ?_)
          · show gv_X _ _ (78, [(0, .inr (.inr (some p))), (1, .inl v1_8)], [], sh, gc_h sh I6 J7 A)
            exact L78 (by omega)
          · show gv_X _ _ (40, [(0, .inr (.inr (some p))), (1, .inl v1_8)], [], sh, gc_h sh I6 J7 A)
            refine gv_run 1 true hD (pc' := 41) (lv' := [(0, .inr (.inr (some p))), (1, .inl v1_8)]) (st' := [.inr (.inr (some p))]) (h' := gc_h sh I6 J7 A) (C := (True ∧ True)) rfl ⟨trivial, trivial⟩ ?_
            refine gv_get hD rfl rfl S_p ⟨by decide, B_p⟩ (gc_hA S_p rfl A_p_0) ?_
            show gv_X _ _ (44, [(0, .inr (.inr (some p))), (1, .inl v1_8)], [.inr (.inr (some (p + 1)))], sh, gc_h sh I6 J7 A)
            refine gv_run 1 true hD (pc' := 45) (lv' := [(0, .inr (.inr (some p))), (1, .inl v1_8)]) (st' := [.inl v1_8, .inr (.inr (some (p + 1)))]) (h' := gc_h sh I6 J7 A) (C := (True ∧ True)) rfl ⟨trivial, trivial⟩ ?_
            have f50 := (show (-128) ≤ I6 (p + 1) (Int.toNat v1_8) ∧ I6 (p + 1) (Int.toNat v1_8) ≤ 127 from gc_in hI6 R_p_1 rfl rfl)
            refine gv_bald hD rfl S_p_1 (Or.inl rfl) ⟨by decide, B_p_1⟩ ⟨by omega, by omega⟩ (gc_iI S_p_1 rfl) ?_
            show gv_X _ _ (46, [(0, .inr (.inr (some p))), (1, .inl v1_8)], [.inl (I6 (p + 1) (Int.toNat v1_8))], sh, gc_h sh I6 J7 A)
            refine gv_run 1 true hD (pc' := 48) (lv' := [(0, .inr (.inr (some p))), (1, .inl v1_8)]) (st' := [.inl 57, .inl (I6 (p + 1) (Int.toNat v1_8))]) (h' := gc_h sh I6 J7 A) (C := (True ∧ True)) rfl ⟨trivial, trivial⟩ ?_
            refine gv_icmp_gt (t := 78) hD rfl rfl ⟨⟨by omega, by omega⟩, ⟨by omega, by omega⟩⟩ (fun c51 => ?_) (fun c51 => ?_)
            · show gv_X _ _ (78, [(0, .inr (.inr (some p))), (1, .inl v1_8)], [], sh, gc_h sh I6 J7 A)
              exact L78 (by omega)
            · show gv_X _ _ (51, [(0, .inr (.inr (some p))), (1, .inl v1_8)], [], sh, gc_h sh I6 J7 A)
              refine gv_run 2 true hD (pc' := 53) (lv' := [(0, .inr (.inr (some p))), (1, .inl v1_8)]) (st' := [.inr (.inr (some p)), .inr (.inr (some p))]) (h' := gc_h sh I6 J7 A) (C := ((True ∧ True) ∧ True)) rfl ⟨⟨trivial, trivial⟩, trivial⟩ ?_
              have f52 := (show 0 ≤ I6 p 8 ∧ I6 p 8 ≤ 999999 from gc_in hI6 R_p rfl rfl)
              refine gv_get hD rfl rfl S_p ⟨by decide, B_p⟩ (gc_hI S_p rfl) ?_
              show gv_X _ _ (56, [(0, .inr (.inr (some p))), (1, .inl v1_8)], [.inl (I6 p 8), .inr (.inr (some p))], sh, gc_h sh I6 J7 A)
              refine gv_run 3 true hD (pc' := 60) (lv' := [(0, .inr (.inr (some p))), (1, .inl v1_8)]) (st' := [.inr (.inr (some p)), .inl ((I6 p 8) * 10), .inr (.inr (some p))]) (h' := gc_h sh I6 J7 A) (C := (((True ∧ True) ∧ True) ∧ True)) rfl ⟨⟨⟨trivial, trivial⟩, trivial⟩, trivial⟩ ?_
              refine gv_get hD rfl rfl S_p ⟨by decide, B_p⟩ (gc_hA S_p rfl A_p_0) ?_
              show gv_X _ _ (63, [(0, .inr (.inr (some p))), (1, .inl v1_8)], [.inr (.inr (some (p + 1))), .inl ((I6 p 8) * 10), .inr (.inr (some p))], sh, gc_h sh I6 J7 A)
              refine gv_run 1 true hD (pc' := 64) (lv' := [(0, .inr (.inr (some p))), (1, .inl v1_8)]) (st' := [.inl v1_8, .inr (.inr (some (p + 1))), .inl ((I6 p 8) * 10), .inr (.inr (some p))]) (h' := gc_h sh I6 J7 A) (C := (True ∧ True)) rfl ⟨trivial, trivial⟩ ?_
              have f53 := (show (-128) ≤ I6 (p + 1) (Int.toNat v1_8) ∧ I6 (p + 1) (Int.toNat v1_8) ≤ 127 from gc_in hI6 R_p_1 rfl rfl)
              refine gv_bald hD rfl S_p_1 (Or.inl rfl) ⟨by decide, B_p_1⟩ ⟨by omega, by omega⟩ (gc_iI S_p_1 rfl) ?_
              show gv_X _ _ (65, [(0, .inr (.inr (some p))), (1, .inl v1_8)], [.inl (I6 (p + 1) (Int.toNat v1_8)), .inl ((I6 p 8) * 10), .inr (.inr (some p))], sh, gc_h sh I6 J7 A)
              refine gv_run 3 true hD (pc' := 69) (lv' := [(0, .inr (.inr (some p))), (1, .inl v1_8)]) (st' := [.inl ((((I6 p 8) * 10) + (I6 (p + 1) (Int.toNat v1_8))) - 48), .inr (.inr (some p))]) (h' := gc_h sh I6 J7 A) (C := (((True ∧ True) ∧ True) ∧ True)) rfl ⟨⟨⟨trivial, trivial⟩, trivial⟩, trivial⟩ ?_
              refine gv_put hD rfl rfl S_p ⟨by decide, B_p⟩ rfl trivial ?_
              refine gc_st (k := 8) hI6 S_p rfl R_p (lo := 0) (hi := 999999) rfl rfl (by omega) (by omega) (fun I54 hI54 q55 p55 => ?_)
              have FI54 := gc_frs (W := fun q j => (q = p ∧ j = 6) ∨ (q = p ∧ j = 7) ∨ (q = p ∧ j = 8)) FI6 (Or.inr (Or.inr ⟨rfl, rfl⟩)) p55
              have t56 := p55 p 1 (fun h => absurd h.2 (by decide))
              have t57 := p55 p 5 (fun h => absurd h.2 (by decide))
              have t58 := p55 p 6 (fun h => absurd h.2 (by decide))
              have t59 := p55 p 7 (fun h => absurd h.2 (by decide))
              have t60 := p55 (p + 1) (Int.toNat (I p 5)) (fun h => absurd h.1 (by omega))
              have f61 := (show 0 ≤ I54 p 1 ∧ I54 p 1 ≤ 1000 from gc_in hI54 R_p rfl rfl)
              have f62 := (show 0 ≤ I54 p 5 ∧ I54 p 5 ≤ 1000 from gc_in hI54 R_p rfl rfl)
              have f63 := (show 0 ≤ I54 p 6 ∧ I54 p 6 ≤ 1001 from gc_in hI54 R_p rfl rfl)
              have f64 := (show 0 ≤ I54 p 7 ∧ I54 p 7 ≤ 125 from gc_in hI54 R_p rfl rfl)
              have f65 := (show 0 ≤ I54 p 8 ∧ I54 p 8 ≤ 999999 from gc_in hI54 R_p rfl rfl)
              show gv_X _ _ (72, [(0, .inr (.inr (some p))), (1, .inl v1_8)], [], sh, gc_h sh I54 J7 A)
              refine gv_run 2 true hD (pc' := 10) (lv' := [(1, .inl (v1_8 + 1)), (0, .inr (.inr (some p)))]) (st' := []) (h' := gc_h sh I54 J7 A) (C := ((True ∧ True) ∧ True)) rfl ⟨⟨trivial, trivial⟩, trivial⟩ ?_
              refine gv_pick [1, 0] rfl ?_
              exact ih10 I54 J7 (v1_8 + 1) (by omega) hI54 FI54 FJ7 (by omega)
  refine gv_run 1 true hD (pc' := 1) (lv' := [(0, .inr (.inr (some p)))]) (st' := [.inr (.inr (some p))]) (h' := gc_h sh I J A) (C := (True ∧ True)) rfl ⟨trivial, trivial⟩ ?_
  have f66 := (show 0 ≤ I p 5 ∧ I p 5 ≤ 1000 from gc_in hI R_p rfl rfl)
  refine gv_get hD rfl rfl S_p ⟨by decide, B_p⟩ (gc_hI S_p rfl) ?_
  show gv_X _ _ (4, [(0, .inr (.inr (some p)))], [.inl (I p 5)], sh, gc_h sh I J A)
  refine gv_run 3 true hD (pc' := 7) (lv' := [(1, .inl (I p 5)), (0, .inr (.inr (some p)))]) (st' := [.inl 0, .inr (.inr (some p))]) (h' := gc_h sh I J A) (C := (((True ∧ True) ∧ True) ∧ True)) rfl ⟨⟨⟨trivial, trivial⟩, trivial⟩, trivial⟩ ?_
  refine gv_put hD rfl rfl S_p ⟨by decide, B_p⟩ rfl trivial ?_
  refine gc_st (k := 8) hI S_p rfl R_p (lo := 0) (hi := 999999) rfl rfl (by omega) (by omega) (fun I67 hI67 q68 p68 => ?_)
  have FI67 := gc_frs (W := fun q j => (q = p ∧ j = 6) ∨ (q = p ∧ j = 7) ∨ (q = p ∧ j = 8)) FI (Or.inr (Or.inr ⟨rfl, rfl⟩)) p68
  have t69 := p68 p 1 (fun h => absurd h.2 (by decide))
  have t70 := p68 p 5 (fun h => absurd h.2 (by decide))
  have t71 := p68 p 6 (fun h => absurd h.2 (by decide))
  have t72 := p68 p 7 (fun h => absurd h.2 (by decide))
  have t73 := p68 (p + 1) (Int.toNat (I p 5)) (fun h => absurd h.1 (by omega))
  have f74 := (show 0 ≤ I67 p 1 ∧ I67 p 1 ≤ 1000 from gc_in hI67 R_p rfl rfl)
  have f75 := (show 0 ≤ I67 p 5 ∧ I67 p 5 ≤ 1000 from gc_in hI67 R_p rfl rfl)
  have f76 := (show 0 ≤ I67 p 6 ∧ I67 p 6 ≤ 1001 from gc_in hI67 R_p rfl rfl)
  have f77 := (show 0 ≤ I67 p 7 ∧ I67 p 7 ≤ 125 from gc_in hI67 R_p rfl rfl)
  have f78 := (show 0 ≤ I67 p 8 ∧ I67 p 8 ≤ 999999 from gc_in hI67 R_p rfl rfl)
  show gv_X _ _ (10, [(1, .inl (I p 5)), (0, .inr (.inr (some p)))], [], sh, gc_h sh I67 J A)
  refine gv_pick [1, 0] rfl ?_
  exact L10 _ I67 J (I p 5) (Nat.lt_succ_self _) hI67 FI67 FJ (by omega)
set_option maxHeartbeats 4000000 in
set_option maxRecDepth 100000 in
theorem d_X9_takeLetters {ws0 : List Cond} {tb : String → gz_T} (hws : gc_Ws ws0) (htb : gc_tbs tb) (sh : gz_Sh) (ro : Nat → Nat) (I : gr_I) (J : gr_J) (A : gc_A) (hI : gc_Inv ro I) (p : Nat)  (hp : gc_isText sh ro A p)  (x0 : I p 5 < I p 1) : ∃ r h', gz_Ev ws0 tb 1 (yX9_takeLetters, cX9_takeLetters, 3, none) [.inr (.inr (some p))] sh (gc_h sh I J A) r sh h' 0 0 ∧ (∃ (I' : gr_I) (J' : gr_J), h' = gc_h sh I' J' A ∧ gc_Inv ro I' ∧ (∀ q j : Nat, ((q = p ∧ j = 6) ∨ (q = p ∧ j = 7)) ∨ I' q j = I q j) ∧ (∀ q j : Nat, (False) ∨ J' q j = J q j) ∧ r = none ∧ ((I' p 7 = 3 ∧ I' p 6 ≤ I p 1 ∧ 2 ≤ I' p 6 - I p 5 ∧ I' p 6 - I p 5 ≤ 14) ∨ I' p 7 = 5) ∧ (I p 5 < I' p 6) ∧ (gc_lt p I' (I' p 5) (I' p 6 - 1))) := by
  have FI : ∀ q j : Nat, ((q = p ∧ j = 6) ∨ (q = p ∧ j = 7)) ∨ I q j = I q j := fun _ _ => Or.inr rfl
  have FJ : ∀ q j : Nat, (False) ∨ J q j = J q j := fun _ _ => Or.inr rfl
  obtain ⟨S_p, R_p, B_p, A_p_0, S_p_1, R_p_1, B_p_1, A_p_2, S_p_2, R_p_2, B_p_2, A_p_3, S_p_3, R_p_3, B_p_3⟩ := id hp
  have hD : gv_D (gc_E9 ws0 tb 0 (yX9_takeLetters, cX9_takeLetters, 3, none) kX9_takeLetters) := gq_ok oX9_takeLetters
  refine gc_ev9 (d := 0) (l := kX9_takeLetters) (Po := fun r h' => (∃ (I' : gr_I) (J' : gr_J), h' = gc_h sh I' J' A ∧ gc_Inv ro I' ∧ (∀ q j : Nat, ((q = p ∧ j = 6) ∨ (q = p ∧ j = 7)) ∨ I' q j = I q j) ∧ (∀ q j : Nat, (False) ∨ J' q j = J q j) ∧ r = none ∧ ((I' p 7 = 3 ∧ I' p 6 ≤ I p 1 ∧ 2 ≤ I' p 6 - I p 5 ∧ I' p 6 - I p 5 ≤ 14) ∨ I' p 7 = 5) ∧ (I p 5 < I' p 6) ∧ (gc_lt p I' (I' p 5) (I' p 6 - 1)))) htb rfl (Nat.le_of_ble_eq_true rfl) ?_
  have f1 := (show 0 ≤ I p 1 ∧ I p 1 ≤ 1000 from gc_in hI R_p rfl rfl)
  have f2 := (show 0 ≤ I p 5 ∧ I p 5 ≤ 1000 from gc_in hI R_p rfl rfl)
  have f3 := (show 0 ≤ I p 6 ∧ I p 6 ≤ 1001 from gc_in hI R_p rfl rfl)
  have f4 := (show 0 ≤ I p 7 ∧ I p 7 ≤ 125 from gc_in hI R_p rfl rfl)
  have L7 : ∀ (n9 : Nat) (v1_5 : Int), (1001 - v1_5).toNat < n9 → ((1 ≤ v1_5 ∧ v1_5 ≤ 1000) ∧ (I p 5 < v1_5) ∧ (v1_5 ≤ I p 1) ∧ (v1_5 - I p 5 ≤ 13)) → (gc_lt p I (I p 5) v1_5) → gv_X (gc_E9 ws0 tb 0 (yX9_takeLetters, cX9_takeLetters, 3, none) kX9_takeLetters) (gv_Q cX9_takeLetters none sh (fun r h' => (∃ (I' : gr_I) (J' : gr_J), h' = gc_h sh I' J' A ∧ gc_Inv ro I' ∧ (∀ q j : Nat, ((q = p ∧ j = 6) ∨ (q = p ∧ j = 7)) ∨ I' q j = I q j) ∧ (∀ q j : Nat, (False) ∨ J' q j = J q j) ∧ r = none ∧ ((I' p 7 = 3 ∧ I' p 6 ≤ I p 1 ∧ 2 ≤ I' p 6 - I p 5 ∧ I' p 6 - I p 5 ≤ 14) ∨ I' p 7 = 5) ∧ (I p 5 < I' p 6) ∧ (gc_lt p I' (I' p 5) (I' p 6 - 1))))) (7, [(0, .inr (.inr (some p))), (1, .inl v1_5)], [], sh, gc_h sh I J A) := by
    intro n9
    induction n9 with
    | zero => intro v1_5 hn; omega
    | succ n9 ih7 =>
      intro v1_5 hn m_5 e3_5
      obtain ⟨hv1_5, e0_5, e1_5, e2_5⟩ := m_5
      have f6 := (show 0 ≤ I p 1 ∧ I p 1 ≤ 1000 from gc_in hI R_p rfl rfl)
      have f7 := (show 0 ≤ I p 5 ∧ I p 5 ≤ 1000 from gc_in hI R_p rfl rfl)
      have f8 := (show 0 ≤ I p 6 ∧ I p 6 ≤ 1001 from gc_in hI R_p rfl rfl)
      have f9 := (show 0 ≤ I p 7 ∧ I p 7 ≤ 125 from gc_in hI R_p rfl rfl)
      have L54 : ((1 ≤ v1_5 ∧ v1_5 ≤ 1000) ∧ (I p 5 < v1_5) ∧ (v1_5 ≤ I p 1) ∧ (v1_5 - I p 5 ≤ 13)) → (gc_lt p I (I p 5) v1_5) → gv_X (gc_E9 ws0 tb 0 (yX9_takeLetters, cX9_takeLetters, 3, none) kX9_takeLetters) (gv_Q cX9_takeLetters none sh (fun r h' => (∃ (I' : gr_I) (J' : gr_J), h' = gc_h sh I' J' A ∧ gc_Inv ro I' ∧ (∀ q j : Nat, ((q = p ∧ j = 6) ∨ (q = p ∧ j = 7)) ∨ I' q j = I q j) ∧ (∀ q j : Nat, (False) ∨ J' q j = J q j) ∧ r = none ∧ ((I' p 7 = 3 ∧ I' p 6 ≤ I p 1 ∧ 2 ≤ I' p 6 - I p 5 ∧ I' p 6 - I p 5 ≤ 14) ∨ I' p 7 = 5) ∧ (I p 5 < I' p 6) ∧ (gc_lt p I' (I' p 5) (I' p 6 - 1))))) (54, [(0, .inr (.inr (some p))), (1, .inl v1_5)], [], sh, gc_h sh I J A) := by
        intro m_10 e3_10
        obtain ⟨hv1_5_10, e0_10, e1_10, e2_10⟩ := m_10
        have f11 := (show 0 ≤ I p 1 ∧ I p 1 ≤ 1000 from gc_in hI R_p rfl rfl)
        have f12 := (show 0 ≤ I p 5 ∧ I p 5 ≤ 1000 from gc_in hI R_p rfl rfl)
        have f13 := (show 0 ≤ I p 6 ∧ I p 6 ≤ 1001 from gc_in hI R_p rfl rfl)
        have f14 := (show 0 ≤ I p 7 ∧ I p 7 ≤ 125 from gc_in hI R_p rfl rfl)
        have L78 : ∀ (s0_15 : Int), ((1 ≤ v1_5 ∧ v1_5 ≤ 1000) ∧ (0 ≤ s0_15 ∧ s0_15 ≤ 1) ∧ (I p 5 < v1_5) ∧ (v1_5 ≤ I p 1) ∧ (v1_5 - I p 5 ≤ 13) ∧ (s0_15 = 0 ∨ v1_5 < I p 1)) → (gc_lt p I (I p 5) v1_5) → gv_X (gc_E9 ws0 tb 0 (yX9_takeLetters, cX9_takeLetters, 3, none) kX9_takeLetters) (gv_Q cX9_takeLetters none sh (fun r h' => (∃ (I' : gr_I) (J' : gr_J), h' = gc_h sh I' J' A ∧ gc_Inv ro I' ∧ (∀ q j : Nat, ((q = p ∧ j = 6) ∨ (q = p ∧ j = 7)) ∨ I' q j = I q j) ∧ (∀ q j : Nat, (False) ∨ J' q j = J q j) ∧ r = none ∧ ((I' p 7 = 3 ∧ I' p 6 ≤ I p 1 ∧ 2 ≤ I' p 6 - I p 5 ∧ I' p 6 - I p 5 ≤ 14) ∨ I' p 7 = 5) ∧ (I p 5 < I' p 6) ∧ (gc_lt p I' (I' p 5) (I' p 6 - 1))))) (78, [(0, .inr (.inr (some p))), (1, .inl v1_5)], [.inl s0_15], sh, gc_h sh I J A) := by
          intro s0_15 m_15 e4_15
          obtain ⟨hv1_5_15, hs0_15, e0_15, e1_15, e2_15, e3_15⟩ := m_15
          have f16 := (show 0 ≤ I p 1 ∧ I p 1 ≤ 1000 from gc_in hI R_p rfl rfl)
          have f17 := (show 0 ≤ I p 5 ∧ I p 5 ≤ 1000 from gc_in hI R_p rfl rfl)
          have f18 := (show 0 ≤ I p 6 ∧ I p 6 ≤ 1001 from gc_in hI R_p rfl rfl)
          have f19 := (show 0 ≤ I p 7 ∧ I p 7 ≤ 125 from gc_in hI R_p rfl rfl)
          have L89 : ∀ (s1_20 : Int), ((1 ≤ v1_5 ∧ v1_5 ≤ 1000) ∧ (3 ≤ s1_20 ∧ s1_20 ≤ 5) ∧ (I p 5 < v1_5) ∧ (v1_5 ≤ I p 1) ∧ (v1_5 - I p 5 ≤ 13) ∧ (s1_20 = 5 ∨ (s1_20 = 3 ∧ v1_5 < I p 1))) → (gc_lt p I (I p 5) v1_5) → gv_X (gc_E9 ws0 tb 0 (yX9_takeLetters, cX9_takeLetters, 3, none) kX9_takeLetters) (gv_Q cX9_takeLetters none sh (fun r h' => (∃ (I' : gr_I) (J' : gr_J), h' = gc_h sh I' J' A ∧ gc_Inv ro I' ∧ (∀ q j : Nat, ((q = p ∧ j = 6) ∨ (q = p ∧ j = 7)) ∨ I' q j = I q j) ∧ (∀ q j : Nat, (False) ∨ J' q j = J q j) ∧ r = none ∧ ((I' p 7 = 3 ∧ I' p 6 ≤ I p 1 ∧ 2 ≤ I' p 6 - I p 5 ∧ I' p 6 - I p 5 ≤ 14) ∨ I' p 7 = 5) ∧ (I p 5 < I' p 6) ∧ (gc_lt p I' (I' p 5) (I' p 6 - 1))))) (89, [(0, .inr (.inr (some p))), (1, .inl v1_5)], [.inl s1_20, .inr (.inr (some p))], sh, gc_h sh I J A) := by
            intro s1_20 m_20 e4_20
            obtain ⟨hv1_5_20, hs1_20, e0_20, e1_20, e2_20, e3_20⟩ := m_20
            have f21 := (show 0 ≤ I p 1 ∧ I p 1 ≤ 1000 from gc_in hI R_p rfl rfl)
            have f22 := (show 0 ≤ I p 5 ∧ I p 5 ≤ 1000 from gc_in hI R_p rfl rfl)
            have f23 := (show 0 ≤ I p 6 ∧ I p 6 ≤ 1001 from gc_in hI R_p rfl rfl)
            have f24 := (show 0 ≤ I p 7 ∧ I p 7 ≤ 125 from gc_in hI R_p rfl rfl)
            refine gv_put hD rfl rfl S_p ⟨by decide, B_p⟩ rfl trivial ?_
            refine gc_st (k := 7) hI S_p rfl R_p (lo := 0) (hi := 125) rfl rfl (by omega) (by omega) (fun I25 hI25 q26 p26 => ?_)
            have FI25 := gc_frs (W := fun q j => (q = p ∧ j = 6) ∨ (q = p ∧ j = 7)) FI (Or.inr ⟨rfl, rfl⟩) p26
            have t27 := p26 p 1 (fun h => absurd h.2 (by decide))
            have t28 := p26 p 5 (fun h => absurd h.2 (by decide))
            have t29 := p26 p 6 (fun h => absurd h.2 (by decide))
            have f30 := (show 0 ≤ I25 p 1 ∧ I25 p 1 ≤ 1000 from gc_in hI25 R_p rfl rfl)
            have f31 := (show 0 ≤ I25 p 5 ∧ I25 p 5 ≤ 1000 from gc_in hI25 R_p rfl rfl)
            have f32 := (show 0 ≤ I25 p 6 ∧ I25 p 6 ≤ 1001 from gc_in hI25 R_p rfl rfl)
            have f33 := (show 0 ≤ I25 p 7 ∧ I25 p 7 ≤ 125 from gc_in hI25 R_p rfl rfl)
            show gv_X _ _ (92, [(0, .inr (.inr (some p))), (1, .inl v1_5)], [], sh, gc_h sh I25 J A)
            refine gv_run 4 true hD (pc' := 96) (lv' := [(0, .inr (.inr (some p))), (1, .inl v1_5)]) (st' := [.inl (v1_5 + 1), .inr (.inr (some p))]) (h' := gc_h sh I25 J A) (C := ((((True ∧ True) ∧ True) ∧ True) ∧ True)) rfl ⟨⟨⟨⟨trivial, trivial⟩, trivial⟩, trivial⟩, trivial⟩ ?_
            refine gv_put hD rfl rfl S_p ⟨by decide, B_p⟩ rfl trivial ?_
            refine gc_st (k := 6) hI25 S_p rfl R_p (lo := 0) (hi := 1001) rfl rfl (by omega) (by omega) (fun I34 hI34 q35 p35 => ?_)
            have FI34 := gc_frs (W := fun q j => (q = p ∧ j = 6) ∨ (q = p ∧ j = 7)) FI25 (Or.inl ⟨rfl, rfl⟩) p35
            have t36 := p35 p 1 (fun h => absurd h.2 (by decide))
            have t37 := p35 p 5 (fun h => absurd h.2 (by decide))
            have t38 := p35 p 7 (fun h => absurd h.2 (by decide))
            have f39 := (show 0 ≤ I34 p 1 ∧ I34 p 1 ≤ 1000 from gc_in hI34 R_p rfl rfl)
            have f40 := (show 0 ≤ I34 p 5 ∧ I34 p 5 ≤ 1000 from gc_in hI34 R_p rfl rfl)
            have f41 := (show 0 ≤ I34 p 6 ∧ I34 p 6 ≤ 1001 from gc_in hI34 R_p rfl rfl)
            have f42 := (show 0 ≤ I34 p 7 ∧ I34 p 7 ≤ 125 from gc_in hI34 R_p rfl rfl)
            show gv_X _ _ (99, [(0, .inr (.inr (some p))), (1, .inl v1_5)], [], sh, gc_h sh I34 J A)
            exact gv_vret hD rfl ⟨I34, J, rfl, hI34, FI34, FJ, ⟨rfl, by omega, by omega, gc_lt_fr e4_20 (fun k => by rw [p35 (p + 1) k (fun h => absurd h.1 (by omega)), p26 (p + 1) k (fun h => absurd h.1 (by omega))]) (by omega) (by omega)⟩⟩
          refine gv_run 3 true hD (pc' := 81) (lv' := [(2, .inl s0_15), (0, .inr (.inr (some p))), (1, .inl v1_5)]) (st' := [.inl s0_15, .inr (.inr (some p))]) (h' := gc_h sh I J A) (C := (((True ∧ True) ∧ True) ∧ True)) rfl ⟨⟨⟨trivial, trivial⟩, trivial⟩, trivial⟩ ?_
          refine gv_if_eq (t := 88) hD rfl rfl ⟨by omega, by omega⟩ (fun c43 => ?_) (fun c43 => ?_)
          · show gv_X _ _ (88, [(2, .inl s0_15), (0, .inr (.inr (some p))), (1, .inl v1_5)], [.inr (.inr (some p))], sh, gc_h sh I J A)
            refine gv_run 1 true hD (pc' := 89) (lv' := [(2, .inl s0_15), (0, .inr (.inr (some p))), (1, .inl v1_5)]) (st' := [.inl 5, .inr (.inr (some p))]) (h' := gc_h sh I J A) (C := (True ∧ True)) rfl ⟨trivial, trivial⟩ ?_
            refine gv_pick [1, 2] rfl ?_
            exact L89 5 (by omega) e4_15
          · show gv_X _ _ (84, [(2, .inl s0_15), (0, .inr (.inr (some p))), (1, .inl v1_5)], [.inr (.inr (some p))], sh, gc_h sh I J A)
            refine gv_run 2 true hD (pc' := 89) (lv' := [(2, .inl s0_15), (0, .inr (.inr (some p))), (1, .inl v1_5)]) (st' := [.inl 3, .inr (.inr (some p))]) (h' := gc_h sh I J A) (C := ((True ∧ True) ∧ True)) rfl ⟨⟨trivial, trivial⟩, trivial⟩ ?_
            refine gv_pick [1, 2] rfl ?_
            exact L89 3 (by omega) e4_15
        have L77 : ((1 ≤ v1_5 ∧ v1_5 ≤ 1000) ∧ (I p 5 < v1_5) ∧ (v1_5 ≤ I p 1) ∧ (v1_5 - I p 5 ≤ 13)) → (gc_lt p I (I p 5) v1_5) → gv_X (gc_E9 ws0 tb 0 (yX9_takeLetters, cX9_takeLetters, 3, none) kX9_takeLetters) (gv_Q cX9_takeLetters none sh (fun r h' => (∃ (I' : gr_I) (J' : gr_J), h' = gc_h sh I' J' A ∧ gc_Inv ro I' ∧ (∀ q j : Nat, ((q = p ∧ j = 6) ∨ (q = p ∧ j = 7)) ∨ I' q j = I q j) ∧ (∀ q j : Nat, (False) ∨ J' q j = J q j) ∧ r = none ∧ ((I' p 7 = 3 ∧ I' p 6 ≤ I p 1 ∧ 2 ≤ I' p 6 - I p 5 ∧ I' p 6 - I p 5 ≤ 14) ∨ I' p 7 = 5) ∧ (I p 5 < I' p 6) ∧ (gc_lt p I' (I' p 5) (I' p 6 - 1))))) (77, [(0, .inr (.inr (some p))), (1, .inl v1_5)], [], sh, gc_h sh I J A) := by
          intro m_44 e3_44
          obtain ⟨hv1_5_44, e0_44, e1_44, e2_44⟩ := m_44
          have f45 := (show 0 ≤ I p 1 ∧ I p 1 ≤ 1000 from gc_in hI R_p rfl rfl)
          have f46 := (show 0 ≤ I p 5 ∧ I p 5 ≤ 1000 from gc_in hI R_p rfl rfl)
          have f47 := (show 0 ≤ I p 6 ∧ I p 6 ≤ 1001 from gc_in hI R_p rfl rfl)
          have f48 := (show 0 ≤ I p 7 ∧ I p 7 ≤ 125 from gc_in hI R_p rfl rfl)
          refine gv_run 1 true hD (pc' := 78) (lv' := [(0, .inr (.inr (some p))), (1, .inl v1_5)]) (st' := [.inl 0]) (h' := gc_h sh I J A) (C := (True ∧ True)) rfl ⟨trivial, trivial⟩ ?_
          exact L78 0 (by omega) e3_44
        refine gv_run 2 true hD (pc' := 56) (lv' := [(0, .inr (.inr (some p))), (1, .inl v1_5)]) (st' := [.inr (.inr (some p)), .inl v1_5]) (h' := gc_h sh I J A) (C := ((True ∧ True) ∧ True)) rfl ⟨⟨trivial, trivial⟩, trivial⟩ ?_
        have f49 := (show 0 ≤ I p 1 ∧ I p 1 ≤ 1000 from gc_in hI R_p rfl rfl)
        refine gv_get hD rfl rfl S_p ⟨by decide, B_p⟩ (gc_hI S_p rfl) ?_
        show gv_X _ _ (59, [(0, .inr (.inr (some p))), (1, .inl v1_5)], [.inl (I p 1), .inl v1_5], sh, gc_h sh I J A)
        refine gv_icmp_ge (t := 77) hD rfl rfl ⟨⟨by omega, by omega⟩, ⟨by omega, by omega⟩⟩ (fun c50 => ?_) (fun c50 => ?_)
        · show gv_X _ _ (77, [(0, .inr (.inr (some p))), (1, .inl v1_5)], [], sh, gc_h sh I J A)
          exact L77 (by omega) e3_10
        · show gv_X _ _ (62, [(0, .inr (.inr (some p))), (1, .inl v1_5)], [], sh, gc_h sh I J A)
          refine gv_run 1 true hD (pc' := 63) (lv' := [(0, .inr (.inr (some p))), (1, .inl v1_5)]) (st' := [.inr (.inr (some p))]) (h' := gc_h sh I J A) (C := (True ∧ True)) rfl ⟨trivial, trivial⟩ ?_
          refine gv_get hD rfl rfl S_p ⟨by decide, B_p⟩ (gc_hA S_p rfl A_p_0) ?_
          show gv_X _ _ (66, [(0, .inr (.inr (some p))), (1, .inl v1_5)], [.inr (.inr (some (p + 1)))], sh, gc_h sh I J A)
          refine gv_run 1 true hD (pc' := 67) (lv' := [(0, .inr (.inr (some p))), (1, .inl v1_5)]) (st' := [.inl v1_5, .inr (.inr (some (p + 1)))]) (h' := gc_h sh I J A) (C := (True ∧ True)) rfl ⟨trivial, trivial⟩ ?_
          have f51 := (show (-128) ≤ I (p + 1) (Int.toNat v1_5) ∧ I (p + 1) (Int.toNat v1_5) ≤ 127 from gc_in hI R_p_1 rfl rfl)
          refine gv_bald hD rfl S_p_1 (Or.inl rfl) ⟨by decide, B_p_1⟩ ⟨by omega, by omega⟩ (gc_iI S_p_1 rfl) ?_
          show gv_X _ _ (68, [(0, .inr (.inr (some p))), (1, .inl v1_5)], [.inl (I (p + 1) (Int.toNat v1_5))], sh, gc_h sh I J A)
          refine gv_run 1 true hD (pc' := 70) (lv' := [(0, .inr (.inr (some p))), (1, .inl v1_5)]) (st' := [.inl 39, .inl (I (p + 1) (Int.toNat v1_5))]) (h' := gc_h sh I J A) (C := (True ∧ True)) rfl ⟨trivial, trivial⟩ ?_
          refine gv_icmp_ne (t := 77) hD rfl rfl ⟨⟨by omega, by omega⟩, ⟨by omega, by omega⟩⟩ (fun c52 => ?_) (fun c52 => ?_)
          · show gv_X _ _ (77, [(0, .inr (.inr (some p))), (1, .inl v1_5)], [], sh, gc_h sh I J A)
            exact L77 (by omega) e3_10
          · show gv_X _ _ (73, [(0, .inr (.inr (some p))), (1, .inl v1_5)], [], sh, gc_h sh I J A)
            refine gv_run 2 true hD (pc' := 78) (lv' := [(0, .inr (.inr (some p))), (1, .inl v1_5)]) (st' := [.inl 1]) (h' := gc_h sh I J A) (C := ((True ∧ True) ∧ True)) rfl ⟨⟨trivial, trivial⟩, trivial⟩ ?_
            exact L78 1 (by omega) e3_10
      refine gv_run 2 true hD (pc' := 9) (lv' := [(0, .inr (.inr (some p))), (1, .inl v1_5)]) (st' := [.inr (.inr (some p)), .inl v1_5]) (h' := gc_h sh I J A) (C := ((True ∧ True) ∧ True)) rfl ⟨⟨trivial, trivial⟩, trivial⟩ ?_
      have f53 := (show 0 ≤ I p 1 ∧ I p 1 ≤ 1000 from gc_in hI R_p rfl rfl)
      refine gv_get hD rfl rfl S_p ⟨by decide, B_p⟩ (gc_hI S_p rfl) ?_
      show gv_X _ _ (12, [(0, .inr (.inr (some p))), (1, .inl v1_5)], [.inl (I p 1), .inl v1_5], sh, gc_h sh I J A)
      refine gv_icmp_ge (t := 54) hD rfl rfl ⟨⟨by omega, by omega⟩, ⟨by omega, by omega⟩⟩ (fun c54 => ?_) (fun c54 => ?_)
      · show gv_X _ _ (54, [(0, .inr (.inr (some p))), (1, .inl v1_5)], [], sh, gc_h sh I J A)
        exact L54 (by omega) e3_5
      · show gv_X _ _ (15, [(0, .inr (.inr (some p))), (1, .inl v1_5)], [], sh, gc_h sh I J A)
        refine gv_run 2 true hD (pc' := 17) (lv' := [(0, .inr (.inr (some p))), (1, .inl v1_5)]) (st' := [.inr (.inr (some p)), .inl v1_5]) (h' := gc_h sh I J A) (C := ((True ∧ True) ∧ True)) rfl ⟨⟨trivial, trivial⟩, trivial⟩ ?_
        have f55 := (show 0 ≤ I p 5 ∧ I p 5 ≤ 1000 from gc_in hI R_p rfl rfl)
        refine gv_get hD rfl rfl S_p ⟨by decide, B_p⟩ (gc_hI S_p rfl) ?_
        show gv_X _ _ (20, [(0, .inr (.inr (some p))), (1, .inl v1_5)], [.inl (I p 5), .inl v1_5], sh, gc_h sh I J A)
        refine gv_run 2 true hD (pc' := 23) (lv' := [(0, .inr (.inr (some p))), (1, .inl v1_5)]) (st' := [.inl ((I p 5) + 13), .inl v1_5]) (h' := gc_h sh I J A) (C := ((True ∧ True) ∧ True)) rfl ⟨⟨trivial, trivial⟩, trivial⟩ ?_
        refine gv_icmp_ge (t := 54) hD rfl rfl ⟨⟨by omega, by omega⟩, ⟨by omega, by omega⟩⟩ (fun c56 => ?_) (fun c56 => ?_)
        · show gv_X _ _ (54, [(0, .inr (.inr (some p))), (1, .inl v1_5)], [], sh, gc_h sh I J A)
          exact L54 (by omega) e3_5
        · show gv_X _ _ (26, [(0, .inr (.inr (some p))), (1, .inl v1_5)], [], sh, gc_h sh I J A)
          refine gv_run 1 true hD (pc' := 27) (lv' := [(0, .inr (.inr (some p))), (1, .inl v1_5)]) (st' := [.inr (.inr (some p))]) (h' := gc_h sh I J A) (C := (True ∧ True)) rfl ⟨trivial, trivial⟩ ?_
          refine gv_get hD rfl rfl S_p ⟨by decide, B_p⟩ (gc_hA S_p rfl A_p_0) ?_
          show gv_X _ _ (30, [(0, .inr (.inr (some p))), (1, .inl v1_5)], [.inr (.inr (some (p + 1)))], sh, gc_h sh I J A)
          refine gv_run 1 true hD (pc' := 31) (lv' := [(0, .inr (.inr (some p))), (1, .inl v1_5)]) (st' := [.inl v1_5, .inr (.inr (some (p + 1)))]) (h' := gc_h sh I J A) (C := (True ∧ True)) rfl ⟨trivial, trivial⟩ ?_
          have f57 := (show (-128) ≤ I (p + 1) (Int.toNat v1_5) ∧ I (p + 1) (Int.toNat v1_5) ≤ 127 from gc_in hI R_p_1 rfl rfl)
          refine gv_bald hD rfl S_p_1 (Or.inl rfl) ⟨by decide, B_p_1⟩ ⟨by omega, by omega⟩ (gc_iI S_p_1 rfl) ?_
          show gv_X _ _ (32, [(0, .inr (.inr (some p))), (1, .inl v1_5)], [.inl (I (p + 1) (Int.toNat v1_5))], sh, gc_h sh I J A)
          refine gv_run 1 true hD (pc' := 34) (lv' := [(0, .inr (.inr (some p))), (1, .inl v1_5)]) (st' := [.inl 97, .inl (I (p + 1) (Int.toNat v1_5))]) (h' := gc_h sh I J A) (C := (True ∧ True)) rfl ⟨trivial, trivial⟩ ?_
          refine gv_icmp_lt (t := 54) hD rfl rfl ⟨⟨by omega, by omega⟩, ⟨by omega, by omega⟩⟩ (fun c58 => ?_) (fun c58 => ?_)
          · show gv_X _ _ (54, [(0, .inr (.inr (some p))), (1, .inl v1_5)], [], sh, gc_h sh I J A)
            exact L54 (by omega) e3_5
          · show gv_X _ _ (37, [(0, .inr (.inr (some p))), (1, .inl v1_5)], [], sh, gc_h sh I J A)
            refine gv_run 1 true hD (pc' := 38) (lv' := [(0, .inr (.inr (some p))), (1, .inl v1_5)]) (st' := [.inr (.inr (some p))]) (h' := gc_h sh I J A) (C := (True ∧ True)) rfl ⟨trivial, trivial⟩ ?_
            refine gv_get hD rfl rfl S_p ⟨by decide, B_p⟩ (gc_hA S_p rfl A_p_0) ?_
            show gv_X _ _ (41, [(0, .inr (.inr (some p))), (1, .inl v1_5)], [.inr (.inr (some (p + 1)))], sh, gc_h sh I J A)
            refine gv_run 1 true hD (pc' := 42) (lv' := [(0, .inr (.inr (some p))), (1, .inl v1_5)]) (st' := [.inl v1_5, .inr (.inr (some (p + 1)))]) (h' := gc_h sh I J A) (C := (True ∧ True)) rfl ⟨trivial, trivial⟩ ?_
            have f59 := (show (-128) ≤ I (p + 1) (Int.toNat v1_5) ∧ I (p + 1) (Int.toNat v1_5) ≤ 127 from gc_in hI R_p_1 rfl rfl)
            refine gv_bald hD rfl S_p_1 (Or.inl rfl) ⟨by decide, B_p_1⟩ ⟨by omega, by omega⟩ (gc_iI S_p_1 rfl) ?_
            show gv_X _ _ (43, [(0, .inr (.inr (some p))), (1, .inl v1_5)], [.inl (I (p + 1) (Int.toNat v1_5))], sh, gc_h sh I J A)
            refine gv_run 1 true hD (pc' := 45) (lv' := [(0, .inr (.inr (some p))), (1, .inl v1_5)]) (st' := [.inl 122, .inl (I (p + 1) (Int.toNat v1_5))]) (h' := gc_h sh I J A) (C := (True ∧ True)) rfl ⟨trivial, trivial⟩ ?_
            refine gv_icmp_gt (t := 54) hD rfl rfl ⟨⟨by omega, by omega⟩, ⟨by omega, by omega⟩⟩ (fun c60 => ?_) (fun c60 => ?_)
            · show gv_X _ _ (54, [(0, .inr (.inr (some p))), (1, .inl v1_5)], [], sh, gc_h sh I J A)
              exact L54 (by omega) e3_5
            · show gv_X _ _ (48, [(0, .inr (.inr (some p))), (1, .inl v1_5)], [], sh, gc_h sh I J A)
              refine gv_run 2 true hD (pc' := 7) (lv' := [(1, .inl (v1_5 + 1)), (0, .inr (.inr (some p)))]) (st' := []) (h' := gc_h sh I J A) (C := ((True ∧ True) ∧ True)) rfl ⟨⟨trivial, trivial⟩, trivial⟩ ?_
              refine gv_pick [1, 0] rfl ?_
              exact ih7 (v1_5 + 1) (by omega) (by omega) (gc_lt_nx e3_5 (by omega))
  refine gv_run 1 true hD (pc' := 1) (lv' := [(0, .inr (.inr (some p)))]) (st' := [.inr (.inr (some p))]) (h' := gc_h sh I J A) (C := (True ∧ True)) rfl ⟨trivial, trivial⟩ ?_
  have f61 := (show 0 ≤ I p 5 ∧ I p 5 ≤ 1000 from gc_in hI R_p rfl rfl)
  refine gv_get hD rfl rfl S_p ⟨by decide, B_p⟩ (gc_hI S_p rfl) ?_
  show gv_X _ _ (4, [(0, .inr (.inr (some p)))], [.inl (I p 5)], sh, gc_h sh I J A)
  refine gv_run 3 true hD (pc' := 7) (lv' := [(1, .inl ((I p 5) + 1)), (0, .inr (.inr (some p)))]) (st' := []) (h' := gc_h sh I J A) (C := (((True ∧ True) ∧ True) ∧ True)) rfl ⟨⟨⟨trivial, trivial⟩, trivial⟩, trivial⟩ ?_
  refine gv_pick [1, 0] rfl ?_
  exact L7 _ (((I p 5) + 1)) (Nat.lt_succ_self _) (by omega) (fun k a b => by omega)
set_option maxHeartbeats 4000000 in
set_option maxRecDepth 100000 in
theorem d_X9_advance {ws0 : List Cond} {tb : String → gz_T} (hws : gc_Ws ws0) (htb : gc_tbs tb) (sh : gz_Sh) (ro : Nat → Nat) (I : gr_I) (J : gr_J) (A : gc_A) (hI : gc_Inv ro I) (p : Nat)  (hp : gc_isText sh ro A p)  (x0 : I p 6 ≤ I p 1) : ∃ r h', gz_Ev ws0 tb 2 (yX9_advance, cX9_advance, 3, none) [.inr (.inr (some p))] sh (gc_h sh I J A) r sh h' 0 0 ∧ (∃ (I' : gr_I) (J' : gr_J), h' = gc_h sh I' J' A ∧ gc_Inv ro I' ∧ (∀ q j : Nat, ((q = p ∧ j = 5) ∨ (q = p ∧ j = 6) ∨ (q = p ∧ j = 7) ∨ (q = p ∧ j = 8)) ∨ I' q j = I q j) ∧ (∀ q j : Nat, ((q = p ∧ j = 9)) ∨ J' q j = J q j) ∧ r = none ∧ (I' p 5 ≤ I' p 6) ∧ (I' p 7 = 5 ∨ I' p 6 ≤ I' p 1) ∧ (I' p 5 ≤ I' p 1) ∧ (I' p 7 = 4 ∨ (I' p 5 < I' p 6 ∧ I' p 5 < I' p 1)) ∧ (I' p 7 = 3 → 2 ≤ I' p 6 - I' p 5 ∧ I' p 6 - I' p 5 ≤ 14) ∧ (I p 6 ≤ I' p 5) ∧ (I' p 1 = I p 1) ∧ (I' p 7 = 3 → gc_lt p I' (I' p 5) (I' p 6 - 1))) := by
  have FI : ∀ q j : Nat, ((q = p ∧ j = 5) ∨ (q = p ∧ j = 6) ∨ (q = p ∧ j = 7) ∨ (q = p ∧ j = 8)) ∨ I q j = I q j := fun _ _ => Or.inr rfl
  have FJ : ∀ q j : Nat, ((q = p ∧ j = 9)) ∨ J q j = J q j := fun _ _ => Or.inr rfl
  obtain ⟨S_p, R_p, B_p, A_p_0, S_p_1, R_p_1, B_p_1, A_p_2, S_p_2, R_p_2, B_p_2, A_p_3, S_p_3, R_p_3, B_p_3⟩ := id hp
  have hD : gv_D (gc_E9 ws0 tb 1 (yX9_advance, cX9_advance, 3, none) kX9_advance) := gq_ok oX9_advance
  refine gc_ev9 (d := 1) (l := kX9_advance) (Po := fun r h' => (∃ (I' : gr_I) (J' : gr_J), h' = gc_h sh I' J' A ∧ gc_Inv ro I' ∧ (∀ q j : Nat, ((q = p ∧ j = 5) ∨ (q = p ∧ j = 6) ∨ (q = p ∧ j = 7) ∨ (q = p ∧ j = 8)) ∨ I' q j = I q j) ∧ (∀ q j : Nat, ((q = p ∧ j = 9)) ∨ J' q j = J q j) ∧ r = none ∧ (I' p 5 ≤ I' p 6) ∧ (I' p 7 = 5 ∨ I' p 6 ≤ I' p 1) ∧ (I' p 5 ≤ I' p 1) ∧ (I' p 7 = 4 ∨ (I' p 5 < I' p 6 ∧ I' p 5 < I' p 1)) ∧ (I' p 7 = 3 → 2 ≤ I' p 6 - I' p 5 ∧ I' p 6 - I' p 5 ≤ 14) ∧ (I p 6 ≤ I' p 5) ∧ (I' p 1 = I p 1) ∧ (I' p 7 = 3 → gc_lt p I' (I' p 5) (I' p 6 - 1)))) htb rfl (Nat.le_of_ble_eq_true rfl) ?_
  have f1 := (show 0 ≤ I p 1 ∧ I p 1 ≤ 1000 from gc_in hI R_p rfl rfl)
  have f2 := (show 0 ≤ I p 5 ∧ I p 5 ≤ 1000 from gc_in hI R_p rfl rfl)
  have f3 := (show 0 ≤ I p 6 ∧ I p 6 ≤ 1001 from gc_in hI R_p rfl rfl)
  have f4 := (show 0 ≤ I p 7 ∧ I p 7 ≤ 125 from gc_in hI R_p rfl rfl)
  have L5 : ∀ (n9 : Nat) (v1_5 : Int), (1001 - v1_5).toNat < n9 → ((0 ≤ v1_5 ∧ v1_5 ≤ 1000) ∧ (v1_5 ≤ I p 1) ∧ (I p 6 ≤ v1_5)) → gv_X (gc_E9 ws0 tb 1 (yX9_advance, cX9_advance, 3, none) kX9_advance) (gv_Q cX9_advance none sh (fun r h' => (∃ (I' : gr_I) (J' : gr_J), h' = gc_h sh I' J' A ∧ gc_Inv ro I' ∧ (∀ q j : Nat, ((q = p ∧ j = 5) ∨ (q = p ∧ j = 6) ∨ (q = p ∧ j = 7) ∨ (q = p ∧ j = 8)) ∨ I' q j = I q j) ∧ (∀ q j : Nat, ((q = p ∧ j = 9)) ∨ J' q j = J q j) ∧ r = none ∧ (I' p 5 ≤ I' p 6) ∧ (I' p 7 = 5 ∨ I' p 6 ≤ I' p 1) ∧ (I' p 5 ≤ I' p 1) ∧ (I' p 7 = 4 ∨ (I' p 5 < I' p 6 ∧ I' p 5 < I' p 1)) ∧ (I' p 7 = 3 → 2 ≤ I' p 6 - I' p 5 ∧ I' p 6 - I' p 5 ≤ 14) ∧ (I p 6 ≤ I' p 5) ∧ (I' p 1 = I p 1) ∧ (I' p 7 = 3 → gc_lt p I' (I' p 5) (I' p 6 - 1))))) (5, [(0, .inr (.inr (some p))), (1, .inl v1_5)], [], sh, gc_h sh I J A) := by
    intro n9
    induction n9 with
    | zero => intro v1_5 hn; omega
    | succ n9 ih5 =>
      intro v1_5 hn m_5
      obtain ⟨hv1_5, e0_5, e1_5⟩ := m_5
      have f6 := (show 0 ≤ I p 1 ∧ I p 1 ≤ 1000 from gc_in hI R_p rfl rfl)
      have f7 := (show 0 ≤ I p 5 ∧ I p 5 ≤ 1000 from gc_in hI R_p rfl rfl)
      have f8 := (show 0 ≤ I p 6 ∧ I p 6 ≤ 1001 from gc_in hI R_p rfl rfl)
      have f9 := (show 0 ≤ I p 7 ∧ I p 7 ≤ 125 from gc_in hI R_p rfl rfl)
      have L30 : ((0 ≤ v1_5 ∧ v1_5 ≤ 1000) ∧ (v1_5 ≤ I p 1) ∧ (I p 6 ≤ v1_5)) → gv_X (gc_E9 ws0 tb 1 (yX9_advance, cX9_advance, 3, none) kX9_advance) (gv_Q cX9_advance none sh (fun r h' => (∃ (I' : gr_I) (J' : gr_J), h' = gc_h sh I' J' A ∧ gc_Inv ro I' ∧ (∀ q j : Nat, ((q = p ∧ j = 5) ∨ (q = p ∧ j = 6) ∨ (q = p ∧ j = 7) ∨ (q = p ∧ j = 8)) ∨ I' q j = I q j) ∧ (∀ q j : Nat, ((q = p ∧ j = 9)) ∨ J' q j = J q j) ∧ r = none ∧ (I' p 5 ≤ I' p 6) ∧ (I' p 7 = 5 ∨ I' p 6 ≤ I' p 1) ∧ (I' p 5 ≤ I' p 1) ∧ (I' p 7 = 4 ∨ (I' p 5 < I' p 6 ∧ I' p 5 < I' p 1)) ∧ (I' p 7 = 3 → 2 ≤ I' p 6 - I' p 5 ∧ I' p 6 - I' p 5 ≤ 14) ∧ (I p 6 ≤ I' p 5) ∧ (I' p 1 = I p 1) ∧ (I' p 7 = 3 → gc_lt p I' (I' p 5) (I' p 6 - 1))))) (30, [(0, .inr (.inr (some p))), (1, .inl v1_5)], [], sh, gc_h sh I J A) := by
        intro m_10
        obtain ⟨hv1_5_10, e0_10, e1_10⟩ := m_10
        have f11 := (show 0 ≤ I p 1 ∧ I p 1 ≤ 1000 from gc_in hI R_p rfl rfl)
        have f12 := (show 0 ≤ I p 5 ∧ I p 5 ≤ 1000 from gc_in hI R_p rfl rfl)
        have f13 := (show 0 ≤ I p 6 ∧ I p 6 ≤ 1001 from gc_in hI R_p rfl rfl)
        have f14 := (show 0 ≤ I p 7 ∧ I p 7 ≤ 125 from gc_in hI R_p rfl rfl)
        have L141 : ∀ (I15 : gr_I) (J16 : gr_J) , gc_Inv ro I15 → (∀ q j : Nat, ((q = p ∧ j = 5) ∨ (q = p ∧ j = 6) ∨ (q = p ∧ j = 7) ∨ (q = p ∧ j = 8)) ∨ I15 q j = I q j) → (∀ q j : Nat, ((q = p ∧ j = 9)) ∨ J16 q j = J q j) → ((I15 p 5 ≤ I15 p 6) ∧ (I15 p 7 = 5 ∨ I15 p 6 ≤ I15 p 1) ∧ (I15 p 5 ≤ I15 p 1) ∧ (I15 p 7 = 4 ∨ (I15 p 5 < I15 p 6 ∧ I15 p 5 < I15 p 1)) ∧ (I15 p 7 = 3 → 2 ≤ I15 p 6 - I15 p 5 ∧ I15 p 6 - I15 p 5 ≤ 14) ∧ (I p 6 ≤ I15 p 5) ∧ (I15 p 1 = I p 1)) → (I15 p 7 = 3 → gc_lt p I15 (I15 p 5) (I15 p 6 - 1)) → gv_X (gc_E9 ws0 tb 1 (yX9_advance, cX9_advance, 3, none) kX9_advance) (gv_Q cX9_advance none sh (fun r h' => (∃ (I' : gr_I) (J' : gr_J), h' = gc_h sh I' J' A ∧ gc_Inv ro I' ∧ (∀ q j : Nat, ((q = p ∧ j = 5) ∨ (q = p ∧ j = 6) ∨ (q = p ∧ j = 7) ∨ (q = p ∧ j = 8)) ∨ I' q j = I q j) ∧ (∀ q j : Nat, ((q = p ∧ j = 9)) ∨ J' q j = J q j) ∧ r = none ∧ (I' p 5 ≤ I' p 6) ∧ (I' p 7 = 5 ∨ I' p 6 ≤ I' p 1) ∧ (I' p 5 ≤ I' p 1) ∧ (I' p 7 = 4 ∨ (I' p 5 < I' p 6 ∧ I' p 5 < I' p 1)) ∧ (I' p 7 = 3 → 2 ≤ I' p 6 - I' p 5 ∧ I' p 6 - I' p 5 ≤ 14) ∧ (I p 6 ≤ I' p 5) ∧ (I' p 1 = I p 1) ∧ (I' p 7 = 3 → gc_lt p I' (I' p 5) (I' p 6 - 1))))) (141, [], [], sh, gc_h sh I15 J16 A) := by
          intro I15 J16 hI15 FI15 FJ16 m_17 e7_17
          clear hv1_5_10 e0_10 e1_10 f11 f12 f13 f14 hv1_5 e0_5 e1_5 f6 f7 f8 f9
          obtain ⟨e0_17, e1_17, e2_17, e3_17, e4_17, e5_17, e6_17⟩ := m_17
          have f18 := (show 0 ≤ I15 p 1 ∧ I15 p 1 ≤ 1000 from gc_in hI15 R_p rfl rfl)
          have f19 := (show 0 ≤ I15 p 5 ∧ I15 p 5 ≤ 1000 from gc_in hI15 R_p rfl rfl)
          have f20 := (show 0 ≤ I15 p 6 ∧ I15 p 6 ≤ 1001 from gc_in hI15 R_p rfl rfl)
          have f21 := (show 0 ≤ I15 p 7 ∧ I15 p 7 ≤ 125 from gc_in hI15 R_p rfl rfl)
          exact gv_vret hD rfl ⟨I15, J16, rfl, hI15, FI15, FJ16, ⟨rfl, by omega, by omega, by omega, by omega, by omega, by omega, by omega, e7_17⟩⟩
        have L105 : ∀ (I22 : gr_I) (J23 : gr_J) (v2_24 : Int), gc_Inv ro I22 → (∀ q j : Nat, ((q = p ∧ j = 5) ∨ (q = p ∧ j = 6) ∨ (q = p ∧ j = 7) ∨ (q = p ∧ j = 8)) ∨ I22 q j = I q j) → (∀ q j : Nat, ((q = p ∧ j = 9)) ∨ J23 q j = J q j) → ((0 ≤ v1_5 ∧ v1_5 ≤ 999) ∧ ((-128) ≤ v2_24 ∧ v2_24 ≤ 127) ∧ (I22 p 1 = I p 1) ∧ (v1_5 < I22 p 1) ∧ (I p 6 ≤ v1_5) ∧ (I22 p 5 = v1_5)) → gv_X (gc_E9 ws0 tb 1 (yX9_advance, cX9_advance, 3, none) kX9_advance) (gv_Q cX9_advance none sh (fun r h' => (∃ (I' : gr_I) (J' : gr_J), h' = gc_h sh I' J' A ∧ gc_Inv ro I' ∧ (∀ q j : Nat, ((q = p ∧ j = 5) ∨ (q = p ∧ j = 6) ∨ (q = p ∧ j = 7) ∨ (q = p ∧ j = 8)) ∨ I' q j = I q j) ∧ (∀ q j : Nat, ((q = p ∧ j = 9)) ∨ J' q j = J q j) ∧ r = none ∧ (I' p 5 ≤ I' p 6) ∧ (I' p 7 = 5 ∨ I' p 6 ≤ I' p 1) ∧ (I' p 5 ≤ I' p 1) ∧ (I' p 7 = 4 ∨ (I' p 5 < I' p 6 ∧ I' p 5 < I' p 1)) ∧ (I' p 7 = 3 → 2 ≤ I' p 6 - I' p 5 ∧ I' p 6 - I' p 5 ≤ 14) ∧ (I p 6 ≤ I' p 5) ∧ (I' p 1 = I p 1) ∧ (I' p 7 = 3 → gc_lt p I' (I' p 5) (I' p 6 - 1))))) (105, [(0, .inr (.inr (some p))), (1, .inl v1_5), (2, .inl v2_24)], [], sh, gc_h sh I22 J23 A) := by
          intro I22 J23 v2_24 hI22 FI22 FJ23 m_24
          clear hv1_5_10 e0_10 e1_10 f11 f12 f13 f14 hv1_5 e0_5 e1_5 f6 f7 f8 f9
          obtain ⟨hv1_5_24, hv2_24, e0_24, e1_24, e2_24, e3_24⟩ := m_24
          have f25 := (show 0 ≤ I22 p 1 ∧ I22 p 1 ≤ 1000 from gc_in hI22 R_p rfl rfl)
          have f26 := (show 0 ≤ I22 p 5 ∧ I22 p 5 ≤ 1000 from gc_in hI22 R_p rfl rfl)
          have f27 := (show 0 ≤ I22 p 6 ∧ I22 p 6 ≤ 1001 from gc_in hI22 R_p rfl rfl)
          have f28 := (show 0 ≤ I22 p 7 ∧ I22 p 7 ≤ 125 from gc_in hI22 R_p rfl rfl)
          have L131 : ∀ (s1_29 : Int), ((0 ≤ v1_5 ∧ v1_5 ≤ 999) ∧ ((-128) ≤ s1_29 ∧ s1_29 ≤ 127) ∧ (I22 p 1 = I p 1) ∧ (v1_5 < I22 p 1) ∧ (I p 6 ≤ v1_5) ∧ (I22 p 5 = v1_5) ∧ (s1_29 = 5 ∨ (35 ≤ s1_29 ∧ s1_29 ≤ 125))) → gv_X (gc_E9 ws0 tb 1 (yX9_advance, cX9_advance, 3, none) kX9_advance) (gv_Q cX9_advance none sh (fun r h' => (∃ (I' : gr_I) (J' : gr_J), h' = gc_h sh I' J' A ∧ gc_Inv ro I' ∧ (∀ q j : Nat, ((q = p ∧ j = 5) ∨ (q = p ∧ j = 6) ∨ (q = p ∧ j = 7) ∨ (q = p ∧ j = 8)) ∨ I' q j = I q j) ∧ (∀ q j : Nat, ((q = p ∧ j = 9)) ∨ J' q j = J q j) ∧ r = none ∧ (I' p 5 ≤ I' p 6) ∧ (I' p 7 = 5 ∨ I' p 6 ≤ I' p 1) ∧ (I' p 5 ≤ I' p 1) ∧ (I' p 7 = 4 ∨ (I' p 5 < I' p 6 ∧ I' p 5 < I' p 1)) ∧ (I' p 7 = 3 → 2 ≤ I' p 6 - I' p 5 ∧ I' p 6 - I' p 5 ≤ 14) ∧ (I p 6 ≤ I' p 5) ∧ (I' p 1 = I p 1) ∧ (I' p 7 = 3 → gc_lt p I' (I' p 5) (I' p 6 - 1))))) (131, [(0, .inr (.inr (some p))), (1, .inl v1_5)], [.inl s1_29, .inr (.inr (some p))], sh, gc_h sh I22 J23 A) := by
            intro s1_29 m_29
            obtain ⟨hv1_5_29, hs1_29, e0_29, e1_29, e2_29, e3_29, e4_29⟩ := m_29
            have f30 := (show 0 ≤ I22 p 1 ∧ I22 p 1 ≤ 1000 from gc_in hI22 R_p rfl rfl)
            have f31 := (show 0 ≤ I22 p 5 ∧ I22 p 5 ≤ 1000 from gc_in hI22 R_p rfl rfl)
            have f32 := (show 0 ≤ I22 p 6 ∧ I22 p 6 ≤ 1001 from gc_in hI22 R_p rfl rfl)
            have f33 := (show 0 ≤ I22 p 7 ∧ I22 p 7 ≤ 125 from gc_in hI22 R_p rfl rfl)
            refine gv_put hD rfl rfl S_p ⟨by decide, B_p⟩ rfl trivial ?_
            refine gc_st (k := 7) hI22 S_p rfl R_p (lo := 0) (hi := 125) rfl rfl (by omega) (by omega) (fun I34 hI34 q35 p35 => ?_)
            have FI34 := gc_frs (W := fun q j => (q = p ∧ j = 5) ∨ (q = p ∧ j = 6) ∨ (q = p ∧ j = 7) ∨ (q = p ∧ j = 8)) FI22 (Or.inr (Or.inr (Or.inl ⟨rfl, rfl⟩))) p35
            have t36 := p35 p 1 (fun h => absurd h.2 (by decide))
            have t37 := p35 p 5 (fun h => absurd h.2 (by decide))
            have t38 := p35 p 6 (fun h => absurd h.2 (by decide))
            have f39 := (show 0 ≤ I34 p 1 ∧ I34 p 1 ≤ 1000 from gc_in hI34 R_p rfl rfl)
            have f40 := (show 0 ≤ I34 p 5 ∧ I34 p 5 ≤ 1000 from gc_in hI34 R_p rfl rfl)
            have f41 := (show 0 ≤ I34 p 6 ∧ I34 p 6 ≤ 1001 from gc_in hI34 R_p rfl rfl)
            have f42 := (show 0 ≤ I34 p 7 ∧ I34 p 7 ≤ 125 from gc_in hI34 R_p rfl rfl)
            show gv_X _ _ (134, [(0, .inr (.inr (some p))), (1, .inl v1_5)], [], sh, gc_h sh I34 J23 A)
            refine gv_run 4 true hD (pc' := 138) (lv' := [(0, .inr (.inr (some p))), (1, .inl v1_5)]) (st' := [.inl (v1_5 + 1), .inr (.inr (some p))]) (h' := gc_h sh I34 J23 A) (C := ((((True ∧ True) ∧ True) ∧ True) ∧ True)) rfl ⟨⟨⟨⟨trivial, trivial⟩, trivial⟩, trivial⟩, trivial⟩ ?_
            refine gv_put hD rfl rfl S_p ⟨by decide, B_p⟩ rfl trivial ?_
            refine gc_st (k := 6) hI34 S_p rfl R_p (lo := 0) (hi := 1001) rfl rfl (by omega) (by omega) (fun I43 hI43 q44 p44 => ?_)
            have FI43 := gc_frs (W := fun q j => (q = p ∧ j = 5) ∨ (q = p ∧ j = 6) ∨ (q = p ∧ j = 7) ∨ (q = p ∧ j = 8)) FI34 (Or.inr (Or.inl ⟨rfl, rfl⟩)) p44
            have t45 := p44 p 1 (fun h => absurd h.2 (by decide))
            have t46 := p44 p 5 (fun h => absurd h.2 (by decide))
            have t47 := p44 p 7 (fun h => absurd h.2 (by decide))
            have f48 := (show 0 ≤ I43 p 1 ∧ I43 p 1 ≤ 1000 from gc_in hI43 R_p rfl rfl)
            have f49 := (show 0 ≤ I43 p 5 ∧ I43 p 5 ≤ 1000 from gc_in hI43 R_p rfl rfl)
            have f50 := (show 0 ≤ I43 p 6 ∧ I43 p 6 ≤ 1001 from gc_in hI43 R_p rfl rfl)
            have f51 := (show 0 ≤ I43 p 7 ∧ I43 p 7 ≤ 125 from gc_in hI43 R_p rfl rfl)
            show gv_X _ _ (141, [(0, .inr (.inr (some p))), (1, .inl v1_5)], [], sh, gc_h sh I43 J23 A)
            refine gv_pick [] rfl ?_
            exact L141 I43 J23 hI43 FI43 FJ23 (by omega) (fun h => by omega)
          refine gv_run 2 true hD (pc' := 108) (lv' := [(0, .inr (.inr (some p))), (1, .inl v1_5), (2, .inl v2_24)]) (st' := [.inl 39, .inl v2_24]) (h' := gc_h sh I22 J23 A) (C := ((True ∧ True) ∧ True)) rfl ⟨⟨trivial, trivial⟩, trivial⟩ ?_
          refine gv_icmp_ne (t := 118) hD rfl rfl ⟨⟨by omega, by omega⟩, ⟨by omega, by omega⟩⟩ (fun c52 => ?_) (fun c52 => ?_)
          · show gv_X _ _ (118, [(0, .inr (.inr (some p))), (1, .inl v1_5), (2, .inl v2_24)], [], sh, gc_h sh I22 J23 A)
            refine gv_run 2 true hD (pc' := 120) (lv' := [(0, .inr (.inr (some p))), (1, .inl v1_5), (2, .inl v2_24)]) (st' := [.inl v2_24, .inr (.inr (some p))]) (h' := gc_h sh I22 J23 A) (C := ((True ∧ True) ∧ True)) rfl ⟨⟨trivial, trivial⟩, trivial⟩ ?_
            obtain ⟨r53, h53, E53, P53⟩ := d_X9_isSign (ws0 := ws0) (tb := tb) hws htb sh ro I22 J23 A hI22  v2_24    ⟨by omega, by omega⟩  
            obtain ⟨rfl, ⟨z53, rfl, q53⟩⟩ := P53
            refine gv_callS hD rfl (As := [.inl v2_24]) (st := [.inr (.inr (some p))]) rfl (gc_lS9 hws rfl) (Nat.le_of_ble_eq_true rfl) (gz_Ev_mono (d := 1) (by decide) E53) ?_
            show gv_X _ _ (123, [(0, .inr (.inr (some p))), (1, .inl v1_5), (2, .inl v2_24)], [.inl z53, .inr (.inr (some p))], sh, gc_h sh I22 J23 A)
            refine gv_if_eq (t := 130) hD rfl rfl ⟨by omega, by omega⟩ (fun c54 => ?_) (fun c54 => ?_)
            · show gv_X _ _ (130, [(0, .inr (.inr (some p))), (1, .inl v1_5), (2, .inl v2_24)], [.inr (.inr (some p))], sh, gc_h sh I22 J23 A)
              refine gv_run 1 true hD (pc' := 131) (lv' := [(0, .inr (.inr (some p))), (1, .inl v1_5), (2, .inl v2_24)]) (st' := [.inl 5, .inr (.inr (some p))]) (h' := gc_h sh I22 J23 A) (C := (True ∧ True)) rfl ⟨trivial, trivial⟩ ?_
              refine gv_pick [0, 1] rfl ?_
              exact L131 5 (by omega)
            · show gv_X _ _ (126, [(0, .inr (.inr (some p))), (1, .inl v1_5), (2, .inl v2_24)], [.inr (.inr (some p))], sh, gc_h sh I22 J23 A)
              refine gv_run 2 true hD (pc' := 131) (lv' := [(0, .inr (.inr (some p))), (1, .inl v1_5), (2, .inl v2_24)]) (st' := [.inl v2_24, .inr (.inr (some p))]) (h' := gc_h sh I22 J23 A) (C := ((True ∧ True) ∧ True)) rfl ⟨⟨trivial, trivial⟩, trivial⟩ ?_
              refine gv_pick [0, 1] rfl ?_
              exact L131 v2_24 (by omega)
          · show gv_X _ _ (111, [(0, .inr (.inr (some p))), (1, .inl v1_5), (2, .inl v2_24)], [], sh, gc_h sh I22 J23 A)
            refine gv_run 1 true hD (pc' := 112) (lv' := [(0, .inr (.inr (some p))), (1, .inl v1_5), (2, .inl v2_24)]) (st' := [.inr (.inr (some p))]) (h' := gc_h sh I22 J23 A) (C := (True ∧ True)) rfl ⟨trivial, trivial⟩ ?_
            obtain ⟨r55, h55, E55, P55⟩ := d_X9_takeLetters (ws0 := ws0) (tb := tb) hws htb sh ro I22 J23 A hI22 p  hp    (by omega) 
            obtain ⟨I56, J57, rfl, hI56, g55, k55, ⟨rfl, q55⟩⟩ := P55
            have FI56 := gc_frc (W := fun q j => (q = p ∧ j = 5) ∨ (q = p ∧ j = 6) ∨ (q = p ∧ j = 7) ∨ (q = p ∧ j = 8)) (V := fun q j => (q = p ∧ j = 6) ∨ (q = p ∧ j = 7)) FI22 (fun q j h => (h.elim (fun h => (Or.inr (Or.inl h))) (fun h => (Or.inr (Or.inr (Or.inl h)))))) g55
            have t58 := (g55 p 1).resolve_left (by omega)
            have t59 := (g55 p 5).resolve_left (by omega)
            have f60 := (show 0 ≤ I56 p 1 ∧ I56 p 1 ≤ 1000 from gc_in hI56 R_p rfl rfl)
            have f61 := (show 0 ≤ I56 p 5 ∧ I56 p 5 ≤ 1000 from gc_in hI56 R_p rfl rfl)
            have f62 := (show 0 ≤ I56 p 6 ∧ I56 p 6 ≤ 1001 from gc_in hI56 R_p rfl rfl)
            have f63 := (show 0 ≤ I56 p 7 ∧ I56 p 7 ≤ 125 from gc_in hI56 R_p rfl rfl)
            obtain rfl : J23 = J57 := funext fun q => funext fun j => ((k55 q j).resolve_left id).symm
            refine gv_callV hD rfl (As := []) (st := []) rfl B_p S_p rfl (gc_lV9 hws rfl) (Nat.le_of_ble_eq_true rfl) (gz_Ev_mono (d := 1) (by decide) E55) ?_
            show gv_X _ _ (115, [(0, .inr (.inr (some p))), (1, .inl v1_5), (2, .inl v2_24)], [], sh, gc_h sh I56 J23 A)
            refine gv_run 1 true hD (pc' := 141) (lv' := [(0, .inr (.inr (some p))), (1, .inl v1_5), (2, .inl v2_24)]) (st' := []) (h' := gc_h sh I56 J23 A) (C := (True ∧ True)) rfl ⟨trivial, trivial⟩ ?_
            refine gv_pick [] rfl ?_
            exact L141 I56 J23 hI56 FI56 FJ23 (by omega) (fun _ => q55.2.2)
        refine gv_run 2 true hD (pc' := 32) (lv' := [(0, .inr (.inr (some p))), (1, .inl v1_5)]) (st' := [.inl v1_5, .inr (.inr (some p))]) (h' := gc_h sh I J A) (C := ((True ∧ True) ∧ True)) rfl ⟨⟨trivial, trivial⟩, trivial⟩ ?_
        refine gv_put hD rfl rfl S_p ⟨by decide, B_p⟩ rfl trivial ?_
        refine gc_st (k := 5) hI S_p rfl R_p (lo := 0) (hi := 1000) rfl rfl (by omega) (by omega) (fun I64 hI64 q65 p65 => ?_)
        have FI64 := gc_frs (W := fun q j => (q = p ∧ j = 5) ∨ (q = p ∧ j = 6) ∨ (q = p ∧ j = 7) ∨ (q = p ∧ j = 8)) FI (Or.inl ⟨rfl, rfl⟩) p65
        have t66 := p65 p 1 (fun h => absurd h.2 (by decide))
        have t67 := p65 p 6 (fun h => absurd h.2 (by decide))
        have t68 := p65 p 7 (fun h => absurd h.2 (by decide))
        have f69 := (show 0 ≤ I64 p 1 ∧ I64 p 1 ≤ 1000 from gc_in hI64 R_p rfl rfl)
        have f70 := (show 0 ≤ I64 p 5 ∧ I64 p 5 ≤ 1000 from gc_in hI64 R_p rfl rfl)
        have f71 := (show 0 ≤ I64 p 6 ∧ I64 p 6 ≤ 1001 from gc_in hI64 R_p rfl rfl)
        have f72 := (show 0 ≤ I64 p 7 ∧ I64 p 7 ≤ 125 from gc_in hI64 R_p rfl rfl)
        show gv_X _ _ (35, [(0, .inr (.inr (some p))), (1, .inl v1_5)], [], sh, gc_h sh I64 J A)
        refine gv_run 2 true hD (pc' := 37) (lv' := [(0, .inr (.inr (some p))), (1, .inl v1_5)]) (st' := [.inr (.inr (some p)), .inl v1_5]) (h' := gc_h sh I64 J A) (C := ((True ∧ True) ∧ True)) rfl ⟨⟨trivial, trivial⟩, trivial⟩ ?_
        have f73 := (show 0 ≤ I64 p 1 ∧ I64 p 1 ≤ 1000 from gc_in hI64 R_p rfl rfl)
        refine gv_get hD rfl rfl S_p ⟨by decide, B_p⟩ (gc_hI S_p rfl) ?_
        show gv_X _ _ (40, [(0, .inr (.inr (some p))), (1, .inl v1_5)], [.inl (I64 p 1), .inl v1_5], sh, gc_h sh I64 J A)
        refine gv_icmp_lt (t := 65) hD rfl rfl ⟨⟨by omega, by omega⟩, ⟨by omega, by omega⟩⟩ (fun c74 => ?_) (fun c74 => ?_)
        · show gv_X _ _ (65, [(0, .inr (.inr (some p))), (1, .inl v1_5)], [], sh, gc_h sh I64 J A)
          refine gv_run 1 true hD (pc' := 66) (lv' := [(0, .inr (.inr (some p))), (1, .inl v1_5)]) (st' := [.inr (.inr (some p))]) (h' := gc_h sh I64 J A) (C := (True ∧ True)) rfl ⟨trivial, trivial⟩ ?_
          refine gv_get hD rfl rfl S_p ⟨by decide, B_p⟩ (gc_hA S_p rfl A_p_0) ?_
          show gv_X _ _ (69, [(0, .inr (.inr (some p))), (1, .inl v1_5)], [.inr (.inr (some (p + 1)))], sh, gc_h sh I64 J A)
          refine gv_run 1 true hD (pc' := 70) (lv' := [(0, .inr (.inr (some p))), (1, .inl v1_5)]) (st' := [.inl v1_5, .inr (.inr (some (p + 1)))]) (h' := gc_h sh I64 J A) (C := (True ∧ True)) rfl ⟨trivial, trivial⟩ ?_
          have f75 := (show (-128) ≤ I64 (p + 1) (Int.toNat v1_5) ∧ I64 (p + 1) (Int.toNat v1_5) ≤ 127 from gc_in hI64 R_p_1 rfl rfl)
          refine gv_bald hD rfl S_p_1 (Or.inl rfl) ⟨by decide, B_p_1⟩ ⟨by omega, by omega⟩ (gc_iI S_p_1 rfl) ?_
          show gv_X _ _ (71, [(0, .inr (.inr (some p))), (1, .inl v1_5)], [.inl (I64 (p + 1) (Int.toNat v1_5))], sh, gc_h sh I64 J A)
          refine gv_run 2 true hD (pc' := 73) (lv' := [(2, .inl (I64 (p + 1) (Int.toNat v1_5))), (0, .inr (.inr (some p))), (1, .inl v1_5)]) (st' := [.inl (I64 (p + 1) (Int.toNat v1_5))]) (h' := gc_h sh I64 J A) (C := ((True ∧ True) ∧ True)) rfl ⟨⟨trivial, trivial⟩, trivial⟩ ?_
          obtain ⟨r76, h76, E76, P76⟩ := d_X9_isLetter (ws0 := ws0) (tb := tb) hws htb sh ro I64 J A hI64  ((I64 (p + 1) (Int.toNat v1_5)))    ⟨by omega, by omega⟩  
          obtain ⟨rfl, ⟨z76, rfl, q76⟩⟩ := P76
          refine gv_callS hD rfl (As := [.inl (I64 (p + 1) (Int.toNat v1_5))]) (st := []) rfl (gc_lS9 hws rfl) (Nat.le_of_ble_eq_true rfl) (gz_Ev_mono (d := 1) (by decide) E76) ?_
          show gv_X _ _ (76, [(2, .inl (I64 (p + 1) (Int.toNat v1_5))), (0, .inr (.inr (some p))), (1, .inl v1_5)], [.inl z76], sh, gc_h sh I64 J A)
          refine gv_if_eq (t := 86) hD rfl rfl ⟨by omega, by omega⟩ (fun c77 => ?_) (fun c77 => ?_)
          · show gv_X _ _ (86, [(2, .inl (I64 (p + 1) (Int.toNat v1_5))), (0, .inr (.inr (some p))), (1, .inl v1_5)], [], sh, gc_h sh I64 J A)
            refine gv_run 2 true hD (pc' := 89) (lv' := [(2, .inl (I64 (p + 1) (Int.toNat v1_5))), (0, .inr (.inr (some p))), (1, .inl v1_5)]) (st' := [.inl 48, .inl (I64 (p + 1) (Int.toNat v1_5))]) (h' := gc_h sh I64 J A) (C := ((True ∧ True) ∧ True)) rfl ⟨⟨trivial, trivial⟩, trivial⟩ ?_
            refine gv_icmp_lt (t := 105) hD rfl rfl ⟨⟨by omega, by omega⟩, ⟨by omega, by omega⟩⟩ (fun c78 => ?_) (fun c78 => ?_)
            · show gv_X _ _ (105, [(2, .inl (I64 (p + 1) (Int.toNat v1_5))), (0, .inr (.inr (some p))), (1, .inl v1_5)], [], sh, gc_h sh I64 J A)
              refine gv_pick [1, 2, 0] rfl ?_
              exact L105 I64 J ((I64 (p + 1) (Int.toNat v1_5))) hI64 FI64 FJ (by omega)
            · show gv_X _ _ (92, [(2, .inl (I64 (p + 1) (Int.toNat v1_5))), (0, .inr (.inr (some p))), (1, .inl v1_5)], [], sh, gc_h sh I64 J A)
              refine gv_run 2 true hD (pc' := 95) (lv' := [(2, .inl (I64 (p + 1) (Int.toNat v1_5))), (0, .inr (.inr (some p))), (1, .inl v1_5)]) (st' := [.inl 57, .inl (I64 (p + 1) (Int.toNat v1_5))]) (h' := gc_h sh I64 J A) (C := ((True ∧ True) ∧ True)) rfl ⟨⟨trivial, trivial⟩, trivial⟩ ?_
              refine gv_icmp_gt (t := 105) hD rfl rfl ⟨⟨by omega, by omega⟩, ⟨by omega, by omega⟩⟩ (fun c79 => ?_) (fun c79 => ?_)
              · show gv_X _ _ (105, [(2, .inl (I64 (p + 1) (Int.toNat v1_5))), (0, .inr (.inr (some p))), (1, .inl v1_5)], [], sh, gc_h sh I64 J A)
                refine gv_pick [1, 2, 0] rfl ?_
                exact L105 I64 J ((I64 (p + 1) (Int.toNat v1_5))) hI64 FI64 FJ (by omega)
              · show gv_X _ _ (98, [(2, .inl (I64 (p + 1) (Int.toNat v1_5))), (0, .inr (.inr (some p))), (1, .inl v1_5)], [], sh, gc_h sh I64 J A)
                refine gv_run 1 true hD (pc' := 99) (lv' := [(2, .inl (I64 (p + 1) (Int.toNat v1_5))), (0, .inr (.inr (some p))), (1, .inl v1_5)]) (st' := [.inr (.inr (some p))]) (h' := gc_h sh I64 J A) (C := (True ∧ True)) rfl ⟨trivial, trivial⟩ ?_
                obtain ⟨r80, h80, E80, P80⟩ := d_X9_takeNumber (ws0 := ws0) (tb := tb) hws htb sh ro I64 J A hI64 p  hp    (by omega) (by rw [q65]; omega) 
                obtain ⟨I81, J82, rfl, hI81, g80, k80, ⟨rfl, q80⟩⟩ := P80
                have FI81 := gc_frc (W := fun q j => (q = p ∧ j = 5) ∨ (q = p ∧ j = 6) ∨ (q = p ∧ j = 7) ∨ (q = p ∧ j = 8)) (V := fun q j => (q = p ∧ j = 6) ∨ (q = p ∧ j = 7) ∨ (q = p ∧ j = 8)) FI64 (fun q j h => (h.elim (fun h => (Or.inr (Or.inl h))) (fun h => (h.elim (fun h => (Or.inr (Or.inr (Or.inl h)))) (fun h => (Or.inr (Or.inr (Or.inr h)))))))) g80
                have t83 := (g80 p 1).resolve_left (by omega)
                have t84 := (g80 p 5).resolve_left (by omega)
                have f85 := (show 0 ≤ I81 p 1 ∧ I81 p 1 ≤ 1000 from gc_in hI81 R_p rfl rfl)
                have f86 := (show 0 ≤ I81 p 5 ∧ I81 p 5 ≤ 1000 from gc_in hI81 R_p rfl rfl)
                have f87 := (show 0 ≤ I81 p 6 ∧ I81 p 6 ≤ 1001 from gc_in hI81 R_p rfl rfl)
                have f88 := (show 0 ≤ I81 p 7 ∧ I81 p 7 ≤ 125 from gc_in hI81 R_p rfl rfl)
                obtain rfl : J = J82 := funext fun q => funext fun j => ((k80 q j).resolve_left id).symm
                refine gv_callV hD rfl (As := []) (st := []) rfl B_p S_p rfl (gc_lV9 hws rfl) (Nat.le_of_ble_eq_true rfl) (gz_Ev_mono (d := 1) (by decide) E80) ?_
                show gv_X _ _ (102, [(2, .inl (I64 (p + 1) (Int.toNat v1_5))), (0, .inr (.inr (some p))), (1, .inl v1_5)], [], sh, gc_h sh I81 J A)
                refine gv_run 1 true hD (pc' := 141) (lv' := [(2, .inl (I64 (p + 1) (Int.toNat v1_5))), (0, .inr (.inr (some p))), (1, .inl v1_5)]) (st' := []) (h' := gc_h sh I81 J A) (C := (True ∧ True)) rfl ⟨trivial, trivial⟩ ?_
                refine gv_pick [] rfl ?_
                exact L141 I81 J hI81 FI81 FJ (by omega) (fun h => by omega)
          · show gv_X _ _ (79, [(2, .inl (I64 (p + 1) (Int.toNat v1_5))), (0, .inr (.inr (some p))), (1, .inl v1_5)], [], sh, gc_h sh I64 J A)
            refine gv_run 1 true hD (pc' := 80) (lv' := [(2, .inl (I64 (p + 1) (Int.toNat v1_5))), (0, .inr (.inr (some p))), (1, .inl v1_5)]) (st' := [.inr (.inr (some p))]) (h' := gc_h sh I64 J A) (C := (True ∧ True)) rfl ⟨trivial, trivial⟩ ?_
            obtain ⟨r89, h89, E89, P89⟩ := d_X9_takeName (ws0 := ws0) (tb := tb) hws htb sh ro I64 J A hI64 p  hp    (by omega) (by rw [q65]; omega) 
            obtain ⟨I90, J91, rfl, hI90, g89, k89, ⟨rfl, q89⟩⟩ := P89
            have FI90 := gc_frc (W := fun q j => (q = p ∧ j = 5) ∨ (q = p ∧ j = 6) ∨ (q = p ∧ j = 7) ∨ (q = p ∧ j = 8)) (V := fun q j => (q = p ∧ j = 6) ∨ (q = p ∧ j = 7)) FI64 (fun q j h => (h.elim (fun h => (Or.inr (Or.inl h))) (fun h => (Or.inr (Or.inr (Or.inl h)))))) g89
            have FJ91 := gc_frc (W := fun q j => (q = p ∧ j = 9)) (V := fun q j => (q = p ∧ j = 9)) FJ (fun q j h => h) k89
            have t92 := (g89 p 1).resolve_left (by omega)
            have t93 := (g89 p 5).resolve_left (by omega)
            have f94 := (show 0 ≤ I90 p 1 ∧ I90 p 1 ≤ 1000 from gc_in hI90 R_p rfl rfl)
            have f95 := (show 0 ≤ I90 p 5 ∧ I90 p 5 ≤ 1000 from gc_in hI90 R_p rfl rfl)
            have f96 := (show 0 ≤ I90 p 6 ∧ I90 p 6 ≤ 1001 from gc_in hI90 R_p rfl rfl)
            have f97 := (show 0 ≤ I90 p 7 ∧ I90 p 7 ≤ 125 from gc_in hI90 R_p rfl rfl)
            refine gv_callV hD rfl (As := []) (st := []) rfl B_p S_p rfl (gc_lV9 hws rfl) (Nat.le_of_ble_eq_true rfl) (gz_Ev_mono (d := 1) (by decide) E89) ?_
            show gv_X _ _ (83, [(2, .inl (I64 (p + 1) (Int.toNat v1_5))), (0, .inr (.inr (some p))), (1, .inl v1_5)], [], sh, gc_h sh I90 J91 A)
            refine gv_run 1 true hD (pc' := 141) (lv' := [(2, .inl (I64 (p + 1) (Int.toNat v1_5))), (0, .inr (.inr (some p))), (1, .inl v1_5)]) (st' := []) (h' := gc_h sh I90 J91 A) (C := (True ∧ True)) rfl ⟨trivial, trivial⟩ ?_
            refine gv_pick [] rfl ?_
            exact L141 I90 J91 hI90 FI90 FJ91 (by omega) (fun h => by omega)
        · show gv_X _ _ (43, [(0, .inr (.inr (some p))), (1, .inl v1_5)], [], sh, gc_h sh I64 J A)
          refine gv_run 2 true hD (pc' := 45) (lv' := [(0, .inr (.inr (some p))), (1, .inl v1_5)]) (st' := [.inl 4, .inr (.inr (some p))]) (h' := gc_h sh I64 J A) (C := ((True ∧ True) ∧ True)) rfl ⟨⟨trivial, trivial⟩, trivial⟩ ?_
          refine gv_put hD rfl rfl S_p ⟨by decide, B_p⟩ rfl trivial ?_
          refine gc_st (k := 7) hI64 S_p rfl R_p (lo := 0) (hi := 125) rfl rfl (by omega) (by omega) (fun I98 hI98 q99 p99 => ?_)
          have FI98 := gc_frs (W := fun q j => (q = p ∧ j = 5) ∨ (q = p ∧ j = 6) ∨ (q = p ∧ j = 7) ∨ (q = p ∧ j = 8)) FI64 (Or.inr (Or.inr (Or.inl ⟨rfl, rfl⟩))) p99
          have t100 := p99 p 1 (fun h => absurd h.2 (by decide))
          have t101 := p99 p 5 (fun h => absurd h.2 (by decide))
          have t102 := p99 p 6 (fun h => absurd h.2 (by decide))
          have f103 := (show 0 ≤ I98 p 1 ∧ I98 p 1 ≤ 1000 from gc_in hI98 R_p rfl rfl)
          have f104 := (show 0 ≤ I98 p 5 ∧ I98 p 5 ≤ 1000 from gc_in hI98 R_p rfl rfl)
          have f105 := (show 0 ≤ I98 p 6 ∧ I98 p 6 ≤ 1001 from gc_in hI98 R_p rfl rfl)
          have f106 := (show 0 ≤ I98 p 7 ∧ I98 p 7 ≤ 125 from gc_in hI98 R_p rfl rfl)
          show gv_X _ _ (48, [(0, .inr (.inr (some p))), (1, .inl v1_5)], [], sh, gc_h sh I98 J A)
          refine gv_run 2 true hD (pc' := 50) (lv' := [(0, .inr (.inr (some p))), (1, .inl v1_5)]) (st' := [.inr (.inr (some p)), .inr (.inr (some p))]) (h' := gc_h sh I98 J A) (C := ((True ∧ True) ∧ True)) rfl ⟨⟨trivial, trivial⟩, trivial⟩ ?_
          have f107 := (show 0 ≤ I98 p 1 ∧ I98 p 1 ≤ 1000 from gc_in hI98 R_p rfl rfl)
          refine gv_get hD rfl rfl S_p ⟨by decide, B_p⟩ (gc_hI S_p rfl) ?_
          show gv_X _ _ (53, [(0, .inr (.inr (some p))), (1, .inl v1_5)], [.inl (I98 p 1), .inr (.inr (some p))], sh, gc_h sh I98 J A)
          refine gv_put hD rfl rfl S_p ⟨by decide, B_p⟩ rfl trivial ?_
          refine gc_st (k := 5) hI98 S_p rfl R_p (lo := 0) (hi := 1000) rfl rfl (by omega) (by omega) (fun I108 hI108 q109 p109 => ?_)
          have FI108 := gc_frs (W := fun q j => (q = p ∧ j = 5) ∨ (q = p ∧ j = 6) ∨ (q = p ∧ j = 7) ∨ (q = p ∧ j = 8)) FI98 (Or.inl ⟨rfl, rfl⟩) p109
          have t110 := p109 p 1 (fun h => absurd h.2 (by decide))
          have t111 := p109 p 6 (fun h => absurd h.2 (by decide))
          have t112 := p109 p 7 (fun h => absurd h.2 (by decide))
          have f113 := (show 0 ≤ I108 p 1 ∧ I108 p 1 ≤ 1000 from gc_in hI108 R_p rfl rfl)
          have f114 := (show 0 ≤ I108 p 5 ∧ I108 p 5 ≤ 1000 from gc_in hI108 R_p rfl rfl)
          have f115 := (show 0 ≤ I108 p 6 ∧ I108 p 6 ≤ 1001 from gc_in hI108 R_p rfl rfl)
          have f116 := (show 0 ≤ I108 p 7 ∧ I108 p 7 ≤ 125 from gc_in hI108 R_p rfl rfl)
          show gv_X _ _ (56, [(0, .inr (.inr (some p))), (1, .inl v1_5)], [], sh, gc_h sh I108 J A)
          refine gv_run 2 true hD (pc' := 58) (lv' := [(0, .inr (.inr (some p))), (1, .inl v1_5)]) (st' := [.inr (.inr (some p)), .inr (.inr (some p))]) (h' := gc_h sh I108 J A) (C := ((True ∧ True) ∧ True)) rfl ⟨⟨trivial, trivial⟩, trivial⟩ ?_
          have f117 := (show 0 ≤ I108 p 1 ∧ I108 p 1 ≤ 1000 from gc_in hI108 R_p rfl rfl)
          refine gv_get hD rfl rfl S_p ⟨by decide, B_p⟩ (gc_hI S_p rfl) ?_
          show gv_X _ _ (61, [(0, .inr (.inr (some p))), (1, .inl v1_5)], [.inl (I108 p 1), .inr (.inr (some p))], sh, gc_h sh I108 J A)
          refine gv_put hD rfl rfl S_p ⟨by decide, B_p⟩ rfl trivial ?_
          refine gc_st (k := 6) hI108 S_p rfl R_p (lo := 0) (hi := 1001) rfl rfl (by omega) (by omega) (fun I118 hI118 q119 p119 => ?_)
          have FI118 := gc_frs (W := fun q j => (q = p ∧ j = 5) ∨ (q = p ∧ j = 6) ∨ (q = p ∧ j = 7) ∨ (q = p ∧ j = 8)) FI108 (Or.inr (Or.inl ⟨rfl, rfl⟩)) p119
          have t120 := p119 p 1 (fun h => absurd h.2 (by decide))
          have t121 := p119 p 5 (fun h => absurd h.2 (by decide))
          have t122 := p119 p 7 (fun h => absurd h.2 (by decide))
          have f123 := (show 0 ≤ I118 p 1 ∧ I118 p 1 ≤ 1000 from gc_in hI118 R_p rfl rfl)
          have f124 := (show 0 ≤ I118 p 5 ∧ I118 p 5 ≤ 1000 from gc_in hI118 R_p rfl rfl)
          have f125 := (show 0 ≤ I118 p 6 ∧ I118 p 6 ≤ 1001 from gc_in hI118 R_p rfl rfl)
          have f126 := (show 0 ≤ I118 p 7 ∧ I118 p 7 ≤ 125 from gc_in hI118 R_p rfl rfl)
          show gv_X _ _ (64, [(0, .inr (.inr (some p))), (1, .inl v1_5)], [], sh, gc_h sh I118 J A)
          exact gv_vret hD rfl ⟨I118, J, rfl, hI118, FI118, FJ, ⟨rfl, by omega, by omega, by omega, by omega, by omega, by omega, by omega, (fun h => by omega)⟩⟩
      refine gv_run 2 true hD (pc' := 7) (lv' := [(0, .inr (.inr (some p))), (1, .inl v1_5)]) (st' := [.inr (.inr (some p)), .inl v1_5]) (h' := gc_h sh I J A) (C := ((True ∧ True) ∧ True)) rfl ⟨⟨trivial, trivial⟩, trivial⟩ ?_
      have f127 := (show 0 ≤ I p 1 ∧ I p 1 ≤ 1000 from gc_in hI R_p rfl rfl)
      refine gv_get hD rfl rfl S_p ⟨by decide, B_p⟩ (gc_hI S_p rfl) ?_
      show gv_X _ _ (10, [(0, .inr (.inr (some p))), (1, .inl v1_5)], [.inl (I p 1), .inl v1_5], sh, gc_h sh I J A)
      refine gv_icmp_ge (t := 30) hD rfl rfl ⟨⟨by omega, by omega⟩, ⟨by omega, by omega⟩⟩ (fun c128 => ?_) (fun c128 => ?_)
      · show gv_X _ _ (30, [(0, .inr (.inr (some p))), (1, .inl v1_5)], [], sh, gc_h sh I J A)
        exact L30 (by omega)
      · show gv_X _ _ (13, [(0, .inr (.inr (some p))), (1, .inl v1_5)], [], sh, gc_h sh I J A)
        refine gv_run 1 true hD (pc' := 14) (lv' := [(0, .inr (.inr (some p))), (1, .inl v1_5)]) (st' := [.inr (.inr (some p))]) (h' := gc_h sh I J A) (C := (True ∧ True)) rfl ⟨trivial, trivial⟩ ?_
        refine gv_get hD rfl rfl S_p ⟨by decide, B_p⟩ (gc_hA S_p rfl A_p_0) ?_
        show gv_X _ _ (17, [(0, .inr (.inr (some p))), (1, .inl v1_5)], [.inr (.inr (some (p + 1)))], sh, gc_h sh I J A)
        refine gv_run 1 true hD (pc' := 18) (lv' := [(0, .inr (.inr (some p))), (1, .inl v1_5)]) (st' := [.inl v1_5, .inr (.inr (some (p + 1)))]) (h' := gc_h sh I J A) (C := (True ∧ True)) rfl ⟨trivial, trivial⟩ ?_
        have f129 := (show (-128) ≤ I (p + 1) (Int.toNat v1_5) ∧ I (p + 1) (Int.toNat v1_5) ≤ 127 from gc_in hI R_p_1 rfl rfl)
        refine gv_bald hD rfl S_p_1 (Or.inl rfl) ⟨by decide, B_p_1⟩ ⟨by omega, by omega⟩ (gc_iI S_p_1 rfl) ?_
        show gv_X _ _ (19, [(0, .inr (.inr (some p))), (1, .inl v1_5)], [.inl (I (p + 1) (Int.toNat v1_5))], sh, gc_h sh I J A)
        refine gv_run 1 true hD (pc' := 21) (lv' := [(0, .inr (.inr (some p))), (1, .inl v1_5)]) (st' := [.inl 32, .inl (I (p + 1) (Int.toNat v1_5))]) (h' := gc_h sh I J A) (C := (True ∧ True)) rfl ⟨trivial, trivial⟩ ?_
        refine gv_icmp_ne (t := 30) hD rfl rfl ⟨⟨by omega, by omega⟩, ⟨by omega, by omega⟩⟩ (fun c130 => ?_) (fun c130 => ?_)
        · show gv_X _ _ (30, [(0, .inr (.inr (some p))), (1, .inl v1_5)], [], sh, gc_h sh I J A)
          exact L30 (by omega)
        · show gv_X _ _ (24, [(0, .inr (.inr (some p))), (1, .inl v1_5)], [], sh, gc_h sh I J A)
          refine gv_run 2 true hD (pc' := 5) (lv' := [(1, .inl (v1_5 + 1)), (0, .inr (.inr (some p)))]) (st' := []) (h' := gc_h sh I J A) (C := ((True ∧ True) ∧ True)) rfl ⟨⟨trivial, trivial⟩, trivial⟩ ?_
          refine gv_pick [1, 0] rfl ?_
          exact ih5 (v1_5 + 1) (by omega) (by omega)
  refine gv_run 1 true hD (pc' := 1) (lv' := [(0, .inr (.inr (some p)))]) (st' := [.inr (.inr (some p))]) (h' := gc_h sh I J A) (C := (True ∧ True)) rfl ⟨trivial, trivial⟩ ?_
  have f131 := (show 0 ≤ I p 6 ∧ I p 6 ≤ 1001 from gc_in hI R_p rfl rfl)
  refine gv_get hD rfl rfl S_p ⟨by decide, B_p⟩ (gc_hI S_p rfl) ?_
  show gv_X _ _ (4, [(0, .inr (.inr (some p)))], [.inl (I p 6)], sh, gc_h sh I J A)
  refine gv_run 1 true hD (pc' := 5) (lv' := [(1, .inl (I p 6)), (0, .inr (.inr (some p)))]) (st' := []) (h' := gc_h sh I J A) (C := (True ∧ True)) rfl ⟨trivial, trivial⟩ ?_
  refine gv_pick [1, 0] rfl ?_
  exact L5 _ (I p 6) (Nat.lt_succ_self _) (by omega)
set_option maxHeartbeats 4000000 in
set_option maxRecDepth 100000 in
theorem d_X9_rewind {ws0 : List Cond} {tb : String → gz_T} (hws : gc_Ws ws0) (htb : gc_tbs tb) (sh : gz_Sh) (ro : Nat → Nat) (I : gr_I) (J : gr_J) (A : gc_A) (hI : gc_Inv ro I) (p : Nat)  (hp : gc_isText sh ro A p)   : ∃ r h', gz_Ev ws0 tb 3 (yX9_rewind, cX9_rewind, 1, none) [.inr (.inr (some p))] sh (gc_h sh I J A) r sh h' 0 0 ∧ (∃ (I' : gr_I) (J' : gr_J), h' = gc_h sh I' J' A ∧ gc_Inv ro I' ∧ (∀ q j : Nat, ((q = p ∧ j = 5) ∨ (q = p ∧ j = 6) ∨ (q = p ∧ j = 7) ∨ (q = p ∧ j = 8)) ∨ I' q j = I q j) ∧ (∀ q j : Nat, ((q = p ∧ j = 9)) ∨ J' q j = J q j) ∧ r = none ∧ (I' p 5 ≤ I' p 6) ∧ (I' p 7 = 5 ∨ I' p 6 ≤ I' p 1) ∧ (I' p 5 ≤ I' p 1) ∧ (I' p 7 = 4 ∨ (I' p 5 < I' p 6 ∧ I' p 5 < I' p 1)) ∧ (I' p 7 = 3 → 2 ≤ I' p 6 - I' p 5 ∧ I' p 6 - I' p 5 ≤ 14) ∧ (I' p 1 = I p 1) ∧ (I' p 7 = 3 → gc_lt p I' (I' p 5) (I' p 6 - 1))) := by
  have FI : ∀ q j : Nat, ((q = p ∧ j = 5) ∨ (q = p ∧ j = 6) ∨ (q = p ∧ j = 7) ∨ (q = p ∧ j = 8)) ∨ I q j = I q j := fun _ _ => Or.inr rfl
  have FJ : ∀ q j : Nat, ((q = p ∧ j = 9)) ∨ J q j = J q j := fun _ _ => Or.inr rfl
  obtain ⟨S_p, R_p, B_p, A_p_0, S_p_1, R_p_1, B_p_1, A_p_2, S_p_2, R_p_2, B_p_2, A_p_3, S_p_3, R_p_3, B_p_3⟩ := id hp
  have hD : gv_D (gc_E9 ws0 tb 2 (yX9_rewind, cX9_rewind, 1, none) kX9_rewind) := gq_ok oX9_rewind
  refine gc_ev9 (d := 2) (l := kX9_rewind) (Po := fun r h' => (∃ (I' : gr_I) (J' : gr_J), h' = gc_h sh I' J' A ∧ gc_Inv ro I' ∧ (∀ q j : Nat, ((q = p ∧ j = 5) ∨ (q = p ∧ j = 6) ∨ (q = p ∧ j = 7) ∨ (q = p ∧ j = 8)) ∨ I' q j = I q j) ∧ (∀ q j : Nat, ((q = p ∧ j = 9)) ∨ J' q j = J q j) ∧ r = none ∧ (I' p 5 ≤ I' p 6) ∧ (I' p 7 = 5 ∨ I' p 6 ≤ I' p 1) ∧ (I' p 5 ≤ I' p 1) ∧ (I' p 7 = 4 ∨ (I' p 5 < I' p 6 ∧ I' p 5 < I' p 1)) ∧ (I' p 7 = 3 → 2 ≤ I' p 6 - I' p 5 ∧ I' p 6 - I' p 5 ≤ 14) ∧ (I' p 1 = I p 1) ∧ (I' p 7 = 3 → gc_lt p I' (I' p 5) (I' p 6 - 1)))) htb rfl (Nat.le_of_ble_eq_true rfl) ?_
  have f1 := (show 0 ≤ I p 1 ∧ I p 1 ≤ 1000 from gc_in hI R_p rfl rfl)
  have f2 := (show 0 ≤ I p 5 ∧ I p 5 ≤ 1000 from gc_in hI R_p rfl rfl)
  have f3 := (show 0 ≤ I p 6 ∧ I p 6 ≤ 1001 from gc_in hI R_p rfl rfl)
  have f4 := (show 0 ≤ I p 7 ∧ I p 7 ≤ 125 from gc_in hI R_p rfl rfl)
  refine gv_run 2 true hD (pc' := 2) (lv' := [(0, .inr (.inr (some p)))]) (st' := [.inl 0, .inr (.inr (some p))]) (h' := gc_h sh I J A) (C := ((True ∧ True) ∧ True)) rfl ⟨⟨trivial, trivial⟩, trivial⟩ ?_
  refine gv_put hD rfl rfl S_p ⟨by decide, B_p⟩ rfl trivial ?_
  refine gc_st (k := 6) hI S_p rfl R_p (lo := 0) (hi := 1001) rfl rfl (by omega) (by omega) (fun I5 hI5 q6 p6 => ?_)
  have FI5 := gc_frs (W := fun q j => (q = p ∧ j = 5) ∨ (q = p ∧ j = 6) ∨ (q = p ∧ j = 7) ∨ (q = p ∧ j = 8)) FI (Or.inr (Or.inl ⟨rfl, rfl⟩)) p6
  have t7 := p6 p 1 (fun h => absurd h.2 (by decide))
  have t8 := p6 p 5 (fun h => absurd h.2 (by decide))
  have t9 := p6 p 7 (fun h => absurd h.2 (by decide))
  have f10 := (show 0 ≤ I5 p 1 ∧ I5 p 1 ≤ 1000 from gc_in hI5 R_p rfl rfl)
  have f11 := (show 0 ≤ I5 p 5 ∧ I5 p 5 ≤ 1000 from gc_in hI5 R_p rfl rfl)
  have f12 := (show 0 ≤ I5 p 6 ∧ I5 p 6 ≤ 1001 from gc_in hI5 R_p rfl rfl)
  have f13 := (show 0 ≤ I5 p 7 ∧ I5 p 7 ≤ 125 from gc_in hI5 R_p rfl rfl)
  show gv_X _ _ (5, [(0, .inr (.inr (some p)))], [], sh, gc_h sh I5 J A)
  refine gv_run 1 true hD (pc' := 6) (lv' := [(0, .inr (.inr (some p)))]) (st' := [.inr (.inr (some p))]) (h' := gc_h sh I5 J A) (C := (True ∧ True)) rfl ⟨trivial, trivial⟩ ?_
  obtain ⟨r14, h14, E14, P14⟩ := d_X9_advance (ws0 := ws0) (tb := tb) hws htb sh ro I5 J A hI5 p  hp    (by omega) 
  obtain ⟨I15, J16, rfl, hI15, g14, k14, ⟨rfl, q14⟩⟩ := P14
  have FI15 := gc_frc (W := fun q j => (q = p ∧ j = 5) ∨ (q = p ∧ j = 6) ∨ (q = p ∧ j = 7) ∨ (q = p ∧ j = 8)) (V := fun q j => (q = p ∧ j = 5) ∨ (q = p ∧ j = 6) ∨ (q = p ∧ j = 7) ∨ (q = p ∧ j = 8)) FI5 (fun q j h => (h.elim (fun h => (Or.inl h)) (fun h => (h.elim (fun h => (Or.inr (Or.inl h))) (fun h => (h.elim (fun h => (Or.inr (Or.inr (Or.inl h)))) (fun h => (Or.inr (Or.inr (Or.inr h)))))))))) g14
  have FJ16 := gc_frc (W := fun q j => (q = p ∧ j = 9)) (V := fun q j => (q = p ∧ j = 9)) FJ (fun q j h => h) k14
  have t17 := (g14 p 1).resolve_left (by omega)
  have f18 := (show 0 ≤ I15 p 1 ∧ I15 p 1 ≤ 1000 from gc_in hI15 R_p rfl rfl)
  have f19 := (show 0 ≤ I15 p 5 ∧ I15 p 5 ≤ 1000 from gc_in hI15 R_p rfl rfl)
  have f20 := (show 0 ≤ I15 p 6 ∧ I15 p 6 ≤ 1001 from gc_in hI15 R_p rfl rfl)
  have f21 := (show 0 ≤ I15 p 7 ∧ I15 p 7 ≤ 125 from gc_in hI15 R_p rfl rfl)
  refine gv_callV hD rfl (As := []) (st := []) rfl B_p S_p rfl (gc_lV9 hws rfl) (Nat.le_of_ble_eq_true rfl) (gz_Ev_mono (d := 2) (by decide) E14) ?_
  show gv_X _ _ (9, [(0, .inr (.inr (some p)))], [], sh, gc_h sh I15 J16 A)
  exact gv_vret hD rfl ⟨I15, J16, rfl, hI15, FI15, FJ16, ⟨rfl, by omega, by omega, by omega, by omega, by omega, by omega, q14.2.2.2.2.2.2.2⟩⟩
set_option maxHeartbeats 4000000 in
set_option maxRecDepth 100000 in
theorem d_X9_onlyName {ws0 : List Cond} {tb : String → gz_T} (hws : gc_Ws ws0) (htb : gc_tbs tb) (sh : gz_Sh) (ro : Nat → Nat) (I : gr_I) (J : gr_J) (A : gc_A) (hI : gc_Inv ro I) (p : Nat)  (hp : gc_isText sh ro A p)   : ∃ r h', gz_Ev ws0 tb 4 (yX9_onlyName, cX9_onlyName, 3, (some .long)) [.inr (.inr (some p))] sh (gc_h sh I J A) r sh h' 0 0 ∧ (∃ (I' : gr_I) (J' : gr_J), h' = gc_h sh I' J' A ∧ gc_Inv ro I' ∧ (∀ q j : Nat, ((q = p ∧ j = 5) ∨ (q = p ∧ j = 6) ∨ (q = p ∧ j = 7) ∨ (q = p ∧ j = 8)) ∨ I' q j = I q j) ∧ (∀ q j : Nat, ((q = p ∧ j = 9)) ∨ J' q j = J q j) ∧ (∃ z : Int64, r = some (.inr (.inl z)) ∧ (I' p 5 ≤ I' p 6) ∧ (I' p 7 = 5 ∨ I' p 6 ≤ I' p 1) ∧ (I' p 5 ≤ I' p 1) ∧ (I' p 7 = 4 ∨ (I' p 5 < I' p 6 ∧ I' p 5 < I' p 1)) ∧ (I' p 7 = 3 → 2 ≤ I' p 6 - I' p 5 ∧ I' p 6 - I' p 5 ≤ 14) ∧ (I' p 1 = I p 1))) := by
  have FI : ∀ q j : Nat, ((q = p ∧ j = 5) ∨ (q = p ∧ j = 6) ∨ (q = p ∧ j = 7) ∨ (q = p ∧ j = 8)) ∨ I q j = I q j := fun _ _ => Or.inr rfl
  have FJ : ∀ q j : Nat, ((q = p ∧ j = 9)) ∨ J q j = J q j := fun _ _ => Or.inr rfl
  obtain ⟨S_p, R_p, B_p, A_p_0, S_p_1, R_p_1, B_p_1, A_p_2, S_p_2, R_p_2, B_p_2, A_p_3, S_p_3, R_p_3, B_p_3⟩ := id hp
  have hD : gv_D (gc_E9 ws0 tb 3 (yX9_onlyName, cX9_onlyName, 3, (some .long)) kX9_onlyName) := gq_ok oX9_onlyName
  refine gc_ev9 (d := 3) (l := kX9_onlyName) (Po := fun r h' => (∃ (I' : gr_I) (J' : gr_J), h' = gc_h sh I' J' A ∧ gc_Inv ro I' ∧ (∀ q j : Nat, ((q = p ∧ j = 5) ∨ (q = p ∧ j = 6) ∨ (q = p ∧ j = 7) ∨ (q = p ∧ j = 8)) ∨ I' q j = I q j) ∧ (∀ q j : Nat, ((q = p ∧ j = 9)) ∨ J' q j = J q j) ∧ (∃ z : Int64, r = some (.inr (.inl z)) ∧ (I' p 5 ≤ I' p 6) ∧ (I' p 7 = 5 ∨ I' p 6 ≤ I' p 1) ∧ (I' p 5 ≤ I' p 1) ∧ (I' p 7 = 4 ∨ (I' p 5 < I' p 6 ∧ I' p 5 < I' p 1)) ∧ (I' p 7 = 3 → 2 ≤ I' p 6 - I' p 5 ∧ I' p 6 - I' p 5 ≤ 14) ∧ (I' p 1 = I p 1)))) htb rfl (Nat.le_of_ble_eq_true rfl) ?_
  have f1 := (show 0 ≤ I p 1 ∧ I p 1 ≤ 1000 from gc_in hI R_p rfl rfl)
  have f2 := (show 0 ≤ I p 5 ∧ I p 5 ≤ 1000 from gc_in hI R_p rfl rfl)
  have f3 := (show 0 ≤ I p 6 ∧ I p 6 ≤ 1001 from gc_in hI R_p rfl rfl)
  have f4 := (show 0 ≤ I p 7 ∧ I p 7 ≤ 125 from gc_in hI R_p rfl rfl)
  have L36 : ∀ (I5 : gr_I) (J6 : gr_J) (s0_7 : Int64), gc_Inv ro I5 → (∀ q j : Nat, ((q = p ∧ j = 5) ∨ (q = p ∧ j = 6) ∨ (q = p ∧ j = 7) ∨ (q = p ∧ j = 8)) ∨ I5 q j = I q j) → (∀ q j : Nat, ((q = p ∧ j = 9)) ∨ J6 q j = J q j) → ((I5 p 5 ≤ I5 p 6) ∧ (I5 p 7 = 5 ∨ I5 p 6 ≤ I5 p 1) ∧ (I5 p 5 ≤ I5 p 1) ∧ (I5 p 7 = 4 ∨ (I5 p 5 < I5 p 6 ∧ I5 p 5 < I5 p 1)) ∧ (I5 p 7 = 3 → 2 ≤ I5 p 6 - I5 p 5 ∧ I5 p 6 - I5 p 5 ≤ 14) ∧ (I5 p 1 = I p 1)) → gv_X (gc_E9 ws0 tb 3 (yX9_onlyName, cX9_onlyName, 3, (some .long)) kX9_onlyName) (gv_Q cX9_onlyName (some .long) sh (fun r h' => (∃ (I' : gr_I) (J' : gr_J), h' = gc_h sh I' J' A ∧ gc_Inv ro I' ∧ (∀ q j : Nat, ((q = p ∧ j = 5) ∨ (q = p ∧ j = 6) ∨ (q = p ∧ j = 7) ∨ (q = p ∧ j = 8)) ∨ I' q j = I q j) ∧ (∀ q j : Nat, ((q = p ∧ j = 9)) ∨ J' q j = J q j) ∧ (∃ z : Int64, r = some (.inr (.inl z)) ∧ (I' p 5 ≤ I' p 6) ∧ (I' p 7 = 5 ∨ I' p 6 ≤ I' p 1) ∧ (I' p 5 ≤ I' p 1) ∧ (I' p 7 = 4 ∨ (I' p 5 < I' p 6 ∧ I' p 5 < I' p 1)) ∧ (I' p 7 = 3 → 2 ≤ I' p 6 - I' p 5 ∧ I' p 6 - I' p 5 ≤ 14) ∧ (I' p 1 = I p 1))))) (36, [], [.inr (.inl s0_7)], sh, gc_h sh I5 J6 A) := by
    intro I5 J6 s0_7 hI5 FI5 FJ6 m_7
    obtain ⟨e0_7, e1_7, e2_7, e3_7, e4_7, e5_7⟩ := m_7
    have f8 := (show 0 ≤ I5 p 1 ∧ I5 p 1 ≤ 1000 from gc_in hI5 R_p rfl rfl)
    have f9 := (show 0 ≤ I5 p 5 ∧ I5 p 5 ≤ 1000 from gc_in hI5 R_p rfl rfl)
    have f10 := (show 0 ≤ I5 p 6 ∧ I5 p 6 ≤ 1001 from gc_in hI5 R_p rfl rfl)
    have f11 := (show 0 ≤ I5 p 7 ∧ I5 p 7 ≤ 125 from gc_in hI5 R_p rfl rfl)
    exact gv_lret hD rfl ⟨I5, J6, rfl, hI5, FI5, FJ6, ⟨_, rfl, by omega, by omega, by omega, by omega, by omega, by omega⟩⟩
  refine gv_run 1 true hD (pc' := 1) (lv' := [(0, .inr (.inr (some p)))]) (st' := [.inr (.inr (some p))]) (h' := gc_h sh I J A) (C := (True ∧ True)) rfl ⟨trivial, trivial⟩ ?_
  obtain ⟨r12, h12, E12, P12⟩ := d_X9_rewind (ws0 := ws0) (tb := tb) hws htb sh ro I J A hI p  hp     
  obtain ⟨I13, J14, rfl, hI13, g12, k12, ⟨rfl, q12⟩⟩ := P12
  have FI13 := gc_frc (W := fun q j => (q = p ∧ j = 5) ∨ (q = p ∧ j = 6) ∨ (q = p ∧ j = 7) ∨ (q = p ∧ j = 8)) (V := fun q j => (q = p ∧ j = 5) ∨ (q = p ∧ j = 6) ∨ (q = p ∧ j = 7) ∨ (q = p ∧ j = 8)) FI (fun q j h => (h.elim (fun h => (Or.inl h)) (fun h => (h.elim (fun h => (Or.inr (Or.inl h))) (fun h => (h.elim (fun h => (Or.inr (Or.inr (Or.inl h)))) (fun h => (Or.inr (Or.inr (Or.inr h)))))))))) g12
  have FJ14 := gc_frc (W := fun q j => (q = p ∧ j = 9)) (V := fun q j => (q = p ∧ j = 9)) FJ (fun q j h => h) k12
  have t15 := (g12 p 1).resolve_left (by omega)
  have f16 := (show 0 ≤ I13 p 1 ∧ I13 p 1 ≤ 1000 from gc_in hI13 R_p rfl rfl)
  have f17 := (show 0 ≤ I13 p 5 ∧ I13 p 5 ≤ 1000 from gc_in hI13 R_p rfl rfl)
  have f18 := (show 0 ≤ I13 p 6 ∧ I13 p 6 ≤ 1001 from gc_in hI13 R_p rfl rfl)
  have f19 := (show 0 ≤ I13 p 7 ∧ I13 p 7 ≤ 125 from gc_in hI13 R_p rfl rfl)
  refine gv_callV hD rfl (As := []) (st := []) rfl B_p S_p rfl (gc_lV9 hws rfl) (Nat.le_of_ble_eq_true rfl) (gz_Ev_mono (d := 3) (by decide) E12) ?_
  show gv_X _ _ (4, [(0, .inr (.inr (some p)))], [], sh, gc_h sh I13 J14 A)
  refine gv_run 1 true hD (pc' := 5) (lv' := [(0, .inr (.inr (some p)))]) (st' := [.inr (.inr (some p))]) (h' := gc_h sh I13 J14 A) (C := (True ∧ True)) rfl ⟨trivial, trivial⟩ ?_
  have f20 := (show 0 ≤ I13 p 7 ∧ I13 p 7 ≤ 125 from gc_in hI13 R_p rfl rfl)
  refine gv_get hD rfl rfl S_p ⟨by decide, B_p⟩ (gc_hI S_p rfl) ?_
  show gv_X _ _ (8, [(0, .inr (.inr (some p)))], [.inl (I13 p 7)], sh, gc_h sh I13 J14 A)
  refine gv_run 1 true hD (pc' := 9) (lv' := [(0, .inr (.inr (some p)))]) (st' := [.inl 1, .inl (I13 p 7)]) (h' := gc_h sh I13 J14 A) (C := (True ∧ True)) rfl ⟨trivial, trivial⟩ ?_
  refine gv_icmp_eq (t := 14) hD rfl rfl ⟨⟨by omega, by omega⟩, ⟨by omega, by omega⟩⟩ (fun c21 => ?_) (fun c21 => ?_)
  · show gv_X _ _ (14, [(0, .inr (.inr (some p)))], [], sh, gc_h sh I13 J14 A)
    refine gv_run 1 true hD (pc' := 15) (lv' := [(0, .inr (.inr (some p)))]) (st' := [.inr (.inr (some p))]) (h' := gc_h sh I13 J14 A) (C := (True ∧ True)) rfl ⟨trivial, trivial⟩ ?_
    refine gv_get hD rfl rfl S_p ⟨by decide, B_p⟩ (gc_hJ S_p rfl) ?_
    show gv_X _ _ (18, [(0, .inr (.inr (some p)))], [.inr (.inl (J14 p 9))], sh, gc_h sh I13 J14 A)
    refine gv_run 2 true hD (pc' := 20) (lv' := [(1, .inr (.inl (J14 p 9))), (0, .inr (.inr (some p)))]) (st' := [.inr (.inr (some p))]) (h' := gc_h sh I13 J14 A) (C := ((True ∧ True) ∧ True)) rfl ⟨⟨trivial, trivial⟩, trivial⟩ ?_
    obtain ⟨r22, h22, E22, P22⟩ := d_X9_advance (ws0 := ws0) (tb := tb) hws htb sh ro I13 J14 A hI13 p  hp    (by omega) 
    obtain ⟨I23, J24, rfl, hI23, g22, k22, ⟨rfl, q22⟩⟩ := P22
    have FI23 := gc_frc (W := fun q j => (q = p ∧ j = 5) ∨ (q = p ∧ j = 6) ∨ (q = p ∧ j = 7) ∨ (q = p ∧ j = 8)) (V := fun q j => (q = p ∧ j = 5) ∨ (q = p ∧ j = 6) ∨ (q = p ∧ j = 7) ∨ (q = p ∧ j = 8)) FI13 (fun q j h => (h.elim (fun h => (Or.inl h)) (fun h => (h.elim (fun h => (Or.inr (Or.inl h))) (fun h => (h.elim (fun h => (Or.inr (Or.inr (Or.inl h)))) (fun h => (Or.inr (Or.inr (Or.inr h)))))))))) g22
    have FJ24 := gc_frc (W := fun q j => (q = p ∧ j = 9)) (V := fun q j => (q = p ∧ j = 9)) FJ14 (fun q j h => h) k22
    have t25 := (g22 p 1).resolve_left (by omega)
    have f26 := (show 0 ≤ I23 p 1 ∧ I23 p 1 ≤ 1000 from gc_in hI23 R_p rfl rfl)
    have f27 := (show 0 ≤ I23 p 5 ∧ I23 p 5 ≤ 1000 from gc_in hI23 R_p rfl rfl)
    have f28 := (show 0 ≤ I23 p 6 ∧ I23 p 6 ≤ 1001 from gc_in hI23 R_p rfl rfl)
    have f29 := (show 0 ≤ I23 p 7 ∧ I23 p 7 ≤ 125 from gc_in hI23 R_p rfl rfl)
    refine gv_callV hD rfl (As := []) (st := []) rfl B_p S_p rfl (gc_lV9 hws rfl) (Nat.le_of_ble_eq_true rfl) (gz_Ev_mono (d := 2) (by decide) E22) ?_
    show gv_X _ _ (23, [(1, .inr (.inl (J14 p 9))), (0, .inr (.inr (some p)))], [], sh, gc_h sh I23 J24 A)
    refine gv_run 1 true hD (pc' := 24) (lv' := [(1, .inr (.inl (J14 p 9))), (0, .inr (.inr (some p)))]) (st' := [.inr (.inr (some p))]) (h' := gc_h sh I23 J24 A) (C := (True ∧ True)) rfl ⟨trivial, trivial⟩ ?_
    have f30 := (show 0 ≤ I23 p 7 ∧ I23 p 7 ≤ 125 from gc_in hI23 R_p rfl rfl)
    refine gv_get hD rfl rfl S_p ⟨by decide, B_p⟩ (gc_hI S_p rfl) ?_
    show gv_X _ _ (27, [(1, .inr (.inl (J14 p 9))), (0, .inr (.inr (some p)))], [.inl (I23 p 7)], sh, gc_h sh I23 J24 A)
    refine gv_run 1 true hD (pc' := 28) (lv' := [(1, .inr (.inl (J14 p 9))), (0, .inr (.inr (some p)))]) (st' := [.inl 4, .inl (I23 p 7)]) (h' := gc_h sh I23 J24 A) (C := (True ∧ True)) rfl ⟨trivial, trivial⟩ ?_
    refine gv_icmp_ne (t := 35) hD rfl rfl ⟨⟨by omega, by omega⟩, ⟨by omega, by omega⟩⟩ (fun c31 => ?_) (fun c31 => ?_)
    · show gv_X _ _ (35, [(1, .inr (.inl (J14 p 9))), (0, .inr (.inr (some p)))], [], sh, gc_h sh I23 J24 A)
      refine gv_run 1 true hD (pc' := 36) (lv' := [(1, .inr (.inl (J14 p 9))), (0, .inr (.inr (some p)))]) (st' := [.inr (.inl (Int64.ofNat 0))]) (h' := gc_h sh I23 J24 A) (C := (True ∧ True)) rfl ⟨trivial, trivial⟩ ?_
      refine gv_pick [] rfl ?_
      exact L36 I23 J24 (Int64.ofNat 0) hI23 FI23 FJ24 (by omega)
    · show gv_X _ _ (31, [(1, .inr (.inl (J14 p 9))), (0, .inr (.inr (some p)))], [], sh, gc_h sh I23 J24 A)
      refine gv_run 2 true hD (pc' := 36) (lv' := [(1, .inr (.inl (J14 p 9))), (0, .inr (.inr (some p)))]) (st' := [.inr (.inl (J14 p 9))]) (h' := gc_h sh I23 J24 A) (C := ((True ∧ True) ∧ True)) rfl ⟨⟨trivial, trivial⟩, trivial⟩ ?_
      refine gv_pick [] rfl ?_
      exact L36 I23 J24 (J14 p 9) hI23 FI23 FJ24 (by omega)
  · show gv_X _ _ (12, [(0, .inr (.inr (some p)))], [], sh, gc_h sh I13 J14 A)
    refine gv_run 1 true hD (pc' := 13) (lv' := [(0, .inr (.inr (some p)))]) (st' := [.inr (.inl (Int64.ofNat 0))]) (h' := gc_h sh I13 J14 A) (C := (True ∧ True)) rfl ⟨trivial, trivial⟩ ?_
    exact gv_lret hD rfl ⟨I13, J14, rfl, hI13, FI13, FJ14, ⟨_, rfl, by omega, by omega, by omega, by omega, by omega, by omega⟩⟩
