theorem gc_b2 {sh : gz_Sh} {ro : Nat → Nat} {A : gc_A} (hb : gc_Base sh ro A) : gc_isNames sh ro A 2 32 9 := ⟨gc_bS hb rfl, gc_bR hb (by decide) rfl, by decide, gc_bA hb rfl, gc_bS hb rfl, gc_bR hb (by decide) rfl, by decide, rfl, rfl, by decide⟩
theorem gc_b4 {sh : gz_Sh} {ro : Nat → Nat} {A : gc_A} (hb : gc_Base sh ro A) : gc_isNames sh ro A 4 96 11 := ⟨gc_bS hb rfl, gc_bR hb (by decide) rfl, by decide, gc_bA hb rfl, gc_bS hb rfl, gc_bR hb (by decide) rfl, by decide, rfl, rfl, by decide⟩
theorem gc_b6 {sh : gz_Sh} {ro : Nat → Nat} {A : gc_A} (hb : gc_Base sh ro A) : gc_isNames sh ro A 6 8 6 := ⟨gc_bS hb rfl, gc_bR hb (by decide) rfl, by decide, gc_bA hb rfl, gc_bS hb rfl, gc_bR hb (by decide) rfl, by decide, rfl, rfl, by decide⟩
theorem gc_b8 {sh : gz_Sh} {ro : Nat → Nat} {A : gc_A} (hb : gc_Base sh ro A) : gc_isNames sh ro A 8 8 6 := ⟨gc_bS hb rfl, gc_bR hb (by decide) rfl, by decide, gc_bA hb rfl, gc_bS hb rfl, gc_bR hb (by decide) rfl, by decide, rfl, rfl, by decide⟩
theorem gc_b23 {sh : gz_Sh} {ro : Nat → Nat} {A : gc_A} (hb : gc_Base sh ro A) : gc_isText sh ro A 23 := ⟨gc_bS hb rfl, gc_bR hb (by decide) rfl, by decide, gc_bA hb rfl, gc_bS hb rfl, gc_bR hb (by decide) rfl, by decide, gc_bA hb rfl, gc_bS hb rfl, gc_bR hb (by decide) rfl, by decide, gc_bA hb rfl, gc_bS hb rfl, gc_bR hb (by decide) rfl, by decide⟩
theorem gc_b27 {sh : gz_Sh} {ro : Nat → Nat} {A : gc_A} (hb : gc_Base sh ro A) : gc_isText sh ro A 27 := ⟨gc_bS hb rfl, gc_bR hb (by decide) rfl, by decide, gc_bA hb rfl, gc_bS hb rfl, gc_bR hb (by decide) rfl, by decide, gc_bA hb rfl, gc_bS hb rfl, gc_bR hb (by decide) rfl, by decide, gc_bA hb rfl, gc_bS hb rfl, gc_bR hb (by decide) rfl, by decide⟩
theorem gc_b31 {sh : gz_Sh} {ro : Nat → Nat} {A : gc_A} (hb : gc_Base sh ro A) : gc_isText sh ro A 31 := ⟨gc_bS hb rfl, gc_bR hb (by decide) rfl, by decide, gc_bA hb rfl, gc_bS hb rfl, gc_bR hb (by decide) rfl, by decide, gc_bA hb rfl, gc_bS hb rfl, gc_bR hb (by decide) rfl, by decide, gc_bA hb rfl, gc_bS hb rfl, gc_bR hb (by decide) rfl, by decide⟩
theorem gc_b35 {sh : gz_Sh} {ro : Nat → Nat} {A : gc_A} (hb : gc_Base sh ro A) : gc_isText sh ro A 35 := ⟨gc_bS hb rfl, gc_bR hb (by decide) rfl, by decide, gc_bA hb rfl, gc_bS hb rfl, gc_bR hb (by decide) rfl, by decide, gc_bA hb rfl, gc_bS hb rfl, gc_bR hb (by decide) rfl, by decide, gc_bA hb rfl, gc_bS hb rfl, gc_bR hb (by decide) rfl, by decide⟩
theorem gc_b106 {sh : gz_Sh} {ro : Nat → Nat} {A : gc_A} (hb : gc_Base sh ro A) : gc_isText sh ro A 106 := ⟨gc_bS hb rfl, gc_bR hb (by decide) rfl, by decide, gc_bA hb rfl, gc_bS hb rfl, gc_bR hb (by decide) rfl, by decide, gc_bA hb rfl, gc_bS hb rfl, gc_bR hb (by decide) rfl, by decide, gc_bA hb rfl, gc_bS hb rfl, gc_bR hb (by decide) rfl, by decide⟩
def gc_ge (n : Nat) (I : gr_I) (m : Int) : Prop := ∀ k : Int, 0 ≤ k → k < m → 1 ≤ I n (Int.toNat k)
theorem gc_ge_fr {n : Nat} {I I' : gr_I} {m : Int} (h : gc_ge n I m) (hf : ∀ k, I' n k = I n k) : gc_ge n I' m := fun k a b => by rw [hf]; exact h k a b
theorem gc_ge_push {n : Nat} {I I' : gr_I} {m : Int} (h : gc_ge n I m) (h0 : 0 ≤ m) (p : ∀ q j, ¬ (q = n ∧ j = Int.toNat m) → I' q j = I q j) (hz : 1 ≤ I' n (Int.toNat m)) : gc_ge n I' (m + 1) := fun k a b => by
  by_cases hk : k = m
  · rw [hk]; exact hz
  · rw [p n (Int.toNat k) (fun q => by have := q.2; omega)]
    exact h k a (by omega)
theorem gc_ge_pop {n : Nat} {I : gr_I} {m : Int} (h : gc_ge n I m) : gc_ge n I (m + (-1)) := fun k a b => h k a (by omega)
theorem gc_ge_set {n : Nat} {I I' : gr_I} {m : Int} (h : gc_ge n I m) (h0 : 0 < m) (p : ∀ q j, ¬ (q = n ∧ j = Int.toNat (m - 1)) → I' q j = I q j) (hz : 1 ≤ I' n (Int.toNat (m - 1))) : gc_ge n I' m := fun k a b => by
  by_cases hk : k = m - 1
  · rw [hk]; exact hz
  · rw [p n (Int.toNat k) (fun q => by have := q.2; omega)]
    exact h k a b
set_option maxHeartbeats 4000000 in
set_option maxRecDepth 100000 in
theorem d_X8_keepByte {ws0 : List Cond} {tb : String → gz_T} (hws : gc_Ws ws0) (htb : gc_tbs tb) (sh : gz_Sh) (ro : Nat → Nat) (I : gr_I) (J : gr_J) (A : gc_A) (hI : gc_Inv ro I) (a1 : Int) (hb : gc_Base sh ro A) (ha1 : 0 ≤ a1 ∧ a1 ≤ 127)  : ∃ r h', gz_Ev ws0 tb 1 (yX8_keepByte, cX8_keepByte, 2, none) [.inr (.inr (some 1)), .inl a1] sh (gc_h sh I J A) r sh h' 0 0 ∧ (∃ (I' : gr_I) (J' : gr_J), h' = gc_h sh I' J' A ∧ gc_Inv ro I' ∧ (∀ q j : Nat, ((q = 1 ∧ j = 17) ∨ (q = 1 ∧ j = 18) ∨ q = 20) ∨ I' q j = I q j) ∧ (∀ q j : Nat, (False) ∨ J' q j = J q j) ∧ r = none ∧ (I 1 17 ≤ I' 1 17) ∧ (I' 1 17 ≤ I 1 17 + 1)) := by
  have FI : ∀ q j : Nat, ((q = 1 ∧ j = 17) ∨ (q = 1 ∧ j = 18) ∨ q = 20) ∨ I q j = I q j := fun _ _ => Or.inr rfl
  have FJ : ∀ q j : Nat, (False) ∨ J q j = J q j := fun _ _ => Or.inr rfl
  have A_1_16 : A 1 16 = some 20 := gc_bA hb rfl
  have B_1 : 1 < 1000000 := by decide
  have B_20 : 20 < 1000000 := by decide
  have R_1 : ro 1 = 22 := gc_bR hb (by decide) rfl
  have R_20 : ro 20 = 36 := gc_bR hb (by decide) rfl
  have S_1 : sh[1]? = some (false, 8, 21) := gc_bS hb rfl
  have S_20 : sh[20]? = some (true, 0, 12000) := gc_bS hb rfl
  have hD : gv_D (gc_E8 ws0 tb 0 (yX8_keepByte, cX8_keepByte, 2, none) kX8_keepByte) := gq_ok oX8_keepByte
  refine gc_ev8 (d := 0) (l := kX8_keepByte) (Po := fun r h' => (∃ (I' : gr_I) (J' : gr_J), h' = gc_h sh I' J' A ∧ gc_Inv ro I' ∧ (∀ q j : Nat, ((q = 1 ∧ j = 17) ∨ (q = 1 ∧ j = 18) ∨ q = 20) ∨ I' q j = I q j) ∧ (∀ q j : Nat, (False) ∨ J' q j = J q j) ∧ r = none ∧ (I 1 17 ≤ I' 1 17) ∧ (I' 1 17 ≤ I 1 17 + 1))) htb rfl (Nat.le_of_ble_eq_true rfl) ?_
  have f1 := (show 0 ≤ I 1 17 ∧ I 1 17 ≤ 12000 from gc_in hI R_1 rfl rfl)
  have L36 : ∀ (I2 : gr_I) (J3 : gr_J) , gc_Inv ro I2 → (∀ q j : Nat, ((q = 1 ∧ j = 17) ∨ (q = 1 ∧ j = 18) ∨ q = 20) ∨ I2 q j = I q j) → (∀ q j : Nat, (False) ∨ J3 q j = J q j) → ((I 1 17 ≤ I2 1 17) ∧ (I2 1 17 ≤ I 1 17 + 1)) → gv_X (gc_E8 ws0 tb 0 (yX8_keepByte, cX8_keepByte, 2, none) kX8_keepByte) (gv_Q cX8_keepByte none sh (fun r h' => (∃ (I' : gr_I) (J' : gr_J), h' = gc_h sh I' J' A ∧ gc_Inv ro I' ∧ (∀ q j : Nat, ((q = 1 ∧ j = 17) ∨ (q = 1 ∧ j = 18) ∨ q = 20) ∨ I' q j = I q j) ∧ (∀ q j : Nat, (False) ∨ J' q j = J q j) ∧ r = none ∧ (I 1 17 ≤ I' 1 17) ∧ (I' 1 17 ≤ I 1 17 + 1)))) (36, [], [], sh, gc_h sh I2 J3 A) := by
    intro I2 J3 hI2 FI2 FJ3 m_4
    obtain ⟨e0_4, e1_4⟩ := m_4
    have f5 := (show 0 ≤ I2 1 17 ∧ I2 1 17 ≤ 12000 from gc_in hI2 R_1 rfl rfl)
    exact gv_vret hD rfl ⟨I2, J3, rfl, hI2, FI2, FJ3, ⟨rfl, by omega⟩⟩
  refine gv_run 1 true hD (pc' := 1) (lv' := [(0, .inr (.inr (some 1))), (1, .inl a1)]) (st' := [.inr (.inr (some 1))]) (h' := gc_h sh I J A) (C := (True ∧ True)) rfl ⟨trivial, trivial⟩ ?_
  have f6 := (show 0 ≤ I 1 17 ∧ I 1 17 ≤ 12000 from gc_in hI R_1 rfl rfl)
  refine gv_get hD rfl rfl S_1 ⟨by decide, B_1⟩ (gc_hI S_1 rfl) ?_
  show gv_X _ _ (4, [(0, .inr (.inr (some 1))), (1, .inl a1)], [.inl (I 1 17)], sh, gc_h sh I J A)
  refine gv_run 1 true hD (pc' := 7) (lv' := [(0, .inr (.inr (some 1))), (1, .inl a1)]) (st' := [.inl 12000, .inl (I 1 17)]) (h' := gc_h sh I J A) (C := (True ∧ True)) rfl ⟨trivial, trivial⟩ ?_
  refine gv_icmp_ge (t := 31) hD rfl rfl ⟨⟨by omega, by omega⟩, ⟨by omega, by omega⟩⟩ (fun c7 => ?_) (fun c7 => ?_)
  · show gv_X _ _ (31, [(0, .inr (.inr (some 1))), (1, .inl a1)], [], sh, gc_h sh I J A)
    refine gv_run 2 true hD (pc' := 33) (lv' := [(0, .inr (.inr (some 1))), (1, .inl a1)]) (st' := [.inl 1, .inr (.inr (some 1))]) (h' := gc_h sh I J A) (C := ((True ∧ True) ∧ True)) rfl ⟨⟨trivial, trivial⟩, trivial⟩ ?_
    refine gv_put hD rfl rfl S_1 ⟨by decide, B_1⟩ rfl (by omega) ?_
    refine gc_st (k := 18) hI S_1 rfl R_1 (lo := 0) (hi := 1) rfl rfl (by omega) (by omega) (fun I8 hI8 q9 p9 => ?_)
    have FI8 := gc_frs (W := fun q j => (q = 1 ∧ j = 17) ∨ (q = 1 ∧ j = 18) ∨ q = 20) FI (Or.inr (Or.inl ⟨rfl, rfl⟩)) p9
    have t10 := p9 1 17 (fun h => absurd h.2 (by decide))
    show gv_X _ _ (36, [(0, .inr (.inr (some 1))), (1, .inl a1)], [], sh, gc_h sh I8 J A)
    refine gv_pick [] rfl ?_
    exact L36 I8 J hI8 FI8 FJ (by omega)
  · show gv_X _ _ (10, [(0, .inr (.inr (some 1))), (1, .inl a1)], [], sh, gc_h sh I J A)
    refine gv_run 1 true hD (pc' := 11) (lv' := [(0, .inr (.inr (some 1))), (1, .inl a1)]) (st' := [.inr (.inr (some 1))]) (h' := gc_h sh I J A) (C := (True ∧ True)) rfl ⟨trivial, trivial⟩ ?_
    refine gv_get hD rfl rfl S_1 ⟨by decide, B_1⟩ (gc_hA S_1 rfl A_1_16) ?_
    show gv_X _ _ (14, [(0, .inr (.inr (some 1))), (1, .inl a1)], [.inr (.inr (some 20))], sh, gc_h sh I J A)
    refine gv_run 2 true hD (pc' := 16) (lv' := [(0, .inr (.inr (some 1))), (1, .inl a1)]) (st' := [.inr (.inr (some 1)), .inr (.inr (some 1)), .inr (.inr (some 20))]) (h' := gc_h sh I J A) (C := ((True ∧ True) ∧ True)) rfl ⟨⟨trivial, trivial⟩, trivial⟩ ?_
    have f11 := (show 0 ≤ I 1 17 ∧ I 1 17 ≤ 12000 from gc_in hI R_1 rfl rfl)
    refine gv_get hD rfl rfl S_1 ⟨by decide, B_1⟩ (gc_hI S_1 rfl) ?_
    show gv_X _ _ (19, [(0, .inr (.inr (some 1))), (1, .inl a1)], [.inl (I 1 17), .inr (.inr (some 1)), .inr (.inr (some 20))], sh, gc_h sh I J A)
    refine gv_run 3 true hD (pc' := 22) (lv' := [(0, .inr (.inr (some 1))), (1, .inl a1)]) (st' := [.inl ((I 1 17) + 1), .inr (.inr (some 1)), .inl (I 1 17), .inr (.inr (some 20))]) (h' := gc_h sh I J A) (C := (((True ∧ True) ∧ True) ∧ True)) rfl ⟨⟨⟨trivial, trivial⟩, trivial⟩, trivial⟩ ?_
    refine gv_put hD rfl rfl S_1 ⟨by decide, B_1⟩ rfl trivial ?_
    refine gc_st (k := 17) hI S_1 rfl R_1 (lo := 0) (hi := 12000) rfl rfl (by omega) (by omega) (fun I12 hI12 q13 p13 => ?_)
    have FI12 := gc_frs (W := fun q j => (q = 1 ∧ j = 17) ∨ (q = 1 ∧ j = 18) ∨ q = 20) FI (Or.inl ⟨rfl, rfl⟩) p13
    have f14 := (show 0 ≤ I12 1 17 ∧ I12 1 17 ≤ 12000 from gc_in hI12 R_1 rfl rfl)
    show gv_X _ _ (25, [(0, .inr (.inr (some 1))), (1, .inl a1)], [.inl (I 1 17), .inr (.inr (some 20))], sh, gc_h sh I12 J A)
    have f15 := gc_i2b (x := a1) ⟨by omega, by omega⟩
    refine gv_run 2 true hD (pc' := 27) (lv' := [(0, .inr (.inr (some 1))), (1, .inl a1)]) (st' := [.inl ((Int32.ofInt a1).toInt8.toInt32.toInt), .inl (I 1 17), .inr (.inr (some 20))]) (h' := gc_h sh I12 J A) (C := ((True ∧ True) ∧ True)) rfl ⟨⟨trivial, trivial⟩, trivial⟩ ?_
    have f16 := gc_nar (x := (((Int32.ofInt a1).toInt8.toInt32.toInt))) ⟨by omega, by omega⟩
    refine gv_bast hD rfl S_20 ⟨by decide, B_20⟩ ⟨by omega, by omega⟩ ?_
    refine gc_st hI12 S_20 rfl R_20 (lo := 0) (hi := 127) rfl rfl (by omega) (by omega) (fun I17 hI17 q18 p18 => ?_)
    have FI17 := gc_frs (W := fun q j => (q = 1 ∧ j = 17) ∨ (q = 1 ∧ j = 18) ∨ q = 20) FI12 (Or.inr (Or.inr rfl)) p18
    have t19 := p18 1 17 (fun h => absurd h.1 (by decide))
    show gv_X _ _ (28, [(0, .inr (.inr (some 1))), (1, .inl a1)], [], sh, gc_h sh I17 J A)
    refine gv_run 1 true hD (pc' := 36) (lv' := [(0, .inr (.inr (some 1))), (1, .inl a1)]) (st' := []) (h' := gc_h sh I17 J A) (C := (True ∧ True)) rfl ⟨trivial, trivial⟩ ?_
    refine gv_pick [] rfl ?_
    exact L36 I17 J hI17 FI17 FJ (by omega)
set_option maxHeartbeats 4000000 in
set_option maxRecDepth 100000 in
theorem d_X8_findFact {ws0 : List Cond} {tb : String → gz_T} (hws : gc_Ws ws0) (htb : gc_tbs tb) (sh : gz_Sh) (ro : Nat → Nat) (I : gr_I) (J : gr_J) (A : gc_A) (hI : gc_Inv ro I) (a1 : Int64) (a2 : Int) (a3 : Int) (hb : gc_Base sh ro A) (ha2 : (-2147483648) ≤ a2 ∧ a2 ≤ 2147483647) (ha3 : (-2147483648) ≤ a3 ∧ a3 ≤ 2147483647)  : ∃ r h', gz_Ev ws0 tb 1 (yX8_findFact, cX8_findFact, 6, (some .int)) [.inr (.inr (some 1)), .inr (.inl a1), .inl a2, .inl a3] sh (gc_h sh I J A) r sh h' 0 0 ∧ (h' = gc_h sh I J A ∧ (∃ z : Int, r = some (.inl z) ∧ (-1) ≤ z ∧ z ≤ 63)) := by
  have A_1_14 : A 1 14 = some 18 := gc_bA hb rfl
  have A_1_15 : A 1 15 = some 19 := gc_bA hb rfl
  have B_1 : 1 < 1000000 := by decide
  have B_18 : 18 < 1000000 := by decide
  have B_19 : 19 < 1000000 := by decide
  have R_1 : ro 1 = 22 := gc_bR hb (by decide) rfl
  have R_19 : ro 19 = 29 := gc_bR hb (by decide) rfl
  have S_1 : sh[1]? = some (false, 8, 21) := gc_bS hb rfl
  have S_18 : sh[18]? = some (true, 2, 64) := gc_bS hb rfl
  have S_19 : sh[19]? = some (true, 1, 128) := gc_bS hb rfl
  have hD : gv_D (gc_E8 ws0 tb 0 (yX8_findFact, cX8_findFact, 6, (some .int)) kX8_findFact) := gq_ok oX8_findFact
  refine gc_ev8 (d := 0) (l := kX8_findFact) (Po := fun r h' => (h' = gc_h sh I J A ∧ (∃ z : Int, r = some (.inl z) ∧ (-1) ≤ z ∧ z ≤ 63))) htb rfl (Nat.le_of_ble_eq_true rfl) ?_
  have L3 : ∀ (n9 : Nat) (v5_1 : Int), (65 - v5_1).toNat < n9 → (((-2147483648) ≤ a2 ∧ a2 ≤ 2147483647) ∧ ((-2147483648) ≤ a3 ∧ a3 ≤ 2147483647) ∧ (0 ≤ v5_1 ∧ v5_1 ≤ 64)) → gv_X (gc_E8 ws0 tb 0 (yX8_findFact, cX8_findFact, 6, (some .int)) kX8_findFact) (gv_Q cX8_findFact (some .int) sh (fun r h' => (h' = gc_h sh I J A ∧ (∃ z : Int, r = some (.inl z) ∧ (-1) ≤ z ∧ z ≤ 63)))) (3, [(0, .inr (.inr (some 1))), (1, .inr (.inl a1)), (3, .inl a2), (4, .inl a3), (5, .inl v5_1)], [], sh, gc_h sh I J A) := by
    intro n9
    induction n9 with
    | zero => intro v5_1 hn; omega
    | succ n9 ih3 =>
      intro v5_1 hn m_1
      obtain ⟨ha2_1, ha3_1, hv5_1⟩ := m_1
      have L56 : (((-2147483648) ≤ a2 ∧ a2 ≤ 2147483647) ∧ ((-2147483648) ≤ a3 ∧ a3 ≤ 2147483647) ∧ (0 ≤ v5_1 ∧ v5_1 ≤ 63)) → gv_X (gc_E8 ws0 tb 0 (yX8_findFact, cX8_findFact, 6, (some .int)) kX8_findFact) (gv_Q cX8_findFact (some .int) sh (fun r h' => (h' = gc_h sh I J A ∧ (∃ z : Int, r = some (.inl z) ∧ (-1) ≤ z ∧ z ≤ 63)))) (56, [(0, .inr (.inr (some 1))), (1, .inr (.inl a1)), (3, .inl a2), (4, .inl a3), (5, .inl v5_1)], [], sh, gc_h sh I J A) := by
        intro m_2
        obtain ⟨ha2_2, ha3_2, hv5_1_2⟩ := m_2
        refine gv_run 2 true hD (pc' := 3) (lv' := [(5, .inl (v5_1 + 1)), (0, .inr (.inr (some 1))), (1, .inr (.inl a1)), (3, .inl a2), (4, .inl a3)]) (st' := []) (h' := gc_h sh I J A) (C := ((True ∧ True) ∧ True)) rfl ⟨⟨trivial, trivial⟩, trivial⟩ ?_
        refine gv_pick [1, 2, 3, 4, 0] rfl ?_
        exact ih3 (v5_1 + 1) (by omega) (by omega)
      refine gv_run 2 true hD (pc' := 6) (lv' := [(0, .inr (.inr (some 1))), (1, .inr (.inl a1)), (3, .inl a2), (4, .inl a3), (5, .inl v5_1)]) (st' := [.inr (.inr (some 1)), .inl v5_1]) (h' := gc_h sh I J A) (C := ((True ∧ True) ∧ True)) rfl ⟨⟨trivial, trivial⟩, trivial⟩ ?_
      have f3 := (show 0 ≤ I 1 13 ∧ I 1 13 ≤ 64 from gc_in hI R_1 rfl rfl)
      refine gv_get hD rfl rfl S_1 ⟨by decide, B_1⟩ (gc_hI S_1 rfl) ?_
      show gv_X _ _ (9, [(0, .inr (.inr (some 1))), (1, .inr (.inl a1)), (3, .inl a2), (4, .inl a3), (5, .inl v5_1)], [.inl (I 1 13), .inl v5_1], sh, gc_h sh I J A)
      refine gv_icmp_ge (t := 62) hD rfl rfl ⟨⟨by omega, by omega⟩, ⟨by omega, by omega⟩⟩ (fun c4 => ?_) (fun c4 => ?_)
      · show gv_X _ _ (62, [(0, .inr (.inr (some 1))), (1, .inr (.inl a1)), (3, .inl a2), (4, .inl a3), (5, .inl v5_1)], [], sh, gc_h sh I J A)
        refine gv_run 1 true hD (pc' := 63) (lv' := [(0, .inr (.inr (some 1))), (1, .inr (.inl a1)), (3, .inl a2), (4, .inl a3), (5, .inl v5_1)]) (st' := [.inl (-1)]) (h' := gc_h sh I J A) (C := (True ∧ True)) rfl ⟨trivial, trivial⟩ ?_
        exact gv_iret hD rfl ⟨rfl, ⟨_, rfl, by omega⟩⟩
      · show gv_X _ _ (12, [(0, .inr (.inr (some 1))), (1, .inr (.inl a1)), (3, .inl a2), (4, .inl a3), (5, .inl v5_1)], [], sh, gc_h sh I J A)
        refine gv_run 1 true hD (pc' := 13) (lv' := [(0, .inr (.inr (some 1))), (1, .inr (.inl a1)), (3, .inl a2), (4, .inl a3), (5, .inl v5_1)]) (st' := [.inr (.inr (some 1))]) (h' := gc_h sh I J A) (C := (True ∧ True)) rfl ⟨trivial, trivial⟩ ?_
        refine gv_get hD rfl rfl S_1 ⟨by decide, B_1⟩ (gc_hA S_1 rfl A_1_14) ?_
        show gv_X _ _ (16, [(0, .inr (.inr (some 1))), (1, .inr (.inl a1)), (3, .inl a2), (4, .inl a3), (5, .inl v5_1)], [.inr (.inr (some 18))], sh, gc_h sh I J A)
        refine gv_run 1 true hD (pc' := 18) (lv' := [(0, .inr (.inr (some 1))), (1, .inr (.inl a1)), (3, .inl a2), (4, .inl a3), (5, .inl v5_1)]) (st' := [.inl v5_1, .inr (.inr (some 18))]) (h' := gc_h sh I J A) (C := (True ∧ True)) rfl ⟨trivial, trivial⟩ ?_
        refine gv_lald hD rfl S_18 rfl ⟨by decide, B_18⟩ ⟨by omega, by omega⟩ (gc_jJ S_18 rfl) ?_
        show gv_X _ _ (19, [(0, .inr (.inr (some 1))), (1, .inr (.inl a1)), (3, .inl a2), (4, .inl a3), (5, .inl v5_1)], [.inr (.inl (J 18 (Int.toNat v5_1)))], sh, gc_h sh I J A)
        have f5 := gw_cmp ((J 18 (Int.toNat v5_1))) (a1)
        refine gv_run 2 true hD (pc' := 21) (lv' := [(0, .inr (.inr (some 1))), (1, .inr (.inl a1)), (3, .inl a2), (4, .inl a3), (5, .inl v5_1)]) (st' := [.inl ((lg_cmp ((J 18 (Int.toNat v5_1))) (a1)).toInt)]) (h' := gc_h sh I J A) (C := ((True ∧ True) ∧ True)) rfl ⟨⟨trivial, trivial⟩, trivial⟩ ?_
        refine gv_if_ne (t := 56) hD rfl rfl ⟨by omega, by omega⟩ (fun c6 => ?_) (fun c6 => ?_)
        · show gv_X _ _ (56, [(0, .inr (.inr (some 1))), (1, .inr (.inl a1)), (3, .inl a2), (4, .inl a3), (5, .inl v5_1)], [], sh, gc_h sh I J A)
          exact L56 (by omega)
        · show gv_X _ _ (24, [(0, .inr (.inr (some 1))), (1, .inr (.inl a1)), (3, .inl a2), (4, .inl a3), (5, .inl v5_1)], [], sh, gc_h sh I J A)
          refine gv_run 1 true hD (pc' := 25) (lv' := [(0, .inr (.inr (some 1))), (1, .inr (.inl a1)), (3, .inl a2), (4, .inl a3), (5, .inl v5_1)]) (st' := [.inr (.inr (some 1))]) (h' := gc_h sh I J A) (C := (True ∧ True)) rfl ⟨trivial, trivial⟩ ?_
          refine gv_get hD rfl rfl S_1 ⟨by decide, B_1⟩ (gc_hA S_1 rfl A_1_15) ?_
          show gv_X _ _ (28, [(0, .inr (.inr (some 1))), (1, .inr (.inl a1)), (3, .inl a2), (4, .inl a3), (5, .inl v5_1)], [.inr (.inr (some 19))], sh, gc_h sh I J A)
          refine gv_run 3 true hD (pc' := 32) (lv' := [(0, .inr (.inr (some 1))), (1, .inr (.inl a1)), (3, .inl a2), (4, .inl a3), (5, .inl v5_1)]) (st' := [.inl (2 * v5_1), .inr (.inr (some 19))]) (h' := gc_h sh I J A) (C := (((True ∧ True) ∧ True) ∧ True)) rfl ⟨⟨⟨trivial, trivial⟩, trivial⟩, trivial⟩ ?_
          have f7 := (show (-1) ≤ I 19 (Int.toNat (2 * v5_1)) ∧ I 19 (Int.toNat (2 * v5_1)) ≤ 7 from gc_in hI R_19 rfl rfl)
          refine gv_iald hD rfl S_19 rfl ⟨by decide, B_19⟩ ⟨by omega, by omega⟩ (gc_iI S_19 rfl) ?_
          show gv_X _ _ (33, [(0, .inr (.inr (some 1))), (1, .inr (.inl a1)), (3, .inl a2), (4, .inl a3), (5, .inl v5_1)], [.inl (I 19 (Int.toNat (2 * v5_1)))], sh, gc_h sh I J A)
          refine gv_run 1 true hD (pc' := 34) (lv' := [(0, .inr (.inr (some 1))), (1, .inr (.inl a1)), (3, .inl a2), (4, .inl a3), (5, .inl v5_1)]) (st' := [.inl a2, .inl (I 19 (Int.toNat (2 * v5_1)))]) (h' := gc_h sh I J A) (C := (True ∧ True)) rfl ⟨trivial, trivial⟩ ?_
          refine gv_icmp_ne (t := 56) hD rfl rfl ⟨⟨by omega, by omega⟩, ⟨by omega, by omega⟩⟩ (fun c8 => ?_) (fun c8 => ?_)
          · show gv_X _ _ (56, [(0, .inr (.inr (some 1))), (1, .inr (.inl a1)), (3, .inl a2), (4, .inl a3), (5, .inl v5_1)], [], sh, gc_h sh I J A)
            exact L56 (by omega)
          · show gv_X _ _ (37, [(0, .inr (.inr (some 1))), (1, .inr (.inl a1)), (3, .inl a2), (4, .inl a3), (5, .inl v5_1)], [], sh, gc_h sh I J A)
            refine gv_run 1 true hD (pc' := 38) (lv' := [(0, .inr (.inr (some 1))), (1, .inr (.inl a1)), (3, .inl a2), (4, .inl a3), (5, .inl v5_1)]) (st' := [.inr (.inr (some 1))]) (h' := gc_h sh I J A) (C := (True ∧ True)) rfl ⟨trivial, trivial⟩ ?_
            refine gv_get hD rfl rfl S_1 ⟨by decide, B_1⟩ (gc_hA S_1 rfl A_1_15) ?_
            show gv_X _ _ (41, [(0, .inr (.inr (some 1))), (1, .inr (.inl a1)), (3, .inl a2), (4, .inl a3), (5, .inl v5_1)], [.inr (.inr (some 19))], sh, gc_h sh I J A)
            refine gv_run 5 true hD (pc' := 47) (lv' := [(0, .inr (.inr (some 1))), (1, .inr (.inl a1)), (3, .inl a2), (4, .inl a3), (5, .inl v5_1)]) (st' := [.inl ((2 * v5_1) + 1), .inr (.inr (some 19))]) (h' := gc_h sh I J A) (C := (((((True ∧ True) ∧ True) ∧ True) ∧ True) ∧ True)) rfl ⟨⟨⟨⟨⟨trivial, trivial⟩, trivial⟩, trivial⟩, trivial⟩, trivial⟩ ?_
            have f9 := (show (-1) ≤ I 19 (Int.toNat (((2 * v5_1) + 1))) ∧ I 19 (Int.toNat (((2 * v5_1) + 1))) ≤ 7 from gc_in hI R_19 rfl rfl)
            refine gv_iald hD rfl S_19 rfl ⟨by decide, B_19⟩ ⟨by omega, by omega⟩ (gc_iI S_19 rfl) ?_
            show gv_X _ _ (48, [(0, .inr (.inr (some 1))), (1, .inr (.inl a1)), (3, .inl a2), (4, .inl a3), (5, .inl v5_1)], [.inl (I 19 (Int.toNat (((2 * v5_1) + 1))))], sh, gc_h sh I J A)
            refine gv_run 1 true hD (pc' := 50) (lv' := [(0, .inr (.inr (some 1))), (1, .inr (.inl a1)), (3, .inl a2), (4, .inl a3), (5, .inl v5_1)]) (st' := [.inl a3, .inl (I 19 (Int.toNat (((2 * v5_1) + 1))))]) (h' := gc_h sh I J A) (C := (True ∧ True)) rfl ⟨trivial, trivial⟩ ?_
            refine gv_icmp_ne (t := 56) hD rfl rfl ⟨⟨by omega, by omega⟩, ⟨by omega, by omega⟩⟩ (fun c10 => ?_) (fun c10 => ?_)
            · show gv_X _ _ (56, [(0, .inr (.inr (some 1))), (1, .inr (.inl a1)), (3, .inl a2), (4, .inl a3), (5, .inl v5_1)], [], sh, gc_h sh I J A)
              exact L56 (by omega)
            · show gv_X _ _ (53, [(0, .inr (.inr (some 1))), (1, .inr (.inl a1)), (3, .inl a2), (4, .inl a3), (5, .inl v5_1)], [], sh, gc_h sh I J A)
              refine gv_run 1 true hD (pc' := 55) (lv' := [(0, .inr (.inr (some 1))), (1, .inr (.inl a1)), (3, .inl a2), (4, .inl a3), (5, .inl v5_1)]) (st' := [.inl v5_1]) (h' := gc_h sh I J A) (C := (True ∧ True)) rfl ⟨trivial, trivial⟩ ?_
              exact gv_iret hD rfl ⟨rfl, ⟨_, rfl, by omega⟩⟩
  refine gv_run 2 true hD (pc' := 3) (lv' := [(5, .inl 0), (0, .inr (.inr (some 1))), (1, .inr (.inl a1)), (3, .inl a2), (4, .inl a3)]) (st' := []) (h' := gc_h sh I J A) (C := ((True ∧ True) ∧ True)) rfl ⟨⟨trivial, trivial⟩, trivial⟩ ?_
  refine gv_pick [1, 2, 3, 4, 0] rfl ?_
  exact L3 _ 0 (Nat.lt_succ_self _) (by omega)
set_option maxHeartbeats 4000000 in
set_option maxRecDepth 100000 in
theorem d_X8_sizeOf {ws0 : List Cond} {tb : String → gz_T} (hws : gc_Ws ws0) (htb : gc_tbs tb) (sh : gz_Sh) (ro : Nat → Nat) (I : gr_I) (J : gr_J) (A : gc_A) (hI : gc_Inv ro I) (a1 : Int) (hb : gc_Base sh ro A) (ha1 : (-2147483648) ≤ a1 ∧ a1 ≤ 2147483647)  : ∃ r h', gz_Ev ws0 tb 1 (yX8_sizeOf, cX8_sizeOf, 2, (some .int)) [.inr (.inr (some 1)), .inl a1] sh (gc_h sh I J A) r sh h' 0 0 ∧ (h' = gc_h sh I J A ∧ (∃ z : Int, r = some (.inl z) ∧ 0 ≤ z ∧ z ≤ 96)) := by
  have A_1_0 : A 1 0 = some 2 := gc_bA hb rfl
  have A_1_1 : A 1 1 = some 4 := gc_bA hb rfl
  have A_1_2 : A 1 2 = some 6 := gc_bA hb rfl
  have A_1_3 : A 1 3 = some 8 := gc_bA hb rfl
  have B_1 : 1 < 1000000 := by decide
  have B_2 : 2 < 1000000 := by decide
  have B_4 : 4 < 1000000 := by decide
  have B_6 : 6 < 1000000 := by decide
  have B_8 : 8 < 1000000 := by decide
  have R_1 : ro 1 = 22 := gc_bR hb (by decide) rfl
  have R_2 : ro 2 = 9 := gc_bR hb (by decide) rfl
  have R_4 : ro 4 = 11 := gc_bR hb (by decide) rfl
  have R_6 : ro 6 = 6 := gc_bR hb (by decide) rfl
  have R_8 : ro 8 = 6 := gc_bR hb (by decide) rfl
  have S_1 : sh[1]? = some (false, 8, 21) := gc_bS hb rfl
  have S_2 : sh[2]? = some (false, 4, 2) := gc_bS hb rfl
  have S_4 : sh[4]? = some (false, 4, 2) := gc_bS hb rfl
  have S_6 : sh[6]? = some (false, 4, 2) := gc_bS hb rfl
  have S_8 : sh[8]? = some (false, 4, 2) := gc_bS hb rfl
  have hD : gv_D (gc_E8 ws0 tb 0 (yX8_sizeOf, cX8_sizeOf, 2, (some .int)) kX8_sizeOf) := gq_ok oX8_sizeOf
  refine gc_ev8 (d := 0) (l := kX8_sizeOf) (Po := fun r h' => (h' = gc_h sh I J A ∧ (∃ z : Int, r = some (.inl z) ∧ 0 ≤ z ∧ z ≤ 96))) htb rfl (Nat.le_of_ble_eq_true rfl) ?_
  refine gv_run 1 true hD (pc' := 1) (lv' := [(0, .inr (.inr (some 1))), (1, .inl a1)]) (st' := [.inl a1]) (h' := gc_h sh I J A) (C := (True ∧ True)) rfl ⟨trivial, trivial⟩ ?_
  by_cases c1 : a1 = 0
  · refine gv_tabAt hD 0 rfl ⟨by omega, by omega⟩ c1 ⟨by decide, by decide⟩ rfl (t := 32) rfl ?_
    refine gv_run 1 true hD (pc' := 33) (lv' := [(0, .inr (.inr (some 1))), (1, .inl a1)]) (st' := [.inr (.inr (some 1))]) (h' := gc_h sh I J A) (C := (True ∧ True)) rfl ⟨trivial, trivial⟩ ?_
    refine gv_get hD rfl rfl S_1 ⟨by decide, B_1⟩ (gc_hA S_1 rfl A_1_3) ?_
    show gv_X _ _ (36, [(0, .inr (.inr (some 1))), (1, .inl a1)], [.inr (.inr (some 8))], sh, gc_h sh I J A)
    have f2 := (show 0 ≤ I 8 1 ∧ I 8 1 ≤ 8 from gc_in hI R_8 rfl rfl)
    refine gv_get hD rfl rfl S_8 ⟨by decide, B_8⟩ (gc_hI S_8 rfl) ?_
    show gv_X _ _ (39, [(0, .inr (.inr (some 1))), (1, .inl a1)], [.inl (I 8 1)], sh, gc_h sh I J A)
    exact gv_iret hD rfl ⟨rfl, ⟨_, rfl, by omega⟩⟩
  by_cases c3 : a1 = 1
  · refine gv_tabAt hD 1 rfl ⟨by omega, by omega⟩ c3 ⟨by decide, by decide⟩ rfl (t := 40) rfl ?_
    refine gv_run 1 true hD (pc' := 41) (lv' := [(0, .inr (.inr (some 1))), (1, .inl a1)]) (st' := [.inr (.inr (some 1))]) (h' := gc_h sh I J A) (C := (True ∧ True)) rfl ⟨trivial, trivial⟩ ?_
    refine gv_get hD rfl rfl S_1 ⟨by decide, B_1⟩ (gc_hA S_1 rfl A_1_0) ?_
    show gv_X _ _ (44, [(0, .inr (.inr (some 1))), (1, .inl a1)], [.inr (.inr (some 2))], sh, gc_h sh I J A)
    have f4 := (show 0 ≤ I 2 1 ∧ I 2 1 ≤ 32 from gc_in hI R_2 rfl rfl)
    refine gv_get hD rfl rfl S_2 ⟨by decide, B_2⟩ (gc_hI S_2 rfl) ?_
    show gv_X _ _ (47, [(0, .inr (.inr (some 1))), (1, .inl a1)], [.inl (I 2 1)], sh, gc_h sh I J A)
    exact gv_iret hD rfl ⟨rfl, ⟨_, rfl, by omega⟩⟩
  by_cases c5 : a1 = 2
  · refine gv_tabAt hD 2 rfl ⟨by omega, by omega⟩ c5 ⟨by decide, by decide⟩ rfl (t := 48) rfl ?_
    refine gv_run 1 true hD (pc' := 49) (lv' := [(0, .inr (.inr (some 1))), (1, .inl a1)]) (st' := [.inr (.inr (some 1))]) (h' := gc_h sh I J A) (C := (True ∧ True)) rfl ⟨trivial, trivial⟩ ?_
    refine gv_get hD rfl rfl S_1 ⟨by decide, B_1⟩ (gc_hA S_1 rfl A_1_1) ?_
    show gv_X _ _ (52, [(0, .inr (.inr (some 1))), (1, .inl a1)], [.inr (.inr (some 4))], sh, gc_h sh I J A)
    have f6 := (show 0 ≤ I 4 1 ∧ I 4 1 ≤ 96 from gc_in hI R_4 rfl rfl)
    refine gv_get hD rfl rfl S_4 ⟨by decide, B_4⟩ (gc_hI S_4 rfl) ?_
    show gv_X _ _ (55, [(0, .inr (.inr (some 1))), (1, .inl a1)], [.inl (I 4 1)], sh, gc_h sh I J A)
    exact gv_iret hD rfl ⟨rfl, ⟨_, rfl, by omega⟩⟩
  by_cases c7 : a1 = 3
  · refine gv_tabAt hD 3 rfl ⟨by omega, by omega⟩ c7 ⟨by decide, by decide⟩ rfl (t := 56) rfl ?_
    refine gv_run 1 true hD (pc' := 57) (lv' := [(0, .inr (.inr (some 1))), (1, .inl a1)]) (st' := [.inr (.inr (some 1))]) (h' := gc_h sh I J A) (C := (True ∧ True)) rfl ⟨trivial, trivial⟩ ?_
    refine gv_get hD rfl rfl S_1 ⟨by decide, B_1⟩ (gc_hA S_1 rfl A_1_2) ?_
    show gv_X _ _ (60, [(0, .inr (.inr (some 1))), (1, .inl a1)], [.inr (.inr (some 6))], sh, gc_h sh I J A)
    have f8 := (show 0 ≤ I 6 1 ∧ I 6 1 ≤ 8 from gc_in hI R_6 rfl rfl)
    refine gv_get hD rfl rfl S_6 ⟨by decide, B_6⟩ (gc_hI S_6 rfl) ?_
    show gv_X _ _ (63, [(0, .inr (.inr (some 1))), (1, .inl a1)], [.inl (I 6 1)], sh, gc_h sh I J A)
    exact gv_iret hD rfl ⟨rfl, ⟨_, rfl, by omega⟩⟩
  refine gv_tabOut hD rfl ⟨by omega, by omega⟩ (by omega) (t := 64) rfl ?_
  refine gv_run 1 true hD (pc' := 65) (lv' := [(0, .inr (.inr (some 1))), (1, .inl a1)]) (st' := [.inr (.inr (some 1))]) (h' := gc_h sh I J A) (C := (True ∧ True)) rfl ⟨trivial, trivial⟩ ?_
  have f9 := (show 0 ≤ I 1 13 ∧ I 1 13 ≤ 64 from gc_in hI R_1 rfl rfl)
  refine gv_get hD rfl rfl S_1 ⟨by decide, B_1⟩ (gc_hI S_1 rfl) ?_
  show gv_X _ _ (68, [(0, .inr (.inr (some 1))), (1, .inl a1)], [.inl (I 1 13)], sh, gc_h sh I J A)
  exact gv_iret hD rfl ⟨rfl, ⟨_, rfl, by omega⟩⟩
set_option maxHeartbeats 4000000 in
set_option maxRecDepth 100000 in
theorem d_X8_findChildren {ws0 : List Cond} {tb : String → gz_T} (hws : gc_Ws ws0) (htb : gc_tbs tb) (sh : gz_Sh) (ro : Nat → Nat) (I : gr_I) (J : gr_J) (A : gc_A) (hI : gc_Inv ro I) (m : Nat) (m2 : Nat) (a1 : Nat) (a2 : Int) (a3 : Nat) (hb : gc_Base sh ro A) (S_a1 : sh[a1]? = some (true, 1, m)) (R_a1 : ro a1 = 37) (B_a1 : a1 < 1000000) (M_a1 : m < 2147483648) (S_a3 : sh[a3]? = some (true, 1, m2)) (R_a3 : ro a3 = 38) (B_a3 : a3 < 1000000) (M_a3 : m2 < 2147483648) (ha2 : 0 ≤ a2 ∧ a2 ≤ 60) (x0 : a2 ≤ m) (x1 : 4 * a2 ≤ m2) : ∃ r h', gz_Ev ws0 tb 1 (yX8_findChildren, cX8_findChildren, 8, none) [.inr (.inr (some 1)), .inr (.inr (some a1)), .inl a2, .inr (.inr (some a3))] sh (gc_h sh I J A) r sh h' 0 0 ∧ (∃ (I' : gr_I) (J' : gr_J), h' = gc_h sh I' J' A ∧ gc_Inv ro I' ∧ (∀ q j : Nat, (q = a3 ∨ q = 22) ∨ I' q j = I q j) ∧ (∀ q j : Nat, (False) ∨ J' q j = J q j) ∧ r = none) := by
  have FI : ∀ q j : Nat, (q = a3 ∨ q = 22) ∨ I q j = I q j := fun _ _ => Or.inr rfl
  have FJ : ∀ q j : Nat, (False) ∨ J q j = J q j := fun _ _ => Or.inr rfl
  have A_1_20 : A 1 20 = some 22 := gc_bA hb rfl
  have A_1_7 : A 1 7 = some 12 := gc_bA hb rfl
  have B_1 : 1 < 1000000 := by decide
  have B_12 : 12 < 1000000 := by decide
  have B_22 : 22 < 1000000 := by decide
  have R_12 : ro 12 = 26 := gc_bR hb (by decide) rfl
  have R_22 : ro 22 = 38 := gc_bR hb (by decide) rfl
  have S_1 : sh[1]? = some (false, 8, 21) := gc_bS hb rfl
  have S_12 : sh[12]? = some (true, 1, 96) := gc_bS hb rfl
  have S_22 : sh[22]? = some (true, 1, 60) := gc_bS hb rfl
  have hD : gv_D (gc_E8 ws0 tb 0 (yX8_findChildren, cX8_findChildren, 8, none) kX8_findChildren) := gq_ok oX8_findChildren
  refine gc_ev8 (d := 0) (l := kX8_findChildren) (Po := fun r h' => (∃ (I' : gr_I) (J' : gr_J), h' = gc_h sh I' J' A ∧ gc_Inv ro I' ∧ (∀ q j : Nat, (q = a3 ∨ q = 22) ∨ I' q j = I q j) ∧ (∀ q j : Nat, (False) ∨ J' q j = J q j) ∧ r = none)) htb rfl (Nat.le_of_ble_eq_true rfl) ?_
  have L8 : ∀ (n9 : Nat) (I1 : gr_I) (J2 : gr_J) (v4_3 : Int) (v5_3 : Int), (v5_3 - (-2)).toNat < n9 → gc_Inv ro I1 → (∀ q j : Nat, (q = a3 ∨ q = 22) ∨ I1 q j = I q j) → (∀ q j : Nat, (False) ∨ J2 q j = J q j) → ((0 ≤ v4_3 ∧ v4_3 ≤ 60) ∧ ((-1) ≤ v5_3 ∧ v5_3 ≤ 59) ∧ (v4_3 + v5_3 + 1 ≤ a2)) → gv_X (gc_E8 ws0 tb 0 (yX8_findChildren, cX8_findChildren, 8, none) kX8_findChildren) (gv_Q cX8_findChildren none sh (fun r h' => (∃ (I' : gr_I) (J' : gr_J), h' = gc_h sh I' J' A ∧ gc_Inv ro I' ∧ (∀ q j : Nat, (q = a3 ∨ q = 22) ∨ I' q j = I q j) ∧ (∀ q j : Nat, (False) ∨ J' q j = J q j) ∧ r = none))) (8, [(0, .inr (.inr (some 1))), (1, .inr (.inr (some a1))), (3, .inr (.inr (some a3))), (4, .inl v4_3), (5, .inl v5_3)], [], sh, gc_h sh I1 J2 A) := by
    intro n9
    induction n9 with
    | zero => intro I1 J2 v4_3 v5_3 hn; omega
    | succ n9 ih8 =>
      intro I1 J2 v4_3 v5_3 hn hI1 FI1 FJ2 m_3
      obtain ⟨hv4_3, hv5_3, e0_3⟩ := m_3
      have L27 : ∀ (n9 : Nat) (I4 : gr_I) (J5 : gr_J) (v4_6 : Int) (v6_6 : Int) (v7_6 : Int), (v4_6 - (-1)).toNat < n9 → gc_Inv ro I4 → (∀ q j : Nat, (q = a3 ∨ q = 22) ∨ I4 q j = I q j) → (∀ q j : Nat, (False) ∨ J5 q j = J q j) → ((0 ≤ v4_6 ∧ v4_6 ≤ 60) ∧ (0 ≤ v5_3 ∧ v5_3 ≤ 59) ∧ (0 ≤ v6_6 ∧ v6_6 ≤ 4) ∧ (0 ≤ v7_6 ∧ v7_6 ≤ 4) ∧ (v4_6 + v5_3 + 1 ≤ a2)) → gv_X (gc_E8 ws0 tb 0 (yX8_findChildren, cX8_findChildren, 8, none) kX8_findChildren) (gv_Q cX8_findChildren none sh (fun r h' => (∃ (I' : gr_I) (J' : gr_J), h' = gc_h sh I' J' A ∧ gc_Inv ro I' ∧ (∀ q j : Nat, (q = a3 ∨ q = 22) ∨ I' q j = I q j) ∧ (∀ q j : Nat, (False) ∨ J' q j = J q j) ∧ r = none))) (27, [(0, .inr (.inr (some 1))), (1, .inr (.inr (some a1))), (3, .inr (.inr (some a3))), (4, .inl v4_6), (5, .inl v5_3), (6, .inl v6_6), (7, .inl v7_6)], [], sh, gc_h sh I4 J5 A) := by
        intro n9
        induction n9 with
        | zero => intro I4 J5 v4_6 v6_6 v7_6 hn; omega
        | succ n9 ih27 =>
          intro I4 J5 v4_6 v6_6 v7_6 hn hI4 FI4 FJ5 m_6
          clear hv4_3 hv5_3 e0_3
          obtain ⟨hv4_6, hv5_3_6, hv6_6, hv7_6, e0_6⟩ := m_6
          have L64 : ((0 ≤ v4_6 ∧ v4_6 ≤ 60) ∧ (0 ≤ v5_3 ∧ v5_3 ≤ 59) ∧ (v4_6 + v5_3 + 1 ≤ a2)) → gv_X (gc_E8 ws0 tb 0 (yX8_findChildren, cX8_findChildren, 8, none) kX8_findChildren) (gv_Q cX8_findChildren none sh (fun r h' => (∃ (I' : gr_I) (J' : gr_J), h' = gc_h sh I' J' A ∧ gc_Inv ro I' ∧ (∀ q j : Nat, (q = a3 ∨ q = 22) ∨ I' q j = I q j) ∧ (∀ q j : Nat, (False) ∨ J' q j = J q j) ∧ r = none))) (64, [(0, .inr (.inr (some 1))), (1, .inr (.inr (some a1))), (3, .inr (.inr (some a3))), (4, .inl v4_6), (5, .inl v5_3)], [], sh, gc_h sh I4 J5 A) := by
            intro m_7
            obtain ⟨hv4_6_7, hv5_3_7, e0_7⟩ := m_7
            refine gv_run 1 true hD (pc' := 65) (lv' := [(0, .inr (.inr (some 1))), (1, .inr (.inr (some a1))), (3, .inr (.inr (some a3))), (4, .inl v4_6), (5, .inl v5_3)]) (st' := [.inr (.inr (some 1))]) (h' := gc_h sh I4 J5 A) (C := (True ∧ True)) rfl ⟨trivial, trivial⟩ ?_
            refine gv_get hD rfl rfl S_1 ⟨by decide, B_1⟩ (gc_hA S_1 rfl A_1_20) ?_
            show gv_X _ _ (68, [(0, .inr (.inr (some 1))), (1, .inr (.inr (some a1))), (3, .inr (.inr (some a3))), (4, .inl v4_6), (5, .inl v5_3)], [.inr (.inr (some 22))], sh, gc_h sh I4 J5 A)
            refine gv_run 3 true hD (pc' := 75) (lv' := [(4, .inl (v4_6 + 1)), (0, .inr (.inr (some 1))), (1, .inr (.inr (some a1))), (3, .inr (.inr (some a3))), (5, .inl v5_3)]) (st' := [.inl v5_3, .inl v4_6, .inr (.inr (some 22))]) (h' := gc_h sh I4 J5 A) (C := (((True ∧ True) ∧ True) ∧ True)) rfl ⟨⟨⟨trivial, trivial⟩, trivial⟩, trivial⟩ ?_
            refine gv_iast hD rfl S_22 ⟨by decide, B_22⟩ ⟨by omega, by omega⟩ ?_
            refine gc_st hI4 S_22 rfl R_22 (lo := 0) (hi := 59) rfl rfl (by omega) (by omega) (fun I8 hI8 q9 p9 => ?_)
            have FI8 := gc_frs (W := fun q j => q = a3 ∨ q = 22) FI4 (Or.inr rfl) p9
            show gv_X _ _ (76, [(4, .inl (v4_6 + 1)), (0, .inr (.inr (some 1))), (1, .inr (.inr (some a1))), (3, .inr (.inr (some a3))), (5, .inl v5_3)], [], sh, gc_h sh I8 J5 A)
            refine gv_run 2 true hD (pc' := 8) (lv' := [(5, .inl (v5_3 + (-1))), (4, .inl (v4_6 + 1)), (0, .inr (.inr (some 1))), (1, .inr (.inr (some a1))), (3, .inr (.inr (some a3)))]) (st' := []) (h' := gc_h sh I8 J5 A) (C := ((True ∧ True) ∧ True)) rfl ⟨⟨trivial, trivial⟩, trivial⟩ ?_
            refine gv_pick [2, 3, 4, 1, 0] rfl ?_
            exact ih8 I8 J5 (v4_6 + 1) ((v5_3 + (-1))) (by omega) hI8 FI8 FJ5 (by omega)
          refine gv_run 2 true hD (pc' := 31) (lv' := [(0, .inr (.inr (some 1))), (1, .inr (.inr (some a1))), (3, .inr (.inr (some a3))), (4, .inl v4_6), (5, .inl v5_3), (6, .inl v6_6), (7, .inl v7_6)]) (st' := [.inl v6_6, .inl v7_6]) (h' := gc_h sh I4 J5 A) (C := ((True ∧ True) ∧ True)) rfl ⟨⟨trivial, trivial⟩, trivial⟩ ?_
          refine gv_icmp_ge (t := 64) hD rfl rfl ⟨⟨by omega, by omega⟩, ⟨by omega, by omega⟩⟩ (fun c10 => ?_) (fun c10 => ?_)
          · show gv_X _ _ (64, [(0, .inr (.inr (some 1))), (1, .inr (.inr (some a1))), (3, .inr (.inr (some a3))), (4, .inl v4_6), (5, .inl v5_3), (6, .inl v6_6), (7, .inl v7_6)], [], sh, gc_h sh I4 J5 A)
            refine gv_pick [0, 1, 2, 3, 4] rfl ?_
            exact L64 (by omega)
          · show gv_X _ _ (34, [(0, .inr (.inr (some 1))), (1, .inr (.inr (some a1))), (3, .inr (.inr (some a3))), (4, .inl v4_6), (5, .inl v5_3), (6, .inl v6_6), (7, .inl v7_6)], [], sh, gc_h sh I4 J5 A)
            refine gv_run 1 true hD (pc' := 36) (lv' := [(0, .inr (.inr (some 1))), (1, .inr (.inr (some a1))), (3, .inr (.inr (some a3))), (4, .inl v4_6), (5, .inl v5_3), (6, .inl v6_6), (7, .inl v7_6)]) (st' := [.inl v4_6]) (h' := gc_h sh I4 J5 A) (C := (True ∧ True)) rfl ⟨trivial, trivial⟩ ?_
            refine gv_if_le (t := 64) hD rfl rfl ⟨by omega, by omega⟩ (fun c11 => ?_) (fun c11 => ?_)
            · show gv_X _ _ (64, [(0, .inr (.inr (some 1))), (1, .inr (.inr (some a1))), (3, .inr (.inr (some a3))), (4, .inl v4_6), (5, .inl v5_3), (6, .inl v6_6), (7, .inl v7_6)], [], sh, gc_h sh I4 J5 A)
              refine gv_pick [0, 1, 2, 3, 4] rfl ?_
              exact L64 (by omega)
            · show gv_X _ _ (39, [(0, .inr (.inr (some 1))), (1, .inr (.inr (some a1))), (3, .inr (.inr (some a3))), (4, .inl v4_6), (5, .inl v5_3), (6, .inl v6_6), (7, .inl v7_6)], [], sh, gc_h sh I4 J5 A)
              refine gv_run 7 true hD (pc' := 48) (lv' := [(0, .inr (.inr (some 1))), (1, .inr (.inr (some a1))), (3, .inr (.inr (some a3))), (4, .inl v4_6), (5, .inl v5_3), (6, .inl v6_6), (7, .inl v7_6)]) (st' := [.inr (.inr (some 1)), .inl ((v5_3 * 4) + v7_6), .inr (.inr (some a3))]) (h' := gc_h sh I4 J5 A) (C := (((((((True ∧ True) ∧ True) ∧ True) ∧ True) ∧ True) ∧ True) ∧ True)) rfl ⟨⟨⟨⟨⟨⟨⟨trivial, trivial⟩, trivial⟩, trivial⟩, trivial⟩, trivial⟩, trivial⟩, trivial⟩ ?_
              refine gv_get hD rfl rfl S_1 ⟨by decide, B_1⟩ (gc_hA S_1 rfl A_1_20) ?_
              show gv_X _ _ (51, [(0, .inr (.inr (some 1))), (1, .inr (.inr (some a1))), (3, .inr (.inr (some a3))), (4, .inl v4_6), (5, .inl v5_3), (6, .inl v6_6), (7, .inl v7_6)], [.inr (.inr (some 22)), .inl ((v5_3 * 4) + v7_6), .inr (.inr (some a3))], sh, gc_h sh I4 J5 A)
              refine gv_run 2 true hD (pc' := 56) (lv' := [(4, .inl (v4_6 + (-1))), (0, .inr (.inr (some 1))), (1, .inr (.inr (some a1))), (3, .inr (.inr (some a3))), (5, .inl v5_3), (6, .inl v6_6), (7, .inl v7_6)]) (st' := [.inl (v4_6 + (-1)), .inr (.inr (some 22)), .inl ((v5_3 * 4) + v7_6), .inr (.inr (some a3))]) (h' := gc_h sh I4 J5 A) (C := ((True ∧ True) ∧ True)) rfl ⟨⟨trivial, trivial⟩, trivial⟩ ?_
              have f12 := (show 0 ≤ I4 22 (Int.toNat ((v4_6 + (-1)))) ∧ I4 22 (Int.toNat ((v4_6 + (-1)))) ≤ 59 from gc_in hI4 R_22 rfl rfl)
              refine gv_iald hD rfl S_22 rfl ⟨by decide, B_22⟩ ⟨by omega, by omega⟩ (gc_iI S_22 rfl) ?_
              show gv_X _ _ (57, [(4, .inl (v4_6 + (-1))), (0, .inr (.inr (some 1))), (1, .inr (.inr (some a1))), (3, .inr (.inr (some a3))), (5, .inl v5_3), (6, .inl v6_6), (7, .inl v7_6)], [.inl (I4 22 (Int.toNat ((v4_6 + (-1))))), .inl ((v5_3 * 4) + v7_6), .inr (.inr (some a3))], sh, gc_h sh I4 J5 A)
              refine gv_iast hD rfl S_a3 ⟨by omega, B_a3⟩ ⟨by omega, by omega⟩ ?_
              refine gc_st hI4 S_a3 rfl R_a3 (lo := 0) (hi := 59) rfl rfl (by omega) (by omega) (fun I13 hI13 q14 p14 => ?_)
              have FI13 := gc_frs (W := fun q j => q = a3 ∨ q = 22) FI4 (Or.inl rfl) p14
              show gv_X _ _ (58, [(4, .inl (v4_6 + (-1))), (0, .inr (.inr (some 1))), (1, .inr (.inr (some a1))), (3, .inr (.inr (some a3))), (5, .inl v5_3), (6, .inl v6_6), (7, .inl v7_6)], [], sh, gc_h sh I13 J5 A)
              refine gv_run 2 true hD (pc' := 27) (lv' := [(7, .inl (v7_6 + 1)), (4, .inl (v4_6 + (-1))), (0, .inr (.inr (some 1))), (1, .inr (.inr (some a1))), (3, .inr (.inr (some a3))), (5, .inl v5_3), (6, .inl v6_6)]) (st' := []) (h' := gc_h sh I13 J5 A) (C := ((True ∧ True) ∧ True)) rfl ⟨⟨trivial, trivial⟩, trivial⟩ ?_
              refine gv_pick [2, 3, 4, 1, 5, 6, 0] rfl ?_
              exact ih27 I13 J5 ((v4_6 + (-1))) v6_6 (v7_6 + 1) (by omega) hI13 FI13 FJ5 (by omega)
      refine gv_run 1 true hD (pc' := 10) (lv' := [(0, .inr (.inr (some 1))), (1, .inr (.inr (some a1))), (3, .inr (.inr (some a3))), (4, .inl v4_3), (5, .inl v5_3)]) (st' := [.inl v5_3]) (h' := gc_h sh I1 J2 A) (C := (True ∧ True)) rfl ⟨trivial, trivial⟩ ?_
      refine gv_if_lt (t := 82) hD rfl rfl ⟨by omega, by omega⟩ (fun c15 => ?_) (fun c15 => ?_)
      · show gv_X _ _ (82, [(0, .inr (.inr (some 1))), (1, .inr (.inr (some a1))), (3, .inr (.inr (some a3))), (4, .inl v4_3), (5, .inl v5_3)], [], sh, gc_h sh I1 J2 A)
        exact gv_vret hD rfl ⟨I1, J2, rfl, hI1, FI1, FJ2, rfl⟩
      · show gv_X _ _ (13, [(0, .inr (.inr (some 1))), (1, .inr (.inr (some a1))), (3, .inr (.inr (some a3))), (4, .inl v4_3), (5, .inl v5_3)], [], sh, gc_h sh I1 J2 A)
        refine gv_run 1 true hD (pc' := 14) (lv' := [(0, .inr (.inr (some 1))), (1, .inr (.inr (some a1))), (3, .inr (.inr (some a3))), (4, .inl v4_3), (5, .inl v5_3)]) (st' := [.inr (.inr (some 1))]) (h' := gc_h sh I1 J2 A) (C := (True ∧ True)) rfl ⟨trivial, trivial⟩ ?_
        refine gv_get hD rfl rfl S_1 ⟨by decide, B_1⟩ (gc_hA S_1 rfl A_1_7) ?_
        show gv_X _ _ (17, [(0, .inr (.inr (some 1))), (1, .inr (.inr (some a1))), (3, .inr (.inr (some a3))), (4, .inl v4_3), (5, .inl v5_3)], [.inr (.inr (some 12))], sh, gc_h sh I1 J2 A)
        refine gv_run 2 true hD (pc' := 20) (lv' := [(0, .inr (.inr (some 1))), (1, .inr (.inr (some a1))), (3, .inr (.inr (some a3))), (4, .inl v4_3), (5, .inl v5_3)]) (st' := [.inl v5_3, .inr (.inr (some a1)), .inr (.inr (some 12))]) (h' := gc_h sh I1 J2 A) (C := ((True ∧ True) ∧ True)) rfl ⟨⟨trivial, trivial⟩, trivial⟩ ?_
        have f16 := (show 0 ≤ I1 a1 (Int.toNat v5_3) ∧ I1 a1 (Int.toNat v5_3) ≤ 95 from gc_in hI1 R_a1 rfl rfl)
        refine gv_iald hD rfl S_a1 rfl ⟨by omega, B_a1⟩ ⟨by omega, by omega⟩ (gc_iI S_a1 rfl) ?_
        show gv_X _ _ (21, [(0, .inr (.inr (some 1))), (1, .inr (.inr (some a1))), (3, .inr (.inr (some a3))), (4, .inl v4_3), (5, .inl v5_3)], [.inl (I1 a1 (Int.toNat v5_3)), .inr (.inr (some 12))], sh, gc_h sh I1 J2 A)
        have f17 := (show 0 ≤ I1 12 (Int.toNat ((I1 a1 (Int.toNat v5_3)))) ∧ I1 12 (Int.toNat ((I1 a1 (Int.toNat v5_3)))) ≤ 4 from gc_in hI1 R_12 rfl rfl)
        refine gv_iald hD rfl S_12 rfl ⟨by decide, B_12⟩ ⟨by omega, by omega⟩ (gc_iI S_12 rfl) ?_
        show gv_X _ _ (22, [(0, .inr (.inr (some 1))), (1, .inr (.inr (some a1))), (3, .inr (.inr (some a3))), (4, .inl v4_3), (5, .inl v5_3)], [.inl (I1 12 (Int.toNat ((I1 a1 (Int.toNat v5_3)))))], sh, gc_h sh I1 J2 A)
        refine gv_run 3 true hD (pc' := 27) (lv' := [(7, .inl 0), (6, .inl (I1 12 (Int.toNat ((I1 a1 (Int.toNat v5_3)))))), (0, .inr (.inr (some 1))), (1, .inr (.inr (some a1))), (3, .inr (.inr (some a3))), (4, .inl v4_3), (5, .inl v5_3)]) (st' := []) (h' := gc_h sh I1 J2 A) (C := (((True ∧ True) ∧ True) ∧ True)) rfl ⟨⟨⟨trivial, trivial⟩, trivial⟩, trivial⟩ ?_
        refine gv_pick [2, 3, 4, 5, 6, 1, 0] rfl ?_
        exact L27 _ I1 J2 v4_3 ((I1 12 (Int.toNat ((I1 a1 (Int.toNat v5_3)))))) 0 (Nat.lt_succ_self _) hI1 FI1 FJ2 (by omega)
  refine gv_run 6 true hD (pc' := 8) (lv' := [(5, .inl (a2 - 1)), (4, .inl 0), (0, .inr (.inr (some 1))), (1, .inr (.inr (some a1))), (2, .inl a2), (3, .inr (.inr (some a3)))]) (st' := []) (h' := gc_h sh I J A) (C := ((((((True ∧ True) ∧ True) ∧ True) ∧ True) ∧ True) ∧ True)) rfl ⟨⟨⟨⟨⟨⟨trivial, trivial⟩, trivial⟩, trivial⟩, trivial⟩, trivial⟩, trivial⟩ ?_
  refine gv_pick [2, 3, 5, 1, 0] rfl ?_
  exact L8 _ I J 0 (a2 - 1) (Nat.lt_succ_self _) hI FI FJ (by omega)
