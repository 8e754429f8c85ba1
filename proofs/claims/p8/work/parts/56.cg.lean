theorem gc_b2 {sh : gz_Sh} {ro : Nat → Nat} {A : gc_A} (hb : gc_Base sh ro A) : gc_isNames sh ro A 2 32 9 := ⟨gc_bS hb rfl, gc_bR hb (by decide) rfl, by decide, gc_bA hb rfl, gc_bS hb rfl, gc_bR hb (by decide) rfl, by decide, rfl, rfl, by decide⟩
theorem gc_b4 {sh : gz_Sh} {ro : Nat → Nat} {A : gc_A} (hb : gc_Base sh ro A) : gc_isNames sh ro A 4 96 11 := ⟨gc_bS hb rfl, gc_bR hb (by decide) rfl, by decide, gc_bA hb rfl, gc_bS hb rfl, gc_bR hb (by decide) rfl, by decide, rfl, rfl, by decide⟩
theorem gc_b6 {sh : gz_Sh} {ro : Nat → Nat} {A : gc_A} (hb : gc_Base sh ro A) : gc_isNames sh ro A 6 8 6 := ⟨gc_bS hb rfl, gc_bR hb (by decide) rfl, by decide, gc_bA hb rfl, gc_bS hb rfl, gc_bR hb (by decide) rfl, by decide, rfl, rfl, by decide⟩
theorem gc_b8 {sh : gz_Sh} {ro : Nat → Nat} {A : gc_A} (hb : gc_Base sh ro A) : gc_isNames sh ro A 8 8 6 := ⟨gc_bS hb rfl, gc_bR hb (by decide) rfl, by decide, gc_bA hb rfl, gc_bS hb rfl, gc_bR hb (by decide) rfl, by decide, rfl, rfl, by decide⟩
theorem gc_b23 {sh : gz_Sh} {ro : Nat → Nat} {A : gc_A} (hb : gc_Base sh ro A) : gc_isText sh ro A 23 := ⟨gc_bS hb rfl, gc_bR hb (by decide) rfl, by decide, gc_bA hb rfl, gc_bS hb rfl, gc_bR hb (by decide) rfl, by decide, gc_bA hb rfl, gc_bS hb rfl, gc_bR hb (by decide) rfl, by decide, gc_bA hb rfl, gc_bS hb rfl, gc_bR hb (by decide) rfl, by decide⟩
theorem gc_b27 {sh : gz_Sh} {ro : Nat → Nat} {A : gc_A} (hb : gc_Base sh ro A) : gc_isText sh ro A 27 := ⟨gc_bS hb rfl, gc_bR hb (by decide) rfl, by decide, gc_bA hb rfl, gc_bS hb rfl, gc_bR hb (by decide) rfl, by decide, gc_bA hb rfl, gc_bS hb rfl, gc_bR hb (by decide) rfl, by decide, gc_bA hb rfl, gc_bS hb rfl, gc_bR hb (by decide) rfl, by decide⟩
theorem gc_b31 {sh : gz_Sh} {ro : Nat → Nat} {A : gc_A} (hb : gc_Base sh ro A) : gc_isText sh ro A 31 := ⟨gc_bS hb rfl, gc_bR hb (by decide) rfl, by decide, gc_bA hb rfl, gc_bS hb rfl, gc_bR hb (by decide) rfl, by decide, gc_bA hb rfl, gc_bS hb rfl, gc_bR hb (by decide) rfl, by decide, gc_bA hb rfl, gc_bS hb rfl, gc_bR hb (by decide) rfl, by decide⟩
theorem gc_b35 {sh : gz_Sh} {ro : Nat → Nat} {A : gc_A} (hb : gc_Base sh ro A) : gc_isText sh ro A 35 := ⟨gc_bS hb rfl, gc_bR hb (by decide) rfl, by decide, gc_bA hb rfl, gc_bS hb rfl, gc_bR hb (by decide) rfl, by decide, gc_bA hb rfl, gc_bS hb rfl, gc_bR hb (by decide) rfl, by decide, gc_bA hb rfl, gc_bS hb rfl, gc_bR hb (by decide) rfl, by decide⟩
theorem gc_b106 {sh : gz_Sh} {ro : Nat → Nat} {A : gc_A} (hb : gc_Base sh ro A) : gc_isText sh ro A 106 := ⟨gc_bS hb rfl, gc_bR hb (by decide) rfl, by decide, gc_bA hb rfl, gc_bS hb rfl, gc_bR hb (by decide) rfl, by decide, gc_bA hb rfl, gc_bS hb rfl, gc_bR hb (by decide) rfl, by decide, gc_bA hb rfl, gc_bS hb rfl, gc_bR hb (by decide) rfl, by decide⟩
def gc_ge (n : Nat) (I : gr_I) (m : Int) : Prop := ∀ k : Int, 0 ≤ k → k < m → 1 ≤ I n (Int.toNat k)
theorem gc_ge_fr {n : Nat} {I I' : gr_I} {m : Int} (h : gc_ge n I m) (hf : ∀ k, I' n k = I n k) : gc_ge n I' m := fun k a b => by rw [hf]; exact h k a b
theorem gc_ge_push {n : Nat} {I I' : gr_I} {m : Int} (h : gc_ge n I m) (h0 : 0 ≤ m) (p : ∀ q j, ¬ (q = n ∧ j = Int.toNat m) → I' q j = I q j) (hz : 1 ≤ I' n (Int.toNat m)) : gc_ge n I' (m + 1) := fun k a b => by
  by_cases hk : k = m
  · rw [hk]; exact hz
  · rw [p n (Int.toNat k) (fun q => by have := q.2; omega)]
    exact h k a (by omega)
theorem gc_ge_pop {n : Nat} {I : gr_I} {m : Int} (h : gc_ge n I m) : gc_ge n I (m + (-1)) := fun k a b => h k a (by omega)
theorem gc_ge_set {n : Nat} {I I' : gr_I} {m : Int} (h : gc_ge n I m) (h0 : 0 < m) (p : ∀ q j, ¬ (q = n ∧ j = Int.toNat (m - 1)) → I' q j = I q j) (hz : 1 ≤ I' n (Int.toNat (m - 1))) : gc_ge n I' m := fun k a b => by
  by_cases hk : k = m - 1
  · rw [hk]; exact hz
  · rw [p n (Int.toNat k) (fun q => by have := q.2; omega)]
    exact h k a b
set_option maxHeartbeats 8000000 in
set_option maxRecDepth 100000 in
theorem d_X8_findFact {ws0 : List Cond} {tb : String → gz_T} (hws : gc_Ws ws0) (htb : gc_tbs tb) (sh : gz_Sh) (ro : Nat → Nat) (I : gr_I) (J : gr_J) (A : gc_A) (hI : gc_Inv ro I) (a1 : Int64) (a2 : Int) (a3 : Int) (hb : gc_Base sh ro A) (ha2 : (-2147483648) ≤ a2 ∧ a2 ≤ 2147483647) (ha3 : (-2147483648) ≤ a3 ∧ a3 ≤ 2147483647)  : ∃ r h', gz_Ev ws0 tb 1 (yX8_findFact, cX8_findFact, 6, (some .int)) [.inr (.inr (some 1)), .inr (.inl a1), .inl a2, .inl a3] sh (gc_h sh I J A) r sh h' 0 0 ∧ (h' = gc_h sh I J A ∧ (∃ z : Int, r = some (.inl z) ∧ (-1) ≤ z ∧ z ≤ 63)) := by
  have A_1_14 : A 1 14 = some 18 := gc_bA hb rfl
  have A_1_15 : A 1 15 = some 19 := gc_bA hb rfl
  have B_1 : 1 < 1000000 := by decide
  have B_18 : 18 < 1000000 := by decide
  have B_19 : 19 < 1000000 := by decide
  have R_1 : ro 1 = 22 := gc_bR hb (by decide) rfl
  have R_19 : ro 19 = 29 := gc_bR hb (by decide) rfl
  have S_1 : sh[1]? = some (false, 8, 21) := gc_bS hb rfl
  have S_18 : sh[18]? = some (true, 2, 64) := gc_bS hb rfl
  have S_19 : sh[19]? = some (true, 1, 128) := gc_bS hb rfl
  have hD : gv_D (gc_E8 ws0 tb 0 (yX8_findFact, cX8_findFact, 6, (some .int)) kX8_findFact) := gq_of oX8_findFact
  refine gc_ev8 (d := 0) (l := kX8_findFact) (Po := fun r h' => (h' = gc_h sh I J A ∧ (∃ z : Int, r = some (.inl z) ∧ (-1) ≤ z ∧ z ≤ 63))) htb rfl (Nat.le_of_ble_eq_true rfl) ?_
  have L3 : ∀ (n9 : Nat) (v5_1 : Int), (65 - v5_1).toNat < n9 → (((-2147483648) ≤ a2 ∧ a2 ≤ 2147483647) ∧ ((-2147483648) ≤ a3 ∧ a3 ≤ 2147483647) ∧ (0 ≤ v5_1 ∧ v5_1 ≤ 64)) → gv_X (gc_E8 ws0 tb 0 (yX8_findFact, cX8_findFact, 6, (some .int)) kX8_findFact) (gv_Q cX8_findFact (some .int) sh (fun r h' => (h' = gc_h sh I J A ∧ (∃ z : Int, r = some (.inl z) ∧ (-1) ≤ z ∧ z ≤ 63)))) (3, [(0, .inr (.inr (some 1))), (1, .inr (.inl a1)), (3, .inl a2), (4, .inl a3), (5, .inl v5_1)], [], sh, gc_h sh I J A) := by
    intro n9
    induction n9 with
    | zero => intro v5_1 hn; exact gz_m 0 (by omega)
    | succ n9 ih3 =>
      intro v5_1 hn m_1
      obtain ⟨ha2_1, ha3_1, hv5_1⟩ := m_1
      have L56 : (((-2147483648) ≤ a2 ∧ a2 ≤ 2147483647) ∧ ((-2147483648) ≤ a3 ∧ a3 ≤ 2147483647) ∧ (0 ≤ v5_1 ∧ v5_1 ≤ 63)) → gv_X (gc_E8 ws0 tb 0 (yX8_findFact, cX8_findFact, 6, (some .int)) kX8_findFact) (gv_Q cX8_findFact (some .int) sh (fun r h' => (h' = gc_h sh I J A ∧ (∃ z : Int, r = some (.inl z) ∧ (-1) ≤ z ∧ z ≤ 63)))) (56, [(0, .inr (.inr (some 1))), (1, .inr (.inl a1)), (3, .inl a2), (4, .inl a3), (5, .inl v5_1)], [], sh, gc_h sh I J A) := by
        intro m_2
        obtain ⟨ha2_2, ha3_2, hv5_1_2⟩ := m_2
        refine gv_run 2 true hD (pc' := 3) (lv' := [(5, .inl (v5_1 + 1)), (0, .inr (.inr (some 1))), (1, .inr (.inl a1)), (3, .inl a2), (4, .inl a3)]) (st' := []) (h' := gc_h sh I J A) (C := ((True ∧ True) ∧ True)) rfl ⟨⟨trivial, trivial⟩, trivial⟩ ?_
        refine gv_pick [1, 2, 3, 4, 0] rfl ?_
        exact ih3 (v5_1 + 1) (by exact gz_m 1 (by omega)) (by exact gz_m 2 (by omega))
      refine gv_run 2 true hD (pc' := 6) (lv' := [(0, .inr (.inr (some 1))), (1, .inr (.inl a1)), (3, .inl a2), (4, .inl a3), (5, .inl v5_1)]) (st' := [.inr (.inr (some 1)), .inl v5_1]) (h' := gc_h sh I J A) (C := ((True ∧ True) ∧ True)) rfl ⟨⟨trivial, trivial⟩, trivial⟩ ?_
      have f3 := (show 0 ≤ I 1 13 ∧ I 1 13 ≤ 64 from gc_in hI R_1 rfl rfl)
      refine gv_get hD rfl rfl S_1 ⟨by decide, B_1⟩ (gc_hI S_1 rfl) ?_
      show gv_X _ _ (9, [(0, .inr (.inr (some 1))), (1, .inr (.inl a1)), (3, .inl a2), (4, .inl a3), (5, .inl v5_1)], [.inl (I 1 13), .inl v5_1], sh, gc_h sh I J A)
      refine gv_icmp_ge (t := 62) hD rfl rfl ⟨⟨by exact gz_m 3 (by omega), by exact gz_m 4 (by omega)⟩, ⟨by exact gz_m 5 (by omega), by exact gz_m 6 (by omega)⟩⟩ (fun c4 => ?_) (fun c4 => ?_)
      · show gv_X _ _ (62, [(0, .inr (.inr (some 1))), (1, .inr (.inl a1)), (3, .inl a2), (4, .inl a3), (5, .inl v5_1)], [], sh, gc_h sh I J A)
        refine gv_run 1 true hD (pc' := 63) (lv' := [(0, .inr (.inr (some 1))), (1, .inr (.inl a1)), (3, .inl a2), (4, .inl a3), (5, .inl v5_1)]) (st' := [.inl (-1)]) (h' := gc_h sh I J A) (C := (True ∧ True)) rfl ⟨trivial, trivial⟩ ?_
        exact gv_iret hD rfl ⟨rfl, ⟨_, rfl, by exact gz_m 7 (by omega)⟩⟩
      · show gv_X _ _ (12, [(0, .inr (.inr (some 1))), (1, .inr (.inl a1)), (3, .inl a2), (4, .inl a3), (5, .inl v5_1)], [], sh, gc_h sh I J A)
        refine gv_run 1 true hD (pc' := 13) (lv' := [(0, .inr (.inr (some 1))), (1, .inr (.inl a1)), (3, .inl a2), (4, .inl a3), (5, .inl v5_1)]) (st' := [.inr (.inr (some 1))]) (h' := gc_h sh I J A) (C := (True ∧ True)) rfl ⟨trivial, trivial⟩ ?_
        refine gv_get hD rfl rfl S_1 ⟨by decide, B_1⟩ (gc_hA S_1 rfl A_1_14) ?_
        show gv_X _ _ (16, [(0, .inr (.inr (some 1))), (1, .inr (.inl a1)), (3, .inl a2), (4, .inl a3), (5, .inl v5_1)], [.inr (.inr (some 18))], sh, gc_h sh I J A)
        refine gv_run 1 true hD (pc' := 18) (lv' := [(0, .inr (.inr (some 1))), (1, .inr (.inl a1)), (3, .inl a2), (4, .inl a3), (5, .inl v5_1)]) (st' := [.inl v5_1, .inr (.inr (some 18))]) (h' := gc_h sh I J A) (C := (True ∧ True)) rfl ⟨trivial, trivial⟩ ?_
        refine gv_lald hD rfl S_18 rfl ⟨by decide, B_18⟩ ⟨by exact gz_m 8 (by omega), by exact gz_m 9 (by omega)⟩ (gc_jJ S_18 rfl) ?_
        show gv_X _ _ (19, [(0, .inr (.inr (some 1))), (1, .inr (.inl a1)), (3, .inl a2), (4, .inl a3), (5, .inl v5_1)], [.inr (.inl (J 18 (Int.toNat v5_1)))], sh, gc_h sh I J A)
        have f5 := gw_cmp ((J 18 (Int.toNat v5_1))) (a1)
        refine gv_run 2 true hD (pc' := 21) (lv' := [(0, .inr (.inr (some 1))), (1, .inr (.inl a1)), (3, .inl a2), (4, .inl a3), (5, .inl v5_1)]) (st' := [.inl ((lg_cmp ((J 18 (Int.toNat v5_1))) (a1)).toInt)]) (h' := gc_h sh I J A) (C := ((True ∧ True) ∧ True)) rfl ⟨⟨trivial, trivial⟩, trivial⟩ ?_
        refine gv_if_ne (t := 56) hD rfl rfl ⟨by exact gz_m 10 (by omega), by exact gz_m 11 (by omega)⟩ (fun c6 => ?_) (fun c6 => ?_)
        · show gv_X _ _ (56, [(0, .inr (.inr (some 1))), (1, .inr (.inl a1)), (3, .inl a2), (4, .inl a3), (5, .inl v5_1)], [], sh, gc_h sh I J A)
          exact L56 (by exact gz_m 12 (by omega))
        · show gv_X _ _ (24, [(0, .inr (.inr (some 1))), (1, .inr (.inl a1)), (3, .inl a2), (4, .inl a3), (5, .inl v5_1)], [], sh, gc_h sh I J A)
          refine gv_run 1 true hD (pc' := 25) (lv' := [(0, .inr (.inr (some 1))), (1, .inr (.inl a1)), (3, .inl a2), (4, .inl a3), (5, .inl v5_1)]) (st' := [.inr (.inr (some 1))]) (h' := gc_h sh I J A) (C := (True ∧ True)) rfl ⟨trivial, trivial⟩ ?_
          refine gv_get hD rfl rfl S_1 ⟨by decide, B_1⟩ (gc_hA S_1 rfl A_1_15) ?_
          show gv_X _ _ (28, [(0, .inr (.inr (some 1))), (1, .inr (.inl a1)), (3, .inl a2), (4, .inl a3), (5, .inl v5_1)], [.inr (.inr (some 19))], sh, gc_h sh I J A)
          refine gv_run 3 true hD (pc' := 32) (lv' := [(0, .inr (.inr (some 1))), (1, .inr (.inl a1)), (3, .inl a2), (4, .inl a3), (5, .inl v5_1)]) (st' := [.inl (2 * v5_1), .inr (.inr (some 19))]) (h' := gc_h sh I J A) (C := (((True ∧ True) ∧ True) ∧ True)) rfl ⟨⟨⟨trivial, trivial⟩, trivial⟩, trivial⟩ ?_
          have f7 := (show (-1) ≤ I 19 (Int.toNat (2 * v5_1)) ∧ I 19 (Int.toNat (2 * v5_1)) ≤ 7 from gc_in hI R_19 rfl rfl)
          refine gv_iald hD rfl S_19 rfl ⟨by decide, B_19⟩ ⟨by exact gz_m 13 (by omega), by exact gz_m 14 (by omega)⟩ (gc_iI S_19 rfl) ?_
          show gv_X _ _ (33, [(0, .inr (.inr (some 1))), (1, .inr (.inl a1)), (3, .inl a2), (4, .inl a3), (5, .inl v5_1)], [.inl (I 19 (Int.toNat (2 * v5_1)))], sh, gc_h sh I J A)
          refine gv_run 1 true hD (pc' := 34) (lv' := [(0, .inr (.inr (some 1))), (1, .inr (.inl a1)), (3, .inl a2), (4, .inl a3), (5, .inl v5_1)]) (st' := [.inl a2, .inl (I 19 (Int.toNat (2 * v5_1)))]) (h' := gc_h sh I J A) (C := (True ∧ True)) rfl ⟨trivial, trivial⟩ ?_
          refine gv_icmp_ne (t := 56) hD rfl rfl ⟨⟨by exact gz_m 15 (by omega), by exact gz_m 16 (by omega)⟩, ⟨by exact gz_m 17 (by omega), by exact gz_m 18 (by omega)⟩⟩ (fun c8 => ?_) (fun c8 => ?_)
          · show gv_X _ _ (56, [(0, .inr (.inr (some 1))), (1, .inr (.inl a1)), (3, .inl a2), (4, .inl a3), (5, .inl v5_1)], [], sh, gc_h sh I J A)
            exact L56 (by exact gz_m 19 (by omega))
          · show gv_X _ _ (37, [(0, .inr (.inr (some 1))), (1, .inr (.inl a1)), (3, .inl a2), (4, .inl a3), (5, .inl v5_1)], [], sh, gc_h sh I J A)
            refine gv_run 1 true hD (pc' := 38) (lv' := [(0, .inr (.inr (some 1))), (1, .inr (.inl a1)), (3, .inl a2), (4, .inl a3), (5, .inl v5_1)]) (st' := [.inr (.inr (some 1))]) (h' := gc_h sh I J A) (C := (True ∧ True)) rfl ⟨trivial, trivial⟩ ?_
            refine gv_get hD rfl rfl S_1 ⟨by decide, B_1⟩ (gc_hA S_1 rfl A_1_15) ?_
            show gv_X _ _ (41, [(0, .inr (.inr (some 1))), (1, .inr (.inl a1)), (3, .inl a2), (4, .inl a3), (5, .inl v5_1)], [.inr (.inr (some 19))], sh, gc_h sh I J A)
            refine gv_run 5 true hD (pc' := 47) (lv' := [(0, .inr (.inr (some 1))), (1, .inr (.inl a1)), (3, .inl a2), (4, .inl a3), (5, .inl v5_1)]) (st' := [.inl ((2 * v5_1) + 1), .inr (.inr (some 19))]) (h' := gc_h sh I J A) (C := (((((True ∧ True) ∧ True) ∧ True) ∧ True) ∧ True)) rfl ⟨⟨⟨⟨⟨trivial, trivial⟩, trivial⟩, trivial⟩, trivial⟩, trivial⟩ ?_
            have f9 := (show (-1) ≤ I 19 (Int.toNat (((2 * v5_1) + 1))) ∧ I 19 (Int.toNat (((2 * v5_1) + 1))) ≤ 7 from gc_in hI R_19 rfl rfl)
            refine gv_iald hD rfl S_19 rfl ⟨by decide, B_19⟩ ⟨by exact gz_m 20 (by omega), by exact gz_m 21 (by omega)⟩ (gc_iI S_19 rfl) ?_
            show gv_X _ _ (48, [(0, .inr (.inr (some 1))), (1, .inr (.inl a1)), (3, .inl a2), (4, .inl a3), (5, .inl v5_1)], [.inl (I 19 (Int.toNat (((2 * v5_1) + 1))))], sh, gc_h sh I J A)
            refine gv_run 1 true hD (pc' := 50) (lv' := [(0, .inr (.inr (some 1))), (1, .inr (.inl a1)), (3, .inl a2), (4, .inl a3), (5, .inl v5_1)]) (st' := [.inl a3, .inl (I 19 (Int.toNat (((2 * v5_1) + 1))))]) (h' := gc_h sh I J A) (C := (True ∧ True)) rfl ⟨trivial, trivial⟩ ?_
            refine gv_icmp_ne (t := 56) hD rfl rfl ⟨⟨by exact gz_m 22 (by omega), by exact gz_m 23 (by omega)⟩, ⟨by exact gz_m 24 (by omega), by exact gz_m 25 (by omega)⟩⟩ (fun c10 => ?_) (fun c10 => ?_)
            · show gv_X _ _ (56, [(0, .inr (.inr (some 1))), (1, .inr (.inl a1)), (3, .inl a2), (4, .inl a3), (5, .inl v5_1)], [], sh, gc_h sh I J A)
              exact L56 (by exact gz_m 26 (by omega))
            · show gv_X _ _ (53, [(0, .inr (.inr (some 1))), (1, .inr (.inl a1)), (3, .inl a2), (4, .inl a3), (5, .inl v5_1)], [], sh, gc_h sh I J A)
              refine gv_run 1 true hD (pc' := 55) (lv' := [(0, .inr (.inr (some 1))), (1, .inr (.inl a1)), (3, .inl a2), (4, .inl a3), (5, .inl v5_1)]) (st' := [.inl v5_1]) (h' := gc_h sh I J A) (C := (True ∧ True)) rfl ⟨trivial, trivial⟩ ?_
              exact gv_iret hD rfl ⟨rfl, ⟨_, rfl, by exact gz_m 27 (by omega)⟩⟩
  refine gv_run 2 true hD (pc' := 3) (lv' := [(5, .inl 0), (0, .inr (.inr (some 1))), (1, .inr (.inl a1)), (3, .inl a2), (4, .inl a3)]) (st' := []) (h' := gc_h sh I J A) (C := ((True ∧ True) ∧ True)) rfl ⟨⟨trivial, trivial⟩, trivial⟩ ?_
  refine gv_pick [1, 2, 3, 4, 0] rfl ?_
  exact L3 _ 0 (Nat.lt_succ_self _) (by exact gz_m 28 (by omega))
set_option maxHeartbeats 8000000 in
set_option maxRecDepth 100000 in
theorem d_X8_sizeOf {ws0 : List Cond} {tb : String → gz_T} (hws : gc_Ws ws0) (htb : gc_tbs tb) (sh : gz_Sh) (ro : Nat → Nat) (I : gr_I) (J : gr_J) (A : gc_A) (hI : gc_Inv ro I) (a1 : Int) (hb : gc_Base sh ro A) (ha1 : (-2147483648) ≤ a1 ∧ a1 ≤ 2147483647)  : ∃ r h', gz_Ev ws0 tb 1 (yX8_sizeOf, cX8_sizeOf, 2, (some .int)) [.inr (.inr (some 1)), .inl a1] sh (gc_h sh I J A) r sh h' 0 0 ∧ (h' = gc_h sh I J A ∧ (∃ z : Int, r = some (.inl z) ∧ 0 ≤ z ∧ z ≤ 96)) := by
  have A_1_0 : A 1 0 = some 2 := gc_bA hb rfl
  have A_1_1 : A 1 1 = some 4 := gc_bA hb rfl
  have A_1_2 : A 1 2 = some 6 := gc_bA hb rfl
  have A_1_3 : A 1 3 = some 8 := gc_bA hb rfl
  have B_1 : 1 < 1000000 := by decide
  have B_2 : 2 < 1000000 := by decide
  have B_4 : 4 < 1000000 := by decide
  have B_6 : 6 < 1000000 := by decide
  have B_8 : 8 < 1000000 := by decide
  have R_1 : ro 1 = 22 := gc_bR hb (by decide) rfl
  have R_2 : ro 2 = 9 := gc_bR hb (by decide) rfl
  have R_4 : ro 4 = 11 := gc_bR hb (by decide) rfl
  have R_6 : ro 6 = 6 := gc_bR hb (by decide) rfl
  have R_8 : ro 8 = 6 := gc_bR hb (by decide) rfl
  have S_1 : sh[1]? = some (false, 8, 21) := gc_bS hb rfl
  have S_2 : sh[2]? = some (false, 4, 2) := gc_bS hb rfl
  have S_4 : sh[4]? = some (false, 4, 2) := gc_bS hb rfl
  have S_6 : sh[6]? = some (false, 4, 2) := gc_bS hb rfl
  have S_8 : sh[8]? = some (false, 4, 2) := gc_bS hb rfl
  have hD : gv_D (gc_E8 ws0 tb 0 (yX8_sizeOf, cX8_sizeOf, 2, (some .int)) kX8_sizeOf) := gq_of oX8_sizeOf
  refine gc_ev8 (d := 0) (l := kX8_sizeOf) (Po := fun r h' => (h' = gc_h sh I J A ∧ (∃ z : Int, r = some (.inl z) ∧ 0 ≤ z ∧ z ≤ 96))) htb rfl (Nat.le_of_ble_eq_true rfl) ?_
  refine gv_run 1 true hD (pc' := 1) (lv' := [(0, .inr (.inr (some 1))), (1, .inl a1)]) (st' := [.inl a1]) (h' := gc_h sh I J A) (C := (True ∧ True)) rfl ⟨trivial, trivial⟩ ?_
  by_cases c1 : a1 = 0
  · refine gv_tabAt hD 0 rfl ⟨by exact gz_m 0 (by omega), by exact gz_m 1 (by omega)⟩ c1 ⟨by decide, by decide⟩ rfl (t := 32) rfl ?_
    refine gv_run 1 true hD (pc' := 33) (lv' := [(0, .inr (.inr (some 1))), (1, .inl a1)]) (st' := [.inr (.inr (some 1))]) (h' := gc_h sh I J A) (C := (True ∧ True)) rfl ⟨trivial, trivial⟩ ?_
    refine gv_get hD rfl rfl S_1 ⟨by decide, B_1⟩ (gc_hA S_1 rfl A_1_3) ?_
    show gv_X _ _ (36, [(0, .inr (.inr (some 1))), (1, .inl a1)], [.inr (.inr (some 8))], sh, gc_h sh I J A)
    have f2 := (show 0 ≤ I 8 1 ∧ I 8 1 ≤ 8 from gc_in hI R_8 rfl rfl)
    refine gv_get hD rfl rfl S_8 ⟨by decide, B_8⟩ (gc_hI S_8 rfl) ?_
    show gv_X _ _ (39, [(0, .inr (.inr (some 1))), (1, .inl a1)], [.inl (I 8 1)], sh, gc_h sh I J A)
    exact gv_iret hD rfl ⟨rfl, ⟨_, rfl, by exact gz_m 2 (by omega)⟩⟩
  by_cases c3 : a1 = 1
  · refine gv_tabAt hD 1 rfl ⟨by exact gz_m 3 (by omega), by exact gz_m 4 (by omega)⟩ c3 ⟨by decide, by decide⟩ rfl (t := 40) rfl ?_
    refine gv_run 1 true hD (pc' := 41) (lv' := [(0, .inr (.inr (some 1))), (1, .inl a1)]) (st' := [.inr (.inr (some 1))]) (h' := gc_h sh I J A) (C := (True ∧ True)) rfl ⟨trivial, trivial⟩ ?_
    refine gv_get hD rfl rfl S_1 ⟨by decide, B_1⟩ (gc_hA S_1 rfl A_1_0) ?_
    show gv_X _ _ (44, [(0, .inr (.inr (some 1))), (1, .inl a1)], [.inr (.inr (some 2))], sh, gc_h sh I J A)
    have f4 := (show 0 ≤ I 2 1 ∧ I 2 1 ≤ 32 from gc_in hI R_2 rfl rfl)
    refine gv_get hD rfl rfl S_2 ⟨by decide, B_2⟩ (gc_hI S_2 rfl) ?_
    show gv_X _ _ (47, [(0, .inr (.inr (some 1))), (1, .inl a1)], [.inl (I 2 1)], sh, gc_h sh I J A)
    exact gv_iret hD rfl ⟨rfl, ⟨_, rfl, by exact gz_m 5 (by omega)⟩⟩
  by_cases c5 : a1 = 2
  · refine gv_tabAt hD 2 rfl ⟨by exact gz_m 6 (by omega), by exact gz_m 7 (by omega)⟩ c5 ⟨by decide, by decide⟩ rfl (t := 48) rfl ?_
    refine gv_run 1 true hD (pc' := 49) (lv' := [(0, .inr (.inr (some 1))), (1, .inl a1)]) (st' := [.inr (.inr (some 1))]) (h' := gc_h sh I J A) (C := (True ∧ True)) rfl ⟨trivial, trivial⟩ ?_
    refine gv_get hD rfl rfl S_1 ⟨by decide, B_1⟩ (gc_hA S_1 rfl A_1_1) ?_
    show gv_X _ _ (52, [(0, .inr (.inr (some 1))), (1, .inl a1)], [.inr (.inr (some 4))], sh, gc_h sh I J A)
    have f6 := (show 0 ≤ I 4 1 ∧ I 4 1 ≤ 96 from gc_in hI R_4 rfl rfl)
    refine gv_get hD rfl rfl S_4 ⟨by decide, B_4⟩ (gc_hI S_4 rfl) ?_
    show gv_X _ _ (55, [(0, .inr (.inr (some 1))), (1, .inl a1)], [.inl (I 4 1)], sh, gc_h sh I J A)
    exact gv_iret hD rfl ⟨rfl, ⟨_, rfl, by exact gz_m 8 (by omega)⟩⟩
  by_cases c7 : a1 = 3
  · refine gv_tabAt hD 3 rfl ⟨by exact gz_m 9 (by omega), by exact gz_m 10 (by omega)⟩ c7 ⟨by decide, by decide⟩ rfl (t := 56) rfl ?_
    refine gv_run 1 true hD (pc' := 57) (lv' := [(0, .inr (.inr (some 1))), (1, .inl a1)]) (st' := [.inr (.inr (some 1))]) (h' := gc_h sh I J A) (C := (True ∧ True)) rfl ⟨trivial, trivial⟩ ?_
    refine gv_get hD rfl rfl S_1 ⟨by decide, B_1⟩ (gc_hA S_1 rfl A_1_2) ?_
    show gv_X _ _ (60, [(0, .inr (.inr (some 1))), (1, .inl a1)], [.inr (.inr (some 6))], sh, gc_h sh I J A)
    have f8 := (show 0 ≤ I 6 1 ∧ I 6 1 ≤ 8 from gc_in hI R_6 rfl rfl)
    refine gv_get hD rfl rfl S_6 ⟨by decide, B_6⟩ (gc_hI S_6 rfl) ?_
    show gv_X _ _ (63, [(0, .inr (.inr (some 1))), (1, .inl a1)], [.inl (I 6 1)], sh, gc_h sh I J A)
    exact gv_iret hD rfl ⟨rfl, ⟨_, rfl, by exact gz_m 11 (by omega)⟩⟩
  refine gv_tabOut hD rfl ⟨by exact gz_m 12 (by omega), by exact gz_m 13 (by omega)⟩ (by exact gz_m 14 (by omega)) (t := 64) rfl ?_
  refine gv_run 1 true hD (pc' := 65) (lv' := [(0, .inr (.inr (some 1))), (1, .inl a1)]) (st' := [.inr (.inr (some 1))]) (h' := gc_h sh I J A) (C := (True ∧ True)) rfl ⟨trivial, trivial⟩ ?_
  have f9 := (show 0 ≤ I 1 13 ∧ I 1 13 ≤ 64 from gc_in hI R_1 rfl rfl)
  refine gv_get hD rfl rfl S_1 ⟨by decide, B_1⟩ (gc_hI S_1 rfl) ?_
  show gv_X _ _ (68, [(0, .inr (.inr (some 1))), (1, .inl a1)], [.inl (I 1 13)], sh, gc_h sh I J A)
  exact gv_iret hD rfl ⟨rfl, ⟨_, rfl, by exact gz_m 15 (by omega)⟩⟩
