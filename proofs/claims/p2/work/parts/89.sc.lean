def gc_TO (b : Int) (I : gr_I) : Prop := ∀ k : Nat, k < 40 → (k : Int) < I 39 12 → b ≤ I 43 k
theorem gc_TO_fr {b : Int} {I I' : gr_I} (h : gc_TO b I) (h1 : I' 39 12 = I 39 12) (hf : ∀ k, I' 43 k = I 43 k) : gc_TO b I' := fun k h9 hk => by rw [hf]; exact h k h9 (by omega)
def gc_TN (b : Int) (I : gr_I) (m j : Int) : Prop := ∀ k : Nat, k < 40 → ((k : Int) < m ∨ (j < (k : Int) ∧ (k : Int) ≤ m)) → b ≤ I 43 k
theorem gc_TN_0 {b : Int} {I : gr_I} (h : gc_TO b I) : gc_TN b I (I 39 12) (I 39 12) := fun k h9 hk => h k h9 (by omega)
theorem gc_TN_st {b : Int} {I I' : gr_I} {m j : Int} (h : gc_TN b I m j) (hj : 0 < j ∧ j ≤ m) (p : ∀ q k, ¬ (q = 43 ∧ k = Int.toNat j) → I' q k = I q k) (hz : I' 43 (Int.toNat j) = I 43 (Int.toNat (j - 1))) (h40 : j ≤ 40) : gc_TN b I' m (j + (-1)) := fun k h9 hk => by
  by_cases e : k = Int.toNat j
  · rw [e, hz]; exact h _ (by omega) (by omega)
  · rw [p 43 k (fun h => e h.2)]; exact h k h9 (by omega)
theorem gc_TO_put {b : Int} {I I1 I2 : gr_I} {m a : Int} (h : gc_TN b I m a) (hm : 0 ≤ a ∧ a ≤ m) (p1 : ∀ q k, ¬ (q = 43 ∧ k = Int.toNat a) → I1 q k = I q k) (hz : b ≤ I1 43 (Int.toNat a)) (hf : ∀ k, I2 43 k = I1 43 k) (h2 : I2 39 12 = m + 1) : gc_TO b I2 := fun k h9 hk => by
  rw [hf]
  by_cases e : k = Int.toNat a
  · rw [e]; exact hz
  · rw [p1 43 k (fun h => e h.2)]; exact h k h9 (by omega)
theorem gc_TN_put {b : Int} {I I1 : gr_I} {m a : Int} (h : gc_TN b I m a) (hm : 0 ≤ a ∧ a ≤ m) (p1 : ∀ q k, ¬ (q = 43 ∧ k = Int.toNat a) → I1 q k = I q k) (hz : b ≤ I1 43 (Int.toNat a)) : gc_TN b I1 m (-1) := fun k h9 hk => by
  by_cases e : k = Int.toNat a
  · rw [e]; exact hz
  · rw [p1 43 k (fun h => e h.2)]; exact h k h9 (by omega)
theorem gc_TO_big {b : Int} {I I' : gr_I} (h : gc_TO b I) (h1 : 40 ≤ I 39 12) (hf : ∀ k, I' 43 k = I 43 k) : gc_TO b I' := fun k h9 hk => by rw [hf]; exact h k h9 (by omega)
theorem gc_TO_0 {b : Int} {I : gr_I} (h : I 39 12 ≤ 0) : gc_TO b I := fun k h9 hk => by omega
set_option maxHeartbeats 4000000 in
set_option maxRecDepth 100000 in
theorem d_X6_putNode {ws0 : List Cond} {tb : String → gz_T} (hws : gc_Ws ws0) (htb : gc_tbs tb) (sh : gz_Sh) (ro : Nat → Nat) (I : gr_I) (J : gr_J) (A : gc_A) (hI : gc_Inv ro I) (b : Int) (a1 : Int) (a2 : Int) (a3 : Int64) (hb : gc_Base sh ro A) (ha1 : 0 ≤ a1 ∧ a1 ≤ 2000) (ha2 : (-7) ≤ a2 ∧ a2 ≤ 41) (x0 : a1 ≤ I 39 12) (x1 : b ≤ a2) (x2 : I 39 12 ≤ 1999) (KTO_I : gc_TO b I) : ∃ r h', gz_Ev ws0 tb 1 (yX6_putNode, cX6_putNode, 6, none) [.inr (.inr (some 39)), .inl a1, .inl a2, .inr (.inl a3)] sh (gc_h sh I J A) r sh h' 0 0 ∧ (∃ (I' : gr_I) (J' : gr_J), h' = gc_h sh I' J' A ∧ gc_Inv ro I' ∧ (∀ q j : Nat, ((q = 39 ∧ j = 12) ∨ q = 43) ∨ I' q j = I q j) ∧ (∀ q j : Nat, (q = 44) ∨ J' q j = J q j) ∧ gc_TO b I' ∧ r = none ∧ (I' 39 12 = I 39 12 + 1)) := by
  have FI : ∀ q j : Nat, ((q = 39 ∧ j = 12) ∨ q = 43) ∨ I q j = I q j := fun _ _ => Or.inr rfl
  have FJ : ∀ q j : Nat, (q = 44) ∨ J q j = J q j := fun _ _ => Or.inr rfl
  have A_39_13 : A 39 13 = some 43 := gc_bA hb rfl
  have A_39_14 : A 39 14 = some 44 := gc_bA hb rfl
  have B_39 : 39 < 1000000 := by decide
  have B_43 : 43 < 1000000 := by decide
  have B_44 : 44 < 1000000 := by decide
  have R_39 : ro 39 = 42 := gc_bR hb (by decide) rfl
  have R_43 : ro 43 = 50 := gc_bR hb (by decide) rfl
  have S_39 : sh[39]? = some (false, 6, 19) := gc_bS hb rfl
  have S_43 : sh[43]? = some (true, 1, 40) := gc_bS hb rfl
  have S_44 : sh[44]? = some (true, 2, 40) := gc_bS hb rfl
  have hD : gv_D (gc_E6 ws0 tb 0 (yX6_putNode, cX6_putNode, 6, none) kX6_putNode) := gq_ok oX6_putNode
  refine gc_ev6 (d := 0) (l := kX6_putNode) (Po := fun r h' => (∃ (I' : gr_I) (J' : gr_J), h' = gc_h sh I' J' A ∧ gc_Inv ro I' ∧ (∀ q j : Nat, ((q = 39 ∧ j = 12) ∨ q = 43) ∨ I' q j = I q j) ∧ (∀ q j : Nat, (q = 44) ∨ J' q j = J q j) ∧ gc_TO b I' ∧ r = none ∧ (I' 39 12 = I 39 12 + 1))) htb rfl (Nat.le_of_ble_eq_true rfl) ?_
  have f1 := (show 0 ≤ I 39 12 ∧ I 39 12 ≤ 2000 from gc_in hI R_39 rfl rfl)
  have L73 : ∀ (I2 : gr_I) (J3 : gr_J) , gc_Inv ro I2 → (∀ q j : Nat, ((q = 39 ∧ j = 12) ∨ q = 43) ∨ I2 q j = I q j) → (∀ q j : Nat, (q = 44) ∨ J3 q j = J q j) → ((I2 39 12 = I 39 12)) → (gc_TN b I2 (I2 39 12) (-1)) → gv_X (gc_E6 ws0 tb 0 (yX6_putNode, cX6_putNode, 6, none) kX6_putNode) (gv_Q cX6_putNode none sh (fun r h' => (∃ (I' : gr_I) (J' : gr_J), h' = gc_h sh I' J' A ∧ gc_Inv ro I' ∧ (∀ q j : Nat, ((q = 39 ∧ j = 12) ∨ q = 43) ∨ I' q j = I q j) ∧ (∀ q j : Nat, (q = 44) ∨ J' q j = J q j) ∧ gc_TO b I' ∧ r = none ∧ (I' 39 12 = I 39 12 + 1)))) (73, [(0, .inr (.inr (some 39)))], [], sh, gc_h sh I2 J3 A) := by
    intro I2 J3 hI2 FI2 FJ3 m_4 e0_4
    have e1_4 := m_4
    have f5 := (show 0 ≤ I2 39 12 ∧ I2 39 12 ≤ 2000 from gc_in hI2 R_39 rfl rfl)
    refine gv_run 2 true hD (pc' := 75) (lv' := [(0, .inr (.inr (some 39)))]) (st' := [.inr (.inr (some 39)), .inr (.inr (some 39))]) (h' := gc_h sh I2 J3 A) (C := ((True ∧ True) ∧ True)) rfl ⟨⟨trivial, trivial⟩, trivial⟩ ?_
    have f6 := (show 0 ≤ I2 39 12 ∧ I2 39 12 ≤ 2000 from gc_in hI2 R_39 rfl rfl)
    refine gv_get hD rfl rfl S_39 ⟨by decide, B_39⟩ (gc_hI S_39 rfl) ?_
    show gv_X _ _ (78, [(0, .inr (.inr (some 39)))], [.inl (I2 39 12), .inr (.inr (some 39))], sh, gc_h sh I2 J3 A)
    refine gv_run 2 true hD (pc' := 80) (lv' := [(0, .inr (.inr (some 39)))]) (st' := [.inl ((I2 39 12) + 1), .inr (.inr (some 39))]) (h' := gc_h sh I2 J3 A) (C := ((True ∧ True) ∧ True)) rfl ⟨⟨trivial, trivial⟩, trivial⟩ ?_
    refine gv_put hD rfl rfl S_39 ⟨by decide, B_39⟩ rfl trivial ?_
    refine gc_st (k := 12) hI2 S_39 rfl R_39 (lo := 0) (hi := 2000) rfl rfl (by omega) (by omega) (fun I7 hI7 q8 p8 => ?_)
    have FI7 := gc_frs (W := fun q j => (q = 39 ∧ j = 12) ∨ q = 43) FI2 (Or.inl ⟨rfl, rfl⟩) p8
    have f9 := (show 0 ≤ I7 39 12 ∧ I7 39 12 ≤ 2000 from gc_in hI7 R_39 rfl rfl)
    show gv_X _ _ (83, [(0, .inr (.inr (some 39)))], [], sh, gc_h sh I7 J3 A)
    exact gv_vret hD rfl ⟨I7, J3, rfl, hI7, FI7, FJ3, (fun k h9 hk => by rw [p8 43 k (fun h => absurd h.1 (by omega))]; exact e0_4 k h9 (by omega)), ⟨rfl, by omega⟩⟩
  have L15 : ∀ (n9 : Nat) (I10 : gr_I) (J11 : gr_J) (v5_12 : Int), (v5_12).toNat < n9 → gc_Inv ro I10 → (∀ q j : Nat, ((q = 39 ∧ j = 12) ∨ q = 43) ∨ I10 q j = I q j) → (∀ q j : Nat, (q = 44) ∨ J11 q j = J q j) → ((0 ≤ a1 ∧ a1 ≤ 2000) ∧ ((-7) ≤ a2 ∧ a2 ≤ 41) ∧ (0 ≤ v5_12 ∧ v5_12 ≤ 39) ∧ (v5_12 ≤ I10 39 12) ∧ (a1 ≤ v5_12) ∧ (I10 39 12 = I 39 12) ∧ (I10 39 12 ≤ 39)) → (gc_TN b I10 (I10 39 12) v5_12) → gv_X (gc_E6 ws0 tb 0 (yX6_putNode, cX6_putNode, 6, none) kX6_putNode) (gv_Q cX6_putNode none sh (fun r h' => (∃ (I' : gr_I) (J' : gr_J), h' = gc_h sh I' J' A ∧ gc_Inv ro I' ∧ (∀ q j : Nat, ((q = 39 ∧ j = 12) ∨ q = 43) ∨ I' q j = I q j) ∧ (∀ q j : Nat, (q = 44) ∨ J' q j = J q j) ∧ gc_TO b I' ∧ r = none ∧ (I' 39 12 = I 39 12 + 1)))) (15, [(0, .inr (.inr (some 39))), (1, .inl a1), (2, .inl a2), (3, .inr (.inl a3)), (5, .inl v5_12)], [], sh, gc_h sh I10 J11 A) := by
    intro n9
    induction n9 with
    | zero => intro I10 J11 v5_12 hn; omega
    | succ n9 ih15 =>
      intro I10 J11 v5_12 hn hI10 FI10 FJ11 m_12 e0_12
      obtain ⟨ha1_12, ha2_12, hv5_12, e1_12, e2_12, e3_12, e4_12⟩ := m_12
      have f13 := (show 0 ≤ I10 39 12 ∧ I10 39 12 ≤ 2000 from gc_in hI10 R_39 rfl rfl)
      refine gv_run 2 true hD (pc' := 18) (lv' := [(0, .inr (.inr (some 39))), (1, .inl a1), (2, .inl a2), (3, .inr (.inl a3)), (5, .inl v5_12)]) (st' := [.inl a1, .inl v5_12]) (h' := gc_h sh I10 J11 A) (C := ((True ∧ True) ∧ True)) rfl ⟨⟨trivial, trivial⟩, trivial⟩ ?_
      refine gv_icmp_le (t := 59) hD rfl rfl ⟨⟨by omega, by omega⟩, ⟨by omega, by omega⟩⟩ (fun c14 => ?_) (fun c14 => ?_)
      · show gv_X _ _ (59, [(0, .inr (.inr (some 39))), (1, .inl a1), (2, .inl a2), (3, .inr (.inl a3)), (5, .inl v5_12)], [], sh, gc_h sh I10 J11 A)
        refine gv_run 1 true hD (pc' := 60) (lv' := [(0, .inr (.inr (some 39))), (1, .inl a1), (2, .inl a2), (3, .inr (.inl a3)), (5, .inl v5_12)]) (st' := [.inr (.inr (some 39))]) (h' := gc_h sh I10 J11 A) (C := (True ∧ True)) rfl ⟨trivial, trivial⟩ ?_
        refine gv_get hD rfl rfl S_39 ⟨by decide, B_39⟩ (gc_hA S_39 rfl A_39_13) ?_
        show gv_X _ _ (63, [(0, .inr (.inr (some 39))), (1, .inl a1), (2, .inl a2), (3, .inr (.inl a3)), (5, .inl v5_12)], [.inr (.inr (some 43))], sh, gc_h sh I10 J11 A)
        refine gv_run 2 true hD (pc' := 65) (lv' := [(0, .inr (.inr (some 39))), (1, .inl a1), (2, .inl a2), (3, .inr (.inl a3)), (5, .inl v5_12)]) (st' := [.inl a2, .inl a1, .inr (.inr (some 43))]) (h' := gc_h sh I10 J11 A) (C := ((True ∧ True) ∧ True)) rfl ⟨⟨trivial, trivial⟩, trivial⟩ ?_
        refine gv_iast hD rfl S_43 ⟨by decide, B_43⟩ ⟨by omega, by omega⟩ ?_
        refine gc_st hI10 S_43 rfl R_43 (lo := (-7)) (hi := 41) rfl rfl (by omega) (by omega) (fun I15 hI15 q16 p16 => ?_)
        have FI15 := gc_frs (W := fun q j => (q = 39 ∧ j = 12) ∨ q = 43) FI10 (Or.inr rfl) p16
        have t17 := p16 39 12 (fun h => absurd h.1 (by decide))
        show gv_X _ _ (66, [(0, .inr (.inr (some 39))), (1, .inl a1), (2, .inl a2), (3, .inr (.inl a3)), (5, .inl v5_12)], [], sh, gc_h sh I15 J11 A)
        refine gv_run 1 true hD (pc' := 67) (lv' := [(0, .inr (.inr (some 39))), (1, .inl a1), (2, .inl a2), (3, .inr (.inl a3)), (5, .inl v5_12)]) (st' := [.inr (.inr (some 39))]) (h' := gc_h sh I15 J11 A) (C := (True ∧ True)) rfl ⟨trivial, trivial⟩ ?_
        refine gv_get hD rfl rfl S_39 ⟨by decide, B_39⟩ (gc_hA S_39 rfl A_39_14) ?_
        show gv_X _ _ (70, [(0, .inr (.inr (some 39))), (1, .inl a1), (2, .inl a2), (3, .inr (.inl a3)), (5, .inl v5_12)], [.inr (.inr (some 44))], sh, gc_h sh I15 J11 A)
        refine gv_run 2 true hD (pc' := 72) (lv' := [(0, .inr (.inr (some 39))), (1, .inl a1), (2, .inl a2), (3, .inr (.inl a3)), (5, .inl v5_12)]) (st' := [.inr (.inl a3), .inl a1, .inr (.inr (some 44))]) (h' := gc_h sh I15 J11 A) (C := ((True ∧ True) ∧ True)) rfl ⟨⟨trivial, trivial⟩, trivial⟩ ?_
        refine gv_last hD rfl S_44 ⟨by decide, B_44⟩ ⟨by omega, by omega⟩ ?_
        refine gc_stJ S_44 rfl (fun J18 q19 p19 => ?_)
        have FJ18 := gc_frs (W := fun q j => q = 44) FJ11 rfl p19
        show gv_X _ _ (73, [(0, .inr (.inr (some 39))), (1, .inl a1), (2, .inl a2), (3, .inr (.inl a3)), (5, .inl v5_12)], [], sh, gc_h sh I15 J18 A)
        refine gv_pick [0] rfl ?_
        exact L73 I15 J18 hI15 FI15 FJ18 (by omega) (by have h9 := gc_TN_put (show gc_TN b I10 (I10 39 12) a1 from by rw [show a1 = v5_12 from by omega]; exact e0_12) (by omega) p16 (by omega); rw [show I15 39 12 = I10 39 12 from by omega]; exact h9)
      · show gv_X _ _ (21, [(0, .inr (.inr (some 39))), (1, .inl a1), (2, .inl a2), (3, .inr (.inl a3)), (5, .inl v5_12)], [], sh, gc_h sh I10 J11 A)
        refine gv_run 1 true hD (pc' := 22) (lv' := [(0, .inr (.inr (some 39))), (1, .inl a1), (2, .inl a2), (3, .inr (.inl a3)), (5, .inl v5_12)]) (st' := [.inr (.inr (some 39))]) (h' := gc_h sh I10 J11 A) (C := (True ∧ True)) rfl ⟨trivial, trivial⟩ ?_
        refine gv_get hD rfl rfl S_39 ⟨by decide, B_39⟩ (gc_hA S_39 rfl A_39_13) ?_
        show gv_X _ _ (25, [(0, .inr (.inr (some 39))), (1, .inl a1), (2, .inl a2), (3, .inr (.inl a3)), (5, .inl v5_12)], [.inr (.inr (some 43))], sh, gc_h sh I10 J11 A)
        refine gv_run 2 true hD (pc' := 28) (lv' := [(0, .inr (.inr (some 39))), (1, .inl a1), (2, .inl a2), (3, .inr (.inl a3)), (5, .inl v5_12)]) (st' := [.inr (.inr (some 39)), .inl v5_12, .inr (.inr (some 43))]) (h' := gc_h sh I10 J11 A) (C := ((True ∧ True) ∧ True)) rfl ⟨⟨trivial, trivial⟩, trivial⟩ ?_
        refine gv_get hD rfl rfl S_39 ⟨by decide, B_39⟩ (gc_hA S_39 rfl A_39_13) ?_
        show gv_X _ _ (31, [(0, .inr (.inr (some 39))), (1, .inl a1), (2, .inl a2), (3, .inr (.inl a3)), (5, .inl v5_12)], [.inr (.inr (some 43)), .inl v5_12, .inr (.inr (some 43))], sh, gc_h sh I10 J11 A)
        refine gv_run 3 true hD (pc' := 35) (lv' := [(0, .inr (.inr (some 39))), (1, .inl a1), (2, .inl a2), (3, .inr (.inl a3)), (5, .inl v5_12)]) (st' := [.inl (v5_12 - 1), .inr (.inr (some 43)), .inl v5_12, .inr (.inr (some 43))]) (h' := gc_h sh I10 J11 A) (C := (((True ∧ True) ∧ True) ∧ True)) rfl ⟨⟨⟨trivial, trivial⟩, trivial⟩, trivial⟩ ?_
        have f20 := (show (-7) ≤ I10 43 (Int.toNat (v5_12 - 1)) ∧ I10 43 (Int.toNat (v5_12 - 1)) ≤ 41 from gc_in hI10 R_43 rfl rfl)
        refine gv_iald hD rfl S_43 rfl ⟨by decide, B_43⟩ ⟨by omega, by omega⟩ (gc_iI S_43 rfl) ?_
        show gv_X _ _ (36, [(0, .inr (.inr (some 39))), (1, .inl a1), (2, .inl a2), (3, .inr (.inl a3)), (5, .inl v5_12)], [.inl (I10 43 (Int.toNat (v5_12 - 1))), .inl v5_12, .inr (.inr (some 43))], sh, gc_h sh I10 J11 A)
        refine gv_iast hD rfl S_43 ⟨by decide, B_43⟩ ⟨by omega, by omega⟩ ?_
        refine gc_st hI10 S_43 rfl R_43 (lo := (-7)) (hi := 41) rfl rfl (by omega) (by omega) (fun I21 hI21 q22 p22 => ?_)
        have FI21 := gc_frs (W := fun q j => (q = 39 ∧ j = 12) ∨ q = 43) FI10 (Or.inr rfl) p22
        have t23 := p22 39 12 (fun h => absurd h.1 (by decide))
        show gv_X _ _ (37, [(0, .inr (.inr (some 39))), (1, .inl a1), (2, .inl a2), (3, .inr (.inl a3)), (5, .inl v5_12)], [], sh, gc_h sh I21 J11 A)
        refine gv_run 1 true hD (pc' := 38) (lv' := [(0, .inr (.inr (some 39))), (1, .inl a1), (2, .inl a2), (3, .inr (.inl a3)), (5, .inl v5_12)]) (st' := [.inr (.inr (some 39))]) (h' := gc_h sh I21 J11 A) (C := (True ∧ True)) rfl ⟨trivial, trivial⟩ ?_
        refine gv_get hD rfl rfl S_39 ⟨by decide, B_39⟩ (gc_hA S_39 rfl A_39_14) ?_
        show gv_X _ _ (41, [(0, .inr (.inr (some 39))), (1, .inl a1), (2, .inl a2), (3, .inr (.inl a3)), (5, .inl v5_12)], [.inr (.inr (some 44))], sh, gc_h sh I21 J11 A)
        refine gv_run 2 true hD (pc' := 44) (lv' := [(0, .inr (.inr (some 39))), (1, .inl a1), (2, .inl a2), (3, .inr (.inl a3)), (5, .inl v5_12)]) (st' := [.inr (.inr (some 39)), .inl v5_12, .inr (.inr (some 44))]) (h' := gc_h sh I21 J11 A) (C := ((True ∧ True) ∧ True)) rfl ⟨⟨trivial, trivial⟩, trivial⟩ ?_
        refine gv_get hD rfl rfl S_39 ⟨by decide, B_39⟩ (gc_hA S_39 rfl A_39_14) ?_
        show gv_X _ _ (47, [(0, .inr (.inr (some 39))), (1, .inl a1), (2, .inl a2), (3, .inr (.inl a3)), (5, .inl v5_12)], [.inr (.inr (some 44)), .inl v5_12, .inr (.inr (some 44))], sh, gc_h sh I21 J11 A)
        refine gv_run 3 true hD (pc' := 51) (lv' := [(0, .inr (.inr (some 39))), (1, .inl a1), (2, .inl a2), (3, .inr (.inl a3)), (5, .inl v5_12)]) (st' := [.inl (v5_12 - 1), .inr (.inr (some 44)), .inl v5_12, .inr (.inr (some 44))]) (h' := gc_h sh I21 J11 A) (C := (((True ∧ True) ∧ True) ∧ True)) rfl ⟨⟨⟨trivial, trivial⟩, trivial⟩, trivial⟩ ?_
        refine gv_lald hD rfl S_44 rfl ⟨by decide, B_44⟩ ⟨by omega, by omega⟩ (gc_jJ S_44 rfl) ?_
        show gv_X _ _ (52, [(0, .inr (.inr (some 39))), (1, .inl a1), (2, .inl a2), (3, .inr (.inl a3)), (5, .inl v5_12)], [.inr (.inl (J11 44 (Int.toNat (v5_12 - 1)))), .inl v5_12, .inr (.inr (some 44))], sh, gc_h sh I21 J11 A)
        refine gv_last hD rfl S_44 ⟨by decide, B_44⟩ ⟨by omega, by omega⟩ ?_
        refine gc_stJ S_44 rfl (fun J24 q25 p25 => ?_)
        have FJ24 := gc_frs (W := fun q j => q = 44) FJ11 rfl p25
        show gv_X _ _ (53, [(0, .inr (.inr (some 39))), (1, .inl a1), (2, .inl a2), (3, .inr (.inl a3)), (5, .inl v5_12)], [], sh, gc_h sh I21 J24 A)
        refine gv_run 2 true hD (pc' := 15) (lv' := [(5, .inl (v5_12 + (-1))), (0, .inr (.inr (some 39))), (1, .inl a1), (2, .inl a2), (3, .inr (.inl a3))]) (st' := []) (h' := gc_h sh I21 J24 A) (C := ((True ∧ True) ∧ True)) rfl ⟨⟨trivial, trivial⟩, trivial⟩ ?_
        refine gv_pick [1, 2, 3, 4, 0] rfl ?_
        exact ih15 I21 J24 ((v5_12 + (-1))) (by omega) hI21 FI21 FJ24 (by omega) (by have h9 := gc_TN_st e0_12 (by omega) p22 q22 (by omega); rw [show I21 39 12 = I10 39 12 from by omega]; exact h9)
  refine gv_run 1 true hD (pc' := 1) (lv' := [(0, .inr (.inr (some 39))), (1, .inl a1), (2, .inl a2), (3, .inr (.inl a3))]) (st' := [.inr (.inr (some 39))]) (h' := gc_h sh I J A) (C := (True ∧ True)) rfl ⟨trivial, trivial⟩ ?_
  have f26 := (show 0 ≤ I 39 12 ∧ I 39 12 ≤ 2000 from gc_in hI R_39 rfl rfl)
  refine gv_get hD rfl rfl S_39 ⟨by decide, B_39⟩ (gc_hI S_39 rfl) ?_
  show gv_X _ _ (4, [(0, .inr (.inr (some 39))), (1, .inl a1), (2, .inl a2), (3, .inr (.inl a3))], [.inl (I 39 12)], sh, gc_h sh I J A)
  refine gv_run 1 true hD (pc' := 6) (lv' := [(0, .inr (.inr (some 39))), (1, .inl a1), (2, .inl a2), (3, .inr (.inl a3))]) (st' := [.inl 40, .inl (I 39 12)]) (h' := gc_h sh I J A) (C := (True ∧ True)) rfl ⟨trivial, trivial⟩ ?_
  refine gv_icmp_ge (t := 73) hD rfl rfl ⟨⟨by omega, by omega⟩, ⟨by omega, by omega⟩⟩ (fun c27 => ?_) (fun c27 => ?_)
  · show gv_X _ _ (73, [(0, .inr (.inr (some 39))), (1, .inl a1), (2, .inl a2), (3, .inr (.inl a3))], [], sh, gc_h sh I J A)
    refine gv_pick [0] rfl ?_
    exact L73 I J hI FI FJ (by omega) (fun k h9 hk => KTO_I k h9 (by omega))
  · show gv_X _ _ (9, [(0, .inr (.inr (some 39))), (1, .inl a1), (2, .inl a2), (3, .inr (.inl a3))], [], sh, gc_h sh I J A)
    refine gv_run 1 true hD (pc' := 10) (lv' := [(0, .inr (.inr (some 39))), (1, .inl a1), (2, .inl a2), (3, .inr (.inl a3))]) (st' := [.inr (.inr (some 39))]) (h' := gc_h sh I J A) (C := (True ∧ True)) rfl ⟨trivial, trivial⟩ ?_
    have f28 := (show 0 ≤ I 39 12 ∧ I 39 12 ≤ 2000 from gc_in hI R_39 rfl rfl)
    refine gv_get hD rfl rfl S_39 ⟨by decide, B_39⟩ (gc_hI S_39 rfl) ?_
    show gv_X _ _ (13, [(0, .inr (.inr (some 39))), (1, .inl a1), (2, .inl a2), (3, .inr (.inl a3))], [.inl (I 39 12)], sh, gc_h sh I J A)
    refine gv_run 1 true hD (pc' := 15) (lv' := [(5, .inl (I 39 12)), (0, .inr (.inr (some 39))), (1, .inl a1), (2, .inl a2), (3, .inr (.inl a3))]) (st' := []) (h' := gc_h sh I J A) (C := (True ∧ True)) rfl ⟨trivial, trivial⟩ ?_
    refine gv_pick [1, 2, 3, 4, 0] rfl ?_
    exact L15 _ I J (I 39 12) (Nat.lt_succ_self _) hI FI FJ (by omega) (gc_TN_0 KTO_I)
