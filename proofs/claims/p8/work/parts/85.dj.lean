def gc_cd (I0 I : gr_I) (T C : Nat) (n v : Int) : Prop := ∀ i k : Nat, v < (i : Int) → (i : Int) < n → (k : Int) < I0 12 (Int.toNat (I0 T i)) → (i : Int) < I C (4 * i + k) ∧ I C (4 * i + k) < n
def gc_cc (I : gr_I) (C : Nat) (v j n : Int) : Prop := ∀ k : Nat, (k : Int) < j → v < I C (4 * Int.toNat v + k) ∧ I C (4 * Int.toNat v + k) < n
theorem gc_cd_fr {I0 I I' : gr_I} {T C : Nat} {n v : Int} (h : gc_cd I0 I T C n v) (hf : ∀ k, I' C k = I C k) : gc_cd I0 I' T C n v := fun i k h1 h2 h3 => by rw [hf]; exact h i k h1 h2 h3
theorem gc_cc_fr {I I' : gr_I} {C : Nat} {v j n : Int} (h : gc_cc I C v j n) (hf : ∀ k, I' C k = I C k) : gc_cc I' C v j n := fun k h1 => by rw [hf]; exact h k h1
theorem gc_cd_st {I0 I I' : gr_I} {T C : Nat} {n v j : Int} (h : gc_cd I0 I T C n v) (hv : 0 ≤ v) (hj : 0 ≤ j ∧ j ≤ 3) (p : ∀ q k, ¬ (q = C ∧ k = Int.toNat (v * 4 + j)) → I' q k = I q k) : gc_cd I0 I' T C n v := fun i k h1 h2 h3 => by rw [p C _ (fun e => by have := e.2; omega)]; exact h i k h1 h2 h3
set_option maxHeartbeats 8000000 in
theorem gc_cc_st {I I' : gr_I} {C : Nat} {n v j : Int} (h : gc_cc I C v j n) (hv : 0 ≤ v) (hj : 0 ≤ j) (p : ∀ q k, ¬ (q = C ∧ k = Int.toNat (v * 4 + j)) → I' q k = I q k) (hz : v < I' C (Int.toNat (v * 4 + j)) ∧ I' C (Int.toNat (v * 4 + j)) < n) : gc_cc I' C v (j + 1) n := fun k h1 => by
  by_cases e : (k : Int) = j
  · rw [show 4 * Int.toNat v + k = Int.toNat (v * 4 + j) from by exact gz_m 0 (by omega)]; exact hz
  · rw [p C _ (fun e => by have := e.2; exact gz_m 1 (by omega))]; exact h k (by exact gz_m 2 (by omega))
theorem gc_cd_nx {I0 I : gr_I} {T C : Nat} {n v : Int} (h : gc_cd I0 I T C n v) (hc : gc_cc I C v (I0 12 (Int.toNat (I0 T (Int.toNat v)))) n) (hv : 0 ≤ v) : gc_cd I0 I T C n (v + (-1)) := fun i k h1 h2 h3 => by
  by_cases e : (i : Int) = v
  · have e2 : i = Int.toNat v := by exact gz_m 0 (by omega)
    subst e2
    have := hc k h3
    exact gz_m 1 (by omega)
  · exact h i k (by exact gz_m 2 (by omega)) h2 h3
theorem gc_rg_lo {n : Nat} {I : gr_I} {m lo lo' hi : Int} (h : gc_rg n I m lo hi) (e : lo' ≤ lo) : gc_rg n I m lo' hi := fun k a b => by have := h k a b; omega
theorem gc_op_at {I : gr_I} {T : Nat} {v : Int} (h : 0 ≤ v) : gc_op I T (Int.toNat (v + 1)) = gc_op I T (Int.toNat v) - 1 + I 12 (Int.toNat (I T (Int.toNat v))) := by
  rw [show Int.toNat (v + 1) = Int.toNat v + 1 from by omega]
  rfl
set_option maxHeartbeats 8000000 in
set_option maxRecDepth 100000 in
theorem d_X8_findChildren_w {ws0 : List Cond} {tb : String → gz_T} (hws : gc_Ws ws0) (htb : gc_tbs tb) (sh : gz_Sh) (ro : Nat → Nat) (I : gr_I) (J : gr_J) (A : gc_A) (hI : gc_Inv ro I) (m : Nat) (m2 : Nat) (a1 : Nat) (a2 : Int) (a3 : Nat) (hb : gc_Base sh ro A) (S_a1 : sh[a1]? = some (true, 1, m)) (R_a1 : ro a1 = 37) (B_a1 : a1 < 1000000) (M_a1 : m < 2147483648) (S_a3 : sh[a3]? = some (true, 1, m2)) (R_a3 : ro a3 = 38) (B_a3 : a3 < 1000000) (M_a3 : m2 < 2147483648) (ha2 : 0 ≤ a2 ∧ a2 ≤ 60) (x0 : gc_wtr I a1 a2) (x1 : a2 ≤ m) (x2 : 4 * a2 ≤ m2) (x3 : 115 ≤ a1) (x4 : 75 ≤ a3 ∧ a3 ≤ 91) : ∃ r h', gz_Ev ws0 tb 1 (yX8_findChildren, cX8_findChildren, 8, none) [.inr (.inr (some 1)), .inr (.inr (some a1)), .inl a2, .inr (.inr (some a3))] sh (gc_h sh I J A) r sh h' 0 0 ∧ (∃ (I' : gr_I) (J' : gr_J), h' = gc_h sh I' J' A ∧ gc_Inv ro I' ∧ (∀ q j : Nat, (q = a3 ∨ q = 22) ∨ I' q j = I q j) ∧ (∀ q j : Nat, (False) ∨ J' q j = J q j) ∧ r = none ∧ (gc_cd I I' a1 a3 a2 (-1))) := by
  have FI : ∀ q j : Nat, (q = a3 ∨ q = 22) ∨ I q j = I q j := fun _ _ => Or.inr rfl
  have FJ : ∀ q j : Nat, (False) ∨ J q j = J q j := fun _ _ => Or.inr rfl
  have A_1_20 : A 1 20 = some 22 := gc_bA hb rfl
  have A_1_7 : A 1 7 = some 12 := gc_bA hb rfl
  have B_1 : 1 < 1000000 := by decide
  have B_12 : 12 < 1000000 := by decide
  have B_22 : 22 < 1000000 := by decide
  have R_12 : ro 12 = 26 := gc_bR hb (by decide) rfl
  have R_22 : ro 22 = 38 := gc_bR hb (by decide) rfl
  have S_1 : sh[1]? = some (false, 8, 21) := gc_bS hb rfl
  have S_12 : sh[12]? = some (true, 1, 96) := gc_bS hb rfl
  have S_22 : sh[22]? = some (true, 1, 60) := gc_bS hb rfl
  have hD : gv_D (gc_E8 ws0 tb 0 (yX8_findChildren, cX8_findChildren, 8, none) kX8_findChildren) := gq_of oX8_findChildren
  refine gc_ev8 (d := 0) (l := kX8_findChildren) (Po := fun r h' => (∃ (I' : gr_I) (J' : gr_J), h' = gc_h sh I' J' A ∧ gc_Inv ro I' ∧ (∀ q j : Nat, (q = a3 ∨ q = 22) ∨ I' q j = I q j) ∧ (∀ q j : Nat, (False) ∨ J' q j = J q j) ∧ r = none ∧ (gc_cd I I' a1 a3 a2 (-1)))) htb rfl (Nat.le_of_ble_eq_true rfl) ?_
  have L8 : ∀ (n9 : Nat) (I1 : gr_I) (J2 : gr_J) (v4_3 : Int) (v5_3 : Int), (v5_3 - (-2)).toNat < n9 → gc_Inv ro I1 → (∀ q j : Nat, (q = a3 ∨ q = 22) ∨ I1 q j = I q j) → (∀ q j : Nat, (False) ∨ J2 q j = J q j) → ((0 ≤ v4_3 ∧ v4_3 ≤ 60) ∧ ((-1) ≤ v5_3 ∧ v5_3 ≤ 59) ∧ (v5_3 < a2) ∧ (v4_3 + v5_3 + 1 ≤ a2)) → (v4_3 = gc_op I a1 (Int.toNat (v5_3 + 1))) → (gc_rg 22 I1 v4_3 (v5_3 + 1) (a2 - 1)) → (gc_cd I I1 a1 a3 a2 v5_3) → gv_X (gc_E8 ws0 tb 0 (yX8_findChildren, cX8_findChildren, 8, none) kX8_findChildren) (gv_Q cX8_findChildren none sh (fun r h' => (∃ (I' : gr_I) (J' : gr_J), h' = gc_h sh I' J' A ∧ gc_Inv ro I' ∧ (∀ q j : Nat, (q = a3 ∨ q = 22) ∨ I' q j = I q j) ∧ (∀ q j : Nat, (False) ∨ J' q j = J q j) ∧ r = none ∧ (gc_cd I I' a1 a3 a2 (-1))))) (8, [(0, .inr (.inr (some 1))), (1, .inr (.inr (some a1))), (3, .inr (.inr (some a3))), (4, .inl v4_3), (5, .inl v5_3)], [], sh, gc_h sh I1 J2 A) := by
    intro n9
    induction n9 with
    | zero => intro I1 J2 v4_3 v5_3 hn; exact gz_m 0 (by omega)
    | succ n9 ih8 =>
      intro I1 J2 v4_3 v5_3 hn hI1 FI1 FJ2 m_3 e0_3 e1_3 e2_3
      obtain ⟨hv4_3, hv5_3, e3_3, e4_3⟩ := m_3
      have L27 : ∀ (n9 : Nat) (I4 : gr_I) (J5 : gr_J) (v4_6 : Int) (v6_6 : Int) (v7_6 : Int), (v4_6 - (-1)).toNat < n9 → gc_Inv ro I4 → (∀ q j : Nat, (q = a3 ∨ q = 22) ∨ I4 q j = I q j) → (∀ q j : Nat, (False) ∨ J5 q j = J q j) → ((0 ≤ v4_6 ∧ v4_6 ≤ 60) ∧ (0 ≤ v5_3 ∧ v5_3 ≤ 59) ∧ (0 ≤ v6_6 ∧ v6_6 ≤ 4) ∧ (0 ≤ v7_6 ∧ v7_6 ≤ 4) ∧ (v4_6 = gc_op I a1 (Int.toNat (v5_3 + 1)) - v7_6) ∧ (v6_6 = I 12 (Int.toNat (I a1 (Int.toNat v5_3)))) ∧ (v7_6 ≤ v6_6) ∧ (v5_3 < a2) ∧ (0 ≤ v5_3) ∧ (v4_6 + v5_3 + 1 ≤ a2)) → (gc_rg 22 I4 v4_6 (v5_3 + 1) (a2 - 1)) → (gc_cd I I4 a1 a3 a2 v5_3) → (gc_cc I4 a3 v5_3 v7_6 a2) → gv_X (gc_E8 ws0 tb 0 (yX8_findChildren, cX8_findChildren, 8, none) kX8_findChildren) (gv_Q cX8_findChildren none sh (fun r h' => (∃ (I' : gr_I) (J' : gr_J), h' = gc_h sh I' J' A ∧ gc_Inv ro I' ∧ (∀ q j : Nat, (q = a3 ∨ q = 22) ∨ I' q j = I q j) ∧ (∀ q j : Nat, (False) ∨ J' q j = J q j) ∧ r = none ∧ (gc_cd I I' a1 a3 a2 (-1))))) (27, [(0, .inr (.inr (some 1))), (1, .inr (.inr (some a1))), (3, .inr (.inr (some a3))), (4, .inl v4_6), (5, .inl v5_3), (6, .inl v6_6), (7, .inl v7_6)], [], sh, gc_h sh I4 J5 A) := by
        intro n9
        induction n9 with
        | zero => intro I4 J5 v4_6 v6_6 v7_6 hn; exact gz_m 1 (by omega)
        | succ n9 ih27 =>
          intro I4 J5 v4_6 v6_6 v7_6 hn hI4 FI4 FJ5 m_6 e1_6 e2_6 e3_6
          clear hv4_3 hv5_3 e3_3 e4_3
          obtain ⟨hv4_6, hv5_3_6, hv6_6, hv7_6, e0_6, e4_6, e5_6, e6_6, e7_6, e8_6⟩ := m_6
          have L64 : ((0 ≤ v4_6 ∧ v4_6 ≤ 60) ∧ (0 ≤ v5_3 ∧ v5_3 ≤ 59) ∧ (v4_6 + 1 = gc_op I a1 (Int.toNat v5_3)) ∧ (v5_3 < a2) ∧ (0 ≤ v5_3) ∧ (v4_6 + v5_3 + 1 ≤ a2)) → (gc_rg 22 I4 v4_6 (v5_3 + 1) (a2 - 1)) → (gc_cd I I4 a1 a3 a2 v5_3) → (gc_cc I4 a3 v5_3 (I 12 (Int.toNat (I a1 (Int.toNat v5_3)))) a2) → gv_X (gc_E8 ws0 tb 0 (yX8_findChildren, cX8_findChildren, 8, none) kX8_findChildren) (gv_Q cX8_findChildren none sh (fun r h' => (∃ (I' : gr_I) (J' : gr_J), h' = gc_h sh I' J' A ∧ gc_Inv ro I' ∧ (∀ q j : Nat, (q = a3 ∨ q = 22) ∨ I' q j = I q j) ∧ (∀ q j : Nat, (False) ∨ J' q j = J q j) ∧ r = none ∧ (gc_cd I I' a1 a3 a2 (-1))))) (64, [(0, .inr (.inr (some 1))), (1, .inr (.inr (some a1))), (3, .inr (.inr (some a3))), (4, .inl v4_6), (5, .inl v5_3)], [], sh, gc_h sh I4 J5 A) := by
            intro m_7 e1_7 e2_7 e3_7
            obtain ⟨hv4_6_7, hv5_3_7, e0_7, e4_7, e5_7, e6_7⟩ := m_7
            refine gv_run 1 true hD (pc' := 65) (lv' := [(0, .inr (.inr (some 1))), (1, .inr (.inr (some a1))), (3, .inr (.inr (some a3))), (4, .inl v4_6), (5, .inl v5_3)]) (st' := [.inr (.inr (some 1))]) (h' := gc_h sh I4 J5 A) (C := (True ∧ True)) rfl ⟨trivial, trivial⟩ ?_
            refine gv_get hD rfl rfl S_1 ⟨by decide, B_1⟩ (gc_hA S_1 rfl A_1_20) ?_
            show gv_X _ _ (68, [(0, .inr (.inr (some 1))), (1, .inr (.inr (some a1))), (3, .inr (.inr (some a3))), (4, .inl v4_6), (5, .inl v5_3)], [.inr (.inr (some 22))], sh, gc_h sh I4 J5 A)
            refine gv_run 3 true hD (pc' := 75) (lv' := [(4, .inl (v4_6 + 1)), (0, .inr (.inr (some 1))), (1, .inr (.inr (some a1))), (3, .inr (.inr (some a3))), (5, .inl v5_3)]) (st' := [.inl v5_3, .inl v4_6, .inr (.inr (some 22))]) (h' := gc_h sh I4 J5 A) (C := (((True ∧ True) ∧ True) ∧ True)) rfl ⟨⟨⟨trivial, trivial⟩, trivial⟩, trivial⟩ ?_
            refine gv_iast hD rfl S_22 ⟨by decide, B_22⟩ ⟨by exact gz_m 2 (by omega), by exact gz_m 3 (by omega)⟩ ?_
            refine gc_st hI4 S_22 rfl R_22 (lo := 0) (hi := 59) rfl rfl (by exact gz_m 4 (by omega)) (by exact gz_m 5 (by omega)) (fun I8 hI8 q9 p9 => ?_)
            have FI8 := gc_frs (W := fun q j => q = a3 ∨ q = 22) FI4 (Or.inr rfl) p9
            show gv_X _ _ (76, [(4, .inl (v4_6 + 1)), (0, .inr (.inr (some 1))), (1, .inr (.inr (some a1))), (3, .inr (.inr (some a3))), (5, .inl v5_3)], [], sh, gc_h sh I8 J5 A)
            refine gv_run 2 true hD (pc' := 8) (lv' := [(5, .inl (v5_3 + (-1))), (4, .inl (v4_6 + 1)), (0, .inr (.inr (some 1))), (1, .inr (.inr (some a1))), (3, .inr (.inr (some a3)))]) (st' := []) (h' := gc_h sh I8 J5 A) (C := ((True ∧ True) ∧ True)) rfl ⟨⟨trivial, trivial⟩, trivial⟩ ?_
            refine gv_pick [2, 3, 4, 1, 0] rfl ?_
            exact ih8 I8 J5 (v4_6 + 1) ((v5_3 + (-1))) (by exact gz_m 6 (by omega)) hI8 FI8 FJ5 (by exact gz_m 7 (by omega)) (by rw [show Int.toNat (v5_3 + (-1) + 1) = Int.toNat v5_3 from by exact gz_m 8 (by omega)]; exact gz_m 9 (by omega)) (gc_rg_push (gc_rg_lo e1_7 (by exact gz_m 10 (by omega))) (by exact gz_m 11 (by omega)) p9 (by exact gz_m 12 (by omega))) (gc_cd_nx (gc_cd_fr e2_7 (fun k => p9 a3 k (fun h => absurd h.1 (by exact gz_m 13 (by omega))))) (gc_cc_fr e3_7 (fun k => p9 a3 k (fun h => absurd h.1 (by exact gz_m 14 (by omega))))) (by exact gz_m 15 (by omega)))
          have t10 := gc_op_at (I := I) (T := a1) (v := v5_3) (by exact gz_m 16 (by omega))
          have t11 := x0.1 (Int.toNat v5_3) (by exact gz_m 17 (by omega))
          refine gv_run 2 true hD (pc' := 31) (lv' := [(0, .inr (.inr (some 1))), (1, .inr (.inr (some a1))), (3, .inr (.inr (some a3))), (4, .inl v4_6), (5, .inl v5_3), (6, .inl v6_6), (7, .inl v7_6)]) (st' := [.inl v6_6, .inl v7_6]) (h' := gc_h sh I4 J5 A) (C := ((True ∧ True) ∧ True)) rfl ⟨⟨trivial, trivial⟩, trivial⟩ ?_
          refine gv_icmp_ge (t := 64) hD rfl rfl ⟨⟨by exact gz_m 18 (by omega), by exact gz_m 19 (by omega)⟩, ⟨by exact gz_m 20 (by omega), by exact gz_m 21 (by omega)⟩⟩ (fun c12 => ?_) (fun c12 => ?_)
          · show gv_X _ _ (64, [(0, .inr (.inr (some 1))), (1, .inr (.inr (some a1))), (3, .inr (.inr (some a3))), (4, .inl v4_6), (5, .inl v5_3), (6, .inl v6_6), (7, .inl v7_6)], [], sh, gc_h sh I4 J5 A)
            refine gv_pick [0, 1, 2, 3, 4] rfl ?_
            exact L64 (by exact gz_m 22 (by omega)) e1_6 e2_6 (fun k h1 => e3_6 k (by exact gz_m 23 (by omega)))
          · show gv_X _ _ (34, [(0, .inr (.inr (some 1))), (1, .inr (.inr (some a1))), (3, .inr (.inr (some a3))), (4, .inl v4_6), (5, .inl v5_3), (6, .inl v6_6), (7, .inl v7_6)], [], sh, gc_h sh I4 J5 A)
            refine gv_run 1 true hD (pc' := 36) (lv' := [(0, .inr (.inr (some 1))), (1, .inr (.inr (some a1))), (3, .inr (.inr (some a3))), (4, .inl v4_6), (5, .inl v5_3), (6, .inl v6_6), (7, .inl v7_6)]) (st' := [.inl v4_6]) (h' := gc_h sh I4 J5 A) (C := (True ∧ True)) rfl ⟨trivial, trivial⟩ ?_
            refine gv_if_le (t := 64) hD rfl rfl ⟨by exact gz_m 24 (by omega), by exact gz_m 25 (by omega)⟩ (fun c13 => ?_) (fun c13 => ?_)
            · show gv_X _ _ (64, [(0, .inr (.inr (some 1))), (1, .inr (.inr (some a1))), (3, .inr (.inr (some a3))), (4, .inl v4_6), (5, .inl v5_3), (6, .inl v6_6), (7, .inl v7_6)], [], sh, gc_h sh I4 J5 A)
              refine gv_pick [0, 1, 2, 3, 4] rfl ?_
              exact L64 (by exact gz_m 26 (by omega)) e1_6 e2_6 (fun k h1 => e3_6 k (by exact gz_m 27 (by omega)))
            · show gv_X _ _ (39, [(0, .inr (.inr (some 1))), (1, .inr (.inr (some a1))), (3, .inr (.inr (some a3))), (4, .inl v4_6), (5, .inl v5_3), (6, .inl v6_6), (7, .inl v7_6)], [], sh, gc_h sh I4 J5 A)
              refine gv_run 7 true hD (pc' := 48) (lv' := [(0, .inr (.inr (some 1))), (1, .inr (.inr (some a1))), (3, .inr (.inr (some a3))), (4, .inl v4_6), (5, .inl v5_3), (6, .inl v6_6), (7, .inl v7_6)]) (st' := [.inr (.inr (some 1)), .inl ((v5_3 * 4) + v7_6), .inr (.inr (some a3))]) (h' := gc_h sh I4 J5 A) (C := (((((((True ∧ True) ∧ True) ∧ True) ∧ True) ∧ True) ∧ True) ∧ True)) rfl ⟨⟨⟨⟨⟨⟨⟨trivial, trivial⟩, trivial⟩, trivial⟩, trivial⟩, trivial⟩, trivial⟩, trivial⟩ ?_
              refine gv_get hD rfl rfl S_1 ⟨by decide, B_1⟩ (gc_hA S_1 rfl A_1_20) ?_
              show gv_X _ _ (51, [(0, .inr (.inr (some 1))), (1, .inr (.inr (some a1))), (3, .inr (.inr (some a3))), (4, .inl v4_6), (5, .inl v5_3), (6, .inl v6_6), (7, .inl v7_6)], [.inr (.inr (some 22)), .inl ((v5_3 * 4) + v7_6), .inr (.inr (some a3))], sh, gc_h sh I4 J5 A)
              refine gv_run 2 true hD (pc' := 56) (lv' := [(4, .inl (v4_6 + (-1))), (0, .inr (.inr (some 1))), (1, .inr (.inr (some a1))), (3, .inr (.inr (some a3))), (5, .inl v5_3), (6, .inl v6_6), (7, .inl v7_6)]) (st' := [.inl (v4_6 + (-1)), .inr (.inr (some 22)), .inl ((v5_3 * 4) + v7_6), .inr (.inr (some a3))]) (h' := gc_h sh I4 J5 A) (C := ((True ∧ True) ∧ True)) rfl ⟨⟨trivial, trivial⟩, trivial⟩ ?_
              have t14 := e1_6 ((v4_6 + (-1))) (by exact gz_m 28 (by omega)) (by exact gz_m 29 (by omega))
              have f15 := (show 0 ≤ I4 22 (Int.toNat ((v4_6 + (-1)))) ∧ I4 22 (Int.toNat ((v4_6 + (-1)))) ≤ 59 from gc_in hI4 R_22 rfl rfl)
              refine gv_iald hD rfl S_22 rfl ⟨by decide, B_22⟩ ⟨by exact gz_m 30 (by omega), by exact gz_m 31 (by omega)⟩ (gc_iI S_22 rfl) ?_
              show gv_X _ _ (57, [(4, .inl (v4_6 + (-1))), (0, .inr (.inr (some 1))), (1, .inr (.inr (some a1))), (3, .inr (.inr (some a3))), (5, .inl v5_3), (6, .inl v6_6), (7, .inl v7_6)], [.inl (I4 22 (Int.toNat ((v4_6 + (-1))))), .inl ((v5_3 * 4) + v7_6), .inr (.inr (some a3))], sh, gc_h sh I4 J5 A)
              refine gv_iast hD rfl S_a3 ⟨by exact gz_m 32 (by omega), B_a3⟩ ⟨by exact gz_m 33 (by omega), by exact gz_m 34 (by omega)⟩ ?_
              refine gc_st hI4 S_a3 rfl R_a3 (lo := 0) (hi := 59) rfl rfl (by exact gz_m 35 (by omega)) (by exact gz_m 36 (by omega)) (fun I16 hI16 q17 p17 => ?_)
              have FI16 := gc_frs (W := fun q j => q = a3 ∨ q = 22) FI4 (Or.inl rfl) p17
              show gv_X _ _ (58, [(4, .inl (v4_6 + (-1))), (0, .inr (.inr (some 1))), (1, .inr (.inr (some a1))), (3, .inr (.inr (some a3))), (5, .inl v5_3), (6, .inl v6_6), (7, .inl v7_6)], [], sh, gc_h sh I16 J5 A)
              refine gv_run 2 true hD (pc' := 27) (lv' := [(7, .inl (v7_6 + 1)), (4, .inl (v4_6 + (-1))), (0, .inr (.inr (some 1))), (1, .inr (.inr (some a1))), (3, .inr (.inr (some a3))), (5, .inl v5_3), (6, .inl v6_6)]) (st' := []) (h' := gc_h sh I16 J5 A) (C := ((True ∧ True) ∧ True)) rfl ⟨⟨trivial, trivial⟩, trivial⟩ ?_
              refine gv_pick [2, 3, 4, 1, 5, 6, 0] rfl ?_
              exact ih27 I16 J5 ((v4_6 + (-1))) v6_6 (v7_6 + 1) (by exact gz_m 37 (by omega)) hI16 FI16 FJ5 (by exact gz_m 38 (by omega)) (gc_rg_m (gc_rg_fr e1_6 (fun k => p17 22 k (fun h => absurd h.1 (by exact gz_m 39 (by omega))))) (by exact gz_m 40 (by omega))) (gc_cd_st (j := v7_6) e2_6 (by exact gz_m 41 (by omega)) (by exact gz_m 42 (by omega)) p17) (gc_cc_st (j := v7_6) e3_6 (by exact gz_m 43 (by omega)) (by exact gz_m 44 (by omega)) p17 (by exact gz_m 45 (by omega)))
      refine gv_run 1 true hD (pc' := 10) (lv' := [(0, .inr (.inr (some 1))), (1, .inr (.inr (some a1))), (3, .inr (.inr (some a3))), (4, .inl v4_3), (5, .inl v5_3)]) (st' := [.inl v5_3]) (h' := gc_h sh I1 J2 A) (C := (True ∧ True)) rfl ⟨trivial, trivial⟩ ?_
      refine gv_if_lt (t := 82) hD rfl rfl ⟨by exact gz_m 46 (by omega), by exact gz_m 47 (by omega)⟩ (fun c18 => ?_) (fun c18 => ?_)
      · show gv_X _ _ (82, [(0, .inr (.inr (some 1))), (1, .inr (.inr (some a1))), (3, .inr (.inr (some a3))), (4, .inl v4_3), (5, .inl v5_3)], [], sh, gc_h sh I1 J2 A)
        exact gv_vret hD rfl ⟨I1, J2, rfl, hI1, FI1, FJ2, ⟨rfl, (fun i k h1 => e2_3 i k (by exact gz_m 48 (by omega)))⟩⟩
      · show gv_X _ _ (13, [(0, .inr (.inr (some 1))), (1, .inr (.inr (some a1))), (3, .inr (.inr (some a3))), (4, .inl v4_3), (5, .inl v5_3)], [], sh, gc_h sh I1 J2 A)
        have t19 := gc_op_at (I := I) (T := a1) (v := v5_3) (by exact gz_m 49 (by omega))
        refine gv_run 1 true hD (pc' := 14) (lv' := [(0, .inr (.inr (some 1))), (1, .inr (.inr (some a1))), (3, .inr (.inr (some a3))), (4, .inl v4_3), (5, .inl v5_3)]) (st' := [.inr (.inr (some 1))]) (h' := gc_h sh I1 J2 A) (C := (True ∧ True)) rfl ⟨trivial, trivial⟩ ?_
        refine gv_get hD rfl rfl S_1 ⟨by decide, B_1⟩ (gc_hA S_1 rfl A_1_7) ?_
        show gv_X _ _ (17, [(0, .inr (.inr (some 1))), (1, .inr (.inr (some a1))), (3, .inr (.inr (some a3))), (4, .inl v4_3), (5, .inl v5_3)], [.inr (.inr (some 12))], sh, gc_h sh I1 J2 A)
        refine gv_run 2 true hD (pc' := 20) (lv' := [(0, .inr (.inr (some 1))), (1, .inr (.inr (some a1))), (3, .inr (.inr (some a3))), (4, .inl v4_3), (5, .inl v5_3)]) (st' := [.inl v5_3, .inr (.inr (some a1)), .inr (.inr (some 12))]) (h' := gc_h sh I1 J2 A) (C := ((True ∧ True) ∧ True)) rfl ⟨⟨trivial, trivial⟩, trivial⟩ ?_
        have f20 := (show 0 ≤ I1 a1 (Int.toNat v5_3) ∧ I1 a1 (Int.toNat v5_3) ≤ 95 from gc_in hI1 R_a1 rfl rfl)
        refine gv_iald hD rfl S_a1 rfl ⟨by exact gz_m 50 (by omega), B_a1⟩ ⟨by exact gz_m 51 (by omega), by exact gz_m 52 (by omega)⟩ (gc_iI S_a1 rfl) ?_
        show gv_X _ _ (21, [(0, .inr (.inr (some 1))), (1, .inr (.inr (some a1))), (3, .inr (.inr (some a3))), (4, .inl v4_3), (5, .inl v5_3)], [.inl (I1 a1 (Int.toNat v5_3)), .inr (.inr (some 12))], sh, gc_h sh I1 J2 A)
        have f21 := (show 0 ≤ I1 12 (Int.toNat ((I1 a1 (Int.toNat v5_3)))) ∧ I1 12 (Int.toNat ((I1 a1 (Int.toNat v5_3)))) ≤ 4 from gc_in hI1 R_12 rfl rfl)
        refine gv_iald hD rfl S_12 rfl ⟨by decide, B_12⟩ ⟨by exact gz_m 53 (by omega), by exact gz_m 54 (by omega)⟩ (gc_iI S_12 rfl) ?_
        show gv_X _ _ (22, [(0, .inr (.inr (some 1))), (1, .inr (.inr (some a1))), (3, .inr (.inr (some a3))), (4, .inl v4_3), (5, .inl v5_3)], [.inl (I1 12 (Int.toNat ((I1 a1 (Int.toNat v5_3)))))], sh, gc_h sh I1 J2 A)
        have t22 := (show I1 12 (Int.toNat (I1 a1 (Int.toNat v5_3))) = I 12 (Int.toNat (I a1 (Int.toNat v5_3))) from by rw [show I1 a1 (Int.toNat v5_3) = I a1 (Int.toNat v5_3) from (FI1 a1 _).resolve_left (by exact gz_m 55 (by omega))]; exact (FI1 12 _).resolve_left (by exact gz_m 56 (by omega)))
        refine gv_run 3 true hD (pc' := 27) (lv' := [(7, .inl 0), (6, .inl (I1 12 (Int.toNat ((I1 a1 (Int.toNat v5_3)))))), (0, .inr (.inr (some 1))), (1, .inr (.inr (some a1))), (3, .inr (.inr (some a3))), (4, .inl v4_3), (5, .inl v5_3)]) (st' := []) (h' := gc_h sh I1 J2 A) (C := (((True ∧ True) ∧ True) ∧ True)) rfl ⟨⟨⟨trivial, trivial⟩, trivial⟩, trivial⟩ ?_
        refine gv_pick [2, 3, 4, 5, 6, 1, 0] rfl ?_
        exact L27 _ I1 J2 v4_3 ((I1 12 (Int.toNat ((I1 a1 (Int.toNat v5_3)))))) 0 (Nat.lt_succ_self _) hI1 FI1 FJ2 (by exact gz_m 57 (by omega)) e1_3 e2_3 (fun k h1 => by exact gz_m 58 (by omega))
  refine gv_run 6 true hD (pc' := 8) (lv' := [(5, .inl (a2 - 1)), (4, .inl 0), (0, .inr (.inr (some 1))), (1, .inr (.inr (some a1))), (2, .inl a2), (3, .inr (.inr (some a3)))]) (st' := []) (h' := gc_h sh I J A) (C := ((((((True ∧ True) ∧ True) ∧ True) ∧ True) ∧ True) ∧ True)) rfl ⟨⟨⟨⟨⟨⟨trivial, trivial⟩, trivial⟩, trivial⟩, trivial⟩, trivial⟩, trivial⟩ ?_
  refine gv_pick [2, 3, 5, 1, 0] rfl ?_
  exact L8 _ I J 0 (a2 - 1) (Nat.lt_succ_self _) hI FI FJ (by exact gz_m 59 (by omega)) (by rw [show Int.toNat (a2 - 1 + 1) = Int.toNat a2 from by exact gz_m 60 (by omega)]; exact x0.2.symm) (fun k a b => by exact gz_m 61 (by omega)) (fun i k h1 h2 h3 => by exact gz_m 62 (by omega))
