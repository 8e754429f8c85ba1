/-! WAYS TO SAY A TREE: a node's are its own; what a saying's length is. -/
def gr_OX (I : gr_I) : Prop := ∀ k i : Nat, k < 60 → (i : Int) < I 121 k → 24 * (k : Int) ≤ I 120 (24 * k + i) ∧ I 120 (24 * k + i) < 24 * (k : Int) + 24
theorem gr_OX_fr {I I' : gr_I} (h : gr_OX I) (h1 : ∀ j, I' 121 j = I 121 j) (h2 : ∀ j, I' 120 j = I 120 j) : gr_OX I' := fun k i hk hi => by
  rw [h2]
  rw [h1] at hi
  exact h k i hk hi
set_option maxHeartbeats 8000000 in
theorem gr_OX_at {I : gr_I} (h : gr_OX I) {k i : Int} (hk : 0 ≤ k ∧ k ≤ 59) (h0 : 0 ≤ i) (hi : i < I 121 (Int.toNat k)) : 24 * k ≤ I 120 (Int.toNat (24 * k + i)) ∧ I 120 (Int.toNat (24 * k + i)) < 24 * k + 24 := by
  have h9 := h (Int.toNat k) (Int.toNat i) (by exact gz_m 0 (by omega)) (by exact gz_m 1 (by omega))
  rw [show 24 * Int.toNat k + Int.toNat i = Int.toNat (24 * k + i) from by exact gz_m 2 (by omega)] at h9
  exact gz_m 3 (by omega)
def gr_OH (k n h : Int) (I : gr_I) : Prop := (∀ j i : Nat, j < 60 → ¬ (j : Int) = k → (i : Int) < I 121 j → 24 * (j : Int) ≤ I 120 (24 * j + i) ∧ I 120 (24 * j + i) < 24 * (j : Int) + 24) ∧ ∀ i : Nat, (i : Int) < n → ¬ (i : Int) = h → 24 * k ≤ I 120 (24 * Int.toNat k + i) ∧ I 120 (24 * Int.toNat k + i) < 24 * k + 24
theorem gr_OH_in {k n h : Int} {I : gr_I} (hx : gr_OX I) (hk : 0 ≤ k ∧ k ≤ 59) (hn : ∀ i : Nat, (i : Int) < n → ¬ (i : Int) = h → (i : Int) < I 121 (Int.toNat k)) : gr_OH k n h I := ⟨fun j i hj _ hi => hx j i hj hi, fun i h1 h2 => by
  have h9 := hx (Int.toNat k) i (by omega) (hn i h1 h2)
  omega⟩
theorem gr_OH_n {k n h : Int} {I I' : gr_I} (ho : gr_OH k n h I) (p : ∀ b j, ¬ (b = 121 ∧ j = Int.toNat k) → I' b j = I b j) (h0 : 0 ≤ k) : gr_OH k n h I' := ⟨fun j i hj hc hi => by
  rw [p 121 j (fun q => by have := q.2; omega)] at hi
  rw [p 120 _ (fun q => absurd q.1 (by decide))]
  exact ho.1 j i hj hc hi, fun i h1 h2 => by
  rw [p 120 _ (fun q => absurd q.1 (by decide))]
  exact ho.2 i h1 h2⟩
set_option maxHeartbeats 8000000 in
theorem gr_OH_mv {k n h z : Int} {I I' : gr_I} {i0 : Nat} (hI : gr_Inv I) (ho : gr_OH k n h I) (h0 : 0 ≤ k) (hh : 0 ≤ h) (h24 : h ≤ 23) (hi : (i0 : Int) = 24 * k + h) (p : ∀ b j, ¬ (b = 120 ∧ j = i0) → I' b j = I b j) (q : I' 120 i0 = z) (hz : 24 * k ≤ z ∧ z < 24 * k + 24) (h' : Int) : gr_OH k n h' I' := ⟨fun j i hj hc h9 => by
  rw [p 121 j (fun q => absurd q.1 (by decide))] at h9
  by_cases e : 24 * j + i = i0
  · exfalso
    have z := (gr_b_121 hI j)
    exact gz_m 0 (by omega)
  · rw [p 120 _ (fun q => e q.2)]
    exact ho.1 j i hj hc h9, fun i h1 _ => by
  by_cases e : (i : Int) = h
  · rw [show 24 * Int.toNat k + i = i0 from by exact gz_m 1 (by omega), q]
    exact hz
  · rw [p 120 _ (fun q => by have := q.2; exact gz_m 2 (by omega))]
    exact ho.2 i h1 e⟩
theorem gr_OX_of {k n : Int} {I : gr_I} (ho : gr_OH k n (-1) I) (h0 : 0 ≤ k) (hn : I 121 (Int.toNat k) ≤ n) : gr_OX I := fun j i hj hi => by
  by_cases e : (j : Int) = k
  · have e9 : j = Int.toNat k := by exact gz_m 0 (by omega)
    subst e9
    have h9 := ho.2 i (by exact gz_m 1 (by omega)) (by exact gz_m 2 (by omega))
    exact gz_m 3 (by omega)
  · exact ho.1 j i hj e hi
set_option maxHeartbeats 8000000 in
set_option maxRecDepth 100000 in
theorem r_slot_w {ws0 : List Cond} {tb : String → gz_T} (hws : ∀ w ∈ gr_ws, w ∈ ws0) (htb : tb RX13 = gr_T) (ext : gz_Sh) (I : gr_I) (J : gr_J) (hI : gr_Inv I) (a1 : Int) (a2 : Int) (a3 : Int) (ha1 : 0 ≤ a1 ∧ a1 ≤ 59) (ha2 : (-2147483648) ≤ a2 ∧ a2 ≤ 2147483647) (ha3 : 0 ≤ a3 ∧ a3 ≤ 16777215) (x0 : gr_OX I) : ∃ r h', gz_Ev ws0 tb 1 (yX13_slot, cX13_slot, 7, (some .int)) [.inr (.inr (some 0)), .inl a1, .inl a2, .inl a3] (gr_sh ++ ext) (gr_h I J) r (gr_sh ++ ext) h' 0 0 ∧ (∃ (I' : gr_I) (J' : gr_J), h' = gr_h I' J' ∧ gr_Inv I' ∧ gr_fr [] [118, 119, 120, 121] I I' ∧ gr_fj [] [118, 119, 120, 121] J J' ∧ (∃ z : Int, r = some (.inl z) ∧ (-1) ≤ z ∧ z ≤ 1439 ∧ (gr_OX I') ∧ (0 ≤ z → 24 * a1 ≤ z ∧ z < 24 * a1 + 24))) := by
  have FI : gr_fr [] [118, 119, 120, 121] I I := fun _ _ _ => rfl
  have FJ : gr_fj [] [118, 119, 120, 121] J J := fun _ _ _ => rfl
  have hD : gv_D (gr_E ws0 tb 0 (yX13_slot, cX13_slot, 7, (some .int)) kX13_slot) := gq_of oX13_slot
  refine gr_ev (d := 0) (l := kX13_slot) (Po := fun r h' => (∃ (I' : gr_I) (J' : gr_J), h' = gr_h I' J' ∧ gr_Inv I' ∧ gr_fr [] [118, 119, 120, 121] I I' ∧ gr_fj [] [118, 119, 120, 121] J J' ∧ (∃ z : Int, r = some (.inl z) ∧ (-1) ≤ z ∧ z ≤ 1439 ∧ (gr_OX I') ∧ (0 ≤ z → 24 * a1 ≤ z ∧ z < 24 * a1 + 24)))) htb rfl (Nat.le_of_ble_eq_true rfl) ?_
  have L71 : ∀ (n : Nat) (I1 : gr_I) (J2 : gr_J) (v4_3 : Int) (v5_3 : Int) (v6_3 : Int), (v5_3 - (-1)).toNat < n → gr_Inv I1 → gr_fr [] [118, 119, 120, 121] I I1 → gr_fj [] [118, 119, 120, 121] J J2 → (((-2147483648) ≤ a2 ∧ a2 ≤ 2147483647) ∧ (0 ≤ a3 ∧ a3 ≤ 16777215) ∧ (0 ≤ v4_3 ∧ v4_3 ≤ 1416) ∧ (0 ≤ v5_3 ∧ v5_3 ≤ 23) ∧ (0 ≤ v6_3 ∧ v6_3 ≤ 1439) ∧ (v4_3 = 24 * a1) ∧ (24 * a1 ≤ v6_3 ∧ v6_3 < 24 * a1 + 24) ∧ (v5_3 < I1 121 (Int.toNat a1))) → (gr_OH a1 (I1 121 (Int.toNat a1)) v5_3 I1) → gv_X (gr_E ws0 tb 0 (yX13_slot, cX13_slot, 7, (some .int)) kX13_slot) (gv_Q cX13_slot (some .int) (gr_sh ++ ext) (fun r h' => (∃ (I' : gr_I) (J' : gr_J), h' = gr_h I' J' ∧ gr_Inv I' ∧ gr_fr [] [118, 119, 120, 121] I I' ∧ gr_fj [] [118, 119, 120, 121] J J' ∧ (∃ z : Int, r = some (.inl z) ∧ (-1) ≤ z ∧ z ≤ 1439 ∧ (gr_OX I') ∧ (0 ≤ z → 24 * a1 ≤ z ∧ z < 24 * a1 + 24))))) (71, [(0, .inr (.inr (some 0))), (2, .inl a2), (3, .inl a3), (4, .inl v4_3), (5, .inl v5_3), (6, .inl v6_3)], [], gr_sh ++ ext, gr_h I1 J2) := by
    intro n
    induction n with
    | zero => intro I1 J2 v4_3 v5_3 v6_3 hn; exact gz_m 0 (by omega)
    | succ n ih71 =>
      intro I1 J2 v4_3 v5_3 v6_3 hn hI1 FI1 FJ2 m_3 e0_3
      obtain ⟨ha2_3, ha3_3, hv4_3, hv5_3, hv6_3, e1_3, e2_3, e3_3⟩ := m_3
      have L125 : (((-2147483648) ≤ a2 ∧ a2 ≤ 2147483647) ∧ (0 ≤ a3 ∧ a3 ≤ 16777215) ∧ (0 ≤ v4_3 ∧ v4_3 ≤ 1416) ∧ (0 ≤ v5_3 ∧ v5_3 ≤ 23) ∧ (0 ≤ v6_3 ∧ v6_3 ≤ 1439) ∧ (v4_3 = 24 * a1) ∧ (24 * a1 ≤ v6_3 ∧ v6_3 < 24 * a1 + 24) ∧ (v5_3 < I1 121 (Int.toNat a1))) → (gr_OH a1 (I1 121 (Int.toNat a1)) v5_3 I1) → gv_X (gr_E ws0 tb 0 (yX13_slot, cX13_slot, 7, (some .int)) kX13_slot) (gv_Q cX13_slot (some .int) (gr_sh ++ ext) (fun r h' => (∃ (I' : gr_I) (J' : gr_J), h' = gr_h I' J' ∧ gr_Inv I' ∧ gr_fr [] [118, 119, 120, 121] I I' ∧ gr_fj [] [118, 119, 120, 121] J J' ∧ (∃ z : Int, r = some (.inl z) ∧ (-1) ≤ z ∧ z ≤ 1439 ∧ (gr_OX I') ∧ (0 ≤ z → 24 * a1 ≤ z ∧ z < 24 * a1 + 24))))) (125, [(0, .inr (.inr (some 0))), (2, .inl a2), (3, .inl a3), (4, .inl v4_3), (5, .inl v5_3), (6, .inl v6_3)], [], gr_sh ++ ext, gr_h I1 J2) := by
        intro m_4 e0_4
        obtain ⟨ha2_4, ha3_4, hv4_3_4, hv5_3_4, hv6_3_4, e1_4, e2_4, e3_4⟩ := m_4
        refine gv_run 6 true hD (pc' := 136) (lv' := [(0, .inr (.inr (some 0))), (2, .inl a2), (3, .inl a3), (4, .inl v4_3), (5, .inl v5_3), (6, .inl v6_3)]) (st' := [.inl v6_3, .inl (v4_3 + v5_3), .inr (.inr (some 120))]) (h' := gr_h I1 J2) (C := ((((((True ∧ True) ∧ True) ∧ True) ∧ True) ∧ True) ∧ True)) rfl ⟨⟨⟨⟨⟨⟨trivial, trivial⟩, trivial⟩, trivial⟩, trivial⟩, trivial⟩, trivial⟩ ?_
        refine gv_run 1 true hD (pc' := 137) (lv' := [(0, .inr (.inr (some 0))), (2, .inl a2), (3, .inl a3), (4, .inl v4_3), (5, .inl v5_3), (6, .inl v6_3)]) (st' := []) (h' := gz_up (gr_h I1 J2) 120 (Int.toNat ((v4_3 + v5_3))) (.inl v6_3)) (C := (True ∧ (0 ≤ (v4_3 + v5_3) ∧ (v4_3 + v5_3) < ((1440 : Nat) : Int)))) rfl ⟨trivial, ⟨by exact gz_m 1 (by omega), by exact gz_m 2 (by omega)⟩⟩ ?_
        refine gr_st hI1 FI1 rfl rfl ⟨⟨by show 0 ≤ _; exact gz_m 3 (by omega), by show _ ≤ 1439; exact gz_m 4 (by omega)⟩, trivial⟩ (fun I5 hI5 FI5 q6 p6 => ?_)
        have t7 := p6 121 (Int.toNat a1) (fun q => absurd q.1 (by decide))
        refine gv_run 4 true hD (pc' := 144) (lv' := [(0, .inr (.inr (some 0))), (2, .inl a2), (3, .inl a3), (4, .inl v4_3), (5, .inl v5_3), (6, .inl v6_3)]) (st' := [.inl a2, .inl v6_3, .inr (.inr (some 119))]) (h' := gr_h I5 J2) (C := ((((True ∧ True) ∧ True) ∧ True) ∧ True)) rfl ⟨⟨⟨⟨trivial, trivial⟩, trivial⟩, trivial⟩, trivial⟩ ?_
        refine gv_run 1 true hD (pc' := 145) (lv' := [(0, .inr (.inr (some 0))), (2, .inl a2), (3, .inl a3), (4, .inl v4_3), (5, .inl v5_3), (6, .inl v6_3)]) (st' := []) (h' := gz_up (gr_h I5 J2) 119 (Int.toNat v6_3) (.inl a2)) (C := (True ∧ (0 ≤ v6_3 ∧ v6_3 < ((1440 : Nat) : Int)))) rfl ⟨trivial, ⟨by exact gz_m 5 (by omega), by exact gz_m 6 (by omega)⟩⟩ ?_
        refine gr_st hI5 FI5 rfl rfl ⟨⟨by show (-2147483648) ≤ _; exact gz_m 7 (by omega), by show _ ≤ 2147483647; exact gz_m 8 (by omega)⟩, trivial⟩ (fun I8 hI8 FI8 q9 p9 => ?_)
        have t10 := p9 121 (Int.toNat a1) (fun q => absurd q.1 (by decide))
        refine gv_run 4 true hD (pc' := 152) (lv' := [(0, .inr (.inr (some 0))), (2, .inl a2), (3, .inl a3), (4, .inl v4_3), (5, .inl v5_3), (6, .inl v6_3)]) (st' := [.inl a3, .inl v6_3, .inr (.inr (some 118))]) (h' := gr_h I8 J2) (C := ((((True ∧ True) ∧ True) ∧ True) ∧ True)) rfl ⟨⟨⟨⟨trivial, trivial⟩, trivial⟩, trivial⟩, trivial⟩ ?_
        refine gv_run 1 true hD (pc' := 153) (lv' := [(0, .inr (.inr (some 0))), (2, .inl a2), (3, .inl a3), (4, .inl v4_3), (5, .inl v5_3), (6, .inl v6_3)]) (st' := []) (h' := gz_up (gr_h I8 J2) 118 (Int.toNat v6_3) (.inl a3)) (C := (True ∧ (0 ≤ v6_3 ∧ v6_3 < ((1440 : Nat) : Int)))) rfl ⟨trivial, ⟨by exact gz_m 9 (by omega), by exact gz_m 10 (by omega)⟩⟩ ?_
        refine gr_st hI8 FI8 rfl rfl ⟨⟨by show 0 ≤ _; exact gz_m 11 (by omega), by show _ ≤ 16777215; exact gz_m 12 (by omega)⟩, trivial⟩ (fun I11 hI11 FI11 q12 p12 => ?_)
        have t13 := p12 121 (Int.toNat a1) (fun q => absurd q.1 (by decide))
        refine gv_run 1 true hD (pc' := 155) (lv' := [(0, .inr (.inr (some 0))), (2, .inl a2), (3, .inl a3), (4, .inl v4_3), (5, .inl v5_3), (6, .inl v6_3)]) (st' := [.inl v6_3]) (h' := gr_h I11 J2) (C := (True ∧ True)) rfl ⟨trivial, trivial⟩ ?_
        exact gv_iret hD rfl ⟨I11, J2, rfl, hI11, FI11, FJ2, ⟨_, rfl, by exact gz_m 13 (by omega), by exact gz_m 14 (by omega), (gr_OX_fr (gr_OX_fr (gr_OX_of (gr_OH_mv (h' := -1) hI1 e0_4 (by exact gz_m 15 (by omega)) (by exact gz_m 16 (by omega)) (by exact gz_m 17 (by omega)) (by exact gz_m 18 (by omega)) p6 q6 ⟨by exact gz_m 19 (by omega), by exact gz_m 20 (by omega)⟩) (by exact gz_m 21 (by omega)) (by exact gz_m 22 (by omega))) (fun j => p9 121 j (fun q => absurd q.1 (by decide))) (fun j => p9 120 j (fun q => absurd q.1 (by decide)))) (fun j => p12 121 j (fun q => absurd q.1 (by decide))) (fun j => p12 120 j (fun q => absurd q.1 (by decide)))), by exact gz_m 23 (by omega)⟩⟩
      refine gv_run 1 true hD (pc' := 73) (lv' := [(0, .inr (.inr (some 0))), (2, .inl a2), (3, .inl a3), (4, .inl v4_3), (5, .inl v5_3), (6, .inl v6_3)]) (st' := [.inl v5_3]) (h' := gr_h I1 J2) (C := (True ∧ True)) rfl ⟨trivial, trivial⟩ ?_
      refine gv_if_le (t := 125) hD rfl rfl ⟨by exact gz_m 24 (by omega), by exact gz_m 25 (by omega)⟩ (fun c14 => ?_) (fun c14 => ?_)
      · exact L125 (by exact gz_m 26 (by omega)) e0_3
      · refine gv_run 7 true hD (pc' := 89) (lv' := [(0, .inr (.inr (some 0))), (2, .inl a2), (3, .inl a3), (4, .inl v4_3), (5, .inl v5_3), (6, .inl v6_3)]) (st' := [.inl (v4_3 + v5_3), .inr (.inr (some 120)), .inr (.inr (some 119))]) (h' := gr_h I1 J2) (C := (((((((True ∧ True) ∧ True) ∧ True) ∧ True) ∧ True) ∧ True) ∧ True)) rfl ⟨⟨⟨⟨⟨⟨⟨trivial, trivial⟩, trivial⟩, trivial⟩, trivial⟩, trivial⟩, trivial⟩, trivial⟩ ?_
        have f15 := (gr_b_120 hI1 (Int.toNat (((v4_3 + v5_3) - 1))))
        refine gv_run 3 true hD (pc' := 92) (lv' := [(0, .inr (.inr (some 0))), (2, .inl a2), (3, .inl a3), (4, .inl v4_3), (5, .inl v5_3), (6, .inl v6_3)]) (st' := [.inl (I1 120 (Int.toNat (((v4_3 + v5_3) - 1)))), .inr (.inr (some 119))]) (h' := gr_h I1 J2) (C := (((True ∧ True) ∧ True) ∧ (0 ≤ (((v4_3 + v5_3) - 1)) ∧ (((v4_3 + v5_3) - 1)) < ((1440 : Nat) : Int)))) rfl ⟨⟨⟨trivial, trivial⟩, trivial⟩, ⟨by exact gz_m 27 (by omega), by exact gz_m 28 (by omega)⟩⟩ ?_
        have f16 := (gr_b_119 hI1 (Int.toNat ((I1 120 (Int.toNat (((v4_3 + v5_3) - 1)))))))
        refine gv_run 1 true hD (pc' := 93) (lv' := [(0, .inr (.inr (some 0))), (2, .inl a2), (3, .inl a3), (4, .inl v4_3), (5, .inl v5_3), (6, .inl v6_3)]) (st' := [.inl (I1 119 (Int.toNat ((I1 120 (Int.toNat (((v4_3 + v5_3) - 1)))))))]) (h' := gr_h I1 J2) (C := (True ∧ (0 ≤ ((I1 120 (Int.toNat (((v4_3 + v5_3) - 1))))) ∧ ((I1 120 (Int.toNat (((v4_3 + v5_3) - 1))))) < ((1440 : Nat) : Int)))) rfl ⟨trivial, ⟨by exact gz_m 29 (by omega), by exact gz_m 30 (by omega)⟩⟩ ?_
        refine gv_run 1 true hD (pc' := 94) (lv' := [(0, .inr (.inr (some 0))), (2, .inl a2), (3, .inl a3), (4, .inl v4_3), (5, .inl v5_3), (6, .inl v6_3)]) (st' := [.inl a2, .inl (I1 119 (Int.toNat ((I1 120 (Int.toNat (((v4_3 + v5_3) - 1)))))))]) (h' := gr_h I1 J2) (C := (True ∧ True)) rfl ⟨trivial, trivial⟩ ?_
        refine gv_icmp_le (t := 125) hD rfl rfl ⟨⟨by exact gz_m 31 (by omega), by exact gz_m 32 (by omega)⟩, ⟨by exact gz_m 33 (by omega), by exact gz_m 34 (by omega)⟩⟩ (fun c17 => ?_) (fun c17 => ?_)
        · exact L125 (by exact gz_m 35 (by omega)) e0_3
        · refine gv_run 7 true hD (pc' := 110) (lv' := [(0, .inr (.inr (some 0))), (2, .inl a2), (3, .inl a3), (4, .inl v4_3), (5, .inl v5_3), (6, .inl v6_3)]) (st' := [.inr (.inr (some 120)), .inl (v4_3 + v5_3), .inr (.inr (some 120))]) (h' := gr_h I1 J2) (C := (((((((True ∧ True) ∧ True) ∧ True) ∧ True) ∧ True) ∧ True) ∧ True)) rfl ⟨⟨⟨⟨⟨⟨⟨trivial, trivial⟩, trivial⟩, trivial⟩, trivial⟩, trivial⟩, trivial⟩, trivial⟩ ?_
          have f18 := (gr_b_120 hI1 (Int.toNat (((v4_3 + v5_3) - 1))))
          refine gv_run 6 true hD (pc' := 118) (lv' := [(0, .inr (.inr (some 0))), (2, .inl a2), (3, .inl a3), (4, .inl v4_3), (5, .inl v5_3), (6, .inl v6_3)]) (st' := [.inl (I1 120 (Int.toNat (((v4_3 + v5_3) - 1)))), .inl (v4_3 + v5_3), .inr (.inr (some 120))]) (h' := gr_h I1 J2) (C := ((((((True ∧ True) ∧ True) ∧ True) ∧ True) ∧ True) ∧ (0 ≤ (((v4_3 + v5_3) - 1)) ∧ (((v4_3 + v5_3) - 1)) < ((1440 : Nat) : Int)))) rfl ⟨⟨⟨⟨⟨⟨trivial, trivial⟩, trivial⟩, trivial⟩, trivial⟩, trivial⟩, ⟨by exact gz_m 36 (by omega), by exact gz_m 37 (by omega)⟩⟩ ?_
          refine gv_run 1 true hD (pc' := 119) (lv' := [(0, .inr (.inr (some 0))), (2, .inl a2), (3, .inl a3), (4, .inl v4_3), (5, .inl v5_3), (6, .inl v6_3)]) (st' := []) (h' := gz_up (gr_h I1 J2) 120 (Int.toNat ((v4_3 + v5_3))) (.inl ((I1 120 (Int.toNat (((v4_3 + v5_3) - 1))))))) (C := (True ∧ (0 ≤ (v4_3 + v5_3) ∧ (v4_3 + v5_3) < ((1440 : Nat) : Int)))) rfl ⟨trivial, ⟨by exact gz_m 38 (by omega), by exact gz_m 39 (by omega)⟩⟩ ?_
          refine gr_st hI1 FI1 rfl rfl ⟨⟨by show 0 ≤ _; exact gz_m 40 (by omega), by show _ ≤ 1439; exact gz_m 41 (by omega)⟩, trivial⟩ (fun I19 hI19 FI19 q20 p20 => ?_)
          have t21 := p20 121 (Int.toNat a1) (fun q => absurd q.1 (by decide))
          refine gv_run 2 true hD (pc' := 71) (lv' := [(5, .inl (v5_3 + (-1))), (0, .inr (.inr (some 0))), (2, .inl a2), (3, .inl a3), (4, .inl v4_3), (6, .inl v6_3)]) (st' := []) (h' := gr_h I19 J2) (C := ((True ∧ True) ∧ True)) rfl ⟨⟨trivial, trivial⟩, trivial⟩ ?_
          refine gv_pick [1, 2, 3, 4, 0, 5] rfl ?_
          exact ih71 I19 J2 v4_3 ((v5_3 + (-1))) v6_3 (by exact gz_m 42 (by omega)) hI19 FI19 FJ2 (by exact gz_m 43 (by omega)) (by rw [show I19 121 (Int.toNat a1) = I1 121 (Int.toNat a1) from by exact gz_m 44 (by omega)]; exact gr_OH_mv hI1 e0_3 (by exact gz_m 45 (by omega)) (by exact gz_m 46 (by omega)) (by exact gz_m 47 (by omega)) (by exact gz_m 48 (by omega)) p20 q20 (by have u9 := e0_3.2 (Int.toNat (v5_3 - 1)) (by exact gz_m 49 (by omega)) (by exact gz_m 50 (by omega)); rw [show 24 * (Int.toNat a1) + Int.toNat (v5_3 - 1) = Int.toNat (v4_3 + v5_3 - 1) from by exact gz_m 51 (by omega)] at u9; exact u9) _)
  refine gv_run 7 true hD (pc' := 11) (lv' := [(4, .inl (24 * a1)), (0, .inr (.inr (some 0))), (1, .inl a1), (2, .inl a2), (3, .inl a3)]) (st' := [.inl a1, .inr (.inr (some 121))]) (h' := gr_h I J) (C := (((((((True ∧ True) ∧ True) ∧ True) ∧ True) ∧ True) ∧ True) ∧ True)) rfl ⟨⟨⟨⟨⟨⟨⟨trivial, trivial⟩, trivial⟩, trivial⟩, trivial⟩, trivial⟩, trivial⟩, trivial⟩ ?_
  have f22 := (gr_b_121 hI (Int.toNat a1))
  refine gv_run 1 true hD (pc' := 12) (lv' := [(4, .inl (24 * a1)), (0, .inr (.inr (some 0))), (1, .inl a1), (2, .inl a2), (3, .inl a3)]) (st' := [.inl (I 121 (Int.toNat a1))]) (h' := gr_h I J) (C := (True ∧ (0 ≤ a1 ∧ a1 < ((60 : Nat) : Int)))) rfl ⟨trivial, ⟨by exact gz_m 52 (by omega), by exact gz_m 53 (by omega)⟩⟩ ?_
  refine gv_run 3 true hD (pc' := 18) (lv' := [(5, .inl (I 121 (Int.toNat a1))), (4, .inl (24 * a1)), (0, .inr (.inr (some 0))), (1, .inl a1), (2, .inl a2), (3, .inl a3)]) (st' := [.inl 24, .inl (I 121 (Int.toNat a1))]) (h' := gr_h I J) (C := (((True ∧ True) ∧ True) ∧ True)) rfl ⟨⟨⟨trivial, trivial⟩, trivial⟩, trivial⟩ ?_
  refine gv_icmp_ne (t := 54) hD rfl rfl ⟨⟨by exact gz_m 54 (by omega), by exact gz_m 55 (by omega)⟩, ⟨by exact gz_m 56 (by omega), by exact gz_m 57 (by omega)⟩⟩ (fun c23 => ?_) (fun c23 => ?_)
  · refine gv_run 7 true hD (pc' := 66) (lv' := [(6, .inl ((24 * a1) + (I 121 (Int.toNat a1)))), (5, .inl (I 121 (Int.toNat a1))), (4, .inl (24 * a1)), (0, .inr (.inr (some 0))), (1, .inl a1), (2, .inl a2), (3, .inl a3)]) (st' := [.inl a1, .inr (.inr (some 121))]) (h' := gr_h I J) (C := (((((((True ∧ True) ∧ True) ∧ True) ∧ True) ∧ True) ∧ True) ∧ True)) rfl ⟨⟨⟨⟨⟨⟨⟨trivial, trivial⟩, trivial⟩, trivial⟩, trivial⟩, trivial⟩, trivial⟩, trivial⟩ ?_
    have f24 := (gr_b_121 hI (Int.toNat a1))
    refine gv_run 2 true hD (pc' := 68) (lv' := [(6, .inl ((24 * a1) + (I 121 (Int.toNat a1)))), (5, .inl (I 121 (Int.toNat a1))), (4, .inl (24 * a1)), (0, .inr (.inr (some 0))), (1, .inl a1), (2, .inl a2), (3, .inl a3)]) (st' := [.inl (I 121 (Int.toNat a1)), .inl a1, .inr (.inr (some 121))]) (h' := gr_h I J) (C := ((True ∧ True) ∧ (0 ≤ a1 ∧ a1 < ((60 : Nat) : Int)))) rfl ⟨⟨trivial, trivial⟩, ⟨by exact gz_m 58 (by omega), by exact gz_m 59 (by omega)⟩⟩ ?_
    refine gv_run 3 true hD (pc' := 71) (lv' := [(6, .inl ((24 * a1) + (I 121 (Int.toNat a1)))), (5, .inl (I 121 (Int.toNat a1))), (4, .inl (24 * a1)), (0, .inr (.inr (some 0))), (1, .inl a1), (2, .inl a2), (3, .inl a3)]) (st' := []) (h' := gz_up (gr_h I J) 121 (Int.toNat a1) (.inl (((I 121 (Int.toNat a1)) + 1)))) (C := (((True ∧ True) ∧ True) ∧ (0 ≤ a1 ∧ a1 < ((60 : Nat) : Int)))) rfl ⟨⟨⟨trivial, trivial⟩, trivial⟩, ⟨by exact gz_m 60 (by omega), by exact gz_m 61 (by omega)⟩⟩ ?_
    refine gr_st hI FI rfl rfl ⟨⟨by show 0 ≤ _; exact gz_m 62 (by omega), by show _ ≤ 24; exact gz_m 63 (by omega)⟩, trivial⟩ (fun I25 hI25 FI25 q26 p26 => ?_)
    refine gv_pick [3, 5, 6, 2, 1, 0] rfl ?_
    exact L71 _ I25 J (24 * a1) ((I 121 (Int.toNat a1))) (((24 * a1) + (I 121 (Int.toNat a1)))) (Nat.lt_succ_self _) hI25 FI25 FJ (by exact gz_m 64 (by omega)) (gr_OH_n (gr_OH_in x0 ⟨by exact gz_m 65 (by omega), by exact gz_m 66 (by omega)⟩ (fun i h1 h2 => by exact gz_m 67 (by omega))) p26 (by exact gz_m 68 (by omega)))
  · refine gv_run 7 true hD (pc' := 32) (lv' := [(5, .inl (I 121 (Int.toNat a1))), (4, .inl (24 * a1)), (0, .inr (.inr (some 0))), (1, .inl a1), (2, .inl a2), (3, .inl a3)]) (st' := [.inl (((24 * a1) + 24) - 1), .inr (.inr (some 120))]) (h' := gr_h I J) (C := (((((((True ∧ True) ∧ True) ∧ True) ∧ True) ∧ True) ∧ True) ∧ True)) rfl ⟨⟨⟨⟨⟨⟨⟨trivial, trivial⟩, trivial⟩, trivial⟩, trivial⟩, trivial⟩, trivial⟩, trivial⟩ ?_
    have f27 := (gr_b_120 hI (Int.toNat ((((24 * a1) + 24) - 1))))
    refine gv_run 1 true hD (pc' := 33) (lv' := [(5, .inl (I 121 (Int.toNat a1))), (4, .inl (24 * a1)), (0, .inr (.inr (some 0))), (1, .inl a1), (2, .inl a2), (3, .inl a3)]) (st' := [.inl (I 120 (Int.toNat ((((24 * a1) + 24) - 1))))]) (h' := gr_h I J) (C := (True ∧ (0 ≤ ((((24 * a1) + 24) - 1)) ∧ ((((24 * a1) + 24) - 1)) < ((1440 : Nat) : Int)))) rfl ⟨trivial, ⟨by exact gz_m 69 (by omega), by exact gz_m 70 (by omega)⟩⟩ ?_
    have t28 := gr_OX_at x0 (k := a1) (i := 23) ⟨by exact gz_m 71 (by omega), by exact gz_m 72 (by omega)⟩ (by exact gz_m 73 (by omega)) (by exact gz_m 74 (by omega))
    have t29 := (show (I 120 (Int.toNat ((((24 * a1) + 24) - 1)))) = I 120 (Int.toNat (24 * a1 + 23)) from congrArg (I 120) (congrArg Int.toNat (by exact gz_m 75 (by omega))))
    have f30 := (gr_b_119 hI (Int.toNat ((I 120 (Int.toNat ((((24 * a1) + 24) - 1)))))))
    refine gv_run 5 true hD (pc' := 42) (lv' := [(6, .inl (I 120 (Int.toNat ((((24 * a1) + 24) - 1))))), (5, .inl (I 121 (Int.toNat a1))), (4, .inl (24 * a1)), (0, .inr (.inr (some 0))), (1, .inl a1), (2, .inl a2), (3, .inl a3)]) (st' := [.inl (I 119 (Int.toNat ((I 120 (Int.toNat ((((24 * a1) + 24) - 1)))))))]) (h' := gr_h I J) (C := (((((True ∧ True) ∧ True) ∧ True) ∧ True) ∧ (0 ≤ ((I 120 (Int.toNat ((((24 * a1) + 24) - 1))))) ∧ ((I 120 (Int.toNat ((((24 * a1) + 24) - 1))))) < ((1440 : Nat) : Int)))) rfl ⟨⟨⟨⟨⟨trivial, trivial⟩, trivial⟩, trivial⟩, trivial⟩, ⟨by exact gz_m 76 (by omega), by exact gz_m 77 (by omega)⟩⟩ ?_
    refine gv_run 1 true hD (pc' := 43) (lv' := [(6, .inl (I 120 (Int.toNat ((((24 * a1) + 24) - 1))))), (5, .inl (I 121 (Int.toNat a1))), (4, .inl (24 * a1)), (0, .inr (.inr (some 0))), (1, .inl a1), (2, .inl a2), (3, .inl a3)]) (st' := [.inl a2, .inl (I 119 (Int.toNat ((I 120 (Int.toNat ((((24 * a1) + 24) - 1)))))))]) (h' := gr_h I J) (C := (True ∧ True)) rfl ⟨trivial, trivial⟩ ?_
    refine gv_icmp_gt (t := 48) hD rfl rfl ⟨⟨by exact gz_m 78 (by omega), by exact gz_m 79 (by omega)⟩, ⟨by exact gz_m 80 (by omega), by exact gz_m 81 (by omega)⟩⟩ (fun c31 => ?_) (fun c31 => ?_)
    · refine gv_run 2 true hD (pc' := 71) (lv' := [(5, .inl ((I 121 (Int.toNat a1)) + (-1))), (6, .inl (I 120 (Int.toNat ((((24 * a1) + 24) - 1))))), (4, .inl (24 * a1)), (0, .inr (.inr (some 0))), (1, .inl a1), (2, .inl a2), (3, .inl a3)]) (st' := []) (h' := gr_h I J) (C := ((True ∧ True) ∧ True)) rfl ⟨⟨trivial, trivial⟩, trivial⟩ ?_
      refine gv_pick [3, 5, 6, 2, 0, 1] rfl ?_
      exact L71 _ I J (24 * a1) (((I 121 (Int.toNat a1)) + (-1))) ((I 120 (Int.toNat ((((24 * a1) + 24) - 1))))) (Nat.lt_succ_self _) hI FI FJ (by exact gz_m 82 (by omega)) (gr_OH_in x0 ⟨by exact gz_m 83 (by omega), by exact gz_m 84 (by omega)⟩ (fun i h1 h2 => by exact gz_m 85 (by omega)))
    · refine gv_run 1 true hD (pc' := 47) (lv' := [(6, .inl (I 120 (Int.toNat ((((24 * a1) + 24) - 1))))), (5, .inl (I 121 (Int.toNat a1))), (4, .inl (24 * a1)), (0, .inr (.inr (some 0))), (1, .inl a1), (2, .inl a2), (3, .inl a3)]) (st' := [.inl (-1)]) (h' := gr_h I J) (C := (True ∧ True)) rfl ⟨trivial, trivial⟩ ?_
      exact gv_iret hD rfl ⟨I, J, rfl, hI, FI, FJ, ⟨_, rfl, by exact gz_m 86 (by omega), by exact gz_m 87 (by omega), x0, by exact gz_m 88 (by omega)⟩⟩
