/-! RANKS ARE COMBINED. -/
set_option maxHeartbeats 8000000 in
theorem gw_sh4 {x : Int} (hx : 0 ≤ x ∧ x ≤ 4095) : (Int32.ofInt x <<< (Int32.ofInt 4 &&& 31)).toInt = 16 * x := by
  obtain ⟨a, rfl⟩ : ∃ a : Nat, x = (a : Int) := ⟨x.toNat, by exact gz_m 0 (by omega)⟩
  have h : ∀ u < 64, ∀ v < 64, (Int32.ofInt ((64 * u + v : Nat) : Int) <<< (Int32.ofInt 4 &&& 31)).toInt = 16 * ((64 * u + v : Nat) : Int) := by decide +kernel
  have h9 := h (a / 64) (by exact gz_m 1 (by omega)) (a % 64) (by exact gz_m 2 (by omega))
  rw [show 64 * (a / 64) + a % 64 = a from by exact gz_m 3 (by omega)] at h9
  exact h9
theorem gw_or4 {x r : Int} (hx : 0 ≤ x ∧ x ≤ 4095) (hr : 0 ≤ r ∧ r ≤ 15) : (Int32.ofInt (16 * x) ||| Int32.ofInt r).toInt = 16 * x + r := by
  have hX := gw_nat (x := 16 * x) ⟨by exact gz_m 0 (by omega), by exact gz_m 1 (by omega)⟩
  have hR := gw_nat (x := r) ⟨by exact gz_m 2 (by omega), by exact gz_m 3 (by omega)⟩
  have e : (Int32.ofInt (16 * x) ||| Int32.ofInt r).toInt = ((Int32.ofInt (16 * x)).toBitVec ||| (Int32.ofInt r).toBitVec).toInt := rfl
  have ea : (Int32.ofInt (16 * x)).toBitVec.toNat = 2 ^ 4 * x.toNat := by exact gz_m 4 (by omega)
  have hn : ((Int32.ofInt (16 * x)).toBitVec ||| (Int32.ofInt r).toBitVec).toNat = 2 ^ 4 * x.toNat + (Int32.ofInt r).toBitVec.toNat := by
    rw [BitVec.toNat_or, ea]
    exact (Nat.two_pow_add_eq_or_of_lt (by exact gz_m 5 (by omega)) _).symm
  rw [e, gw_nn (k := 24) (by decide) (by rw [hn]; exact gz_m 6 (by omega)), hn]
  exact gz_m 7 (by omega)
theorem gw_rk {x r : Int} (hx : 0 ≤ x ∧ x ≤ 4095) (hr : 0 ≤ r ∧ r ≤ 15) : (Int32.ofInt ((Int32.ofInt x <<< (Int32.ofInt 4 &&& 31)).toInt) ||| Int32.ofInt r).toInt = 16 * x + r := by
  rw [gw_sh4 hx]
  exact gw_or4 hx hr
/-- arguments of way y, m of them, are below k; the first a have ranks z -/
def gr_AR (k y m : Int) (I : gr_I) : Prop := ∀ b : Nat, (b : Int) < m → 0 ≤ I 98 (4 * Int.toNat y + b) ∧ I 98 (4 * Int.toNat y + b) < k
def gr_PR (y a z : Int) (I : gr_I) : Prop := ∀ b : Nat, (b : Int) < a → gr_dg z (Int.toNat (a - 1 - (b : Int))) < I 105 (Int.toNat (I 98 (4 * Int.toNat y + b)))
set_option maxHeartbeats 8000000 in
theorem gr_PR_nx {k y m a z r z' : Int} {I I' : gr_I} (h : gr_PR y a z I) (ha : gr_AR k y m I) (hm : a < m) (h0 : 0 ≤ a) (hy : ∀ j, I' 98 j = I 98 j) (ts : gr_TS k I I') (hr : 0 ≤ r ∧ r ≤ 15) (hz : z' = 16 * z + r) (hr2 : r < I' 105 (Int.toNat (I 98 (4 * Int.toNat y + Int.toNat a)))) : gr_PR y (a + 1) z' I' := fun b hb => by
  have a9 := ha b (by exact gz_m 0 (by omega))
  rw [hy, ts _ (by exact gz_m 1 (by omega)), hz]
  by_cases c : (b : Int) < a
  · rw [show Int.toNat (a + 1 - 1 - (b : Int)) = Int.toNat (a - 1 - (b : Int)) + 1 from by exact gz_m 2 (by omega), gr_dg_s hr]
    exact h b c
  · have e : b = Int.toNat a := by exact gz_m 3 (by omega)
    rw [show Int.toNat (a + 1 - 1 - (b : Int)) = 0 from by exact gz_m 4 (by omega), gr_dg_0 hr, e]
    rw [ts _ (by rw [← e]; exact gz_m 5 (by omega))] at hr2
    exact hr2
theorem gr_AR_x {k y m : Int} {I I' : gr_I} (h : gr_AR k y m I) (hy : ∀ j, I' 98 j = I 98 j) : gr_AR k y m I' := fun b hb => by
  rw [hy]
  exact h b hb
theorem gr_E1_of {k i y m z : Int} {I : gr_I} (h1 : I 99 (Int.toNat i) = y) (h2 : m = I 6 (Int.toNat (I 95 (Int.toNat y)))) (ha : gr_AR k y m I) (hp : gr_PR y m z I) : gr_E1 I k i z := fun _ a hq => by
  rw [h1] at hq ⊢
  rw [← h2] at hq ⊢
  exact ⟨ha a hq, hp a hq⟩
set_option maxHeartbeats 8000000 in
set_option maxRecDepth 100000 in
theorem r_combine {ws0 : List Cond} {tb : String → gz_T} (hws : ∀ w ∈ gr_ws, w ∈ ws0) (htb : tb RX13 = gr_T) (ext : gz_Sh) : ∀ (nr : Nat) (I : gr_I) (J : gr_J) (hI : gr_Inv I) (a1 : Int) (a2 : Int) (a3 : Int) (a4 : Int) (a5 : Int) (a6 : Int) (a7 : Int) (a8 : Int) (ha1 : 0 ≤ a1 ∧ a1 ≤ 2999) (ha2 : 0 ≤ a2 ∧ a2 ≤ 8999) (ha3 : 0 ≤ a3 ∧ a3 ≤ 8999) (ha4 : 0 ≤ a4 ∧ a4 ≤ 4) (ha5 : 0 ≤ a5 ∧ a5 ≤ 4) (ha6 : 1 ≤ a6 ∧ a6 ≤ 16) (ha7 : (-2147483648) ≤ a7 ∧ a7 ≤ 2147483647) (ha8 : 0 ≤ a8 ∧ a8 ≤ 65535) (x0 : gr_TP (a1 + 1) I) (x1 : I 91 (Int.toNat a1) ≤ a3) (x2 : a3 < I 91 (Int.toNat a1) + I 92 (Int.toNat a1)) (x3 : I 99 (Int.toNat a3) = a2) (x4 : a4 = I 6 (Int.toNat (I 95 (Int.toNat a2)))) (x5 : gr_AR a1 a2 a4 I) (x6 : gr_PR a2 a5 a8 I) (x7 : a5 ≤ a4) (x8 : (a5 = 0 → a8 ≤ 0) ∧ (a5 ≤ 1 → a8 ≤ 15) ∧ (a5 ≤ 2 → a8 ≤ 255) ∧ (a5 ≤ 3 → a8 ≤ 4095)) (_ : (a4 - a5).toNat < nr), ∃ r h', gz_Ev ws0 tb (2 + nr) (yX13_combine, cX13_combine, 11, none) [.inr (.inr (some 0)), .inl a1, .inl a2, .inl a3, .inl a4, .inl a5, .inl a6, .inl a7, .inl a8] (gr_sh ++ ext) (gr_h I J) r (gr_sh ++ ext) h' 0 0 ∧ (∃ (I' : gr_I) (J' : gr_J), h' = gr_h I' J' ∧ gr_Inv I' ∧ gr_fr [] [105, 106, 107, 108] I I' ∧ gr_fj [] [105, 106, 107, 108] J J' ∧ r = none ∧ (gr_TP (a1 + 1) I') ∧ (gr_TS a1 I I')) := by
  intro nr
  induction nr with
  | zero => intro I J hI a1 a2 a3 a4 a5 a6 a7 a8 ha1 ha2 ha3 ha4 ha5 ha6 ha7 ha8 x0 x1 x2 x3 x4 x5 x6 x7 x8 hnr; exact gz_m 0 (by omega)
  | succ nr ihR =>
  intro I J hI a1 a2 a3 a4 a5 a6 a7 a8 ha1 ha2 ha3 ha4 ha5 ha6 ha7 ha8 x0 x1 x2 x3 x4 x5 x6 x7 x8 hnr
  have FI : gr_fr [] [105, 106, 107, 108] I I := fun _ _ _ => rfl
  have FJ : gr_fj [] [105, 106, 107, 108] J J := fun _ _ _ => rfl
  have hD : gv_D (gr_E ws0 tb (2 + nr) (yX13_combine, cX13_combine, 11, none) kX13_combine) := gq_of oX13_combine
  refine gr_ev (d := (2 + nr)) (l := kX13_combine) (Po := fun r h' => (∃ (I' : gr_I) (J' : gr_J), h' = gr_h I' J' ∧ gr_Inv I' ∧ gr_fr [] [105, 106, 107, 108] I I' ∧ gr_fj [] [105, 106, 107, 108] J J' ∧ r = none ∧ (gr_TP (a1 + 1) I') ∧ (gr_TS a1 I I'))) htb rfl (Nat.le_of_ble_eq_true rfl) ?_
  have L34 : ∀ (n : Nat) (I1 : gr_I) (J2 : gr_J) (v9_3 : Int) (v10_3 : Int), (17 - v10_3).toNat < n → gr_Inv I1 → gr_fr [] [105, 106, 107, 108] I I1 → gr_fj [] [105, 106, 107, 108] J J2 → ((0 ≤ a1 ∧ a1 ≤ 2999) ∧ (0 ≤ a2 ∧ a2 ≤ 8999) ∧ (0 ≤ a3 ∧ a3 ≤ 8999) ∧ (0 ≤ a4 ∧ a4 ≤ 4) ∧ (0 ≤ a5 ∧ a5 ≤ 4) ∧ (1 ≤ a6 ∧ a6 ≤ 16) ∧ ((-2147483648) ≤ a7 ∧ a7 ≤ 2147483647) ∧ (0 ≤ a8 ∧ a8 ≤ 65535) ∧ (0 ≤ v9_3 ∧ v9_3 ≤ 2999) ∧ (0 ≤ v10_3 ∧ v10_3 ≤ 16) ∧ (v9_3 = I 98 (4 * Int.toNat a2 + Int.toNat a5)) ∧ (a5 < a4)) → (gr_TP (a1 + 1) I1) → (gr_TS a1 I I1) → gv_X (gr_E ws0 tb (2 + nr) (yX13_combine, cX13_combine, 11, none) kX13_combine) (gv_Q cX13_combine none (gr_sh ++ ext) (fun r h' => (∃ (I' : gr_I) (J' : gr_J), h' = gr_h I' J' ∧ gr_Inv I' ∧ gr_fr [] [105, 106, 107, 108] I I' ∧ gr_fj [] [105, 106, 107, 108] J J' ∧ r = none ∧ (gr_TP (a1 + 1) I') ∧ (gr_TS a1 I I')))) (34, [(0, .inr (.inr (some 0))), (1, .inl a1), (2, .inl a2), (3, .inl a3), (4, .inl a4), (5, .inl a5), (6, .inl a6), (7, .inl a7), (8, .inl a8), (9, .inl v9_3), (10, .inl v10_3)], [], gr_sh ++ ext, gr_h I1 J2) := by
    intro n
    induction n with
    | zero => intro I1 J2 v9_3 v10_3 hn; exact gz_m 1 (by omega)
    | succ n ih34 =>
      intro I1 J2 v9_3 v10_3 hn hI1 FI1 FJ2 m_3 e0_3 e1_3
      obtain ⟨ha1_3, ha2_3, ha3_3, ha4_3, ha5_3, ha6_3, ha7_3, ha8_3, hv9_3, hv10_3, e2_3, e3_3⟩ := m_3
      have L107 : (gr_TP (a1 + 1) I1) → (gr_TS a1 I I1) → gv_X (gr_E ws0 tb (2 + nr) (yX13_combine, cX13_combine, 11, none) kX13_combine) (gv_Q cX13_combine none (gr_sh ++ ext) (fun r h' => (∃ (I' : gr_I) (J' : gr_J), h' = gr_h I' J' ∧ gr_Inv I' ∧ gr_fr [] [105, 106, 107, 108] I I' ∧ gr_fj [] [105, 106, 107, 108] J J' ∧ r = none ∧ (gr_TP (a1 + 1) I') ∧ (gr_TS a1 I I')))) (107, [], [], gr_sh ++ ext, gr_h I1 J2) := by
        intro e0_4 e1_4
        exact gv_vret hD rfl ⟨I1, J2, rfl, hI1, FI1, FJ2, ⟨rfl, e0_4, e1_4⟩⟩
      have f5 := (gr_b_105 hI1 (Int.toNat v9_3))
      refine gv_run 5 true hD (pc' := 43) (lv' := [(0, .inr (.inr (some 0))), (1, .inl a1), (2, .inl a2), (3, .inl a3), (4, .inl a4), (5, .inl a5), (6, .inl a6), (7, .inl a7), (8, .inl a8), (9, .inl v9_3), (10, .inl v10_3)]) (st' := [.inl (I1 105 (Int.toNat v9_3)), .inl v10_3]) (h' := gr_h I1 J2) (C := (((((True ∧ True) ∧ True) ∧ True) ∧ True) ∧ (0 ≤ v9_3 ∧ v9_3 < ((3000 : Nat) : Int)))) rfl ⟨⟨⟨⟨⟨trivial, trivial⟩, trivial⟩, trivial⟩, trivial⟩, ⟨by exact gz_m 2 (by omega), by exact gz_m 3 (by omega)⟩⟩ ?_
      have t6 := (show I1 105 (Int.toNat v9_3) = I1 105 (Int.toNat (I 98 (4 * Int.toNat a2 + Int.toNat a5))) from by rw [show v9_3 = I 98 (4 * Int.toNat a2 + Int.toNat a5) from by exact gz_m 4 (by omega)])
      refine gv_icmp_ge (t := 107) hD rfl rfl ⟨⟨by exact gz_m 5 (by omega), by exact gz_m 6 (by omega)⟩, ⟨by exact gz_m 7 (by omega), by exact gz_m 8 (by omega)⟩⟩ (fun c7 => ?_) (fun c7 => ?_)
      · refine gv_pick [] rfl ?_
        exact L107 e0_3 e1_3
      · have f8 := gc_mulb (x := a6) (y := (v10_3 + 1)) ⟨by exact gz_m 9 (by omega), by exact gz_m 10 (by omega)⟩ ⟨by exact gz_m 11 (by omega), by exact gz_m 12 (by omega)⟩
        refine gv_run 6 true hD (pc' := 55) (lv' := [(0, .inr (.inr (some 0))), (1, .inl a1), (2, .inl a2), (3, .inl a3), (4, .inl a4), (5, .inl a5), (6, .inl a6), (7, .inl a7), (8, .inl a8), (9, .inl v9_3), (10, .inl v10_3)]) (st' := [.inl 16, .inl (a6 * (v10_3 + 1))]) (h' := gr_h I1 J2) (C := ((((((True ∧ True) ∧ True) ∧ True) ∧ True) ∧ True) ∧ True)) rfl ⟨⟨⟨⟨⟨⟨trivial, trivial⟩, trivial⟩, trivial⟩, trivial⟩, trivial⟩, trivial⟩ ?_
        refine gv_icmp_gt (t := 107) hD rfl rfl ⟨⟨by exact gz_m 13 (by omega), by exact gz_m 14 (by omega)⟩, ⟨by exact gz_m 15 (by omega), by exact gz_m 16 (by omega)⟩⟩ (fun c9 => ?_) (fun c9 => ?_)
        · refine gv_pick [] rfl ?_
          exact L107 e0_3 e1_3
        · refine gv_run 7 true hD (pc' := 67) (lv' := [(0, .inr (.inr (some 0))), (1, .inl a1), (2, .inl a2), (3, .inl a3), (4, .inl a4), (5, .inl a5), (6, .inl a6), (7, .inl a7), (8, .inl a8), (9, .inl v9_3), (10, .inl v10_3)]) (st' := [.inl 1, .inl a5, .inl a4, .inl a3, .inl a2, .inl a1, .inr (.inr (some 0))]) (h' := gr_h I1 J2) (C := (((((((True ∧ True) ∧ True) ∧ True) ∧ True) ∧ True) ∧ True) ∧ True)) rfl ⟨⟨⟨⟨⟨⟨⟨trivial, trivial⟩, trivial⟩, trivial⟩, trivial⟩, trivial⟩, trivial⟩, trivial⟩ ?_
          have f10 := gc_mulb (x := a6) (y := (v10_3 + 1)) ⟨by exact gz_m 17 (by omega), by exact gz_m 18 (by omega)⟩ ⟨by exact gz_m 19 (by omega), by exact gz_m 20 (by omega)⟩
          refine gv_run 7 true hD (pc' := 77) (lv' := [(0, .inr (.inr (some 0))), (1, .inl a1), (2, .inl a2), (3, .inl a3), (4, .inl a4), (5, .inl a5), (6, .inl a6), (7, .inl a7), (8, .inl a8), (9, .inl v9_3), (10, .inl v10_3)]) (st' := [.inl a7, .inl (a6 * (v10_3 + 1)), .inl (a5 + 1), .inl a4, .inl a3, .inl a2, .inl a1, .inr (.inr (some 0))]) (h' := gr_h I1 J2) (C := (((((((True ∧ True) ∧ True) ∧ True) ∧ True) ∧ True) ∧ True) ∧ True)) rfl ⟨⟨⟨⟨⟨⟨⟨trivial, trivial⟩, trivial⟩, trivial⟩, trivial⟩, trivial⟩, trivial⟩, trivial⟩ ?_
          refine gv_run 7 true hD (pc' := 89) (lv' := [(0, .inr (.inr (some 0))), (1, .inl a1), (2, .inl a2), (3, .inl a3), (4, .inl a4), (5, .inl a5), (6, .inl a6), (7, .inl a7), (8, .inl a8), (9, .inl v9_3), (10, .inl v10_3)]) (st' := [.inl ((16 * v9_3) + v10_3), .inr (.inr (some 106)), .inl a7, .inl (a6 * (v10_3 + 1)), .inl (a5 + 1), .inl a4, .inl a3, .inl a2, .inl a1, .inr (.inr (some 0))]) (h' := gr_h I1 J2) (C := (((((((True ∧ True) ∧ True) ∧ True) ∧ True) ∧ True) ∧ True) ∧ True)) rfl ⟨⟨⟨⟨⟨⟨⟨trivial, trivial⟩, trivial⟩, trivial⟩, trivial⟩, trivial⟩, trivial⟩, trivial⟩ ?_
          have f11 := (gr_b_106 hI1 (Int.toNat (((16 * v9_3) + v10_3))))
          refine gv_run 1 true hD (pc' := 90) (lv' := [(0, .inr (.inr (some 0))), (1, .inl a1), (2, .inl a2), (3, .inl a3), (4, .inl a4), (5, .inl a5), (6, .inl a6), (7, .inl a7), (8, .inl a8), (9, .inl v9_3), (10, .inl v10_3)]) (st' := [.inl (I1 106 (Int.toNat (((16 * v9_3) + v10_3)))), .inl a7, .inl (a6 * (v10_3 + 1)), .inl (a5 + 1), .inl a4, .inl a3, .inl a2, .inl a1, .inr (.inr (some 0))]) (h' := gr_h I1 J2) (C := (True ∧ (0 ≤ (((16 * v9_3) + v10_3)) ∧ (((16 * v9_3) + v10_3)) < ((48000 : Nat) : Int)))) rfl ⟨trivial, ⟨by exact gz_m 21 (by omega), by exact gz_m 22 (by omega)⟩⟩ ?_
          refine gv_run 1 true hD (pc' := 91) (lv' := [(0, .inr (.inr (some 0))), (1, .inl a1), (2, .inl a2), (3, .inl a3), (4, .inl a4), (5, .inl a5), (6, .inl a6), (7, .inl a7), (8, .inl a8), (9, .inl v9_3), (10, .inl v10_3)]) (st' := [.inl (a7 + ((I1 106 (Int.toNat (((16 * v9_3) + v10_3)))))), .inl (a6 * (v10_3 + 1)), .inl (a5 + 1), .inl a4, .inl a3, .inl a2, .inl a1, .inr (.inr (some 0))]) (h' := gr_h I1 J2) (C := (True ∧ True)) rfl ⟨trivial, trivial⟩ ?_
          refine gv_wr ?_
          have f12 := gw_any (Int32.ofInt (a7 + ((I1 106 (Int.toNat (((16 * v9_3) + v10_3)))))))
          have f13 := gw_any (Int32.ofInt a8 <<< (Int32.ofInt 4 &&& 31))
          have f14 := gw_any ((Int32.ofInt (((Int32.ofInt a8 <<< (Int32.ofInt 4 &&& 31)).toInt)) ||| Int32.ofInt v10_3))
          refine gv_run 5 true hD (pc' := 98) (lv' := [(0, .inr (.inr (some 0))), (1, .inl a1), (2, .inl a2), (3, .inl a3), (4, .inl a4), (5, .inl a5), (6, .inl a6), (7, .inl a7), (8, .inl a8), (9, .inl v9_3), (10, .inl v10_3)]) (st' := [.inl ((Int32.ofInt (((Int32.ofInt a8 <<< (Int32.ofInt 4 &&& 31)).toInt)) ||| Int32.ofInt v10_3).toInt), .inl ((Int32.ofInt (a7 + ((I1 106 (Int.toNat (((16 * v9_3) + v10_3))))))).toInt), .inl (a6 * (v10_3 + 1)), .inl (a5 + 1), .inl a4, .inl a3, .inl a2, .inl a1, .inr (.inr (some 0))]) (h' := gr_h I1 J2) (C := (((((True ∧ True) ∧ True) ∧ True) ∧ True) ∧ True)) rfl ⟨⟨⟨⟨⟨trivial, trivial⟩, trivial⟩, trivial⟩, trivial⟩, trivial⟩ ?_
          have t15 := gw_rk (x := a8) (r := v10_3) ⟨by exact gz_m 23 (by omega), by exact gz_m 24 (by omega)⟩ ⟨by exact gz_m 25 (by omega), by exact gz_m 26 (by omega)⟩
          obtain ⟨r16, h16, E16, P16⟩ := ihR I1 J2 hI1 a1 a2 a3 a4 (a5 + 1) ((a6 * (v10_3 + 1))) (((Int32.ofInt (a7 + ((I1 106 (Int.toNat (((16 * v9_3) + v10_3))))))).toInt)) (((Int32.ofInt (((Int32.ofInt a8 <<< (Int32.ofInt 4 &&& 31)).toInt)) ||| Int32.ofInt v10_3).toInt)) ⟨by exact gz_m 27 (by omega), by exact gz_m 28 (by omega)⟩ ⟨by exact gz_m 29 (by omega), by exact gz_m 30 (by omega)⟩ ⟨by exact gz_m 31 (by omega), by exact gz_m 32 (by omega)⟩ ⟨by exact gz_m 33 (by omega), by exact gz_m 34 (by omega)⟩ ⟨by exact gz_m 35 (by omega), by exact gz_m 36 (by omega)⟩ ⟨by exact gz_m 37 (by omega), by exact gz_m 38 (by omega)⟩ ⟨by exact gz_m 39 (by omega), by exact gz_m 40 (by omega)⟩ ⟨by exact gz_m 41 (by omega), by exact gz_m 42 (by omega)⟩ e0_3 (by rw [FI1 91 _ rfl]; exact x1) (by rw [FI1 91 _ rfl, FI1 92 _ rfl]; exact x2) (by rw [FI1 99 _ rfl]; exact x3) (by rw [FI1 95 _ rfl, FI1 6 _ rfl]; exact x4) (gr_AR_x x5 (fun j => FI1 98 j rfl)) (gr_PR_nx x6 x5 (by exact gz_m 43 (by omega)) (by exact gz_m 44 (by omega)) (fun j => FI1 98 j rfl) e1_3 (r := v10_3) ⟨by exact gz_m 45 (by omega), by exact gz_m 46 (by omega)⟩ (by exact gz_m 47 (by omega)) (by exact gz_m 48 (by omega))) (by exact gz_m 49 (by omega)) (by exact gz_m 50 (by omega)) (by exact gz_m 51 (by omega))
          obtain ⟨I17, J18, rfl, hI17, g16, k16, ⟨rfl, q16⟩⟩ := P16
          have FI17 := gr_frt FI1 g16 rfl rfl
          have FJ18 := gr_fjt FJ2 k16 rfl rfl
          refine gv_callV hD rfl (As := [.inl a1, .inl a2, .inl a3, .inl a4, .inl (a5 + 1), .inl (a6 * (v10_3 + 1)), .inl ((Int32.ofInt (a7 + ((I1 106 (Int.toNat (((16 * v9_3) + v10_3))))))).toInt), .inl ((Int32.ofInt (((Int32.ofInt a8 <<< (Int32.ofInt 4 &&& 31)).toInt)) ||| Int32.ofInt v10_3).toInt)]) (st := []) rfl (by decide) rfl rfl (gr_lV hws rfl) (Nat.le_of_ble_eq_true rfl) (gz_Ev_mono (d := (2 + nr)) (Nat.le_refl _) E16) ?_
          show gv_X _ _ (101, [(0, .inr (.inr (some 0))), (1, .inl a1), (2, .inl a2), (3, .inl a3), (4, .inl a4), (5, .inl a5), (6, .inl a6), (7, .inl a7), (8, .inl a8), (9, .inl v9_3), (10, .inl v10_3)], [], gr_sh ++ ext, gr_h I17 J18)
          refine gv_run 2 true hD (pc' := 34) (lv' := [(10, .inl (v10_3 + 1)), (0, .inr (.inr (some 0))), (1, .inl a1), (2, .inl a2), (3, .inl a3), (4, .inl a4), (5, .inl a5), (6, .inl a6), (7, .inl a7), (8, .inl a8), (9, .inl v9_3)]) (st' := []) (h' := gr_h I17 J18) (C := ((True ∧ True) ∧ True)) rfl ⟨⟨trivial, trivial⟩, trivial⟩ ?_
          refine gv_pick [1, 2, 3, 4, 5, 6, 7, 8, 9, 10, 0] rfl ?_
          exact ih34 I17 J18 v9_3 (v10_3 + 1) (by exact gz_m 52 (by omega)) hI17 FI17 FJ18 (by exact gz_m 53 (by omega)) q16.1 (gr_TS_tr e1_3 q16.2)
  refine gv_run 2 true hD (pc' := 4) (lv' := [(0, .inr (.inr (some 0))), (1, .inl a1), (2, .inl a2), (3, .inl a3), (4, .inl a4), (5, .inl a5), (6, .inl a6), (7, .inl a7), (8, .inl a8)]) (st' := [.inl a4, .inl a5]) (h' := gr_h I J) (C := ((True ∧ True) ∧ True)) rfl ⟨⟨trivial, trivial⟩, trivial⟩ ?_
  refine gv_icmp_ne (t := 18) hD rfl rfl ⟨⟨by exact gz_m 54 (by omega), by exact gz_m 55 (by omega)⟩, ⟨by exact gz_m 56 (by omega), by exact gz_m 57 (by omega)⟩⟩ (fun c19 => ?_) (fun c19 => ?_)
  · refine gv_run 7 true hD (pc' := 28) (lv' := [(0, .inr (.inr (some 0))), (1, .inl a1), (2, .inl a2), (3, .inl a3), (4, .inl a4), (5, .inl a5), (6, .inl a6), (7, .inl a7), (8, .inl a8)]) (st' := [.inl ((4 * a2) + a5), .inr (.inr (some 98))]) (h' := gr_h I J) (C := (((((((True ∧ True) ∧ True) ∧ True) ∧ True) ∧ True) ∧ True) ∧ True)) rfl ⟨⟨⟨⟨⟨⟨⟨trivial, trivial⟩, trivial⟩, trivial⟩, trivial⟩, trivial⟩, trivial⟩, trivial⟩ ?_
    have f20 := (gr_b_98 hI (Int.toNat (((4 * a2) + a5))))
    refine gv_run 1 true hD (pc' := 29) (lv' := [(0, .inr (.inr (some 0))), (1, .inl a1), (2, .inl a2), (3, .inl a3), (4, .inl a4), (5, .inl a5), (6, .inl a6), (7, .inl a7), (8, .inl a8)]) (st' := [.inl (I 98 (Int.toNat (((4 * a2) + a5))))]) (h' := gr_h I J) (C := (True ∧ (0 ≤ (((4 * a2) + a5)) ∧ (((4 * a2) + a5)) < ((36000 : Nat) : Int)))) rfl ⟨trivial, ⟨by exact gz_m 58 (by omega), by exact gz_m 59 (by omega)⟩⟩ ?_
    have t21 := (show (I 98 (Int.toNat (((4 * a2) + a5)))) = I 98 (4 * Int.toNat a2 + Int.toNat a5) from congrArg (I 98) (by exact gz_m 60 (by omega)))
    refine gv_run 3 true hD (pc' := 34) (lv' := [(10, .inl 0), (9, .inl (I 98 (Int.toNat (((4 * a2) + a5))))), (0, .inr (.inr (some 0))), (1, .inl a1), (2, .inl a2), (3, .inl a3), (4, .inl a4), (5, .inl a5), (6, .inl a6), (7, .inl a7), (8, .inl a8)]) (st' := []) (h' := gr_h I J) (C := (((True ∧ True) ∧ True) ∧ True)) rfl ⟨⟨⟨trivial, trivial⟩, trivial⟩, trivial⟩ ?_
    refine gv_pick [2, 3, 4, 5, 6, 7, 8, 9, 10, 1, 0] rfl ?_
    exact L34 _ I J ((I 98 (Int.toNat (((4 * a2) + a5))))) 0 (Nat.lt_succ_self _) hI FI FJ (by exact gz_m 61 (by omega)) x0 (gr_TS_rf _ _)
  · refine gv_run 5 true hD (pc' := 14) (lv' := [(0, .inr (.inr (some 0))), (1, .inl a1), (2, .inl a2), (3, .inl a3), (4, .inl a4), (5, .inl a5), (6, .inl a6), (7, .inl a7), (8, .inl a8)]) (st' := [.inl a8, .inl a3, .inl a7, .inl a1, .inr (.inr (some 0))]) (h' := gr_h I J) (C := (((((True ∧ True) ∧ True) ∧ True) ∧ True) ∧ True)) rfl ⟨⟨⟨⟨⟨trivial, trivial⟩, trivial⟩, trivial⟩, trivial⟩, trivial⟩ ?_
    obtain ⟨r22, h22, E22, P22⟩ := r_tops_f (ws0 := ws0) (tb := tb) hws htb ext I J hI a1 a7 a3 a8 ⟨by exact gz_m 62 (by omega), by exact gz_m 63 (by omega)⟩ ⟨by exact gz_m 64 (by omega), by exact gz_m 65 (by omega)⟩ ⟨by exact gz_m 66 (by omega), by exact gz_m 67 (by omega)⟩ ⟨by exact gz_m 68 (by omega), by exact gz_m 69 (by omega)⟩ x0 (gr_E1_of (m := a4) x3 x4 x5 (by rw [show a4 = a5 from by exact gz_m 70 (by omega)]; exact x6)) x1 x2
    obtain ⟨I23, J24, rfl, hI23, g22, k22, ⟨rfl, q22⟩⟩ := P22
    have FI23 := gr_frt FI g22 rfl rfl
    have FJ24 := gr_fjt FJ k22 rfl rfl
    refine gv_callV hD rfl (As := [.inl a1, .inl a7, .inl a3, .inl a8]) (st := []) rfl (by decide) rfl rfl (gr_lV hws rfl) (Nat.le_of_ble_eq_true rfl) (gz_Ev_mono (d := 2) (by exact gz_m 71 (by omega)) E22) ?_
    show gv_X _ _ (17, [(0, .inr (.inr (some 0))), (1, .inl a1), (2, .inl a2), (3, .inl a3), (4, .inl a4), (5, .inl a5), (6, .inl a6), (7, .inl a7), (8, .inl a8)], [], gr_sh ++ ext, gr_h I23 J24)
    exact gv_vret hD rfl ⟨I23, J24, rfl, hI23, FI23, FJ24, ⟨rfl, q22.1, (gr_TS_tr (gr_TS_rf _ _) q22.2)⟩⟩
