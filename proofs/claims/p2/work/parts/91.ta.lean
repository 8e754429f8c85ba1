set_option maxHeartbeats 4000000 in
set_option maxRecDepth 100000 in
theorem r_mended {ws0 : List Cond} {tb : String → gz_T} (hws : ∀ w ∈ gr_ws, w ∈ ws0) (htb : tb RX13 = gr_T) (ext : gz_Sh) (I : gr_I) (J : gr_J) (hI : gr_Inv I) (a1 : Int) (a2 : Int) (ha1 : 0 ≤ a1 ∧ a1 ≤ 7) (ha2 : 0 ≤ a2 ∧ a2 ≤ 31) (x0 : I 0 143 ≤ 12) (KGR_I : gr_GR I) (KFV_I : gr_FV I) : ∃ r h', gz_Ev ws0 tb 13 (yX13_mended, cX13_mended, 11, (some .int)) [.inr (.inr (some 0)), .inl a1, .inl a2] (gr_sh ++ ext) (gr_h I J) r (gr_sh ++ ext) h' 0 0 ∧ (∃ (I' : gr_I) (J' : gr_J), h' = gr_h I' J' ∧ gr_Inv I' ∧ gr_fr [126, 127, 128, 143, 157, 158, 159, 160, 161, 166, 167, 168, 169, 170, 177, 179, 180, 181, 186] [51, 76, 77, 78, 79, 83, 84, 85, 86, 87, 88, 89, 90, 91, 92, 93, 94, 95, 96, 97, 98, 99, 100, 101, 103, 104, 105, 106, 107, 108, 109, 110, 111, 112] I I' ∧ gr_fj [126, 127, 128, 143, 157, 158, 159, 160, 161, 166, 167, 168, 169, 170, 177, 179, 180, 181, 186] [51, 76, 77, 78, 79, 83, 84, 85, 86, 87, 88, 89, 90, 91, 92, 93, 94, 95, 96, 97, 98, 99, 100, 101, 103, 104, 105, 106, 107, 108, 109, 110, 111, 112] J J' ∧ gr_GR I' ∧ gr_FV I' ∧ (∃ z : Int, r = some (.inl z) ∧ (-1) ≤ z ∧ z ≤ 3)) := by
  have FI : gr_fr [126, 127, 128, 143, 157, 158, 159, 160, 161, 166, 167, 168, 169, 170, 177, 179, 180, 181, 186] [51, 76, 77, 78, 79, 83, 84, 85, 86, 87, 88, 89, 90, 91, 92, 93, 94, 95, 96, 97, 98, 99, 100, 101, 103, 104, 105, 106, 107, 108, 109, 110, 111, 112] I I := fun _ _ _ => rfl
  have FJ : gr_fj [126, 127, 128, 143, 157, 158, 159, 160, 161, 166, 167, 168, 169, 170, 177, 179, 180, 181, 186] [51, 76, 77, 78, 79, 83, 84, 85, 86, 87, 88, 89, 90, 91, 92, 93, 94, 95, 96, 97, 98, 99, 100, 101, 103, 104, 105, 106, 107, 108, 109, 110, 111, 112] J J := fun _ _ _ => rfl
  have hD : gv_D (gr_E ws0 tb 12 (yX13_mended, cX13_mended, 11, (some .int)) kX13_mended) := gq_ok oX13_mended
  refine gr_ev (d := 12) (l := kX13_mended) (Po := fun r h' => (∃ (I' : gr_I) (J' : gr_J), h' = gr_h I' J' ∧ gr_Inv I' ∧ gr_fr [126, 127, 128, 143, 157, 158, 159, 160, 161, 166, 167, 168, 169, 170, 177, 179, 180, 181, 186] [51, 76, 77, 78, 79, 83, 84, 85, 86, 87, 88, 89, 90, 91, 92, 93, 94, 95, 96, 97, 98, 99, 100, 101, 103, 104, 105, 106, 107, 108, 109, 110, 111, 112] I I' ∧ gr_fj [126, 127, 128, 143, 157, 158, 159, 160, 161, 166, 167, 168, 169, 170, 177, 179, 180, 181, 186] [51, 76, 77, 78, 79, 83, 84, 85, 86, 87, 88, 89, 90, 91, 92, 93, 94, 95, 96, 97, 98, 99, 100, 101, 103, 104, 105, 106, 107, 108, 109, 110, 111, 112] J J' ∧ gr_GR I' ∧ gr_FV I' ∧ (∃ z : Int, r = some (.inl z) ∧ (-1) ≤ z ∧ z ≤ 3))) htb rfl (Nat.le_of_ble_eq_true rfl) ?_
  have f1 := (show 0 ≤ I 0 143 ∧ I 0 143 ≤ 24 from (hI 0 143).1)
  have f2 := (show (-1) ≤ I 0 177 ∧ I 0 177 ≤ 2999 from (hI 0 177).1)
  have f3 := (show 0 ≤ I 0 186 ∧ I 0 186 ≤ 16 from (hI 0 186).1)
  have L20 : ∀ (I4 : gr_I) (J5 : gr_J) (s0_6 : Int), gr_Inv I4 → gr_fr [126, 127, 128, 143, 157, 158, 159, 160, 161, 166, 167, 168, 169, 170, 177, 179, 180, 181, 186] [51, 76, 77, 78, 79, 83, 84, 85, 86, 87, 88, 89, 90, 91, 92, 93, 94, 95, 96, 97, 98, 99, 100, 101, 103, 104, 105, 106, 107, 108, 109, 110, 111, 112] I I4 → gr_fj [126, 127, 128, 143, 157, 158, 159, 160, 161, 166, 167, 168, 169, 170, 177, 179, 180, 181, 186] [51, 76, 77, 78, 79, 83, 84, 85, 86, 87, 88, 89, 90, 91, 92, 93, 94, 95, 96, 97, 98, 99, 100, 101, 103, 104, 105, 106, 107, 108, 109, 110, 111, 112] J J5 → gr_GR I4 → gr_FV I4 → (((-1) ≤ s0_6 ∧ s0_6 ≤ 0)) → gv_X (gr_E ws0 tb 12 (yX13_mended, cX13_mended, 11, (some .int)) kX13_mended) (gv_Q cX13_mended (some .int) (gr_sh ++ ext) (fun r h' => (∃ (I' : gr_I) (J' : gr_J), h' = gr_h I' J' ∧ gr_Inv I' ∧ gr_fr [126, 127, 128, 143, 157, 158, 159, 160, 161, 166, 167, 168, 169, 170, 177, 179, 180, 181, 186] [51, 76, 77, 78, 79, 83, 84, 85, 86, 87, 88, 89, 90, 91, 92, 93, 94, 95, 96, 97, 98, 99, 100, 101, 103, 104, 105, 106, 107, 108, 109, 110, 111, 112] I I' ∧ gr_fj [126, 127, 128, 143, 157, 158, 159, 160, 161, 166, 167, 168, 169, 170, 177, 179, 180, 181, 186] [51, 76, 77, 78, 79, 83, 84, 85, 86, 87, 88, 89, 90, 91, 92, 93, 94, 95, 96, 97, 98, 99, 100, 101, 103, 104, 105, 106, 107, 108, 109, 110, 111, 112] J J' ∧ gr_GR I' ∧ gr_FV I' ∧ (∃ z : Int, r = some (.inl z) ∧ (-1) ≤ z ∧ z ≤ 3)))) (20, [], [.inl s0_6], gr_sh ++ ext, gr_h I4 J5) := by
    intro I4 J5 s0_6 hI4 FI4 FJ5 KGR_I4 KFV_I4 m_6
    have hs0_6 := m_6
    have f7 := (show 0 ≤ I4 0 143 ∧ I4 0 143 ≤ 24 from (hI4 0 143).1)
    have f8 := (show (-1) ≤ I4 0 177 ∧ I4 0 177 ≤ 2999 from (hI4 0 177).1)
    have f9 := (show 0 ≤ I4 0 186 ∧ I4 0 186 ≤ 16 from (hI4 0 186).1)
    exact gv_iret hD rfl ⟨I4, J5, rfl, hI4, FI4, FJ5, KGR_I4, KFV_I4, ⟨_, rfl, by omega⟩⟩
  have L33 : ∀ (n : Nat) (I10 : gr_I) (J11 : gr_J) (v4_12 : Int) (v5_12 : Int) (v6_12 : Int), (13 - v6_12).toNat < n → gr_Inv I10 → gr_fr [126, 127, 128, 143, 157, 158, 159, 160, 161, 166, 167, 168, 169, 170, 177, 179, 180, 181, 186] [51, 76, 77, 78, 79, 83, 84, 85, 86, 87, 88, 89, 90, 91, 92, 93, 94, 95, 96, 97, 98, 99, 100, 101, 103, 104, 105, 106, 107, 108, 109, 110, 111, 112] I I10 → gr_fj [126, 127, 128, 143, 157, 158, 159, 160, 161, 166, 167, 168, 169, 170, 177, 179, 180, 181, 186] [51, 76, 77, 78, 79, 83, 84, 85, 86, 87, 88, 89, 90, 91, 92, 93, 94, 95, 96, 97, 98, 99, 100, 101, 103, 104, 105, 106, 107, 108, 109, 110, 111, 112] J J11 → gr_GR I10 → gr_FV I10 → ((0 ≤ a1 ∧ a1 ≤ 7) ∧ (0 ≤ a2 ∧ a2 ≤ 31) ∧ (0 ≤ v4_12 ∧ v4_12 ≤ 12) ∧ (0 ≤ v5_12 ∧ v5_12 ≤ 0) ∧ (0 ≤ v6_12 ∧ v6_12 ≤ 12)) → gv_X (gr_E ws0 tb 12 (yX13_mended, cX13_mended, 11, (some .int)) kX13_mended) (gv_Q cX13_mended (some .int) (gr_sh ++ ext) (fun r h' => (∃ (I' : gr_I) (J' : gr_J), h' = gr_h I' J' ∧ gr_Inv I' ∧ gr_fr [126, 127, 128, 143, 157, 158, 159, 160, 161, 166, 167, 168, 169, 170, 177, 179, 180, 181, 186] [51, 76, 77, 78, 79, 83, 84, 85, 86, 87, 88, 89, 90, 91, 92, 93, 94, 95, 96, 97, 98, 99, 100, 101, 103, 104, 105, 106, 107, 108, 109, 110, 111, 112] I I' ∧ gr_fj [126, 127, 128, 143, 157, 158, 159, 160, 161, 166, 167, 168, 169, 170, 177, 179, 180, 181, 186] [51, 76, 77, 78, 79, 83, 84, 85, 86, 87, 88, 89, 90, 91, 92, 93, 94, 95, 96, 97, 98, 99, 100, 101, 103, 104, 105, 106, 107, 108, 109, 110, 111, 112] J J' ∧ gr_GR I' ∧ gr_FV I' ∧ (∃ z : Int, r = some (.inl z) ∧ (-1) ≤ z ∧ z ≤ 3)))) (33, [(0, .inr (.inr (some 0))), (1, .inl a1), (2, .inl a2), (4, .inl v4_12), (5, .inl v5_12), (6, .inl v6_12)], [], gr_sh ++ ext, gr_h I10 J11) := by
    intro n
    induction n with
    | zero => intro I10 J11 v4_12 v5_12 v6_12 hn; omega
    | succ n ih33 =>
      intro I10 J11 v4_12 v5_12 v6_12 hn hI10 FI10 FJ11 KGR_I10 KFV_I10 m_12
      obtain ⟨ha1_12, ha2_12, hv4_12, hv5_12, hv6_12⟩ := m_12
      have f13 := (show 0 ≤ I10 0 143 ∧ I10 0 143 ≤ 24 from (hI10 0 143).1)
      have f14 := (show (-1) ≤ I10 0 177 ∧ I10 0 177 ≤ 2999 from (hI10 0 177).1)
      have f15 := (show 0 ≤ I10 0 186 ∧ I10 0 186 ≤ 16 from (hI10 0 186).1)
      have L57 : ∀ (n : Nat) (I16 : gr_I) (J17 : gr_J) (v7_18 : Int), (25 - v7_18).toNat < n → gr_Inv I16 → gr_fr [126, 127, 128, 143, 157, 158, 159, 160, 161, 166, 167, 168, 169, 170, 177, 179, 180, 181, 186] [51, 76, 77, 78, 79, 83, 84, 85, 86, 87, 88, 89, 90, 91, 92, 93, 94, 95, 96, 97, 98, 99, 100, 101, 103, 104, 105, 106, 107, 108, 109, 110, 111, 112] I I16 → gr_fj [126, 127, 128, 143, 157, 158, 159, 160, 161, 166, 167, 168, 169, 170, 177, 179, 180, 181, 186] [51, 76, 77, 78, 79, 83, 84, 85, 86, 87, 88, 89, 90, 91, 92, 93, 94, 95, 96, 97, 98, 99, 100, 101, 103, 104, 105, 106, 107, 108, 109, 110, 111, 112] J J17 → gr_GR I16 → gr_FV I16 → ((0 ≤ a1 ∧ a1 ≤ 7) ∧ (0 ≤ a2 ∧ a2 ≤ 31) ∧ (1 ≤ v4_12 ∧ v4_12 ≤ 12) ∧ (0 ≤ v5_12 ∧ v5_12 ≤ 0) ∧ (0 ≤ v6_12 ∧ v6_12 ≤ 11) ∧ (0 ≤ v7_18 ∧ v7_18 ≤ 24)) → gv_X (gr_E ws0 tb 12 (yX13_mended, cX13_mended, 11, (some .int)) kX13_mended) (gv_Q cX13_mended (some .int) (gr_sh ++ ext) (fun r h' => (∃ (I' : gr_I) (J' : gr_J), h' = gr_h I' J' ∧ gr_Inv I' ∧ gr_fr [126, 127, 128, 143, 157, 158, 159, 160, 161, 166, 167, 168, 169, 170, 177, 179, 180, 181, 186] [51, 76, 77, 78, 79, 83, 84, 85, 86, 87, 88, 89, 90, 91, 92, 93, 94, 95, 96, 97, 98, 99, 100, 101, 103, 104, 105, 106, 107, 108, 109, 110, 111, 112] I I' ∧ gr_fj [126, 127, 128, 143, 157, 158, 159, 160, 161, 166, 167, 168, 169, 170, 177, 179, 180, 181, 186] [51, 76, 77, 78, 79, 83, 84, 85, 86, 87, 88, 89, 90, 91, 92, 93, 94, 95, 96, 97, 98, 99, 100, 101, 103, 104, 105, 106, 107, 108, 109, 110, 111, 112] J J' ∧ gr_GR I' ∧ gr_FV I' ∧ (∃ z : Int, r = some (.inl z) ∧ (-1) ≤ z ∧ z ≤ 3)))) (57, [(0, .inr (.inr (some 0))), (1, .inl a1), (2, .inl a2), (4, .inl v4_12), (5, .inl v5_12), (6, .inl v6_12), (7, .inl v7_18)], [], gr_sh ++ ext, gr_h I16 J17) := by
        intro n
        induction n with
        | zero => intro I16 J17 v7_18 hn; omega
        | succ n ih57 =>
          intro I16 J17 v7_18 hn hI16 FI16 FJ17 KGR_I16 KFV_I16 m_18
          clear ha1_12 ha2_12 hv4_12 hv5_12 hv6_12 f13 f14 f15
          obtain ⟨ha1_18, ha2_18, hv4_12_18, hv5_12_18, hv6_12_18, hv7_18⟩ := m_18
          have f19 := (show 0 ≤ I16 0 143 ∧ I16 0 143 ≤ 24 from (hI16 0 143).1)
          have f20 := (show (-1) ≤ I16 0 177 ∧ I16 0 177 ≤ 2999 from (hI16 0 177).1)
          have f21 := (show 0 ≤ I16 0 186 ∧ I16 0 186 ≤ 16 from (hI16 0 186).1)
          have f22 := (show 0 ≤ I16 85 (Int.toNat v6_12) ∧ I16 85 (Int.toNat v6_12) ≤ 24 from (hI16 85 (Int.toNat v6_12)).1)
          refine gv_run 5 true hD (pc' := 66) (lv' := [(0, .inr (.inr (some 0))), (1, .inl a1), (2, .inl a2), (4, .inl v4_12), (5, .inl v5_12), (6, .inl v6_12), (7, .inl v7_18)]) (st' := [.inl (I16 85 (Int.toNat v6_12)), .inl v7_18]) (h' := gr_h I16 J17) (C := (((((True ∧ True) ∧ True) ∧ True) ∧ True) ∧ (0 ≤ v6_12 ∧ v6_12 < ((24 : Nat) : Int)))) rfl ⟨⟨⟨⟨⟨trivial, trivial⟩, trivial⟩, trivial⟩, trivial⟩, ⟨by omega, by omega⟩⟩ ?_
          refine gv_icmp_ge (t := 101) hD rfl rfl ⟨⟨by omega, by omega⟩, ⟨by omega, by omega⟩⟩ (fun c23 => ?_) (fun c23 => ?_)
          · refine gv_run 2 true hD (pc' := 33) (lv' := [(6, .inl (v6_12 + 1)), (0, .inr (.inr (some 0))), (1, .inl a1), (2, .inl a2), (4, .inl v4_12), (5, .inl v5_12), (7, .inl v7_18)]) (st' := []) (h' := gr_h I16 J17) (C := ((True ∧ True) ∧ True)) rfl ⟨⟨trivial, trivial⟩, trivial⟩ ?_
            refine gv_pick [1, 2, 3, 4, 5, 0] rfl ?_
            exact ih33 I16 J17 v4_12 v5_12 (v6_12 + 1) (by omega) hI16 FI16 FJ17 KGR_I16 KFV_I16 (by omega)
          · refine gv_run 7 true hD (pc' := 81) (lv' := [(0, .inr (.inr (some 0))), (1, .inl a1), (2, .inl a2), (4, .inl v4_12), (5, .inl v5_12), (6, .inl v6_12), (7, .inl v7_18)]) (st' := [.inl ((24 * v6_12) + v7_18), .inr (.inr (some 84))]) (h' := gr_h I16 J17) (C := (((((((True ∧ True) ∧ True) ∧ True) ∧ True) ∧ True) ∧ True) ∧ True)) rfl ⟨⟨⟨⟨⟨⟨⟨trivial, trivial⟩, trivial⟩, trivial⟩, trivial⟩, trivial⟩, trivial⟩, trivial⟩ ?_
            refine gv_run 7 true hD (pc' := 93) (lv' := [(0, .inr (.inr (some 0))), (1, .inl a1), (2, .inl a2), (4, .inl v4_12), (5, .inl v5_12), (6, .inl v6_12), (7, .inl v7_18)]) (st' := [.inl ((24 * v6_12) + v7_18), .inr (.inr (some 83)), .inl ((24 * v6_12) + v7_18), .inr (.inr (some 84))]) (h' := gr_h I16 J17) (C := (((((((True ∧ True) ∧ True) ∧ True) ∧ True) ∧ True) ∧ True) ∧ True)) rfl ⟨⟨⟨⟨⟨⟨⟨trivial, trivial⟩, trivial⟩, trivial⟩, trivial⟩, trivial⟩, trivial⟩, trivial⟩ ?_
            have f24 := (show (-128) ≤ I16 83 (Int.toNat (((24 * v6_12) + v7_18))) ∧ I16 83 (Int.toNat (((24 * v6_12) + v7_18))) ≤ 127 from (hI16 83 (Int.toNat (((24 * v6_12) + v7_18)))).1)
            refine gv_run 1 true hD (pc' := 94) (lv' := [(0, .inr (.inr (some 0))), (1, .inl a1), (2, .inl a2), (4, .inl v4_12), (5, .inl v5_12), (6, .inl v6_12), (7, .inl v7_18)]) (st' := [.inl (I16 83 (Int.toNat (((24 * v6_12) + v7_18)))), .inl ((24 * v6_12) + v7_18), .inr (.inr (some 84))]) (h' := gr_h I16 J17) (C := (True ∧ (0 ≤ (((24 * v6_12) + v7_18)) ∧ (((24 * v6_12) + v7_18)) < ((576 : Nat) : Int)))) rfl ⟨trivial, ⟨by omega, by omega⟩⟩ ?_
            have f25 := gw_nar_byte (x := ((I16 83 (Int.toNat (((24 * v6_12) + v7_18))))))
            refine gv_run 1 true hD (pc' := 95) (lv' := [(0, .inr (.inr (some 0))), (1, .inl a1), (2, .inl a2), (4, .inl v4_12), (5, .inl v5_12), (6, .inl v6_12), (7, .inl v7_18)]) (st' := []) (h' := gz_up (gr_h I16 J17) 84 (Int.toNat (((24 * v6_12) + v7_18))) (.inl (((vp_nar .byte (Int32.ofInt ((I16 83 (Int.toNat (((24 * v6_12) + v7_18))))))).toInt)))) (C := (True ∧ (0 ≤ (((24 * v6_12) + v7_18)) ∧ (((24 * v6_12) + v7_18)) < ((576 : Nat) : Int)))) rfl ⟨trivial, ⟨by omega, by omega⟩⟩ ?_
            refine gr_st hI16 FI16 rfl rfl ⟨⟨by show (-128) ≤ _; omega, by show _ ≤ 127; omega⟩, trivial⟩ (fun I26 hI26 FI26 q27 p27 => ?_)
            have t28 := p27 0 143 (fun q => absurd q.1 (by decide))
            have t29 := p27 0 177 (fun q => absurd q.1 (by decide))
            have t30 := p27 0 186 (fun q => absurd q.1 (by decide))
            have f31 := (show 0 ≤ I26 0 143 ∧ I26 0 143 ≤ 24 from (hI26 0 143).1)
            have f32 := (show (-1) ≤ I26 0 177 ∧ I26 0 177 ≤ 2999 from (hI26 0 177).1)
            have f33 := (show 0 ≤ I26 0 186 ∧ I26 0 186 ≤ 16 from (hI26 0 186).1)
            have KGR_I26 := gr_GR_fr KGR_I16 (fun k => p27 19 k (fun q => absurd q.1 (by decide))) (fun k => p27 18 k (fun q => absurd q.1 (by decide))) (fun k => p27 36 k (fun q => absurd q.1 (by decide))) (fun k => p27 41 k (fun q => absurd q.1 (by decide))) (fun k => p27 42 k (fun q => absurd q.1 (by decide))) (fun k => p27 43 k (fun q => absurd q.1 (by decide))) (fun k => p27 45 k (fun q => absurd q.1 (by decide))) (fun k => p27 46 k (fun q => absurd q.1 (by decide))) (fun k => p27 47 k (fun q => absurd q.1 (by decide))) (fun k => p27 6 k (fun q => absurd q.1 (by decide))) (fun k => p27 7 k (fun q => absurd q.1 (by decide))) (fun k => p27 8 k (fun q => absurd q.1 (by decide))) (p27 0 3 (fun q => absurd q.1 (by decide)))
            have KFV_I26 := gr_FV_fr KFV_I16 (fun k => p27 87 k (fun q => absurd q.1 (by decide))) (fun k => p27 88 k (fun q => absurd q.1 (by decide))) (fun k => p27 104 k (fun q => absurd q.1 (by decide))) (fun k => p27 90 k (fun q => absurd q.1 (by decide))) (fun k => p27 91 k (fun q => absurd q.1 (by decide))) (fun k => p27 92 k (fun q => absurd q.1 (by decide))) (fun k => p27 94 k (fun q => absurd q.1 (by decide))) (fun k => p27 95 k (fun q => absurd q.1 (by decide))) (fun k => p27 97 k (fun q => absurd q.1 (by decide))) (fun k => p27 98 k (fun q => absurd q.1 (by decide))) (fun k => p27 19 k (fun q => absurd q.1 (by decide))) (fun k => p27 18 k (fun q => absurd q.1 (by decide))) (fun k => p27 41 k (fun q => absurd q.1 (by decide))) (fun k => p27 6 k (fun q => absurd q.1 (by decide))) (fun k => p27 99 k (fun q => absurd q.1 (by decide))) (fun k => p27 105 k (fun q => absurd q.1 (by decide))) (fun k => p27 107 k (fun q => absurd q.1 (by decide))) (fun k => p27 108 k (fun q => absurd q.1 (by decide))) (fun k => p27 110 k (fun q => absurd q.1 (by decide))) (fun k => p27 111 k (fun q => absurd q.1 (by decide))) (p27 0 157 (fun q => absurd q.1 (by decide))) (p27 0 158 (fun q => absurd q.1 (by decide))) (p27 0 177 (fun q => absurd q.1 (by decide))) (p27 0 186 (fun q => absurd q.1 (by decide))) (p27 0 159 (fun q => absurd q.1 (by decide))) hI16
            refine gv_run 2 true hD (pc' := 57) (lv' := [(7, .inl (v7_18 + 1)), (0, .inr (.inr (some 0))), (1, .inl a1), (2, .inl a2), (4, .inl v4_12), (5, .inl v5_12), (6, .inl v6_12)]) (st' := []) (h' := gr_h I26 J17) (C := ((True ∧ True) ∧ True)) rfl ⟨⟨trivial, trivial⟩, trivial⟩ ?_
            refine gv_pick [1, 2, 3, 4, 5, 6, 0] rfl ?_
            exact ih57 I26 J17 (v7_18 + 1) (by omega) hI26 FI26 FJ17 KGR_I26 KFV_I26 (by omega)
      have L110 : ∀ (n : Nat) (I34 : gr_I) (J35 : gr_J) (v5_36 : Int) (v6_36 : Int), (13 - v6_36).toNat < n → gr_Inv I34 → gr_fr [126, 127, 128, 143, 157, 158, 159, 160, 161, 166, 167, 168, 169, 170, 177, 179, 180, 181, 186] [51, 76, 77, 78, 79, 83, 84, 85, 86, 87, 88, 89, 90, 91, 92, 93, 94, 95, 96, 97, 98, 99, 100, 101, 103, 104, 105, 106, 107, 108, 109, 110, 111, 112] I I34 → gr_fj [126, 127, 128, 143, 157, 158, 159, 160, 161, 166, 167, 168, 169, 170, 177, 179, 180, 181, 186] [51, 76, 77, 78, 79, 83, 84, 85, 86, 87, 88, 89, 90, 91, 92, 93, 94, 95, 96, 97, 98, 99, 100, 101, 103, 104, 105, 106, 107, 108, 109, 110, 111, 112] J J35 → gr_GR I34 → gr_FV I34 → ((0 ≤ a1 ∧ a1 ≤ 7) ∧ (0 ≤ a2 ∧ a2 ≤ 31) ∧ (0 ≤ v4_12 ∧ v4_12 ≤ 12) ∧ (0 ≤ v5_36 ∧ v5_36 ≤ 1000) ∧ (0 ≤ v6_36 ∧ v6_36 ≤ 12)) → gv_X (gr_E ws0 tb 12 (yX13_mended, cX13_mended, 11, (some .int)) kX13_mended) (gv_Q cX13_mended (some .int) (gr_sh ++ ext) (fun r h' => (∃ (I' : gr_I) (J' : gr_J), h' = gr_h I' J' ∧ gr_Inv I' ∧ gr_fr [126, 127, 128, 143, 157, 158, 159, 160, 161, 166, 167, 168, 169, 170, 177, 179, 180, 181, 186] [51, 76, 77, 78, 79, 83, 84, 85, 86, 87, 88, 89, 90, 91, 92, 93, 94, 95, 96, 97, 98, 99, 100, 101, 103, 104, 105, 106, 107, 108, 109, 110, 111, 112] I I' ∧ gr_fj [126, 127, 128, 143, 157, 158, 159, 160, 161, 166, 167, 168, 169, 170, 177, 179, 180, 181, 186] [51, 76, 77, 78, 79, 83, 84, 85, 86, 87, 88, 89, 90, 91, 92, 93, 94, 95, 96, 97, 98, 99, 100, 101, 103, 104, 105, 106, 107, 108, 109, 110, 111, 112] J J' ∧ gr_GR I' ∧ gr_FV I' ∧ (∃ z : Int, r = some (.inl z) ∧ (-1) ≤ z ∧ z ≤ 3)))) (110, [(0, .inr (.inr (some 0))), (1, .inl a1), (2, .inl a2), (4, .inl v4_12), (5, .inl v5_36), (6, .inl v6_36)], [], gr_sh ++ ext, gr_h I34 J35) := by
        intro n
        induction n with
        | zero => intro I34 J35 v5_36 v6_36 hn; omega
        | succ n ih110 =>
          intro I34 J35 v5_36 v6_36 hn hI34 FI34 FJ35 KGR_I34 KFV_I34 m_36
          clear ha1_12 ha2_12 hv4_12 hv5_12 hv6_12 f13 f14 f15
          obtain ⟨ha1_36, ha2_36, hv4_12_36, hv5_36, hv6_36⟩ := m_36
          have f37 := (show 0 ≤ I34 0 143 ∧ I34 0 143 ≤ 24 from (hI34 0 143).1)
          have f38 := (show (-1) ≤ I34 0 177 ∧ I34 0 177 ≤ 2999 from (hI34 0 177).1)
          have f39 := (show 0 ≤ I34 0 186 ∧ I34 0 186 ≤ 16 from (hI34 0 186).1)
          have L120 : ∀ (n : Nat) (I40 : gr_I) (J41 : gr_J) (v5_42 : Int) (v7_42 : Int), (65 - v7_42).toNat < n → gr_Inv I40 → gr_fr [126, 127, 128, 143, 157, 158, 159, 160, 161, 166, 167, 168, 169, 170, 177, 179, 180, 181, 186] [51, 76, 77, 78, 79, 83, 84, 85, 86, 87, 88, 89, 90, 91, 92, 93, 94, 95, 96, 97, 98, 99, 100, 101, 103, 104, 105, 106, 107, 108, 109, 110, 111, 112] I I40 → gr_fj [126, 127, 128, 143, 157, 158, 159, 160, 161, 166, 167, 168, 169, 170, 177, 179, 180, 181, 186] [51, 76, 77, 78, 79, 83, 84, 85, 86, 87, 88, 89, 90, 91, 92, 93, 94, 95, 96, 97, 98, 99, 100, 101, 103, 104, 105, 106, 107, 108, 109, 110, 111, 112] J J41 → gr_GR I40 → gr_FV I40 → ((0 ≤ a1 ∧ a1 ≤ 7) ∧ (0 ≤ a2 ∧ a2 ≤ 31) ∧ (1 ≤ v4_12 ∧ v4_12 ≤ 12) ∧ (0 ≤ v5_42 ∧ v5_42 ≤ 1000) ∧ (0 ≤ v6_36 ∧ v6_36 ≤ 11) ∧ (0 ≤ v7_42 ∧ v7_42 ≤ 64)) → gv_X (gr_E ws0 tb 12 (yX13_mended, cX13_mended, 11, (some .int)) kX13_mended) (gv_Q cX13_mended (some .int) (gr_sh ++ ext) (fun r h' => (∃ (I' : gr_I) (J' : gr_J), h' = gr_h I' J' ∧ gr_Inv I' ∧ gr_fr [126, 127, 128, 143, 157, 158, 159, 160, 161, 166, 167, 168, 169, 170, 177, 179, 180, 181, 186] [51, 76, 77, 78, 79, 83, 84, 85, 86, 87, 88, 89, 90, 91, 92, 93, 94, 95, 96, 97, 98, 99, 100, 101, 103, 104, 105, 106, 107, 108, 109, 110, 111, 112] I I' ∧ gr_fj [126, 127, 128, 143, 157, 158, 159, 160, 161, 166, 167, 168, 169, 170, 177, 179, 180, 181, 186] [51, 76, 77, 78, 79, 83, 84, 85, 86, 87, 88, 89, 90, 91, 92, 93, 94, 95, 96, 97, 98, 99, 100, 101, 103, 104, 105, 106, 107, 108, 109, 110, 111, 112] J J' ∧ gr_GR I' ∧ gr_FV I' ∧ (∃ z : Int, r = some (.inl z) ∧ (-1) ≤ z ∧ z ≤ 3)))) (120, [(0, .inr (.inr (some 0))), (1, .inl a1), (2, .inl a2), (4, .inl v4_12), (5, .inl v5_42), (6, .inl v6_36), (7, .inl v7_42)], [], gr_sh ++ ext, gr_h I40 J41) := by
            intro n
            induction n with
            | zero => intro I40 J41 v5_42 v7_42 hn; omega
            | succ n ih120 =>
              intro I40 J41 v5_42 v7_42 hn hI40 FI40 FJ41 KGR_I40 KFV_I40 m_42
              clear ha1_36 ha2_36 hv4_12_36 hv5_36 hv6_36 f37 f38 f39
              obtain ⟨ha1_42, ha2_42, hv4_12_42, hv5_42, hv6_36_42, hv7_42⟩ := m_42
              have f43 := (show 0 ≤ I40 0 143 ∧ I40 0 143 ≤ 24 from (hI40 0 143).1)
              have f44 := (show (-1) ≤ I40 0 177 ∧ I40 0 177 ≤ 2999 from (hI40 0 177).1)
              have f45 := (show 0 ≤ I40 0 186 ∧ I40 0 186 ≤ 16 from (hI40 0 186).1)
              have L134 : ∀ (n : Nat) (I46 : gr_I) (J47 : gr_J) (v5_48 : Int) (v8_48 : Int), (25 - v8_48).toNat < n → gr_Inv I46 → gr_fr [126, 127, 128, 143, 157, 158, 159, 160, 161, 166, 167, 168, 169, 170, 177, 179, 180, 181, 186] [51, 76, 77, 78, 79, 83, 84, 85, 86, 87, 88, 89, 90, 91, 92, 93, 94, 95, 96, 97, 98, 99, 100, 101, 103, 104, 105, 106, 107, 108, 109, 110, 111, 112] I I46 → gr_fj [126, 127, 128, 143, 157, 158, 159, 160, 161, 166, 167, 168, 169, 170, 177, 179, 180, 181, 186] [51, 76, 77, 78, 79, 83, 84, 85, 86, 87, 88, 89, 90, 91, 92, 93, 94, 95, 96, 97, 98, 99, 100, 101, 103, 104, 105, 106, 107, 108, 109, 110, 111, 112] J J47 → gr_GR I46 → gr_FV I46 → ((0 ≤ a1 ∧ a1 ≤ 7) ∧ (0 ≤ a2 ∧ a2 ≤ 31) ∧ (1 ≤ v4_12 ∧ v4_12 ≤ 12) ∧ (0 ≤ v5_48 ∧ v5_48 ≤ 1000) ∧ (0 ≤ v6_36 ∧ v6_36 ≤ 11) ∧ (0 ≤ v7_42 ∧ v7_42 ≤ 63) ∧ (0 ≤ v8_48 ∧ v8_48 ≤ 24)) → gv_X (gr_E ws0 tb 12 (yX13_mended, cX13_mended, 11, (some .int)) kX13_mended) (gv_Q cX13_mended (some .int) (gr_sh ++ ext) (fun r h' => (∃ (I' : gr_I) (J' : gr_J), h' = gr_h I' J' ∧ gr_Inv I' ∧ gr_fr [126, 127, 128, 143, 157, 158, 159, 160, 161, 166, 167, 168, 169, 170, 177, 179, 180, 181, 186] [51, 76, 77, 78, 79, 83, 84, 85, 86, 87, 88, 89, 90, 91, 92, 93, 94, 95, 96, 97, 98, 99, 100, 101, 103, 104, 105, 106, 107, 108, 109, 110, 111, 112] I I' ∧ gr_fj [126, 127, 128, 143, 157, 158, 159, 160, 161, 166, 167, 168, 169, 170, 177, 179, 180, 181, 186] [51, 76, 77, 78, 79, 83, 84, 85, 86, 87, 88, 89, 90, 91, 92, 93, 94, 95, 96, 97, 98, 99, 100, 101, 103, 104, 105, 106, 107, 108, 109, 110, 111, 112] J J' ∧ gr_GR I' ∧ gr_FV I' ∧ (∃ z : Int, r = some (.inl z) ∧ (-1) ≤ z ∧ z ≤ 3)))) (134, [(0, .inr (.inr (some 0))), (1, .inl a1), (2, .inl a2), (4, .inl v4_12), (5, .inl v5_48), (6, .inl v6_36), (7, .inl v7_42), (8, .inl v8_48)], [], gr_sh ++ ext, gr_h I46 J47) := by
                intro n
                induction n with
                | zero => intro I46 J47 v5_48 v8_48 hn; omega
                | succ n ih134 =>
                  intro I46 J47 v5_48 v8_48 hn hI46 FI46 FJ47 KGR_I46 KFV_I46 m_48
                  clear ha1_42 ha2_42 hv4_12_42 hv5_42 hv6_36_42 hv7_42 f43 f44 f45
                  obtain ⟨ha1_48, ha2_48, hv4_12_48, hv5_48, hv6_36_48, hv7_42_48, hv8_48⟩ := m_48
                  have f49 := (show 0 ≤ I46 0 143 ∧ I46 0 143 ≤ 24 from (hI46 0 143).1)
                  have f50 := (show (-1) ≤ I46 0 177 ∧ I46 0 177 ≤ 2999 from (hI46 0 177).1)
                  have f51 := (show 0 ≤ I46 0 186 ∧ I46 0 186 ≤ 16 from (hI46 0 186).1)
                  have L297 : ∀ (I52 : gr_I) (J53 : gr_J) (v5_54 : Int), gr_Inv I52 → gr_fr [126, 127, 128, 143, 157, 158, 159, 160, 161, 166, 167, 168, 169, 170, 177, 179, 180, 181, 186] [51, 76, 77, 78, 79, 83, 84, 85, 86, 87, 88, 89, 90, 91, 92, 93, 94, 95, 96, 97, 98, 99, 100, 101, 103, 104, 105, 106, 107, 108, 109, 110, 111, 112] I I52 → gr_fj [126, 127, 128, 143, 157, 158, 159, 160, 161, 166, 167, 168, 169, 170, 177, 179, 180, 181, 186] [51, 76, 77, 78, 79, 83, 84, 85, 86, 87, 88, 89, 90, 91, 92, 93, 94, 95, 96, 97, 98, 99, 100, 101, 103, 104, 105, 106, 107, 108, 109, 110, 111, 112] J J53 → gr_GR I52 → gr_FV I52 → ((0 ≤ a1 ∧ a1 ≤ 7) ∧ (0 ≤ a2 ∧ a2 ≤ 31) ∧ (1 ≤ v4_12 ∧ v4_12 ≤ 12) ∧ (0 ≤ v5_54 ∧ v5_54 ≤ 1000) ∧ (0 ≤ v6_36 ∧ v6_36 ≤ 11) ∧ (0 ≤ v7_42 ∧ v7_42 ≤ 63) ∧ (0 ≤ v8_48 ∧ v8_48 ≤ 23)) → gv_X (gr_E ws0 tb 12 (yX13_mended, cX13_mended, 11, (some .int)) kX13_mended) (gv_Q cX13_mended (some .int) (gr_sh ++ ext) (fun r h' => (∃ (I' : gr_I) (J' : gr_J), h' = gr_h I' J' ∧ gr_Inv I' ∧ gr_fr [126, 127, 128, 143, 157, 158, 159, 160, 161, 166, 167, 168, 169, 170, 177, 179, 180, 181, 186] [51, 76, 77, 78, 79, 83, 84, 85, 86, 87, 88, 89, 90, 91, 92, 93, 94, 95, 96, 97, 98, 99, 100, 101, 103, 104, 105, 106, 107, 108, 109, 110, 111, 112] I I' ∧ gr_fj [126, 127, 128, 143, 157, 158, 159, 160, 161, 166, 167, 168, 169, 170, 177, 179, 180, 181, 186] [51, 76, 77, 78, 79, 83, 84, 85, 86, 87, 88, 89, 90, 91, 92, 93, 94, 95, 96, 97, 98, 99, 100, 101, 103, 104, 105, 106, 107, 108, 109, 110, 111, 112] J J' ∧ gr_GR I' ∧ gr_FV I' ∧ (∃ z : Int, r = some (.inl z) ∧ (-1) ≤ z ∧ z ≤ 3)))) (297, [(0, .inr (.inr (some 0))), (1, .inl a1), (2, .inl a2), (4, .inl v4_12), (5, .inl v5_54), (6, .inl v6_36), (7, .inl v7_42), (8, .inl v8_48)], [], gr_sh ++ ext, gr_h I52 J53) := by
                    intro I52 J53 v5_54 hI52 FI52 FJ53 KGR_I52 KFV_I52 m_54
                    clear ha1_48 ha2_48 hv4_12_48 hv5_48 hv6_36_48 hv7_42_48 hv8_48 f49 f50 f51
                    obtain ⟨ha1_54, ha2_54, hv4_12_54, hv5_54, hv6_36_54, hv7_42_54, hv8_48_54⟩ := m_54
                    have f55 := (show 0 ≤ I52 0 143 ∧ I52 0 143 ≤ 24 from (hI52 0 143).1)
                    have f56 := (show (-1) ≤ I52 0 177 ∧ I52 0 177 ≤ 2999 from (hI52 0 177).1)
                    have f57 := (show 0 ≤ I52 0 186 ∧ I52 0 186 ≤ 16 from (hI52 0 186).1)
                    refine gv_run 2 true hD (pc' := 134) (lv' := [(8, .inl (v8_48 + 1)), (0, .inr (.inr (some 0))), (1, .inl a1), (2, .inl a2), (4, .inl v4_12), (5, .inl v5_54), (6, .inl v6_36), (7, .inl v7_42)]) (st' := []) (h' := gr_h I52 J53) (C := ((True ∧ True) ∧ True)) rfl ⟨⟨trivial, trivial⟩, trivial⟩ ?_
                    refine gv_pick [1, 2, 3, 4, 5, 6, 7, 0] rfl ?_
                    exact ih134 I52 J53 v5_54 (v8_48 + 1) (by omega) hI52 FI52 FJ53 KGR_I52 KFV_I52 (by omega)
                  have L183 : ∀ (n : Nat) (I58 : gr_I) (J59 : gr_J) (v5_60 : Int) (v9_60 : Int), (25 - v9_60).toNat < n → gr_Inv I58 → gr_fr [126, 127, 128, 143, 157, 158, 159, 160, 161, 166, 167, 168, 169, 170, 177, 179, 180, 181, 186] [51, 76, 77, 78, 79, 83, 84, 85, 86, 87, 88, 89, 90, 91, 92, 93, 94, 95, 96, 97, 98, 99, 100, 101, 103, 104, 105, 106, 107, 108, 109, 110, 111, 112] I I58 → gr_fj [126, 127, 128, 143, 157, 158, 159, 160, 161, 166, 167, 168, 169, 170, 177, 179, 180, 181, 186] [51, 76, 77, 78, 79, 83, 84, 85, 86, 87, 88, 89, 90, 91, 92, 93, 94, 95, 96, 97, 98, 99, 100, 101, 103, 104, 105, 106, 107, 108, 109, 110, 111, 112] J J59 → gr_GR I58 → gr_FV I58 → ((0 ≤ a1 ∧ a1 ≤ 7) ∧ (0 ≤ a2 ∧ a2 ≤ 31) ∧ (1 ≤ v4_12 ∧ v4_12 ≤ 12) ∧ (0 ≤ v5_60 ∧ v5_60 ≤ 1000) ∧ (0 ≤ v6_36 ∧ v6_36 ≤ 11) ∧ (0 ≤ v7_42 ∧ v7_42 ≤ 63) ∧ (0 ≤ v8_48 ∧ v8_48 ≤ 23) ∧ (0 ≤ v9_60 ∧ v9_60 ≤ 24)) → gv_X (gr_E ws0 tb 12 (yX13_mended, cX13_mended, 11, (some .int)) kX13_mended) (gv_Q cX13_mended (some .int) (gr_sh ++ ext) (fun r h' => (∃ (I' : gr_I) (J' : gr_J), h' = gr_h I' J' ∧ gr_Inv I' ∧ gr_fr [126, 127, 128, 143, 157, 158, 159, 160, 161, 166, 167, 168, 169, 170, 177, 179, 180, 181, 186] [51, 76, 77, 78, 79, 83, 84, 85, 86, 87, 88, 89, 90, 91, 92, 93, 94, 95, 96, 97, 98, 99, 100, 101, 103, 104, 105, 106, 107, 108, 109, 110, 111, 112] I I' ∧ gr_fj [126, 127, 128, 143, 157, 158, 159, 160, 161, 166, 167, 168, 169, 170, 177, 179, 180, 181, 186] [51, 76, 77, 78, 79, 83, 84, 85, 86, 87, 88, 89, 90, 91, 92, 93, 94, 95, 96, 97, 98, 99, 100, 101, 103, 104, 105, 106, 107, 108, 109, 110, 111, 112] J J' ∧ gr_GR I' ∧ gr_FV I' ∧ (∃ z : Int, r = some (.inl z) ∧ (-1) ≤ z ∧ z ≤ 3)))) (183, [(0, .inr (.inr (some 0))), (1, .inl a1), (2, .inl a2), (4, .inl v4_12), (5, .inl v5_60), (6, .inl v6_36), (7, .inl v7_42), (8, .inl v8_48), (9, .inl v9_60)], [], gr_sh ++ ext, gr_h I58 J59) := by
                    intro n
                    induction n with
                    | zero => intro I58 J59 v5_60 v9_60 hn; omega
                    | succ n ih183 =>
                      intro I58 J59 v5_60 v9_60 hn hI58 FI58 FJ59 KGR_I58 KFV_I58 m_60
                      clear ha1_48 ha2_48 hv4_12_48 hv5_48 hv6_36_48 hv7_42_48 hv8_48 f49 f50 f51
                      obtain ⟨ha1_60, ha2_60, hv4_12_60, hv5_60, hv6_36_60, hv7_42_60, hv8_48_60, hv9_60⟩ := m_60
                      have f61 := (show 0 ≤ I58 0 143 ∧ I58 0 143 ≤ 24 from (hI58 0 143).1)
                      have f62 := (show (-1) ≤ I58 0 177 ∧ I58 0 177 ≤ 2999 from (hI58 0 177).1)
                      have f63 := (show 0 ≤ I58 0 186 ∧ I58 0 186 ≤ 16 from (hI58 0 186).1)
                      have L291 : ∀ (I64 : gr_I) (J65 : gr_J) (v5_66 : Int), gr_Inv I64 → gr_fr [126, 127, 128, 143, 157, 158, 159, 160, 161, 166, 167, 168, 169, 170, 177, 179, 180, 181, 186] [51, 76, 77, 78, 79, 83, 84, 85, 86, 87, 88, 89, 90, 91, 92, 93, 94, 95, 96, 97, 98, 99, 100, 101, 103, 104, 105, 106, 107, 108, 109, 110, 111, 112] I I64 → gr_fj [126, 127, 128, 143, 157, 158, 159, 160, 161, 166, 167, 168, 169, 170, 177, 179, 180, 181, 186] [51, 76, 77, 78, 79, 83, 84, 85, 86, 87, 88, 89, 90, 91, 92, 93, 94, 95, 96, 97, 98, 99, 100, 101, 103, 104, 105, 106, 107, 108, 109, 110, 111, 112] J J65 → gr_GR I64 → gr_FV I64 → ((0 ≤ a1 ∧ a1 ≤ 7) ∧ (0 ≤ a2 ∧ a2 ≤ 31) ∧ (1 ≤ v4_12 ∧ v4_12 ≤ 12) ∧ (0 ≤ v5_66 ∧ v5_66 ≤ 1000) ∧ (0 ≤ v6_36 ∧ v6_36 ≤ 11) ∧ (0 ≤ v7_42 ∧ v7_42 ≤ 63) ∧ (0 ≤ v8_48 ∧ v8_48 ≤ 23) ∧ (0 ≤ v9_60 ∧ v9_60 ≤ 23)) → gv_X (gr_E ws0 tb 12 (yX13_mended, cX13_mended, 11, (some .int)) kX13_mended) (gv_Q cX13_mended (some .int) (gr_sh ++ ext) (fun r h' => (∃ (I' : gr_I) (J' : gr_J), h' = gr_h I' J' ∧ gr_Inv I' ∧ gr_fr [126, 127, 128, 143, 157, 158, 159, 160, 161, 166, 167, 168, 169, 170, 177, 179, 180, 181, 186] [51, 76, 77, 78, 79, 83, 84, 85, 86, 87, 88, 89, 90, 91, 92, 93, 94, 95, 96, 97, 98, 99, 100, 101, 103, 104, 105, 106, 107, 108, 109, 110, 111, 112] I I' ∧ gr_fj [126, 127, 128, 143, 157, 158, 159, 160, 161, 166, 167, 168, 169, 170, 177, 179, 180, 181, 186] [51, 76, 77, 78, 79, 83, 84, 85, 86, 87, 88, 89, 90, 91, 92, 93, 94, 95, 96, 97, 98, 99, 100, 101, 103, 104, 105, 106, 107, 108, 109, 110, 111, 112] J J' ∧ gr_GR I' ∧ gr_FV I' ∧ (∃ z : Int, r = some (.inl z) ∧ (-1) ≤ z ∧ z ≤ 3)))) (291, [(0, .inr (.inr (some 0))), (1, .inl a1), (2, .inl a2), (4, .inl v4_12), (5, .inl v5_66), (6, .inl v6_36), (7, .inl v7_42), (8, .inl v8_48), (9, .inl v9_60)], [], gr_sh ++ ext, gr_h I64 J65) := by
                        intro I64 J65 v5_66 hI64 FI64 FJ65 KGR_I64 KFV_I64 m_66
                        clear ha1_60 ha2_60 hv4_12_60 hv5_60 hv6_36_60 hv7_42_60 hv8_48_60 hv9_60 f61 f62 f63
                        obtain ⟨ha1_66, ha2_66, hv4_12_66, hv5_66, hv6_36_66, hv7_42_66, hv8_48_66, hv9_60_66⟩ := m_66
                        have f67 := (show 0 ≤ I64 0 143 ∧ I64 0 143 ≤ 24 from (hI64 0 143).1)
                        have f68 := (show (-1) ≤ I64 0 177 ∧ I64 0 177 ≤ 2999 from (hI64 0 177).1)
                        have f69 := (show 0 ≤ I64 0 186 ∧ I64 0 186 ≤ 16 from (hI64 0 186).1)
                        refine gv_run 2 true hD (pc' := 183) (lv' := [(9, .inl (v9_60 + 1)), (0, .inr (.inr (some 0))), (1, .inl a1), (2, .inl a2), (4, .inl v4_12), (5, .inl v5_66), (6, .inl v6_36), (7, .inl v7_42), (8, .inl v8_48)]) (st' := []) (h' := gr_h I64 J65) (C := ((True ∧ True) ∧ True)) rfl ⟨⟨trivial, trivial⟩, trivial⟩ ?_
                        refine gv_pick [1, 2, 3, 4, 5, 6, 7, 8, 0] rfl ?_
                        exact ih183 I64 J65 v5_66 (v9_60 + 1) (by omega) hI64 FI64 FJ65 KGR_I64 KFV_I64 (by omega)
                      refine gv_run 4 true hD (pc' := 189) (lv' := [(0, .inr (.inr (some 0))), (1, .inl a1), (2, .inl a2), (4, .inl v4_12), (5, .inl v5_60), (6, .inl v6_36), (7, .inl v7_42), (8, .inl v8_48), (9, .inl v9_60)]) (st' := [.inl v7_42, .inl a1, .inr (.inr (some 0)), .inl v9_60]) (h' := gr_h I58 J59) (C := ((((True ∧ True) ∧ True) ∧ True) ∧ True)) rfl ⟨⟨⟨⟨trivial, trivial⟩, trivial⟩, trivial⟩, trivial⟩ ?_
                      obtain ⟨r70, h70, E70, P70⟩ := r_cellsOf (ws0 := ws0) (tb := tb) hws htb ext I58 J59 hI58 a1 v7_42 ⟨by omega, by omega⟩ ⟨by omega, by omega⟩ 
                      obtain ⟨rfl, ⟨z70, rfl, q70⟩⟩ := P70
                      refine gv_callV hD rfl (As := [.inl a1, .inl v7_42]) (st := [.inl v9_60]) rfl (by decide) rfl rfl (gr_lV hws rfl) (Nat.le_of_ble_eq_true rfl) (gz_Ev_mono (d := 1) (by decide) E70) ?_
                      show gv_X _ _ (192, [(0, .inr (.inr (some 0))), (1, .inl a1), (2, .inl a2), (4, .inl v4_12), (5, .inl v5_60), (6, .inl v6_36), (7, .inl v7_42), (8, .inl v8_48), (9, .inl v9_60)], [.inl z70, .inl v9_60], gr_sh ++ ext, gr_h I58 J59)
                      refine gv_icmp_ge (t := 297) hD rfl rfl ⟨⟨by omega, by omega⟩, ⟨by omega, by omega⟩⟩ (fun c71 => ?_) (fun c71 => ?_)
                      · refine gv_pick [0, 1, 2, 3, 4, 5, 6, 7] rfl ?_
                        exact L297 I58 J59 v5_60 hI58 FI58 FJ59 KGR_I58 KFV_I58 (by omega)
                      · refine gv_run 7 true hD (pc' := 206) (lv' := [(10, .inl ((24 * v7_42) + v9_60)), (0, .inr (.inr (some 0))), (1, .inl a1), (2, .inl a2), (4, .inl v4_12), (5, .inl v5_60), (6, .inl v6_36), (7, .inl v7_42), (8, .inl v8_48), (9, .inl v9_60)]) (st' := [.inr (.inr (some 0))]) (h' := gr_h I58 J59) (C := (((((((True ∧ True) ∧ True) ∧ True) ∧ True) ∧ True) ∧ True) ∧ True)) rfl ⟨⟨⟨⟨⟨⟨⟨trivial, trivial⟩, trivial⟩, trivial⟩, trivial⟩, trivial⟩, trivial⟩, trivial⟩ ?_
                        have f72 := (show (-1) ≤ I58 79 (Int.toNat (((24 * v7_42) + v9_60))) ∧ I58 79 (Int.toNat (((24 * v7_42) + v9_60))) ≤ 24 from (hI58 79 (Int.toNat (((24 * v7_42) + v9_60)))).1)
                        refine gv_run 3 true hD (pc' := 212) (lv' := [(10, .inl ((24 * v7_42) + v9_60)), (0, .inr (.inr (some 0))), (1, .inl a1), (2, .inl a2), (4, .inl v4_12), (5, .inl v5_60), (6, .inl v6_36), (7, .inl v7_42), (8, .inl v8_48), (9, .inl v9_60)]) (st' := [.inl (I58 79 (Int.toNat (((24 * v7_42) + v9_60))))]) (h' := gr_h I58 J59) (C := (((True ∧ True) ∧ True) ∧ (0 ≤ (((24 * v7_42) + v9_60)) ∧ (((24 * v7_42) + v9_60)) < ((1536 : Nat) : Int)))) rfl ⟨⟨⟨trivial, trivial⟩, trivial⟩, ⟨by omega, by omega⟩⟩ ?_
                        refine gv_if_lt (t := 291) hD rfl rfl ⟨by omega, by omega⟩ (fun c73 => ?_) (fun c73 => ?_)
                        · refine gv_pick [1, 2, 3, 4, 5, 6, 7, 8, 9] rfl ?_
                          exact L291 I58 J59 v5_60 hI58 FI58 FJ59 KGR_I58 KFV_I58 (by omega)
                        · refine gv_run 7 true hD (pc' := 227) (lv' := [(10, .inl ((24 * v7_42) + v9_60)), (0, .inr (.inr (some 0))), (1, .inl a1), (2, .inl a2), (4, .inl v4_12), (5, .inl v5_60), (6, .inl v6_36), (7, .inl v7_42), (8, .inl v8_48), (9, .inl v9_60)]) (st' := [.inl (24 * v6_36), .inr (.inr (some 84)), .inl ((24 * v7_42) + v9_60), .inr (.inr (some 0))]) (h' := gr_h I58 J59) (C := (((((((True ∧ True) ∧ True) ∧ True) ∧ True) ∧ True) ∧ True) ∧ True)) rfl ⟨⟨⟨⟨⟨⟨⟨trivial, trivial⟩, trivial⟩, trivial⟩, trivial⟩, trivial⟩, trivial⟩, trivial⟩ ?_
                          have f74 := (show 0 ≤ I58 86 (Int.toNat v6_36) ∧ I58 86 (Int.toNat v6_36) ≤ 24 from (hI58 86 (Int.toNat v6_36)).1)
                          refine gv_run 4 true hD (pc' := 234) (lv' := [(10, .inl ((24 * v7_42) + v9_60)), (0, .inr (.inr (some 0))), (1, .inl a1), (2, .inl a2), (4, .inl v4_12), (5, .inl v5_60), (6, .inl v6_36), (7, .inl v7_42), (8, .inl v8_48), (9, .inl v9_60)]) (st' := [.inl (I58 86 (Int.toNat v6_36)), .inl (24 * v6_36), .inr (.inr (some 84)), .inl ((24 * v7_42) + v9_60), .inr (.inr (some 0))]) (h' := gr_h I58 J59) (C := ((((True ∧ True) ∧ True) ∧ True) ∧ (0 ≤ v6_36 ∧ v6_36 < ((24 : Nat) : Int)))) rfl ⟨⟨⟨⟨trivial, trivial⟩, trivial⟩, trivial⟩, ⟨by omega, by omega⟩⟩ ?_
                          obtain ⟨r75, h75, E75, P75⟩ := r_isForm_84 (ws0 := ws0) (tb := tb) hws htb ext I58 J59 hI58 (((24 * v7_42) + v9_60)) (24 * v6_36) ((I58 86 (Int.toNat v6_36))) ⟨by omega, by omega⟩ ⟨by omega, by omega⟩ ⟨by omega, by omega⟩ (by omega)
                          obtain ⟨rfl, ⟨z75, rfl, q75⟩⟩ := P75
                          refine gv_callV hD rfl (As := [.inl ((24 * v7_42) + v9_60), .inr (.inr (some 84)), .inl (24 * v6_36), .inl (I58 86 (Int.toNat v6_36))]) (st := []) rfl (by decide) rfl rfl (gr_lV hws rfl) (Nat.le_of_ble_eq_true rfl) (gz_Ev_mono (d := 1) (by decide) E75) ?_
                          show gv_X _ _ (237, [(10, .inl ((24 * v7_42) + v9_60)), (0, .inr (.inr (some 0))), (1, .inl a1), (2, .inl a2), (4, .inl v4_12), (5, .inl v5_60), (6, .inl v6_36), (7, .inl v7_42), (8, .inl v8_48), (9, .inl v9_60)], [.inl z75], gr_sh ++ ext, gr_h I58 J59)
                          refine gv_if_eq (t := 243) hD rfl rfl ⟨by omega, by omega⟩ (fun c76 => ?_) (fun c76 => ?_)
                          · refine gv_run 7 true hD (pc' := 255) (lv' := [(10, .inl ((24 * v7_42) + v9_60)), (0, .inr (.inr (some 0))), (1, .inl a1), (2, .inl a2), (4, .inl v4_12), (5, .inl v5_60), (6, .inl v6_36), (7, .inl v7_42), (8, .inl v8_48), (9, .inl v9_60)]) (st' := [.inl (24 * ((24 * v7_42) + v9_60)), .inr (.inr (some 78)), .inl v6_36, .inr (.inr (some 0))]) (h' := gr_h I58 J59) (C := (((((((True ∧ True) ∧ True) ∧ True) ∧ True) ∧ True) ∧ True) ∧ True)) rfl ⟨⟨⟨⟨⟨⟨⟨trivial, trivial⟩, trivial⟩, trivial⟩, trivial⟩, trivial⟩, trivial⟩, trivial⟩ ?_
                            have f77 := (show (-1) ≤ I58 79 (Int.toNat (((24 * v7_42) + v9_60))) ∧ I58 79 (Int.toNat (((24 * v7_42) + v9_60))) ≤ 24 from (hI58 79 (Int.toNat (((24 * v7_42) + v9_60)))).1)
                            refine gv_run 4 true hD (pc' := 262) (lv' := [(10, .inl ((24 * v7_42) + v9_60)), (0, .inr (.inr (some 0))), (1, .inl a1), (2, .inl a2), (4, .inl v4_12), (5, .inl v5_60), (6, .inl v6_36), (7, .inl v7_42), (8, .inl v8_48), (9, .inl v9_60)]) (st' := [.inl (I58 79 (Int.toNat (((24 * v7_42) + v9_60)))), .inl (24 * ((24 * v7_42) + v9_60)), .inr (.inr (some 78)), .inl v6_36, .inr (.inr (some 0))]) (h' := gr_h I58 J59) (C := ((((True ∧ True) ∧ True) ∧ True) ∧ (0 ≤ (((24 * v7_42) + v9_60)) ∧ (((24 * v7_42) + v9_60)) < ((1536 : Nat) : Int)))) rfl ⟨⟨⟨⟨trivial, trivial⟩, trivial⟩, trivial⟩, ⟨by omega, by omega⟩⟩ ?_
                            obtain ⟨r78, h78, E78, P78⟩ := r_word__78 (ws0 := ws0) (tb := tb) hws htb ext I58 J59 hI58 v6_36 ((24 * ((24 * v7_42) + v9_60))) ((I58 79 (Int.toNat (((24 * v7_42) + v9_60))))) ⟨by omega, by omega⟩ ⟨by omega, by omega⟩ ⟨by omega, by omega⟩ (by omega)
                            obtain ⟨I79, J80, rfl, hI79, g78, k78, rfl⟩ := P78
                            have FI79 := gr_frt FI58 g78 rfl rfl
                            have FJ80 := gr_fjt FJ59 k78 rfl rfl
                            have t81 := g78 0 143 rfl
                            have t82 := g78 0 177 rfl
                            have t83 := g78 0 186 rfl
                            have f84 := (show 0 ≤ I79 0 143 ∧ I79 0 143 ≤ 24 from (hI79 0 143).1)
                            have f85 := (show (-1) ≤ I79 0 177 ∧ I79 0 177 ≤ 2999 from (hI79 0 177).1)
                            have f86 := (show 0 ≤ I79 0 186 ∧ I79 0 186 ≤ 16 from (hI79 0 186).1)
                            have KGR_I79 := gr_GR_fr KGR_I58 (fun k => g78 19 k rfl) (fun k => g78 18 k rfl) (fun k => g78 36 k rfl) (fun k => g78 41 k rfl) (fun k => g78 42 k rfl) (fun k => g78 43 k rfl) (fun k => g78 45 k rfl) (fun k => g78 46 k rfl) (fun k => g78 47 k rfl) (fun k => g78 6 k rfl) (fun k => g78 7 k rfl) (fun k => g78 8 k rfl) (g78 0 3 rfl)
                            have KFV_I79 := gr_FV_fr KFV_I58 (fun k => g78 87 k rfl) (fun k => g78 88 k rfl) (fun k => g78 104 k rfl) (fun k => g78 90 k rfl) (fun k => g78 91 k rfl) (fun k => g78 92 k rfl) (fun k => g78 94 k rfl) (fun k => g78 95 k rfl) (fun k => g78 97 k rfl) (fun k => g78 98 k rfl) (fun k => g78 19 k rfl) (fun k => g78 18 k rfl) (fun k => g78 41 k rfl) (fun k => g78 6 k rfl) (fun k => g78 99 k rfl) (fun k => g78 105 k rfl) (fun k => g78 107 k rfl) (fun k => g78 108 k rfl) (fun k => g78 110 k rfl) (fun k => g78 111 k rfl) (g78 0 157 rfl) (g78 0 158 rfl) (g78 0 177 rfl) (g78 0 186 rfl) (g78 0 159 rfl) hI58
                            refine gv_callV hD rfl (As := [.inl v6_36, .inr (.inr (some 78)), .inl (24 * ((24 * v7_42) + v9_60)), .inl (I58 79 (Int.toNat (((24 * v7_42) + v9_60))))]) (st := []) rfl (by decide) rfl rfl (gr_lV hws rfl) (Nat.le_of_ble_eq_true rfl) (gz_Ev_mono (d := 1) (by decide) E78) ?_
                            show gv_X _ _ (265, [(10, .inl ((24 * v7_42) + v9_60)), (0, .inr (.inr (some 0))), (1, .inl a1), (2, .inl a2), (4, .inl v4_12), (5, .inl v5_60), (6, .inl v6_36), (7, .inl v7_42), (8, .inl v8_48), (9, .inl v9_60)], [], gr_sh ++ ext, gr_h I79 J80)
                            refine gv_run 3 true hD (pc' := 273) (lv' := [(5, .inl (v5_60 + 1)), (10, .inl ((24 * v7_42) + v9_60)), (0, .inr (.inr (some 0))), (1, .inl a1), (2, .inl a2), (4, .inl v4_12), (6, .inl v6_36), (7, .inl v7_42), (8, .inl v8_48), (9, .inl v9_60)]) (st' := [.inl 1000, .inl (v5_60 + 1)]) (h' := gr_h I79 J80) (C := (((True ∧ True) ∧ True) ∧ True)) rfl ⟨⟨⟨trivial, trivial⟩, trivial⟩, trivial⟩ ?_
                            refine gv_icmp_le (t := 278) hD rfl rfl ⟨⟨by omega, by omega⟩, ⟨by omega, by omega⟩⟩ (fun c87 => ?_) (fun c87 => ?_)
                            · refine gv_run 3 true hD (pc' := 281) (lv' := [(5, .inl (v5_60 + 1)), (10, .inl ((24 * v7_42) + v9_60)), (0, .inr (.inr (some 0))), (1, .inl a1), (2, .inl a2), (4, .inl v4_12), (6, .inl v6_36), (7, .inl v7_42), (8, .inl v8_48), (9, .inl v9_60)]) (st' := [.inl a2, .inl a1, .inr (.inr (some 0))]) (h' := gr_h I79 J80) (C := (((True ∧ True) ∧ True) ∧ True)) rfl ⟨⟨⟨trivial, trivial⟩, trivial⟩, trivial⟩ ?_
                              obtain ⟨r88, h88, E88, P88⟩ := r_parsed (ws0 := ws0) (tb := tb) hws htb ext I79 J80 hI79 a1 a2 ⟨by omega, by omega⟩ ⟨by omega, by omega⟩ KGR_I79
                              obtain ⟨I89, J90, rfl, hI89, g88, k88, KGR_I89, ⟨z88, rfl, q88⟩⟩ := P88
                              have FI89 := gr_frt FI79 g88 rfl rfl
                              have FJ90 := gr_fjt FJ80 k88 rfl rfl
                              have t91 := g88 0 143 rfl
                              have f92 := (show 0 ≤ I89 0 143 ∧ I89 0 143 ≤ 24 from (hI89 0 143).1)
                              have f93 := (show (-1) ≤ I89 0 177 ∧ I89 0 177 ≤ 2999 from (hI89 0 177).1)
                              have f94 := (show 0 ≤ I89 0 186 ∧ I89 0 186 ≤ 16 from (hI89 0 186).1)
                              have KFV_I89 : gr_FV I89 := q88.2.2
                              refine gv_callV hD rfl (As := [.inl a1, .inl a2]) (st := []) rfl (by decide) rfl rfl (gr_lV hws rfl) (Nat.le_of_ble_eq_true rfl) (gz_Ev_mono (d := 12) (by decide) E88) ?_
                              show gv_X _ _ (284, [(5, .inl (v5_60 + 1)), (10, .inl ((24 * v7_42) + v9_60)), (0, .inr (.inr (some 0))), (1, .inl a1), (2, .inl a2), (4, .inl v4_12), (6, .inl v6_36), (7, .inl v7_42), (8, .inl v8_48), (9, .inl v9_60)], [.inl z88], gr_sh ++ ext, gr_h I89 J90)
                              refine gv_run 2 true hD (pc' := 286) (lv' := [(3, .inl z88), (5, .inl (v5_60 + 1)), (10, .inl ((24 * v7_42) + v9_60)), (0, .inr (.inr (some 0))), (1, .inl a1), (2, .inl a2), (4, .inl v4_12), (6, .inl v6_36), (7, .inl v7_42), (8, .inl v8_48), (9, .inl v9_60)]) (st' := [.inl z88]) (h' := gr_h I89 J90) (C := ((True ∧ True) ∧ True)) rfl ⟨⟨trivial, trivial⟩, trivial⟩ ?_
                              refine gv_if_eq (t := 291) hD rfl rfl ⟨by omega, by omega⟩ (fun c95 => ?_) (fun c95 => ?_)
                              · refine gv_pick [3, 4, 5, 6, 1, 7, 8, 9, 10] rfl ?_
                                exact L291 I89 J90 (v5_60 + 1) hI89 FI89 FJ90 KGR_I89 KFV_I89 (by omega)
                              · refine gv_run 1 true hD (pc' := 290) (lv' := [(3, .inl z88), (5, .inl (v5_60 + 1)), (10, .inl ((24 * v7_42) + v9_60)), (0, .inr (.inr (some 0))), (1, .inl a1), (2, .inl a2), (4, .inl v4_12), (6, .inl v6_36), (7, .inl v7_42), (8, .inl v8_48), (9, .inl v9_60)]) (st' := [.inl z88]) (h' := gr_h I89 J90) (C := (True ∧ True)) rfl ⟨trivial, trivial⟩ ?_
                                exact gv_iret hD rfl ⟨I89, J90, rfl, hI89, FI89, FJ90, KGR_I89, KFV_I89, ⟨_, rfl, by omega⟩⟩
                            · refine gv_run 1 true hD (pc' := 277) (lv' := [(5, .inl (v5_60 + 1)), (10, .inl ((24 * v7_42) + v9_60)), (0, .inr (.inr (some 0))), (1, .inl a1), (2, .inl a2), (4, .inl v4_12), (6, .inl v6_36), (7, .inl v7_42), (8, .inl v8_48), (9, .inl v9_60)]) (st' := [.inl (-1)]) (h' := gr_h I79 J80) (C := (True ∧ True)) rfl ⟨trivial, trivial⟩ ?_
                              exact gv_iret hD rfl ⟨I79, J80, rfl, hI79, FI79, FJ80, KGR_I79, KFV_I79, ⟨_, rfl, by omega⟩⟩
                          · refine gv_run 1 true hD (pc' := 291) (lv' := [(10, .inl ((24 * v7_42) + v9_60)), (0, .inr (.inr (some 0))), (1, .inl a1), (2, .inl a2), (4, .inl v4_12), (5, .inl v5_60), (6, .inl v6_36), (7, .inl v7_42), (8, .inl v8_48), (9, .inl v9_60)]) (st' := []) (h' := gr_h I58 J59) (C := (True ∧ True)) rfl ⟨trivial, trivial⟩ ?_
                            refine gv_pick [1, 2, 3, 4, 5, 6, 7, 8, 9] rfl ?_
                            exact L291 I58 J59 v5_60 hI58 FI58 FJ59 KGR_I58 KFV_I58 (by omega)
                  refine gv_run 4 true hD (pc' := 140) (lv' := [(0, .inr (.inr (some 0))), (1, .inl a1), (2, .inl a2), (4, .inl v4_12), (5, .inl v5_48), (6, .inl v6_36), (7, .inl v7_42), (8, .inl v8_48)]) (st' := [.inl v7_42, .inl a1, .inr (.inr (some 0)), .inl v8_48]) (h' := gr_h I46 J47) (C := ((((True ∧ True) ∧ True) ∧ True) ∧ True)) rfl ⟨⟨⟨⟨trivial, trivial⟩, trivial⟩, trivial⟩, trivial⟩ ?_
                  obtain ⟨r96, h96, E96, P96⟩ := r_cellsOf (ws0 := ws0) (tb := tb) hws htb ext I46 J47 hI46 a1 v7_42 ⟨by omega, by omega⟩ ⟨by omega, by omega⟩ 
                  obtain ⟨rfl, ⟨z96, rfl, q96⟩⟩ := P96
                  refine gv_callV hD rfl (As := [.inl a1, .inl v7_42]) (st := [.inl v8_48]) rfl (by decide) rfl rfl (gr_lV hws rfl) (Nat.le_of_ble_eq_true rfl) (gz_Ev_mono (d := 1) (by decide) E96) ?_
                  show gv_X _ _ (143, [(0, .inr (.inr (some 0))), (1, .inl a1), (2, .inl a2), (4, .inl v4_12), (5, .inl v5_48), (6, .inl v6_36), (7, .inl v7_42), (8, .inl v8_48)], [.inl z96, .inl v8_48], gr_sh ++ ext, gr_h I46 J47)
                  refine gv_icmp_ge (t := 303) hD rfl rfl ⟨⟨by omega, by omega⟩, ⟨by omega, by omega⟩⟩ (fun c97 => ?_) (fun c97 => ?_)
                  · refine gv_run 2 true hD (pc' := 120) (lv' := [(7, .inl (v7_42 + 1)), (0, .inr (.inr (some 0))), (1, .inl a1), (2, .inl a2), (4, .inl v4_12), (5, .inl v5_48), (6, .inl v6_36), (8, .inl v8_48)]) (st' := []) (h' := gr_h I46 J47) (C := ((True ∧ True) ∧ True)) rfl ⟨⟨trivial, trivial⟩, trivial⟩ ?_
                    refine gv_pick [1, 2, 3, 4, 5, 6, 0] rfl ?_
                    exact ih120 I46 J47 v5_48 (v7_42 + 1) (by omega) hI46 FI46 FJ47 KGR_I46 KFV_I46 (by omega)
                  · refine gv_run 7 true hD (pc' := 156) (lv' := [(0, .inr (.inr (some 0))), (1, .inl a1), (2, .inl a2), (4, .inl v4_12), (5, .inl v5_48), (6, .inl v6_36), (7, .inl v7_42), (8, .inl v8_48)]) (st' := [.inr (.inr (some 0)), .inl ((24 * v7_42) + v8_48), .inr (.inr (some 0))]) (h' := gr_h I46 J47) (C := (((((((True ∧ True) ∧ True) ∧ True) ∧ True) ∧ True) ∧ True) ∧ True)) rfl ⟨⟨⟨⟨⟨⟨⟨trivial, trivial⟩, trivial⟩, trivial⟩, trivial⟩, trivial⟩, trivial⟩, trivial⟩ ?_
                    refine gv_run 7 true hD (pc' := 170) (lv' := [(0, .inr (.inr (some 0))), (1, .inl a1), (2, .inl a2), (4, .inl v4_12), (5, .inl v5_48), (6, .inl v6_36), (7, .inl v7_42), (8, .inl v8_48)]) (st' := [.inl v6_36, .inr (.inr (some 86)), .inl (24 * v6_36), .inr (.inr (some 84)), .inl ((24 * v7_42) + v8_48), .inr (.inr (some 0))]) (h' := gr_h I46 J47) (C := (((((((True ∧ True) ∧ True) ∧ True) ∧ True) ∧ True) ∧ True) ∧ True)) rfl ⟨⟨⟨⟨⟨⟨⟨trivial, trivial⟩, trivial⟩, trivial⟩, trivial⟩, trivial⟩, trivial⟩, trivial⟩ ?_
                    have f98 := (show 0 ≤ I46 86 (Int.toNat v6_36) ∧ I46 86 (Int.toNat v6_36) ≤ 24 from (hI46 86 (Int.toNat v6_36)).1)
                    refine gv_run 1 true hD (pc' := 171) (lv' := [(0, .inr (.inr (some 0))), (1, .inl a1), (2, .inl a2), (4, .inl v4_12), (5, .inl v5_48), (6, .inl v6_36), (7, .inl v7_42), (8, .inl v8_48)]) (st' := [.inl (I46 86 (Int.toNat v6_36)), .inl (24 * v6_36), .inr (.inr (some 84)), .inl ((24 * v7_42) + v8_48), .inr (.inr (some 0))]) (h' := gr_h I46 J47) (C := (True ∧ (0 ≤ v6_36 ∧ v6_36 < ((24 : Nat) : Int)))) rfl ⟨trivial, ⟨by omega, by omega⟩⟩ ?_
                    obtain ⟨r99, h99, E99, P99⟩ := r_isForm_84 (ws0 := ws0) (tb := tb) hws htb ext I46 J47 hI46 (((24 * v7_42) + v8_48)) (24 * v6_36) ((I46 86 (Int.toNat v6_36))) ⟨by omega, by omega⟩ ⟨by omega, by omega⟩ ⟨by omega, by omega⟩ (by omega)
                    obtain ⟨rfl, ⟨z99, rfl, q99⟩⟩ := P99
                    refine gv_callV hD rfl (As := [.inl ((24 * v7_42) + v8_48), .inr (.inr (some 84)), .inl (24 * v6_36), .inl (I46 86 (Int.toNat v6_36))]) (st := []) rfl (by decide) rfl rfl (gr_lV hws rfl) (Nat.le_of_ble_eq_true rfl) (gz_Ev_mono (d := 1) (by decide) E99) ?_
                    show gv_X _ _ (174, [(0, .inr (.inr (some 0))), (1, .inl a1), (2, .inl a2), (4, .inl v4_12), (5, .inl v5_48), (6, .inl v6_36), (7, .inl v7_42), (8, .inl v8_48)], [.inl z99], gr_sh ++ ext, gr_h I46 J47)
                    refine gv_if_ne (t := 180) hD rfl rfl ⟨by omega, by omega⟩ (fun c100 => ?_) (fun c100 => ?_)
                    · refine gv_run 2 true hD (pc' := 183) (lv' := [(9, .inl 0), (0, .inr (.inr (some 0))), (1, .inl a1), (2, .inl a2), (4, .inl v4_12), (5, .inl v5_48), (6, .inl v6_36), (7, .inl v7_42), (8, .inl v8_48)]) (st' := []) (h' := gr_h I46 J47) (C := ((True ∧ True) ∧ True)) rfl ⟨⟨trivial, trivial⟩, trivial⟩ ?_
                      refine gv_pick [1, 2, 3, 4, 5, 6, 7, 8, 0] rfl ?_
                      exact L183 _ I46 J47 v5_48 0 (Nat.lt_succ_self _) hI46 FI46 FJ47 KGR_I46 KFV_I46 (by omega)
                    · refine gv_run 1 true hD (pc' := 297) (lv' := [(0, .inr (.inr (some 0))), (1, .inl a1), (2, .inl a2), (4, .inl v4_12), (5, .inl v5_48), (6, .inl v6_36), (7, .inl v7_42), (8, .inl v8_48)]) (st' := []) (h' := gr_h I46 J47) (C := (True ∧ True)) rfl ⟨trivial, trivial⟩ ?_
                      exact L297 I46 J47 v5_48 hI46 FI46 FJ47 KGR_I46 KFV_I46 (by omega)
              have f101 := (show 0 ≤ I40 18 (Int.toNat a1) ∧ I40 18 (Int.toNat a1) ≤ 64 from (hI40 18 (Int.toNat a1)).1)
              refine gv_run 5 true hD (pc' := 128) (lv' := [(0, .inr (.inr (some 0))), (1, .inl a1), (2, .inl a2), (4, .inl v4_12), (5, .inl v5_42), (6, .inl v6_36), (7, .inl v7_42)]) (st' := [.inl (I40 18 (Int.toNat a1)), .inl v7_42]) (h' := gr_h I40 J41) (C := (((((True ∧ True) ∧ True) ∧ True) ∧ True) ∧ (0 ≤ a1 ∧ a1 < ((8 : Nat) : Int)))) rfl ⟨⟨⟨⟨⟨trivial, trivial⟩, trivial⟩, trivial⟩, trivial⟩, ⟨by omega, by omega⟩⟩ ?_
              refine gv_icmp_ge (t := 309) hD rfl rfl ⟨⟨by omega, by omega⟩, ⟨by omega, by omega⟩⟩ (fun c102 => ?_) (fun c102 => ?_)
              · refine gv_run 7 true hD (pc' := 321) (lv' := [(0, .inr (.inr (some 0))), (1, .inl a1), (2, .inl a2), (4, .inl v4_12), (5, .inl v5_42), (6, .inl v6_36), (7, .inl v7_42)]) (st' := [.inl (24 * v6_36), .inr (.inr (some 84)), .inl v6_36, .inr (.inr (some 0))]) (h' := gr_h I40 J41) (C := (((((((True ∧ True) ∧ True) ∧ True) ∧ True) ∧ True) ∧ True) ∧ True)) rfl ⟨⟨⟨⟨⟨⟨⟨trivial, trivial⟩, trivial⟩, trivial⟩, trivial⟩, trivial⟩, trivial⟩, trivial⟩ ?_
                have f103 := (show 0 ≤ I40 86 (Int.toNat v6_36) ∧ I40 86 (Int.toNat v6_36) ≤ 24 from (hI40 86 (Int.toNat v6_36)).1)
                refine gv_run 4 true hD (pc' := 328) (lv' := [(0, .inr (.inr (some 0))), (1, .inl a1), (2, .inl a2), (4, .inl v4_12), (5, .inl v5_42), (6, .inl v6_36), (7, .inl v7_42)]) (st' := [.inl (I40 86 (Int.toNat v6_36)), .inl (24 * v6_36), .inr (.inr (some 84)), .inl v6_36, .inr (.inr (some 0))]) (h' := gr_h I40 J41) (C := ((((True ∧ True) ∧ True) ∧ True) ∧ (0 ≤ v6_36 ∧ v6_36 < ((24 : Nat) : Int)))) rfl ⟨⟨⟨⟨trivial, trivial⟩, trivial⟩, trivial⟩, ⟨by omega, by omega⟩⟩ ?_
                obtain ⟨r104, h104, E104, P104⟩ := r_word__84 (ws0 := ws0) (tb := tb) hws htb ext I40 J41 hI40 v6_36 (24 * v6_36) ((I40 86 (Int.toNat v6_36))) ⟨by omega, by omega⟩ ⟨by omega, by omega⟩ ⟨by omega, by omega⟩ (by omega)
                obtain ⟨I105, J106, rfl, hI105, g104, k104, rfl⟩ := P104
                have FI105 := gr_frt FI40 g104 rfl rfl
                have FJ106 := gr_fjt FJ41 k104 rfl rfl
                have t107 := g104 0 143 rfl
                have t108 := g104 0 177 rfl
                have t109 := g104 0 186 rfl
                have f110 := (show 0 ≤ I105 0 143 ∧ I105 0 143 ≤ 24 from (hI105 0 143).1)
                have f111 := (show (-1) ≤ I105 0 177 ∧ I105 0 177 ≤ 2999 from (hI105 0 177).1)
                have f112 := (show 0 ≤ I105 0 186 ∧ I105 0 186 ≤ 16 from (hI105 0 186).1)
                have KGR_I105 := gr_GR_fr KGR_I40 (fun k => g104 19 k rfl) (fun k => g104 18 k rfl) (fun k => g104 36 k rfl) (fun k => g104 41 k rfl) (fun k => g104 42 k rfl) (fun k => g104 43 k rfl) (fun k => g104 45 k rfl) (fun k => g104 46 k rfl) (fun k => g104 47 k rfl) (fun k => g104 6 k rfl) (fun k => g104 7 k rfl) (fun k => g104 8 k rfl) (g104 0 3 rfl)
                have KFV_I105 := gr_FV_fr KFV_I40 (fun k => g104 87 k rfl) (fun k => g104 88 k rfl) (fun k => g104 104 k rfl) (fun k => g104 90 k rfl) (fun k => g104 91 k rfl) (fun k => g104 92 k rfl) (fun k => g104 94 k rfl) (fun k => g104 95 k rfl) (fun k => g104 97 k rfl) (fun k => g104 98 k rfl) (fun k => g104 19 k rfl) (fun k => g104 18 k rfl) (fun k => g104 41 k rfl) (fun k => g104 6 k rfl) (fun k => g104 99 k rfl) (fun k => g104 105 k rfl) (fun k => g104 107 k rfl) (fun k => g104 108 k rfl) (fun k => g104 110 k rfl) (fun k => g104 111 k rfl) (g104 0 157 rfl) (g104 0 158 rfl) (g104 0 177 rfl) (g104 0 186 rfl) (g104 0 159 rfl) hI40
                refine gv_callV hD rfl (As := [.inl v6_36, .inr (.inr (some 84)), .inl (24 * v6_36), .inl (I40 86 (Int.toNat v6_36))]) (st := []) rfl (by decide) rfl rfl (gr_lV hws rfl) (Nat.le_of_ble_eq_true rfl) (gz_Ev_mono (d := 1) (by decide) E104) ?_
                show gv_X _ _ (331, [(0, .inr (.inr (some 0))), (1, .inl a1), (2, .inl a2), (4, .inl v4_12), (5, .inl v5_42), (6, .inl v6_36), (7, .inl v7_42)], [], gr_sh ++ ext, gr_h I105 J106)
                refine gv_run 2 true hD (pc' := 110) (lv' := [(6, .inl (v6_36 + 1)), (0, .inr (.inr (some 0))), (1, .inl a1), (2, .inl a2), (4, .inl v4_12), (5, .inl v5_42), (7, .inl v7_42)]) (st' := []) (h' := gr_h I105 J106) (C := ((True ∧ True) ∧ True)) rfl ⟨⟨trivial, trivial⟩, trivial⟩ ?_
                refine gv_pick [1, 2, 3, 4, 5, 0] rfl ?_
                exact ih110 I105 J106 v5_42 (v6_36 + 1) (by omega) hI105 FI105 FJ106 KGR_I105 KFV_I105 (by omega)
              · refine gv_run 2 true hD (pc' := 134) (lv' := [(8, .inl 0), (0, .inr (.inr (some 0))), (1, .inl a1), (2, .inl a2), (4, .inl v4_12), (5, .inl v5_42), (6, .inl v6_36), (7, .inl v7_42)]) (st' := []) (h' := gr_h I40 J41) (C := ((True ∧ True) ∧ True)) rfl ⟨⟨trivial, trivial⟩, trivial⟩ ?_
                refine gv_pick [1, 2, 3, 4, 5, 6, 7, 0] rfl ?_
                exact L134 _ I40 J41 v5_42 0 (Nat.lt_succ_self _) hI40 FI40 FJ41 KGR_I40 KFV_I40 (by omega)
          have L340 : ∀ (n : Nat) (I113 : gr_I) (J114 : gr_J) (v5_115 : Int) (v6_115 : Int), (1001 - v5_115).toNat < n → gr_Inv I113 → gr_fr [126, 127, 128, 143, 157, 158, 159, 160, 161, 166, 167, 168, 169, 170, 177, 179, 180, 181, 186] [51, 76, 77, 78, 79, 83, 84, 85, 86, 87, 88, 89, 90, 91, 92, 93, 94, 95, 96, 97, 98, 99, 100, 101, 103, 104, 105, 106, 107, 108, 109, 110, 111, 112] I I113 → gr_fj [126, 127, 128, 143, 157, 158, 159, 160, 161, 166, 167, 168, 169, 170, 177, 179, 180, 181, 186] [51, 76, 77, 78, 79, 83, 84, 85, 86, 87, 88, 89, 90, 91, 92, 93, 94, 95, 96, 97, 98, 99, 100, 101, 103, 104, 105, 106, 107, 108, 109, 110, 111, 112] J J114 → gr_GR I113 → gr_FV I113 → ((0 ≤ a1 ∧ a1 ≤ 7) ∧ (0 ≤ a2 ∧ a2 ≤ 31) ∧ (0 ≤ v4_12 ∧ v4_12 ≤ 12) ∧ (0 ≤ v5_115 ∧ v5_115 ≤ 1000) ∧ (0 ≤ v6_115 ∧ v6_115 ≤ 12)) → gv_X (gr_E ws0 tb 12 (yX13_mended, cX13_mended, 11, (some .int)) kX13_mended) (gv_Q cX13_mended (some .int) (gr_sh ++ ext) (fun r h' => (∃ (I' : gr_I) (J' : gr_J), h' = gr_h I' J' ∧ gr_Inv I' ∧ gr_fr [126, 127, 128, 143, 157, 158, 159, 160, 161, 166, 167, 168, 169, 170, 177, 179, 180, 181, 186] [51, 76, 77, 78, 79, 83, 84, 85, 86, 87, 88, 89, 90, 91, 92, 93, 94, 95, 96, 97, 98, 99, 100, 101, 103, 104, 105, 106, 107, 108, 109, 110, 111, 112] I I' ∧ gr_fj [126, 127, 128, 143, 157, 158, 159, 160, 161, 166, 167, 168, 169, 170, 177, 179, 180, 181, 186] [51, 76, 77, 78, 79, 83, 84, 85, 86, 87, 88, 89, 90, 91, 92, 93, 94, 95, 96, 97, 98, 99, 100, 101, 103, 104, 105, 106, 107, 108, 109, 110, 111, 112] J J' ∧ gr_GR I' ∧ gr_FV I' ∧ (∃ z : Int, r = some (.inl z) ∧ (-1) ≤ z ∧ z ≤ 3)))) (340, [(0, .inr (.inr (some 0))), (1, .inl a1), (2, .inl a2), (4, .inl v4_12), (5, .inl v5_115), (6, .inl v6_115)], [], gr_sh ++ ext, gr_h I113 J114) := by
            intro n
            induction n with
            | zero => intro I113 J114 v5_115 v6_115 hn; omega
            | succ n ih340 =>
              intro I113 J114 v5_115 v6_115 hn hI113 FI113 FJ114 KGR_I113 KFV_I113 m_115
              clear ha1_36 ha2_36 hv4_12_36 hv5_36 hv6_36 f37 f38 f39
              obtain ⟨ha1_115, ha2_115, hv4_12_115, hv5_115, hv6_115⟩ := m_115
              have f116 := (show 0 ≤ I113 0 143 ∧ I113 0 143 ≤ 24 from (hI113 0 143).1)
              have f117 := (show (-1) ≤ I113 0 177 ∧ I113 0 177 ≤ 2999 from (hI113 0 177).1)
              have f118 := (show 0 ≤ I113 0 186 ∧ I113 0 186 ≤ 16 from (hI113 0 186).1)
              have L432 : ∀ (I119 : gr_I) (J120 : gr_J) (s0_121 : Int), gr_Inv I119 → gr_fr [126, 127, 128, 143, 157, 158, 159, 160, 161, 166, 167, 168, 169, 170, 177, 179, 180, 181, 186] [51, 76, 77, 78, 79, 83, 84, 85, 86, 87, 88, 89, 90, 91, 92, 93, 94, 95, 96, 97, 98, 99, 100, 101, 103, 104, 105, 106, 107, 108, 109, 110, 111, 112] I I119 → gr_fj [126, 127, 128, 143, 157, 158, 159, 160, 161, 166, 167, 168, 169, 170, 177, 179, 180, 181, 186] [51, 76, 77, 78, 79, 83, 84, 85, 86, 87, 88, 89, 90, 91, 92, 93, 94, 95, 96, 97, 98, 99, 100, 101, 103, 104, 105, 106, 107, 108, 109, 110, 111, 112] J J120 → gr_GR I119 → gr_FV I119 → (((-1) ≤ s0_121 ∧ s0_121 ≤ 2)) → gv_X (gr_E ws0 tb 12 (yX13_mended, cX13_mended, 11, (some .int)) kX13_mended) (gv_Q cX13_mended (some .int) (gr_sh ++ ext) (fun r h' => (∃ (I' : gr_I) (J' : gr_J), h' = gr_h I' J' ∧ gr_Inv I' ∧ gr_fr [126, 127, 128, 143, 157, 158, 159, 160, 161, 166, 167, 168, 169, 170, 177, 179, 180, 181, 186] [51, 76, 77, 78, 79, 83, 84, 85, 86, 87, 88, 89, 90, 91, 92, 93, 94, 95, 96, 97, 98, 99, 100, 101, 103, 104, 105, 106, 107, 108, 109, 110, 111, 112] I I' ∧ gr_fj [126, 127, 128, 143, 157, 158, 159, 160, 161, 166, 167, 168, 169, 170, 177, 179, 180, 181, 186] [51, 76, 77, 78, 79, 83, 84, 85, 86, 87, 88, 89, 90, 91, 92, 93, 94, 95, 96, 97, 98, 99, 100, 101, 103, 104, 105, 106, 107, 108, 109, 110, 111, 112] J J' ∧ gr_GR I' ∧ gr_FV I' ∧ (∃ z : Int, r = some (.inl z) ∧ (-1) ≤ z ∧ z ≤ 3)))) (432, [], [.inl s0_121], gr_sh ++ ext, gr_h I119 J120) := by
                intro I119 J120 s0_121 hI119 FI119 FJ120 KGR_I119 KFV_I119 m_121
                clear ha1_115 ha2_115 hv4_12_115 hv5_115 hv6_115 f116 f117 f118
                have hs0_121 := m_121
                have f122 := (show 0 ≤ I119 0 143 ∧ I119 0 143 ≤ 24 from (hI119 0 143).1)
                have f123 := (show (-1) ≤ I119 0 177 ∧ I119 0 177 ≤ 2999 from (hI119 0 177).1)
                have f124 := (show 0 ≤ I119 0 186 ∧ I119 0 186 ≤ 16 from (hI119 0 186).1)
                exact gv_iret hD rfl ⟨I119, J120, rfl, hI119, FI119, FJ120, KGR_I119, KFV_I119, ⟨_, rfl, by omega⟩⟩
              have L492 : ∀ (n : Nat) (I125 : gr_I) (J126 : gr_J) (v5_127 : Int) (v6_127 : Int), (1001 - v5_127).toNat < n → gr_Inv I125 → gr_fr [126, 127, 128, 143, 157, 158, 159, 160, 161, 166, 167, 168, 169, 170, 177, 179, 180, 181, 186] [51, 76, 77, 78, 79, 83, 84, 85, 86, 87, 88, 89, 90, 91, 92, 93, 94, 95, 96, 97, 98, 99, 100, 101, 103, 104, 105, 106, 107, 108, 109, 110, 111, 112] I I125 → gr_fj [126, 127, 128, 143, 157, 158, 159, 160, 161, 166, 167, 168, 169, 170, 177, 179, 180, 181, 186] [51, 76, 77, 78, 79, 83, 84, 85, 86, 87, 88, 89, 90, 91, 92, 93, 94, 95, 96, 97, 98, 99, 100, 101, 103, 104, 105, 106, 107, 108, 109, 110, 111, 112] J J126 → gr_GR I125 → gr_FV I125 → ((0 ≤ a1 ∧ a1 ≤ 7) ∧ (0 ≤ a2 ∧ a2 ≤ 31) ∧ (0 ≤ v4_12 ∧ v4_12 ≤ 12) ∧ (0 ≤ v5_127 ∧ v5_127 ≤ 1000) ∧ (0 ≤ v6_127 ∧ v6_127 ≤ 12)) → gv_X (gr_E ws0 tb 12 (yX13_mended, cX13_mended, 11, (some .int)) kX13_mended) (gv_Q cX13_mended (some .int) (gr_sh ++ ext) (fun r h' => (∃ (I' : gr_I) (J' : gr_J), h' = gr_h I' J' ∧ gr_Inv I' ∧ gr_fr [126, 127, 128, 143, 157, 158, 159, 160, 161, 166, 167, 168, 169, 170, 177, 179, 180, 181, 186] [51, 76, 77, 78, 79, 83, 84, 85, 86, 87, 88, 89, 90, 91, 92, 93, 94, 95, 96, 97, 98, 99, 100, 101, 103, 104, 105, 106, 107, 108, 109, 110, 111, 112] I I' ∧ gr_fj [126, 127, 128, 143, 157, 158, 159, 160, 161, 166, 167, 168, 169, 170, 177, 179, 180, 181, 186] [51, 76, 77, 78, 79, 83, 84, 85, 86, 87, 88, 89, 90, 91, 92, 93, 94, 95, 96, 97, 98, 99, 100, 101, 103, 104, 105, 106, 107, 108, 109, 110, 111, 112] J J' ∧ gr_GR I' ∧ gr_FV I' ∧ (∃ z : Int, r = some (.inl z) ∧ (-1) ≤ z ∧ z ≤ 3)))) (492, [(0, .inr (.inr (some 0))), (1, .inl a1), (2, .inl a2), (4, .inl v4_12), (5, .inl v5_127), (6, .inl v6_127)], [], gr_sh ++ ext, gr_h I125 J126) := by
                intro n
                induction n with
                | zero => intro I125 J126 v5_127 v6_127 hn; omega
                | succ n ih492 =>
                  intro I125 J126 v5_127 v6_127 hn hI125 FI125 FJ126 KGR_I125 KFV_I125 m_127
                  clear ha1_115 ha2_115 hv4_12_115 hv5_115 hv6_115 f116 f117 f118
                  obtain ⟨ha1_127, ha2_127, hv4_12_127, hv5_127, hv6_127⟩ := m_127
                  have f128 := (show 0 ≤ I125 0 143 ∧ I125 0 143 ≤ 24 from (hI125 0 143).1)
                  have f129 := (show (-1) ≤ I125 0 177 ∧ I125 0 177 ≤ 2999 from (hI125 0 177).1)
                  have f130 := (show 0 ≤ I125 0 186 ∧ I125 0 186 ≤ 16 from (hI125 0 186).1)
                  have L546 : ∀ (I131 : gr_I) (J132 : gr_J) (s0_133 : Int), gr_Inv I131 → gr_fr [126, 127, 128, 143, 157, 158, 159, 160, 161, 166, 167, 168, 169, 170, 177, 179, 180, 181, 186] [51, 76, 77, 78, 79, 83, 84, 85, 86, 87, 88, 89, 90, 91, 92, 93, 94, 95, 96, 97, 98, 99, 100, 101, 103, 104, 105, 106, 107, 108, 109, 110, 111, 112] I I131 → gr_fj [126, 127, 128, 143, 157, 158, 159, 160, 161, 166, 167, 168, 169, 170, 177, 179, 180, 181, 186] [51, 76, 77, 78, 79, 83, 84, 85, 86, 87, 88, 89, 90, 91, 92, 93, 94, 95, 96, 97, 98, 99, 100, 101, 103, 104, 105, 106, 107, 108, 109, 110, 111, 112] J J132 → gr_GR I131 → gr_FV I131 → (((-1) ≤ s0_133 ∧ s0_133 ≤ 3)) → gv_X (gr_E ws0 tb 12 (yX13_mended, cX13_mended, 11, (some .int)) kX13_mended) (gv_Q cX13_mended (some .int) (gr_sh ++ ext) (fun r h' => (∃ (I' : gr_I) (J' : gr_J), h' = gr_h I' J' ∧ gr_Inv I' ∧ gr_fr [126, 127, 128, 143, 157, 158, 159, 160, 161, 166, 167, 168, 169, 170, 177, 179, 180, 181, 186] [51, 76, 77, 78, 79, 83, 84, 85, 86, 87, 88, 89, 90, 91, 92, 93, 94, 95, 96, 97, 98, 99, 100, 101, 103, 104, 105, 106, 107, 108, 109, 110, 111, 112] I I' ∧ gr_fj [126, 127, 128, 143, 157, 158, 159, 160, 161, 166, 167, 168, 169, 170, 177, 179, 180, 181, 186] [51, 76, 77, 78, 79, 83, 84, 85, 86, 87, 88, 89, 90, 91, 92, 93, 94, 95, 96, 97, 98, 99, 100, 101, 103, 104, 105, 106, 107, 108, 109, 110, 111, 112] J J' ∧ gr_GR I' ∧ gr_FV I' ∧ (∃ z : Int, r = some (.inl z) ∧ (-1) ≤ z ∧ z ≤ 3)))) (546, [], [.inl s0_133], gr_sh ++ ext, gr_h I131 J132) := by
                    intro I131 J132 s0_133 hI131 FI131 FJ132 KGR_I131 KFV_I131 m_133
                    clear ha1_127 ha2_127 hv4_12_127 hv5_127 hv6_127 f128 f129 f130
                    have hs0_133 := m_133
                    have f134 := (show 0 ≤ I131 0 143 ∧ I131 0 143 ≤ 24 from (hI131 0 143).1)
                    have f135 := (show (-1) ≤ I131 0 177 ∧ I131 0 177 ≤ 2999 from (hI131 0 177).1)
                    have f136 := (show 0 ≤ I131 0 186 ∧ I131 0 186 ≤ 16 from (hI131 0 186).1)
                    exact gv_iret hD rfl ⟨I131, J132, rfl, hI131, FI131, FJ132, KGR_I131, KFV_I131, ⟨_, rfl, by omega⟩⟩
                  have L553 : gv_X (gr_E ws0 tb 12 (yX13_mended, cX13_mended, 11, (some .int)) kX13_mended) (gv_Q cX13_mended (some .int) (gr_sh ++ ext) (fun r h' => (∃ (I' : gr_I) (J' : gr_J), h' = gr_h I' J' ∧ gr_Inv I' ∧ gr_fr [126, 127, 128, 143, 157, 158, 159, 160, 161, 166, 167, 168, 169, 170, 177, 179, 180, 181, 186] [51, 76, 77, 78, 79, 83, 84, 85, 86, 87, 88, 89, 90, 91, 92, 93, 94, 95, 96, 97, 98, 99, 100, 101, 103, 104, 105, 106, 107, 108, 109, 110, 111, 112] I I' ∧ gr_fj [126, 127, 128, 143, 157, 158, 159, 160, 161, 166, 167, 168, 169, 170, 177, 179, 180, 181, 186] [51, 76, 77, 78, 79, 83, 84, 85, 86, 87, 88, 89, 90, 91, 92, 93, 94, 95, 96, 97, 98, 99, 100, 101, 103, 104, 105, 106, 107, 108, 109, 110, 111, 112] J J' ∧ gr_GR I' ∧ gr_FV I' ∧ (∃ z : Int, r = some (.inl z) ∧ (-1) ≤ z ∧ z ≤ 3)))) (553, [], [], gr_sh ++ ext, gr_h I125 J126) := by
                    have f138 := (show 0 ≤ I125 0 143 ∧ I125 0 143 ≤ 24 from (hI125 0 143).1)
                    have f139 := (show (-1) ≤ I125 0 177 ∧ I125 0 177 ≤ 2999 from (hI125 0 177).1)
                    have f140 := (show 0 ≤ I125 0 186 ∧ I125 0 186 ≤ 16 from (hI125 0 186).1)
                    refine gv_run 1 true hD (pc' := 554) (lv' := []) (st' := [.inl (-1)]) (h' := gr_h I125 J126) (C := (True ∧ True)) rfl ⟨trivial, trivial⟩ ?_
                    exact gv_iret hD rfl ⟨I125, J126, rfl, hI125, FI125, FJ126, KGR_I125, KFV_I125, ⟨_, rfl, by omega⟩⟩
                  refine gv_run 2 true hD (pc' := 496) (lv' := [(0, .inr (.inr (some 0))), (1, .inl a1), (2, .inl a2), (4, .inl v4_12), (5, .inl v5_127), (6, .inl v6_127)]) (st' := [.inl v4_12, .inl v6_127]) (h' := gr_h I125 J126) (C := ((True ∧ True) ∧ True)) rfl ⟨⟨trivial, trivial⟩, trivial⟩ ?_
                  refine gv_icmp_ge (t := 553) hD rfl rfl ⟨⟨by omega, by omega⟩, ⟨by omega, by omega⟩⟩ (fun c141 => ?_) (fun c141 => ?_)
                  · refine gv_pick [] rfl ?_
                    exact L553 
                  · refine gv_run 2 true hD (pc' := 502) (lv' := [(0, .inr (.inr (some 0))), (1, .inl a1), (2, .inl a2), (4, .inl v4_12), (5, .inl v5_127), (6, .inl v6_127)]) (st' := [.inl 1, .inl v4_12]) (h' := gr_h I125 J126) (C := ((True ∧ True) ∧ True)) rfl ⟨⟨trivial, trivial⟩, trivial⟩ ?_
                    refine gv_icmp_le (t := 553) hD rfl rfl ⟨⟨by omega, by omega⟩, ⟨by omega, by omega⟩⟩ (fun c142 => ?_) (fun c142 => ?_)
                    · refine gv_pick [] rfl ?_
                      exact L553 
                    · refine gv_run 3 true hD (pc' := 510) (lv' := [(0, .inr (.inr (some 0))), (1, .inl a1), (2, .inl a2), (4, .inl v4_12), (5, .inl v5_127), (6, .inl v6_127)]) (st' := [.inl v6_127, .inl v4_12, .inr (.inr (some 0))]) (h' := gr_h I125 J126) (C := (((True ∧ True) ∧ True) ∧ True)) rfl ⟨⟨⟨trivial, trivial⟩, trivial⟩, trivial⟩ ?_
                      obtain ⟨r143, h143, E143, P143⟩ := r_back (ws0 := ws0) (tb := tb) hws htb ext I125 J126 hI125 v4_12 v6_127 ⟨by omega, by omega⟩ ⟨by omega, by omega⟩ 
                      obtain ⟨I144, J145, rfl, hI144, g143, k143, rfl⟩ := P143
                      have FI144 := gr_frt FI125 g143 rfl rfl
                      have FJ145 := gr_fjt FJ126 k143 rfl rfl
                      have t146 := g143 0 177 rfl
                      have t147 := g143 0 186 rfl
                      have f148 := (show 0 ≤ I144 0 143 ∧ I144 0 143 ≤ 24 from (hI144 0 143).1)
                      have f149 := (show (-1) ≤ I144 0 177 ∧ I144 0 177 ≤ 2999 from (hI144 0 177).1)
                      have f150 := (show 0 ≤ I144 0 186 ∧ I144 0 186 ≤ 16 from (hI144 0 186).1)
                      have KGR_I144 := gr_GR_fr KGR_I125 (fun k => g143 19 k rfl) (fun k => g143 18 k rfl) (fun k => g143 36 k rfl) (fun k => g143 41 k rfl) (fun k => g143 42 k rfl) (fun k => g143 43 k rfl) (fun k => g143 45 k rfl) (fun k => g143 46 k rfl) (fun k => g143 47 k rfl) (fun k => g143 6 k rfl) (fun k => g143 7 k rfl) (fun k => g143 8 k rfl) (g143 0 3 rfl)
                      have KFV_I144 := gr_FV_fr KFV_I125 (fun k => g143 87 k rfl) (fun k => g143 88 k rfl) (fun k => g143 104 k rfl) (fun k => g143 90 k rfl) (fun k => g143 91 k rfl) (fun k => g143 92 k rfl) (fun k => g143 94 k rfl) (fun k => g143 95 k rfl) (fun k => g143 97 k rfl) (fun k => g143 98 k rfl) (fun k => g143 19 k rfl) (fun k => g143 18 k rfl) (fun k => g143 41 k rfl) (fun k => g143 6 k rfl) (fun k => g143 99 k rfl) (fun k => g143 105 k rfl) (fun k => g143 107 k rfl) (fun k => g143 108 k rfl) (fun k => g143 110 k rfl) (fun k => g143 111 k rfl) (g143 0 157 rfl) (g143 0 158 rfl) (g143 0 177 rfl) (g143 0 186 rfl) (g143 0 159 rfl) hI125
                      refine gv_callV hD rfl (As := [.inl v4_12, .inl v6_127]) (st := []) rfl (by decide) rfl rfl (gr_lV hws rfl) (Nat.le_of_ble_eq_true rfl) (gz_Ev_mono (d := 1) (by decide) E143) ?_
                      show gv_X _ _ (513, [(0, .inr (.inr (some 0))), (1, .inl a1), (2, .inl a2), (4, .inl v4_12), (5, .inl v5_127), (6, .inl v6_127)], [], gr_sh ++ ext, gr_h I144 J145)
                      refine gv_run 3 true hD (pc' := 521) (lv' := [(5, .inl (v5_127 + 1)), (0, .inr (.inr (some 0))), (1, .inl a1), (2, .inl a2), (4, .inl v4_12), (6, .inl v6_127)]) (st' := [.inl 1000, .inl (v5_127 + 1)]) (h' := gr_h I144 J145) (C := (((True ∧ True) ∧ True) ∧ True)) rfl ⟨⟨⟨trivial, trivial⟩, trivial⟩, trivial⟩ ?_
                      refine gv_icmp_le (t := 526) hD rfl rfl ⟨⟨by omega, by omega⟩, ⟨by omega, by omega⟩⟩ (fun c151 => ?_) (fun c151 => ?_)
                      · refine gv_run 3 true hD (pc' := 529) (lv' := [(5, .inl (v5_127 + 1)), (0, .inr (.inr (some 0))), (1, .inl a1), (2, .inl a2), (4, .inl v4_12), (6, .inl v6_127)]) (st' := [.inl a2, .inl a1, .inr (.inr (some 0))]) (h' := gr_h I144 J145) (C := (((True ∧ True) ∧ True) ∧ True)) rfl ⟨⟨⟨trivial, trivial⟩, trivial⟩, trivial⟩ ?_
                        obtain ⟨r152, h152, E152, P152⟩ := r_parsed (ws0 := ws0) (tb := tb) hws htb ext I144 J145 hI144 a1 a2 ⟨by omega, by omega⟩ ⟨by omega, by omega⟩ KGR_I144
                        obtain ⟨I153, J154, rfl, hI153, g152, k152, KGR_I153, ⟨z152, rfl, q152⟩⟩ := P152
                        have FI153 := gr_frt FI144 g152 rfl rfl
                        have FJ154 := gr_fjt FJ145 k152 rfl rfl
                        have t155 := g152 0 143 rfl
                        have f156 := (show 0 ≤ I153 0 143 ∧ I153 0 143 ≤ 24 from (hI153 0 143).1)
                        have f157 := (show (-1) ≤ I153 0 177 ∧ I153 0 177 ≤ 2999 from (hI153 0 177).1)
                        have f158 := (show 0 ≤ I153 0 186 ∧ I153 0 186 ≤ 16 from (hI153 0 186).1)
                        have KFV_I153 : gr_FV I153 := q152.2.2
                        refine gv_callV hD rfl (As := [.inl a1, .inl a2]) (st := []) rfl (by decide) rfl rfl (gr_lV hws rfl) (Nat.le_of_ble_eq_true rfl) (gz_Ev_mono (d := 12) (by decide) E152) ?_
                        show gv_X _ _ (532, [(5, .inl (v5_127 + 1)), (0, .inr (.inr (some 0))), (1, .inl a1), (2, .inl a2), (4, .inl v4_12), (6, .inl v6_127)], [.inl z152], gr_sh ++ ext, gr_h I153 J154)
                        refine gv_run 2 true hD (pc' := 534) (lv' := [(3, .inl z152), (5, .inl (v5_127 + 1)), (0, .inr (.inr (some 0))), (1, .inl a1), (2, .inl a2), (4, .inl v4_12), (6, .inl v6_127)]) (st' := [.inl z152]) (h' := gr_h I153 J154) (C := ((True ∧ True) ∧ True)) rfl ⟨⟨trivial, trivial⟩, trivial⟩ ?_
                        refine gv_if_eq (t := 547) hD rfl rfl ⟨by omega, by omega⟩ (fun c159 => ?_) (fun c159 => ?_)
                        · refine gv_run 2 true hD (pc' := 492) (lv' := [(6, .inl (v6_127 + 1)), (3, .inl z152), (5, .inl (v5_127 + 1)), (0, .inr (.inr (some 0))), (1, .inl a1), (2, .inl a2), (4, .inl v4_12)]) (st' := []) (h' := gr_h I153 J154) (C := ((True ∧ True) ∧ True)) rfl ⟨⟨trivial, trivial⟩, trivial⟩ ?_
                          refine gv_pick [3, 4, 5, 6, 2, 0] rfl ?_
                          exact ih492 I153 J154 (v5_127 + 1) (v6_127 + 1) (by omega) hI153 FI153 FJ154 KGR_I153 KFV_I153 (by omega)
                        · refine gv_run 1 true hD (pc' := 538) (lv' := [(3, .inl z152), (5, .inl (v5_127 + 1)), (0, .inr (.inr (some 0))), (1, .inl a1), (2, .inl a2), (4, .inl v4_12), (6, .inl v6_127)]) (st' := [.inl z152]) (h' := gr_h I153 J154) (C := (True ∧ True)) rfl ⟨trivial, trivial⟩ ?_
                          refine gv_if_le (t := 545) hD rfl rfl ⟨by omega, by omega⟩ (fun c160 => ?_) (fun c160 => ?_)
                          · refine gv_run 1 true hD (pc' := 546) (lv' := [(3, .inl z152), (5, .inl (v5_127 + 1)), (0, .inr (.inr (some 0))), (1, .inl a1), (2, .inl a2), (4, .inl v4_12), (6, .inl v6_127)]) (st' := [.inl (-1)]) (h' := gr_h I153 J154) (C := (True ∧ True)) rfl ⟨trivial, trivial⟩ ?_
                            refine gv_pick [] rfl ?_
                            exact L546 I153 J154 (-1) hI153 FI153 FJ154 KGR_I153 KFV_I153 (by omega)
                          · refine gv_run 2 true hD (pc' := 546) (lv' := [(3, .inl z152), (5, .inl (v5_127 + 1)), (0, .inr (.inr (some 0))), (1, .inl a1), (2, .inl a2), (4, .inl v4_12), (6, .inl v6_127)]) (st' := [.inl 3]) (h' := gr_h I153 J154) (C := ((True ∧ True) ∧ True)) rfl ⟨⟨trivial, trivial⟩, trivial⟩ ?_
                            refine gv_pick [] rfl ?_
                            exact L546 I153 J154 3 hI153 FI153 FJ154 KGR_I153 KFV_I153 (by omega)
                      · refine gv_run 1 true hD (pc' := 525) (lv' := [(5, .inl (v5_127 + 1)), (0, .inr (.inr (some 0))), (1, .inl a1), (2, .inl a2), (4, .inl v4_12), (6, .inl v6_127)]) (st' := [.inl (-1)]) (h' := gr_h I144 J145) (C := (True ∧ True)) rfl ⟨trivial, trivial⟩ ?_
                        exact gv_iret hD rfl ⟨I144, J145, rfl, hI144, FI144, FJ145, KGR_I144, KFV_I144, ⟨_, rfl, by omega⟩⟩
              refine gv_run 4 true hD (pc' := 346) (lv' := [(0, .inr (.inr (some 0))), (1, .inl a1), (2, .inl a2), (4, .inl v4_12), (5, .inl v5_115), (6, .inl v6_115)]) (st' := [.inl v4_12, .inl (v6_115 + 1)]) (h' := gr_h I113 J114) (C := ((((True ∧ True) ∧ True) ∧ True) ∧ True)) rfl ⟨⟨⟨⟨trivial, trivial⟩, trivial⟩, trivial⟩, trivial⟩ ?_
              refine gv_icmp_ge (t := 489) hD rfl rfl ⟨⟨by omega, by omega⟩, ⟨by omega, by omega⟩⟩ (fun c161 => ?_) (fun c161 => ?_)
              · refine gv_run 2 true hD (pc' := 492) (lv' := [(6, .inl 0), (0, .inr (.inr (some 0))), (1, .inl a1), (2, .inl a2), (4, .inl v4_12), (5, .inl v5_115)]) (st' := []) (h' := gr_h I113 J114) (C := ((True ∧ True) ∧ True)) rfl ⟨⟨trivial, trivial⟩, trivial⟩ ?_
                refine gv_pick [1, 2, 3, 4, 5, 0] rfl ?_
                exact L492 _ I113 J114 v5_115 0 (Nat.lt_succ_self _) hI113 FI113 FJ114 KGR_I113 KFV_I113 (by omega)
              · refine gv_run 7 true hD (pc' := 361) (lv' := [(0, .inr (.inr (some 0))), (1, .inl a1), (2, .inl a2), (4, .inl v4_12), (5, .inl v5_115), (6, .inl v6_115)]) (st' := [.inl 1, .inl v6_115, .inl 24, .inr (.inr (some 84)), .inl v6_115, .inr (.inr (some 0))]) (h' := gr_h I113 J114) (C := (((((((True ∧ True) ∧ True) ∧ True) ∧ True) ∧ True) ∧ True) ∧ True)) rfl ⟨⟨⟨⟨⟨⟨⟨trivial, trivial⟩, trivial⟩, trivial⟩, trivial⟩, trivial⟩, trivial⟩, trivial⟩ ?_
                refine gv_run 7 true hD (pc' := 371) (lv' := [(0, .inr (.inr (some 0))), (1, .inl a1), (2, .inl a2), (4, .inl v4_12), (5, .inl v5_115), (6, .inl v6_115)]) (st' := [.inl (v6_115 + 1), .inr (.inr (some 86)), .inl (24 * (v6_115 + 1)), .inr (.inr (some 84)), .inl v6_115, .inr (.inr (some 0))]) (h' := gr_h I113 J114) (C := (((((((True ∧ True) ∧ True) ∧ True) ∧ True) ∧ True) ∧ True) ∧ True)) rfl ⟨⟨⟨⟨⟨⟨⟨trivial, trivial⟩, trivial⟩, trivial⟩, trivial⟩, trivial⟩, trivial⟩, trivial⟩ ?_
                have f162 := (show 0 ≤ I113 86 (Int.toNat ((v6_115 + 1))) ∧ I113 86 (Int.toNat ((v6_115 + 1))) ≤ 24 from (hI113 86 (Int.toNat ((v6_115 + 1)))).1)
                refine gv_run 1 true hD (pc' := 372) (lv' := [(0, .inr (.inr (some 0))), (1, .inl a1), (2, .inl a2), (4, .inl v4_12), (5, .inl v5_115), (6, .inl v6_115)]) (st' := [.inl (I113 86 (Int.toNat ((v6_115 + 1)))), .inl (24 * (v6_115 + 1)), .inr (.inr (some 84)), .inl v6_115, .inr (.inr (some 0))]) (h' := gr_h I113 J114) (C := (True ∧ (0 ≤ (v6_115 + 1) ∧ (v6_115 + 1) < ((24 : Nat) : Int)))) rfl ⟨trivial, ⟨by omega, by omega⟩⟩ ?_
                obtain ⟨r163, h163, E163, P163⟩ := r_word__84 (ws0 := ws0) (tb := tb) hws htb ext I113 J114 hI113 v6_115 ((24 * (v6_115 + 1))) ((I113 86 (Int.toNat ((v6_115 + 1))))) ⟨by omega, by omega⟩ ⟨by omega, by omega⟩ ⟨by omega, by omega⟩ (by omega)
                obtain ⟨I164, J165, rfl, hI164, g163, k163, rfl⟩ := P163
                have FI164 := gr_frt FI113 g163 rfl rfl
                have FJ165 := gr_fjt FJ114 k163 rfl rfl
                have t166 := g163 0 143 rfl
                have t167 := g163 0 177 rfl
                have t168 := g163 0 186 rfl
                have f169 := (show 0 ≤ I164 0 143 ∧ I164 0 143 ≤ 24 from (hI164 0 143).1)
                have f170 := (show (-1) ≤ I164 0 177 ∧ I164 0 177 ≤ 2999 from (hI164 0 177).1)
                have f171 := (show 0 ≤ I164 0 186 ∧ I164 0 186 ≤ 16 from (hI164 0 186).1)
                have KGR_I164 := gr_GR_fr KGR_I113 (fun k => g163 19 k rfl) (fun k => g163 18 k rfl) (fun k => g163 36 k rfl) (fun k => g163 41 k rfl) (fun k => g163 42 k rfl) (fun k => g163 43 k rfl) (fun k => g163 45 k rfl) (fun k => g163 46 k rfl) (fun k => g163 47 k rfl) (fun k => g163 6 k rfl) (fun k => g163 7 k rfl) (fun k => g163 8 k rfl) (g163 0 3 rfl)
                have KFV_I164 := gr_FV_fr KFV_I113 (fun k => g163 87 k rfl) (fun k => g163 88 k rfl) (fun k => g163 104 k rfl) (fun k => g163 90 k rfl) (fun k => g163 91 k rfl) (fun k => g163 92 k rfl) (fun k => g163 94 k rfl) (fun k => g163 95 k rfl) (fun k => g163 97 k rfl) (fun k => g163 98 k rfl) (fun k => g163 19 k rfl) (fun k => g163 18 k rfl) (fun k => g163 41 k rfl) (fun k => g163 6 k rfl) (fun k => g163 99 k rfl) (fun k => g163 105 k rfl) (fun k => g163 107 k rfl) (fun k => g163 108 k rfl) (fun k => g163 110 k rfl) (fun k => g163 111 k rfl) (g163 0 157 rfl) (g163 0 158 rfl) (g163 0 177 rfl) (g163 0 186 rfl) (g163 0 159 rfl) hI113
                refine gv_callV hD rfl (As := [.inl v6_115, .inr (.inr (some 84)), .inl (24 * (v6_115 + 1)), .inl (I113 86 (Int.toNat ((v6_115 + 1))))]) (st := []) rfl (by decide) rfl rfl (gr_lV hws rfl) (Nat.le_of_ble_eq_true rfl) (gz_Ev_mono (d := 1) (by decide) E163) ?_
                show gv_X _ _ (375, [(0, .inr (.inr (some 0))), (1, .inl a1), (2, .inl a2), (4, .inl v4_12), (5, .inl v5_115), (6, .inl v6_115)], [], gr_sh ++ ext, gr_h I164 J165)
                refine gv_run 7 true hD (pc' := 386) (lv' := [(0, .inr (.inr (some 0))), (1, .inl a1), (2, .inl a2), (4, .inl v4_12), (5, .inl v5_115), (6, .inl v6_115)]) (st' := [.inl 24, .inr (.inr (some 84)), .inl (v6_115 + 1), .inr (.inr (some 0))]) (h' := gr_h I164 J165) (C := (((((((True ∧ True) ∧ True) ∧ True) ∧ True) ∧ True) ∧ True) ∧ True)) rfl ⟨⟨⟨⟨⟨⟨⟨trivial, trivial⟩, trivial⟩, trivial⟩, trivial⟩, trivial⟩, trivial⟩, trivial⟩ ?_
                have f172 := (show 0 ≤ I164 86 (Int.toNat v6_115) ∧ I164 86 (Int.toNat v6_115) ≤ 24 from (hI164 86 (Int.toNat v6_115)).1)
                refine gv_run 6 true hD (pc' := 396) (lv' := [(0, .inr (.inr (some 0))), (1, .inl a1), (2, .inl a2), (4, .inl v4_12), (5, .inl v5_115), (6, .inl v6_115)]) (st' := [.inl (I164 86 (Int.toNat v6_115)), .inl (24 * v6_115), .inr (.inr (some 84)), .inl (v6_115 + 1), .inr (.inr (some 0))]) (h' := gr_h I164 J165) (C := ((((((True ∧ True) ∧ True) ∧ True) ∧ True) ∧ True) ∧ (0 ≤ v6_115 ∧ v6_115 < ((24 : Nat) : Int)))) rfl ⟨⟨⟨⟨⟨⟨trivial, trivial⟩, trivial⟩, trivial⟩, trivial⟩, trivial⟩, ⟨by omega, by omega⟩⟩ ?_
                obtain ⟨r173, h173, E173, P173⟩ := r_word__84 (ws0 := ws0) (tb := tb) hws htb ext I164 J165 hI164 (v6_115 + 1) (24 * v6_115) ((I164 86 (Int.toNat v6_115))) ⟨by omega, by omega⟩ ⟨by omega, by omega⟩ ⟨by omega, by omega⟩ (by omega)
                obtain ⟨I174, J175, rfl, hI174, g173, k173, rfl⟩ := P173
                have FI174 := gr_frt FI164 g173 rfl rfl
                have FJ175 := gr_fjt FJ165 k173 rfl rfl
                have t176 := g173 0 143 rfl
                have t177 := g173 0 177 rfl
                have t178 := g173 0 186 rfl
                have f179 := (show 0 ≤ I174 0 143 ∧ I174 0 143 ≤ 24 from (hI174 0 143).1)
                have f180 := (show (-1) ≤ I174 0 177 ∧ I174 0 177 ≤ 2999 from (hI174 0 177).1)
                have f181 := (show 0 ≤ I174 0 186 ∧ I174 0 186 ≤ 16 from (hI174 0 186).1)
                have KGR_I174 := gr_GR_fr KGR_I164 (fun k => g173 19 k rfl) (fun k => g173 18 k rfl) (fun k => g173 36 k rfl) (fun k => g173 41 k rfl) (fun k => g173 42 k rfl) (fun k => g173 43 k rfl) (fun k => g173 45 k rfl) (fun k => g173 46 k rfl) (fun k => g173 47 k rfl) (fun k => g173 6 k rfl) (fun k => g173 7 k rfl) (fun k => g173 8 k rfl) (g173 0 3 rfl)
                have KFV_I174 := gr_FV_fr KFV_I164 (fun k => g173 87 k rfl) (fun k => g173 88 k rfl) (fun k => g173 104 k rfl) (fun k => g173 90 k rfl) (fun k => g173 91 k rfl) (fun k => g173 92 k rfl) (fun k => g173 94 k rfl) (fun k => g173 95 k rfl) (fun k => g173 97 k rfl) (fun k => g173 98 k rfl) (fun k => g173 19 k rfl) (fun k => g173 18 k rfl) (fun k => g173 41 k rfl) (fun k => g173 6 k rfl) (fun k => g173 99 k rfl) (fun k => g173 105 k rfl) (fun k => g173 107 k rfl) (fun k => g173 108 k rfl) (fun k => g173 110 k rfl) (fun k => g173 111 k rfl) (g173 0 157 rfl) (g173 0 158 rfl) (g173 0 177 rfl) (g173 0 186 rfl) (g173 0 159 rfl) hI164
                refine gv_callV hD rfl (As := [.inl (v6_115 + 1), .inr (.inr (some 84)), .inl (24 * v6_115), .inl (I164 86 (Int.toNat v6_115))]) (st := []) rfl (by decide) rfl rfl (gr_lV hws rfl) (Nat.le_of_ble_eq_true rfl) (gz_Ev_mono (d := 1) (by decide) E173) ?_
                show gv_X _ _ (399, [(0, .inr (.inr (some 0))), (1, .inl a1), (2, .inl a2), (4, .inl v4_12), (5, .inl v5_115), (6, .inl v6_115)], [], gr_sh ++ ext, gr_h I174 J175)
                refine gv_run 3 true hD (pc' := 407) (lv' := [(5, .inl (v5_115 + 1)), (0, .inr (.inr (some 0))), (1, .inl a1), (2, .inl a2), (4, .inl v4_12), (6, .inl v6_115)]) (st' := [.inl 1000, .inl (v5_115 + 1)]) (h' := gr_h I174 J175) (C := (((True ∧ True) ∧ True) ∧ True)) rfl ⟨⟨⟨trivial, trivial⟩, trivial⟩, trivial⟩ ?_
                refine gv_icmp_le (t := 412) hD rfl rfl ⟨⟨by omega, by omega⟩, ⟨by omega, by omega⟩⟩ (fun c182 => ?_) (fun c182 => ?_)
                · refine gv_run 3 true hD (pc' := 415) (lv' := [(5, .inl (v5_115 + 1)), (0, .inr (.inr (some 0))), (1, .inl a1), (2, .inl a2), (4, .inl v4_12), (6, .inl v6_115)]) (st' := [.inl a2, .inl a1, .inr (.inr (some 0))]) (h' := gr_h I174 J175) (C := (((True ∧ True) ∧ True) ∧ True)) rfl ⟨⟨⟨trivial, trivial⟩, trivial⟩, trivial⟩ ?_
                  obtain ⟨r183, h183, E183, P183⟩ := r_parsed (ws0 := ws0) (tb := tb) hws htb ext I174 J175 hI174 a1 a2 ⟨by omega, by omega⟩ ⟨by omega, by omega⟩ KGR_I174
                  obtain ⟨I184, J185, rfl, hI184, g183, k183, KGR_I184, ⟨z183, rfl, q183⟩⟩ := P183
                  have FI184 := gr_frt FI174 g183 rfl rfl
                  have FJ185 := gr_fjt FJ175 k183 rfl rfl
                  have t186 := g183 0 143 rfl
                  have f187 := (show 0 ≤ I184 0 143 ∧ I184 0 143 ≤ 24 from (hI184 0 143).1)
                  have f188 := (show (-1) ≤ I184 0 177 ∧ I184 0 177 ≤ 2999 from (hI184 0 177).1)
                  have f189 := (show 0 ≤ I184 0 186 ∧ I184 0 186 ≤ 16 from (hI184 0 186).1)
                  have KFV_I184 : gr_FV I184 := q183.2.2
                  refine gv_callV hD rfl (As := [.inl a1, .inl a2]) (st := []) rfl (by decide) rfl rfl (gr_lV hws rfl) (Nat.le_of_ble_eq_true rfl) (gz_Ev_mono (d := 12) (by decide) E183) ?_
                  show gv_X _ _ (418, [(5, .inl (v5_115 + 1)), (0, .inr (.inr (some 0))), (1, .inl a1), (2, .inl a2), (4, .inl v4_12), (6, .inl v6_115)], [.inl z183], gr_sh ++ ext, gr_h I184 J185)
                  refine gv_run 2 true hD (pc' := 420) (lv' := [(3, .inl z183), (5, .inl (v5_115 + 1)), (0, .inr (.inr (some 0))), (1, .inl a1), (2, .inl a2), (4, .inl v4_12), (6, .inl v6_115)]) (st' := [.inl z183]) (h' := gr_h I184 J185) (C := ((True ∧ True) ∧ True)) rfl ⟨⟨trivial, trivial⟩, trivial⟩ ?_
                  refine gv_if_eq (t := 433) hD rfl rfl ⟨by omega, by omega⟩ (fun c190 => ?_) (fun c190 => ?_)
                  · refine gv_run 7 true hD (pc' := 445) (lv' := [(3, .inl z183), (5, .inl (v5_115 + 1)), (0, .inr (.inr (some 0))), (1, .inl a1), (2, .inl a2), (4, .inl v4_12), (6, .inl v6_115)]) (st' := [.inl (24 * v6_115), .inr (.inr (some 84)), .inl v6_115, .inr (.inr (some 0))]) (h' := gr_h I184 J185) (C := (((((((True ∧ True) ∧ True) ∧ True) ∧ True) ∧ True) ∧ True) ∧ True)) rfl ⟨⟨⟨⟨⟨⟨⟨trivial, trivial⟩, trivial⟩, trivial⟩, trivial⟩, trivial⟩, trivial⟩, trivial⟩ ?_
                    have f191 := (show 0 ≤ I184 86 (Int.toNat v6_115) ∧ I184 86 (Int.toNat v6_115) ≤ 24 from (hI184 86 (Int.toNat v6_115)).1)
                    refine gv_run 4 true hD (pc' := 452) (lv' := [(3, .inl z183), (5, .inl (v5_115 + 1)), (0, .inr (.inr (some 0))), (1, .inl a1), (2, .inl a2), (4, .inl v4_12), (6, .inl v6_115)]) (st' := [.inl (I184 86 (Int.toNat v6_115)), .inl (24 * v6_115), .inr (.inr (some 84)), .inl v6_115, .inr (.inr (some 0))]) (h' := gr_h I184 J185) (C := ((((True ∧ True) ∧ True) ∧ True) ∧ (0 ≤ v6_115 ∧ v6_115 < ((24 : Nat) : Int)))) rfl ⟨⟨⟨⟨trivial, trivial⟩, trivial⟩, trivial⟩, ⟨by omega, by omega⟩⟩ ?_
                    obtain ⟨r192, h192, E192, P192⟩ := r_word__84 (ws0 := ws0) (tb := tb) hws htb ext I184 J185 hI184 v6_115 (24 * v6_115) ((I184 86 (Int.toNat v6_115))) ⟨by omega, by omega⟩ ⟨by omega, by omega⟩ ⟨by omega, by omega⟩ (by omega)
                    obtain ⟨I193, J194, rfl, hI193, g192, k192, rfl⟩ := P192
                    have FI193 := gr_frt FI184 g192 rfl rfl
                    have FJ194 := gr_fjt FJ185 k192 rfl rfl
                    have t195 := g192 0 143 rfl
                    have t196 := g192 0 177 rfl
                    have t197 := g192 0 186 rfl
                    have f198 := (show 0 ≤ I193 0 143 ∧ I193 0 143 ≤ 24 from (hI193 0 143).1)
                    have f199 := (show (-1) ≤ I193 0 177 ∧ I193 0 177 ≤ 2999 from (hI193 0 177).1)
                    have f200 := (show 0 ≤ I193 0 186 ∧ I193 0 186 ≤ 16 from (hI193 0 186).1)
                    have KGR_I193 := gr_GR_fr KGR_I184 (fun k => g192 19 k rfl) (fun k => g192 18 k rfl) (fun k => g192 36 k rfl) (fun k => g192 41 k rfl) (fun k => g192 42 k rfl) (fun k => g192 43 k rfl) (fun k => g192 45 k rfl) (fun k => g192 46 k rfl) (fun k => g192 47 k rfl) (fun k => g192 6 k rfl) (fun k => g192 7 k rfl) (fun k => g192 8 k rfl) (g192 0 3 rfl)
                    have KFV_I193 := gr_FV_fr KFV_I184 (fun k => g192 87 k rfl) (fun k => g192 88 k rfl) (fun k => g192 104 k rfl) (fun k => g192 90 k rfl) (fun k => g192 91 k rfl) (fun k => g192 92 k rfl) (fun k => g192 94 k rfl) (fun k => g192 95 k rfl) (fun k => g192 97 k rfl) (fun k => g192 98 k rfl) (fun k => g192 19 k rfl) (fun k => g192 18 k rfl) (fun k => g192 41 k rfl) (fun k => g192 6 k rfl) (fun k => g192 99 k rfl) (fun k => g192 105 k rfl) (fun k => g192 107 k rfl) (fun k => g192 108 k rfl) (fun k => g192 110 k rfl) (fun k => g192 111 k rfl) (g192 0 157 rfl) (g192 0 158 rfl) (g192 0 177 rfl) (g192 0 186 rfl) (g192 0 159 rfl) hI184
                    refine gv_callV hD rfl (As := [.inl v6_115, .inr (.inr (some 84)), .inl (24 * v6_115), .inl (I184 86 (Int.toNat v6_115))]) (st := []) rfl (by decide) rfl rfl (gr_lV hws rfl) (Nat.le_of_ble_eq_true rfl) (gz_Ev_mono (d := 1) (by decide) E192) ?_
                    show gv_X _ _ (455, [(3, .inl z183), (5, .inl (v5_115 + 1)), (0, .inr (.inr (some 0))), (1, .inl a1), (2, .inl a2), (4, .inl v4_12), (6, .inl v6_115)], [], gr_sh ++ ext, gr_h I193 J194)
                    refine gv_run 7 true hD (pc' := 466) (lv' := [(3, .inl z183), (5, .inl (v5_115 + 1)), (0, .inr (.inr (some 0))), (1, .inl a1), (2, .inl a2), (4, .inl v4_12), (6, .inl v6_115)]) (st' := [.inl 24, .inr (.inr (some 84)), .inl (v6_115 + 1), .inr (.inr (some 0))]) (h' := gr_h I193 J194) (C := (((((((True ∧ True) ∧ True) ∧ True) ∧ True) ∧ True) ∧ True) ∧ True)) rfl ⟨⟨⟨⟨⟨⟨⟨trivial, trivial⟩, trivial⟩, trivial⟩, trivial⟩, trivial⟩, trivial⟩, trivial⟩ ?_
                    refine gv_run 7 true hD (pc' := 477) (lv' := [(3, .inl z183), (5, .inl (v5_115 + 1)), (0, .inr (.inr (some 0))), (1, .inl a1), (2, .inl a2), (4, .inl v4_12), (6, .inl v6_115)]) (st' := [.inl v6_115, .inr (.inr (some 86)), .inl (24 * (v6_115 + 1)), .inr (.inr (some 84)), .inl (v6_115 + 1), .inr (.inr (some 0))]) (h' := gr_h I193 J194) (C := (((((((True ∧ True) ∧ True) ∧ True) ∧ True) ∧ True) ∧ True) ∧ True)) rfl ⟨⟨⟨⟨⟨⟨⟨trivial, trivial⟩, trivial⟩, trivial⟩, trivial⟩, trivial⟩, trivial⟩, trivial⟩ ?_
                    have f201 := (show 0 ≤ I193 86 (Int.toNat ((v6_115 + 1))) ∧ I193 86 (Int.toNat ((v6_115 + 1))) ≤ 24 from (hI193 86 (Int.toNat ((v6_115 + 1)))).1)
                    refine gv_run 3 true hD (pc' := 480) (lv' := [(3, .inl z183), (5, .inl (v5_115 + 1)), (0, .inr (.inr (some 0))), (1, .inl a1), (2, .inl a2), (4, .inl v4_12), (6, .inl v6_115)]) (st' := [.inl (I193 86 (Int.toNat ((v6_115 + 1)))), .inl (24 * (v6_115 + 1)), .inr (.inr (some 84)), .inl (v6_115 + 1), .inr (.inr (some 0))]) (h' := gr_h I193 J194) (C := (((True ∧ True) ∧ True) ∧ (0 ≤ (v6_115 + 1) ∧ (v6_115 + 1) < ((24 : Nat) : Int)))) rfl ⟨⟨⟨trivial, trivial⟩, trivial⟩, ⟨by omega, by omega⟩⟩ ?_
                    obtain ⟨r202, h202, E202, P202⟩ := r_word__84 (ws0 := ws0) (tb := tb) hws htb ext I193 J194 hI193 (v6_115 + 1) ((24 * (v6_115 + 1))) ((I193 86 (Int.toNat ((v6_115 + 1))))) ⟨by omega, by omega⟩ ⟨by omega, by omega⟩ ⟨by omega, by omega⟩ (by omega)
                    obtain ⟨I203, J204, rfl, hI203, g202, k202, rfl⟩ := P202
                    have FI203 := gr_frt FI193 g202 rfl rfl
                    have FJ204 := gr_fjt FJ194 k202 rfl rfl
                    have t205 := g202 0 143 rfl
                    have t206 := g202 0 177 rfl
                    have t207 := g202 0 186 rfl
                    have f208 := (show 0 ≤ I203 0 143 ∧ I203 0 143 ≤ 24 from (hI203 0 143).1)
                    have f209 := (show (-1) ≤ I203 0 177 ∧ I203 0 177 ≤ 2999 from (hI203 0 177).1)
                    have f210 := (show 0 ≤ I203 0 186 ∧ I203 0 186 ≤ 16 from (hI203 0 186).1)
                    have KGR_I203 := gr_GR_fr KGR_I193 (fun k => g202 19 k rfl) (fun k => g202 18 k rfl) (fun k => g202 36 k rfl) (fun k => g202 41 k rfl) (fun k => g202 42 k rfl) (fun k => g202 43 k rfl) (fun k => g202 45 k rfl) (fun k => g202 46 k rfl) (fun k => g202 47 k rfl) (fun k => g202 6 k rfl) (fun k => g202 7 k rfl) (fun k => g202 8 k rfl) (g202 0 3 rfl)
                    have KFV_I203 := gr_FV_fr KFV_I193 (fun k => g202 87 k rfl) (fun k => g202 88 k rfl) (fun k => g202 104 k rfl) (fun k => g202 90 k rfl) (fun k => g202 91 k rfl) (fun k => g202 92 k rfl) (fun k => g202 94 k rfl) (fun k => g202 95 k rfl) (fun k => g202 97 k rfl) (fun k => g202 98 k rfl) (fun k => g202 19 k rfl) (fun k => g202 18 k rfl) (fun k => g202 41 k rfl) (fun k => g202 6 k rfl) (fun k => g202 99 k rfl) (fun k => g202 105 k rfl) (fun k => g202 107 k rfl) (fun k => g202 108 k rfl) (fun k => g202 110 k rfl) (fun k => g202 111 k rfl) (g202 0 157 rfl) (g202 0 158 rfl) (g202 0 177 rfl) (g202 0 186 rfl) (g202 0 159 rfl) hI193
                    refine gv_callV hD rfl (As := [.inl (v6_115 + 1), .inr (.inr (some 84)), .inl (24 * (v6_115 + 1)), .inl (I193 86 (Int.toNat ((v6_115 + 1))))]) (st := []) rfl (by decide) rfl rfl (gr_lV hws rfl) (Nat.le_of_ble_eq_true rfl) (gz_Ev_mono (d := 1) (by decide) E202) ?_
                    show gv_X _ _ (483, [(3, .inl z183), (5, .inl (v5_115 + 1)), (0, .inr (.inr (some 0))), (1, .inl a1), (2, .inl a2), (4, .inl v4_12), (6, .inl v6_115)], [], gr_sh ++ ext, gr_h I203 J204)
                    refine gv_run 2 true hD (pc' := 340) (lv' := [(6, .inl (v6_115 + 1)), (3, .inl z183), (5, .inl (v5_115 + 1)), (0, .inr (.inr (some 0))), (1, .inl a1), (2, .inl a2), (4, .inl v4_12)]) (st' := []) (h' := gr_h I203 J204) (C := ((True ∧ True) ∧ True)) rfl ⟨⟨trivial, trivial⟩, trivial⟩ ?_
                    refine gv_pick [3, 4, 5, 6, 2, 0] rfl ?_
                    exact ih340 I203 J204 (v5_115 + 1) (v6_115 + 1) (by omega) hI203 FI203 FJ204 KGR_I203 KFV_I203 (by omega)
                  · refine gv_run 1 true hD (pc' := 424) (lv' := [(3, .inl z183), (5, .inl (v5_115 + 1)), (0, .inr (.inr (some 0))), (1, .inl a1), (2, .inl a2), (4, .inl v4_12), (6, .inl v6_115)]) (st' := [.inl z183]) (h' := gr_h I184 J185) (C := (True ∧ True)) rfl ⟨trivial, trivial⟩ ?_
                    refine gv_if_le (t := 431) hD rfl rfl ⟨by omega, by omega⟩ (fun c211 => ?_) (fun c211 => ?_)
                    · refine gv_run 1 true hD (pc' := 432) (lv' := [(3, .inl z183), (5, .inl (v5_115 + 1)), (0, .inr (.inr (some 0))), (1, .inl a1), (2, .inl a2), (4, .inl v4_12), (6, .inl v6_115)]) (st' := [.inl (-1)]) (h' := gr_h I184 J185) (C := (True ∧ True)) rfl ⟨trivial, trivial⟩ ?_
                      refine gv_pick [] rfl ?_
                      exact L432 I184 J185 (-1) hI184 FI184 FJ185 KGR_I184 KFV_I184 (by omega)
                    · refine gv_run 2 true hD (pc' := 432) (lv' := [(3, .inl z183), (5, .inl (v5_115 + 1)), (0, .inr (.inr (some 0))), (1, .inl a1), (2, .inl a2), (4, .inl v4_12), (6, .inl v6_115)]) (st' := [.inl 2]) (h' := gr_h I184 J185) (C := ((True ∧ True) ∧ True)) rfl ⟨⟨trivial, trivial⟩, trivial⟩ ?_
                      refine gv_pick [] rfl ?_
                      exact L432 I184 J185 2 hI184 FI184 FJ185 KGR_I184 KFV_I184 (by omega)
                · refine gv_run 1 true hD (pc' := 411) (lv' := [(5, .inl (v5_115 + 1)), (0, .inr (.inr (some 0))), (1, .inl a1), (2, .inl a2), (4, .inl v4_12), (6, .inl v6_115)]) (st' := [.inl (-1)]) (h' := gr_h I174 J175) (C := (True ∧ True)) rfl ⟨trivial, trivial⟩ ?_
                  exact gv_iret hD rfl ⟨I174, J175, rfl, hI174, FI174, FJ175, KGR_I174, KFV_I174, ⟨_, rfl, by omega⟩⟩
          refine gv_run 2 true hD (pc' := 114) (lv' := [(0, .inr (.inr (some 0))), (1, .inl a1), (2, .inl a2), (4, .inl v4_12), (5, .inl v5_36), (6, .inl v6_36)]) (st' := [.inl v4_12, .inl v6_36]) (h' := gr_h I34 J35) (C := ((True ∧ True) ∧ True)) rfl ⟨⟨trivial, trivial⟩, trivial⟩ ?_
          refine gv_icmp_ge (t := 337) hD rfl rfl ⟨⟨by omega, by omega⟩, ⟨by omega, by omega⟩⟩ (fun c212 => ?_) (fun c212 => ?_)
          · refine gv_run 2 true hD (pc' := 340) (lv' := [(6, .inl 0), (0, .inr (.inr (some 0))), (1, .inl a1), (2, .inl a2), (4, .inl v4_12), (5, .inl v5_36)]) (st' := []) (h' := gr_h I34 J35) (C := ((True ∧ True) ∧ True)) rfl ⟨⟨trivial, trivial⟩, trivial⟩ ?_
            refine gv_pick [1, 2, 3, 4, 5, 0] rfl ?_
            exact L340 _ I34 J35 v5_36 0 (Nat.lt_succ_self _) hI34 FI34 FJ35 KGR_I34 KFV_I34 (by omega)
          · refine gv_run 2 true hD (pc' := 120) (lv' := [(7, .inl 0), (0, .inr (.inr (some 0))), (1, .inl a1), (2, .inl a2), (4, .inl v4_12), (5, .inl v5_36), (6, .inl v6_36)]) (st' := []) (h' := gr_h I34 J35) (C := ((True ∧ True) ∧ True)) rfl ⟨⟨trivial, trivial⟩, trivial⟩ ?_
            refine gv_pick [1, 2, 3, 4, 5, 6, 0] rfl ?_
            exact L120 _ I34 J35 v5_36 0 (Nat.lt_succ_self _) hI34 FI34 FJ35 KGR_I34 KFV_I34 (by omega)
      refine gv_run 2 true hD (pc' := 37) (lv' := [(0, .inr (.inr (some 0))), (1, .inl a1), (2, .inl a2), (4, .inl v4_12), (5, .inl v5_12), (6, .inl v6_12)]) (st' := [.inl v4_12, .inl v6_12]) (h' := gr_h I10 J11) (C := ((True ∧ True) ∧ True)) rfl ⟨⟨trivial, trivial⟩, trivial⟩ ?_
      refine gv_icmp_ge (t := 107) hD rfl rfl ⟨⟨by omega, by omega⟩, ⟨by omega, by omega⟩⟩ (fun c213 => ?_) (fun c213 => ?_)
      · refine gv_run 2 true hD (pc' := 110) (lv' := [(6, .inl 0), (0, .inr (.inr (some 0))), (1, .inl a1), (2, .inl a2), (4, .inl v4_12), (5, .inl v5_12)]) (st' := []) (h' := gr_h I10 J11) (C := ((True ∧ True) ∧ True)) rfl ⟨⟨trivial, trivial⟩, trivial⟩ ?_
        refine gv_pick [1, 2, 3, 4, 5, 0] rfl ?_
        exact L110 _ I10 J11 v5_12 0 (Nat.lt_succ_self _) hI10 FI10 FJ11 KGR_I10 KFV_I10 (by omega)
      · have f214 := (show 0 ≤ I10 85 (Int.toNat v6_12) ∧ I10 85 (Int.toNat v6_12) ≤ 24 from (hI10 85 (Int.toNat v6_12)).1)
        refine gv_run 7 true hD (pc' := 53) (lv' := [(0, .inr (.inr (some 0))), (1, .inl a1), (2, .inl a2), (4, .inl v4_12), (5, .inl v5_12), (6, .inl v6_12)]) (st' := [.inl (I10 85 (Int.toNat v6_12)), .inl v6_12, .inr (.inr (some 86))]) (h' := gr_h I10 J11) (C := (((((((True ∧ True) ∧ True) ∧ True) ∧ True) ∧ True) ∧ True) ∧ (0 ≤ v6_12 ∧ v6_12 < ((24 : Nat) : Int)))) rfl ⟨⟨⟨⟨⟨⟨⟨trivial, trivial⟩, trivial⟩, trivial⟩, trivial⟩, trivial⟩, trivial⟩, ⟨by omega, by omega⟩⟩ ?_
        refine gv_run 1 true hD (pc' := 54) (lv' := [(0, .inr (.inr (some 0))), (1, .inl a1), (2, .inl a2), (4, .inl v4_12), (5, .inl v5_12), (6, .inl v6_12)]) (st' := []) (h' := gz_up (gr_h I10 J11) 86 (Int.toNat v6_12) (.inl ((I10 85 (Int.toNat v6_12))))) (C := (True ∧ (0 ≤ v6_12 ∧ v6_12 < ((24 : Nat) : Int)))) rfl ⟨trivial, ⟨by omega, by omega⟩⟩ ?_
        refine gr_st hI10 FI10 rfl rfl ⟨⟨by show 0 ≤ _; omega, by show _ ≤ 24; omega⟩, trivial⟩ (fun I215 hI215 FI215 q216 p216 => ?_)
        have t217 := p216 0 143 (fun q => absurd q.1 (by decide))
        have t218 := p216 0 177 (fun q => absurd q.1 (by decide))
        have t219 := p216 0 186 (fun q => absurd q.1 (by decide))
        have f220 := (show 0 ≤ I215 0 143 ∧ I215 0 143 ≤ 24 from (hI215 0 143).1)
        have f221 := (show (-1) ≤ I215 0 177 ∧ I215 0 177 ≤ 2999 from (hI215 0 177).1)
        have f222 := (show 0 ≤ I215 0 186 ∧ I215 0 186 ≤ 16 from (hI215 0 186).1)
        have KGR_I215 := gr_GR_fr KGR_I10 (fun k => p216 19 k (fun q => absurd q.1 (by decide))) (fun k => p216 18 k (fun q => absurd q.1 (by decide))) (fun k => p216 36 k (fun q => absurd q.1 (by decide))) (fun k => p216 41 k (fun q => absurd q.1 (by decide))) (fun k => p216 42 k (fun q => absurd q.1 (by decide))) (fun k => p216 43 k (fun q => absurd q.1 (by decide))) (fun k => p216 45 k (fun q => absurd q.1 (by decide))) (fun k => p216 46 k (fun q => absurd q.1 (by decide))) (fun k => p216 47 k (fun q => absurd q.1 (by decide))) (fun k => p216 6 k (fun q => absurd q.1 (by decide))) (fun k => p216 7 k (fun q => absurd q.1 (by decide))) (fun k => p216 8 k (fun q => absurd q.1 (by decide))) (p216 0 3 (fun q => absurd q.1 (by decide)))
        have KFV_I215 := gr_FV_fr KFV_I10 (fun k => p216 87 k (fun q => absurd q.1 (by decide))) (fun k => p216 88 k (fun q => absurd q.1 (by decide))) (fun k => p216 104 k (fun q => absurd q.1 (by decide))) (fun k => p216 90 k (fun q => absurd q.1 (by decide))) (fun k => p216 91 k (fun q => absurd q.1 (by decide))) (fun k => p216 92 k (fun q => absurd q.1 (by decide))) (fun k => p216 94 k (fun q => absurd q.1 (by decide))) (fun k => p216 95 k (fun q => absurd q.1 (by decide))) (fun k => p216 97 k (fun q => absurd q.1 (by decide))) (fun k => p216 98 k (fun q => absurd q.1 (by decide))) (fun k => p216 19 k (fun q => absurd q.1 (by decide))) (fun k => p216 18 k (fun q => absurd q.1 (by decide))) (fun k => p216 41 k (fun q => absurd q.1 (by decide))) (fun k => p216 6 k (fun q => absurd q.1 (by decide))) (fun k => p216 99 k (fun q => absurd q.1 (by decide))) (fun k => p216 105 k (fun q => absurd q.1 (by decide))) (fun k => p216 107 k (fun q => absurd q.1 (by decide))) (fun k => p216 108 k (fun q => absurd q.1 (by decide))) (fun k => p216 110 k (fun q => absurd q.1 (by decide))) (fun k => p216 111 k (fun q => absurd q.1 (by decide))) (p216 0 157 (fun q => absurd q.1 (by decide))) (p216 0 158 (fun q => absurd q.1 (by decide))) (p216 0 177 (fun q => absurd q.1 (by decide))) (p216 0 186 (fun q => absurd q.1 (by decide))) (p216 0 159 (fun q => absurd q.1 (by decide))) hI10
        refine gv_run 2 true hD (pc' := 57) (lv' := [(7, .inl 0), (0, .inr (.inr (some 0))), (1, .inl a1), (2, .inl a2), (4, .inl v4_12), (5, .inl v5_12), (6, .inl v6_12)]) (st' := []) (h' := gr_h I215 J11) (C := ((True ∧ True) ∧ True)) rfl ⟨⟨trivial, trivial⟩, trivial⟩ ?_
        refine gv_pick [1, 2, 3, 4, 5, 6, 0] rfl ?_
        exact L57 _ I215 J11 0 (Nat.lt_succ_self _) hI215 FI215 FJ11 KGR_I215 KFV_I215 (by omega)
  refine gv_run 3 true hD (pc' := 3) (lv' := [(0, .inr (.inr (some 0))), (1, .inl a1), (2, .inl a2)]) (st' := [.inl a2, .inl a1, .inr (.inr (some 0))]) (h' := gr_h I J) (C := (((True ∧ True) ∧ True) ∧ True)) rfl ⟨⟨⟨trivial, trivial⟩, trivial⟩, trivial⟩ ?_
  obtain ⟨r223, h223, E223, P223⟩ := r_parsed (ws0 := ws0) (tb := tb) hws htb ext I J hI a1 a2 ⟨by omega, by omega⟩ ⟨by omega, by omega⟩ KGR_I
  obtain ⟨I224, J225, rfl, hI224, g223, k223, KGR_I224, ⟨z223, rfl, q223⟩⟩ := P223
  have FI224 := gr_frt FI g223 rfl rfl
  have FJ225 := gr_fjt FJ k223 rfl rfl
  have t226 := g223 0 143 rfl
  have f227 := (show 0 ≤ I224 0 143 ∧ I224 0 143 ≤ 24 from (hI224 0 143).1)
  have f228 := (show (-1) ≤ I224 0 177 ∧ I224 0 177 ≤ 2999 from (hI224 0 177).1)
  have f229 := (show 0 ≤ I224 0 186 ∧ I224 0 186 ≤ 16 from (hI224 0 186).1)
  have KFV_I224 : gr_FV I224 := q223.2.2
  refine gv_callV hD rfl (As := [.inl a1, .inl a2]) (st := []) rfl (by decide) rfl rfl (gr_lV hws rfl) (Nat.le_of_ble_eq_true rfl) (gz_Ev_mono (d := 12) (by decide) E223) ?_
  show gv_X _ _ (6, [(0, .inr (.inr (some 0))), (1, .inl a1), (2, .inl a2)], [.inl z223], gr_sh ++ ext, gr_h I224 J225)
  refine gv_run 2 true hD (pc' := 8) (lv' := [(3, .inl z223), (0, .inr (.inr (some 0))), (1, .inl a1), (2, .inl a2)]) (st' := [.inl z223]) (h' := gr_h I224 J225) (C := ((True ∧ True) ∧ True)) rfl ⟨⟨trivial, trivial⟩, trivial⟩ ?_
  refine gv_if_eq (t := 21) hD rfl rfl ⟨by omega, by omega⟩ (fun c230 => ?_) (fun c230 => ?_)
  · have f231 := (show 0 ≤ I224 0 143 ∧ I224 0 143 ≤ 24 from (hI224 0 143).1)
    refine gv_run 7 true hD (pc' := 33) (lv' := [(6, .inl 0), (5, .inl 0), (4, .inl (I224 0 143)), (3, .inl z223), (0, .inr (.inr (some 0))), (1, .inl a1), (2, .inl a2)]) (st' := []) (h' := gr_h I224 J225) (C := (((((((True ∧ True) ∧ True) ∧ True) ∧ True) ∧ True) ∧ True) ∧ True)) rfl ⟨⟨⟨⟨⟨⟨⟨trivial, trivial⟩, trivial⟩, trivial⟩, trivial⟩, trivial⟩, trivial⟩, trivial⟩ ?_
    refine gv_pick [4, 5, 6, 2, 1, 0] rfl ?_
    exact L33 _ I224 J225 (I224 0 143) 0 0 (Nat.lt_succ_self _) hI224 FI224 FJ225 KGR_I224 KFV_I224 (by omega)
  · refine gv_run 1 true hD (pc' := 12) (lv' := [(3, .inl z223), (0, .inr (.inr (some 0))), (1, .inl a1), (2, .inl a2)]) (st' := [.inl z223]) (h' := gr_h I224 J225) (C := (True ∧ True)) rfl ⟨trivial, trivial⟩ ?_
    refine gv_if_le (t := 19) hD rfl rfl ⟨by omega, by omega⟩ (fun c232 => ?_) (fun c232 => ?_)
    · refine gv_run 1 true hD (pc' := 20) (lv' := [(3, .inl z223), (0, .inr (.inr (some 0))), (1, .inl a1), (2, .inl a2)]) (st' := [.inl (-1)]) (h' := gr_h I224 J225) (C := (True ∧ True)) rfl ⟨trivial, trivial⟩ ?_
      refine gv_pick [] rfl ?_
      exact L20 I224 J225 (-1) hI224 FI224 FJ225 KGR_I224 KFV_I224 (by omega)
    · refine gv_run 2 true hD (pc' := 20) (lv' := [(3, .inl z223), (0, .inr (.inr (some 0))), (1, .inl a1), (2, .inl a2)]) (st' := [.inl 0]) (h' := gr_h I224 J225) (C := ((True ∧ True) ∧ True)) rfl ⟨⟨trivial, trivial⟩, trivial⟩ ?_
      refine gv_pick [] rfl ?_
      exact L20 I224 J225 0 hI224 FI224 FJ225 KGR_I224 KFV_I224 (by omega)
set_option maxHeartbeats 4000000 in
set_option maxRecDepth 100000 in
theorem r_mend {ws0 : List Cond} {tb : String → gz_T} (hws : ∀ w ∈ gr_ws, w ∈ ws0) (htb : tb RX13 = gr_T) (ext : gz_Sh) (I : gr_I) (J : gr_J) (hI : gr_Inv I) (a1 : Int) (a2 : Int) (ha1 : (-2147483648) ≤ a1 ∧ a1 ≤ 2147483647) (ha2 : (-2147483648) ≤ a2 ∧ a2 ≤ 2147483647) (KGR_I : gr_GR I) (KFV_I : gr_FV I) : ∃ r h', gz_Ev ws0 tb 14 (yX13_mend, cX13_mend, 4, (some .int)) [.inr (.inr (some 0)), .inl a1, .inl a2] (gr_sh ++ ext) (gr_h I J) r (gr_sh ++ ext) h' 0 0 ∧ (∃ (I' : gr_I) (J' : gr_J), h' = gr_h I' J' ∧ gr_Inv I' ∧ gr_fr [0, 68, 69, 70, 126, 127, 128, 143, 157, 158, 159, 160, 161, 166, 167, 168, 169, 170, 177, 179, 180, 181, 186] [51, 56, 57, 58, 76, 77, 78, 79, 83, 84, 85, 86, 87, 88, 89, 90, 91, 92, 93, 94, 95, 96, 97, 98, 99, 100, 101, 103, 104, 105, 106, 107, 108, 109, 110, 111, 112] I I' ∧ gr_fj [0, 68, 69, 70, 126, 127, 128, 143, 157, 158, 159, 160, 161, 166, 167, 168, 169, 170, 177, 179, 180, 181, 186] [51, 56, 57, 58, 76, 77, 78, 79, 83, 84, 85, 86, 87, 88, 89, 90, 91, 92, 93, 94, 95, 96, 97, 98, 99, 100, 101, 103, 104, 105, 106, 107, 108, 109, 110, 111, 112] J J' ∧ gr_GR I' ∧ gr_FV I' ∧ (∃ z : Int, r = some (.inl z) ∧ (-3) ≤ z ∧ z ≤ 3)) := by
  have FI : gr_fr [0, 68, 69, 70, 126, 127, 128, 143, 157, 158, 159, 160, 161, 166, 167, 168, 169, 170, 177, 179, 180, 181, 186] [51, 56, 57, 58, 76, 77, 78, 79, 83, 84, 85, 86, 87, 88, 89, 90, 91, 92, 93, 94, 95, 96, 97, 98, 99, 100, 101, 103, 104, 105, 106, 107, 108, 109, 110, 111, 112] I I := fun _ _ _ => rfl
  have FJ : gr_fj [0, 68, 69, 70, 126, 127, 128, 143, 157, 158, 159, 160, 161, 166, 167, 168, 169, 170, 177, 179, 180, 181, 186] [51, 56, 57, 58, 76, 77, 78, 79, 83, 84, 85, 86, 87, 88, 89, 90, 91, 92, 93, 94, 95, 96, 97, 98, 99, 100, 101, 103, 104, 105, 106, 107, 108, 109, 110, 111, 112] J J := fun _ _ _ => rfl
  have hD : gv_D (gr_E ws0 tb 13 (yX13_mend, cX13_mend, 4, (some .int)) kX13_mend) := gq_ok oX13_mend
  refine gr_ev (d := 13) (l := kX13_mend) (Po := fun r h' => (∃ (I' : gr_I) (J' : gr_J), h' = gr_h I' J' ∧ gr_Inv I' ∧ gr_fr [0, 68, 69, 70, 126, 127, 128, 143, 157, 158, 159, 160, 161, 166, 167, 168, 169, 170, 177, 179, 180, 181, 186] [51, 56, 57, 58, 76, 77, 78, 79, 83, 84, 85, 86, 87, 88, 89, 90, 91, 92, 93, 94, 95, 96, 97, 98, 99, 100, 101, 103, 104, 105, 106, 107, 108, 109, 110, 111, 112] I I' ∧ gr_fj [0, 68, 69, 70, 126, 127, 128, 143, 157, 158, 159, 160, 161, 166, 167, 168, 169, 170, 177, 179, 180, 181, 186] [51, 56, 57, 58, 76, 77, 78, 79, 83, 84, 85, 86, 87, 88, 89, 90, 91, 92, 93, 94, 95, 96, 97, 98, 99, 100, 101, 103, 104, 105, 106, 107, 108, 109, 110, 111, 112] J J' ∧ gr_GR I' ∧ gr_FV I' ∧ (∃ z : Int, r = some (.inl z) ∧ (-3) ≤ z ∧ z ≤ 3))) htb rfl (Nat.le_of_ble_eq_true rfl) ?_
  have f1 := (show 0 ≤ I 0 143 ∧ I 0 143 ≤ 24 from (hI 0 143).1)
  have f2 := (show (-1) ≤ I 0 177 ∧ I 0 177 ≤ 2999 from (hI 0 177).1)
  have f3 := (show 0 ≤ I 0 186 ∧ I 0 186 ≤ 16 from (hI 0 186).1)
  have L16 : ∀ (I4 : gr_I) (J5 : gr_J) , gr_Inv I4 → gr_fr [0, 68, 69, 70, 126, 127, 128, 143, 157, 158, 159, 160, 161, 166, 167, 168, 169, 170, 177, 179, 180, 181, 186] [51, 56, 57, 58, 76, 77, 78, 79, 83, 84, 85, 86, 87, 88, 89, 90, 91, 92, 93, 94, 95, 96, 97, 98, 99, 100, 101, 103, 104, 105, 106, 107, 108, 109, 110, 111, 112] I I4 → gr_fj [0, 68, 69, 70, 126, 127, 128, 143, 157, 158, 159, 160, 161, 166, 167, 168, 169, 170, 177, 179, 180, 181, 186] [51, 56, 57, 58, 76, 77, 78, 79, 83, 84, 85, 86, 87, 88, 89, 90, 91, 92, 93, 94, 95, 96, 97, 98, 99, 100, 101, 103, 104, 105, 106, 107, 108, 109, 110, 111, 112] J J5 → gr_GR I4 → gr_FV I4 → gv_X (gr_E ws0 tb 13 (yX13_mend, cX13_mend, 4, (some .int)) kX13_mend) (gv_Q cX13_mend (some .int) (gr_sh ++ ext) (fun r h' => (∃ (I' : gr_I) (J' : gr_J), h' = gr_h I' J' ∧ gr_Inv I' ∧ gr_fr [0, 68, 69, 70, 126, 127, 128, 143, 157, 158, 159, 160, 161, 166, 167, 168, 169, 170, 177, 179, 180, 181, 186] [51, 56, 57, 58, 76, 77, 78, 79, 83, 84, 85, 86, 87, 88, 89, 90, 91, 92, 93, 94, 95, 96, 97, 98, 99, 100, 101, 103, 104, 105, 106, 107, 108, 109, 110, 111, 112] I I' ∧ gr_fj [0, 68, 69, 70, 126, 127, 128, 143, 157, 158, 159, 160, 161, 166, 167, 168, 169, 170, 177, 179, 180, 181, 186] [51, 56, 57, 58, 76, 77, 78, 79, 83, 84, 85, 86, 87, 88, 89, 90, 91, 92, 93, 94, 95, 96, 97, 98, 99, 100, 101, 103, 104, 105, 106, 107, 108, 109, 110, 111, 112] J J' ∧ gr_GR I' ∧ gr_FV I' ∧ (∃ z : Int, r = some (.inl z) ∧ (-3) ≤ z ∧ z ≤ 3)))) (16, [], [], gr_sh ++ ext, gr_h I4 J5) := by
    intro I4 J5 hI4 FI4 FJ5 KGR_I4 KFV_I4
    have f7 := (show 0 ≤ I4 0 143 ∧ I4 0 143 ≤ 24 from (hI4 0 143).1)
    have f8 := (show (-1) ≤ I4 0 177 ∧ I4 0 177 ≤ 2999 from (hI4 0 177).1)
    have f9 := (show 0 ≤ I4 0 186 ∧ I4 0 186 ≤ 16 from (hI4 0 186).1)
    refine gv_run 1 true hD (pc' := 17) (lv' := []) (st' := [.inl 0]) (h' := gr_h I4 J5) (C := (True ∧ True)) rfl ⟨trivial, trivial⟩ ?_
    exact gv_iret hD rfl ⟨I4, J5, rfl, hI4, FI4, FJ5, KGR_I4, KFV_I4, ⟨_, rfl, by omega⟩⟩
  have L39 : ∀ (I10 : gr_I) (J11 : gr_J) , gr_Inv I10 → gr_fr [0, 68, 69, 70, 126, 127, 128, 143, 157, 158, 159, 160, 161, 166, 167, 168, 169, 170, 177, 179, 180, 181, 186] [51, 56, 57, 58, 76, 77, 78, 79, 83, 84, 85, 86, 87, 88, 89, 90, 91, 92, 93, 94, 95, 96, 97, 98, 99, 100, 101, 103, 104, 105, 106, 107, 108, 109, 110, 111, 112] I I10 → gr_fj [0, 68, 69, 70, 126, 127, 128, 143, 157, 158, 159, 160, 161, 166, 167, 168, 169, 170, 177, 179, 180, 181, 186] [51, 56, 57, 58, 76, 77, 78, 79, 83, 84, 85, 86, 87, 88, 89, 90, 91, 92, 93, 94, 95, 96, 97, 98, 99, 100, 101, 103, 104, 105, 106, 107, 108, 109, 110, 111, 112] J J11 → gr_GR I10 → gr_FV I10 → gv_X (gr_E ws0 tb 13 (yX13_mend, cX13_mend, 4, (some .int)) kX13_mend) (gv_Q cX13_mend (some .int) (gr_sh ++ ext) (fun r h' => (∃ (I' : gr_I) (J' : gr_J), h' = gr_h I' J' ∧ gr_Inv I' ∧ gr_fr [0, 68, 69, 70, 126, 127, 128, 143, 157, 158, 159, 160, 161, 166, 167, 168, 169, 170, 177, 179, 180, 181, 186] [51, 56, 57, 58, 76, 77, 78, 79, 83, 84, 85, 86, 87, 88, 89, 90, 91, 92, 93, 94, 95, 96, 97, 98, 99, 100, 101, 103, 104, 105, 106, 107, 108, 109, 110, 111, 112] I I' ∧ gr_fj [0, 68, 69, 70, 126, 127, 128, 143, 157, 158, 159, 160, 161, 166, 167, 168, 169, 170, 177, 179, 180, 181, 186] [51, 56, 57, 58, 76, 77, 78, 79, 83, 84, 85, 86, 87, 88, 89, 90, 91, 92, 93, 94, 95, 96, 97, 98, 99, 100, 101, 103, 104, 105, 106, 107, 108, 109, 110, 111, 112] J J' ∧ gr_GR I' ∧ gr_FV I' ∧ (∃ z : Int, r = some (.inl z) ∧ (-3) ≤ z ∧ z ≤ 3)))) (39, [(0, .inr (.inr (some 0)))], [], gr_sh ++ ext, gr_h I10 J11) := by
    intro I10 J11 hI10 FI10 FJ11 KGR_I10 KFV_I10
    have f13 := (show 0 ≤ I10 0 143 ∧ I10 0 143 ≤ 24 from (hI10 0 143).1)
    have f14 := (show (-1) ≤ I10 0 177 ∧ I10 0 177 ≤ 2999 from (hI10 0 177).1)
    have f15 := (show 0 ≤ I10 0 186 ∧ I10 0 186 ≤ 16 from (hI10 0 186).1)
    refine gv_run 1 true hD (pc' := 40) (lv' := [(0, .inr (.inr (some 0)))]) (st' := [.inr (.inr (some 0))]) (h' := gr_h I10 J11) (C := (True ∧ True)) rfl ⟨trivial, trivial⟩ ?_
    obtain ⟨r16, h16, E16, P16⟩ := r_noForest_f (ws0 := ws0) (tb := tb) hws htb ext I10 J11 hI10   
    obtain ⟨I17, J18, rfl, hI17, g16, k16, ⟨rfl, q16⟩⟩ := P16
    have FI17 := gr_frt FI10 g16 rfl rfl
    have FJ18 := gr_fjt FJ11 k16 rfl rfl
    have t19 := g16 0 143 rfl
    have f20 := (show 0 ≤ I17 0 143 ∧ I17 0 143 ≤ 24 from (hI17 0 143).1)
    have f21 := (show (-1) ≤ I17 0 177 ∧ I17 0 177 ≤ 2999 from (hI17 0 177).1)
    have f22 := (show 0 ≤ I17 0 186 ∧ I17 0 186 ≤ 16 from (hI17 0 186).1)
    have KGR_I17 := gr_GR_fr KGR_I10 (fun k => g16 19 k rfl) (fun k => g16 18 k rfl) (fun k => g16 36 k rfl) (fun k => g16 41 k rfl) (fun k => g16 42 k rfl) (fun k => g16 43 k rfl) (fun k => g16 45 k rfl) (fun k => g16 46 k rfl) (fun k => g16 47 k rfl) (fun k => g16 6 k rfl) (fun k => g16 7 k rfl) (fun k => g16 8 k rfl) (g16 0 3 rfl)
    have KFV_I17 : gr_FV I17 := (gr_FV_no (by omega) (by omega))
    refine gv_callV hD rfl (As := []) (st := []) rfl (by decide) rfl rfl (gr_lV hws rfl) (Nat.le_of_ble_eq_true rfl) (gz_Ev_mono (d := 1) (by decide) E16) ?_
    show gv_X _ _ (43, [(0, .inr (.inr (some 0)))], [], gr_sh ++ ext, gr_h I17 J18)
    refine gv_run 1 true hD (pc' := 45) (lv' := [(0, .inr (.inr (some 0)))]) (st' := [.inl (-3)]) (h' := gr_h I17 J18) (C := (True ∧ True)) rfl ⟨trivial, trivial⟩ ?_
    exact gv_iret hD rfl ⟨I17, J18, rfl, hI17, FI17, FJ18, KGR_I17, KFV_I17, ⟨_, rfl, by omega⟩⟩
  have L73 : ∀ (I23 : gr_I) (J24 : gr_J) (v3_25 : Int), gr_Inv I23 → gr_fr [0, 68, 69, 70, 126, 127, 128, 143, 157, 158, 159, 160, 161, 166, 167, 168, 169, 170, 177, 179, 180, 181, 186] [51, 56, 57, 58, 76, 77, 78, 79, 83, 84, 85, 86, 87, 88, 89, 90, 91, 92, 93, 94, 95, 96, 97, 98, 99, 100, 101, 103, 104, 105, 106, 107, 108, 109, 110, 111, 112] I I23 → gr_fj [0, 68, 69, 70, 126, 127, 128, 143, 157, 158, 159, 160, 161, 166, 167, 168, 169, 170, 177, 179, 180, 181, 186] [51, 56, 57, 58, 76, 77, 78, 79, 83, 84, 85, 86, 87, 88, 89, 90, 91, 92, 93, 94, 95, 96, 97, 98, 99, 100, 101, 103, 104, 105, 106, 107, 108, 109, 110, 111, 112] J J24 → gr_GR I23 → gr_FV I23 → (((-1) ≤ v3_25 ∧ v3_25 ≤ 3)) → gv_X (gr_E ws0 tb 13 (yX13_mend, cX13_mend, 4, (some .int)) kX13_mend) (gv_Q cX13_mend (some .int) (gr_sh ++ ext) (fun r h' => (∃ (I' : gr_I) (J' : gr_J), h' = gr_h I' J' ∧ gr_Inv I' ∧ gr_fr [0, 68, 69, 70, 126, 127, 128, 143, 157, 158, 159, 160, 161, 166, 167, 168, 169, 170, 177, 179, 180, 181, 186] [51, 56, 57, 58, 76, 77, 78, 79, 83, 84, 85, 86, 87, 88, 89, 90, 91, 92, 93, 94, 95, 96, 97, 98, 99, 100, 101, 103, 104, 105, 106, 107, 108, 109, 110, 111, 112] I I' ∧ gr_fj [0, 68, 69, 70, 126, 127, 128, 143, 157, 158, 159, 160, 161, 166, 167, 168, 169, 170, 177, 179, 180, 181, 186] [51, 56, 57, 58, 76, 77, 78, 79, 83, 84, 85, 86, 87, 88, 89, 90, 91, 92, 93, 94, 95, 96, 97, 98, 99, 100, 101, 103, 104, 105, 106, 107, 108, 109, 110, 111, 112] J J' ∧ gr_GR I' ∧ gr_FV I' ∧ (∃ z : Int, r = some (.inl z) ∧ (-3) ≤ z ∧ z ≤ 3)))) (73, [(3, .inl v3_25)], [], gr_sh ++ ext, gr_h I23 J24) := by
    intro I23 J24 v3_25 hI23 FI23 FJ24 KGR_I23 KFV_I23 m_25
    have hv3_25 := m_25
    have f26 := (show 0 ≤ I23 0 143 ∧ I23 0 143 ≤ 24 from (hI23 0 143).1)
    have f27 := (show (-1) ≤ I23 0 177 ∧ I23 0 177 ≤ 2999 from (hI23 0 177).1)
    have f28 := (show 0 ≤ I23 0 186 ∧ I23 0 186 ≤ 16 from (hI23 0 186).1)
    refine gv_run 1 true hD (pc' := 74) (lv' := [(3, .inl v3_25)]) (st' := [.inl v3_25]) (h' := gr_h I23 J24) (C := (True ∧ True)) rfl ⟨trivial, trivial⟩ ?_
    exact gv_iret hD rfl ⟨I23, J24, rfl, hI23, FI23, FJ24, KGR_I23, KFV_I23, ⟨_, rfl, by omega⟩⟩
  refine gv_run 2 true hD (pc' := 2) (lv' := [(0, .inr (.inr (some 0))), (1, .inl a1), (2, .inl a2)]) (st' := [.inl a1, .inr (.inr (some 0))]) (h' := gr_h I J) (C := ((True ∧ True) ∧ True)) rfl ⟨⟨trivial, trivial⟩, trivial⟩ ?_
  obtain ⟨r29, h29, E29, P29⟩ := r_noTongue (ws0 := ws0) (tb := tb) hws htb ext I J hI a1 ⟨by omega, by omega⟩ 
  obtain ⟨I30, J31, rfl, hI30, g29, k29, ⟨z29, rfl, q29⟩⟩ := P29
  have FI30 := gr_frt FI g29 rfl rfl
  have FJ31 := gr_fjt FJ k29 rfl rfl
  have t32 := g29 0 143 rfl
  have t33 := g29 0 177 rfl
  have t34 := g29 0 186 rfl
  have f35 := (show 0 ≤ I30 0 143 ∧ I30 0 143 ≤ 24 from (hI30 0 143).1)
  have f36 := (show (-1) ≤ I30 0 177 ∧ I30 0 177 ≤ 2999 from (hI30 0 177).1)
  have f37 := (show 0 ≤ I30 0 186 ∧ I30 0 186 ≤ 16 from (hI30 0 186).1)
  have KGR_I30 := gr_GR_fr KGR_I (fun k => g29 19 k rfl) (fun k => g29 18 k rfl) (fun k => g29 36 k rfl) (fun k => g29 41 k rfl) (fun k => g29 42 k rfl) (fun k => g29 43 k rfl) (fun k => g29 45 k rfl) (fun k => g29 46 k rfl) (fun k => g29 47 k rfl) (fun k => g29 6 k rfl) (fun k => g29 7 k rfl) (fun k => g29 8 k rfl) (g29 0 3 rfl)
  have KFV_I30 := gr_FV_fr KFV_I (fun k => g29 87 k rfl) (fun k => g29 88 k rfl) (fun k => g29 104 k rfl) (fun k => g29 90 k rfl) (fun k => g29 91 k rfl) (fun k => g29 92 k rfl) (fun k => g29 94 k rfl) (fun k => g29 95 k rfl) (fun k => g29 97 k rfl) (fun k => g29 98 k rfl) (fun k => g29 19 k rfl) (fun k => g29 18 k rfl) (fun k => g29 41 k rfl) (fun k => g29 6 k rfl) (fun k => g29 99 k rfl) (fun k => g29 105 k rfl) (fun k => g29 107 k rfl) (fun k => g29 108 k rfl) (fun k => g29 110 k rfl) (fun k => g29 111 k rfl) (g29 0 157 rfl) (g29 0 158 rfl) (g29 0 177 rfl) (g29 0 186 rfl) (g29 0 159 rfl) hI
  refine gv_callV hD rfl (As := [.inl a1]) (st := []) rfl (by decide) rfl rfl (gr_lV hws rfl) (Nat.le_of_ble_eq_true rfl) (gz_Ev_mono (d := 1) (by decide) E29) ?_
  show gv_X _ _ (5, [(0, .inr (.inr (some 0))), (1, .inl a1), (2, .inl a2)], [.inl z29], gr_sh ++ ext, gr_h I30 J31)
  refine gv_if_ne (t := 16) hD rfl rfl ⟨by omega, by omega⟩ (fun c38 => ?_) (fun c38 => ?_)
  · refine gv_pick [] rfl ?_
    exact L16 I30 J31 hI30 FI30 FJ31 KGR_I30 KFV_I30
  · refine gv_run 2 true hD (pc' := 10) (lv' := [(0, .inr (.inr (some 0))), (1, .inl a1), (2, .inl a2)]) (st' := [.inl a2, .inr (.inr (some 0))]) (h' := gr_h I30 J31) (C := ((True ∧ True) ∧ True)) rfl ⟨⟨trivial, trivial⟩, trivial⟩ ?_
    obtain ⟨r39, h39, E39, P39⟩ := r_noKind (ws0 := ws0) (tb := tb) hws htb ext I30 J31 hI30 a2 ⟨by omega, by omega⟩ 
    obtain ⟨I40, J41, rfl, hI40, g39, k39, ⟨z39, rfl, q39⟩⟩ := P39
    have FI40 := gr_frt FI30 g39 rfl rfl
    have FJ41 := gr_fjt FJ31 k39 rfl rfl
    have t42 := g39 0 143 rfl
    have t43 := g39 0 177 rfl
    have t44 := g39 0 186 rfl
    have f45 := (show 0 ≤ I40 0 143 ∧ I40 0 143 ≤ 24 from (hI40 0 143).1)
    have f46 := (show (-1) ≤ I40 0 177 ∧ I40 0 177 ≤ 2999 from (hI40 0 177).1)
    have f47 := (show 0 ≤ I40 0 186 ∧ I40 0 186 ≤ 16 from (hI40 0 186).1)
    have KGR_I40 := gr_GR_fr KGR_I30 (fun k => g39 19 k rfl) (fun k => g39 18 k rfl) (fun k => g39 36 k rfl) (fun k => g39 41 k rfl) (fun k => g39 42 k rfl) (fun k => g39 43 k rfl) (fun k => g39 45 k rfl) (fun k => g39 46 k rfl) (fun k => g39 47 k rfl) (fun k => g39 6 k rfl) (fun k => g39 7 k rfl) (fun k => g39 8 k rfl) (g39 0 3 rfl)
    have KFV_I40 := gr_FV_fr KFV_I30 (fun k => g39 87 k rfl) (fun k => g39 88 k rfl) (fun k => g39 104 k rfl) (fun k => g39 90 k rfl) (fun k => g39 91 k rfl) (fun k => g39 92 k rfl) (fun k => g39 94 k rfl) (fun k => g39 95 k rfl) (fun k => g39 97 k rfl) (fun k => g39 98 k rfl) (fun k => g39 19 k rfl) (fun k => g39 18 k rfl) (fun k => g39 41 k rfl) (fun k => g39 6 k rfl) (fun k => g39 99 k rfl) (fun k => g39 105 k rfl) (fun k => g39 107 k rfl) (fun k => g39 108 k rfl) (fun k => g39 110 k rfl) (fun k => g39 111 k rfl) (g39 0 157 rfl) (g39 0 158 rfl) (g39 0 177 rfl) (g39 0 186 rfl) (g39 0 159 rfl) hI30
    refine gv_callV hD rfl (As := [.inl a2]) (st := []) rfl (by decide) rfl rfl (gr_lV hws rfl) (Nat.le_of_ble_eq_true rfl) (gz_Ev_mono (d := 1) (by decide) E39) ?_
    show gv_X _ _ (13, [(0, .inr (.inr (some 0))), (1, .inl a1), (2, .inl a2)], [.inl z39], gr_sh ++ ext, gr_h I40 J41)
    refine gv_if_eq (t := 18) hD rfl rfl ⟨by omega, by omega⟩ (fun c48 => ?_) (fun c48 => ?_)
    · refine gv_run 3 true hD (pc' := 23) (lv' := [(0, .inr (.inr (some 0))), (1, .inl a1), (2, .inl a2)]) (st' := []) (h' := gz_up (gr_h I40 J41) 0 70 (.inl 0)) (C := (((True ∧ True) ∧ True) ∧ True)) rfl ⟨⟨⟨trivial, trivial⟩, trivial⟩, trivial⟩ ?_
      refine gr_st hI40 FI40 rfl rfl ⟨⟨by show 0 ≤ _; omega, by show _ ≤ 1000; omega⟩, trivial⟩ (fun I49 hI49 FI49 q50 p50 => ?_)
      have t51 := p50 0 143 (by decide)
      have t52 := p50 0 177 (by decide)
      have t53 := p50 0 186 (by decide)
      have f54 := (show 0 ≤ I49 0 143 ∧ I49 0 143 ≤ 24 from (hI49 0 143).1)
      have f55 := (show (-1) ≤ I49 0 177 ∧ I49 0 177 ≤ 2999 from (hI49 0 177).1)
      have f56 := (show 0 ≤ I49 0 186 ∧ I49 0 186 ≤ 16 from (hI49 0 186).1)
      have KGR_I49 := gr_GR_fr KGR_I40 (fun k => p50 19 k (fun q => absurd q.1 (by decide))) (fun k => p50 18 k (fun q => absurd q.1 (by decide))) (fun k => p50 36 k (fun q => absurd q.1 (by decide))) (fun k => p50 41 k (fun q => absurd q.1 (by decide))) (fun k => p50 42 k (fun q => absurd q.1 (by decide))) (fun k => p50 43 k (fun q => absurd q.1 (by decide))) (fun k => p50 45 k (fun q => absurd q.1 (by decide))) (fun k => p50 46 k (fun q => absurd q.1 (by decide))) (fun k => p50 47 k (fun q => absurd q.1 (by decide))) (fun k => p50 6 k (fun q => absurd q.1 (by decide))) (fun k => p50 7 k (fun q => absurd q.1 (by decide))) (fun k => p50 8 k (fun q => absurd q.1 (by decide))) (p50 0 3 (by decide))
      have KFV_I49 := gr_FV_fr KFV_I40 (fun k => p50 87 k (fun q => absurd q.1 (by decide))) (fun k => p50 88 k (fun q => absurd q.1 (by decide))) (fun k => p50 104 k (fun q => absurd q.1 (by decide))) (fun k => p50 90 k (fun q => absurd q.1 (by decide))) (fun k => p50 91 k (fun q => absurd q.1 (by decide))) (fun k => p50 92 k (fun q => absurd q.1 (by decide))) (fun k => p50 94 k (fun q => absurd q.1 (by decide))) (fun k => p50 95 k (fun q => absurd q.1 (by decide))) (fun k => p50 97 k (fun q => absurd q.1 (by decide))) (fun k => p50 98 k (fun q => absurd q.1 (by decide))) (fun k => p50 19 k (fun q => absurd q.1 (by decide))) (fun k => p50 18 k (fun q => absurd q.1 (by decide))) (fun k => p50 41 k (fun q => absurd q.1 (by decide))) (fun k => p50 6 k (fun q => absurd q.1 (by decide))) (fun k => p50 99 k (fun q => absurd q.1 (by decide))) (fun k => p50 105 k (fun q => absurd q.1 (by decide))) (fun k => p50 107 k (fun q => absurd q.1 (by decide))) (fun k => p50 108 k (fun q => absurd q.1 (by decide))) (fun k => p50 110 k (fun q => absurd q.1 (by decide))) (fun k => p50 111 k (fun q => absurd q.1 (by decide))) (p50 0 157 (by decide)) (p50 0 158 (by decide)) (p50 0 177 (by decide)) (p50 0 186 (by decide)) (p50 0 159 (by decide)) hI40
      refine gv_run 1 true hD (pc' := 24) (lv' := [(0, .inr (.inr (some 0))), (1, .inl a1), (2, .inl a2)]) (st' := [.inr (.inr (some 0))]) (h' := gr_h I49 J41) (C := (True ∧ True)) rfl ⟨trivial, trivial⟩ ?_
      obtain ⟨r57, h57, E57, P57⟩ := r_sentence (ws0 := ws0) (tb := tb) hws htb ext I49 J41 hI49   
      obtain ⟨I58, J59, rfl, hI58, g57, k57, ⟨z57, rfl, q57⟩⟩ := P57
      have FI58 := gr_frt FI49 g57 rfl rfl
      have FJ59 := gr_fjt FJ41 k57 rfl rfl
      have t60 := g57 0 177 rfl
      have t61 := g57 0 186 rfl
      have f62 := (show 0 ≤ I58 0 143 ∧ I58 0 143 ≤ 24 from (hI58 0 143).1)
      have f63 := (show (-1) ≤ I58 0 177 ∧ I58 0 177 ≤ 2999 from (hI58 0 177).1)
      have f64 := (show 0 ≤ I58 0 186 ∧ I58 0 186 ≤ 16 from (hI58 0 186).1)
      have KGR_I58 := gr_GR_fr KGR_I49 (fun k => g57 19 k rfl) (fun k => g57 18 k rfl) (fun k => g57 36 k rfl) (fun k => g57 41 k rfl) (fun k => g57 42 k rfl) (fun k => g57 43 k rfl) (fun k => g57 45 k rfl) (fun k => g57 46 k rfl) (fun k => g57 47 k rfl) (fun k => g57 6 k rfl) (fun k => g57 7 k rfl) (fun k => g57 8 k rfl) (g57 0 3 rfl)
      have KFV_I58 := gr_FV_fr KFV_I49 (fun k => g57 87 k rfl) (fun k => g57 88 k rfl) (fun k => g57 104 k rfl) (fun k => g57 90 k rfl) (fun k => g57 91 k rfl) (fun k => g57 92 k rfl) (fun k => g57 94 k rfl) (fun k => g57 95 k rfl) (fun k => g57 97 k rfl) (fun k => g57 98 k rfl) (fun k => g57 19 k rfl) (fun k => g57 18 k rfl) (fun k => g57 41 k rfl) (fun k => g57 6 k rfl) (fun k => g57 99 k rfl) (fun k => g57 105 k rfl) (fun k => g57 107 k rfl) (fun k => g57 108 k rfl) (fun k => g57 110 k rfl) (fun k => g57 111 k rfl) (g57 0 157 rfl) (g57 0 158 rfl) (g57 0 177 rfl) (g57 0 186 rfl) (g57 0 159 rfl) hI49
      refine gv_callV hD rfl (As := []) (st := []) rfl (by decide) rfl rfl (gr_lV hws rfl) (Nat.le_of_ble_eq_true rfl) (gz_Ev_mono (d := 2) (by decide) E57) ?_
      show gv_X _ _ (27, [(0, .inr (.inr (some 0))), (1, .inl a1), (2, .inl a2)], [.inl z57], gr_sh ++ ext, gr_h I58 J59)
      refine gv_if_eq (t := 39) hD rfl rfl ⟨by omega, by omega⟩ (fun c65 => ?_) (fun c65 => ?_)
      · refine gv_pick [0] rfl ?_
        exact L39 I58 J59 hI58 FI58 FJ59 KGR_I58 KFV_I58
      · have f66 := (show 0 ≤ I58 0 143 ∧ I58 0 143 ≤ 24 from (hI58 0 143).1)
        refine gv_run 3 true hD (pc' := 36) (lv' := [(0, .inr (.inr (some 0))), (1, .inl a1), (2, .inl a2)]) (st' := [.inl 12, .inl (I58 0 143)]) (h' := gr_h I58 J59) (C := (((True ∧ True) ∧ True) ∧ True)) rfl ⟨⟨⟨trivial, trivial⟩, trivial⟩, trivial⟩ ?_
        refine gv_icmp_le (t := 46) hD rfl rfl ⟨⟨by omega, by omega⟩, ⟨by omega, by omega⟩⟩ (fun c67 => ?_) (fun c67 => ?_)
        · refine gv_run 3 true hD (pc' := 51) (lv' := [(0, .inr (.inr (some 0))), (1, .inl a1), (2, .inl a2)]) (st' := []) (h' := gz_up (gr_h I58 J59) 0 161 (.inl 0)) (C := (((True ∧ True) ∧ True) ∧ True)) rfl ⟨⟨⟨trivial, trivial⟩, trivial⟩, trivial⟩ ?_
          refine gr_st hI58 FI58 rfl rfl ⟨⟨by show 0 ≤ _; omega, by show _ ≤ 400001; omega⟩, trivial⟩ (fun I68 hI68 FI68 q69 p69 => ?_)
          have t70 := p69 0 143 (by decide)
          have t71 := p69 0 177 (by decide)
          have t72 := p69 0 186 (by decide)
          have f73 := (show 0 ≤ I68 0 143 ∧ I68 0 143 ≤ 24 from (hI68 0 143).1)
          have f74 := (show (-1) ≤ I68 0 177 ∧ I68 0 177 ≤ 2999 from (hI68 0 177).1)
          have f75 := (show 0 ≤ I68 0 186 ∧ I68 0 186 ≤ 16 from (hI68 0 186).1)
          have KGR_I68 := gr_GR_fr KGR_I58 (fun k => p69 19 k (fun q => absurd q.1 (by decide))) (fun k => p69 18 k (fun q => absurd q.1 (by decide))) (fun k => p69 36 k (fun q => absurd q.1 (by decide))) (fun k => p69 41 k (fun q => absurd q.1 (by decide))) (fun k => p69 42 k (fun q => absurd q.1 (by decide))) (fun k => p69 43 k (fun q => absurd q.1 (by decide))) (fun k => p69 45 k (fun q => absurd q.1 (by decide))) (fun k => p69 46 k (fun q => absurd q.1 (by decide))) (fun k => p69 47 k (fun q => absurd q.1 (by decide))) (fun k => p69 6 k (fun q => absurd q.1 (by decide))) (fun k => p69 7 k (fun q => absurd q.1 (by decide))) (fun k => p69 8 k (fun q => absurd q.1 (by decide))) (p69 0 3 (by decide))
          have KFV_I68 := gr_FV_fr KFV_I58 (fun k => p69 87 k (fun q => absurd q.1 (by decide))) (fun k => p69 88 k (fun q => absurd q.1 (by decide))) (fun k => p69 104 k (fun q => absurd q.1 (by decide))) (fun k => p69 90 k (fun q => absurd q.1 (by decide))) (fun k => p69 91 k (fun q => absurd q.1 (by decide))) (fun k => p69 92 k (fun q => absurd q.1 (by decide))) (fun k => p69 94 k (fun q => absurd q.1 (by decide))) (fun k => p69 95 k (fun q => absurd q.1 (by decide))) (fun k => p69 97 k (fun q => absurd q.1 (by decide))) (fun k => p69 98 k (fun q => absurd q.1 (by decide))) (fun k => p69 19 k (fun q => absurd q.1 (by decide))) (fun k => p69 18 k (fun q => absurd q.1 (by decide))) (fun k => p69 41 k (fun q => absurd q.1 (by decide))) (fun k => p69 6 k (fun q => absurd q.1 (by decide))) (fun k => p69 99 k (fun q => absurd q.1 (by decide))) (fun k => p69 105 k (fun q => absurd q.1 (by decide))) (fun k => p69 107 k (fun q => absurd q.1 (by decide))) (fun k => p69 108 k (fun q => absurd q.1 (by decide))) (fun k => p69 110 k (fun q => absurd q.1 (by decide))) (fun k => p69 111 k (fun q => absurd q.1 (by decide))) (p69 0 157 (by decide)) (p69 0 158 (by decide)) (p69 0 177 (by decide)) (p69 0 186 (by decide)) (p69 0 159 (by decide)) hI58
          refine gv_run 3 true hD (pc' := 54) (lv' := [(0, .inr (.inr (some 0))), (1, .inl a1), (2, .inl a2)]) (st' := [.inl a2, .inl a1, .inr (.inr (some 0))]) (h' := gr_h I68 J59) (C := (((True ∧ True) ∧ True) ∧ True)) rfl ⟨⟨⟨trivial, trivial⟩, trivial⟩, trivial⟩ ?_
          obtain ⟨r76, h76, E76, P76⟩ := r_mended (ws0 := ws0) (tb := tb) hws htb ext I68 J59 hI68 a1 a2 ⟨by omega, by omega⟩ ⟨by omega, by omega⟩ (by omega) KGR_I68 KFV_I68
          obtain ⟨I77, J78, rfl, hI77, g76, k76, KGR_I77, KFV_I77, ⟨z76, rfl, q76⟩⟩ := P76
          have FI77 := gr_frt FI68 g76 rfl rfl
          have FJ78 := gr_fjt FJ59 k76 rfl rfl
          have f79 := (show 0 ≤ I77 0 143 ∧ I77 0 143 ≤ 24 from (hI77 0 143).1)
          have f80 := (show (-1) ≤ I77 0 177 ∧ I77 0 177 ≤ 2999 from (hI77 0 177).1)
          have f81 := (show 0 ≤ I77 0 186 ∧ I77 0 186 ≤ 16 from (hI77 0 186).1)
          refine gv_callV hD rfl (As := [.inl a1, .inl a2]) (st := []) rfl (by decide) rfl rfl (gr_lV hws rfl) (Nat.le_of_ble_eq_true rfl) (gz_Ev_mono (d := 13) (by decide) E76) ?_
          show gv_X _ _ (57, [(0, .inr (.inr (some 0))), (1, .inl a1), (2, .inl a2)], [.inl z76], gr_sh ++ ext, gr_h I77 J78)
          refine gv_run 2 true hD (pc' := 59) (lv' := [(3, .inl z76), (0, .inr (.inr (some 0))), (1, .inl a1), (2, .inl a2)]) (st' := [.inl z76]) (h' := gr_h I77 J78) (C := ((True ∧ True) ∧ True)) rfl ⟨⟨trivial, trivial⟩, trivial⟩ ?_
          refine gv_if_ge (t := 69) hD rfl rfl ⟨by omega, by omega⟩ (fun c82 => ?_) (fun c82 => ?_)
          · refine gv_run 1 true hD (pc' := 70) (lv' := [(3, .inl z76), (0, .inr (.inr (some 0))), (1, .inl a1), (2, .inl a2)]) (st' := [.inr (.inr (some 0))]) (h' := gr_h I77 J78) (C := (True ∧ True)) rfl ⟨trivial, trivial⟩ ?_
            obtain ⟨r83, h83, E83, P83⟩ := r_outSentence (ws0 := ws0) (tb := tb) hws htb ext I77 J78 hI77   
            obtain ⟨I84, J85, rfl, hI84, g83, k83, rfl⟩ := P83
            have FI84 := gr_frt FI77 g83 rfl rfl
            have FJ85 := gr_fjt FJ78 k83 rfl rfl
            have t86 := g83 0 143 rfl
            have t87 := g83 0 177 rfl
            have t88 := g83 0 186 rfl
            have f89 := (show 0 ≤ I84 0 143 ∧ I84 0 143 ≤ 24 from (hI84 0 143).1)
            have f90 := (show (-1) ≤ I84 0 177 ∧ I84 0 177 ≤ 2999 from (hI84 0 177).1)
            have f91 := (show 0 ≤ I84 0 186 ∧ I84 0 186 ≤ 16 from (hI84 0 186).1)
            have KGR_I84 := gr_GR_fr KGR_I77 (fun k => g83 19 k rfl) (fun k => g83 18 k rfl) (fun k => g83 36 k rfl) (fun k => g83 41 k rfl) (fun k => g83 42 k rfl) (fun k => g83 43 k rfl) (fun k => g83 45 k rfl) (fun k => g83 46 k rfl) (fun k => g83 47 k rfl) (fun k => g83 6 k rfl) (fun k => g83 7 k rfl) (fun k => g83 8 k rfl) (g83 0 3 rfl)
            have KFV_I84 := gr_FV_fr KFV_I77 (fun k => g83 87 k rfl) (fun k => g83 88 k rfl) (fun k => g83 104 k rfl) (fun k => g83 90 k rfl) (fun k => g83 91 k rfl) (fun k => g83 92 k rfl) (fun k => g83 94 k rfl) (fun k => g83 95 k rfl) (fun k => g83 97 k rfl) (fun k => g83 98 k rfl) (fun k => g83 19 k rfl) (fun k => g83 18 k rfl) (fun k => g83 41 k rfl) (fun k => g83 6 k rfl) (fun k => g83 99 k rfl) (fun k => g83 105 k rfl) (fun k => g83 107 k rfl) (fun k => g83 108 k rfl) (fun k => g83 110 k rfl) (fun k => g83 111 k rfl) (g83 0 157 rfl) (g83 0 158 rfl) (g83 0 177 rfl) (g83 0 186 rfl) (g83 0 159 rfl) hI77
            refine gv_callV hD rfl (As := []) (st := []) rfl (by decide) rfl rfl (gr_lV hws rfl) (Nat.le_of_ble_eq_true rfl) (gz_Ev_mono (d := 2) (by decide) E83) ?_
            show gv_X _ _ (73, [(3, .inl z76), (0, .inr (.inr (some 0))), (1, .inl a1), (2, .inl a2)], [], gr_sh ++ ext, gr_h I84 J85)
            refine gv_pick [0] rfl ?_
            exact L73 I84 J85 z76 hI84 FI84 FJ85 KGR_I84 KFV_I84 (by omega)
          · refine gv_run 1 true hD (pc' := 63) (lv' := [(3, .inl z76), (0, .inr (.inr (some 0))), (1, .inl a1), (2, .inl a2)]) (st' := [.inr (.inr (some 0))]) (h' := gr_h I77 J78) (C := (True ∧ True)) rfl ⟨trivial, trivial⟩ ?_
            obtain ⟨r92, h92, E92, P92⟩ := r_noForest_f (ws0 := ws0) (tb := tb) hws htb ext I77 J78 hI77   
            obtain ⟨I93, J94, rfl, hI93, g92, k92, ⟨rfl, q92⟩⟩ := P92
            have FI93 := gr_frt FI77 g92 rfl rfl
            have FJ94 := gr_fjt FJ78 k92 rfl rfl
            have t95 := g92 0 143 rfl
            have f96 := (show 0 ≤ I93 0 143 ∧ I93 0 143 ≤ 24 from (hI93 0 143).1)
            have f97 := (show (-1) ≤ I93 0 177 ∧ I93 0 177 ≤ 2999 from (hI93 0 177).1)
            have f98 := (show 0 ≤ I93 0 186 ∧ I93 0 186 ≤ 16 from (hI93 0 186).1)
            have KGR_I93 := gr_GR_fr KGR_I77 (fun k => g92 19 k rfl) (fun k => g92 18 k rfl) (fun k => g92 36 k rfl) (fun k => g92 41 k rfl) (fun k => g92 42 k rfl) (fun k => g92 43 k rfl) (fun k => g92 45 k rfl) (fun k => g92 46 k rfl) (fun k => g92 47 k rfl) (fun k => g92 6 k rfl) (fun k => g92 7 k rfl) (fun k => g92 8 k rfl) (g92 0 3 rfl)
            have KFV_I93 : gr_FV I93 := (gr_FV_no (by omega) (by omega))
            refine gv_callV hD rfl (As := []) (st := []) rfl (by decide) rfl rfl (gr_lV hws rfl) (Nat.le_of_ble_eq_true rfl) (gz_Ev_mono (d := 1) (by decide) E92) ?_
            show gv_X _ _ (66, [(3, .inl z76), (0, .inr (.inr (some 0))), (1, .inl a1), (2, .inl a2)], [], gr_sh ++ ext, gr_h I93 J94)
            refine gv_run 1 true hD (pc' := 73) (lv' := [(3, .inl z76), (0, .inr (.inr (some 0))), (1, .inl a1), (2, .inl a2)]) (st' := []) (h' := gr_h I93 J94) (C := (True ∧ True)) rfl ⟨trivial, trivial⟩ ?_
            refine gv_pick [0] rfl ?_
            exact L73 I93 J94 z76 hI93 FI93 FJ94 KGR_I93 KFV_I93 (by omega)
        · refine gv_pick [0] rfl ?_
          exact L39 I58 J59 hI58 FI58 FJ59 KGR_I58 KFV_I58
    · refine gv_pick [] rfl ?_
      exact L16 I40 J41 hI40 FI40 FJ41 KGR_I40 KFV_I40
