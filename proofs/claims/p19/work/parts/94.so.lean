/-! PARITY: a VALUE, a FORM -/
def gs_pkb (x f : Int) : Int := (Int32.ofInt (((Int32.ofInt x >>> (Int32.ofInt f &&& 31)).toInt)) &&& Int32.ofInt 7).toInt
def gs_pko (x n f : Int) : Int := (Int32.ofInt x ||| Int32.ofInt (((Int32.ofInt n <<< (Int32.ofInt f &&& 31)).toInt))).toInt
def gs_vl9 (β : Int → Int) (N : Int) (I : gr_I) (J : gr_J) (p : Int) : Int := gs_lt J 21 (48 * I 0 6) (I 14 (Int.toNat (I 0 6))) (gs_rn β N p)
def gs_ov2 (β : Int → Int) (N : Int) (I : gr_I) (k v p : Int) : Int := if v < 0 then -1 - gs_A β N p else if gs_pkb k (3 * I 24 (Int.toNat (48 * I 0 6 + v))) = 0 then gs_X β N p else -1 - gs_A β N p
def gs_ov (β : Int → Int) (N : Int) (I : gr_I) (J : gr_J) (k p : Int) : Int := gs_ov2 β N I k (gs_vl9 β N I J p) p
def gs_ovk2 (I : gr_I) (k v : Int) : Int := gs_pko k (I 25 (Int.toNat (48 * I 0 6 + v))) (3 * I 24 (Int.toNat (48 * I 0 6 + v)))
def gs_ovk (β : Int → Int) (N : Int) (I : gr_I) (J : gr_J) (k p : Int) : Int := gs_ovk2 I k (gs_vl9 β N I J p)
theorem gs_ov_at {β : Int → Int} {N : Int} {I : gr_I} {J : gr_J} {k p z : Int} (h : z = gs_lt J 21 (48 * I 0 6) (I 14 (Int.toNat (I 0 6))) (gs_rn β N p)) : gs_ov β N I J k p = gs_ov2 β N I k z p ∧ gs_ovk β N I J k p = gs_ovk2 I k z := by
  rw [h]
  exact ⟨rfl, rfl⟩
/-- parts of a FORM, joined by + -/
def gs_fm (β : Int → Int) (N : Int) : Nat → Int → Int
  | 0, q => q
  | m + 1, q => if (gs_T β N q = 2 ∧ ¬ (gs_V β N q < 1 ∨ 3 < gs_V β N q)) ∨ gs_T β N q = 3 then (if gs_T β N (gs_X β N q) = 43 then gs_fm β N m (gs_X β N (gs_X β N q)) else gs_X β N q) else -1 - gs_A β N q
theorem gs_fm_s {β : Int → Int} {N : Int} {m : Nat} {q : Int} (h : (gs_T β N q = 2 ∧ ¬ (gs_V β N q < 1 ∨ 3 < gs_V β N q)) ∨ gs_T β N q = 3) (g : gs_T β N (gs_X β N q) = 43) : gs_fm β N (m + 1) q = gs_fm β N m (gs_X β N (gs_X β N q)) := by
  show (if _ then _ else _) = _
  rw [if_pos h, if_pos g]
theorem gs_fm_e {β : Int → Int} {N : Int} {m : Nat} {q : Int} (h : (gs_T β N q = 2 ∧ ¬ (gs_V β N q < 1 ∨ 3 < gs_V β N q)) ∨ gs_T β N q = 3) (g : ¬ gs_T β N (gs_X β N q) = 43) : gs_fm β N (m + 1) q = gs_X β N q := by
  show (if _ then _ else _) = _
  rw [if_pos h, if_neg g]
theorem gs_fm_x {β : Int → Int} {N : Int} {m : Nat} {q : Int} (h : ¬ ((gs_T β N q = 2 ∧ ¬ (gs_V β N q < 1 ∨ 3 < gs_V β N q)) ∨ gs_T β N q = 3)) : gs_fm β N (m + 1) q = -1 - gs_A β N q := if_neg h
set_option maxHeartbeats 4000000 in
set_option maxRecDepth 100000 in
theorem r_oneValue_p {ws0 : List Cond} {tb : String → gz_T} (hws : ∀ w ∈ gr_ws, w ∈ ws0) (htb : tb RX13 = gr_T) (ext : gz_Sh) (β : Int → Int) (N9 : Int) (p9 : Int) (I : gr_I) (J : gr_J) (hI : gr_Inv I)   (x0 : I 0 71 = 5 ∨ I 0 73 ≤ I 0 69) (x1 : I 0 72 ≤ I 0 69) (x2 : I 0 71 = 0 ∨ (I 0 72 < I 0 73 ∧ I 0 72 < I 0 69)) (x3 : I 0 71 = 3 → 2 ≤ I 0 73 - I 0 72 ∧ I 0 73 - I 0 72 ≤ 14) (x4 : I 0 72 ≤ I 0 73) (x5 : 0 ≤ I 0 6) (x6 : I 0 71 = 1) (x7 : gr_ATp β N9 p9 I J) (x8 : 0 ≤ p9) : ∃ r h', gz_Ev ws0 tb 11 (yX13_oneValue, cX13_oneValue, 3, (some .boolean)) [.inr (.inr (some 0))] (gr_sh ++ ext) (gr_h I J) r (gr_sh ++ ext) h' 0 0 ∧ (∃ (I' : gr_I) (J' : gr_J), h' = gr_h I' J' ∧ gr_Inv I' ∧ gr_fr [71, 72, 73, 74, 75, 76, 77, 106] [] I I' ∧ gr_fj [71, 72, 73, 74, 75, 76, 77, 106] [] J J' ∧ (∃ z : Int, r = some (.inl z) ∧ 0 ≤ z ∧ z ≤ 1 ∧ (I' 0 71 = 5 ∨ I' 0 73 ≤ I' 0 69) ∧ (I' 0 72 ≤ I' 0 69) ∧ (I' 0 71 = 0 ∨ (I' 0 72 < I' 0 73 ∧ I' 0 72 < I' 0 69)) ∧ (I' 0 71 = 3 → 2 ≤ I' 0 73 - I' 0 72 ∧ I' 0 73 - I' 0 72 ≤ 14) ∧ (I' 0 72 ≤ I' 0 73) ∧ (I' 0 69 = I 0 69) ∧ (I 0 73 ≤ I' 0 73) ∧ (I 0 72 ≤ I' 0 72) ∧ (z = 0 ∨ I 0 73 ≤ I' 0 72) ∧ (gs_Or z (0 ≤ (gs_ov β N9 I J (I 0 106) p9) ∧ gr_ATp β N9 (gs_ov β N9 I J (I 0 106) p9) I' J' ∧ I' 0 106 = (gs_ovk β N9 I J (I 0 106) p9)) ((gs_ov β N9 I J (I 0 106) p9) < 0 ∧ I' 0 77 = -1 - (gs_ov β N9 I J (I 0 106) p9))))) := by
  have FI : gr_fr [71, 72, 73, 74, 75, 76, 77, 106] [] I I := fun _ _ _ => rfl
  have FJ : gr_fj [71, 72, 73, 74, 75, 76, 77, 106] [] J J := fun _ _ _ => rfl
  have hD : gv_D (gr_E ws0 tb 10 (yX13_oneValue, cX13_oneValue, 3, (some .boolean)) kX13_oneValue) := gq_ok oX13_oneValue
  refine gr_ev (d := 10) (l := kX13_oneValue) (Po := fun r h' => (∃ (I' : gr_I) (J' : gr_J), h' = gr_h I' J' ∧ gr_Inv I' ∧ gr_fr [71, 72, 73, 74, 75, 76, 77, 106] [] I I' ∧ gr_fj [71, 72, 73, 74, 75, 76, 77, 106] [] J J' ∧ (∃ z : Int, r = some (.inl z) ∧ 0 ≤ z ∧ z ≤ 1 ∧ (I' 0 71 = 5 ∨ I' 0 73 ≤ I' 0 69) ∧ (I' 0 72 ≤ I' 0 69) ∧ (I' 0 71 = 0 ∨ (I' 0 72 < I' 0 73 ∧ I' 0 72 < I' 0 69)) ∧ (I' 0 71 = 3 → 2 ≤ I' 0 73 - I' 0 72 ∧ I' 0 73 - I' 0 72 ≤ 14) ∧ (I' 0 72 ≤ I' 0 73) ∧ (I' 0 69 = I 0 69) ∧ (I 0 73 ≤ I' 0 73) ∧ (I 0 72 ≤ I' 0 72) ∧ (z = 0 ∨ I 0 73 ≤ I' 0 72) ∧ (gs_Or z (0 ≤ (gs_ov β N9 I J (I 0 106) p9) ∧ gr_ATp β N9 (gs_ov β N9 I J (I 0 106) p9) I' J' ∧ I' 0 106 = (gs_ovk β N9 I J (I 0 106) p9)) ((gs_ov β N9 I J (I 0 106) p9) < 0 ∧ I' 0 77 = -1 - (gs_ov β N9 I J (I 0 106) p9)))))) htb rfl (Nat.le_of_ble_eq_true rfl) ?_
  have tAT := gr_ATp_l x7
  have f1 := (show 0 ≤ I 0 71 ∧ I 0 71 ≤ 5 from (hI 0 71).1)
  have f2 := (show 0 ≤ I 0 72 ∧ I 0 72 ≤ 1000 from (hI 0 72).1)
  have f3 := (show 0 ≤ I 0 73 ∧ I 0 73 ≤ 1001 from (hI 0 73).1)
  have f4 := (show 0 ≤ I 0 69 ∧ I 0 69 ≤ 1000 from (hI 0 69).1)
  have f5 := (show (-1) ≤ I 0 6 ∧ I 0 6 ≤ 7 from (hI 0 6).1)
  have f6 := (show 0 ≤ I 0 106 ∧ I 0 106 ≤ 16777215 from (hI 0 106).1)
  have f7 := (show (-1) ≤ I 0 6 ∧ I 0 6 ≤ 7 from (hI 0 6).1)
  refine gv_run 7 true hD (pc' := 12) (lv' := [(0, .inr (.inr (some 0)))]) (st' := [.inr (.inr (some 0)), .inl (48 * (I 0 6)), .inr (.inr (some 21))]) (h' := gr_h I J) (C := (((((((True ∧ True) ∧ True) ∧ True) ∧ True) ∧ True) ∧ True) ∧ True)) rfl ⟨⟨⟨⟨⟨⟨⟨trivial, trivial⟩, trivial⟩, trivial⟩, trivial⟩, trivial⟩, trivial⟩, trivial⟩ ?_
  have f8 := (show (-1) ≤ I 0 6 ∧ I 0 6 ≤ 7 from (hI 0 6).1)
  have f9 := (show 0 ≤ I 14 (Int.toNat ((I 0 6))) ∧ I 14 (Int.toNat ((I 0 6))) ≤ 48 from (hI 14 (Int.toNat ((I 0 6)))).1)
  refine gv_run 4 true hD (pc' := 20) (lv' := [(0, .inr (.inr (some 0)))]) (st' := [.inl (I 14 (Int.toNat ((I 0 6)))), .inl (48 * (I 0 6)), .inr (.inr (some 21))]) (h' := gr_h I J) (C := ((((True ∧ True) ∧ True) ∧ True) ∧ (0 ≤ (I 0 6) ∧ (I 0 6) < ((8 : Nat) : Int)))) rfl ⟨⟨⟨⟨trivial, trivial⟩, trivial⟩, trivial⟩, ⟨by omega, by omega⟩⟩ ?_
  refine gv_run 2 true hD (pc' := 24) (lv' := [(0, .inr (.inr (some 0)))]) (st' := [.inr (.inl (J 0 75)), .inl (I 14 (Int.toNat ((I 0 6)))), .inl (48 * (I 0 6)), .inr (.inr (some 21))]) (h' := gr_h I J) (C := ((True ∧ True) ∧ True)) rfl ⟨⟨trivial, trivial⟩, trivial⟩ ?_
  obtain ⟨r10, h10, E10, P10⟩ := r_find_21_p (ws0 := ws0) (tb := tb) hws htb ext I J hI ((48 * (I 0 6))) ((I 14 (Int.toNat ((I 0 6))))) (J 0 75) ⟨by omega, by omega⟩ ⟨by omega, by omega⟩ (by omega)
  obtain ⟨rfl, ⟨z10, rfl, q10⟩⟩ := P10
  have t11 := q10.2.2.2.trans (gs_lt_eq (J := J) (row := 21) (o := 48 * I 0 6) (n := I 14 (Int.toNat (I 0 6))) (w := gs_rn β N9 p9) (fun k => rfl) (by omega) (by first | exact rfl | (rw [show ((I 0 6)) = I 0 6 from by omega]; exact rfl)) (gr_ATp_w x7))
  have V9 := gs_ov_at (k := I 0 106) t11
  refine gv_callS hD rfl (As := [.inr (.inr (some 21)), .inl (48 * (I 0 6)), .inl (I 14 (Int.toNat ((I 0 6)))), .inr (.inl (J 0 75))]) (st := []) rfl (gr_lS hws rfl) (Nat.le_of_ble_eq_true rfl) (gz_Ev_mono (d := 1) (by decide) E10) ?_
  show gv_X _ _ (27, [(0, .inr (.inr (some 0)))], [.inl z10], gr_sh ++ ext, gr_h I J)
  refine gv_run 2 true hD (pc' := 29) (lv' := [(1, .inl z10), (0, .inr (.inr (some 0)))]) (st' := [.inl z10]) (h' := gr_h I J) (C := ((True ∧ True) ∧ True)) rfl ⟨⟨trivial, trivial⟩, trivial⟩ ?_
  refine gv_if_ge (t := 38) hD rfl rfl ⟨by omega, by omega⟩ (fun c12 => ?_) (fun c12 => ?_)
  · have f13 := (show (-1) ≤ I 0 6 ∧ I 0 6 ≤ 7 from (hI 0 6).1)
    refine gv_run 7 true hD (pc' := 50) (lv' := [(1, .inl z10), (0, .inr (.inr (some 0)))]) (st' := [.inl (48 * (I 0 6)), .inr (.inr (some 24)), .inl 3]) (h' := gr_h I J) (C := (((((((True ∧ True) ∧ True) ∧ True) ∧ True) ∧ True) ∧ True) ∧ True)) rfl ⟨⟨⟨⟨⟨⟨⟨trivial, trivial⟩, trivial⟩, trivial⟩, trivial⟩, trivial⟩, trivial⟩, trivial⟩ ?_
    have f14 := (show 0 ≤ I 24 (Int.toNat (((48 * (I 0 6)) + z10))) ∧ I 24 (Int.toNat (((48 * (I 0 6)) + z10))) ≤ 7 from (hI 24 (Int.toNat (((48 * (I 0 6)) + z10)))).1)
    refine gv_run 3 true hD (pc' := 53) (lv' := [(1, .inl z10), (0, .inr (.inr (some 0)))]) (st' := [.inl (I 24 (Int.toNat (((48 * (I 0 6)) + z10)))), .inl 3]) (h' := gr_h I J) (C := (((True ∧ True) ∧ True) ∧ (0 ≤ (((48 * (I 0 6)) + z10)) ∧ (((48 * (I 0 6)) + z10)) < ((384 : Nat) : Int)))) rfl ⟨⟨⟨trivial, trivial⟩, trivial⟩, ⟨by omega, by omega⟩⟩ ?_
    have f15 := (show 0 ≤ I 0 106 ∧ I 0 106 ≤ 16777215 from (hI 0 106).1)
    have f16 := gw_shr (x := (I 0 106)) (y := ((3 * (I 24 (Int.toNat (((48 * (I 0 6)) + z10))))))) ⟨by omega, by omega⟩
    refine gv_run 7 true hD (pc' := 63) (lv' := [(2, .inl (3 * (I 24 (Int.toNat (((48 * (I 0 6)) + z10)))))), (1, .inl z10), (0, .inr (.inr (some 0)))]) (st' := [.inl 7, .inl ((Int32.ofInt (I 0 106) >>> (Int32.ofInt ((3 * (I 24 (Int.toNat (((48 * (I 0 6)) + z10)))))) &&& 31)).toInt)]) (h' := gr_h I J) (C := (((((((True ∧ True) ∧ True) ∧ True) ∧ True) ∧ True) ∧ True) ∧ True)) rfl ⟨⟨⟨⟨⟨⟨⟨trivial, trivial⟩, trivial⟩, trivial⟩, trivial⟩, trivial⟩, trivial⟩, trivial⟩ ?_
    have f17 := gw_and (x := (((Int32.ofInt (I 0 106) >>> (Int32.ofInt ((3 * (I 24 (Int.toNat (((48 * (I 0 6)) + z10)))))) &&& 31)).toInt))) (y := 7) ⟨by omega, by omega⟩
    refine gv_run 1 true hD (pc' := 64) (lv' := [(2, .inl (3 * (I 24 (Int.toNat (((48 * (I 0 6)) + z10)))))), (1, .inl z10), (0, .inr (.inr (some 0)))]) (st' := [.inl ((Int32.ofInt (((Int32.ofInt (I 0 106) >>> (Int32.ofInt ((3 * (I 24 (Int.toNat (((48 * (I 0 6)) + z10)))))) &&& 31)).toInt)) &&& Int32.ofInt 7).toInt)]) (h' := gr_h I J) (C := (True ∧ True)) rfl ⟨trivial, trivial⟩ ?_
    refine gv_if_eq (t := 73) hD rfl rfl ⟨by omega, by omega⟩ (fun c18 => ?_) (fun c18 => ?_)
    · have f19 := (show 0 ≤ I 0 106 ∧ I 0 106 ≤ 16777215 from (hI 0 106).1)
      refine gv_run 7 true hD (pc' := 85) (lv' := [(2, .inl (3 * (I 24 (Int.toNat (((48 * (I 0 6)) + z10)))))), (1, .inl z10), (0, .inr (.inr (some 0)))]) (st' := [.inr (.inr (some 0)), .inl 48, .inr (.inr (some 25)), .inl (I 0 106), .inr (.inr (some 0))]) (h' := gr_h I J) (C := (((((((True ∧ True) ∧ True) ∧ True) ∧ True) ∧ True) ∧ True) ∧ True)) rfl ⟨⟨⟨⟨⟨⟨⟨trivial, trivial⟩, trivial⟩, trivial⟩, trivial⟩, trivial⟩, trivial⟩, trivial⟩ ?_
      have f20 := (show (-1) ≤ I 0 6 ∧ I 0 6 ≤ 7 from (hI 0 6).1)
      have f21 := (show 0 ≤ I 25 (Int.toNat (((48 * (I 0 6)) + z10))) ∧ I 25 (Int.toNat (((48 * (I 0 6)) + z10))) ≤ 6 from (hI 25 (Int.toNat (((48 * (I 0 6)) + z10)))).1)
      refine gv_run 5 true hD (pc' := 92) (lv' := [(2, .inl (3 * (I 24 (Int.toNat (((48 * (I 0 6)) + z10)))))), (1, .inl z10), (0, .inr (.inr (some 0)))]) (st' := [.inl (I 25 (Int.toNat (((48 * (I 0 6)) + z10)))), .inl (I 0 106), .inr (.inr (some 0))]) (h' := gr_h I J) (C := (((((True ∧ True) ∧ True) ∧ True) ∧ True) ∧ (0 ≤ (((48 * (I 0 6)) + z10)) ∧ (((48 * (I 0 6)) + z10)) < ((384 : Nat) : Int)))) rfl ⟨⟨⟨⟨⟨trivial, trivial⟩, trivial⟩, trivial⟩, trivial⟩, ⟨by omega, by omega⟩⟩ ?_
      have f22 := gw_shl (x := ((I 25 (Int.toNat (((48 * (I 0 6)) + z10)))))) (y := ((3 * (I 24 (Int.toNat (((48 * (I 0 6)) + z10))))))) ⟨by omega, by omega⟩ ⟨by omega, by omega⟩
      have f23 := gw_or (x := (I 0 106)) (y := (((Int32.ofInt ((I 25 (Int.toNat (((48 * (I 0 6)) + z10))))) <<< (Int32.ofInt ((3 * (I 24 (Int.toNat (((48 * (I 0 6)) + z10)))))) &&& 31)).toInt))) ⟨by omega, by omega⟩ ⟨by omega, by omega⟩
      refine gv_run 3 true hD (pc' := 95) (lv' := [(2, .inl (3 * (I 24 (Int.toNat (((48 * (I 0 6)) + z10)))))), (1, .inl z10), (0, .inr (.inr (some 0)))]) (st' := [.inl ((Int32.ofInt (I 0 106) ||| Int32.ofInt (((Int32.ofInt ((I 25 (Int.toNat (((48 * (I 0 6)) + z10))))) <<< (Int32.ofInt ((3 * (I 24 (Int.toNat (((48 * (I 0 6)) + z10)))))) &&& 31)).toInt))).toInt), .inr (.inr (some 0))]) (h' := gr_h I J) (C := (((True ∧ True) ∧ True) ∧ True)) rfl ⟨⟨⟨trivial, trivial⟩, trivial⟩, trivial⟩ ?_
      refine gv_run 1 true hD (pc' := 98) (lv' := [(2, .inl (3 * (I 24 (Int.toNat (((48 * (I 0 6)) + z10)))))), (1, .inl z10), (0, .inr (.inr (some 0)))]) (st' := []) (h' := gz_up (gr_h I J) 0 106 (.inl (((Int32.ofInt (I 0 106) ||| Int32.ofInt (((Int32.ofInt ((I 25 (Int.toNat (((48 * (I 0 6)) + z10))))) <<< (Int32.ofInt ((3 * (I 24 (Int.toNat (((48 * (I 0 6)) + z10)))))) &&& 31)).toInt))).toInt)))) (C := (True ∧ True)) rfl ⟨trivial, trivial⟩ ?_
      refine gr_st hI FI rfl rfl ⟨⟨by show 0 ≤ _; omega, by show _ ≤ 16777215; omega⟩, trivial⟩ (fun I24 hI24 FI24 q25 p25 => ?_)
      have t26 := p25 0 71 (by decide)
      have t27 := p25 0 72 (by decide)
      have t28 := p25 0 73 (by decide)
      have t29 := p25 0 69 (by decide)
      have t30 := p25 0 6 (by decide)
      have f31 := (show 0 ≤ I24 0 71 ∧ I24 0 71 ≤ 5 from (hI24 0 71).1)
      have f32 := (show 0 ≤ I24 0 72 ∧ I24 0 72 ≤ 1000 from (hI24 0 72).1)
      have f33 := (show 0 ≤ I24 0 73 ∧ I24 0 73 ≤ 1001 from (hI24 0 73).1)
      have f34 := (show 0 ≤ I24 0 69 ∧ I24 0 69 ≤ 1000 from (hI24 0 69).1)
      have f35 := (show (-1) ≤ I24 0 6 ∧ I24 0 6 ≤ 7 from (hI24 0 6).1)
      have f36 := (show 0 ≤ I24 0 106 ∧ I24 0 106 ≤ 16777215 from (hI24 0 106).1)
      have A37 := gr_ATp_sf x7 p25 rfl
      refine gv_run 1 true hD (pc' := 99) (lv' := [(2, .inl (3 * (I 24 (Int.toNat (((48 * (I 0 6)) + z10)))))), (1, .inl z10), (0, .inr (.inr (some 0)))]) (st' := [.inr (.inr (some 0))]) (h' := gr_h I24 J) (C := (True ∧ True)) rfl ⟨trivial, trivial⟩ ?_
      obtain ⟨r38, h38, E38, P38⟩ := r_next_p (ws0 := ws0) (tb := tb) hws htb ext β N9 I24 J hI24   (by omega) A37.1.1 A37.1.2
      obtain ⟨I39, J40, rfl, hI39, g38, k38, ⟨rfl, q38⟩⟩ := P38
      have FI39 := gr_frt FI24 g38 rfl rfl
      have FJ40 := gr_fjt FJ k38 rfl rfl
      have t41 := g38 0 69 rfl
      have t42 := g38 0 6 rfl
      have t43 := g38 0 106 rfl
      have f44 := (show 0 ≤ I39 0 71 ∧ I39 0 71 ≤ 5 from (hI39 0 71).1)
      have f45 := (show 0 ≤ I39 0 72 ∧ I39 0 72 ≤ 1000 from (hI39 0 72).1)
      have f46 := (show 0 ≤ I39 0 73 ∧ I39 0 73 ≤ 1001 from (hI39 0 73).1)
      have f47 := (show 0 ≤ I39 0 69 ∧ I39 0 69 ≤ 1000 from (hI39 0 69).1)
      have f48 := (show (-1) ≤ I39 0 6 ∧ I39 0 6 ≤ 7 from (hI39 0 6).1)
      have f49 := (show 0 ≤ I39 0 106 ∧ I39 0 106 ≤ 16777215 from (hI39 0 106).1)
      have A50 := gr_ATp_nx A37 q38.2.2.2.2.2
      have t51 := gr_ATp_l A50
      refine gv_callV hD rfl (As := []) (st := []) rfl (by decide) rfl rfl (gr_lV hws rfl) (Nat.le_of_ble_eq_true rfl) (gz_Ev_mono (d := 10) (by decide) E38) ?_
      show gv_X _ _ (102, [(2, .inl (3 * (I 24 (Int.toNat (((48 * (I 0 6)) + z10)))))), (1, .inl z10), (0, .inr (.inr (some 0)))], [], gr_sh ++ ext, gr_h I39 J40)
      refine gv_run 1 true hD (pc' := 103) (lv' := [(2, .inl (3 * (I 24 (Int.toNat (((48 * (I 0 6)) + z10)))))), (1, .inl z10), (0, .inr (.inr (some 0)))]) (st' := [.inl 1]) (h' := gr_h I39 J40) (C := (True ∧ True)) rfl ⟨trivial, trivial⟩ ?_
      have b52 : (I39 0 71 = 5 ∨ I39 0 73 ≤ I39 0 69) ∧ (I39 0 72 ≤ I39 0 69) ∧ (I39 0 71 = 0 ∨ (I39 0 72 < I39 0 73 ∧ I39 0 72 < I39 0 69)) ∧ (I39 0 71 = 3 → 2 ≤ I39 0 73 - I39 0 72 ∧ I39 0 73 - I39 0 72 ≤ 14) ∧ (I39 0 72 ≤ I39 0 73) ∧ (I39 0 69 = I 0 69) ∧ (I 0 73 ≤ I39 0 73) ∧ (I 0 72 ≤ I39 0 72) ∧ ((1 : Int) = 0 ∨ I 0 73 ≤ I39 0 72) := by omega
      exact gv_zret hD rfl (by omega) ⟨I39, J40, rfl, hI39, FI39, FJ40, ⟨_, rfl, by omega, by omega, b52.1, b52.2.1, b52.2.2.1, b52.2.2.2.1, b52.2.2.2.2.1, b52.2.2.2.2.2.1, b52.2.2.2.2.2.2.1, b52.2.2.2.2.2.2.2.1, b52.2.2.2.2.2.2.2.2, (Or.inl ⟨by omega, by have e9 : (gs_ov β N9 I J (I 0 106) p9) = (gs_X β N9 p9) := (by rw [V9.1]; unfold gs_ov2 gs_pkb; (repeat first | rw [if_pos (by omega)] | rw [if_neg (by omega)])); rw [e9, V9.2]; exact ⟨by omega, A50, (by unfold gs_ovk2 gs_pko; omega)⟩⟩)⟩⟩
    · refine gv_run 2 true hD (pc' := 69) (lv' := [(2, .inl (3 * (I 24 (Int.toNat (((48 * (I 0 6)) + z10)))))), (1, .inl z10), (0, .inr (.inr (some 0)))]) (st' := [.inl 5, .inr (.inr (some 0))]) (h' := gr_h I J) (C := ((True ∧ True) ∧ True)) rfl ⟨⟨trivial, trivial⟩, trivial⟩ ?_
      obtain ⟨r53, h53, E53, P53⟩ := r_no__p (ws0 := ws0) (tb := tb) hws htb ext β N9 p9 I J hI 5 ⟨by omega, by omega⟩ x7 (by omega)
      obtain ⟨I54, J55, rfl, hI54, g53, k53, ⟨z53, rfl, q53⟩⟩ := P53
      have FI54 := gr_frt FI g53 rfl rfl
      have FJ55 := gr_fjt FJ k53 rfl rfl
      have t56 := g53 0 71 rfl
      have t57 := g53 0 72 rfl
      have t58 := g53 0 73 rfl
      have t59 := g53 0 69 rfl
      have t60 := g53 0 6 rfl
      have t61 := g53 0 106 rfl
      have f62 := (show 0 ≤ I54 0 71 ∧ I54 0 71 ≤ 5 from (hI54 0 71).1)
      have f63 := (show 0 ≤ I54 0 72 ∧ I54 0 72 ≤ 1000 from (hI54 0 72).1)
      have f64 := (show 0 ≤ I54 0 73 ∧ I54 0 73 ≤ 1001 from (hI54 0 73).1)
      have f65 := (show 0 ≤ I54 0 69 ∧ I54 0 69 ≤ 1000 from (hI54 0 69).1)
      have f66 := (show (-1) ≤ I54 0 6 ∧ I54 0 6 ≤ 7 from (hI54 0 6).1)
      have f67 := (show 0 ≤ I54 0 106 ∧ I54 0 106 ≤ 16777215 from (hI54 0 106).1)
      have A68 := gr_ATp_F x7 g53 k53 rfl
      have t69 := gr_ATp_l A68
      refine gv_callV hD rfl (As := [.inl 5]) (st := []) rfl (by decide) rfl rfl (gr_lV hws rfl) (Nat.le_of_ble_eq_true rfl) (gz_Ev_mono (d := 2) (by decide) E53) ?_
      show gv_X _ _ (72, [(2, .inl (3 * (I 24 (Int.toNat (((48 * (I 0 6)) + z10)))))), (1, .inl z10), (0, .inr (.inr (some 0)))], [.inl z53], gr_sh ++ ext, gr_h I54 J55)
      have b70 : (I54 0 71 = 5 ∨ I54 0 73 ≤ I54 0 69) ∧ (I54 0 72 ≤ I54 0 69) ∧ (I54 0 71 = 0 ∨ (I54 0 72 < I54 0 73 ∧ I54 0 72 < I54 0 69)) ∧ (I54 0 71 = 3 → 2 ≤ I54 0 73 - I54 0 72 ∧ I54 0 73 - I54 0 72 ≤ 14) ∧ (I54 0 72 ≤ I54 0 73) ∧ (I54 0 69 = I 0 69) ∧ (I 0 73 ≤ I54 0 73) ∧ (I 0 72 ≤ I54 0 72) ∧ ((z53 : Int) = 0 ∨ I 0 73 ≤ I54 0 72) := by omega
      exact gv_zret hD rfl (by omega) ⟨I54, J55, rfl, hI54, FI54, FJ55, ⟨_, rfl, by omega, by omega, b70.1, b70.2.1, b70.2.2.1, b70.2.2.2.1, b70.2.2.2.2.1, b70.2.2.2.2.2.1, b70.2.2.2.2.2.2.1, b70.2.2.2.2.2.2.2.1, b70.2.2.2.2.2.2.2.2, (Or.inr ⟨by omega, by rw [V9.1]; unfold gs_ov2 gs_pkb; (repeat first | rw [if_pos (by omega)] | rw [if_neg (by omega)]); exact ⟨by omega, by omega⟩⟩)⟩⟩
  · refine gv_run 2 true hD (pc' := 34) (lv' := [(1, .inl z10), (0, .inr (.inr (some 0)))]) (st' := [.inl 5, .inr (.inr (some 0))]) (h' := gr_h I J) (C := ((True ∧ True) ∧ True)) rfl ⟨⟨trivial, trivial⟩, trivial⟩ ?_
    obtain ⟨r71, h71, E71, P71⟩ := r_no__p (ws0 := ws0) (tb := tb) hws htb ext β N9 p9 I J hI 5 ⟨by omega, by omega⟩ x7 (by omega)
    obtain ⟨I72, J73, rfl, hI72, g71, k71, ⟨z71, rfl, q71⟩⟩ := P71
    have FI72 := gr_frt FI g71 rfl rfl
    have FJ73 := gr_fjt FJ k71 rfl rfl
    have t74 := g71 0 71 rfl
    have t75 := g71 0 72 rfl
    have t76 := g71 0 73 rfl
    have t77 := g71 0 69 rfl
    have t78 := g71 0 6 rfl
    have t79 := g71 0 106 rfl
    have f80 := (show 0 ≤ I72 0 71 ∧ I72 0 71 ≤ 5 from (hI72 0 71).1)
    have f81 := (show 0 ≤ I72 0 72 ∧ I72 0 72 ≤ 1000 from (hI72 0 72).1)
    have f82 := (show 0 ≤ I72 0 73 ∧ I72 0 73 ≤ 1001 from (hI72 0 73).1)
    have f83 := (show 0 ≤ I72 0 69 ∧ I72 0 69 ≤ 1000 from (hI72 0 69).1)
    have f84 := (show (-1) ≤ I72 0 6 ∧ I72 0 6 ≤ 7 from (hI72 0 6).1)
    have f85 := (show 0 ≤ I72 0 106 ∧ I72 0 106 ≤ 16777215 from (hI72 0 106).1)
    have A86 := gr_ATp_F x7 g71 k71 rfl
    have t87 := gr_ATp_l A86
    refine gv_callV hD rfl (As := [.inl 5]) (st := []) rfl (by decide) rfl rfl (gr_lV hws rfl) (Nat.le_of_ble_eq_true rfl) (gz_Ev_mono (d := 2) (by decide) E71) ?_
    show gv_X _ _ (37, [(1, .inl z10), (0, .inr (.inr (some 0)))], [.inl z71], gr_sh ++ ext, gr_h I72 J73)
    have b88 : (I72 0 71 = 5 ∨ I72 0 73 ≤ I72 0 69) ∧ (I72 0 72 ≤ I72 0 69) ∧ (I72 0 71 = 0 ∨ (I72 0 72 < I72 0 73 ∧ I72 0 72 < I72 0 69)) ∧ (I72 0 71 = 3 → 2 ≤ I72 0 73 - I72 0 72 ∧ I72 0 73 - I72 0 72 ≤ 14) ∧ (I72 0 72 ≤ I72 0 73) ∧ (I72 0 69 = I 0 69) ∧ (I 0 73 ≤ I72 0 73) ∧ (I 0 72 ≤ I72 0 72) ∧ ((z71 : Int) = 0 ∨ I 0 73 ≤ I72 0 72) := by omega
    exact gv_zret hD rfl (by omega) ⟨I72, J73, rfl, hI72, FI72, FJ73, ⟨_, rfl, by omega, by omega, b88.1, b88.2.1, b88.2.2.1, b88.2.2.2.1, b88.2.2.2.2.1, b88.2.2.2.2.2.1, b88.2.2.2.2.2.2.1, b88.2.2.2.2.2.2.2.1, b88.2.2.2.2.2.2.2.2, (Or.inr ⟨by omega, by rw [V9.1]; unfold gs_ov2 gs_pkb; (repeat first | rw [if_pos (by omega)] | rw [if_neg (by omega)]); exact ⟨by omega, by omega⟩⟩)⟩⟩
set_option maxHeartbeats 4000000 in
set_option maxRecDepth 100000 in
theorem r_form_p {ws0 : List Cond} {tb : String → gz_T} (hws : ∀ w ∈ gr_ws, w ∈ ws0) (htb : tb RX13 = gr_T) (ext : gz_Sh) (β : Int → Int) (N9 : Int) (p9 : Int) (I : gr_I) (J : gr_J) (hI : gr_Inv I)   (x0 : I 0 71 = 5 ∨ I 0 73 ≤ I 0 69) (x1 : I 0 72 ≤ I 0 69) (x2 : I 0 71 = 0 ∨ (I 0 72 < I 0 73 ∧ I 0 72 < I 0 69)) (x3 : I 0 71 = 3 → 2 ≤ I 0 73 - I 0 72 ∧ I 0 73 - I 0 72 ≤ 14) (x4 : I 0 72 ≤ I 0 73) (x5 : I 0 59 + I 0 69 - I 0 72 ≤ 1900) (x6 : I 0 42 + I 0 69 - I 0 72 ≤ 1900) (x7 : gr_ATp β N9 p9 I J) (x8 : 0 ≤ p9) : ∃ r h', gz_Ev ws0 tb 11 (yX13_form, cX13_form, 1, (some .boolean)) [.inr (.inr (some 0))] (gr_sh ++ ext) (gr_h I J) r (gr_sh ++ ext) h' 0 0 ∧ (∃ (I' : gr_I) (J' : gr_J), h' = gr_h I' J' ∧ gr_Inv I' ∧ gr_fr [42, 59, 71, 72, 73, 74, 75, 76, 77] [35, 51] I I' ∧ gr_fj [42, 59, 71, 72, 73, 74, 75, 76, 77] [35, 51] J J' ∧ (∃ z : Int, r = some (.inl z) ∧ 0 ≤ z ∧ z ≤ 1 ∧ (I' 0 71 = 5 ∨ I' 0 73 ≤ I' 0 69) ∧ (I' 0 72 ≤ I' 0 69) ∧ (I' 0 71 = 0 ∨ (I' 0 72 < I' 0 73 ∧ I' 0 72 < I' 0 69)) ∧ (I' 0 71 = 3 → 2 ≤ I' 0 73 - I' 0 72 ∧ I' 0 73 - I' 0 72 ≤ 14) ∧ (I' 0 72 ≤ I' 0 73) ∧ (I' 0 69 = I 0 69) ∧ (I 0 73 ≤ I' 0 73) ∧ (I 0 72 ≤ I' 0 72) ∧ (I' 0 59 - I' 0 72 ≤ I 0 59 - I 0 72) ∧ (I' 0 42 - I' 0 72 ≤ I 0 42 - I 0 72) ∧ (I 0 42 ≤ I' 0 42) ∧ (z = 0 ∨ I 0 72 < I' 0 72) ∧ (gs_Or z (0 ≤ (gs_fm β N9 1002 p9) ∧ gr_ATp β N9 (gs_fm β N9 1002 p9) I' J') ((gs_fm β N9 1002 p9) < 0 ∧ I' 0 77 = -1 - (gs_fm β N9 1002 p9))))) := by
  have FI : gr_fr [42, 59, 71, 72, 73, 74, 75, 76, 77] [35, 51] I I := fun _ _ _ => rfl
  have FJ : gr_fj [42, 59, 71, 72, 73, 74, 75, 76, 77] [35, 51] J J := fun _ _ _ => rfl
  have hD : gv_D (gr_E ws0 tb 10 (yX13_form, cX13_form, 1, (some .boolean)) kX13_form) := gq_ok oX13_form
  refine gr_ev (d := 10) (l := kX13_form) (Po := fun r h' => (∃ (I' : gr_I) (J' : gr_J), h' = gr_h I' J' ∧ gr_Inv I' ∧ gr_fr [42, 59, 71, 72, 73, 74, 75, 76, 77] [35, 51] I I' ∧ gr_fj [42, 59, 71, 72, 73, 74, 75, 76, 77] [35, 51] J J' ∧ (∃ z : Int, r = some (.inl z) ∧ 0 ≤ z ∧ z ≤ 1 ∧ (I' 0 71 = 5 ∨ I' 0 73 ≤ I' 0 69) ∧ (I' 0 72 ≤ I' 0 69) ∧ (I' 0 71 = 0 ∨ (I' 0 72 < I' 0 73 ∧ I' 0 72 < I' 0 69)) ∧ (I' 0 71 = 3 → 2 ≤ I' 0 73 - I' 0 72 ∧ I' 0 73 - I' 0 72 ≤ 14) ∧ (I' 0 72 ≤ I' 0 73) ∧ (I' 0 69 = I 0 69) ∧ (I 0 73 ≤ I' 0 73) ∧ (I 0 72 ≤ I' 0 72) ∧ (I' 0 59 - I' 0 72 ≤ I 0 59 - I 0 72) ∧ (I' 0 42 - I' 0 72 ≤ I 0 42 - I 0 72) ∧ (I 0 42 ≤ I' 0 42) ∧ (z = 0 ∨ I 0 72 < I' 0 72) ∧ (gs_Or z (0 ≤ (gs_fm β N9 1002 p9) ∧ gr_ATp β N9 (gs_fm β N9 1002 p9) I' J') ((gs_fm β N9 1002 p9) < 0 ∧ I' 0 77 = -1 - (gs_fm β N9 1002 p9)))))) htb rfl (Nat.le_of_ble_eq_true rfl) ?_
  have tAT := gr_ATp_l x7
  have f1 := (show 0 ≤ I 0 71 ∧ I 0 71 ≤ 5 from (hI 0 71).1)
  have f2 := (show 0 ≤ I 0 72 ∧ I 0 72 ≤ 1000 from (hI 0 72).1)
  have f3 := (show 0 ≤ I 0 73 ∧ I 0 73 ≤ 1001 from (hI 0 73).1)
  have f4 := (show 0 ≤ I 0 69 ∧ I 0 69 ≤ 1000 from (hI 0 69).1)
  have f5 := (show 0 ≤ I 0 59 ∧ I 0 59 ≤ 2000 from (hI 0 59).1)
  have f6 := (show 0 ≤ I 0 42 ∧ I 0 42 ≤ 2000 from (hI 0 42).1)
  have f7 := (show 0 ≤ I 0 74 ∧ I 0 74 ≤ 999999 from (hI 0 74).1)
  have f8 := (show 0 ≤ I 0 74 ∧ I 0 74 ≤ 999999 from (hI 0 74).1)
  have L0 : ∀ (n : Nat) (I9 : gr_I) (J10 : gr_J) (p_11 : Int), (1001 - I9 0 72).toNat < n → gr_Inv I9 → gr_fr [42, 59, 71, 72, 73, 74, 75, 76, 77] [35, 51] I I9 → gr_fj [42, 59, 71, 72, 73, 74, 75, 76, 77] [35, 51] J J10 → ((I9 0 59 - I9 0 72 ≤ I 0 59 - I 0 72) ∧ (I9 0 42 - I9 0 72 ≤ I 0 42 - I 0 72) ∧ (0 ≤ p_11) ∧ (I9 0 71 = 5 ∨ I9 0 73 ≤ I9 0 69) ∧ (I9 0 72 ≤ I9 0 69) ∧ (I9 0 71 = 0 ∨ (I9 0 72 < I9 0 73 ∧ I9 0 72 < I9 0 69)) ∧ (I9 0 71 = 3 → 2 ≤ I9 0 73 - I9 0 72 ∧ I9 0 73 - I9 0 72 ≤ 14) ∧ (I9 0 72 ≤ I9 0 73) ∧ (I9 0 69 = I 0 69) ∧ (I 0 73 ≤ I9 0 73) ∧ (I 0 72 ≤ I9 0 72) ∧ (I 0 42 ≤ I9 0 42)) → (gr_ATp β N9 p_11 I9 J10) → (∃ m : Nat, 1001 - gs_A β N9 p_11 < (m : Int) ∧ gs_fm β N9 1002 p9 = gs_fm β N9 m p_11) → gv_X (gr_E ws0 tb 10 (yX13_form, cX13_form, 1, (some .boolean)) kX13_form) (gv_Q cX13_form (some .boolean) (gr_sh ++ ext) (fun r h' => (∃ (I' : gr_I) (J' : gr_J), h' = gr_h I' J' ∧ gr_Inv I' ∧ gr_fr [42, 59, 71, 72, 73, 74, 75, 76, 77] [35, 51] I I' ∧ gr_fj [42, 59, 71, 72, 73, 74, 75, 76, 77] [35, 51] J J' ∧ (∃ z : Int, r = some (.inl z) ∧ 0 ≤ z ∧ z ≤ 1 ∧ (I' 0 71 = 5 ∨ I' 0 73 ≤ I' 0 69) ∧ (I' 0 72 ≤ I' 0 69) ∧ (I' 0 71 = 0 ∨ (I' 0 72 < I' 0 73 ∧ I' 0 72 < I' 0 69)) ∧ (I' 0 71 = 3 → 2 ≤ I' 0 73 - I' 0 72 ∧ I' 0 73 - I' 0 72 ≤ 14) ∧ (I' 0 72 ≤ I' 0 73) ∧ (I' 0 69 = I 0 69) ∧ (I 0 73 ≤ I' 0 73) ∧ (I 0 72 ≤ I' 0 72) ∧ (I' 0 59 - I' 0 72 ≤ I 0 59 - I 0 72) ∧ (I' 0 42 - I' 0 72 ≤ I 0 42 - I 0 72) ∧ (I 0 42 ≤ I' 0 42) ∧ (z = 0 ∨ I 0 72 < I' 0 72) ∧ (gs_Or z (0 ≤ (gs_fm β N9 1002 p9) ∧ gr_ATp β N9 (gs_fm β N9 1002 p9) I' J') ((gs_fm β N9 1002 p9) < 0 ∧ I' 0 77 = -1 - (gs_fm β N9 1002 p9))))))) (0, [(0, .inr (.inr (some 0)))], [], gr_sh ++ ext, gr_h I9 J10) := by
    intro n
    induction n with
    | zero => intro I9 J10 p_11 hn; omega
    | succ n ih0 =>
      intro I9 J10 p_11 hn hI9 FI9 FJ10 m_11 e3_11 e4_11
      obtain ⟨e0_11, e1_11, e2_11, e5_11, e6_11, e7_11, e8_11, e9_11, e10_11, e11_11, e12_11, e13_11⟩ := m_11
      have f12 := (show 0 ≤ I9 0 71 ∧ I9 0 71 ≤ 5 from (hI9 0 71).1)
      have f13 := (show 0 ≤ I9 0 72 ∧ I9 0 72 ≤ 1000 from (hI9 0 72).1)
      have f14 := (show 0 ≤ I9 0 73 ∧ I9 0 73 ≤ 1001 from (hI9 0 73).1)
      have f15 := (show 0 ≤ I9 0 69 ∧ I9 0 69 ≤ 1000 from (hI9 0 69).1)
      have f16 := (show 0 ≤ I9 0 59 ∧ I9 0 59 ≤ 2000 from (hI9 0 59).1)
      have f17 := (show 0 ≤ I9 0 42 ∧ I9 0 42 ≤ 2000 from (hI9 0 42).1)
      have f18 := (show 0 ≤ I9 0 74 ∧ I9 0 74 ≤ 999999 from (hI9 0 74).1)
      have f19 := (show 0 ≤ I9 0 74 ∧ I9 0 74 ≤ 999999 from (hI9 0 74).1)
      have t20 := gr_ATp_l e3_11
      have f21 := (show 0 ≤ I9 0 71 ∧ I9 0 71 ≤ 5 from (hI9 0 71).1)
      refine gv_run 3 true hD (pc' := 5) (lv' := [(0, .inr (.inr (some 0)))]) (st' := [.inl 2, .inl (I9 0 71)]) (h' := gr_h I9 J10) (C := (((True ∧ True) ∧ True) ∧ True)) rfl ⟨⟨⟨trivial, trivial⟩, trivial⟩, trivial⟩ ?_
      refine gv_icmp_ne (t := 54) hD rfl rfl ⟨⟨by omega, by omega⟩, ⟨by omega, by omega⟩⟩ (fun c22 => ?_) (fun c22 => ?_)
      · have t23 := gr_ATp_k e3_11 (c := 2) ⟨by omega, by omega⟩
        have f24 := (show 0 ≤ I9 0 71 ∧ I9 0 71 ≤ 5 from (hI9 0 71).1)
        refine gv_run 3 true hD (pc' := 59) (lv' := [(0, .inr (.inr (some 0)))]) (st' := [.inl 3, .inl (I9 0 71)]) (h' := gr_h I9 J10) (C := (((True ∧ True) ∧ True) ∧ True)) rfl ⟨⟨⟨trivial, trivial⟩, trivial⟩, trivial⟩ ?_
        refine gv_icmp_ne (t := 85) hD rfl rfl ⟨⟨by omega, by omega⟩, ⟨by omega, by omega⟩⟩ (fun c25 => ?_) (fun c25 => ?_)
        · have t26 := gr_ATp_k e3_11 (c := 3) ⟨by omega, by omega⟩
          refine gv_run 2 true hD (pc' := 87) (lv' := [(0, .inr (.inr (some 0)))]) (st' := [.inl 1, .inr (.inr (some 0))]) (h' := gr_h I9 J10) (C := ((True ∧ True) ∧ True)) rfl ⟨⟨trivial, trivial⟩, trivial⟩ ?_
          obtain ⟨r27, h27, E27, P27⟩ := r_no__p (ws0 := ws0) (tb := tb) hws htb ext β N9 p_11 I9 J10 hI9 1 ⟨by omega, by omega⟩ e3_11 (by omega)
          obtain ⟨I28, J29, rfl, hI28, g27, k27, ⟨z27, rfl, q27⟩⟩ := P27
          have FI28 := gr_frt FI9 g27 rfl rfl
          have FJ29 := gr_fjt FJ10 k27 rfl rfl
          have t30 := g27 0 71 rfl
          have t31 := g27 0 72 rfl
          have t32 := g27 0 73 rfl
          have t33 := g27 0 69 rfl
          have t34 := g27 0 59 rfl
          have t35 := g27 0 42 rfl
          have t36 := g27 0 74 rfl
          have t37 := g27 0 74 rfl
          have f38 := (show 0 ≤ I28 0 71 ∧ I28 0 71 ≤ 5 from (hI28 0 71).1)
          have f39 := (show 0 ≤ I28 0 72 ∧ I28 0 72 ≤ 1000 from (hI28 0 72).1)
          have f40 := (show 0 ≤ I28 0 73 ∧ I28 0 73 ≤ 1001 from (hI28 0 73).1)
          have f41 := (show 0 ≤ I28 0 69 ∧ I28 0 69 ≤ 1000 from (hI28 0 69).1)
          have f42 := (show 0 ≤ I28 0 59 ∧ I28 0 59 ≤ 2000 from (hI28 0 59).1)
          have f43 := (show 0 ≤ I28 0 42 ∧ I28 0 42 ≤ 2000 from (hI28 0 42).1)
          have f44 := (show 0 ≤ I28 0 74 ∧ I28 0 74 ≤ 999999 from (hI28 0 74).1)
          have f45 := (show 0 ≤ I28 0 74 ∧ I28 0 74 ≤ 999999 from (hI28 0 74).1)
          have A46 := gr_ATp_F e3_11 g27 k27 rfl
          have t47 := gr_ATp_l A46
          refine gv_callV hD rfl (As := [.inl 1]) (st := []) rfl (by decide) rfl rfl (gr_lV hws rfl) (Nat.le_of_ble_eq_true rfl) (gz_Ev_mono (d := 2) (by decide) E27) ?_
          show gv_X _ _ (90, [(0, .inr (.inr (some 0)))], [.inl z27], gr_sh ++ ext, gr_h I28 J29)
          have b48 : (I28 0 71 = 5 ∨ I28 0 73 ≤ I28 0 69) ∧ (I28 0 72 ≤ I28 0 69) ∧ (I28 0 71 = 0 ∨ (I28 0 72 < I28 0 73 ∧ I28 0 72 < I28 0 69)) ∧ (I28 0 71 = 3 → 2 ≤ I28 0 73 - I28 0 72 ∧ I28 0 73 - I28 0 72 ≤ 14) ∧ (I28 0 72 ≤ I28 0 73) ∧ (I28 0 69 = I 0 69) ∧ (I 0 73 ≤ I28 0 73) ∧ (I 0 72 ≤ I28 0 72) ∧ (I28 0 59 - I28 0 72 ≤ I 0 59 - I 0 72) ∧ (I28 0 42 - I28 0 72 ≤ I 0 42 - I 0 72) ∧ (I 0 42 ≤ I28 0 42) ∧ ((z27 : Int) = 0 ∨ I 0 72 < I28 0 72) := by omega
          exact gv_zret hD rfl (by omega) ⟨I28, J29, rfl, hI28, FI28, FJ29, ⟨_, rfl, by omega, by omega, b48.1, b48.2.1, b48.2.2.1, b48.2.2.2.1, b48.2.2.2.2.1, b48.2.2.2.2.2.1, b48.2.2.2.2.2.2.1, b48.2.2.2.2.2.2.2.1, b48.2.2.2.2.2.2.2.2.1, b48.2.2.2.2.2.2.2.2.2.1, b48.2.2.2.2.2.2.2.2.2.2.1, b48.2.2.2.2.2.2.2.2.2.2.2, (Or.inr ⟨by omega, by obtain ⟨m, hm, em⟩ := e4_11; obtain ⟨m, rfl⟩ : ∃ n, m = n + 1 := ⟨m - 1, by omega⟩; rw [em, gs_fm_x (by omega)]; exact ⟨by omega, by omega⟩⟩)⟩⟩
        · have t49 := gr_ATp_k e3_11 (c := 3) ⟨by omega, by omega⟩
          have f50 := (show 0 ≤ I9 0 42 ∧ I9 0 42 ≤ 2000 from (hI9 0 42).1)
          refine gv_run 7 true hD (pc' := 73) (lv' := [(0, .inr (.inr (some 0)))]) (st' := [.inl 1, .inl (I9 0 42), .inr (.inr (some 0)), .inl (I9 0 42), .inr (.inr (some 35))]) (h' := gr_h I9 J10) (C := (((((((True ∧ True) ∧ True) ∧ True) ∧ True) ∧ True) ∧ True) ∧ True)) rfl ⟨⟨⟨⟨⟨⟨⟨trivial, trivial⟩, trivial⟩, trivial⟩, trivial⟩, trivial⟩, trivial⟩, trivial⟩ ?_
          refine gv_run 2 true hD (pc' := 77) (lv' := [(0, .inr (.inr (some 0)))]) (st' := [.inl (I9 0 42), .inr (.inr (some 35))]) (h' := gz_up (gr_h I9 J10) 0 42 (.inl (((I9 0 42) + 1)))) (C := ((True ∧ True) ∧ True)) rfl ⟨⟨trivial, trivial⟩, trivial⟩ ?_
          refine gr_st hI9 FI9 rfl rfl ⟨⟨by show 0 ≤ _; omega, by show _ ≤ 2000; omega⟩, trivial⟩ (fun I51 hI51 FI51 q52 p52 => ?_)
          have t53 := p52 0 71 (by decide)
          have t54 := p52 0 72 (by decide)
          have t55 := p52 0 73 (by decide)
          have t56 := p52 0 69 (by decide)
          have t57 := p52 0 59 (by decide)
          have t58 := p52 0 74 (by decide)
          have t59 := p52 0 74 (by decide)
          have f60 := (show 0 ≤ I51 0 71 ∧ I51 0 71 ≤ 5 from (hI51 0 71).1)
          have f61 := (show 0 ≤ I51 0 72 ∧ I51 0 72 ≤ 1000 from (hI51 0 72).1)
          have f62 := (show 0 ≤ I51 0 73 ∧ I51 0 73 ≤ 1001 from (hI51 0 73).1)
          have f63 := (show 0 ≤ I51 0 69 ∧ I51 0 69 ≤ 1000 from (hI51 0 69).1)
          have f64 := (show 0 ≤ I51 0 59 ∧ I51 0 59 ≤ 2000 from (hI51 0 59).1)
          have f65 := (show 0 ≤ I51 0 42 ∧ I51 0 42 ≤ 2000 from (hI51 0 42).1)
          have f66 := (show 0 ≤ I51 0 74 ∧ I51 0 74 ≤ 999999 from (hI51 0 74).1)
          have f67 := (show 0 ≤ I51 0 74 ∧ I51 0 74 ≤ 999999 from (hI51 0 74).1)
          have A68 := gr_ATp_sf e3_11 p52 rfl
          refine gv_run 1 true hD (pc' := 78) (lv' := [(0, .inr (.inr (some 0)))]) (st' := [.inr (.inr (some 0)), .inl (I9 0 42), .inr (.inr (some 35))]) (h' := gr_h I51 J10) (C := (True ∧ True)) rfl ⟨trivial, trivial⟩ ?_
          obtain ⟨r69, h69, E69, P69⟩ := r_keeps_p (ws0 := ws0) (tb := tb) hws htb ext I51 J10 hI51   (by omega) (by omega) (by omega) (by omega)
          obtain ⟨I70, J71, rfl, hI70, g69, k69, ⟨z69, rfl, q69⟩⟩ := P69
          have FI70 := gr_frt FI51 g69 rfl rfl
          have FJ71 := gr_fjt FJ10 k69 rfl rfl
          have t72 := g69 0 71 rfl
          have t73 := g69 0 72 rfl
          have t74 := g69 0 73 rfl
          have t75 := g69 0 69 rfl
          have t76 := g69 0 42 rfl
          have t77 := g69 0 74 rfl
          have t78 := g69 0 74 rfl
          have f79 := (show 0 ≤ I70 0 71 ∧ I70 0 71 ≤ 5 from (hI70 0 71).1)
          have f80 := (show 0 ≤ I70 0 72 ∧ I70 0 72 ≤ 1000 from (hI70 0 72).1)
          have f81 := (show 0 ≤ I70 0 73 ∧ I70 0 73 ≤ 1001 from (hI70 0 73).1)
          have f82 := (show 0 ≤ I70 0 69 ∧ I70 0 69 ≤ 1000 from (hI70 0 69).1)
          have f83 := (show 0 ≤ I70 0 59 ∧ I70 0 59 ≤ 2000 from (hI70 0 59).1)
          have f84 := (show 0 ≤ I70 0 42 ∧ I70 0 42 ≤ 2000 from (hI70 0 42).1)
          have f85 := (show 0 ≤ I70 0 74 ∧ I70 0 74 ≤ 999999 from (hI70 0 74).1)
          have f86 := (show 0 ≤ I70 0 74 ∧ I70 0 74 ≤ 999999 from (hI70 0 74).1)
          have A87 := gr_ATp_F A68 g69 k69 rfl
          have t88 := gr_ATp_l A87
          refine gv_callV hD rfl (As := []) (st := [.inl (I9 0 42), .inr (.inr (some 35))]) rfl (by decide) rfl rfl (gr_lV hws rfl) (Nat.le_of_ble_eq_true rfl) (gz_Ev_mono (d := 2) (by decide) E69) ?_
          show gv_X _ _ (81, [(0, .inr (.inr (some 0)))], [.inl z69, .inl (I9 0 42), .inr (.inr (some 35))], gr_sh ++ ext, gr_h I70 J71)
          refine gv_run 1 true hD (pc' := 82) (lv' := [(0, .inr (.inr (some 0)))]) (st' := []) (h' := gz_up (gr_h I70 J71) 35 (Int.toNat ((I9 0 42))) (.inl z69)) (C := (True ∧ (0 ≤ (I9 0 42) ∧ (I9 0 42) < ((42000 : Nat) : Int)))) rfl ⟨trivial, ⟨by omega, by omega⟩⟩ ?_
          refine gr_st hI70 FI70 rfl rfl ⟨⟨by show (-3) ≤ _; omega, by show _ ≤ 32015; omega⟩, trivial⟩ (fun I89 hI89 FI89 q90 p90 => ?_)
          have t91 := p90 0 71 (fun q => absurd q.1 (by decide))
          have t92 := p90 0 72 (fun q => absurd q.1 (by decide))
          have t93 := p90 0 73 (fun q => absurd q.1 (by decide))
          have t94 := p90 0 69 (fun q => absurd q.1 (by decide))
          have t95 := p90 0 59 (fun q => absurd q.1 (by decide))
          have t96 := p90 0 42 (fun q => absurd q.1 (by decide))
          have t97 := p90 0 74 (fun q => absurd q.1 (by decide))
          have t98 := p90 0 74 (fun q => absurd q.1 (by decide))
          have f99 := (show 0 ≤ I89 0 71 ∧ I89 0 71 ≤ 5 from (hI89 0 71).1)
          have f100 := (show 0 ≤ I89 0 72 ∧ I89 0 72 ≤ 1000 from (hI89 0 72).1)
          have f101 := (show 0 ≤ I89 0 73 ∧ I89 0 73 ≤ 1001 from (hI89 0 73).1)
          have f102 := (show 0 ≤ I89 0 69 ∧ I89 0 69 ≤ 1000 from (hI89 0 69).1)
          have f103 := (show 0 ≤ I89 0 59 ∧ I89 0 59 ≤ 2000 from (hI89 0 59).1)
          have f104 := (show 0 ≤ I89 0 42 ∧ I89 0 42 ≤ 2000 from (hI89 0 42).1)
          have f105 := (show 0 ≤ I89 0 74 ∧ I89 0 74 ≤ 999999 from (hI89 0 74).1)
          have f106 := (show 0 ≤ I89 0 74 ∧ I89 0 74 ≤ 999999 from (hI89 0 74).1)
          have A107 := gr_ATp_sr A87 p90 rfl
          refine gv_run 2 true hD (pc' := 92) (lv' := [(0, .inr (.inr (some 0)))]) (st' := [.inr (.inr (some 0))]) (h' := gr_h I89 J71) (C := ((True ∧ True) ∧ True)) rfl ⟨⟨trivial, trivial⟩, trivial⟩ ?_
          obtain ⟨r108, h108, E108, P108⟩ := r_next_p (ws0 := ws0) (tb := tb) hws htb ext β N9 I89 J71 hI89   (by omega) A107.1.1 A107.1.2
          obtain ⟨I109, J110, rfl, hI109, g108, k108, ⟨rfl, q108⟩⟩ := P108
          have FI109 := gr_frt FI89 g108 rfl rfl
          have FJ110 := gr_fjt FJ71 k108 rfl rfl
          have t111 := g108 0 69 rfl
          have t112 := g108 0 59 rfl
          have t113 := g108 0 42 rfl
          have f114 := (show 0 ≤ I109 0 71 ∧ I109 0 71 ≤ 5 from (hI109 0 71).1)
          have f115 := (show 0 ≤ I109 0 72 ∧ I109 0 72 ≤ 1000 from (hI109 0 72).1)
          have f116 := (show 0 ≤ I109 0 73 ∧ I109 0 73 ≤ 1001 from (hI109 0 73).1)
          have f117 := (show 0 ≤ I109 0 69 ∧ I109 0 69 ≤ 1000 from (hI109 0 69).1)
          have f118 := (show 0 ≤ I109 0 59 ∧ I109 0 59 ≤ 2000 from (hI109 0 59).1)
          have f119 := (show 0 ≤ I109 0 42 ∧ I109 0 42 ≤ 2000 from (hI109 0 42).1)
          have f120 := (show 0 ≤ I109 0 74 ∧ I109 0 74 ≤ 999999 from (hI109 0 74).1)
          have f121 := (show 0 ≤ I109 0 74 ∧ I109 0 74 ≤ 999999 from (hI109 0 74).1)
          have A122 := gr_ATp_nx A107 q108.2.2.2.2.2
          have t123 := gr_ATp_l A122
          refine gv_callV hD rfl (As := []) (st := []) rfl (by decide) rfl rfl (gr_lV hws rfl) (Nat.le_of_ble_eq_true rfl) (gz_Ev_mono (d := 10) (by decide) E108) ?_
          show gv_X _ _ (95, [(0, .inr (.inr (some 0)))], [], gr_sh ++ ext, gr_h I109 J110)
          refine gv_run 2 true hD (pc' := 98) (lv' := [(0, .inr (.inr (some 0)))]) (st' := [.inl 43, .inr (.inr (some 0))]) (h' := gr_h I109 J110) (C := ((True ∧ True) ∧ True)) rfl ⟨⟨trivial, trivial⟩, trivial⟩ ?_
          obtain ⟨r124, h124, E124, P124⟩ := r_sign_p (ws0 := ws0) (tb := tb) hws htb ext β N9 (gs_X β N9 p_11) I109 J110 hI109 43 ⟨by omega, by omega⟩ (by omega) A122 (by omega)
          obtain ⟨rfl, ⟨z124, rfl, q124⟩⟩ := P124
          refine gv_callV hD rfl (As := [.inl 43]) (st := []) rfl (by decide) rfl rfl (gr_lV hws rfl) (Nat.le_of_ble_eq_true rfl) (gz_Ev_mono (d := 1) (by decide) E124) ?_
          show gv_X _ _ (101, [(0, .inr (.inr (some 0)))], [.inl z124], gr_sh ++ ext, gr_h I109 J110)
          refine gv_if_ne (t := 106) hD rfl rfl ⟨by omega, by omega⟩ (fun c125 => ?_) (fun c125 => ?_)
          · refine gv_run 1 true hD (pc' := 107) (lv' := [(0, .inr (.inr (some 0)))]) (st' := [.inr (.inr (some 0))]) (h' := gr_h I109 J110) (C := (True ∧ True)) rfl ⟨trivial, trivial⟩ ?_
            obtain ⟨r126, h126, E126, P126⟩ := r_next_p (ws0 := ws0) (tb := tb) hws htb ext β N9 I109 J110 hI109   (by omega) A122.1.1 A122.1.2
            obtain ⟨I127, J128, rfl, hI127, g126, k126, ⟨rfl, q126⟩⟩ := P126
            have FI127 := gr_frt FI109 g126 rfl rfl
            have FJ128 := gr_fjt FJ110 k126 rfl rfl
            have t129 := g126 0 69 rfl
            have t130 := g126 0 59 rfl
            have t131 := g126 0 42 rfl
            have f132 := (show 0 ≤ I127 0 71 ∧ I127 0 71 ≤ 5 from (hI127 0 71).1)
            have f133 := (show 0 ≤ I127 0 72 ∧ I127 0 72 ≤ 1000 from (hI127 0 72).1)
            have f134 := (show 0 ≤ I127 0 73 ∧ I127 0 73 ≤ 1001 from (hI127 0 73).1)
            have f135 := (show 0 ≤ I127 0 69 ∧ I127 0 69 ≤ 1000 from (hI127 0 69).1)
            have f136 := (show 0 ≤ I127 0 59 ∧ I127 0 59 ≤ 2000 from (hI127 0 59).1)
            have f137 := (show 0 ≤ I127 0 42 ∧ I127 0 42 ≤ 2000 from (hI127 0 42).1)
            have f138 := (show 0 ≤ I127 0 74 ∧ I127 0 74 ≤ 999999 from (hI127 0 74).1)
            have f139 := (show 0 ≤ I127 0 74 ∧ I127 0 74 ≤ 999999 from (hI127 0 74).1)
            have A140 := gr_ATp_nx A122 q126.2.2.2.2.2
            have t141 := gr_ATp_l A140
            refine gv_callV hD rfl (As := []) (st := []) rfl (by decide) rfl rfl (gr_lV hws rfl) (Nat.le_of_ble_eq_true rfl) (gz_Ev_mono (d := 10) (by decide) E126) ?_
            show gv_X _ _ (110, [(0, .inr (.inr (some 0)))], [], gr_sh ++ ext, gr_h I127 J128)
            refine gv_run 1 true hD (pc' := 0) (lv' := [(0, .inr (.inr (some 0)))]) (st' := []) (h' := gr_h I127 J128) (C := (True ∧ True)) rfl ⟨trivial, trivial⟩ ?_
            exact ih0 I127 J128 ((gs_X β N9 (gs_X β N9 p_11))) (by omega) hI127 FI127 FJ128 (by omega) A140 (by obtain ⟨m, hm, em⟩ := e4_11; obtain ⟨m, rfl⟩ : ∃ n, m = n + 1 := ⟨m - 1, by omega⟩; exact ⟨m, by omega, em.trans (gs_fm_s (by omega) (by omega))⟩)
          · refine gv_run 1 true hD (pc' := 105) (lv' := [(0, .inr (.inr (some 0)))]) (st' := [.inl 1]) (h' := gr_h I109 J110) (C := (True ∧ True)) rfl ⟨trivial, trivial⟩ ?_
            have b142 : (I109 0 71 = 5 ∨ I109 0 73 ≤ I109 0 69) ∧ (I109 0 72 ≤ I109 0 69) ∧ (I109 0 71 = 0 ∨ (I109 0 72 < I109 0 73 ∧ I109 0 72 < I109 0 69)) ∧ (I109 0 71 = 3 → 2 ≤ I109 0 73 - I109 0 72 ∧ I109 0 73 - I109 0 72 ≤ 14) ∧ (I109 0 72 ≤ I109 0 73) ∧ (I109 0 69 = I 0 69) ∧ (I 0 73 ≤ I109 0 73) ∧ (I 0 72 ≤ I109 0 72) ∧ (I109 0 59 - I109 0 72 ≤ I 0 59 - I 0 72) ∧ (I109 0 42 - I109 0 72 ≤ I 0 42 - I 0 72) ∧ (I 0 42 ≤ I109 0 42) ∧ ((1 : Int) = 0 ∨ I 0 72 < I109 0 72) := by omega
            exact gv_zret hD rfl (by omega) ⟨I109, J110, rfl, hI109, FI109, FJ110, ⟨_, rfl, by omega, by omega, b142.1, b142.2.1, b142.2.2.1, b142.2.2.2.1, b142.2.2.2.2.1, b142.2.2.2.2.2.1, b142.2.2.2.2.2.2.1, b142.2.2.2.2.2.2.2.1, b142.2.2.2.2.2.2.2.2.1, b142.2.2.2.2.2.2.2.2.2.1, b142.2.2.2.2.2.2.2.2.2.2.1, b142.2.2.2.2.2.2.2.2.2.2.2, (Or.inl ⟨by omega, by obtain ⟨m, hm, em⟩ := e4_11; obtain ⟨m, rfl⟩ : ∃ n, m = n + 1 := ⟨m - 1, by omega⟩; rw [em, gs_fm_e (by omega) (by omega)]; exact ⟨by omega, A122⟩⟩)⟩⟩
      · have t143 := gr_ATp_k e3_11 (c := 2) ⟨by omega, by omega⟩
        have f144 := (show 0 ≤ I9 0 74 ∧ I9 0 74 ≤ 999999 from (hI9 0 74).1)
        refine gv_run 3 true hD (pc' := 13) (lv' := [(0, .inr (.inr (some 0)))]) (st' := [.inl 1, .inl (I9 0 74)]) (h' := gr_h I9 J10) (C := (((True ∧ True) ∧ True) ∧ True)) rfl ⟨⟨⟨trivial, trivial⟩, trivial⟩, trivial⟩ ?_
        have t145 := (fun h : gs_T β N9 p_11 = 2 => gr_ATp_n e3_11 h)
        refine gv_icmp_lt (t := 24) hD rfl rfl ⟨⟨by omega, by omega⟩, ⟨by omega, by omega⟩⟩ (fun c146 => ?_) (fun c146 => ?_)
        · refine gv_run 2 true hD (pc' := 26) (lv' := [(0, .inr (.inr (some 0)))]) (st' := [.inl 5, .inr (.inr (some 0))]) (h' := gr_h I9 J10) (C := ((True ∧ True) ∧ True)) rfl ⟨⟨trivial, trivial⟩, trivial⟩ ?_
          obtain ⟨r147, h147, E147, P147⟩ := r_no__p (ws0 := ws0) (tb := tb) hws htb ext β N9 p_11 I9 J10 hI9 5 ⟨by omega, by omega⟩ e3_11 (by omega)
          obtain ⟨I148, J149, rfl, hI148, g147, k147, ⟨z147, rfl, q147⟩⟩ := P147
          have FI148 := gr_frt FI9 g147 rfl rfl
          have FJ149 := gr_fjt FJ10 k147 rfl rfl
          have t150 := g147 0 71 rfl
          have t151 := g147 0 72 rfl
          have t152 := g147 0 73 rfl
          have t153 := g147 0 69 rfl
          have t154 := g147 0 59 rfl
          have t155 := g147 0 42 rfl
          have t156 := g147 0 74 rfl
          have t157 := g147 0 74 rfl
          have f158 := (show 0 ≤ I148 0 71 ∧ I148 0 71 ≤ 5 from (hI148 0 71).1)
          have f159 := (show 0 ≤ I148 0 72 ∧ I148 0 72 ≤ 1000 from (hI148 0 72).1)
          have f160 := (show 0 ≤ I148 0 73 ∧ I148 0 73 ≤ 1001 from (hI148 0 73).1)
          have f161 := (show 0 ≤ I148 0 69 ∧ I148 0 69 ≤ 1000 from (hI148 0 69).1)
          have f162 := (show 0 ≤ I148 0 59 ∧ I148 0 59 ≤ 2000 from (hI148 0 59).1)
          have f163 := (show 0 ≤ I148 0 42 ∧ I148 0 42 ≤ 2000 from (hI148 0 42).1)
          have f164 := (show 0 ≤ I148 0 74 ∧ I148 0 74 ≤ 999999 from (hI148 0 74).1)
          have f165 := (show 0 ≤ I148 0 74 ∧ I148 0 74 ≤ 999999 from (hI148 0 74).1)
          have A166 := gr_ATp_F e3_11 g147 k147 rfl
          have t167 := gr_ATp_l A166
          refine gv_callV hD rfl (As := [.inl 5]) (st := []) rfl (by decide) rfl rfl (gr_lV hws rfl) (Nat.le_of_ble_eq_true rfl) (gz_Ev_mono (d := 2) (by decide) E147) ?_
          show gv_X _ _ (29, [(0, .inr (.inr (some 0)))], [.inl z147], gr_sh ++ ext, gr_h I148 J149)
          have b168 : (I148 0 71 = 5 ∨ I148 0 73 ≤ I148 0 69) ∧ (I148 0 72 ≤ I148 0 69) ∧ (I148 0 71 = 0 ∨ (I148 0 72 < I148 0 73 ∧ I148 0 72 < I148 0 69)) ∧ (I148 0 71 = 3 → 2 ≤ I148 0 73 - I148 0 72 ∧ I148 0 73 - I148 0 72 ≤ 14) ∧ (I148 0 72 ≤ I148 0 73) ∧ (I148 0 69 = I 0 69) ∧ (I 0 73 ≤ I148 0 73) ∧ (I 0 72 ≤ I148 0 72) ∧ (I148 0 59 - I148 0 72 ≤ I 0 59 - I 0 72) ∧ (I148 0 42 - I148 0 72 ≤ I 0 42 - I 0 72) ∧ (I 0 42 ≤ I148 0 42) ∧ ((z147 : Int) = 0 ∨ I 0 72 < I148 0 72) := by omega
          exact gv_zret hD rfl (by omega) ⟨I148, J149, rfl, hI148, FI148, FJ149, ⟨_, rfl, by omega, by omega, b168.1, b168.2.1, b168.2.2.1, b168.2.2.2.1, b168.2.2.2.2.1, b168.2.2.2.2.2.1, b168.2.2.2.2.2.2.1, b168.2.2.2.2.2.2.2.1, b168.2.2.2.2.2.2.2.2.1, b168.2.2.2.2.2.2.2.2.2.1, b168.2.2.2.2.2.2.2.2.2.2.1, b168.2.2.2.2.2.2.2.2.2.2.2, (Or.inr ⟨by omega, by obtain ⟨m, hm, em⟩ := e4_11; obtain ⟨m, rfl⟩ : ∃ n, m = n + 1 := ⟨m - 1, by omega⟩; rw [em, gs_fm_x (by omega)]; exact ⟨by omega, by omega⟩⟩)⟩⟩
        · have f169 := (show 0 ≤ I9 0 74 ∧ I9 0 74 ≤ 999999 from (hI9 0 74).1)
          refine gv_run 3 true hD (pc' := 21) (lv' := [(0, .inr (.inr (some 0)))]) (st' := [.inl 3, .inl (I9 0 74)]) (h' := gr_h I9 J10) (C := (((True ∧ True) ∧ True) ∧ True)) rfl ⟨⟨⟨trivial, trivial⟩, trivial⟩, trivial⟩ ?_
          have t170 := (fun h : gs_T β N9 p_11 = 2 => gr_ATp_n e3_11 h)
          refine gv_icmp_le (t := 30) hD rfl rfl ⟨⟨by omega, by omega⟩, ⟨by omega, by omega⟩⟩ (fun c171 => ?_) (fun c171 => ?_)
          · have f172 := (show 0 ≤ I9 0 42 ∧ I9 0 42 ≤ 2000 from (hI9 0 42).1)
            refine gv_run 7 true hD (pc' := 41) (lv' := [(0, .inr (.inr (some 0)))]) (st' := [.inl 1, .inl (I9 0 42), .inr (.inr (some 0)), .inl (I9 0 42), .inr (.inr (some 35))]) (h' := gr_h I9 J10) (C := (((((((True ∧ True) ∧ True) ∧ True) ∧ True) ∧ True) ∧ True) ∧ True)) rfl ⟨⟨⟨⟨⟨⟨⟨trivial, trivial⟩, trivial⟩, trivial⟩, trivial⟩, trivial⟩, trivial⟩, trivial⟩ ?_
            refine gv_run 2 true hD (pc' := 45) (lv' := [(0, .inr (.inr (some 0)))]) (st' := [.inl (I9 0 42), .inr (.inr (some 35))]) (h' := gz_up (gr_h I9 J10) 0 42 (.inl (((I9 0 42) + 1)))) (C := ((True ∧ True) ∧ True)) rfl ⟨⟨trivial, trivial⟩, trivial⟩ ?_
            refine gr_st hI9 FI9 rfl rfl ⟨⟨by show 0 ≤ _; omega, by show _ ≤ 2000; omega⟩, trivial⟩ (fun I173 hI173 FI173 q174 p174 => ?_)
            have t175 := p174 0 71 (by decide)
            have t176 := p174 0 72 (by decide)
            have t177 := p174 0 73 (by decide)
            have t178 := p174 0 69 (by decide)
            have t179 := p174 0 59 (by decide)
            have t180 := p174 0 74 (by decide)
            have t181 := p174 0 74 (by decide)
            have f182 := (show 0 ≤ I173 0 71 ∧ I173 0 71 ≤ 5 from (hI173 0 71).1)
            have f183 := (show 0 ≤ I173 0 72 ∧ I173 0 72 ≤ 1000 from (hI173 0 72).1)
            have f184 := (show 0 ≤ I173 0 73 ∧ I173 0 73 ≤ 1001 from (hI173 0 73).1)
            have f185 := (show 0 ≤ I173 0 69 ∧ I173 0 69 ≤ 1000 from (hI173 0 69).1)
            have f186 := (show 0 ≤ I173 0 59 ∧ I173 0 59 ≤ 2000 from (hI173 0 59).1)
            have f187 := (show 0 ≤ I173 0 42 ∧ I173 0 42 ≤ 2000 from (hI173 0 42).1)
            have f188 := (show 0 ≤ I173 0 74 ∧ I173 0 74 ≤ 999999 from (hI173 0 74).1)
            have f189 := (show 0 ≤ I173 0 74 ∧ I173 0 74 ≤ 999999 from (hI173 0 74).1)
            have A190 := gr_ATp_sf e3_11 p174 rfl
            have f191 := (show 0 ≤ I173 0 74 ∧ I173 0 74 ≤ 999999 from (hI173 0 74).1)
            have f192 := gw_neg (x := (I173 0 74)) ⟨by omega, by omega⟩
            refine gv_run 3 true hD (pc' := 50) (lv' := [(0, .inr (.inr (some 0)))]) (st' := [.inl ((-Int32.ofInt (I173 0 74)).toInt), .inl (I9 0 42), .inr (.inr (some 35))]) (h' := gr_h I173 J10) (C := (((True ∧ True) ∧ True) ∧ True)) rfl ⟨⟨⟨trivial, trivial⟩, trivial⟩, trivial⟩ ?_
            refine gv_run 1 true hD (pc' := 51) (lv' := [(0, .inr (.inr (some 0)))]) (st' := []) (h' := gz_up (gr_h I173 J10) 35 (Int.toNat ((I9 0 42))) (.inl (((-Int32.ofInt (I173 0 74)).toInt)))) (C := (True ∧ (0 ≤ (I9 0 42) ∧ (I9 0 42) < ((42000 : Nat) : Int)))) rfl ⟨trivial, ⟨by omega, by omega⟩⟩ ?_
            refine gr_st hI173 FI173 rfl rfl ⟨⟨by show (-3) ≤ _; omega, by show _ ≤ 32015; omega⟩, trivial⟩ (fun I193 hI193 FI193 q194 p194 => ?_)
            have t195 := p194 0 71 (fun q => absurd q.1 (by decide))
            have t196 := p194 0 72 (fun q => absurd q.1 (by decide))
            have t197 := p194 0 73 (fun q => absurd q.1 (by decide))
            have t198 := p194 0 69 (fun q => absurd q.1 (by decide))
            have t199 := p194 0 59 (fun q => absurd q.1 (by decide))
            have t200 := p194 0 42 (fun q => absurd q.1 (by decide))
            have t201 := p194 0 74 (fun q => absurd q.1 (by decide))
            have t202 := p194 0 74 (fun q => absurd q.1 (by decide))
            have f203 := (show 0 ≤ I193 0 71 ∧ I193 0 71 ≤ 5 from (hI193 0 71).1)
            have f204 := (show 0 ≤ I193 0 72 ∧ I193 0 72 ≤ 1000 from (hI193 0 72).1)
            have f205 := (show 0 ≤ I193 0 73 ∧ I193 0 73 ≤ 1001 from (hI193 0 73).1)
            have f206 := (show 0 ≤ I193 0 69 ∧ I193 0 69 ≤ 1000 from (hI193 0 69).1)
            have f207 := (show 0 ≤ I193 0 59 ∧ I193 0 59 ≤ 2000 from (hI193 0 59).1)
            have f208 := (show 0 ≤ I193 0 42 ∧ I193 0 42 ≤ 2000 from (hI193 0 42).1)
            have f209 := (show 0 ≤ I193 0 74 ∧ I193 0 74 ≤ 999999 from (hI193 0 74).1)
            have f210 := (show 0 ≤ I193 0 74 ∧ I193 0 74 ≤ 999999 from (hI193 0 74).1)
            have A211 := gr_ATp_sr A190 p194 rfl
            refine gv_run 2 true hD (pc' := 92) (lv' := [(0, .inr (.inr (some 0)))]) (st' := [.inr (.inr (some 0))]) (h' := gr_h I193 J10) (C := ((True ∧ True) ∧ True)) rfl ⟨⟨trivial, trivial⟩, trivial⟩ ?_
            obtain ⟨r212, h212, E212, P212⟩ := r_next_p (ws0 := ws0) (tb := tb) hws htb ext β N9 I193 J10 hI193   (by omega) A211.1.1 A211.1.2
            obtain ⟨I213, J214, rfl, hI213, g212, k212, ⟨rfl, q212⟩⟩ := P212
            have FI213 := gr_frt FI193 g212 rfl rfl
            have FJ214 := gr_fjt FJ10 k212 rfl rfl
            have t215 := g212 0 69 rfl
            have t216 := g212 0 59 rfl
            have t217 := g212 0 42 rfl
            have f218 := (show 0 ≤ I213 0 71 ∧ I213 0 71 ≤ 5 from (hI213 0 71).1)
            have f219 := (show 0 ≤ I213 0 72 ∧ I213 0 72 ≤ 1000 from (hI213 0 72).1)
            have f220 := (show 0 ≤ I213 0 73 ∧ I213 0 73 ≤ 1001 from (hI213 0 73).1)
            have f221 := (show 0 ≤ I213 0 69 ∧ I213 0 69 ≤ 1000 from (hI213 0 69).1)
            have f222 := (show 0 ≤ I213 0 59 ∧ I213 0 59 ≤ 2000 from (hI213 0 59).1)
            have f223 := (show 0 ≤ I213 0 42 ∧ I213 0 42 ≤ 2000 from (hI213 0 42).1)
            have f224 := (show 0 ≤ I213 0 74 ∧ I213 0 74 ≤ 999999 from (hI213 0 74).1)
            have f225 := (show 0 ≤ I213 0 74 ∧ I213 0 74 ≤ 999999 from (hI213 0 74).1)
            have A226 := gr_ATp_nx A211 q212.2.2.2.2.2
            have t227 := gr_ATp_l A226
            refine gv_callV hD rfl (As := []) (st := []) rfl (by decide) rfl rfl (gr_lV hws rfl) (Nat.le_of_ble_eq_true rfl) (gz_Ev_mono (d := 10) (by decide) E212) ?_
            show gv_X _ _ (95, [(0, .inr (.inr (some 0)))], [], gr_sh ++ ext, gr_h I213 J214)
            refine gv_run 2 true hD (pc' := 98) (lv' := [(0, .inr (.inr (some 0)))]) (st' := [.inl 43, .inr (.inr (some 0))]) (h' := gr_h I213 J214) (C := ((True ∧ True) ∧ True)) rfl ⟨⟨trivial, trivial⟩, trivial⟩ ?_
            obtain ⟨r228, h228, E228, P228⟩ := r_sign_p (ws0 := ws0) (tb := tb) hws htb ext β N9 (gs_X β N9 p_11) I213 J214 hI213 43 ⟨by omega, by omega⟩ (by omega) A226 (by omega)
            obtain ⟨rfl, ⟨z228, rfl, q228⟩⟩ := P228
            refine gv_callV hD rfl (As := [.inl 43]) (st := []) rfl (by decide) rfl rfl (gr_lV hws rfl) (Nat.le_of_ble_eq_true rfl) (gz_Ev_mono (d := 1) (by decide) E228) ?_
            show gv_X _ _ (101, [(0, .inr (.inr (some 0)))], [.inl z228], gr_sh ++ ext, gr_h I213 J214)
            refine gv_if_ne (t := 106) hD rfl rfl ⟨by omega, by omega⟩ (fun c229 => ?_) (fun c229 => ?_)
            · refine gv_run 1 true hD (pc' := 107) (lv' := [(0, .inr (.inr (some 0)))]) (st' := [.inr (.inr (some 0))]) (h' := gr_h I213 J214) (C := (True ∧ True)) rfl ⟨trivial, trivial⟩ ?_
              obtain ⟨r230, h230, E230, P230⟩ := r_next_p (ws0 := ws0) (tb := tb) hws htb ext β N9 I213 J214 hI213   (by omega) A226.1.1 A226.1.2
              obtain ⟨I231, J232, rfl, hI231, g230, k230, ⟨rfl, q230⟩⟩ := P230
              have FI231 := gr_frt FI213 g230 rfl rfl
              have FJ232 := gr_fjt FJ214 k230 rfl rfl
              have t233 := g230 0 69 rfl
              have t234 := g230 0 59 rfl
              have t235 := g230 0 42 rfl
              have f236 := (show 0 ≤ I231 0 71 ∧ I231 0 71 ≤ 5 from (hI231 0 71).1)
              have f237 := (show 0 ≤ I231 0 72 ∧ I231 0 72 ≤ 1000 from (hI231 0 72).1)
              have f238 := (show 0 ≤ I231 0 73 ∧ I231 0 73 ≤ 1001 from (hI231 0 73).1)
              have f239 := (show 0 ≤ I231 0 69 ∧ I231 0 69 ≤ 1000 from (hI231 0 69).1)
              have f240 := (show 0 ≤ I231 0 59 ∧ I231 0 59 ≤ 2000 from (hI231 0 59).1)
              have f241 := (show 0 ≤ I231 0 42 ∧ I231 0 42 ≤ 2000 from (hI231 0 42).1)
              have f242 := (show 0 ≤ I231 0 74 ∧ I231 0 74 ≤ 999999 from (hI231 0 74).1)
              have f243 := (show 0 ≤ I231 0 74 ∧ I231 0 74 ≤ 999999 from (hI231 0 74).1)
              have A244 := gr_ATp_nx A226 q230.2.2.2.2.2
              have t245 := gr_ATp_l A244
              refine gv_callV hD rfl (As := []) (st := []) rfl (by decide) rfl rfl (gr_lV hws rfl) (Nat.le_of_ble_eq_true rfl) (gz_Ev_mono (d := 10) (by decide) E230) ?_
              show gv_X _ _ (110, [(0, .inr (.inr (some 0)))], [], gr_sh ++ ext, gr_h I231 J232)
              refine gv_run 1 true hD (pc' := 0) (lv' := [(0, .inr (.inr (some 0)))]) (st' := []) (h' := gr_h I231 J232) (C := (True ∧ True)) rfl ⟨trivial, trivial⟩ ?_
              exact ih0 I231 J232 ((gs_X β N9 (gs_X β N9 p_11))) (by omega) hI231 FI231 FJ232 (by omega) A244 (by obtain ⟨m, hm, em⟩ := e4_11; obtain ⟨m, rfl⟩ : ∃ n, m = n + 1 := ⟨m - 1, by omega⟩; exact ⟨m, by omega, em.trans (gs_fm_s (by omega) (by omega))⟩)
            · refine gv_run 1 true hD (pc' := 105) (lv' := [(0, .inr (.inr (some 0)))]) (st' := [.inl 1]) (h' := gr_h I213 J214) (C := (True ∧ True)) rfl ⟨trivial, trivial⟩ ?_
              have b246 : (I213 0 71 = 5 ∨ I213 0 73 ≤ I213 0 69) ∧ (I213 0 72 ≤ I213 0 69) ∧ (I213 0 71 = 0 ∨ (I213 0 72 < I213 0 73 ∧ I213 0 72 < I213 0 69)) ∧ (I213 0 71 = 3 → 2 ≤ I213 0 73 - I213 0 72 ∧ I213 0 73 - I213 0 72 ≤ 14) ∧ (I213 0 72 ≤ I213 0 73) ∧ (I213 0 69 = I 0 69) ∧ (I 0 73 ≤ I213 0 73) ∧ (I 0 72 ≤ I213 0 72) ∧ (I213 0 59 - I213 0 72 ≤ I 0 59 - I 0 72) ∧ (I213 0 42 - I213 0 72 ≤ I 0 42 - I 0 72) ∧ (I 0 42 ≤ I213 0 42) ∧ ((1 : Int) = 0 ∨ I 0 72 < I213 0 72) := by omega
              exact gv_zret hD rfl (by omega) ⟨I213, J214, rfl, hI213, FI213, FJ214, ⟨_, rfl, by omega, by omega, b246.1, b246.2.1, b246.2.2.1, b246.2.2.2.1, b246.2.2.2.2.1, b246.2.2.2.2.2.1, b246.2.2.2.2.2.2.1, b246.2.2.2.2.2.2.2.1, b246.2.2.2.2.2.2.2.2.1, b246.2.2.2.2.2.2.2.2.2.1, b246.2.2.2.2.2.2.2.2.2.2.1, b246.2.2.2.2.2.2.2.2.2.2.2, (Or.inl ⟨by omega, by obtain ⟨m, hm, em⟩ := e4_11; obtain ⟨m, rfl⟩ : ∃ n, m = n + 1 := ⟨m - 1, by omega⟩; rw [em, gs_fm_e (by omega) (by omega)]; exact ⟨by omega, A226⟩⟩)⟩⟩
          · refine gv_run 2 true hD (pc' := 26) (lv' := [(0, .inr (.inr (some 0)))]) (st' := [.inl 5, .inr (.inr (some 0))]) (h' := gr_h I9 J10) (C := ((True ∧ True) ∧ True)) rfl ⟨⟨trivial, trivial⟩, trivial⟩ ?_
            obtain ⟨r247, h247, E247, P247⟩ := r_no__p (ws0 := ws0) (tb := tb) hws htb ext β N9 p_11 I9 J10 hI9 5 ⟨by omega, by omega⟩ e3_11 (by omega)
            obtain ⟨I248, J249, rfl, hI248, g247, k247, ⟨z247, rfl, q247⟩⟩ := P247
            have FI248 := gr_frt FI9 g247 rfl rfl
            have FJ249 := gr_fjt FJ10 k247 rfl rfl
            have t250 := g247 0 71 rfl
            have t251 := g247 0 72 rfl
            have t252 := g247 0 73 rfl
            have t253 := g247 0 69 rfl
            have t254 := g247 0 59 rfl
            have t255 := g247 0 42 rfl
            have t256 := g247 0 74 rfl
            have t257 := g247 0 74 rfl
            have f258 := (show 0 ≤ I248 0 71 ∧ I248 0 71 ≤ 5 from (hI248 0 71).1)
            have f259 := (show 0 ≤ I248 0 72 ∧ I248 0 72 ≤ 1000 from (hI248 0 72).1)
            have f260 := (show 0 ≤ I248 0 73 ∧ I248 0 73 ≤ 1001 from (hI248 0 73).1)
            have f261 := (show 0 ≤ I248 0 69 ∧ I248 0 69 ≤ 1000 from (hI248 0 69).1)
            have f262 := (show 0 ≤ I248 0 59 ∧ I248 0 59 ≤ 2000 from (hI248 0 59).1)
            have f263 := (show 0 ≤ I248 0 42 ∧ I248 0 42 ≤ 2000 from (hI248 0 42).1)
            have f264 := (show 0 ≤ I248 0 74 ∧ I248 0 74 ≤ 999999 from (hI248 0 74).1)
            have f265 := (show 0 ≤ I248 0 74 ∧ I248 0 74 ≤ 999999 from (hI248 0 74).1)
            have A266 := gr_ATp_F e3_11 g247 k247 rfl
            have t267 := gr_ATp_l A266
            refine gv_callV hD rfl (As := [.inl 5]) (st := []) rfl (by decide) rfl rfl (gr_lV hws rfl) (Nat.le_of_ble_eq_true rfl) (gz_Ev_mono (d := 2) (by decide) E247) ?_
            show gv_X _ _ (29, [(0, .inr (.inr (some 0)))], [.inl z247], gr_sh ++ ext, gr_h I248 J249)
            have b268 : (I248 0 71 = 5 ∨ I248 0 73 ≤ I248 0 69) ∧ (I248 0 72 ≤ I248 0 69) ∧ (I248 0 71 = 0 ∨ (I248 0 72 < I248 0 73 ∧ I248 0 72 < I248 0 69)) ∧ (I248 0 71 = 3 → 2 ≤ I248 0 73 - I248 0 72 ∧ I248 0 73 - I248 0 72 ≤ 14) ∧ (I248 0 72 ≤ I248 0 73) ∧ (I248 0 69 = I 0 69) ∧ (I 0 73 ≤ I248 0 73) ∧ (I 0 72 ≤ I248 0 72) ∧ (I248 0 59 - I248 0 72 ≤ I 0 59 - I 0 72) ∧ (I248 0 42 - I248 0 72 ≤ I 0 42 - I 0 72) ∧ (I 0 42 ≤ I248 0 42) ∧ ((z247 : Int) = 0 ∨ I 0 72 < I248 0 72) := by omega
            exact gv_zret hD rfl (by omega) ⟨I248, J249, rfl, hI248, FI248, FJ249, ⟨_, rfl, by omega, by omega, b268.1, b268.2.1, b268.2.2.1, b268.2.2.2.1, b268.2.2.2.2.1, b268.2.2.2.2.2.1, b268.2.2.2.2.2.2.1, b268.2.2.2.2.2.2.2.1, b268.2.2.2.2.2.2.2.2.1, b268.2.2.2.2.2.2.2.2.2.1, b268.2.2.2.2.2.2.2.2.2.2.1, b268.2.2.2.2.2.2.2.2.2.2.2, (Or.inr ⟨by omega, by obtain ⟨m, hm, em⟩ := e4_11; obtain ⟨m, rfl⟩ : ∃ n, m = n + 1 := ⟨m - 1, by omega⟩; rw [em, gs_fm_x (by omega)]; exact ⟨by omega, by omega⟩⟩)⟩⟩
  exact L0 _ I J p9 (Nat.lt_succ_self _) hI FI FJ (by omega) x7 ⟨1002, by omega, rfl⟩
