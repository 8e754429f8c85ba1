set_option maxHeartbeats 4000000 in
set_option maxRecDepth 100000 in
theorem r_oneValue {ws0 : List Cond} {tb : String → gz_T} (hws : ∀ w ∈ gr_ws, w ∈ ws0) (htb : tb RX13 = gr_T) (ext : gz_Sh) (I : gr_I) (J : gr_J) (hI : gr_Inv I)   (x0 : I 0 71 = 5 ∨ I 0 73 ≤ I 0 69) (x1 : I 0 72 ≤ I 0 69) (x2 : I 0 71 = 0 ∨ (I 0 72 < I 0 73 ∧ I 0 72 < I 0 69)) (x3 : I 0 71 = 3 → 2 ≤ I 0 73 - I 0 72 ∧ I 0 73 - I 0 72 ≤ 14) (x4 : I 0 72 ≤ I 0 73) (x5 : 0 ≤ I 0 6) (x6 : I 0 71 = 1) : ∃ r h', gz_Ev ws0 tb 11 (yX13_oneValue, cX13_oneValue, 3, (some .boolean)) [.inr (.inr (some 0))] (gr_sh ++ ext) (gr_h I J) r (gr_sh ++ ext) h' 0 0 ∧ (∃ (I' : gr_I) (J' : gr_J), h' = gr_h I' J' ∧ gr_Inv I' ∧ gr_fr [71, 72, 73, 74, 75, 76, 77, 106] [] I I' ∧ gr_fj [71, 72, 73, 74, 75, 76, 77, 106] [] J J' ∧ (∃ z : Int, r = some (.inl z) ∧ 0 ≤ z ∧ z ≤ 1 ∧ (I' 0 71 = 5 ∨ I' 0 73 ≤ I' 0 69) ∧ (I' 0 72 ≤ I' 0 69) ∧ (I' 0 71 = 0 ∨ (I' 0 72 < I' 0 73 ∧ I' 0 72 < I' 0 69)) ∧ (I' 0 71 = 3 → 2 ≤ I' 0 73 - I' 0 72 ∧ I' 0 73 - I' 0 72 ≤ 14) ∧ (I' 0 72 ≤ I' 0 73) ∧ (I' 0 69 = I 0 69) ∧ (I 0 73 ≤ I' 0 73) ∧ (I 0 72 ≤ I' 0 72) ∧ (z = 0 ∨ I 0 73 ≤ I' 0 72))) := by
  have FI : gr_fr [71, 72, 73, 74, 75, 76, 77, 106] [] I I := fun _ _ _ => rfl
  have FJ : gr_fj [71, 72, 73, 74, 75, 76, 77, 106] [] J J := fun _ _ _ => rfl
  have hD : gv_D (gr_E ws0 tb 10 (yX13_oneValue, cX13_oneValue, 3, (some .boolean)) kX13_oneValue) := gq_ok oX13_oneValue
  refine gr_ev (d := 10) (l := kX13_oneValue) (Po := fun r h' => (∃ (I' : gr_I) (J' : gr_J), h' = gr_h I' J' ∧ gr_Inv I' ∧ gr_fr [71, 72, 73, 74, 75, 76, 77, 106] [] I I' ∧ gr_fj [71, 72, 73, 74, 75, 76, 77, 106] [] J J' ∧ (∃ z : Int, r = some (.inl z) ∧ 0 ≤ z ∧ z ≤ 1 ∧ (I' 0 71 = 5 ∨ I' 0 73 ≤ I' 0 69) ∧ (I' 0 72 ≤ I' 0 69) ∧ (I' 0 71 = 0 ∨ (I' 0 72 < I' 0 73 ∧ I' 0 72 < I' 0 69)) ∧ (I' 0 71 = 3 → 2 ≤ I' 0 73 - I' 0 72 ∧ I' 0 73 - I' 0 72 ≤ 14) ∧ (I' 0 72 ≤ I' 0 73) ∧ (I' 0 69 = I 0 69) ∧ (I 0 73 ≤ I' 0 73) ∧ (I 0 72 ≤ I' 0 72) ∧ (z = 0 ∨ I 0 73 ≤ I' 0 72)))) htb rfl (Nat.le_of_ble_eq_true rfl) ?_
  have f1 := (show 0 ≤ I 0 71 ∧ I 0 71 ≤ 5 from (hI 0 71).1)
  have f2 := (show 0 ≤ I 0 72 ∧ I 0 72 ≤ 1000 from (hI 0 72).1)
  have f3 := (show 0 ≤ I 0 73 ∧ I 0 73 ≤ 1001 from (hI 0 73).1)
  have f4 := (show 0 ≤ I 0 69 ∧ I 0 69 ≤ 1000 from (hI 0 69).1)
  have f5 := (show (-1) ≤ I 0 6 ∧ I 0 6 ≤ 7 from (hI 0 6).1)
  have f6 := (show (-1) ≤ I 0 6 ∧ I 0 6 ≤ 7 from (hI 0 6).1)
  refine gv_run 7 true hD (pc' := 12) (lv' := [(0, .inr (.inr (some 0)))]) (st' := [.inr (.inr (some 0)), .inl (48 * (I 0 6)), .inr (.inr (some 21))]) (h' := gr_h I J) (C := (((((((True ∧ True) ∧ True) ∧ True) ∧ True) ∧ True) ∧ True) ∧ True)) rfl ⟨⟨⟨⟨⟨⟨⟨trivial, trivial⟩, trivial⟩, trivial⟩, trivial⟩, trivial⟩, trivial⟩, trivial⟩ ?_
  have f7 := (show (-1) ≤ I 0 6 ∧ I 0 6 ≤ 7 from (hI 0 6).1)
  have f8 := (show 0 ≤ I 14 (Int.toNat ((I 0 6))) ∧ I 14 (Int.toNat ((I 0 6))) ≤ 48 from (hI 14 (Int.toNat ((I 0 6)))).1)
  refine gv_run 4 true hD (pc' := 20) (lv' := [(0, .inr (.inr (some 0)))]) (st' := [.inl (I 14 (Int.toNat ((I 0 6)))), .inl (48 * (I 0 6)), .inr (.inr (some 21))]) (h' := gr_h I J) (C := ((((True ∧ True) ∧ True) ∧ True) ∧ (0 ≤ (I 0 6) ∧ (I 0 6) < ((8 : Nat) : Int)))) rfl ⟨⟨⟨⟨trivial, trivial⟩, trivial⟩, trivial⟩, ⟨by omega, by omega⟩⟩ ?_
  refine gv_run 2 true hD (pc' := 24) (lv' := [(0, .inr (.inr (some 0)))]) (st' := [.inr (.inl (J 0 75)), .inl (I 14 (Int.toNat ((I 0 6)))), .inl (48 * (I 0 6)), .inr (.inr (some 21))]) (h' := gr_h I J) (C := ((True ∧ True) ∧ True)) rfl ⟨⟨trivial, trivial⟩, trivial⟩ ?_
  obtain ⟨r9, h9, E9, P9⟩ := r_find_21 (ws0 := ws0) (tb := tb) hws htb ext I J hI ((48 * (I 0 6))) ((I 14 (Int.toNat ((I 0 6))))) (J 0 75) ⟨by omega, by omega⟩ ⟨by omega, by omega⟩ (by omega)
  obtain ⟨rfl, ⟨z9, rfl, q9⟩⟩ := P9
  refine gv_callS hD rfl (As := [.inr (.inr (some 21)), .inl (48 * (I 0 6)), .inl (I 14 (Int.toNat ((I 0 6)))), .inr (.inl (J 0 75))]) (st := []) rfl (gr_lS hws rfl) (Nat.le_of_ble_eq_true rfl) (gz_Ev_mono (d := 1) (by decide) E9) ?_
  show gv_X _ _ (27, [(0, .inr (.inr (some 0)))], [.inl z9], gr_sh ++ ext, gr_h I J)
  refine gv_run 2 true hD (pc' := 29) (lv' := [(1, .inl z9), (0, .inr (.inr (some 0)))]) (st' := [.inl z9]) (h' := gr_h I J) (C := ((True ∧ True) ∧ True)) rfl ⟨⟨trivial, trivial⟩, trivial⟩ ?_
  refine gv_if_ge (t := 38) hD rfl rfl ⟨by omega, by omega⟩ (fun c10 => ?_) (fun c10 => ?_)
  · have f11 := (show (-1) ≤ I 0 6 ∧ I 0 6 ≤ 7 from (hI 0 6).1)
    refine gv_run 7 true hD (pc' := 50) (lv' := [(1, .inl z9), (0, .inr (.inr (some 0)))]) (st' := [.inl (48 * (I 0 6)), .inr (.inr (some 24)), .inl 3]) (h' := gr_h I J) (C := (((((((True ∧ True) ∧ True) ∧ True) ∧ True) ∧ True) ∧ True) ∧ True)) rfl ⟨⟨⟨⟨⟨⟨⟨trivial, trivial⟩, trivial⟩, trivial⟩, trivial⟩, trivial⟩, trivial⟩, trivial⟩ ?_
    have f12 := (show 0 ≤ I 24 (Int.toNat (((48 * (I 0 6)) + z9))) ∧ I 24 (Int.toNat (((48 * (I 0 6)) + z9))) ≤ 7 from (hI 24 (Int.toNat (((48 * (I 0 6)) + z9)))).1)
    refine gv_run 3 true hD (pc' := 53) (lv' := [(1, .inl z9), (0, .inr (.inr (some 0)))]) (st' := [.inl (I 24 (Int.toNat (((48 * (I 0 6)) + z9)))), .inl 3]) (h' := gr_h I J) (C := (((True ∧ True) ∧ True) ∧ (0 ≤ (((48 * (I 0 6)) + z9)) ∧ (((48 * (I 0 6)) + z9)) < ((384 : Nat) : Int)))) rfl ⟨⟨⟨trivial, trivial⟩, trivial⟩, ⟨by omega, by omega⟩⟩ ?_
    have f13 := (show 0 ≤ I 0 106 ∧ I 0 106 ≤ 16777215 from (hI 0 106).1)
    have f14 := gw_shr (x := (I 0 106)) (y := ((3 * (I 24 (Int.toNat (((48 * (I 0 6)) + z9))))))) ⟨by omega, by omega⟩
    refine gv_run 7 true hD (pc' := 63) (lv' := [(2, .inl (3 * (I 24 (Int.toNat (((48 * (I 0 6)) + z9)))))), (1, .inl z9), (0, .inr (.inr (some 0)))]) (st' := [.inl 7, .inl ((Int32.ofInt (I 0 106) >>> (Int32.ofInt ((3 * (I 24 (Int.toNat (((48 * (I 0 6)) + z9)))))) &&& 31)).toInt)]) (h' := gr_h I J) (C := (((((((True ∧ True) ∧ True) ∧ True) ∧ True) ∧ True) ∧ True) ∧ True)) rfl ⟨⟨⟨⟨⟨⟨⟨trivial, trivial⟩, trivial⟩, trivial⟩, trivial⟩, trivial⟩, trivial⟩, trivial⟩ ?_
    have f15 := gw_and (x := (((Int32.ofInt (I 0 106) >>> (Int32.ofInt ((3 * (I 24 (Int.toNat (((48 * (I 0 6)) + z9)))))) &&& 31)).toInt))) (y := 7) ⟨by omega, by omega⟩
    refine gv_run 1 true hD (pc' := 64) (lv' := [(2, .inl (3 * (I 24 (Int.toNat (((48 * (I 0 6)) + z9)))))), (1, .inl z9), (0, .inr (.inr (some 0)))]) (st' := [.inl ((Int32.ofInt (((Int32.ofInt (I 0 106) >>> (Int32.ofInt ((3 * (I 24 (Int.toNat (((48 * (I 0 6)) + z9)))))) &&& 31)).toInt)) &&& Int32.ofInt 7).toInt)]) (h' := gr_h I J) (C := (True ∧ True)) rfl ⟨trivial, trivial⟩ ?_
    refine gv_if_eq (t := 73) hD rfl rfl ⟨by omega, by omega⟩ (fun c16 => ?_) (fun c16 => ?_)
    · have f17 := (show 0 ≤ I 0 106 ∧ I 0 106 ≤ 16777215 from (hI 0 106).1)
      refine gv_run 7 true hD (pc' := 85) (lv' := [(2, .inl (3 * (I 24 (Int.toNat (((48 * (I 0 6)) + z9)))))), (1, .inl z9), (0, .inr (.inr (some 0)))]) (st' := [.inr (.inr (some 0)), .inl 48, .inr (.inr (some 25)), .inl (I 0 106), .inr (.inr (some 0))]) (h' := gr_h I J) (C := (((((((True ∧ True) ∧ True) ∧ True) ∧ True) ∧ True) ∧ True) ∧ True)) rfl ⟨⟨⟨⟨⟨⟨⟨trivial, trivial⟩, trivial⟩, trivial⟩, trivial⟩, trivial⟩, trivial⟩, trivial⟩ ?_
      have f18 := (show (-1) ≤ I 0 6 ∧ I 0 6 ≤ 7 from (hI 0 6).1)
      have f19 := (show 0 ≤ I 25 (Int.toNat (((48 * (I 0 6)) + z9))) ∧ I 25 (Int.toNat (((48 * (I 0 6)) + z9))) ≤ 6 from (hI 25 (Int.toNat (((48 * (I 0 6)) + z9)))).1)
      refine gv_run 5 true hD (pc' := 92) (lv' := [(2, .inl (3 * (I 24 (Int.toNat (((48 * (I 0 6)) + z9)))))), (1, .inl z9), (0, .inr (.inr (some 0)))]) (st' := [.inl (I 25 (Int.toNat (((48 * (I 0 6)) + z9)))), .inl (I 0 106), .inr (.inr (some 0))]) (h' := gr_h I J) (C := (((((True ∧ True) ∧ True) ∧ True) ∧ True) ∧ (0 ≤ (((48 * (I 0 6)) + z9)) ∧ (((48 * (I 0 6)) + z9)) < ((384 : Nat) : Int)))) rfl ⟨⟨⟨⟨⟨trivial, trivial⟩, trivial⟩, trivial⟩, trivial⟩, ⟨by omega, by omega⟩⟩ ?_
      have f20 := gw_shl (x := ((I 25 (Int.toNat (((48 * (I 0 6)) + z9)))))) (y := ((3 * (I 24 (Int.toNat (((48 * (I 0 6)) + z9))))))) ⟨by omega, by omega⟩ ⟨by omega, by omega⟩
      have f21 := gw_or (x := (I 0 106)) (y := (((Int32.ofInt ((I 25 (Int.toNat (((48 * (I 0 6)) + z9))))) <<< (Int32.ofInt ((3 * (I 24 (Int.toNat (((48 * (I 0 6)) + z9)))))) &&& 31)).toInt))) ⟨by omega, by omega⟩ ⟨by omega, by omega⟩
      refine gv_run 3 true hD (pc' := 95) (lv' := [(2, .inl (3 * (I 24 (Int.toNat (((48 * (I 0 6)) + z9)))))), (1, .inl z9), (0, .inr (.inr (some 0)))]) (st' := [.inl ((Int32.ofInt (I 0 106) ||| Int32.ofInt (((Int32.ofInt ((I 25 (Int.toNat (((48 * (I 0 6)) + z9))))) <<< (Int32.ofInt ((3 * (I 24 (Int.toNat (((48 * (I 0 6)) + z9)))))) &&& 31)).toInt))).toInt), .inr (.inr (some 0))]) (h' := gr_h I J) (C := (((True ∧ True) ∧ True) ∧ True)) rfl ⟨⟨⟨trivial, trivial⟩, trivial⟩, trivial⟩ ?_
      refine gv_run 1 true hD (pc' := 98) (lv' := [(2, .inl (3 * (I 24 (Int.toNat (((48 * (I 0 6)) + z9)))))), (1, .inl z9), (0, .inr (.inr (some 0)))]) (st' := []) (h' := gz_up (gr_h I J) 0 106 (.inl (((Int32.ofInt (I 0 106) ||| Int32.ofInt (((Int32.ofInt ((I 25 (Int.toNat (((48 * (I 0 6)) + z9))))) <<< (Int32.ofInt ((3 * (I 24 (Int.toNat (((48 * (I 0 6)) + z9)))))) &&& 31)).toInt))).toInt)))) (C := (True ∧ True)) rfl ⟨trivial, trivial⟩ ?_
      refine gr_st hI FI rfl rfl ⟨⟨by show 0 ≤ _; omega, by show _ ≤ 16777215; omega⟩, trivial⟩ (fun I22 hI22 FI22 q23 p23 => ?_)
      have t24 := p23 0 71 (by decide)
      have t25 := p23 0 72 (by decide)
      have t26 := p23 0 73 (by decide)
      have t27 := p23 0 69 (by decide)
      have t28 := p23 0 6 (by decide)
      have f29 := (show 0 ≤ I22 0 71 ∧ I22 0 71 ≤ 5 from (hI22 0 71).1)
      have f30 := (show 0 ≤ I22 0 72 ∧ I22 0 72 ≤ 1000 from (hI22 0 72).1)
      have f31 := (show 0 ≤ I22 0 73 ∧ I22 0 73 ≤ 1001 from (hI22 0 73).1)
      have f32 := (show 0 ≤ I22 0 69 ∧ I22 0 69 ≤ 1000 from (hI22 0 69).1)
      have f33 := (show (-1) ≤ I22 0 6 ∧ I22 0 6 ≤ 7 from (hI22 0 6).1)
      refine gv_run 1 true hD (pc' := 99) (lv' := [(2, .inl (3 * (I 24 (Int.toNat (((48 * (I 0 6)) + z9)))))), (1, .inl z9), (0, .inr (.inr (some 0)))]) (st' := [.inr (.inr (some 0))]) (h' := gr_h I22 J) (C := (True ∧ True)) rfl ⟨trivial, trivial⟩ ?_
      obtain ⟨r34, h34, E34, P34⟩ := r_next (ws0 := ws0) (tb := tb) hws htb ext I22 J hI22   (by omega)
      obtain ⟨I35, J36, rfl, hI35, g34, k34, ⟨rfl, q34⟩⟩ := P34
      have FI35 := gr_frt FI22 g34 rfl rfl
      have FJ36 := gr_fjt FJ k34 rfl rfl
      have t37 := g34 0 69 rfl
      have t38 := g34 0 6 rfl
      have f39 := (show 0 ≤ I35 0 71 ∧ I35 0 71 ≤ 5 from (hI35 0 71).1)
      have f40 := (show 0 ≤ I35 0 72 ∧ I35 0 72 ≤ 1000 from (hI35 0 72).1)
      have f41 := (show 0 ≤ I35 0 73 ∧ I35 0 73 ≤ 1001 from (hI35 0 73).1)
      have f42 := (show 0 ≤ I35 0 69 ∧ I35 0 69 ≤ 1000 from (hI35 0 69).1)
      have f43 := (show (-1) ≤ I35 0 6 ∧ I35 0 6 ≤ 7 from (hI35 0 6).1)
      refine gv_callV hD rfl (As := []) (st := []) rfl (by decide) rfl rfl (gr_lV hws rfl) (Nat.le_of_ble_eq_true rfl) (gz_Ev_mono (d := 10) (by decide) E34) ?_
      show gv_X _ _ (102, [(2, .inl (3 * (I 24 (Int.toNat (((48 * (I 0 6)) + z9)))))), (1, .inl z9), (0, .inr (.inr (some 0)))], [], gr_sh ++ ext, gr_h I35 J36)
      refine gv_run 1 true hD (pc' := 103) (lv' := [(2, .inl (3 * (I 24 (Int.toNat (((48 * (I 0 6)) + z9)))))), (1, .inl z9), (0, .inr (.inr (some 0)))]) (st' := [.inl 1]) (h' := gr_h I35 J36) (C := (True ∧ True)) rfl ⟨trivial, trivial⟩ ?_
      exact gv_zret hD rfl (by omega) ⟨I35, J36, rfl, hI35, FI35, FJ36, ⟨_, rfl, by omega⟩⟩
    · refine gv_run 2 true hD (pc' := 69) (lv' := [(2, .inl (3 * (I 24 (Int.toNat (((48 * (I 0 6)) + z9)))))), (1, .inl z9), (0, .inr (.inr (some 0)))]) (st' := [.inl 5, .inr (.inr (some 0))]) (h' := gr_h I J) (C := ((True ∧ True) ∧ True)) rfl ⟨⟨trivial, trivial⟩, trivial⟩ ?_
      obtain ⟨r44, h44, E44, P44⟩ := r_no_ (ws0 := ws0) (tb := tb) hws htb ext I J hI 5 ⟨by omega, by omega⟩ 
      obtain ⟨I45, J46, rfl, hI45, g44, k44, ⟨z44, rfl, q44⟩⟩ := P44
      have FI45 := gr_frt FI g44 rfl rfl
      have FJ46 := gr_fjt FJ k44 rfl rfl
      have t47 := g44 0 71 rfl
      have t48 := g44 0 72 rfl
      have t49 := g44 0 73 rfl
      have t50 := g44 0 69 rfl
      have t51 := g44 0 6 rfl
      have f52 := (show 0 ≤ I45 0 71 ∧ I45 0 71 ≤ 5 from (hI45 0 71).1)
      have f53 := (show 0 ≤ I45 0 72 ∧ I45 0 72 ≤ 1000 from (hI45 0 72).1)
      have f54 := (show 0 ≤ I45 0 73 ∧ I45 0 73 ≤ 1001 from (hI45 0 73).1)
      have f55 := (show 0 ≤ I45 0 69 ∧ I45 0 69 ≤ 1000 from (hI45 0 69).1)
      have f56 := (show (-1) ≤ I45 0 6 ∧ I45 0 6 ≤ 7 from (hI45 0 6).1)
      refine gv_callV hD rfl (As := [.inl 5]) (st := []) rfl (by decide) rfl rfl (gr_lV hws rfl) (Nat.le_of_ble_eq_true rfl) (gz_Ev_mono (d := 2) (by decide) E44) ?_
      show gv_X _ _ (72, [(2, .inl (3 * (I 24 (Int.toNat (((48 * (I 0 6)) + z9)))))), (1, .inl z9), (0, .inr (.inr (some 0)))], [.inl z44], gr_sh ++ ext, gr_h I45 J46)
      exact gv_zret hD rfl (by omega) ⟨I45, J46, rfl, hI45, FI45, FJ46, ⟨_, rfl, by omega⟩⟩
  · refine gv_run 2 true hD (pc' := 34) (lv' := [(1, .inl z9), (0, .inr (.inr (some 0)))]) (st' := [.inl 5, .inr (.inr (some 0))]) (h' := gr_h I J) (C := ((True ∧ True) ∧ True)) rfl ⟨⟨trivial, trivial⟩, trivial⟩ ?_
    obtain ⟨r57, h57, E57, P57⟩ := r_no_ (ws0 := ws0) (tb := tb) hws htb ext I J hI 5 ⟨by omega, by omega⟩ 
    obtain ⟨I58, J59, rfl, hI58, g57, k57, ⟨z57, rfl, q57⟩⟩ := P57
    have FI58 := gr_frt FI g57 rfl rfl
    have FJ59 := gr_fjt FJ k57 rfl rfl
    have t60 := g57 0 71 rfl
    have t61 := g57 0 72 rfl
    have t62 := g57 0 73 rfl
    have t63 := g57 0 69 rfl
    have t64 := g57 0 6 rfl
    have f65 := (show 0 ≤ I58 0 71 ∧ I58 0 71 ≤ 5 from (hI58 0 71).1)
    have f66 := (show 0 ≤ I58 0 72 ∧ I58 0 72 ≤ 1000 from (hI58 0 72).1)
    have f67 := (show 0 ≤ I58 0 73 ∧ I58 0 73 ≤ 1001 from (hI58 0 73).1)
    have f68 := (show 0 ≤ I58 0 69 ∧ I58 0 69 ≤ 1000 from (hI58 0 69).1)
    have f69 := (show (-1) ≤ I58 0 6 ∧ I58 0 6 ≤ 7 from (hI58 0 6).1)
    refine gv_callV hD rfl (As := [.inl 5]) (st := []) rfl (by decide) rfl rfl (gr_lV hws rfl) (Nat.le_of_ble_eq_true rfl) (gz_Ev_mono (d := 2) (by decide) E57) ?_
    show gv_X _ _ (37, [(1, .inl z9), (0, .inr (.inr (some 0)))], [.inl z57], gr_sh ++ ext, gr_h I58 J59)
    exact gv_zret hD rfl (by omega) ⟨I58, J59, rfl, hI58, FI58, FJ59, ⟨_, rfl, by omega⟩⟩
set_option maxHeartbeats 4000000 in
set_option maxRecDepth 100000 in
theorem r_fact {ws0 : List Cond} {tb : String → gz_T} (hws : ∀ w ∈ gr_ws, w ∈ ws0) (htb : tb RX13 = gr_T) (ext : gz_Sh) (I : gr_I) (J : gr_J) (hI : gr_Inv I)   (x0 : I 0 71 = 5 ∨ I 0 73 ≤ I 0 69) (x1 : I 0 72 ≤ I 0 69) (x2 : I 0 71 = 0 ∨ (I 0 72 < I 0 73 ∧ I 0 72 < I 0 69)) (x3 : I 0 71 = 3 → 2 ≤ I 0 73 - I 0 72 ∧ I 0 73 - I 0 72 ≤ 14) (x4 : I 0 72 ≤ I 0 73) : ∃ r h', gz_Ev ws0 tb 12 (yX13_fact, cX13_fact, 6, (some .boolean)) [.inr (.inr (some 0))] (gr_sh ++ ext) (gr_h I J) r (gr_sh ++ ext) h' 0 0 ∧ (∃ (I' : gr_I) (J' : gr_J), h' = gr_h I' J' ∧ gr_Inv I' ∧ gr_fr [5, 71, 72, 73, 74, 75, 76, 77] [5, 11, 12] I I' ∧ gr_fj [5, 71, 72, 73, 74, 75, 76, 77] [5, 11, 12] J J' ∧ (∃ z : Int, r = some (.inl z) ∧ 0 ≤ z ∧ z ≤ 1 ∧ (I' 0 71 = 5 ∨ I' 0 73 ≤ I' 0 69) ∧ (I' 0 72 ≤ I' 0 69) ∧ (I' 0 71 = 0 ∨ (I' 0 72 < I' 0 73 ∧ I' 0 72 < I' 0 69)) ∧ (I' 0 71 = 3 → 2 ≤ I' 0 73 - I' 0 72 ∧ I' 0 73 - I' 0 72 ≤ 14) ∧ (I' 0 72 ≤ I' 0 73) ∧ (I' 0 69 = I 0 69) ∧ (I 0 73 ≤ I' 0 73) ∧ (I 0 72 ≤ I' 0 72))) := by
  have FI : gr_fr [5, 71, 72, 73, 74, 75, 76, 77] [5, 11, 12] I I := fun _ _ _ => rfl
  have FJ : gr_fj [5, 71, 72, 73, 74, 75, 76, 77] [5, 11, 12] J J := fun _ _ _ => rfl
  have hD : gv_D (gr_E ws0 tb 11 (yX13_fact, cX13_fact, 6, (some .boolean)) kX13_fact) := gq_ok oX13_fact
  refine gr_ev (d := 11) (l := kX13_fact) (Po := fun r h' => (∃ (I' : gr_I) (J' : gr_J), h' = gr_h I' J' ∧ gr_Inv I' ∧ gr_fr [5, 71, 72, 73, 74, 75, 76, 77] [5, 11, 12] I I' ∧ gr_fj [5, 71, 72, 73, 74, 75, 76, 77] [5, 11, 12] J J' ∧ (∃ z : Int, r = some (.inl z) ∧ 0 ≤ z ∧ z ≤ 1 ∧ (I' 0 71 = 5 ∨ I' 0 73 ≤ I' 0 69) ∧ (I' 0 72 ≤ I' 0 69) ∧ (I' 0 71 = 0 ∨ (I' 0 72 < I' 0 73 ∧ I' 0 72 < I' 0 69)) ∧ (I' 0 71 = 3 → 2 ≤ I' 0 73 - I' 0 72 ∧ I' 0 73 - I' 0 72 ≤ 14) ∧ (I' 0 72 ≤ I' 0 73) ∧ (I' 0 69 = I 0 69) ∧ (I 0 73 ≤ I' 0 73) ∧ (I 0 72 ≤ I' 0 72)))) htb rfl (Nat.le_of_ble_eq_true rfl) ?_
  have f1 := (show 0 ≤ I 0 71 ∧ I 0 71 ≤ 5 from (hI 0 71).1)
  have f2 := (show 0 ≤ I 0 72 ∧ I 0 72 ≤ 1000 from (hI 0 72).1)
  have f3 := (show 0 ≤ I 0 73 ∧ I 0 73 ≤ 1001 from (hI 0 73).1)
  have f4 := (show 0 ≤ I 0 69 ∧ I 0 69 ≤ 1000 from (hI 0 69).1)
  have f5 := (show 0 ≤ I 0 5 ∧ I 0 5 ≤ 64 from (hI 0 5).1)
  have L102 : ∀ (I6 : gr_I) (J7 : gr_J) (v1_8 : Int64) (v3_8 : Int) (v4_8 : Int), gr_Inv I6 → gr_fr [5, 71, 72, 73, 74, 75, 76, 77] [5, 11, 12] I I6 → gr_fj [5, 71, 72, 73, 74, 75, 76, 77] [5, 11, 12] J J7 → ((0 ≤ v3_8 ∧ v3_8 ≤ 7) ∧ ((-1) ≤ v4_8 ∧ v4_8 ≤ 7) ∧ (I6 0 71 = 5 ∨ I6 0 73 ≤ I6 0 69) ∧ (I6 0 72 ≤ I6 0 69) ∧ (I6 0 71 = 0 ∨ (I6 0 72 < I6 0 73 ∧ I6 0 72 < I6 0 69)) ∧ (I6 0 71 = 3 → 2 ≤ I6 0 73 - I6 0 72 ∧ I6 0 73 - I6 0 72 ≤ 14) ∧ (I6 0 72 ≤ I6 0 73) ∧ (I6 0 69 = I 0 69) ∧ (I 0 73 ≤ I6 0 73) ∧ (I 0 72 ≤ I6 0 72)) → gv_X (gr_E ws0 tb 11 (yX13_fact, cX13_fact, 6, (some .boolean)) kX13_fact) (gv_Q cX13_fact (some .boolean) (gr_sh ++ ext) (fun r h' => (∃ (I' : gr_I) (J' : gr_J), h' = gr_h I' J' ∧ gr_Inv I' ∧ gr_fr [5, 71, 72, 73, 74, 75, 76, 77] [5, 11, 12] I I' ∧ gr_fj [5, 71, 72, 73, 74, 75, 76, 77] [5, 11, 12] J J' ∧ (∃ z : Int, r = some (.inl z) ∧ 0 ≤ z ∧ z ≤ 1 ∧ (I' 0 71 = 5 ∨ I' 0 73 ≤ I' 0 69) ∧ (I' 0 72 ≤ I' 0 69) ∧ (I' 0 71 = 0 ∨ (I' 0 72 < I' 0 73 ∧ I' 0 72 < I' 0 69)) ∧ (I' 0 71 = 3 → 2 ≤ I' 0 73 - I' 0 72 ∧ I' 0 73 - I' 0 72 ≤ 14) ∧ (I' 0 72 ≤ I' 0 73) ∧ (I' 0 69 = I 0 69) ∧ (I 0 73 ≤ I' 0 73) ∧ (I 0 72 ≤ I' 0 72))))) (102, [(0, .inr (.inr (some 0))), (1, .inr (.inl v1_8)), (3, .inl v3_8), (4, .inl v4_8)], [], gr_sh ++ ext, gr_h I6 J7) := by
    intro I6 J7 v1_8 v3_8 v4_8 hI6 FI6 FJ7 m_8
    obtain ⟨hv3_8, hv4_8, e0_8, e1_8, e2_8, e3_8, e4_8, e5_8, e6_8, e7_8⟩ := m_8
    have f9 := (show 0 ≤ I6 0 71 ∧ I6 0 71 ≤ 5 from (hI6 0 71).1)
    have f10 := (show 0 ≤ I6 0 72 ∧ I6 0 72 ≤ 1000 from (hI6 0 72).1)
    have f11 := (show 0 ≤ I6 0 73 ∧ I6 0 73 ≤ 1001 from (hI6 0 73).1)
    have f12 := (show 0 ≤ I6 0 69 ∧ I6 0 69 ≤ 1000 from (hI6 0 69).1)
    have f13 := (show 0 ≤ I6 0 5 ∧ I6 0 5 ≤ 64 from (hI6 0 5).1)
    have L132 : ∀ (v5_14 : Int) (s1_14 : Int), ((0 ≤ v3_8 ∧ v3_8 ≤ 7) ∧ ((-1) ≤ v4_8 ∧ v4_8 ≤ 7) ∧ (0 ≤ v5_14 ∧ v5_14 ≤ 1) ∧ (0 ≤ s1_14 ∧ s1_14 ≤ 1) ∧ (s1_14 = 0 ∨ v5_14 = 1 ∨ I6 0 5 ≤ 63) ∧ (I6 0 71 = 5 ∨ I6 0 73 ≤ I6 0 69) ∧ (I6 0 72 ≤ I6 0 69) ∧ (I6 0 71 = 0 ∨ (I6 0 72 < I6 0 73 ∧ I6 0 72 < I6 0 69)) ∧ (I6 0 71 = 3 → 2 ≤ I6 0 73 - I6 0 72 ∧ I6 0 73 - I6 0 72 ≤ 14) ∧ (I6 0 72 ≤ I6 0 73) ∧ (I6 0 69 = I 0 69) ∧ (I 0 73 ≤ I6 0 73) ∧ (I 0 72 ≤ I6 0 72)) → gv_X (gr_E ws0 tb 11 (yX13_fact, cX13_fact, 6, (some .boolean)) kX13_fact) (gv_Q cX13_fact (some .boolean) (gr_sh ++ ext) (fun r h' => (∃ (I' : gr_I) (J' : gr_J), h' = gr_h I' J' ∧ gr_Inv I' ∧ gr_fr [5, 71, 72, 73, 74, 75, 76, 77] [5, 11, 12] I I' ∧ gr_fj [5, 71, 72, 73, 74, 75, 76, 77] [5, 11, 12] J J' ∧ (∃ z : Int, r = some (.inl z) ∧ 0 ≤ z ∧ z ≤ 1 ∧ (I' 0 71 = 5 ∨ I' 0 73 ≤ I' 0 69) ∧ (I' 0 72 ≤ I' 0 69) ∧ (I' 0 71 = 0 ∨ (I' 0 72 < I' 0 73 ∧ I' 0 72 < I' 0 69)) ∧ (I' 0 71 = 3 → 2 ≤ I' 0 73 - I' 0 72 ∧ I' 0 73 - I' 0 72 ≤ 14) ∧ (I' 0 72 ≤ I' 0 73) ∧ (I' 0 69 = I 0 69) ∧ (I 0 73 ≤ I' 0 73) ∧ (I 0 72 ≤ I' 0 72))))) (132, [(0, .inr (.inr (some 0))), (1, .inr (.inl v1_8)), (3, .inl v3_8), (4, .inl v4_8), (5, .inl v5_14)], [.inl s1_14, .inr (.inr (some 0))], gr_sh ++ ext, gr_h I6 J7) := by
      intro v5_14 s1_14 m_14
      obtain ⟨hv3_8_14, hv4_8_14, hv5_14, hs1_14, e0_14, e1_14, e2_14, e3_14, e4_14, e5_14, e6_14, e7_14, e8_14⟩ := m_14
      have f15 := (show 0 ≤ I6 0 71 ∧ I6 0 71 ≤ 5 from (hI6 0 71).1)
      have f16 := (show 0 ≤ I6 0 72 ∧ I6 0 72 ≤ 1000 from (hI6 0 72).1)
      have f17 := (show 0 ≤ I6 0 73 ∧ I6 0 73 ≤ 1001 from (hI6 0 73).1)
      have f18 := (show 0 ≤ I6 0 69 ∧ I6 0 69 ≤ 1000 from (hI6 0 69).1)
      have f19 := (show 0 ≤ I6 0 5 ∧ I6 0 5 ≤ 64 from (hI6 0 5).1)
      obtain ⟨r20, h20, E20, P20⟩ := r_done (ws0 := ws0) (tb := tb) hws htb ext I6 J7 hI6 s1_14 ⟨by omega, by omega⟩ (by omega) (by omega) (by omega) (by omega) (by omega)
      obtain ⟨I21, J22, rfl, hI21, g20, k20, ⟨z20, rfl, q20⟩⟩ := P20
      have FI21 := gr_frt FI6 g20 rfl rfl
      have FJ22 := gr_fjt FJ7 k20 rfl rfl
      have t23 := g20 0 69 rfl
      have t24 := g20 0 5 rfl
      have f25 := (show 0 ≤ I21 0 71 ∧ I21 0 71 ≤ 5 from (hI21 0 71).1)
      have f26 := (show 0 ≤ I21 0 72 ∧ I21 0 72 ≤ 1000 from (hI21 0 72).1)
      have f27 := (show 0 ≤ I21 0 73 ∧ I21 0 73 ≤ 1001 from (hI21 0 73).1)
      have f28 := (show 0 ≤ I21 0 69 ∧ I21 0 69 ≤ 1000 from (hI21 0 69).1)
      have f29 := (show 0 ≤ I21 0 5 ∧ I21 0 5 ≤ 64 from (hI21 0 5).1)
      refine gv_callV hD rfl (As := [.inl s1_14]) (st := []) rfl (by decide) rfl rfl (gr_lV hws rfl) (Nat.le_of_ble_eq_true rfl) (gz_Ev_mono (d := 11) (by decide) E20) ?_
      show gv_X _ _ (135, [(0, .inr (.inr (some 0))), (1, .inr (.inl v1_8)), (3, .inl v3_8), (4, .inl v4_8), (5, .inl v5_14)], [.inl z20], gr_sh ++ ext, gr_h I21 J22)
      refine gv_if_ne (t := 140) hD rfl rfl ⟨by omega, by omega⟩ (fun c30 => ?_) (fun c30 => ?_)
      · refine gv_run 1 true hD (pc' := 142) (lv' := [(0, .inr (.inr (some 0))), (1, .inr (.inl v1_8)), (3, .inl v3_8), (4, .inl v4_8), (5, .inl v5_14)]) (st' := [.inl v5_14]) (h' := gr_h I21 J22) (C := (True ∧ True)) rfl ⟨trivial, trivial⟩ ?_
        refine gv_if_eq (t := 147) hD rfl rfl ⟨by omega, by omega⟩ (fun c31 => ?_) (fun c31 => ?_)
        · have f32 := (show 0 ≤ I21 0 5 ∧ I21 0 5 ≤ 64 from (hI21 0 5).1)
          refine gv_run 5 true hD (pc' := 156) (lv' := [(0, .inr (.inr (some 0))), (1, .inr (.inl v1_8)), (3, .inl v3_8), (4, .inl v4_8), (5, .inl v5_14)]) (st' := [.inr (.inl v1_8), .inl (I21 0 5), .inr (.inr (some 5))]) (h' := gr_h I21 J22) (C := (((((True ∧ True) ∧ True) ∧ True) ∧ True) ∧ True)) rfl ⟨⟨⟨⟨⟨trivial, trivial⟩, trivial⟩, trivial⟩, trivial⟩, trivial⟩ ?_
          refine gv_run 1 true hD (pc' := 157) (lv' := [(0, .inr (.inr (some 0))), (1, .inr (.inl v1_8)), (3, .inl v3_8), (4, .inl v4_8), (5, .inl v5_14)]) (st' := []) (h' := gz_up (gr_h I21 J22) 5 (Int.toNat ((I21 0 5))) (.inr (.inl v1_8))) (C := (True ∧ (0 ≤ (I21 0 5) ∧ (I21 0 5) < ((64 : Nat) : Int)))) rfl ⟨trivial, ⟨by omega, by omega⟩⟩ ?_
          refine gr_stJ FJ22 rfl rfl (fun J33 FJ33 => ?_)
          have f34 := (show 0 ≤ I21 0 5 ∧ I21 0 5 ≤ 64 from (hI21 0 5).1)
          refine gv_run 5 true hD (pc' := 166) (lv' := [(0, .inr (.inr (some 0))), (1, .inr (.inl v1_8)), (3, .inl v3_8), (4, .inl v4_8), (5, .inl v5_14)]) (st' := [.inl v3_8, .inl (I21 0 5), .inr (.inr (some 11))]) (h' := gr_h I21 J33) (C := (((((True ∧ True) ∧ True) ∧ True) ∧ True) ∧ True)) rfl ⟨⟨⟨⟨⟨trivial, trivial⟩, trivial⟩, trivial⟩, trivial⟩, trivial⟩ ?_
          refine gv_run 1 true hD (pc' := 167) (lv' := [(0, .inr (.inr (some 0))), (1, .inr (.inl v1_8)), (3, .inl v3_8), (4, .inl v4_8), (5, .inl v5_14)]) (st' := []) (h' := gz_up (gr_h I21 J33) 11 (Int.toNat ((I21 0 5))) (.inl v3_8)) (C := (True ∧ (0 ≤ (I21 0 5) ∧ (I21 0 5) < ((64 : Nat) : Int)))) rfl ⟨trivial, ⟨by omega, by omega⟩⟩ ?_
          refine gr_st hI21 FI21 rfl rfl ⟨⟨by show (-1) ≤ _; omega, by show _ ≤ 7; omega⟩, trivial⟩ (fun I35 hI35 FI35 q36 p36 => ?_)
          have t37 := p36 0 71 (fun q => absurd q.1 (by decide))
          have t38 := p36 0 72 (fun q => absurd q.1 (by decide))
          have t39 := p36 0 73 (fun q => absurd q.1 (by decide))
          have t40 := p36 0 69 (fun q => absurd q.1 (by decide))
          have t41 := p36 0 5 (fun q => absurd q.1 (by decide))
          have f42 := (show 0 ≤ I35 0 71 ∧ I35 0 71 ≤ 5 from (hI35 0 71).1)
          have f43 := (show 0 ≤ I35 0 72 ∧ I35 0 72 ≤ 1000 from (hI35 0 72).1)
          have f44 := (show 0 ≤ I35 0 73 ∧ I35 0 73 ≤ 1001 from (hI35 0 73).1)
          have f45 := (show 0 ≤ I35 0 69 ∧ I35 0 69 ≤ 1000 from (hI35 0 69).1)
          have f46 := (show 0 ≤ I35 0 5 ∧ I35 0 5 ≤ 64 from (hI35 0 5).1)
          have f47 := (show 0 ≤ I35 0 5 ∧ I35 0 5 ≤ 64 from (hI35 0 5).1)
          refine gv_run 7 true hD (pc' := 178) (lv' := [(0, .inr (.inr (some 0))), (1, .inr (.inl v1_8)), (3, .inl v3_8), (4, .inl v4_8), (5, .inl v5_14)]) (st' := [.inl 1, .inl (I35 0 5), .inr (.inr (some 0)), .inl (I35 0 5), .inr (.inr (some 12))]) (h' := gr_h I35 J33) (C := (((((((True ∧ True) ∧ True) ∧ True) ∧ True) ∧ True) ∧ True) ∧ True)) rfl ⟨⟨⟨⟨⟨⟨⟨trivial, trivial⟩, trivial⟩, trivial⟩, trivial⟩, trivial⟩, trivial⟩, trivial⟩ ?_
          refine gv_run 2 true hD (pc' := 182) (lv' := [(0, .inr (.inr (some 0))), (1, .inr (.inl v1_8)), (3, .inl v3_8), (4, .inl v4_8), (5, .inl v5_14)]) (st' := [.inl (I35 0 5), .inr (.inr (some 12))]) (h' := gz_up (gr_h I35 J33) 0 5 (.inl (((I35 0 5) + 1)))) (C := ((True ∧ True) ∧ True)) rfl ⟨⟨trivial, trivial⟩, trivial⟩ ?_
          refine gr_st hI35 FI35 rfl rfl ⟨⟨by show 0 ≤ _; omega, by show _ ≤ 64; omega⟩, trivial⟩ (fun I48 hI48 FI48 q49 p49 => ?_)
          have t50 := p49 0 71 (by decide)
          have t51 := p49 0 72 (by decide)
          have t52 := p49 0 73 (by decide)
          have t53 := p49 0 69 (by decide)
          have f54 := (show 0 ≤ I48 0 71 ∧ I48 0 71 ≤ 5 from (hI48 0 71).1)
          have f55 := (show 0 ≤ I48 0 72 ∧ I48 0 72 ≤ 1000 from (hI48 0 72).1)
          have f56 := (show 0 ≤ I48 0 73 ∧ I48 0 73 ≤ 1001 from (hI48 0 73).1)
          have f57 := (show 0 ≤ I48 0 69 ∧ I48 0 69 ≤ 1000 from (hI48 0 69).1)
          have f58 := (show 0 ≤ I48 0 5 ∧ I48 0 5 ≤ 64 from (hI48 0 5).1)
          refine gv_run 2 true hD (pc' := 185) (lv' := [(0, .inr (.inr (some 0))), (1, .inr (.inl v1_8)), (3, .inl v3_8), (4, .inl v4_8), (5, .inl v5_14)]) (st' := []) (h' := gz_up (gr_h I48 J33) 12 (Int.toNat ((I35 0 5))) (.inl v4_8)) (C := ((True ∧ True) ∧ (0 ≤ (I35 0 5) ∧ (I35 0 5) < ((64 : Nat) : Int)))) rfl ⟨⟨trivial, trivial⟩, ⟨by omega, by omega⟩⟩ ?_
          refine gr_st hI48 FI48 rfl rfl ⟨⟨by show (-1) ≤ _; omega, by show _ ≤ 7; omega⟩, trivial⟩ (fun I59 hI59 FI59 q60 p60 => ?_)
          have t61 := p60 0 71 (fun q => absurd q.1 (by decide))
          have t62 := p60 0 72 (fun q => absurd q.1 (by decide))
          have t63 := p60 0 73 (fun q => absurd q.1 (by decide))
          have t64 := p60 0 69 (fun q => absurd q.1 (by decide))
          have t65 := p60 0 5 (fun q => absurd q.1 (by decide))
          have f66 := (show 0 ≤ I59 0 71 ∧ I59 0 71 ≤ 5 from (hI59 0 71).1)
          have f67 := (show 0 ≤ I59 0 72 ∧ I59 0 72 ≤ 1000 from (hI59 0 72).1)
          have f68 := (show 0 ≤ I59 0 73 ∧ I59 0 73 ≤ 1001 from (hI59 0 73).1)
          have f69 := (show 0 ≤ I59 0 69 ∧ I59 0 69 ≤ 1000 from (hI59 0 69).1)
          have f70 := (show 0 ≤ I59 0 5 ∧ I59 0 5 ≤ 64 from (hI59 0 5).1)
          refine gv_run 1 true hD (pc' := 186) (lv' := [(0, .inr (.inr (some 0))), (1, .inr (.inl v1_8)), (3, .inl v3_8), (4, .inl v4_8), (5, .inl v5_14)]) (st' := [.inl 1]) (h' := gr_h I59 J33) (C := (True ∧ True)) rfl ⟨trivial, trivial⟩ ?_
          exact gv_zret hD rfl (by omega) ⟨I59, J33, rfl, hI59, FI59, FJ33, ⟨_, rfl, by omega⟩⟩
        · refine gv_run 1 true hD (pc' := 146) (lv' := [(0, .inr (.inr (some 0))), (1, .inr (.inl v1_8)), (3, .inl v3_8), (4, .inl v4_8), (5, .inl v5_14)]) (st' := [.inl 1]) (h' := gr_h I21 J22) (C := (True ∧ True)) rfl ⟨trivial, trivial⟩ ?_
          exact gv_zret hD rfl (by omega) ⟨I21, J22, rfl, hI21, FI21, FJ22, ⟨_, rfl, by omega⟩⟩
      · refine gv_run 1 true hD (pc' := 139) (lv' := [(0, .inr (.inr (some 0))), (1, .inr (.inl v1_8)), (3, .inl v3_8), (4, .inl v4_8), (5, .inl v5_14)]) (st' := [.inl 0]) (h' := gr_h I21 J22) (C := (True ∧ True)) rfl ⟨trivial, trivial⟩ ?_
        exact gv_zret hD rfl (by omega) ⟨I21, J22, rfl, hI21, FI21, FJ22, ⟨_, rfl, by omega⟩⟩
    have L127 : ∀ (v5_71 : Int), ((0 ≤ v3_8 ∧ v3_8 ≤ 7) ∧ ((-1) ≤ v4_8 ∧ v4_8 ≤ 7) ∧ (0 ≤ v5_71 ∧ v5_71 ≤ 1) ∧ (v5_71 = 1 ∨ I6 0 5 ≤ 63) ∧ (I6 0 71 = 5 ∨ I6 0 73 ≤ I6 0 69) ∧ (I6 0 72 ≤ I6 0 69) ∧ (I6 0 71 = 0 ∨ (I6 0 72 < I6 0 73 ∧ I6 0 72 < I6 0 69)) ∧ (I6 0 71 = 3 → 2 ≤ I6 0 73 - I6 0 72 ∧ I6 0 73 - I6 0 72 ≤ 14) ∧ (I6 0 72 ≤ I6 0 73) ∧ (I6 0 69 = I 0 69) ∧ (I 0 73 ≤ I6 0 73) ∧ (I 0 72 ≤ I6 0 72)) → gv_X (gr_E ws0 tb 11 (yX13_fact, cX13_fact, 6, (some .boolean)) kX13_fact) (gv_Q cX13_fact (some .boolean) (gr_sh ++ ext) (fun r h' => (∃ (I' : gr_I) (J' : gr_J), h' = gr_h I' J' ∧ gr_Inv I' ∧ gr_fr [5, 71, 72, 73, 74, 75, 76, 77] [5, 11, 12] I I' ∧ gr_fj [5, 71, 72, 73, 74, 75, 76, 77] [5, 11, 12] J J' ∧ (∃ z : Int, r = some (.inl z) ∧ 0 ≤ z ∧ z ≤ 1 ∧ (I' 0 71 = 5 ∨ I' 0 73 ≤ I' 0 69) ∧ (I' 0 72 ≤ I' 0 69) ∧ (I' 0 71 = 0 ∨ (I' 0 72 < I' 0 73 ∧ I' 0 72 < I' 0 69)) ∧ (I' 0 71 = 3 → 2 ≤ I' 0 73 - I' 0 72 ∧ I' 0 73 - I' 0 72 ≤ 14) ∧ (I' 0 72 ≤ I' 0 73) ∧ (I' 0 69 = I 0 69) ∧ (I 0 73 ≤ I' 0 73) ∧ (I 0 72 ≤ I' 0 72))))) (127, [(0, .inr (.inr (some 0))), (1, .inr (.inl v1_8)), (3, .inl v3_8), (4, .inl v4_8), (5, .inl v5_71)], [.inr (.inr (some 0))], gr_sh ++ ext, gr_h I6 J7) := by
      intro v5_71 m_71
      obtain ⟨hv3_8_71, hv4_8_71, hv5_71, e0_71, e1_71, e2_71, e3_71, e4_71, e5_71, e6_71, e7_71, e8_71⟩ := m_71
      have f72 := (show 0 ≤ I6 0 71 ∧ I6 0 71 ≤ 5 from (hI6 0 71).1)
      have f73 := (show 0 ≤ I6 0 72 ∧ I6 0 72 ≤ 1000 from (hI6 0 72).1)
      have f74 := (show 0 ≤ I6 0 73 ∧ I6 0 73 ≤ 1001 from (hI6 0 73).1)
      have f75 := (show 0 ≤ I6 0 69 ∧ I6 0 69 ≤ 1000 from (hI6 0 69).1)
      have f76 := (show 0 ≤ I6 0 5 ∧ I6 0 5 ≤ 64 from (hI6 0 5).1)
      refine gv_run 2 true hD (pc' := 132) (lv' := [(0, .inr (.inr (some 0))), (1, .inr (.inl v1_8)), (3, .inl v3_8), (4, .inl v4_8), (5, .inl v5_71)]) (st' := [.inl 1, .inr (.inr (some 0))]) (h' := gr_h I6 J7) (C := ((True ∧ True) ∧ True)) rfl ⟨⟨trivial, trivial⟩, trivial⟩ ?_
      exact L132 v5_71 1 (by omega)
    refine gv_run 4 true hD (pc' := 107) (lv' := [(0, .inr (.inr (some 0))), (1, .inr (.inl v1_8)), (3, .inl v3_8), (4, .inl v4_8)]) (st' := [.inl v4_8, .inl v3_8, .inr (.inl v1_8), .inr (.inr (some 0))]) (h' := gr_h I6 J7) (C := ((((True ∧ True) ∧ True) ∧ True) ∧ True)) rfl ⟨⟨⟨⟨trivial, trivial⟩, trivial⟩, trivial⟩, trivial⟩ ?_
    obtain ⟨r77, h77, E77, P77⟩ := r_isFact (ws0 := ws0) (tb := tb) hws htb ext I6 J7 hI6 v1_8 v3_8 v4_8 ⟨by omega, by omega⟩ ⟨by omega, by omega⟩ 
    obtain ⟨rfl, ⟨z77, rfl, q77⟩⟩ := P77
    refine gv_callV hD rfl (As := [.inr (.inl v1_8), .inl v3_8, .inl v4_8]) (st := []) rfl (by decide) rfl rfl (gr_lV hws rfl) (Nat.le_of_ble_eq_true rfl) (gz_Ev_mono (d := 1) (by decide) E77) ?_
    show gv_X _ _ (110, [(0, .inr (.inr (some 0))), (1, .inr (.inl v1_8)), (3, .inl v3_8), (4, .inl v4_8)], [.inl z77], gr_sh ++ ext, gr_h I6 J7)
    refine gv_run 3 true hD (pc' := 115) (lv' := [(5, .inl z77), (0, .inr (.inr (some 0))), (1, .inr (.inl v1_8)), (3, .inl v3_8), (4, .inl v4_8)]) (st' := [.inl z77, .inr (.inr (some 0))]) (h' := gr_h I6 J7) (C := (((True ∧ True) ∧ True) ∧ True)) rfl ⟨⟨⟨trivial, trivial⟩, trivial⟩, trivial⟩ ?_
    refine gv_if_ne (t := 127) hD rfl rfl ⟨by omega, by omega⟩ (fun c78 => ?_) (fun c78 => ?_)
    · refine gv_pick [1, 2, 3, 4, 0] rfl ?_
      exact L127 z77 (by omega)
    · have f79 := (show 0 ≤ I6 0 5 ∧ I6 0 5 ≤ 64 from (hI6 0 5).1)
      refine gv_run 3 true hD (pc' := 124) (lv' := [(5, .inl z77), (0, .inr (.inr (some 0))), (1, .inr (.inl v1_8)), (3, .inl v3_8), (4, .inl v4_8)]) (st' := [.inl 64, .inl (I6 0 5), .inr (.inr (some 0))]) (h' := gr_h I6 J7) (C := (((True ∧ True) ∧ True) ∧ True)) rfl ⟨⟨⟨trivial, trivial⟩, trivial⟩, trivial⟩ ?_
      refine gv_icmp_ge (t := 131) hD rfl rfl ⟨⟨by omega, by omega⟩, ⟨by omega, by omega⟩⟩ (fun c80 => ?_) (fun c80 => ?_)
      · refine gv_run 1 true hD (pc' := 132) (lv' := [(5, .inl z77), (0, .inr (.inr (some 0))), (1, .inr (.inl v1_8)), (3, .inl v3_8), (4, .inl v4_8)]) (st' := [.inl 0, .inr (.inr (some 0))]) (h' := gr_h I6 J7) (C := (True ∧ True)) rfl ⟨trivial, trivial⟩ ?_
        refine gv_pick [1, 2, 3, 4, 0] rfl ?_
        exact L132 z77 0 (by omega)
      · refine gv_pick [1, 2, 3, 4, 0] rfl ?_
        exact L127 z77 (by omega)
  refine gv_run 1 true hD (pc' := 1) (lv' := [(0, .inr (.inr (some 0)))]) (st' := [.inr (.inr (some 0))]) (h' := gr_h I J) (C := (True ∧ True)) rfl ⟨trivial, trivial⟩ ?_
  obtain ⟨r81, h81, E81, P81⟩ := r_name (ws0 := ws0) (tb := tb) hws htb ext I J hI   
  obtain ⟨I82, J83, rfl, hI82, g81, k81, ⟨z81, rfl, q81⟩⟩ := P81
  have FI82 := gr_frt FI g81 rfl rfl
  have FJ83 := gr_fjt FJ k81 rfl rfl
  have t84 := g81 0 71 rfl
  have t85 := g81 0 72 rfl
  have t86 := g81 0 73 rfl
  have t87 := g81 0 69 rfl
  have t88 := g81 0 5 rfl
  have f89 := (show 0 ≤ I82 0 71 ∧ I82 0 71 ≤ 5 from (hI82 0 71).1)
  have f90 := (show 0 ≤ I82 0 72 ∧ I82 0 72 ≤ 1000 from (hI82 0 72).1)
  have f91 := (show 0 ≤ I82 0 73 ∧ I82 0 73 ≤ 1001 from (hI82 0 73).1)
  have f92 := (show 0 ≤ I82 0 69 ∧ I82 0 69 ≤ 1000 from (hI82 0 69).1)
  have f93 := (show 0 ≤ I82 0 5 ∧ I82 0 5 ≤ 64 from (hI82 0 5).1)
  refine gv_callV hD rfl (As := []) (st := []) rfl (by decide) rfl rfl (gr_lV hws rfl) (Nat.le_of_ble_eq_true rfl) (gz_Ev_mono (d := 3) (by decide) E81) ?_
  show gv_X _ _ (4, [(0, .inr (.inr (some 0)))], [.inl z81], gr_sh ++ ext, gr_h I82 J83)
  refine gv_if_ne (t := 9) hD rfl rfl ⟨by omega, by omega⟩ (fun c94 => ?_) (fun c94 => ?_)
  · refine gv_run 4 true hD (pc' := 15) (lv' := [(1, .inr (.inl (J83 0 75))), (0, .inr (.inr (some 0)))]) (st' := [.inr (.inr (some 0))]) (h' := gr_h I82 J83) (C := ((((True ∧ True) ∧ True) ∧ True) ∧ True)) rfl ⟨⟨⟨⟨trivial, trivial⟩, trivial⟩, trivial⟩, trivial⟩ ?_
    obtain ⟨r95, h95, E95, P95⟩ := r_next (ws0 := ws0) (tb := tb) hws htb ext I82 J83 hI82   (by omega)
    obtain ⟨I96, J97, rfl, hI96, g95, k95, ⟨rfl, q95⟩⟩ := P95
    have FI96 := gr_frt FI82 g95 rfl rfl
    have FJ97 := gr_fjt FJ83 k95 rfl rfl
    have t98 := g95 0 69 rfl
    have t99 := g95 0 5 rfl
    have f100 := (show 0 ≤ I96 0 71 ∧ I96 0 71 ≤ 5 from (hI96 0 71).1)
    have f101 := (show 0 ≤ I96 0 72 ∧ I96 0 72 ≤ 1000 from (hI96 0 72).1)
    have f102 := (show 0 ≤ I96 0 73 ∧ I96 0 73 ≤ 1001 from (hI96 0 73).1)
    have f103 := (show 0 ≤ I96 0 69 ∧ I96 0 69 ≤ 1000 from (hI96 0 69).1)
    have f104 := (show 0 ≤ I96 0 5 ∧ I96 0 5 ≤ 64 from (hI96 0 5).1)
    refine gv_callV hD rfl (As := []) (st := []) rfl (by decide) rfl rfl (gr_lV hws rfl) (Nat.le_of_ble_eq_true rfl) (gz_Ev_mono (d := 10) (by decide) E95) ?_
    show gv_X _ _ (18, [(1, .inr (.inl (J83 0 75))), (0, .inr (.inr (some 0)))], [], gr_sh ++ ext, gr_h I96 J97)
    refine gv_run 1 true hD (pc' := 19) (lv' := [(1, .inr (.inl (J83 0 75))), (0, .inr (.inr (some 0)))]) (st' := [.inr (.inr (some 0))]) (h' := gr_h I96 J97) (C := (True ∧ True)) rfl ⟨trivial, trivial⟩ ?_
    obtain ⟨r105, h105, E105, P105⟩ := r_name (ws0 := ws0) (tb := tb) hws htb ext I96 J97 hI96   
    obtain ⟨I106, J107, rfl, hI106, g105, k105, ⟨z105, rfl, q105⟩⟩ := P105
    have FI106 := gr_frt FI96 g105 rfl rfl
    have FJ107 := gr_fjt FJ97 k105 rfl rfl
    have t108 := g105 0 71 rfl
    have t109 := g105 0 72 rfl
    have t110 := g105 0 73 rfl
    have t111 := g105 0 69 rfl
    have t112 := g105 0 5 rfl
    have f113 := (show 0 ≤ I106 0 71 ∧ I106 0 71 ≤ 5 from (hI106 0 71).1)
    have f114 := (show 0 ≤ I106 0 72 ∧ I106 0 72 ≤ 1000 from (hI106 0 72).1)
    have f115 := (show 0 ≤ I106 0 73 ∧ I106 0 73 ≤ 1001 from (hI106 0 73).1)
    have f116 := (show 0 ≤ I106 0 69 ∧ I106 0 69 ≤ 1000 from (hI106 0 69).1)
    have f117 := (show 0 ≤ I106 0 5 ∧ I106 0 5 ≤ 64 from (hI106 0 5).1)
    refine gv_callV hD rfl (As := []) (st := []) rfl (by decide) rfl rfl (gr_lV hws rfl) (Nat.le_of_ble_eq_true rfl) (gz_Ev_mono (d := 3) (by decide) E105) ?_
    show gv_X _ _ (22, [(1, .inr (.inl (J83 0 75))), (0, .inr (.inr (some 0)))], [.inl z105], gr_sh ++ ext, gr_h I106 J107)
    refine gv_if_ne (t := 27) hD rfl rfl ⟨by omega, by omega⟩ (fun c118 => ?_) (fun c118 => ?_)
    · have f119 := (show 0 ≤ I106 0 4 ∧ I106 0 4 ≤ 8 from (hI106 0 4).1)
      refine gv_run 7 true hD (pc' := 40) (lv' := [(1, .inr (.inl (J83 0 75))), (0, .inr (.inr (some 0)))]) (st' := [.inr (.inl (J107 0 75)), .inl (I106 0 4), .inl 0, .inr (.inr (some 4))]) (h' := gr_h I106 J107) (C := (((((((True ∧ True) ∧ True) ∧ True) ∧ True) ∧ True) ∧ True) ∧ True)) rfl ⟨⟨⟨⟨⟨⟨⟨trivial, trivial⟩, trivial⟩, trivial⟩, trivial⟩, trivial⟩, trivial⟩, trivial⟩ ?_
      obtain ⟨r120, h120, E120, P120⟩ := r_find_4 (ws0 := ws0) (tb := tb) hws htb ext I106 J107 hI106 0 (I106 0 4) (J107 0 75) ⟨by omega, by omega⟩ ⟨by omega, by omega⟩ (by omega)
      obtain ⟨rfl, ⟨z120, rfl, q120⟩⟩ := P120
      refine gv_callS hD rfl (As := [.inr (.inr (some 4)), .inl 0, .inl (I106 0 4), .inr (.inl (J107 0 75))]) (st := []) rfl (gr_lS hws rfl) (Nat.le_of_ble_eq_true rfl) (gz_Ev_mono (d := 1) (by decide) E120) ?_
      show gv_X _ _ (43, [(1, .inr (.inl (J83 0 75))), (0, .inr (.inr (some 0)))], [.inl z120], gr_sh ++ ext, gr_h I106 J107)
      refine gv_run 2 true hD (pc' := 45) (lv' := [(3, .inl z120), (1, .inr (.inl (J83 0 75))), (0, .inr (.inr (some 0)))]) (st' := [.inl z120]) (h' := gr_h I106 J107) (C := ((True ∧ True) ∧ True)) rfl ⟨⟨trivial, trivial⟩, trivial⟩ ?_
      refine gv_if_ge (t := 54) hD rfl rfl ⟨by omega, by omega⟩ (fun c121 => ?_) (fun c121 => ?_)
      · refine gv_run 1 true hD (pc' := 55) (lv' := [(3, .inl z120), (1, .inr (.inl (J83 0 75))), (0, .inr (.inr (some 0)))]) (st' := [.inr (.inr (some 0))]) (h' := gr_h I106 J107) (C := (True ∧ True)) rfl ⟨trivial, trivial⟩ ?_
        obtain ⟨r122, h122, E122, P122⟩ := r_next (ws0 := ws0) (tb := tb) hws htb ext I106 J107 hI106   (by omega)
        obtain ⟨I123, J124, rfl, hI123, g122, k122, ⟨rfl, q122⟩⟩ := P122
        have FI123 := gr_frt FI106 g122 rfl rfl
        have FJ124 := gr_fjt FJ107 k122 rfl rfl
        have t125 := g122 0 69 rfl
        have t126 := g122 0 5 rfl
        have f127 := (show 0 ≤ I123 0 71 ∧ I123 0 71 ≤ 5 from (hI123 0 71).1)
        have f128 := (show 0 ≤ I123 0 72 ∧ I123 0 72 ≤ 1000 from (hI123 0 72).1)
        have f129 := (show 0 ≤ I123 0 73 ∧ I123 0 73 ≤ 1001 from (hI123 0 73).1)
        have f130 := (show 0 ≤ I123 0 69 ∧ I123 0 69 ≤ 1000 from (hI123 0 69).1)
        have f131 := (show 0 ≤ I123 0 5 ∧ I123 0 5 ≤ 64 from (hI123 0 5).1)
        refine gv_callV hD rfl (As := []) (st := []) rfl (by decide) rfl rfl (gr_lV hws rfl) (Nat.le_of_ble_eq_true rfl) (gz_Ev_mono (d := 10) (by decide) E122) ?_
        show gv_X _ _ (58, [(3, .inl z120), (1, .inr (.inl (J83 0 75))), (0, .inr (.inr (some 0)))], [], gr_sh ++ ext, gr_h I123 J124)
        have f132 := (show 0 ≤ I123 0 71 ∧ I123 0 71 ≤ 5 from (hI123 0 71).1)
        refine gv_run 5 true hD (pc' := 66) (lv' := [(4, .inl (-1)), (3, .inl z120), (1, .inr (.inl (J83 0 75))), (0, .inr (.inr (some 0)))]) (st' := [.inl 1, .inl (I123 0 71)]) (h' := gr_h I123 J124) (C := (((((True ∧ True) ∧ True) ∧ True) ∧ True) ∧ True)) rfl ⟨⟨⟨⟨⟨trivial, trivial⟩, trivial⟩, trivial⟩, trivial⟩, trivial⟩ ?_
        refine gv_icmp_ne (t := 102) hD rfl rfl ⟨⟨by omega, by omega⟩, ⟨by omega, by omega⟩⟩ (fun c133 => ?_) (fun c133 => ?_)
        · refine gv_pick [3, 2, 1, 0] rfl ?_
          exact L102 I123 J124 (J83 0 75) z120 (-1) hI123 FI123 FJ124 (by omega)
        · have f134 := (show 0 ≤ I123 0 4 ∧ I123 0 4 ≤ 8 from (hI123 0 4).1)
          refine gv_run 7 true hD (pc' := 82) (lv' := [(4, .inl (-1)), (3, .inl z120), (1, .inr (.inl (J83 0 75))), (0, .inr (.inr (some 0)))]) (st' := [.inr (.inl (J124 0 75)), .inl (I123 0 4), .inl 0, .inr (.inr (some 4))]) (h' := gr_h I123 J124) (C := (((((((True ∧ True) ∧ True) ∧ True) ∧ True) ∧ True) ∧ True) ∧ True)) rfl ⟨⟨⟨⟨⟨⟨⟨trivial, trivial⟩, trivial⟩, trivial⟩, trivial⟩, trivial⟩, trivial⟩, trivial⟩ ?_
          obtain ⟨r135, h135, E135, P135⟩ := r_find_4 (ws0 := ws0) (tb := tb) hws htb ext I123 J124 hI123 0 (I123 0 4) (J124 0 75) ⟨by omega, by omega⟩ ⟨by omega, by omega⟩ (by omega)
          obtain ⟨rfl, ⟨z135, rfl, q135⟩⟩ := P135
          refine gv_callS hD rfl (As := [.inr (.inr (some 4)), .inl 0, .inl (I123 0 4), .inr (.inl (J124 0 75))]) (st := []) rfl (gr_lS hws rfl) (Nat.le_of_ble_eq_true rfl) (gz_Ev_mono (d := 1) (by decide) E135) ?_
          show gv_X _ _ (85, [(4, .inl (-1)), (3, .inl z120), (1, .inr (.inl (J83 0 75))), (0, .inr (.inr (some 0)))], [.inl z135], gr_sh ++ ext, gr_h I123 J124)
          refine gv_run 2 true hD (pc' := 89) (lv' := [(4, .inl z135), (3, .inl z120), (1, .inr (.inl (J83 0 75))), (0, .inr (.inr (some 0)))]) (st' := [.inl z135]) (h' := gr_h I123 J124) (C := ((True ∧ True) ∧ True)) rfl ⟨⟨trivial, trivial⟩, trivial⟩ ?_
          refine gv_if_ge (t := 98) hD rfl rfl ⟨by omega, by omega⟩ (fun c136 => ?_) (fun c136 => ?_)
          · refine gv_run 1 true hD (pc' := 99) (lv' := [(4, .inl z135), (3, .inl z120), (1, .inr (.inl (J83 0 75))), (0, .inr (.inr (some 0)))]) (st' := [.inr (.inr (some 0))]) (h' := gr_h I123 J124) (C := (True ∧ True)) rfl ⟨trivial, trivial⟩ ?_
            obtain ⟨r137, h137, E137, P137⟩ := r_next (ws0 := ws0) (tb := tb) hws htb ext I123 J124 hI123   (by omega)
            obtain ⟨I138, J139, rfl, hI138, g137, k137, ⟨rfl, q137⟩⟩ := P137
            have FI138 := gr_frt FI123 g137 rfl rfl
            have FJ139 := gr_fjt FJ124 k137 rfl rfl
            have t140 := g137 0 69 rfl
            have t141 := g137 0 5 rfl
            have f142 := (show 0 ≤ I138 0 71 ∧ I138 0 71 ≤ 5 from (hI138 0 71).1)
            have f143 := (show 0 ≤ I138 0 72 ∧ I138 0 72 ≤ 1000 from (hI138 0 72).1)
            have f144 := (show 0 ≤ I138 0 73 ∧ I138 0 73 ≤ 1001 from (hI138 0 73).1)
            have f145 := (show 0 ≤ I138 0 69 ∧ I138 0 69 ≤ 1000 from (hI138 0 69).1)
            have f146 := (show 0 ≤ I138 0 5 ∧ I138 0 5 ≤ 64 from (hI138 0 5).1)
            refine gv_callV hD rfl (As := []) (st := []) rfl (by decide) rfl rfl (gr_lV hws rfl) (Nat.le_of_ble_eq_true rfl) (gz_Ev_mono (d := 10) (by decide) E137) ?_
            show gv_X _ _ (102, [(4, .inl z135), (3, .inl z120), (1, .inr (.inl (J83 0 75))), (0, .inr (.inr (some 0)))], [], gr_sh ++ ext, gr_h I138 J139)
            refine gv_pick [3, 2, 1, 0] rfl ?_
            exact L102 I138 J139 (J83 0 75) z120 z135 hI138 FI138 FJ139 (by omega)
          · refine gv_run 2 true hD (pc' := 94) (lv' := [(4, .inl z135), (3, .inl z120), (1, .inr (.inl (J83 0 75))), (0, .inr (.inr (some 0)))]) (st' := [.inl 5, .inr (.inr (some 0))]) (h' := gr_h I123 J124) (C := ((True ∧ True) ∧ True)) rfl ⟨⟨trivial, trivial⟩, trivial⟩ ?_
            obtain ⟨r147, h147, E147, P147⟩ := r_no_ (ws0 := ws0) (tb := tb) hws htb ext I123 J124 hI123 5 ⟨by omega, by omega⟩ 
            obtain ⟨I148, J149, rfl, hI148, g147, k147, ⟨z147, rfl, q147⟩⟩ := P147
            have FI148 := gr_frt FI123 g147 rfl rfl
            have FJ149 := gr_fjt FJ124 k147 rfl rfl
            have t150 := g147 0 71 rfl
            have t151 := g147 0 72 rfl
            have t152 := g147 0 73 rfl
            have t153 := g147 0 69 rfl
            have t154 := g147 0 5 rfl
            have f155 := (show 0 ≤ I148 0 71 ∧ I148 0 71 ≤ 5 from (hI148 0 71).1)
            have f156 := (show 0 ≤ I148 0 72 ∧ I148 0 72 ≤ 1000 from (hI148 0 72).1)
            have f157 := (show 0 ≤ I148 0 73 ∧ I148 0 73 ≤ 1001 from (hI148 0 73).1)
            have f158 := (show 0 ≤ I148 0 69 ∧ I148 0 69 ≤ 1000 from (hI148 0 69).1)
            have f159 := (show 0 ≤ I148 0 5 ∧ I148 0 5 ≤ 64 from (hI148 0 5).1)
            refine gv_callV hD rfl (As := [.inl 5]) (st := []) rfl (by decide) rfl rfl (gr_lV hws rfl) (Nat.le_of_ble_eq_true rfl) (gz_Ev_mono (d := 2) (by decide) E147) ?_
            show gv_X _ _ (97, [(4, .inl z135), (3, .inl z120), (1, .inr (.inl (J83 0 75))), (0, .inr (.inr (some 0)))], [.inl z147], gr_sh ++ ext, gr_h I148 J149)
            exact gv_zret hD rfl (by omega) ⟨I148, J149, rfl, hI148, FI148, FJ149, ⟨_, rfl, by omega⟩⟩
      · refine gv_run 2 true hD (pc' := 50) (lv' := [(3, .inl z120), (1, .inr (.inl (J83 0 75))), (0, .inr (.inr (some 0)))]) (st' := [.inl 5, .inr (.inr (some 0))]) (h' := gr_h I106 J107) (C := ((True ∧ True) ∧ True)) rfl ⟨⟨trivial, trivial⟩, trivial⟩ ?_
        obtain ⟨r160, h160, E160, P160⟩ := r_no_ (ws0 := ws0) (tb := tb) hws htb ext I106 J107 hI106 5 ⟨by omega, by omega⟩ 
        obtain ⟨I161, J162, rfl, hI161, g160, k160, ⟨z160, rfl, q160⟩⟩ := P160
        have FI161 := gr_frt FI106 g160 rfl rfl
        have FJ162 := gr_fjt FJ107 k160 rfl rfl
        have t163 := g160 0 71 rfl
        have t164 := g160 0 72 rfl
        have t165 := g160 0 73 rfl
        have t166 := g160 0 69 rfl
        have t167 := g160 0 5 rfl
        have f168 := (show 0 ≤ I161 0 71 ∧ I161 0 71 ≤ 5 from (hI161 0 71).1)
        have f169 := (show 0 ≤ I161 0 72 ∧ I161 0 72 ≤ 1000 from (hI161 0 72).1)
        have f170 := (show 0 ≤ I161 0 73 ∧ I161 0 73 ≤ 1001 from (hI161 0 73).1)
        have f171 := (show 0 ≤ I161 0 69 ∧ I161 0 69 ≤ 1000 from (hI161 0 69).1)
        have f172 := (show 0 ≤ I161 0 5 ∧ I161 0 5 ≤ 64 from (hI161 0 5).1)
        refine gv_callV hD rfl (As := [.inl 5]) (st := []) rfl (by decide) rfl rfl (gr_lV hws rfl) (Nat.le_of_ble_eq_true rfl) (gz_Ev_mono (d := 2) (by decide) E160) ?_
        show gv_X _ _ (53, [(3, .inl z120), (1, .inr (.inl (J83 0 75))), (0, .inr (.inr (some 0)))], [.inl z160], gr_sh ++ ext, gr_h I161 J162)
        exact gv_zret hD rfl (by omega) ⟨I161, J162, rfl, hI161, FI161, FJ162, ⟨_, rfl, by omega⟩⟩
    · refine gv_run 1 true hD (pc' := 26) (lv' := [(1, .inr (.inl (J83 0 75))), (0, .inr (.inr (some 0)))]) (st' := [.inl 0]) (h' := gr_h I106 J107) (C := (True ∧ True)) rfl ⟨trivial, trivial⟩ ?_
      exact gv_zret hD rfl (by omega) ⟨I106, J107, rfl, hI106, FI106, FJ107, ⟨_, rfl, by omega⟩⟩
  · refine gv_run 1 true hD (pc' := 8) (lv' := [(0, .inr (.inr (some 0)))]) (st' := [.inl 0]) (h' := gr_h I82 J83) (C := (True ∧ True)) rfl ⟨trivial, trivial⟩ ?_
    exact gv_zret hD rfl (by omega) ⟨I82, J83, rfl, hI82, FI82, FJ83, ⟨_, rfl, by omega⟩⟩
set_option maxHeartbeats 4000000 in
set_option maxRecDepth 100000 in
theorem r_argumentOf {ws0 : List Cond} {tb : String → gz_T} (hws : ∀ w ∈ gr_ws, w ∈ ws0) (htb : tb RX13 = gr_T) (ext : gz_Sh) (I : gr_I) (J : gr_J) (hI : gr_Inv I) (a1 : Int) (ha1 : 0 ≤ a1 ∧ a1 ≤ 95) (x0 : I 0 71 = 5 ∨ I 0 73 ≤ I 0 69) (x1 : I 0 72 ≤ I 0 69) (x2 : I 0 71 = 0 ∨ (I 0 72 < I 0 73 ∧ I 0 72 < I 0 69)) (x3 : I 0 71 = 3 → 2 ≤ I 0 73 - I 0 72 ∧ I 0 73 - I 0 72 ≤ 14) (x4 : I 0 72 ≤ I 0 73) : ∃ r h', gz_Ev ws0 tb 11 (yX13_argumentOf, cX13_argumentOf, 2, (some .boolean)) [.inr (.inr (some 0)), .inl a1] (gr_sh ++ ext) (gr_h I J) r (gr_sh ++ ext) h' 0 0 ∧ (∃ (I' : gr_I) (J' : gr_J), h' = gr_h I' J' ∧ gr_Inv I' ∧ gr_fr [71, 72, 73, 74, 75, 76, 77, 120] [] I I' ∧ gr_fj [71, 72, 73, 74, 75, 76, 77, 120] [] J J' ∧ (∃ z : Int, r = some (.inl z) ∧ 0 ≤ z ∧ z ≤ 1 ∧ (I' 0 71 = 5 ∨ I' 0 73 ≤ I' 0 69) ∧ (I' 0 72 ≤ I' 0 69) ∧ (I' 0 71 = 0 ∨ (I' 0 72 < I' 0 73 ∧ I' 0 72 < I' 0 69)) ∧ (I' 0 71 = 3 → 2 ≤ I' 0 73 - I' 0 72 ∧ I' 0 73 - I' 0 72 ≤ 14) ∧ (I' 0 72 ≤ I' 0 73) ∧ (I' 0 69 = I 0 69) ∧ (I 0 73 ≤ I' 0 73) ∧ (I 0 72 ≤ I' 0 72))) := by
  have FI : gr_fr [71, 72, 73, 74, 75, 76, 77, 120] [] I I := fun _ _ _ => rfl
  have FJ : gr_fj [71, 72, 73, 74, 75, 76, 77, 120] [] J J := fun _ _ _ => rfl
  have hD : gv_D (gr_E ws0 tb 10 (yX13_argumentOf, cX13_argumentOf, 2, (some .boolean)) kX13_argumentOf) := gq_ok oX13_argumentOf
  refine gr_ev (d := 10) (l := kX13_argumentOf) (Po := fun r h' => (∃ (I' : gr_I) (J' : gr_J), h' = gr_h I' J' ∧ gr_Inv I' ∧ gr_fr [71, 72, 73, 74, 75, 76, 77, 120] [] I I' ∧ gr_fj [71, 72, 73, 74, 75, 76, 77, 120] [] J J' ∧ (∃ z : Int, r = some (.inl z) ∧ 0 ≤ z ∧ z ≤ 1 ∧ (I' 0 71 = 5 ∨ I' 0 73 ≤ I' 0 69) ∧ (I' 0 72 ≤ I' 0 69) ∧ (I' 0 71 = 0 ∨ (I' 0 72 < I' 0 73 ∧ I' 0 72 < I' 0 69)) ∧ (I' 0 71 = 3 → 2 ≤ I' 0 73 - I' 0 72 ∧ I' 0 73 - I' 0 72 ≤ 14) ∧ (I' 0 72 ≤ I' 0 73) ∧ (I' 0 69 = I 0 69) ∧ (I 0 73 ≤ I' 0 73) ∧ (I 0 72 ≤ I' 0 72)))) htb rfl (Nat.le_of_ble_eq_true rfl) ?_
  have f1 := (show 0 ≤ I 0 71 ∧ I 0 71 ≤ 5 from (hI 0 71).1)
  have f2 := (show 0 ≤ I 0 72 ∧ I 0 72 ≤ 1000 from (hI 0 72).1)
  have f3 := (show 0 ≤ I 0 73 ∧ I 0 73 ≤ 1001 from (hI 0 73).1)
  have f4 := (show 0 ≤ I 0 69 ∧ I 0 69 ≤ 1000 from (hI 0 69).1)
  have L49 : ((I 0 71 = 5 ∨ I 0 73 ≤ I 0 69) ∧ (I 0 72 ≤ I 0 69) ∧ (I 0 71 = 0 ∨ (I 0 72 < I 0 73 ∧ I 0 72 < I 0 69)) ∧ (I 0 71 = 3 → 2 ≤ I 0 73 - I 0 72 ∧ I 0 73 - I 0 72 ≤ 14) ∧ (I 0 72 ≤ I 0 73) ∧ (I 0 69 = I 0 69) ∧ (I 0 73 ≤ I 0 73) ∧ (I 0 72 ≤ I 0 72)) → gv_X (gr_E ws0 tb 10 (yX13_argumentOf, cX13_argumentOf, 2, (some .boolean)) kX13_argumentOf) (gv_Q cX13_argumentOf (some .boolean) (gr_sh ++ ext) (fun r h' => (∃ (I' : gr_I) (J' : gr_J), h' = gr_h I' J' ∧ gr_Inv I' ∧ gr_fr [71, 72, 73, 74, 75, 76, 77, 120] [] I I' ∧ gr_fj [71, 72, 73, 74, 75, 76, 77, 120] [] J J' ∧ (∃ z : Int, r = some (.inl z) ∧ 0 ≤ z ∧ z ≤ 1 ∧ (I' 0 71 = 5 ∨ I' 0 73 ≤ I' 0 69) ∧ (I' 0 72 ≤ I' 0 69) ∧ (I' 0 71 = 0 ∨ (I' 0 72 < I' 0 73 ∧ I' 0 72 < I' 0 69)) ∧ (I' 0 71 = 3 → 2 ≤ I' 0 73 - I' 0 72 ∧ I' 0 73 - I' 0 72 ≤ 14) ∧ (I' 0 72 ≤ I' 0 73) ∧ (I' 0 69 = I 0 69) ∧ (I 0 73 ≤ I' 0 73) ∧ (I 0 72 ≤ I' 0 72))))) (49, [(0, .inr (.inr (some 0)))], [], gr_sh ++ ext, gr_h I J) := by
    intro m_5
    obtain ⟨e0_5, e1_5, e2_5, e3_5, e4_5, e5_5, e6_5, e7_5⟩ := m_5
    have f6 := (show 0 ≤ I 0 71 ∧ I 0 71 ≤ 5 from (hI 0 71).1)
    have f7 := (show 0 ≤ I 0 72 ∧ I 0 72 ≤ 1000 from (hI 0 72).1)
    have f8 := (show 0 ≤ I 0 73 ∧ I 0 73 ≤ 1001 from (hI 0 73).1)
    have f9 := (show 0 ≤ I 0 69 ∧ I 0 69 ≤ 1000 from (hI 0 69).1)
    refine gv_run 2 true hD (pc' := 51) (lv' := [(0, .inr (.inr (some 0)))]) (st' := [.inl 5, .inr (.inr (some 0))]) (h' := gr_h I J) (C := ((True ∧ True) ∧ True)) rfl ⟨⟨trivial, trivial⟩, trivial⟩ ?_
    obtain ⟨r10, h10, E10, P10⟩ := r_no_ (ws0 := ws0) (tb := tb) hws htb ext I J hI 5 ⟨by omega, by omega⟩ 
    obtain ⟨I11, J12, rfl, hI11, g10, k10, ⟨z10, rfl, q10⟩⟩ := P10
    have FI11 := gr_frt FI g10 rfl rfl
    have FJ12 := gr_fjt FJ k10 rfl rfl
    have t13 := g10 0 71 rfl
    have t14 := g10 0 72 rfl
    have t15 := g10 0 73 rfl
    have t16 := g10 0 69 rfl
    have f17 := (show 0 ≤ I11 0 71 ∧ I11 0 71 ≤ 5 from (hI11 0 71).1)
    have f18 := (show 0 ≤ I11 0 72 ∧ I11 0 72 ≤ 1000 from (hI11 0 72).1)
    have f19 := (show 0 ≤ I11 0 73 ∧ I11 0 73 ≤ 1001 from (hI11 0 73).1)
    have f20 := (show 0 ≤ I11 0 69 ∧ I11 0 69 ≤ 1000 from (hI11 0 69).1)
    refine gv_callV hD rfl (As := [.inl 5]) (st := []) rfl (by decide) rfl rfl (gr_lV hws rfl) (Nat.le_of_ble_eq_true rfl) (gz_Ev_mono (d := 2) (by decide) E10) ?_
    show gv_X _ _ (54, [(0, .inr (.inr (some 0)))], [.inl z10], gr_sh ++ ext, gr_h I11 J12)
    exact gv_zret hD rfl (by omega) ⟨I11, J12, rfl, hI11, FI11, FJ12, ⟨_, rfl, by omega⟩⟩
  have f21 := (show 0 ≤ I 0 71 ∧ I 0 71 ≤ 5 from (hI 0 71).1)
  refine gv_run 3 true hD (pc' := 5) (lv' := [(0, .inr (.inr (some 0))), (1, .inl a1)]) (st' := [.inl 2, .inl (I 0 71)]) (h' := gr_h I J) (C := (((True ∧ True) ∧ True) ∧ True)) rfl ⟨⟨⟨trivial, trivial⟩, trivial⟩, trivial⟩ ?_
  refine gv_icmp_eq (t := 14) hD rfl rfl ⟨⟨by omega, by omega⟩, ⟨by omega, by omega⟩⟩ (fun c22 => ?_) (fun c22 => ?_)
  · have f23 := (show 0 ≤ I 0 74 ∧ I 0 74 ≤ 999999 from (hI 0 74).1)
    refine gv_run 3 true hD (pc' := 19) (lv' := [(0, .inr (.inr (some 0))), (1, .inl a1)]) (st' := [.inl 1, .inl (I 0 74)]) (h' := gr_h I J) (C := (((True ∧ True) ∧ True) ∧ True)) rfl ⟨⟨⟨trivial, trivial⟩, trivial⟩, trivial⟩ ?_
    refine gv_icmp_lt (t := 49) hD rfl rfl ⟨⟨by omega, by omega⟩, ⟨by omega, by omega⟩⟩ (fun c24 => ?_) (fun c24 => ?_)
    · refine gv_pick [0] rfl ?_
      exact L49 (by omega)
    · have f25 := (show 0 ≤ I 0 74 ∧ I 0 74 ≤ 999999 from (hI 0 74).1)
      have f26 := (show 0 ≤ I 6 (Int.toNat a1) ∧ I 6 (Int.toNat a1) ≤ 4 from (hI 6 (Int.toNat a1)).1)
      refine gv_run 6 true hD (pc' := 32) (lv' := [(0, .inr (.inr (some 0))), (1, .inl a1)]) (st' := [.inl (I 6 (Int.toNat a1)), .inl (I 0 74)]) (h' := gr_h I J) (C := ((((((True ∧ True) ∧ True) ∧ True) ∧ True) ∧ True) ∧ (0 ≤ a1 ∧ a1 < ((96 : Nat) : Int)))) rfl ⟨⟨⟨⟨⟨⟨trivial, trivial⟩, trivial⟩, trivial⟩, trivial⟩, trivial⟩, ⟨by omega, by omega⟩⟩ ?_
      refine gv_icmp_gt (t := 49) hD rfl rfl ⟨⟨by omega, by omega⟩, ⟨by omega, by omega⟩⟩ (fun c27 => ?_) (fun c27 => ?_)
      · refine gv_pick [0] rfl ?_
        exact L49 (by omega)
      · have f28 := (show 0 ≤ I 0 74 ∧ I 0 74 ≤ 999999 from (hI 0 74).1)
        have f29 := (show (-1) ≤ I 74 (Int.toNat (((I 0 74) - 1))) ∧ I 74 (Int.toNat (((I 0 74) - 1))) ≤ 1000 from (hI 74 (Int.toNat (((I 0 74) - 1)))).1)
        refine gv_run 7 true hD (pc' := 46) (lv' := [(0, .inr (.inr (some 0))), (1, .inl a1)]) (st' := [.inl (I 74 (Int.toNat (((I 0 74) - 1))))]) (h' := gr_h I J) (C := (((((((True ∧ True) ∧ True) ∧ True) ∧ True) ∧ True) ∧ True) ∧ (0 ≤ (((I 0 74) - 1)) ∧ (((I 0 74) - 1)) < ((4 : Nat) : Int)))) rfl ⟨⟨⟨⟨⟨⟨⟨trivial, trivial⟩, trivial⟩, trivial⟩, trivial⟩, trivial⟩, trivial⟩, ⟨by omega, by omega⟩⟩ ?_
        refine gv_if_ge (t := 55) hD rfl rfl ⟨by omega, by omega⟩ (fun c30 => ?_) (fun c30 => ?_)
        · have f31 := (show 0 ≤ I 0 74 ∧ I 0 74 ≤ 999999 from (hI 0 74).1)
          refine gv_run 5 true hD (pc' := 62) (lv' := [(0, .inr (.inr (some 0))), (1, .inl a1)]) (st' := [.inl ((I 0 74) - 1), .inr (.inr (some 0))]) (h' := gr_h I J) (C := (((((True ∧ True) ∧ True) ∧ True) ∧ True) ∧ True)) rfl ⟨⟨⟨⟨⟨trivial, trivial⟩, trivial⟩, trivial⟩, trivial⟩, trivial⟩ ?_
          refine gv_run 1 true hD (pc' := 65) (lv' := [(0, .inr (.inr (some 0))), (1, .inl a1)]) (st' := []) (h' := gz_up (gr_h I J) 0 120 (.inl (((I 0 74) - 1)))) (C := (True ∧ True)) rfl ⟨trivial, trivial⟩ ?_
          refine gr_st hI FI rfl rfl ⟨⟨by show 0 ≤ _; omega, by show _ ≤ 3; omega⟩, trivial⟩ (fun I32 hI32 FI32 q33 p33 => ?_)
          have t34 := p33 0 71 (by decide)
          have t35 := p33 0 72 (by decide)
          have t36 := p33 0 73 (by decide)
          have t37 := p33 0 69 (by decide)
          have f38 := (show 0 ≤ I32 0 71 ∧ I32 0 71 ≤ 5 from (hI32 0 71).1)
          have f39 := (show 0 ≤ I32 0 72 ∧ I32 0 72 ≤ 1000 from (hI32 0 72).1)
          have f40 := (show 0 ≤ I32 0 73 ∧ I32 0 73 ≤ 1001 from (hI32 0 73).1)
          have f41 := (show 0 ≤ I32 0 69 ∧ I32 0 69 ≤ 1000 from (hI32 0 69).1)
          refine gv_run 1 true hD (pc' := 66) (lv' := [(0, .inr (.inr (some 0))), (1, .inl a1)]) (st' := [.inr (.inr (some 0))]) (h' := gr_h I32 J) (C := (True ∧ True)) rfl ⟨trivial, trivial⟩ ?_
          obtain ⟨r42, h42, E42, P42⟩ := r_next (ws0 := ws0) (tb := tb) hws htb ext I32 J hI32   (by omega)
          obtain ⟨I43, J44, rfl, hI43, g42, k42, ⟨rfl, q42⟩⟩ := P42
          have FI43 := gr_frt FI32 g42 rfl rfl
          have FJ44 := gr_fjt FJ k42 rfl rfl
          have t45 := g42 0 69 rfl
          have f46 := (show 0 ≤ I43 0 71 ∧ I43 0 71 ≤ 5 from (hI43 0 71).1)
          have f47 := (show 0 ≤ I43 0 72 ∧ I43 0 72 ≤ 1000 from (hI43 0 72).1)
          have f48 := (show 0 ≤ I43 0 73 ∧ I43 0 73 ≤ 1001 from (hI43 0 73).1)
          have f49 := (show 0 ≤ I43 0 69 ∧ I43 0 69 ≤ 1000 from (hI43 0 69).1)
          refine gv_callV hD rfl (As := []) (st := []) rfl (by decide) rfl rfl (gr_lV hws rfl) (Nat.le_of_ble_eq_true rfl) (gz_Ev_mono (d := 10) (by decide) E42) ?_
          show gv_X _ _ (69, [(0, .inr (.inr (some 0))), (1, .inl a1)], [], gr_sh ++ ext, gr_h I43 J44)
          refine gv_run 1 true hD (pc' := 70) (lv' := [(0, .inr (.inr (some 0))), (1, .inl a1)]) (st' := [.inl 1]) (h' := gr_h I43 J44) (C := (True ∧ True)) rfl ⟨trivial, trivial⟩ ?_
          exact gv_zret hD rfl (by omega) ⟨I43, J44, rfl, hI43, FI43, FJ44, ⟨_, rfl, by omega⟩⟩
        · refine gv_pick [0] rfl ?_
          exact L49 (by omega)
  · refine gv_run 2 true hD (pc' := 10) (lv' := [(0, .inr (.inr (some 0))), (1, .inl a1)]) (st' := [.inl 1, .inr (.inr (some 0))]) (h' := gr_h I J) (C := ((True ∧ True) ∧ True)) rfl ⟨⟨trivial, trivial⟩, trivial⟩ ?_
    obtain ⟨r50, h50, E50, P50⟩ := r_no_ (ws0 := ws0) (tb := tb) hws htb ext I J hI 1 ⟨by omega, by omega⟩ 
    obtain ⟨I51, J52, rfl, hI51, g50, k50, ⟨z50, rfl, q50⟩⟩ := P50
    have FI51 := gr_frt FI g50 rfl rfl
    have FJ52 := gr_fjt FJ k50 rfl rfl
    have t53 := g50 0 71 rfl
    have t54 := g50 0 72 rfl
    have t55 := g50 0 73 rfl
    have t56 := g50 0 69 rfl
    have f57 := (show 0 ≤ I51 0 71 ∧ I51 0 71 ≤ 5 from (hI51 0 71).1)
    have f58 := (show 0 ≤ I51 0 72 ∧ I51 0 72 ≤ 1000 from (hI51 0 72).1)
    have f59 := (show 0 ≤ I51 0 73 ∧ I51 0 73 ≤ 1001 from (hI51 0 73).1)
    have f60 := (show 0 ≤ I51 0 69 ∧ I51 0 69 ≤ 1000 from (hI51 0 69).1)
    refine gv_callV hD rfl (As := [.inl 1]) (st := []) rfl (by decide) rfl rfl (gr_lV hws rfl) (Nat.le_of_ble_eq_true rfl) (gz_Ev_mono (d := 2) (by decide) E50) ?_
    show gv_X _ _ (13, [(0, .inr (.inr (some 0))), (1, .inl a1)], [.inl z50], gr_sh ++ ext, gr_h I51 J52)
    exact gv_zret hD rfl (by omega) ⟨I51, J52, rfl, hI51, FI51, FJ52, ⟨_, rfl, by omega⟩⟩
set_option maxHeartbeats 4000000 in
set_option maxRecDepth 100000 in
theorem r_context {ws0 : List Cond} {tb : String → gz_T} (hws : ∀ w ∈ gr_ws, w ∈ ws0) (htb : tb RX13 = gr_T) (ext : gz_Sh) (I : gr_I) (J : gr_J) (hI : gr_Inv I) (a1 : Int) (ha1 : 0 ≤ a1 ∧ a1 ≤ 1) (x0 : I 0 71 = 5 ∨ I 0 73 ≤ I 0 69) (x1 : I 0 72 ≤ I 0 69) (x2 : I 0 71 = 0 ∨ (I 0 72 < I 0 73 ∧ I 0 72 < I 0 69)) (x3 : I 0 71 = 3 → 2 ≤ I 0 73 - I 0 72 ∧ I 0 73 - I 0 72 ≤ 14) (x4 : I 0 72 ≤ I 0 73) (x5 : 0 ≤ I 0 6) (x6 : I 0 59 + I 0 69 - I 0 72 ≤ 1900) : ∃ r h', gz_Ev ws0 tb 11 (yX13_context, cX13_context, 3, (some .boolean)) [.inr (.inr (some 0)), .inl a1] (gr_sh ++ ext) (gr_h I J) r (gr_sh ++ ext) h' 0 0 ∧ (∃ (I' : gr_I) (J' : gr_J), h' = gr_h I' J' ∧ gr_Inv I' ∧ gr_fr [59, 71, 72, 73, 74, 75, 76, 77, 104] [51, 57] I I' ∧ gr_fj [59, 71, 72, 73, 74, 75, 76, 77, 104] [51, 57] J J' ∧ (∃ z : Int, r = some (.inl z) ∧ 0 ≤ z ∧ z ≤ 1 ∧ (I' 0 71 = 5 ∨ I' 0 73 ≤ I' 0 69) ∧ (I' 0 72 ≤ I' 0 69) ∧ (I' 0 71 = 0 ∨ (I' 0 72 < I' 0 73 ∧ I' 0 72 < I' 0 69)) ∧ (I' 0 71 = 3 → 2 ≤ I' 0 73 - I' 0 72 ∧ I' 0 73 - I' 0 72 ≤ 14) ∧ (I' 0 72 ≤ I' 0 73) ∧ (I' 0 69 = I 0 69) ∧ (I 0 73 ≤ I' 0 73) ∧ (I 0 72 ≤ I' 0 72) ∧ (I' 0 59 - I' 0 72 ≤ I 0 59 - I 0 72) ∧ (z = 0 ∨ a1 = 1 ∨ (-16 ≤ I' 0 104 ∧ I' 0 104 ≤ 32015)))) := by
  have FI : gr_fr [59, 71, 72, 73, 74, 75, 76, 77, 104] [51, 57] I I := fun _ _ _ => rfl
  have FJ : gr_fj [59, 71, 72, 73, 74, 75, 76, 77, 104] [51, 57] J J := fun _ _ _ => rfl
  have hD : gv_D (gr_E ws0 tb 10 (yX13_context, cX13_context, 3, (some .boolean)) kX13_context) := gq_ok oX13_context
  refine gr_ev (d := 10) (l := kX13_context) (Po := fun r h' => (∃ (I' : gr_I) (J' : gr_J), h' = gr_h I' J' ∧ gr_Inv I' ∧ gr_fr [59, 71, 72, 73, 74, 75, 76, 77, 104] [51, 57] I I' ∧ gr_fj [59, 71, 72, 73, 74, 75, 76, 77, 104] [51, 57] J J' ∧ (∃ z : Int, r = some (.inl z) ∧ 0 ≤ z ∧ z ≤ 1 ∧ (I' 0 71 = 5 ∨ I' 0 73 ≤ I' 0 69) ∧ (I' 0 72 ≤ I' 0 69) ∧ (I' 0 71 = 0 ∨ (I' 0 72 < I' 0 73 ∧ I' 0 72 < I' 0 69)) ∧ (I' 0 71 = 3 → 2 ≤ I' 0 73 - I' 0 72 ∧ I' 0 73 - I' 0 72 ≤ 14) ∧ (I' 0 72 ≤ I' 0 73) ∧ (I' 0 69 = I 0 69) ∧ (I 0 73 ≤ I' 0 73) ∧ (I 0 72 ≤ I' 0 72) ∧ (I' 0 59 - I' 0 72 ≤ I 0 59 - I 0 72) ∧ (z = 0 ∨ a1 = 1 ∨ (-16 ≤ I' 0 104 ∧ I' 0 104 ≤ 32015))))) htb rfl (Nat.le_of_ble_eq_true rfl) ?_
  have f1 := (show 0 ≤ I 0 71 ∧ I 0 71 ≤ 5 from (hI 0 71).1)
  have f2 := (show 0 ≤ I 0 72 ∧ I 0 72 ≤ 1000 from (hI 0 72).1)
  have f3 := (show 0 ≤ I 0 73 ∧ I 0 73 ≤ 1001 from (hI 0 73).1)
  have f4 := (show 0 ≤ I 0 69 ∧ I 0 69 ≤ 1000 from (hI 0 69).1)
  have f5 := (show (-1) ≤ I 0 6 ∧ I 0 6 ≤ 7 from (hI 0 6).1)
  have f6 := (show 0 ≤ I 0 59 ∧ I 0 59 ≤ 2000 from (hI 0 59).1)
  have f7 := (show (-2147483648) ≤ I 0 104 ∧ I 0 104 ≤ 2147483647 from (hI 0 104).1)
  have L104 : ∀ (I8 : gr_I) (J9 : gr_J) , gr_Inv I8 → gr_fr [59, 71, 72, 73, 74, 75, 76, 77, 104] [51, 57] I I8 → gr_fj [59, 71, 72, 73, 74, 75, 76, 77, 104] [51, 57] J J9 → ((a1 = 1 ∨ (-16 ≤ I8 0 104 ∧ I8 0 104 ≤ 32015)) ∧ (¬ I8 0 71 = 5) ∧ (I8 0 59 - I8 0 73 ≤ I 0 59 - I 0 72) ∧ (I8 0 71 = 5 ∨ I8 0 73 ≤ I8 0 69) ∧ (I8 0 72 ≤ I8 0 69) ∧ (I8 0 71 = 0 ∨ (I8 0 72 < I8 0 73 ∧ I8 0 72 < I8 0 69)) ∧ (I8 0 71 = 3 → 2 ≤ I8 0 73 - I8 0 72 ∧ I8 0 73 - I8 0 72 ≤ 14) ∧ (I8 0 72 ≤ I8 0 73) ∧ (I8 0 69 = I 0 69) ∧ (I 0 73 ≤ I8 0 73) ∧ (I 0 72 ≤ I8 0 72)) → gv_X (gr_E ws0 tb 10 (yX13_context, cX13_context, 3, (some .boolean)) kX13_context) (gv_Q cX13_context (some .boolean) (gr_sh ++ ext) (fun r h' => (∃ (I' : gr_I) (J' : gr_J), h' = gr_h I' J' ∧ gr_Inv I' ∧ gr_fr [59, 71, 72, 73, 74, 75, 76, 77, 104] [51, 57] I I' ∧ gr_fj [59, 71, 72, 73, 74, 75, 76, 77, 104] [51, 57] J J' ∧ (∃ z : Int, r = some (.inl z) ∧ 0 ≤ z ∧ z ≤ 1 ∧ (I' 0 71 = 5 ∨ I' 0 73 ≤ I' 0 69) ∧ (I' 0 72 ≤ I' 0 69) ∧ (I' 0 71 = 0 ∨ (I' 0 72 < I' 0 73 ∧ I' 0 72 < I' 0 69)) ∧ (I' 0 71 = 3 → 2 ≤ I' 0 73 - I' 0 72 ∧ I' 0 73 - I' 0 72 ≤ 14) ∧ (I' 0 72 ≤ I' 0 73) ∧ (I' 0 69 = I 0 69) ∧ (I 0 73 ≤ I' 0 73) ∧ (I 0 72 ≤ I' 0 72) ∧ (I' 0 59 - I' 0 72 ≤ I 0 59 - I 0 72) ∧ (z = 0 ∨ a1 = 1 ∨ (-16 ≤ I' 0 104 ∧ I' 0 104 ≤ 32015)))))) (104, [(0, .inr (.inr (some 0)))], [], gr_sh ++ ext, gr_h I8 J9) := by
    intro I8 J9 hI8 FI8 FJ9 m_10
    obtain ⟨e0_10, e1_10, e2_10, e3_10, e4_10, e5_10, e6_10, e7_10, e8_10, e9_10, e10_10⟩ := m_10
    have f11 := (show 0 ≤ I8 0 71 ∧ I8 0 71 ≤ 5 from (hI8 0 71).1)
    have f12 := (show 0 ≤ I8 0 72 ∧ I8 0 72 ≤ 1000 from (hI8 0 72).1)
    have f13 := (show 0 ≤ I8 0 73 ∧ I8 0 73 ≤ 1001 from (hI8 0 73).1)
    have f14 := (show 0 ≤ I8 0 69 ∧ I8 0 69 ≤ 1000 from (hI8 0 69).1)
    have f15 := (show (-1) ≤ I8 0 6 ∧ I8 0 6 ≤ 7 from (hI8 0 6).1)
    have f16 := (show 0 ≤ I8 0 59 ∧ I8 0 59 ≤ 2000 from (hI8 0 59).1)
    have f17 := (show (-2147483648) ≤ I8 0 104 ∧ I8 0 104 ≤ 2147483647 from (hI8 0 104).1)
    refine gv_run 1 true hD (pc' := 105) (lv' := [(0, .inr (.inr (some 0)))]) (st' := [.inr (.inr (some 0))]) (h' := gr_h I8 J9) (C := (True ∧ True)) rfl ⟨trivial, trivial⟩ ?_
    obtain ⟨r18, h18, E18, P18⟩ := r_next (ws0 := ws0) (tb := tb) hws htb ext I8 J9 hI8   (by omega)
    obtain ⟨I19, J20, rfl, hI19, g18, k18, ⟨rfl, q18⟩⟩ := P18
    have FI19 := gr_frt FI8 g18 rfl rfl
    have FJ20 := gr_fjt FJ9 k18 rfl rfl
    have t21 := g18 0 69 rfl
    have t22 := g18 0 6 rfl
    have t23 := g18 0 59 rfl
    have t24 := g18 0 104 rfl
    have f25 := (show 0 ≤ I19 0 71 ∧ I19 0 71 ≤ 5 from (hI19 0 71).1)
    have f26 := (show 0 ≤ I19 0 72 ∧ I19 0 72 ≤ 1000 from (hI19 0 72).1)
    have f27 := (show 0 ≤ I19 0 73 ∧ I19 0 73 ≤ 1001 from (hI19 0 73).1)
    have f28 := (show 0 ≤ I19 0 69 ∧ I19 0 69 ≤ 1000 from (hI19 0 69).1)
    have f29 := (show (-1) ≤ I19 0 6 ∧ I19 0 6 ≤ 7 from (hI19 0 6).1)
    have f30 := (show 0 ≤ I19 0 59 ∧ I19 0 59 ≤ 2000 from (hI19 0 59).1)
    have f31 := (show (-2147483648) ≤ I19 0 104 ∧ I19 0 104 ≤ 2147483647 from (hI19 0 104).1)
    refine gv_callV hD rfl (As := []) (st := []) rfl (by decide) rfl rfl (gr_lV hws rfl) (Nat.le_of_ble_eq_true rfl) (gz_Ev_mono (d := 10) (by decide) E18) ?_
    show gv_X _ _ (108, [(0, .inr (.inr (some 0)))], [], gr_sh ++ ext, gr_h I19 J20)
    refine gv_run 1 true hD (pc' := 109) (lv' := [(0, .inr (.inr (some 0)))]) (st' := [.inl 1]) (h' := gr_h I19 J20) (C := (True ∧ True)) rfl ⟨trivial, trivial⟩ ?_
    exact gv_zret hD rfl (by omega) ⟨I19, J20, rfl, hI19, FI19, FJ20, ⟨_, rfl, by omega⟩⟩
  have L98 : ((I 0 71 = 5 ∨ I 0 73 ≤ I 0 69) ∧ (I 0 72 ≤ I 0 69) ∧ (I 0 71 = 0 ∨ (I 0 72 < I 0 73 ∧ I 0 72 < I 0 69)) ∧ (I 0 71 = 3 → 2 ≤ I 0 73 - I 0 72 ∧ I 0 73 - I 0 72 ≤ 14) ∧ (I 0 72 ≤ I 0 73) ∧ (I 0 69 = I 0 69) ∧ (I 0 73 ≤ I 0 73) ∧ (I 0 72 ≤ I 0 72)) → gv_X (gr_E ws0 tb 10 (yX13_context, cX13_context, 3, (some .boolean)) kX13_context) (gv_Q cX13_context (some .boolean) (gr_sh ++ ext) (fun r h' => (∃ (I' : gr_I) (J' : gr_J), h' = gr_h I' J' ∧ gr_Inv I' ∧ gr_fr [59, 71, 72, 73, 74, 75, 76, 77, 104] [51, 57] I I' ∧ gr_fj [59, 71, 72, 73, 74, 75, 76, 77, 104] [51, 57] J J' ∧ (∃ z : Int, r = some (.inl z) ∧ 0 ≤ z ∧ z ≤ 1 ∧ (I' 0 71 = 5 ∨ I' 0 73 ≤ I' 0 69) ∧ (I' 0 72 ≤ I' 0 69) ∧ (I' 0 71 = 0 ∨ (I' 0 72 < I' 0 73 ∧ I' 0 72 < I' 0 69)) ∧ (I' 0 71 = 3 → 2 ≤ I' 0 73 - I' 0 72 ∧ I' 0 73 - I' 0 72 ≤ 14) ∧ (I' 0 72 ≤ I' 0 73) ∧ (I' 0 69 = I 0 69) ∧ (I 0 73 ≤ I' 0 73) ∧ (I 0 72 ≤ I' 0 72) ∧ (I' 0 59 - I' 0 72 ≤ I 0 59 - I 0 72) ∧ (z = 0 ∨ a1 = 1 ∨ (-16 ≤ I' 0 104 ∧ I' 0 104 ≤ 32015)))))) (98, [(0, .inr (.inr (some 0)))], [], gr_sh ++ ext, gr_h I J) := by
    intro m_32
    obtain ⟨e0_32, e1_32, e2_32, e3_32, e4_32, e5_32, e6_32, e7_32⟩ := m_32
    have f33 := (show 0 ≤ I 0 71 ∧ I 0 71 ≤ 5 from (hI 0 71).1)
    have f34 := (show 0 ≤ I 0 72 ∧ I 0 72 ≤ 1000 from (hI 0 72).1)
    have f35 := (show 0 ≤ I 0 73 ∧ I 0 73 ≤ 1001 from (hI 0 73).1)
    have f36 := (show 0 ≤ I 0 69 ∧ I 0 69 ≤ 1000 from (hI 0 69).1)
    have f37 := (show (-1) ≤ I 0 6 ∧ I 0 6 ≤ 7 from (hI 0 6).1)
    have f38 := (show 0 ≤ I 0 59 ∧ I 0 59 ≤ 2000 from (hI 0 59).1)
    have f39 := (show (-2147483648) ≤ I 0 104 ∧ I 0 104 ≤ 2147483647 from (hI 0 104).1)
    refine gv_run 2 true hD (pc' := 100) (lv' := [(0, .inr (.inr (some 0)))]) (st' := [.inl 1, .inr (.inr (some 0))]) (h' := gr_h I J) (C := ((True ∧ True) ∧ True)) rfl ⟨⟨trivial, trivial⟩, trivial⟩ ?_
    obtain ⟨r40, h40, E40, P40⟩ := r_no_ (ws0 := ws0) (tb := tb) hws htb ext I J hI 1 ⟨by omega, by omega⟩ 
    obtain ⟨I41, J42, rfl, hI41, g40, k40, ⟨z40, rfl, q40⟩⟩ := P40
    have FI41 := gr_frt FI g40 rfl rfl
    have FJ42 := gr_fjt FJ k40 rfl rfl
    have t43 := g40 0 71 rfl
    have t44 := g40 0 72 rfl
    have t45 := g40 0 73 rfl
    have t46 := g40 0 69 rfl
    have t47 := g40 0 6 rfl
    have t48 := g40 0 59 rfl
    have t49 := g40 0 104 rfl
    have f50 := (show 0 ≤ I41 0 71 ∧ I41 0 71 ≤ 5 from (hI41 0 71).1)
    have f51 := (show 0 ≤ I41 0 72 ∧ I41 0 72 ≤ 1000 from (hI41 0 72).1)
    have f52 := (show 0 ≤ I41 0 73 ∧ I41 0 73 ≤ 1001 from (hI41 0 73).1)
    have f53 := (show 0 ≤ I41 0 69 ∧ I41 0 69 ≤ 1000 from (hI41 0 69).1)
    have f54 := (show (-1) ≤ I41 0 6 ∧ I41 0 6 ≤ 7 from (hI41 0 6).1)
    have f55 := (show 0 ≤ I41 0 59 ∧ I41 0 59 ≤ 2000 from (hI41 0 59).1)
    have f56 := (show (-2147483648) ≤ I41 0 104 ∧ I41 0 104 ≤ 2147483647 from (hI41 0 104).1)
    refine gv_callV hD rfl (As := [.inl 1]) (st := []) rfl (by decide) rfl rfl (gr_lV hws rfl) (Nat.le_of_ble_eq_true rfl) (gz_Ev_mono (d := 2) (by decide) E40) ?_
    show gv_X _ _ (103, [(0, .inr (.inr (some 0)))], [.inl z40], gr_sh ++ ext, gr_h I41 J42)
    exact gv_zret hD rfl (by omega) ⟨I41, J42, rfl, hI41, FI41, FJ42, ⟨_, rfl, by omega⟩⟩
  have f57 := (show 0 ≤ I 0 71 ∧ I 0 71 ≤ 5 from (hI 0 71).1)
  refine gv_run 3 true hD (pc' := 5) (lv' := [(0, .inr (.inr (some 0))), (1, .inl a1)]) (st' := [.inl 3, .inl (I 0 71)]) (h' := gr_h I J) (C := (((True ∧ True) ∧ True) ∧ True)) rfl ⟨⟨⟨trivial, trivial⟩, trivial⟩, trivial⟩ ?_
  refine gv_icmp_ne (t := 19) hD rfl rfl ⟨⟨by omega, by omega⟩, ⟨by omega, by omega⟩⟩ (fun c58 => ?_) (fun c58 => ?_)
  · have f59 := (show 0 ≤ I 0 71 ∧ I 0 71 ≤ 5 from (hI 0 71).1)
    refine gv_run 3 true hD (pc' := 24) (lv' := [(0, .inr (.inr (some 0))), (1, .inl a1)]) (st' := [.inl 1, .inl (I 0 71)]) (h' := gr_h I J) (C := (((True ∧ True) ∧ True) ∧ True)) rfl ⟨⟨⟨trivial, trivial⟩, trivial⟩, trivial⟩ ?_
    refine gv_icmp_ne (t := 75) hD rfl rfl ⟨⟨by omega, by omega⟩, ⟨by omega, by omega⟩⟩ (fun c60 => ?_) (fun c60 => ?_)
    · refine gv_run 1 true hD (pc' := 76) (lv' := [(0, .inr (.inr (some 0))), (1, .inl a1)]) (st' := [.inl a1]) (h' := gr_h I J) (C := (True ∧ True)) rfl ⟨trivial, trivial⟩ ?_
      refine gv_if_eq (t := 98) hD rfl rfl ⟨by omega, by omega⟩ (fun c61 => ?_) (fun c61 => ?_)
      · refine gv_pick [0] rfl ?_
        exact L98 (by omega)
      · refine gv_run 2 true hD (pc' := 82) (lv' := [(0, .inr (.inr (some 0))), (1, .inl a1)]) (st' := [.inl 35, .inr (.inr (some 0))]) (h' := gr_h I J) (C := ((True ∧ True) ∧ True)) rfl ⟨⟨trivial, trivial⟩, trivial⟩ ?_
        obtain ⟨r62, h62, E62, P62⟩ := r_sign (ws0 := ws0) (tb := tb) hws htb ext I J hI 35 ⟨by omega, by omega⟩ (by omega)
        obtain ⟨rfl, ⟨z62, rfl, q62⟩⟩ := P62
        refine gv_callV hD rfl (As := [.inl 35]) (st := []) rfl (by decide) rfl rfl (gr_lV hws rfl) (Nat.le_of_ble_eq_true rfl) (gz_Ev_mono (d := 1) (by decide) E62) ?_
        show gv_X _ _ (85, [(0, .inr (.inr (some 0))), (1, .inl a1)], [.inl z62], gr_sh ++ ext, gr_h I J)
        refine gv_if_eq (t := 98) hD rfl rfl ⟨by omega, by omega⟩ (fun c63 => ?_) (fun c63 => ?_)
        · refine gv_pick [0] rfl ?_
          exact L98 (by omega)
        · refine gv_run 3 true hD (pc' := 95) (lv' := [(0, .inr (.inr (some 0))), (1, .inl a1)]) (st' := []) (h' := gz_up (gr_h I J) 0 104 (.inl (-2147483648))) (C := (((True ∧ True) ∧ True) ∧ True)) rfl ⟨⟨⟨trivial, trivial⟩, trivial⟩, trivial⟩ ?_
          refine gr_st hI FI rfl rfl ⟨⟨by show (-2147483648) ≤ _; omega, by show _ ≤ 2147483647; omega⟩, by show ((-2147483648) = -2147483648 ∨ (-2147483648) = 2147483647 ∨ -16 ≤ (-2147483648) ∧ (-2147483648) ≤ 32015); omega⟩ (fun I64 hI64 FI64 q65 p65 => ?_)
          have t66 := p65 0 71 (by decide)
          have t67 := p65 0 72 (by decide)
          have t68 := p65 0 73 (by decide)
          have t69 := p65 0 69 (by decide)
          have t70 := p65 0 6 (by decide)
          have t71 := p65 0 59 (by decide)
          have f72 := (show 0 ≤ I64 0 71 ∧ I64 0 71 ≤ 5 from (hI64 0 71).1)
          have f73 := (show 0 ≤ I64 0 72 ∧ I64 0 72 ≤ 1000 from (hI64 0 72).1)
          have f74 := (show 0 ≤ I64 0 73 ∧ I64 0 73 ≤ 1001 from (hI64 0 73).1)
          have f75 := (show 0 ≤ I64 0 69 ∧ I64 0 69 ≤ 1000 from (hI64 0 69).1)
          have f76 := (show (-1) ≤ I64 0 6 ∧ I64 0 6 ≤ 7 from (hI64 0 6).1)
          have f77 := (show 0 ≤ I64 0 59 ∧ I64 0 59 ≤ 2000 from (hI64 0 59).1)
          have f78 := (show (-2147483648) ≤ I64 0 104 ∧ I64 0 104 ≤ 2147483647 from (hI64 0 104).1)
          refine gv_run 1 true hD (pc' := 104) (lv' := [(0, .inr (.inr (some 0))), (1, .inl a1)]) (st' := []) (h' := gr_h I64 J) (C := (True ∧ True)) rfl ⟨trivial, trivial⟩ ?_
          refine gv_pick [0] rfl ?_
          exact L104 I64 J hI64 FI64 FJ (by omega)
    · have f79 := (show (-1) ≤ I 0 6 ∧ I 0 6 ≤ 7 from (hI 0 6).1)
      refine gv_run 7 true hD (pc' := 39) (lv' := [(0, .inr (.inr (some 0))), (1, .inl a1)]) (st' := [.inr (.inr (some 0)), .inl (16 * (I 0 6)), .inr (.inr (some 22))]) (h' := gr_h I J) (C := (((((((True ∧ True) ∧ True) ∧ True) ∧ True) ∧ True) ∧ True) ∧ True)) rfl ⟨⟨⟨⟨⟨⟨⟨trivial, trivial⟩, trivial⟩, trivial⟩, trivial⟩, trivial⟩, trivial⟩, trivial⟩ ?_
      have f80 := (show (-1) ≤ I 0 6 ∧ I 0 6 ≤ 7 from (hI 0 6).1)
      have f81 := (show 0 ≤ I 15 (Int.toNat ((I 0 6))) ∧ I 15 (Int.toNat ((I 0 6))) ≤ 16 from (hI 15 (Int.toNat ((I 0 6)))).1)
      refine gv_run 4 true hD (pc' := 47) (lv' := [(0, .inr (.inr (some 0))), (1, .inl a1)]) (st' := [.inl (I 15 (Int.toNat ((I 0 6)))), .inl (16 * (I 0 6)), .inr (.inr (some 22))]) (h' := gr_h I J) (C := ((((True ∧ True) ∧ True) ∧ True) ∧ (0 ≤ (I 0 6) ∧ (I 0 6) < ((8 : Nat) : Int)))) rfl ⟨⟨⟨⟨trivial, trivial⟩, trivial⟩, trivial⟩, ⟨by omega, by omega⟩⟩ ?_
      refine gv_run 2 true hD (pc' := 51) (lv' := [(0, .inr (.inr (some 0))), (1, .inl a1)]) (st' := [.inr (.inl (J 0 75)), .inl (I 15 (Int.toNat ((I 0 6)))), .inl (16 * (I 0 6)), .inr (.inr (some 22))]) (h' := gr_h I J) (C := ((True ∧ True) ∧ True)) rfl ⟨⟨trivial, trivial⟩, trivial⟩ ?_
      obtain ⟨r82, h82, E82, P82⟩ := r_find_22 (ws0 := ws0) (tb := tb) hws htb ext I J hI ((16 * (I 0 6))) ((I 15 (Int.toNat ((I 0 6))))) (J 0 75) ⟨by omega, by omega⟩ ⟨by omega, by omega⟩ (by omega)
      obtain ⟨rfl, ⟨z82, rfl, q82⟩⟩ := P82
      refine gv_callS hD rfl (As := [.inr (.inr (some 22)), .inl (16 * (I 0 6)), .inl (I 15 (Int.toNat ((I 0 6)))), .inr (.inl (J 0 75))]) (st := []) rfl (gr_lS hws rfl) (Nat.le_of_ble_eq_true rfl) (gz_Ev_mono (d := 1) (by decide) E82) ?_
      show gv_X _ _ (54, [(0, .inr (.inr (some 0))), (1, .inl a1)], [.inl z82], gr_sh ++ ext, gr_h I J)
      refine gv_run 2 true hD (pc' := 56) (lv' := [(2, .inl z82), (0, .inr (.inr (some 0))), (1, .inl a1)]) (st' := [.inl z82]) (h' := gr_h I J) (C := ((True ∧ True) ∧ True)) rfl ⟨⟨trivial, trivial⟩, trivial⟩ ?_
      refine gv_if_ge (t := 65) hD rfl rfl ⟨by omega, by omega⟩ (fun c83 => ?_) (fun c83 => ?_)
      · refine gv_run 4 true hD (pc' := 69) (lv' := [(2, .inl z82), (0, .inr (.inr (some 0))), (1, .inl a1)]) (st' := [.inl ((-1) - z82), .inr (.inr (some 0))]) (h' := gr_h I J) (C := ((((True ∧ True) ∧ True) ∧ True) ∧ True)) rfl ⟨⟨⟨⟨trivial, trivial⟩, trivial⟩, trivial⟩, trivial⟩ ?_
        refine gv_run 1 true hD (pc' := 72) (lv' := [(2, .inl z82), (0, .inr (.inr (some 0))), (1, .inl a1)]) (st' := []) (h' := gz_up (gr_h I J) 0 104 (.inl (((-1) - z82)))) (C := (True ∧ True)) rfl ⟨trivial, trivial⟩ ?_
        refine gr_st hI FI rfl rfl ⟨⟨by show (-2147483648) ≤ _; omega, by show _ ≤ 2147483647; omega⟩, by show ((((-1) - z82)) = -2147483648 ∨ (((-1) - z82)) = 2147483647 ∨ -16 ≤ (((-1) - z82)) ∧ (((-1) - z82)) ≤ 32015); omega⟩ (fun I84 hI84 FI84 q85 p85 => ?_)
        have t86 := p85 0 71 (by decide)
        have t87 := p85 0 72 (by decide)
        have t88 := p85 0 73 (by decide)
        have t89 := p85 0 69 (by decide)
        have t90 := p85 0 6 (by decide)
        have t91 := p85 0 59 (by decide)
        have f92 := (show 0 ≤ I84 0 71 ∧ I84 0 71 ≤ 5 from (hI84 0 71).1)
        have f93 := (show 0 ≤ I84 0 72 ∧ I84 0 72 ≤ 1000 from (hI84 0 72).1)
        have f94 := (show 0 ≤ I84 0 73 ∧ I84 0 73 ≤ 1001 from (hI84 0 73).1)
        have f95 := (show 0 ≤ I84 0 69 ∧ I84 0 69 ≤ 1000 from (hI84 0 69).1)
        have f96 := (show (-1) ≤ I84 0 6 ∧ I84 0 6 ≤ 7 from (hI84 0 6).1)
        have f97 := (show 0 ≤ I84 0 59 ∧ I84 0 59 ≤ 2000 from (hI84 0 59).1)
        have f98 := (show (-2147483648) ≤ I84 0 104 ∧ I84 0 104 ≤ 2147483647 from (hI84 0 104).1)
        refine gv_run 1 true hD (pc' := 104) (lv' := [(2, .inl z82), (0, .inr (.inr (some 0))), (1, .inl a1)]) (st' := []) (h' := gr_h I84 J) (C := (True ∧ True)) rfl ⟨trivial, trivial⟩ ?_
        refine gv_pick [1] rfl ?_
        exact L104 I84 J hI84 FI84 FJ (by omega)
      · refine gv_run 2 true hD (pc' := 61) (lv' := [(2, .inl z82), (0, .inr (.inr (some 0))), (1, .inl a1)]) (st' := [.inl 5, .inr (.inr (some 0))]) (h' := gr_h I J) (C := ((True ∧ True) ∧ True)) rfl ⟨⟨trivial, trivial⟩, trivial⟩ ?_
        obtain ⟨r99, h99, E99, P99⟩ := r_no_ (ws0 := ws0) (tb := tb) hws htb ext I J hI 5 ⟨by omega, by omega⟩ 
        obtain ⟨I100, J101, rfl, hI100, g99, k99, ⟨z99, rfl, q99⟩⟩ := P99
        have FI100 := gr_frt FI g99 rfl rfl
        have FJ101 := gr_fjt FJ k99 rfl rfl
        have t102 := g99 0 71 rfl
        have t103 := g99 0 72 rfl
        have t104 := g99 0 73 rfl
        have t105 := g99 0 69 rfl
        have t106 := g99 0 6 rfl
        have t107 := g99 0 59 rfl
        have t108 := g99 0 104 rfl
        have f109 := (show 0 ≤ I100 0 71 ∧ I100 0 71 ≤ 5 from (hI100 0 71).1)
        have f110 := (show 0 ≤ I100 0 72 ∧ I100 0 72 ≤ 1000 from (hI100 0 72).1)
        have f111 := (show 0 ≤ I100 0 73 ∧ I100 0 73 ≤ 1001 from (hI100 0 73).1)
        have f112 := (show 0 ≤ I100 0 69 ∧ I100 0 69 ≤ 1000 from (hI100 0 69).1)
        have f113 := (show (-1) ≤ I100 0 6 ∧ I100 0 6 ≤ 7 from (hI100 0 6).1)
        have f114 := (show 0 ≤ I100 0 59 ∧ I100 0 59 ≤ 2000 from (hI100 0 59).1)
        have f115 := (show (-2147483648) ≤ I100 0 104 ∧ I100 0 104 ≤ 2147483647 from (hI100 0 104).1)
        refine gv_callV hD rfl (As := [.inl 5]) (st := []) rfl (by decide) rfl rfl (gr_lV hws rfl) (Nat.le_of_ble_eq_true rfl) (gz_Ev_mono (d := 2) (by decide) E99) ?_
        show gv_X _ _ (64, [(2, .inl z82), (0, .inr (.inr (some 0))), (1, .inl a1)], [.inl z99], gr_sh ++ ext, gr_h I100 J101)
        exact gv_zret hD rfl (by omega) ⟨I100, J101, rfl, hI100, FI100, FJ101, ⟨_, rfl, by omega⟩⟩
  · refine gv_run 2 true hD (pc' := 10) (lv' := [(0, .inr (.inr (some 0))), (1, .inl a1)]) (st' := [.inr (.inr (some 0)), .inr (.inr (some 0))]) (h' := gr_h I J) (C := ((True ∧ True) ∧ True)) rfl ⟨⟨trivial, trivial⟩, trivial⟩ ?_
    obtain ⟨r116, h116, E116, P116⟩ := r_keeps (ws0 := ws0) (tb := tb) hws htb ext I J hI   (by omega) (by omega) (by omega) (by omega)
    obtain ⟨I117, J118, rfl, hI117, g116, k116, ⟨z116, rfl, q116⟩⟩ := P116
    have FI117 := gr_frt FI g116 rfl rfl
    have FJ118 := gr_fjt FJ k116 rfl rfl
    have t119 := g116 0 71 rfl
    have t120 := g116 0 72 rfl
    have t121 := g116 0 73 rfl
    have t122 := g116 0 69 rfl
    have t123 := g116 0 6 rfl
    have t124 := g116 0 104 rfl
    have f125 := (show 0 ≤ I117 0 71 ∧ I117 0 71 ≤ 5 from (hI117 0 71).1)
    have f126 := (show 0 ≤ I117 0 72 ∧ I117 0 72 ≤ 1000 from (hI117 0 72).1)
    have f127 := (show 0 ≤ I117 0 73 ∧ I117 0 73 ≤ 1001 from (hI117 0 73).1)
    have f128 := (show 0 ≤ I117 0 69 ∧ I117 0 69 ≤ 1000 from (hI117 0 69).1)
    have f129 := (show (-1) ≤ I117 0 6 ∧ I117 0 6 ≤ 7 from (hI117 0 6).1)
    have f130 := (show 0 ≤ I117 0 59 ∧ I117 0 59 ≤ 2000 from (hI117 0 59).1)
    have f131 := (show (-2147483648) ≤ I117 0 104 ∧ I117 0 104 ≤ 2147483647 from (hI117 0 104).1)
    refine gv_callV hD rfl (As := []) (st := [.inr (.inr (some 0))]) rfl (by decide) rfl rfl (gr_lV hws rfl) (Nat.le_of_ble_eq_true rfl) (gz_Ev_mono (d := 2) (by decide) E116) ?_
    show gv_X _ _ (13, [(0, .inr (.inr (some 0))), (1, .inl a1)], [.inl z116, .inr (.inr (some 0))], gr_sh ++ ext, gr_h I117 J118)
    refine gv_run 1 true hD (pc' := 16) (lv' := [(0, .inr (.inr (some 0))), (1, .inl a1)]) (st' := []) (h' := gz_up (gr_h I117 J118) 0 104 (.inl z116)) (C := (True ∧ True)) rfl ⟨trivial, trivial⟩ ?_
    refine gr_st hI117 FI117 rfl rfl ⟨⟨by show (-2147483648) ≤ _; omega, by show _ ≤ 2147483647; omega⟩, by show (z116 = -2147483648 ∨ z116 = 2147483647 ∨ -16 ≤ z116 ∧ z116 ≤ 32015); omega⟩ (fun I132 hI132 FI132 q133 p133 => ?_)
    have t134 := p133 0 71 (by decide)
    have t135 := p133 0 72 (by decide)
    have t136 := p133 0 73 (by decide)
    have t137 := p133 0 69 (by decide)
    have t138 := p133 0 6 (by decide)
    have t139 := p133 0 59 (by decide)
    have f140 := (show 0 ≤ I132 0 71 ∧ I132 0 71 ≤ 5 from (hI132 0 71).1)
    have f141 := (show 0 ≤ I132 0 72 ∧ I132 0 72 ≤ 1000 from (hI132 0 72).1)
    have f142 := (show 0 ≤ I132 0 73 ∧ I132 0 73 ≤ 1001 from (hI132 0 73).1)
    have f143 := (show 0 ≤ I132 0 69 ∧ I132 0 69 ≤ 1000 from (hI132 0 69).1)
    have f144 := (show (-1) ≤ I132 0 6 ∧ I132 0 6 ≤ 7 from (hI132 0 6).1)
    have f145 := (show 0 ≤ I132 0 59 ∧ I132 0 59 ≤ 2000 from (hI132 0 59).1)
    have f146 := (show (-2147483648) ≤ I132 0 104 ∧ I132 0 104 ≤ 2147483647 from (hI132 0 104).1)
    refine gv_run 1 true hD (pc' := 104) (lv' := [(0, .inr (.inr (some 0))), (1, .inl a1)]) (st' := []) (h' := gr_h I132 J118) (C := (True ∧ True)) rfl ⟨trivial, trivial⟩ ?_
    refine gv_pick [0] rfl ?_
    exact L104 I132 J118 hI132 FI132 FJ118 (by omega)
