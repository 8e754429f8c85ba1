set_option maxHeartbeats 4000000 in
set_option maxRecDepth 100000 in
theorem r_raised {ws0 : List Cond} {tb : String → gz_T} (hws : ∀ w ∈ gr_ws, w ∈ ws0) (htb : tb RX13 = gr_T) (ext : gz_Sh) (a9 : Int) (b9 : Int) (S9 : Int) (c9 : Int) : ∀ (nr : Nat) (I : gr_I) (J : gr_J) (hI : gr_Inv I) (a1 : Int) (a2 : Int) (a3 : Int) (ha1 : 0 ≤ a1 ∧ a1 ≤ 1299) (ha2 : 0 ≤ a2 ∧ a2 ≤ 300) (ha3 : 0 ≤ a3 ∧ a3 ≤ 300) (x0 : gr_GH a9 b9 S9 I) (x1 : a9 ≤ a1) (x2 : a1 < b9) (x3 : gr_DJ a9 b9 I) (x4 : I 0 216 ≤ I 0 217) (x5 : I 0 217 - 300 ≤ I 0 216) (x6 : 300 ≤ I 0 217) (x7 : I 137 (5000 + (Int.toNat a1)) ≤ c9 + a3) (x8 : a3 + I 137 (Int.toNat a1) ≤ 300) (x9 : 0 ≤ c9) (x10 : c9 ≤ S9) (x11 : S9 ≤ 1000000) (_ : ((I 137 (Int.toNat a1))).toNat < nr), ∃ r h', gz_Ev ws0 tb (1 + nr) (yX13_raised, cX13_raised, 5, (some .int)) [.inr (.inr (some 0)), .inl a1, .inl a2, .inl a3] (gr_sh ++ ext) (gr_h I J) r (gr_sh ++ ext) h' 0 0 ∧ (∃ (I' : gr_I) (J' : gr_J), h' = gr_h I' J' ∧ gr_Inv I' ∧ gr_fr [216, 218] [134, 135, 136, 137] I I' ∧ gr_fj [216, 218] [134, 135, 136, 137] J J' ∧ (∃ z : Int, r = some (.inl z) ∧ 0 ≤ z ∧ z ≤ 1299 ∧ (I' 0 217 = I 0 217) ∧ (I 0 216 ≤ I' 0 216) ∧ (I' 0 216 ≤ I' 0 217) ∧ (I 0 218 ≤ I' 0 218) ∧ (gr_OK I I' z (c9 + a2 + a3) (S9 + 600)))) := by
  intro nr
  induction nr with
  | zero => intro I J hI a1 a2 a3 ha1 ha2 ha3 x0 x1 x2 x3 x4 x5 x6 x7 x8 x9 x10 x11 hnr; omega
  | succ nr ihR =>
  intro I J hI a1 a2 a3 ha1 ha2 ha3 x0 x1 x2 x3 x4 x5 x6 x7 x8 x9 x10 x11 hnr
  have FI : gr_fr [216, 218] [134, 135, 136, 137] I I := fun _ _ _ => rfl
  have FJ : gr_fj [216, 218] [134, 135, 136, 137] J J := fun _ _ _ => rfl
  have hD : gv_D (gr_E ws0 tb (1 + nr) (yX13_raised, cX13_raised, 5, (some .int)) kX13_raised) := gq_ok oX13_raised
  refine gr_ev (d := (1 + nr)) (l := kX13_raised) (Po := fun r h' => (∃ (I' : gr_I) (J' : gr_J), h' = gr_h I' J' ∧ gr_Inv I' ∧ gr_fr [216, 218] [134, 135, 136, 137] I I' ∧ gr_fj [216, 218] [134, 135, 136, 137] J J' ∧ (∃ z : Int, r = some (.inl z) ∧ 0 ≤ z ∧ z ≤ 1299 ∧ (I' 0 217 = I 0 217) ∧ (I 0 216 ≤ I' 0 216) ∧ (I' 0 216 ≤ I' 0 217) ∧ (I 0 218 ≤ I' 0 218) ∧ (gr_OK I I' z (c9 + a2 + a3) (S9 + 600))))) htb rfl (Nat.le_of_ble_eq_true rfl) ?_
  have f1 := (show 0 ≤ I 0 216 ∧ I 0 216 ≤ 1300 from (hI 0 216).1)
  have f2 := (show 0 ≤ I 0 217 ∧ I 0 217 ≤ 1300 from (hI 0 217).1)
  have f3 := (show 0 ≤ I 0 218 ∧ I 0 218 ≤ 1 from (hI 0 218).1)
  have t4 := x0.1
  have f5 := (show 0 ≤ I 0 218 ∧ I 0 218 ≤ 1 from (hI 0 218).1)
  refine gv_run 2 true hD (pc' := 4) (lv' := [(0, .inr (.inr (some 0))), (1, .inl a1), (2, .inl a2), (3, .inl a3)]) (st' := [.inl (I 0 218)]) (h' := gr_h I J) (C := ((True ∧ True) ∧ True)) rfl ⟨⟨trivial, trivial⟩, trivial⟩ ?_
  refine gv_if_eq (t := 9) hD rfl rfl ⟨by omega, by omega⟩ (fun c6 => ?_) (fun c6 => ?_)
  · have f7 := (show (-2147483648) ≤ I 134 (Int.toNat a1) ∧ I 134 (Int.toNat a1) ≤ 2147483647 from (hI 134 (Int.toNat a1)).1)
    refine gv_run 4 true hD (pc' := 15) (lv' := [(0, .inr (.inr (some 0))), (1, .inl a1), (2, .inl a2), (3, .inl a3)]) (st' := [.inl (I 134 (Int.toNat a1))]) (h' := gr_h I J) (C := ((((True ∧ True) ∧ True) ∧ True) ∧ (0 ≤ a1 ∧ a1 < ((2000 : Nat) : Int)))) rfl ⟨⟨⟨⟨trivial, trivial⟩, trivial⟩, trivial⟩, ⟨by omega, by omega⟩⟩ ?_
    by_cases c8 : ((I 134 (Int.toNat a1))) = 0
    · refine gv_tabAt hD 0 rfl ⟨by omega, by omega⟩ c8 ⟨by decide, by decide⟩ rfl (t := 48) rfl ?_
      have t9 := gr_GH_b x0 (x := a1) ⟨by omega, by omega⟩
      have t10 := gr_GH_0 x0 (x := a1) ⟨by omega, by omega⟩ (by omega)
      have f11 := (show (-2147483648) ≤ I 135 (Int.toNat a1) ∧ I 135 (Int.toNat a1) ≤ 2147483647 from (hI 135 (Int.toNat a1)).1)
      refine gv_run 7 true hD (pc' := 57) (lv' := [(0, .inr (.inr (some 0))), (1, .inl a1), (2, .inl a2), (3, .inl a3)]) (st' := [.inl (I 135 (Int.toNat a1)), .inr (.inr (some 0)), .inl 0, .inr (.inr (some 0))]) (h' := gr_h I J) (C := (((((((True ∧ True) ∧ True) ∧ True) ∧ True) ∧ True) ∧ True) ∧ (0 ≤ a1 ∧ a1 < ((2000 : Nat) : Int)))) rfl ⟨⟨⟨⟨⟨⟨⟨trivial, trivial⟩, trivial⟩, trivial⟩, trivial⟩, trivial⟩, trivial⟩, ⟨by omega, by omega⟩⟩ ?_
      refine gv_run 4 true hD (pc' := 61) (lv' := [(0, .inr (.inr (some 0))), (1, .inl a1), (2, .inl a2), (3, .inl a3)]) (st' := [.inl (a3 + 1), .inl a2, .inl (I 135 (Int.toNat a1)), .inr (.inr (some 0)), .inl 0, .inr (.inr (some 0))]) (h' := gr_h I J) (C := ((((True ∧ True) ∧ True) ∧ True) ∧ True)) rfl ⟨⟨⟨⟨trivial, trivial⟩, trivial⟩, trivial⟩, trivial⟩ ?_
      obtain ⟨r12, h12, E12, P12⟩ := ihR I J hI ((I 135 (Int.toNat a1))) a2 (a3 + 1) ⟨by omega, by omega⟩ ⟨by omega, by omega⟩ ⟨by omega, by omega⟩ x0 (by omega) (by omega) x3 (by omega) (by omega) (by omega) (by omega) (by omega) (by omega) (by omega) (by omega) (by omega)
      obtain ⟨I13, J14, rfl, hI13, g12, k12, ⟨z12, rfl, q12⟩⟩ := P12
      have FI13 := gr_frt FI g12 rfl rfl
      have FJ14 := gr_fjt FJ k12 rfl rfl
      have t15 := g12 0 217 rfl
      have f16 := (show 0 ≤ I13 0 216 ∧ I13 0 216 ≤ 1300 from (hI13 0 216).1)
      have f17 := (show 0 ≤ I13 0 217 ∧ I13 0 217 ≤ 1300 from (hI13 0 217).1)
      have f18 := (show 0 ≤ I13 0 218 ∧ I13 0 218 ≤ 1 from (hI13 0 218).1)
      refine gv_callV hD rfl (As := [.inl (I 135 (Int.toNat a1)), .inl a2, .inl (a3 + 1)]) (st := [.inl 0, .inr (.inr (some 0))]) rfl (by decide) rfl rfl (gr_lV hws rfl) (Nat.le_of_ble_eq_true rfl) (gz_Ev_mono (d := (1 + nr)) (Nat.le_refl _) E12) ?_
      show gv_X _ _ (64, [(0, .inr (.inr (some 0))), (1, .inl a1), (2, .inl a2), (3, .inl a3)], [.inl z12, .inl 0, .inr (.inr (some 0))], gr_sh ++ ext, gr_h I13 J14)
      refine gv_run 2 true hD (pc' := 66) (lv' := [(0, .inr (.inr (some 0))), (1, .inl a1), (2, .inl a2), (3, .inl a3)]) (st' := [.inr (.inl (Int64.ofNat 0)), .inl 0, .inl z12, .inl 0, .inr (.inr (some 0))]) (h' := gr_h I13 J14) (C := ((True ∧ True) ∧ True)) rfl ⟨⟨trivial, trivial⟩, trivial⟩ ?_
      obtain ⟨r19, h19, E19, P19⟩ := r_heap_w (ws0 := ws0) (tb := tb) hws htb ext I13 J14 hI13 0 z12 0 (Int64.ofNat 0) ⟨by omega, by omega⟩ ⟨by omega, by omega⟩ ⟨by omega, by omega⟩ (by omega) (by omega) (by omega)
      obtain ⟨I20, J21, rfl, hI20, g19, k19, ⟨z19, rfl, q19⟩⟩ := P19
      have FI20 := gr_frt FI13 g19 rfl rfl
      have FJ21 := gr_fjt FJ14 k19 rfl rfl
      have t22 := g19 0 217 rfl
      have f23 := (show 0 ≤ I20 0 216 ∧ I20 0 216 ≤ 1300 from (hI20 0 216).1)
      have f24 := (show 0 ≤ I20 0 217 ∧ I20 0 217 ≤ 1300 from (hI20 0 217).1)
      have f25 := (show 0 ≤ I20 0 218 ∧ I20 0 218 ≤ 1 from (hI20 0 218).1)
      refine gv_callV hD rfl (As := [.inl 0, .inl z12, .inl 0, .inr (.inl (Int64.ofNat 0))]) (st := []) rfl (by decide) rfl rfl (gr_lV hws rfl) (Nat.le_of_ble_eq_true rfl) (gz_Ev_mono (d := 1) (by omega) E19) ?_
      show gv_X _ _ (69, [(0, .inr (.inr (some 0))), (1, .inl a1), (2, .inl a2), (3, .inl a3)], [.inl z19], gr_sh ++ ext, gr_h I20 J21)
      refine gr_gst (a := 137) (k := (Int.toNat z19)) (z := ((I20 0 216) - (I 0 216))) hI20 FI20 rfl rfl ⟨⟨by show 0 ≤ _; omega, by show _ ≤ 2000000; omega⟩, trivial⟩ (fun I26 hI26 FI26 q27 p27 => ?_)
      have t28 := p27 0 216 (fun q => absurd q.1 (by decide))
      have t29 := p27 0 217 (fun q => absurd q.1 (by decide))
      have t30 := p27 0 218 (fun q => absurd q.1 (by decide))
      have f31 := (show 0 ≤ I26 0 216 ∧ I26 0 216 ≤ 1300 from (hI26 0 216).1)
      have f32 := (show 0 ≤ I26 0 217 ∧ I26 0 217 ≤ 1300 from (hI26 0 217).1)
      have f33 := (show 0 ≤ I26 0 218 ∧ I26 0 218 ≤ 1 from (hI26 0 218).1)
      refine gr_gst (a := 137) (k := (5000 + Int.toNat z19)) (z := (c9 + a2 + a3)) hI26 FI26 rfl rfl ⟨⟨by show 0 ≤ _; omega, by show _ ≤ 2000000; omega⟩, trivial⟩ (fun I34 hI34 FI34 q35 p35 => ?_)
      have t36 := p35 0 216 (fun q => absurd q.1 (by decide))
      have t37 := p35 0 217 (fun q => absurd q.1 (by decide))
      have t38 := p35 0 218 (fun q => absurd q.1 (by decide))
      have f39 := (show 0 ≤ I34 0 216 ∧ I34 0 216 ≤ 1300 from (hI34 0 216).1)
      have f40 := (show 0 ≤ I34 0 217 ∧ I34 0 217 ≤ 1300 from (hI34 0 217).1)
      have f41 := (show 0 ≤ I34 0 218 ∧ I34 0 218 ≤ 1 from (hI34 0 218).1)
      exact gv_iret hD rfl ⟨I34, J21, rfl, hI34, FI34, FJ21, ⟨_, rfl, by omega, by omega, by omega, by omega, by omega, by omega, (gr_ok0 (c := (c9 + a2 + a3)) (gr_OK_w q12.2.2.2.2.2.2 (by omega) (Int.le_refl _)) q19.2.2.2.2.2.2.1 (gr_GS_of p27 q27 p35 q35) (by omega) ⟨by omega, by omega⟩ (by omega) (by omega) (by omega))⟩⟩
    by_cases c42 : ((I 134 (Int.toNat a1))) = 1
    · refine gv_tabAt hD 1 rfl ⟨by omega, by omega⟩ c42 ⟨by decide, by decide⟩ rfl (t := 105) rfl ?_
      have t43 := gr_GH_b x0 (x := a1) ⟨by omega, by omega⟩
      have t44 := gr_GH_1 x0 (x := a1) ⟨by omega, by omega⟩ (by omega)
      have f45 := (show (-2147483648) ≤ I 135 (Int.toNat a1) ∧ I 135 (Int.toNat a1) ≤ 2147483647 from (hI 135 (Int.toNat a1)).1)
      refine gv_run 6 true hD (pc' := 113) (lv' := [(0, .inr (.inr (some 0))), (1, .inl a1), (2, .inl a2), (3, .inl a3)]) (st' := [.inl (I 135 (Int.toNat a1)), .inl 1, .inr (.inr (some 0))]) (h' := gr_h I J) (C := ((((((True ∧ True) ∧ True) ∧ True) ∧ True) ∧ True) ∧ (0 ≤ a1 ∧ a1 < ((2000 : Nat) : Int)))) rfl ⟨⟨⟨⟨⟨⟨trivial, trivial⟩, trivial⟩, trivial⟩, trivial⟩, trivial⟩, ⟨by omega, by omega⟩⟩ ?_
      refine gv_run 1 true hD (pc' := 114) (lv' := [(0, .inr (.inr (some 0))), (1, .inl a1), (2, .inl a2), (3, .inl a3)]) (st' := [.inl a3, .inl (I 135 (Int.toNat a1)), .inl 1, .inr (.inr (some 0))]) (h' := gr_h I J) (C := (True ∧ True)) rfl ⟨trivial, trivial⟩ ?_
      refine gv_icmp_lt (t := 128) hD rfl rfl ⟨⟨by omega, by omega⟩, ⟨by omega, by omega⟩⟩ (fun c46 => ?_) (fun c46 => ?_)
      · have f47 := (show (-2147483648) ≤ I 135 (Int.toNat a1) ∧ I 135 (Int.toNat a1) ≤ 2147483647 from (hI 135 (Int.toNat a1)).1)
        refine gv_run 4 true hD (pc' := 134) (lv' := [(0, .inr (.inr (some 0))), (1, .inl a1), (2, .inl a2), (3, .inl a3)]) (st' := [.inl (I 135 (Int.toNat a1)), .inl 1, .inr (.inr (some 0))]) (h' := gr_h I J) (C := ((((True ∧ True) ∧ True) ∧ True) ∧ (0 ≤ a1 ∧ a1 < ((2000 : Nat) : Int)))) rfl ⟨⟨⟨⟨trivial, trivial⟩, trivial⟩, trivial⟩, ⟨by omega, by omega⟩⟩ ?_
        refine gv_run 2 true hD (pc' := 136) (lv' := [(0, .inr (.inr (some 0))), (1, .inl a1), (2, .inl a2), (3, .inl a3)]) (st' := [.inr (.inl (Int64.ofNat 0)), .inl 0, .inl (I 135 (Int.toNat a1)), .inl 1, .inr (.inr (some 0))]) (h' := gr_h I J) (C := ((True ∧ True) ∧ True)) rfl ⟨⟨trivial, trivial⟩, trivial⟩ ?_
        obtain ⟨r48, h48, E48, P48⟩ := r_heap_w (ws0 := ws0) (tb := tb) hws htb ext I J hI 1 ((I 135 (Int.toNat a1))) 0 (Int64.ofNat 0) ⟨by omega, by omega⟩ ⟨by omega, by omega⟩ ⟨by omega, by omega⟩ (by omega) (by omega) (by omega)
        obtain ⟨I49, J50, rfl, hI49, g48, k48, ⟨z48, rfl, q48⟩⟩ := P48
        have FI49 := gr_frt FI g48 rfl rfl
        have FJ50 := gr_fjt FJ k48 rfl rfl
        have t51 := g48 0 217 rfl
        have f52 := (show 0 ≤ I49 0 216 ∧ I49 0 216 ≤ 1300 from (hI49 0 216).1)
        have f53 := (show 0 ≤ I49 0 217 ∧ I49 0 217 ≤ 1300 from (hI49 0 217).1)
        have f54 := (show 0 ≤ I49 0 218 ∧ I49 0 218 ≤ 1 from (hI49 0 218).1)
        refine gv_callV hD rfl (As := [.inl 1, .inl (I 135 (Int.toNat a1)), .inl 0, .inr (.inl (Int64.ofNat 0))]) (st := []) rfl (by decide) rfl rfl (gr_lV hws rfl) (Nat.le_of_ble_eq_true rfl) (gz_Ev_mono (d := 1) (by omega) E48) ?_
        show gv_X _ _ (139, [(0, .inr (.inr (some 0))), (1, .inl a1), (2, .inl a2), (3, .inl a3)], [.inl z48], gr_sh ++ ext, gr_h I49 J50)
        refine gr_gst (a := 137) (k := (Int.toNat z48)) (z := ((I49 0 216) - (I 0 216))) hI49 FI49 rfl rfl ⟨⟨by show 0 ≤ _; omega, by show _ ≤ 2000000; omega⟩, trivial⟩ (fun I55 hI55 FI55 q56 p56 => ?_)
        have t57 := p56 0 216 (fun q => absurd q.1 (by decide))
        have t58 := p56 0 217 (fun q => absurd q.1 (by decide))
        have t59 := p56 0 218 (fun q => absurd q.1 (by decide))
        have f60 := (show 0 ≤ I55 0 216 ∧ I55 0 216 ≤ 1300 from (hI55 0 216).1)
        have f61 := (show 0 ≤ I55 0 217 ∧ I55 0 217 ≤ 1300 from (hI55 0 217).1)
        have f62 := (show 0 ≤ I55 0 218 ∧ I55 0 218 ≤ 1 from (hI55 0 218).1)
        refine gr_gst (a := 137) (k := (5000 + Int.toNat z48)) (z := (c9 + a2 + a3)) hI55 FI55 rfl rfl ⟨⟨by show 0 ≤ _; omega, by show _ ≤ 2000000; omega⟩, trivial⟩ (fun I63 hI63 FI63 q64 p64 => ?_)
        have t65 := p64 0 216 (fun q => absurd q.1 (by decide))
        have t66 := p64 0 217 (fun q => absurd q.1 (by decide))
        have t67 := p64 0 218 (fun q => absurd q.1 (by decide))
        have f68 := (show 0 ≤ I63 0 216 ∧ I63 0 216 ≤ 1300 from (hI63 0 216).1)
        have f69 := (show 0 ≤ I63 0 217 ∧ I63 0 217 ≤ 1300 from (hI63 0 217).1)
        have f70 := (show 0 ≤ I63 0 218 ∧ I63 0 218 ≤ 1 from (hI63 0 218).1)
        exact gv_iret hD rfl ⟨I63, J50, rfl, hI63, FI63, FJ50, ⟨_, rfl, by omega, by omega, by omega, by omega, by omega, by omega, (gr_ocl q48.2.2.2.2.2.2.1 (gr_GS_of p56 q56 p64 q64) (by omega) (by omega) ⟨by omega, by omega⟩ (by omega) (by omega) (by omega) (by omega))⟩⟩
      · have f71 := (show (-2147483648) ≤ I 135 (Int.toNat a1) ∧ I 135 (Int.toNat a1) ≤ 2147483647 from (hI 135 (Int.toNat a1)).1)
        refine gv_run 4 true hD (pc' := 123) (lv' := [(0, .inr (.inr (some 0))), (1, .inl a1), (2, .inl a2), (3, .inl a3)]) (st' := [.inl (I 135 (Int.toNat a1)), .inl 1, .inr (.inr (some 0))]) (h' := gr_h I J) (C := ((((True ∧ True) ∧ True) ∧ True) ∧ (0 ≤ a1 ∧ a1 < ((2000 : Nat) : Int)))) rfl ⟨⟨⟨⟨trivial, trivial⟩, trivial⟩, trivial⟩, ⟨by omega, by omega⟩⟩ ?_
        refine gv_run 5 true hD (pc' := 136) (lv' := [(0, .inr (.inr (some 0))), (1, .inl a1), (2, .inl a2), (3, .inl a3)]) (st' := [.inr (.inl (Int64.ofNat 0)), .inl 0, .inl ((I 135 (Int.toNat a1)) + a2), .inl 1, .inr (.inr (some 0))]) (h' := gr_h I J) (C := (((((True ∧ True) ∧ True) ∧ True) ∧ True) ∧ True)) rfl ⟨⟨⟨⟨⟨trivial, trivial⟩, trivial⟩, trivial⟩, trivial⟩, trivial⟩ ?_
        obtain ⟨r72, h72, E72, P72⟩ := r_heap_w (ws0 := ws0) (tb := tb) hws htb ext I J hI 1 (((I 135 (Int.toNat a1)) + a2)) 0 (Int64.ofNat 0) ⟨by omega, by omega⟩ ⟨by omega, by omega⟩ ⟨by omega, by omega⟩ (by omega) (by omega) (by omega)
        obtain ⟨I73, J74, rfl, hI73, g72, k72, ⟨z72, rfl, q72⟩⟩ := P72
        have FI73 := gr_frt FI g72 rfl rfl
        have FJ74 := gr_fjt FJ k72 rfl rfl
        have t75 := g72 0 217 rfl
        have f76 := (show 0 ≤ I73 0 216 ∧ I73 0 216 ≤ 1300 from (hI73 0 216).1)
        have f77 := (show 0 ≤ I73 0 217 ∧ I73 0 217 ≤ 1300 from (hI73 0 217).1)
        have f78 := (show 0 ≤ I73 0 218 ∧ I73 0 218 ≤ 1 from (hI73 0 218).1)
        refine gv_callV hD rfl (As := [.inl 1, .inl ((I 135 (Int.toNat a1)) + a2), .inl 0, .inr (.inl (Int64.ofNat 0))]) (st := []) rfl (by decide) rfl rfl (gr_lV hws rfl) (Nat.le_of_ble_eq_true rfl) (gz_Ev_mono (d := 1) (by omega) E72) ?_
        show gv_X _ _ (139, [(0, .inr (.inr (some 0))), (1, .inl a1), (2, .inl a2), (3, .inl a3)], [.inl z72], gr_sh ++ ext, gr_h I73 J74)
        refine gr_gst (a := 137) (k := (Int.toNat z72)) (z := ((I73 0 216) - (I 0 216))) hI73 FI73 rfl rfl ⟨⟨by show 0 ≤ _; omega, by show _ ≤ 2000000; omega⟩, trivial⟩ (fun I79 hI79 FI79 q80 p80 => ?_)
        have t81 := p80 0 216 (fun q => absurd q.1 (by decide))
        have t82 := p80 0 217 (fun q => absurd q.1 (by decide))
        have t83 := p80 0 218 (fun q => absurd q.1 (by decide))
        have f84 := (show 0 ≤ I79 0 216 ∧ I79 0 216 ≤ 1300 from (hI79 0 216).1)
        have f85 := (show 0 ≤ I79 0 217 ∧ I79 0 217 ≤ 1300 from (hI79 0 217).1)
        have f86 := (show 0 ≤ I79 0 218 ∧ I79 0 218 ≤ 1 from (hI79 0 218).1)
        refine gr_gst (a := 137) (k := (5000 + Int.toNat z72)) (z := (c9 + a2 + a3)) hI79 FI79 rfl rfl ⟨⟨by show 0 ≤ _; omega, by show _ ≤ 2000000; omega⟩, trivial⟩ (fun I87 hI87 FI87 q88 p88 => ?_)
        have t89 := p88 0 216 (fun q => absurd q.1 (by decide))
        have t90 := p88 0 217 (fun q => absurd q.1 (by decide))
        have t91 := p88 0 218 (fun q => absurd q.1 (by decide))
        have f92 := (show 0 ≤ I87 0 216 ∧ I87 0 216 ≤ 1300 from (hI87 0 216).1)
        have f93 := (show 0 ≤ I87 0 217 ∧ I87 0 217 ≤ 1300 from (hI87 0 217).1)
        have f94 := (show 0 ≤ I87 0 218 ∧ I87 0 218 ≤ 1 from (hI87 0 218).1)
        exact gv_iret hD rfl ⟨I87, J74, rfl, hI87, FI87, FJ74, ⟨_, rfl, by omega, by omega, by omega, by omega, by omega, by omega, (gr_ocl q72.2.2.2.2.2.2.1 (gr_GS_of p80 q80 p88 q88) (by omega) (by omega) ⟨by omega, by omega⟩ (by omega) (by omega) (by omega) (by omega))⟩⟩
    by_cases c95 : ((I 134 (Int.toNat a1))) = 2
    · refine gv_tabAt hD 2 rfl ⟨by omega, by omega⟩ c95 ⟨by decide, by decide⟩ rfl (t := 140) rfl ?_
      have t96 := gr_GH_b x0 (x := a1) ⟨by omega, by omega⟩
      have t97 := gr_GH_k x0 (x := a1) ⟨by omega, by omega⟩
      refine gv_run 7 true hD (pc' := 149) (lv' := [(0, .inr (.inr (some 0))), (1, .inl a1), (2, .inl a2), (3, .inl a3)]) (st' := [.inl a1, .inr (.inr (some 137)), .inl 0, .inl 0, .inl 2, .inr (.inr (some 0))]) (h' := gr_h I J) (C := (((((((True ∧ True) ∧ True) ∧ True) ∧ True) ∧ True) ∧ True) ∧ True)) rfl ⟨⟨⟨⟨⟨⟨⟨trivial, trivial⟩, trivial⟩, trivial⟩, trivial⟩, trivial⟩, trivial⟩, trivial⟩ ?_
      refine gv_run 1 true hD (pc' := 150) (lv' := [(0, .inr (.inr (some 0))), (1, .inl a1), (2, .inl a2), (3, .inl a3)]) (st' := [.inr (.inl (J 137 (Int.toNat a1))), .inl 0, .inl 0, .inl 2, .inr (.inr (some 0))]) (h' := gr_h I J) (C := (True ∧ (0 ≤ a1 ∧ a1 < ((2000 : Nat) : Int)))) rfl ⟨trivial, ⟨by omega, by omega⟩⟩ ?_
      obtain ⟨r98, h98, E98, P98⟩ := r_heap_w (ws0 := ws0) (tb := tb) hws htb ext I J hI 2 0 0 ((J 137 (Int.toNat a1))) ⟨by omega, by omega⟩ ⟨by omega, by omega⟩ ⟨by omega, by omega⟩ (by omega) (by omega) (by omega)
      obtain ⟨I99, J100, rfl, hI99, g98, k98, ⟨z98, rfl, q98⟩⟩ := P98
      have FI99 := gr_frt FI g98 rfl rfl
      have FJ100 := gr_fjt FJ k98 rfl rfl
      have t101 := g98 0 217 rfl
      have f102 := (show 0 ≤ I99 0 216 ∧ I99 0 216 ≤ 1300 from (hI99 0 216).1)
      have f103 := (show 0 ≤ I99 0 217 ∧ I99 0 217 ≤ 1300 from (hI99 0 217).1)
      have f104 := (show 0 ≤ I99 0 218 ∧ I99 0 218 ≤ 1 from (hI99 0 218).1)
      refine gv_callV hD rfl (As := [.inl 2, .inl 0, .inl 0, .inr (.inl (J 137 (Int.toNat a1)))]) (st := []) rfl (by decide) rfl rfl (gr_lV hws rfl) (Nat.le_of_ble_eq_true rfl) (gz_Ev_mono (d := 1) (by omega) E98) ?_
      show gv_X _ _ (153, [(0, .inr (.inr (some 0))), (1, .inl a1), (2, .inl a2), (3, .inl a3)], [.inl z98], gr_sh ++ ext, gr_h I99 J100)
      refine gr_gst (a := 137) (k := (Int.toNat z98)) (z := ((I99 0 216) - (I 0 216))) hI99 FI99 rfl rfl ⟨⟨by show 0 ≤ _; omega, by show _ ≤ 2000000; omega⟩, trivial⟩ (fun I105 hI105 FI105 q106 p106 => ?_)
      have t107 := p106 0 216 (fun q => absurd q.1 (by decide))
      have t108 := p106 0 217 (fun q => absurd q.1 (by decide))
      have t109 := p106 0 218 (fun q => absurd q.1 (by decide))
      have f110 := (show 0 ≤ I105 0 216 ∧ I105 0 216 ≤ 1300 from (hI105 0 216).1)
      have f111 := (show 0 ≤ I105 0 217 ∧ I105 0 217 ≤ 1300 from (hI105 0 217).1)
      have f112 := (show 0 ≤ I105 0 218 ∧ I105 0 218 ≤ 1 from (hI105 0 218).1)
      refine gr_gst (a := 137) (k := (5000 + Int.toNat z98)) (z := (c9 + a2 + a3)) hI105 FI105 rfl rfl ⟨⟨by show 0 ≤ _; omega, by show _ ≤ 2000000; omega⟩, trivial⟩ (fun I113 hI113 FI113 q114 p114 => ?_)
      have t115 := p114 0 216 (fun q => absurd q.1 (by decide))
      have t116 := p114 0 217 (fun q => absurd q.1 (by decide))
      have t117 := p114 0 218 (fun q => absurd q.1 (by decide))
      have f118 := (show 0 ≤ I113 0 216 ∧ I113 0 216 ≤ 1300 from (hI113 0 216).1)
      have f119 := (show 0 ≤ I113 0 217 ∧ I113 0 217 ≤ 1300 from (hI113 0 217).1)
      have f120 := (show 0 ≤ I113 0 218 ∧ I113 0 218 ≤ 1 from (hI113 0 218).1)
      exact gv_iret hD rfl ⟨I113, J100, rfl, hI113, FI113, FJ100, ⟨_, rfl, by omega, by omega, by omega, by omega, by omega, by omega, (gr_ocl q98.2.2.2.2.2.2.1 (gr_GS_of p106 q106 p114 q114) (by omega) (by omega) ⟨by omega, by omega⟩ (by omega) (by omega) (by omega) (by omega))⟩⟩
    by_cases c121 : ((I 134 (Int.toNat a1))) = 3
    · refine gv_tabAt hD 3 rfl ⟨by omega, by omega⟩ c121 ⟨by decide, by decide⟩ rfl (t := 140) rfl ?_
      have t122 := gr_GH_b x0 (x := a1) ⟨by omega, by omega⟩
      have t123 := gr_GH_k x0 (x := a1) ⟨by omega, by omega⟩
      refine gv_run 7 true hD (pc' := 149) (lv' := [(0, .inr (.inr (some 0))), (1, .inl a1), (2, .inl a2), (3, .inl a3)]) (st' := [.inl a1, .inr (.inr (some 137)), .inl 0, .inl 0, .inl 2, .inr (.inr (some 0))]) (h' := gr_h I J) (C := (((((((True ∧ True) ∧ True) ∧ True) ∧ True) ∧ True) ∧ True) ∧ True)) rfl ⟨⟨⟨⟨⟨⟨⟨trivial, trivial⟩, trivial⟩, trivial⟩, trivial⟩, trivial⟩, trivial⟩, trivial⟩ ?_
      refine gv_run 1 true hD (pc' := 150) (lv' := [(0, .inr (.inr (some 0))), (1, .inl a1), (2, .inl a2), (3, .inl a3)]) (st' := [.inr (.inl (J 137 (Int.toNat a1))), .inl 0, .inl 0, .inl 2, .inr (.inr (some 0))]) (h' := gr_h I J) (C := (True ∧ (0 ≤ a1 ∧ a1 < ((2000 : Nat) : Int)))) rfl ⟨trivial, ⟨by omega, by omega⟩⟩ ?_
      obtain ⟨r124, h124, E124, P124⟩ := r_heap_w (ws0 := ws0) (tb := tb) hws htb ext I J hI 2 0 0 ((J 137 (Int.toNat a1))) ⟨by omega, by omega⟩ ⟨by omega, by omega⟩ ⟨by omega, by omega⟩ (by omega) (by omega) (by omega)
      obtain ⟨I125, J126, rfl, hI125, g124, k124, ⟨z124, rfl, q124⟩⟩ := P124
      have FI125 := gr_frt FI g124 rfl rfl
      have FJ126 := gr_fjt FJ k124 rfl rfl
      have t127 := g124 0 217 rfl
      have f128 := (show 0 ≤ I125 0 216 ∧ I125 0 216 ≤ 1300 from (hI125 0 216).1)
      have f129 := (show 0 ≤ I125 0 217 ∧ I125 0 217 ≤ 1300 from (hI125 0 217).1)
      have f130 := (show 0 ≤ I125 0 218 ∧ I125 0 218 ≤ 1 from (hI125 0 218).1)
      refine gv_callV hD rfl (As := [.inl 2, .inl 0, .inl 0, .inr (.inl (J 137 (Int.toNat a1)))]) (st := []) rfl (by decide) rfl rfl (gr_lV hws rfl) (Nat.le_of_ble_eq_true rfl) (gz_Ev_mono (d := 1) (by omega) E124) ?_
      show gv_X _ _ (153, [(0, .inr (.inr (some 0))), (1, .inl a1), (2, .inl a2), (3, .inl a3)], [.inl z124], gr_sh ++ ext, gr_h I125 J126)
      refine gr_gst (a := 137) (k := (Int.toNat z124)) (z := ((I125 0 216) - (I 0 216))) hI125 FI125 rfl rfl ⟨⟨by show 0 ≤ _; omega, by show _ ≤ 2000000; omega⟩, trivial⟩ (fun I131 hI131 FI131 q132 p132 => ?_)
      have t133 := p132 0 216 (fun q => absurd q.1 (by decide))
      have t134 := p132 0 217 (fun q => absurd q.1 (by decide))
      have t135 := p132 0 218 (fun q => absurd q.1 (by decide))
      have f136 := (show 0 ≤ I131 0 216 ∧ I131 0 216 ≤ 1300 from (hI131 0 216).1)
      have f137 := (show 0 ≤ I131 0 217 ∧ I131 0 217 ≤ 1300 from (hI131 0 217).1)
      have f138 := (show 0 ≤ I131 0 218 ∧ I131 0 218 ≤ 1 from (hI131 0 218).1)
      refine gr_gst (a := 137) (k := (5000 + Int.toNat z124)) (z := (c9 + a2 + a3)) hI131 FI131 rfl rfl ⟨⟨by show 0 ≤ _; omega, by show _ ≤ 2000000; omega⟩, trivial⟩ (fun I139 hI139 FI139 q140 p140 => ?_)
      have t141 := p140 0 216 (fun q => absurd q.1 (by decide))
      have t142 := p140 0 217 (fun q => absurd q.1 (by decide))
      have t143 := p140 0 218 (fun q => absurd q.1 (by decide))
      have f144 := (show 0 ≤ I139 0 216 ∧ I139 0 216 ≤ 1300 from (hI139 0 216).1)
      have f145 := (show 0 ≤ I139 0 217 ∧ I139 0 217 ≤ 1300 from (hI139 0 217).1)
      have f146 := (show 0 ≤ I139 0 218 ∧ I139 0 218 ≤ 1 from (hI139 0 218).1)
      exact gv_iret hD rfl ⟨I139, J126, rfl, hI139, FI139, FJ126, ⟨_, rfl, by omega, by omega, by omega, by omega, by omega, by omega, (gr_ocl q124.2.2.2.2.2.2.1 (gr_GS_of p132 q132 p140 q140) (by omega) (by omega) ⟨by omega, by omega⟩ (by omega) (by omega) (by omega) (by omega))⟩⟩
    by_cases c147 : ((I 134 (Int.toNat a1))) = 4
    · refine gv_tabAt hD 4 rfl ⟨by omega, by omega⟩ c147 ⟨by decide, by decide⟩ rfl (t := 70) rfl ?_
      have t148 := gr_GH_b x0 (x := a1) ⟨by omega, by omega⟩
      have t149 := gr_GH_4 x0 (x := a1) ⟨by omega, by omega⟩ (by omega)
      have f150 := (show (-2147483648) ≤ I 135 (Int.toNat a1) ∧ I 135 (Int.toNat a1) ≤ 2147483647 from (hI 135 (Int.toNat a1)).1)
      refine gv_run 5 true hD (pc' := 77) (lv' := [(0, .inr (.inr (some 0))), (1, .inl a1), (2, .inl a2), (3, .inl a3)]) (st' := [.inl (I 135 (Int.toNat a1)), .inr (.inr (some 0))]) (h' := gr_h I J) (C := (((((True ∧ True) ∧ True) ∧ True) ∧ True) ∧ (0 ≤ a1 ∧ a1 < ((2000 : Nat) : Int)))) rfl ⟨⟨⟨⟨⟨trivial, trivial⟩, trivial⟩, trivial⟩, trivial⟩, ⟨by omega, by omega⟩⟩ ?_
      refine gv_run 2 true hD (pc' := 79) (lv' := [(0, .inr (.inr (some 0))), (1, .inl a1), (2, .inl a2), (3, .inl a3)]) (st' := [.inl a3, .inl a2, .inl (I 135 (Int.toNat a1)), .inr (.inr (some 0))]) (h' := gr_h I J) (C := ((True ∧ True) ∧ True)) rfl ⟨⟨trivial, trivial⟩, trivial⟩ ?_
      obtain ⟨r151, h151, E151, P151⟩ := ihR I J hI ((I 135 (Int.toNat a1))) a2 a3 ⟨by omega, by omega⟩ ⟨by omega, by omega⟩ ⟨by omega, by omega⟩ x0 (by omega) (by omega) x3 (by omega) (by omega) (by omega) (by omega) (by omega) (by omega) (by omega) (by omega) (by omega)
      obtain ⟨I152, J153, rfl, hI152, g151, k151, ⟨z151, rfl, q151⟩⟩ := P151
      have FI152 := gr_frt FI g151 rfl rfl
      have FJ153 := gr_fjt FJ k151 rfl rfl
      have t154 := g151 0 217 rfl
      have f155 := (show 0 ≤ I152 0 216 ∧ I152 0 216 ≤ 1300 from (hI152 0 216).1)
      have f156 := (show 0 ≤ I152 0 217 ∧ I152 0 217 ≤ 1300 from (hI152 0 217).1)
      have f157 := (show 0 ≤ I152 0 218 ∧ I152 0 218 ≤ 1 from (hI152 0 218).1)
      refine gv_callV hD rfl (As := [.inl (I 135 (Int.toNat a1)), .inl a2, .inl a3]) (st := []) rfl (by decide) rfl rfl (gr_lV hws rfl) (Nat.le_of_ble_eq_true rfl) (gz_Ev_mono (d := (1 + nr)) (Nat.le_refl _) E151) ?_
      show gv_X _ _ (82, [(0, .inr (.inr (some 0))), (1, .inl a1), (2, .inl a2), (3, .inl a3)], [.inl z151], gr_sh ++ ext, gr_h I152 J153)
      refine gv_run 1 true hD (pc' := 84) (lv' := [(4, .inl z151), (0, .inr (.inr (some 0))), (1, .inl a1), (2, .inl a2), (3, .inl a3)]) (st' := []) (h' := gr_h I152 J153) (C := (True ∧ True)) rfl ⟨trivial, trivial⟩ ?_
      have t158 := gr_HF_x (q151.2.2.2.2.2.2).1 x3 x0 (x := a1) ⟨by omega, by omega⟩
      have t159 := gr_GH_4 (gr_GH_fr x0 (q151.2.2.2.2.2.2).1 x3) (x := a1) ⟨by omega, by omega⟩ (by omega)
      refine gv_run 7 true hD (pc' := 94) (lv' := [(4, .inl z151), (0, .inr (.inr (some 0))), (1, .inl a1), (2, .inl a2), (3, .inl a3)]) (st' := [.inl a1, .inr (.inr (some 136)), .inr (.inr (some 0)), .inl z151, .inl 4, .inr (.inr (some 0))]) (h' := gr_h I152 J153) (C := (((((((True ∧ True) ∧ True) ∧ True) ∧ True) ∧ True) ∧ True) ∧ True)) rfl ⟨⟨⟨⟨⟨⟨⟨trivial, trivial⟩, trivial⟩, trivial⟩, trivial⟩, trivial⟩, trivial⟩, trivial⟩ ?_
      have f160 := (show (-2147483648) ≤ I152 136 (Int.toNat a1) ∧ I152 136 (Int.toNat a1) ≤ 2147483647 from (hI152 136 (Int.toNat a1)).1)
      refine gv_run 1 true hD (pc' := 95) (lv' := [(4, .inl z151), (0, .inr (.inr (some 0))), (1, .inl a1), (2, .inl a2), (3, .inl a3)]) (st' := [.inl (I152 136 (Int.toNat a1)), .inr (.inr (some 0)), .inl z151, .inl 4, .inr (.inr (some 0))]) (h' := gr_h I152 J153) (C := (True ∧ (0 ≤ a1 ∧ a1 < ((2000 : Nat) : Int)))) rfl ⟨trivial, ⟨by omega, by omega⟩⟩ ?_
      refine gv_run 2 true hD (pc' := 97) (lv' := [(4, .inl z151), (0, .inr (.inr (some 0))), (1, .inl a1), (2, .inl a2), (3, .inl a3)]) (st' := [.inl a3, .inl a2, .inl (I152 136 (Int.toNat a1)), .inr (.inr (some 0)), .inl z151, .inl 4, .inr (.inr (some 0))]) (h' := gr_h I152 J153) (C := ((True ∧ True) ∧ True)) rfl ⟨⟨trivial, trivial⟩, trivial⟩ ?_
      obtain ⟨r161, h161, E161, P161⟩ := ihR I152 J153 hI152 ((I152 136 (Int.toNat a1))) a2 a3 ⟨by omega, by omega⟩ ⟨by omega, by omega⟩ ⟨by omega, by omega⟩ (gr_GH_fr x0 (q151.2.2.2.2.2.2).1 x3) (by omega) (by omega) (show gr_DJ a9 b9 I152 from by unfold gr_DJ at x3 ⊢; omega) (by omega) (by omega) (by omega) (by omega) (by omega) (by omega) (by omega) (by omega) (by omega)
      obtain ⟨I162, J163, rfl, hI162, g161, k161, ⟨z161, rfl, q161⟩⟩ := P161
      have FI162 := gr_frt FI152 g161 rfl rfl
      have FJ163 := gr_fjt FJ153 k161 rfl rfl
      have t164 := g161 0 217 rfl
      have f165 := (show 0 ≤ I162 0 216 ∧ I162 0 216 ≤ 1300 from (hI162 0 216).1)
      have f166 := (show 0 ≤ I162 0 217 ∧ I162 0 217 ≤ 1300 from (hI162 0 217).1)
      have f167 := (show 0 ≤ I162 0 218 ∧ I162 0 218 ≤ 1 from (hI162 0 218).1)
      refine gv_callV hD rfl (As := [.inl (I152 136 (Int.toNat a1)), .inl a2, .inl a3]) (st := [.inl z151, .inl 4, .inr (.inr (some 0))]) rfl (by decide) rfl rfl (gr_lV hws rfl) (Nat.le_of_ble_eq_true rfl) (gz_Ev_mono (d := (1 + nr)) (Nat.le_refl _) E161) ?_
      show gv_X _ _ (100, [(4, .inl z151), (0, .inr (.inr (some 0))), (1, .inl a1), (2, .inl a2), (3, .inl a3)], [.inl z161, .inl z151, .inl 4, .inr (.inr (some 0))], gr_sh ++ ext, gr_h I162 J163)
      refine gv_run 1 true hD (pc' := 101) (lv' := [(4, .inl z151), (0, .inr (.inr (some 0))), (1, .inl a1), (2, .inl a2), (3, .inl a3)]) (st' := [.inr (.inl (Int64.ofNat 0)), .inl z161, .inl z151, .inl 4, .inr (.inr (some 0))]) (h' := gr_h I162 J163) (C := (True ∧ True)) rfl ⟨trivial, trivial⟩ ?_
      obtain ⟨r168, h168, E168, P168⟩ := r_heap_w (ws0 := ws0) (tb := tb) hws htb ext I162 J163 hI162 4 z151 z161 (Int64.ofNat 0) ⟨by omega, by omega⟩ ⟨by omega, by omega⟩ ⟨by omega, by omega⟩ (by omega) (by omega) (by omega)
      obtain ⟨I169, J170, rfl, hI169, g168, k168, ⟨z168, rfl, q168⟩⟩ := P168
      have FI169 := gr_frt FI162 g168 rfl rfl
      have FJ170 := gr_fjt FJ163 k168 rfl rfl
      have t171 := g168 0 217 rfl
      have f172 := (show 0 ≤ I169 0 216 ∧ I169 0 216 ≤ 1300 from (hI169 0 216).1)
      have f173 := (show 0 ≤ I169 0 217 ∧ I169 0 217 ≤ 1300 from (hI169 0 217).1)
      have f174 := (show 0 ≤ I169 0 218 ∧ I169 0 218 ≤ 1 from (hI169 0 218).1)
      refine gv_callV hD rfl (As := [.inl 4, .inl z151, .inl z161, .inr (.inl (Int64.ofNat 0))]) (st := []) rfl (by decide) rfl rfl (gr_lV hws rfl) (Nat.le_of_ble_eq_true rfl) (gz_Ev_mono (d := 1) (by omega) E168) ?_
      show gv_X _ _ (104, [(4, .inl z151), (0, .inr (.inr (some 0))), (1, .inl a1), (2, .inl a2), (3, .inl a3)], [.inl z168], gr_sh ++ ext, gr_h I169 J170)
      refine gr_gst (a := 137) (k := (Int.toNat z168)) (z := ((I169 0 216) - (I 0 216))) hI169 FI169 rfl rfl ⟨⟨by show 0 ≤ _; omega, by show _ ≤ 2000000; omega⟩, trivial⟩ (fun I175 hI175 FI175 q176 p176 => ?_)
      have t177 := p176 0 216 (fun q => absurd q.1 (by decide))
      have t178 := p176 0 217 (fun q => absurd q.1 (by decide))
      have t179 := p176 0 218 (fun q => absurd q.1 (by decide))
      have f180 := (show 0 ≤ I175 0 216 ∧ I175 0 216 ≤ 1300 from (hI175 0 216).1)
      have f181 := (show 0 ≤ I175 0 217 ∧ I175 0 217 ≤ 1300 from (hI175 0 217).1)
      have f182 := (show 0 ≤ I175 0 218 ∧ I175 0 218 ≤ 1 from (hI175 0 218).1)
      refine gr_gst (a := 137) (k := (5000 + Int.toNat z168)) (z := (c9 + a2 + a3)) hI175 FI175 rfl rfl ⟨⟨by show 0 ≤ _; omega, by show _ ≤ 2000000; omega⟩, trivial⟩ (fun I183 hI183 FI183 q184 p184 => ?_)
      have t185 := p184 0 216 (fun q => absurd q.1 (by decide))
      have t186 := p184 0 217 (fun q => absurd q.1 (by decide))
      have t187 := p184 0 218 (fun q => absurd q.1 (by decide))
      have f188 := (show 0 ≤ I183 0 216 ∧ I183 0 216 ≤ 1300 from (hI183 0 216).1)
      have f189 := (show 0 ≤ I183 0 217 ∧ I183 0 217 ≤ 1300 from (hI183 0 217).1)
      have f190 := (show 0 ≤ I183 0 218 ∧ I183 0 218 ≤ 1 from (hI183 0 218).1)
      exact gv_iret hD rfl ⟨I183, J170, rfl, hI183, FI183, FJ170, ⟨_, rfl, by omega, by omega, by omega, by omega, by omega, by omega, (gr_ok4 (c := (c9 + a2 + a3)) (gr_OK_w q151.2.2.2.2.2.2 (by omega) (Int.le_refl _)) (gr_OK_w q161.2.2.2.2.2.2 (by omega) (Int.le_refl _)) q168.2.2.2.2.2.2.1 (gr_GS_of p176 q176 p184 q184) (by omega) ⟨by omega, by omega⟩ (by omega) (by omega) (by omega))⟩⟩
    refine gv_tabOut hD rfl ⟨by omega, by omega⟩ (by omega) (t := 140) rfl ?_
    have t191 := gr_GH_b x0 (x := a1) ⟨by omega, by omega⟩
    have t192 := gr_GH_k x0 (x := a1) ⟨by omega, by omega⟩
    refine gv_run 7 true hD (pc' := 149) (lv' := [(0, .inr (.inr (some 0))), (1, .inl a1), (2, .inl a2), (3, .inl a3)]) (st' := [.inl a1, .inr (.inr (some 137)), .inl 0, .inl 0, .inl 2, .inr (.inr (some 0))]) (h' := gr_h I J) (C := (((((((True ∧ True) ∧ True) ∧ True) ∧ True) ∧ True) ∧ True) ∧ True)) rfl ⟨⟨⟨⟨⟨⟨⟨trivial, trivial⟩, trivial⟩, trivial⟩, trivial⟩, trivial⟩, trivial⟩, trivial⟩ ?_
    refine gv_run 1 true hD (pc' := 150) (lv' := [(0, .inr (.inr (some 0))), (1, .inl a1), (2, .inl a2), (3, .inl a3)]) (st' := [.inr (.inl (J 137 (Int.toNat a1))), .inl 0, .inl 0, .inl 2, .inr (.inr (some 0))]) (h' := gr_h I J) (C := (True ∧ (0 ≤ a1 ∧ a1 < ((2000 : Nat) : Int)))) rfl ⟨trivial, ⟨by omega, by omega⟩⟩ ?_
    obtain ⟨r193, h193, E193, P193⟩ := r_heap_w (ws0 := ws0) (tb := tb) hws htb ext I J hI 2 0 0 ((J 137 (Int.toNat a1))) ⟨by omega, by omega⟩ ⟨by omega, by omega⟩ ⟨by omega, by omega⟩ (by omega) (by omega) (by omega)
    obtain ⟨I194, J195, rfl, hI194, g193, k193, ⟨z193, rfl, q193⟩⟩ := P193
    have FI194 := gr_frt FI g193 rfl rfl
    have FJ195 := gr_fjt FJ k193 rfl rfl
    have t196 := g193 0 217 rfl
    have f197 := (show 0 ≤ I194 0 216 ∧ I194 0 216 ≤ 1300 from (hI194 0 216).1)
    have f198 := (show 0 ≤ I194 0 217 ∧ I194 0 217 ≤ 1300 from (hI194 0 217).1)
    have f199 := (show 0 ≤ I194 0 218 ∧ I194 0 218 ≤ 1 from (hI194 0 218).1)
    refine gv_callV hD rfl (As := [.inl 2, .inl 0, .inl 0, .inr (.inl (J 137 (Int.toNat a1)))]) (st := []) rfl (by decide) rfl rfl (gr_lV hws rfl) (Nat.le_of_ble_eq_true rfl) (gz_Ev_mono (d := 1) (by omega) E193) ?_
    show gv_X _ _ (153, [(0, .inr (.inr (some 0))), (1, .inl a1), (2, .inl a2), (3, .inl a3)], [.inl z193], gr_sh ++ ext, gr_h I194 J195)
    refine gr_gst (a := 137) (k := (Int.toNat z193)) (z := ((I194 0 216) - (I 0 216))) hI194 FI194 rfl rfl ⟨⟨by show 0 ≤ _; omega, by show _ ≤ 2000000; omega⟩, trivial⟩ (fun I200 hI200 FI200 q201 p201 => ?_)
    have t202 := p201 0 216 (fun q => absurd q.1 (by decide))
    have t203 := p201 0 217 (fun q => absurd q.1 (by decide))
    have t204 := p201 0 218 (fun q => absurd q.1 (by decide))
    have f205 := (show 0 ≤ I200 0 216 ∧ I200 0 216 ≤ 1300 from (hI200 0 216).1)
    have f206 := (show 0 ≤ I200 0 217 ∧ I200 0 217 ≤ 1300 from (hI200 0 217).1)
    have f207 := (show 0 ≤ I200 0 218 ∧ I200 0 218 ≤ 1 from (hI200 0 218).1)
    refine gr_gst (a := 137) (k := (5000 + Int.toNat z193)) (z := (c9 + a2 + a3)) hI200 FI200 rfl rfl ⟨⟨by show 0 ≤ _; omega, by show _ ≤ 2000000; omega⟩, trivial⟩ (fun I208 hI208 FI208 q209 p209 => ?_)
    have t210 := p209 0 216 (fun q => absurd q.1 (by decide))
    have t211 := p209 0 217 (fun q => absurd q.1 (by decide))
    have t212 := p209 0 218 (fun q => absurd q.1 (by decide))
    have f213 := (show 0 ≤ I208 0 216 ∧ I208 0 216 ≤ 1300 from (hI208 0 216).1)
    have f214 := (show 0 ≤ I208 0 217 ∧ I208 0 217 ≤ 1300 from (hI208 0 217).1)
    have f215 := (show 0 ≤ I208 0 218 ∧ I208 0 218 ≤ 1 from (hI208 0 218).1)
    exact gv_iret hD rfl ⟨I208, J195, rfl, hI208, FI208, FJ195, ⟨_, rfl, by omega, by omega, by omega, by omega, by omega, by omega, (gr_ocl q193.2.2.2.2.2.2.1 (gr_GS_of p201 q201 p209 q209) (by omega) (by omega) ⟨by omega, by omega⟩ (by omega) (by omega) (by omega) (by omega))⟩⟩
  · refine gv_run 1 true hD (pc' := 8) (lv' := [(0, .inr (.inr (some 0))), (1, .inl a1), (2, .inl a2), (3, .inl a3)]) (st' := [.inl 0]) (h' := gr_h I J) (C := (True ∧ True)) rfl ⟨trivial, trivial⟩ ?_
    exact gv_iret hD rfl ⟨I, J, rfl, hI, FI, FJ, ⟨_, rfl, by omega, by omega, by omega, by omega, by omega, by omega, (gr_OK_lg (by omega) (by omega))⟩⟩
set_option maxHeartbeats 4000000 in
set_option maxRecDepth 100000 in
theorem r_put {ws0 : List Cond} {tb : String → gz_T} (hws : ∀ w ∈ gr_ws, w ∈ ws0) (htb : tb RX13 = gr_T) (ext : gz_Sh) (a9 : Int) (b9 : Int) (S9 : Int) (c9 : Int) : ∀ (nr : Nat) (I : gr_I) (J : gr_J) (hI : gr_Inv I) (a1 : Int) (a2 : Int) (a3 : Int) (ha1 : 0 ≤ a1 ∧ a1 ≤ 1299) (ha2 : 0 ≤ a2 ∧ a2 ≤ 300) (ha3 : 0 ≤ a3 ∧ a3 ≤ 1299) (x0 : gr_GH a9 b9 S9 I) (x1 : a9 ≤ a1) (x2 : a1 < b9) (x3 : gr_DJ a9 b9 I) (x4 : I 0 216 ≤ I 0 217) (x5 : I 0 217 - 300 ≤ I 0 216) (x6 : 300 ≤ I 0 217) (x7 : I 137 (5000 + (Int.toNat a1)) ≤ c9 + a2 + 1) (x8 : a2 + I 137 (Int.toNat a1) ≤ 300) (x9 : 0 ≤ c9) (x10 : c9 ≤ S9) (x11 : S9 ≤ 1000000) (x12 : a9 ≤ a3) (x13 : a3 < b9) (x14 : I 137 (5000 + Int.toNat a3) ≤ c9) (_ : ((I 137 (Int.toNat a1))).toNat < nr), ∃ r h', gz_Ev ws0 tb (302 + nr) (yX13_put, cX13_put, 5, (some .int)) [.inr (.inr (some 0)), .inl a1, .inl a2, .inl a3] (gr_sh ++ ext) (gr_h I J) r (gr_sh ++ ext) h' 0 0 ∧ (∃ (I' : gr_I) (J' : gr_J), h' = gr_h I' J' ∧ gr_Inv I' ∧ gr_fr [216, 218] [134, 135, 136, 137] I I' ∧ gr_fj [216, 218] [134, 135, 136, 137] J J' ∧ (∃ z : Int, r = some (.inl z) ∧ 0 ≤ z ∧ z ≤ 1299 ∧ (I' 0 217 = I 0 217) ∧ (I 0 216 ≤ I' 0 216) ∧ (I' 0 216 ≤ I' 0 217) ∧ (I 0 218 ≤ I' 0 218) ∧ (gr_OK I I' z (c9 + a2) (S9 + 600)))) := by
  intro nr
  induction nr with
  | zero => intro I J hI a1 a2 a3 ha1 ha2 ha3 x0 x1 x2 x3 x4 x5 x6 x7 x8 x9 x10 x11 x12 x13 x14 hnr; omega
  | succ nr ihR =>
  intro I J hI a1 a2 a3 ha1 ha2 ha3 x0 x1 x2 x3 x4 x5 x6 x7 x8 x9 x10 x11 x12 x13 x14 hnr
  have FI : gr_fr [216, 218] [134, 135, 136, 137] I I := fun _ _ _ => rfl
  have FJ : gr_fj [216, 218] [134, 135, 136, 137] J J := fun _ _ _ => rfl
  have hD : gv_D (gr_E ws0 tb (302 + nr) (yX13_put, cX13_put, 5, (some .int)) kX13_put) := gq_ok oX13_put
  refine gr_ev (d := (302 + nr)) (l := kX13_put) (Po := fun r h' => (∃ (I' : gr_I) (J' : gr_J), h' = gr_h I' J' ∧ gr_Inv I' ∧ gr_fr [216, 218] [134, 135, 136, 137] I I' ∧ gr_fj [216, 218] [134, 135, 136, 137] J J' ∧ (∃ z : Int, r = some (.inl z) ∧ 0 ≤ z ∧ z ≤ 1299 ∧ (I' 0 217 = I 0 217) ∧ (I 0 216 ≤ I' 0 216) ∧ (I' 0 216 ≤ I' 0 217) ∧ (I 0 218 ≤ I' 0 218) ∧ (gr_OK I I' z (c9 + a2) (S9 + 600))))) htb rfl (Nat.le_of_ble_eq_true rfl) ?_
  have f1 := (show 0 ≤ I 0 216 ∧ I 0 216 ≤ 1300 from (hI 0 216).1)
  have f2 := (show 0 ≤ I 0 217 ∧ I 0 217 ≤ 1300 from (hI 0 217).1)
  have f3 := (show 0 ≤ I 0 218 ∧ I 0 218 ≤ 1 from (hI 0 218).1)
  have t4 := x0.1
  have f5 := (show 0 ≤ I 0 218 ∧ I 0 218 ≤ 1 from (hI 0 218).1)
  refine gv_run 2 true hD (pc' := 4) (lv' := [(0, .inr (.inr (some 0))), (1, .inl a1), (2, .inl a2), (3, .inl a3)]) (st' := [.inl (I 0 218)]) (h' := gr_h I J) (C := ((True ∧ True) ∧ True)) rfl ⟨⟨trivial, trivial⟩, trivial⟩ ?_
  refine gv_if_eq (t := 9) hD rfl rfl ⟨by omega, by omega⟩ (fun c6 => ?_) (fun c6 => ?_)
  · have f7 := (show (-2147483648) ≤ I 134 (Int.toNat a1) ∧ I 134 (Int.toNat a1) ≤ 2147483647 from (hI 134 (Int.toNat a1)).1)
    refine gv_run 4 true hD (pc' := 15) (lv' := [(0, .inr (.inr (some 0))), (1, .inl a1), (2, .inl a2), (3, .inl a3)]) (st' := [.inl (I 134 (Int.toNat a1))]) (h' := gr_h I J) (C := ((((True ∧ True) ∧ True) ∧ True) ∧ (0 ≤ a1 ∧ a1 < ((2000 : Nat) : Int)))) rfl ⟨⟨⟨⟨trivial, trivial⟩, trivial⟩, trivial⟩, ⟨by omega, by omega⟩⟩ ?_
    by_cases c8 : ((I 134 (Int.toNat a1))) = 0
    · refine gv_tabAt hD 0 rfl ⟨by omega, by omega⟩ c8 ⟨by decide, by decide⟩ rfl (t := 48) rfl ?_
      have t9 := gr_GH_b x0 (x := a1) ⟨by omega, by omega⟩
      have t10 := gr_GH_0 x0 (x := a1) ⟨by omega, by omega⟩ (by omega)
      have f11 := (show (-2147483648) ≤ I 135 (Int.toNat a1) ∧ I 135 (Int.toNat a1) ≤ 2147483647 from (hI 135 (Int.toNat a1)).1)
      refine gv_run 7 true hD (pc' := 57) (lv' := [(0, .inr (.inr (some 0))), (1, .inl a1), (2, .inl a2), (3, .inl a3)]) (st' := [.inl (I 135 (Int.toNat a1)), .inr (.inr (some 0)), .inl 0, .inr (.inr (some 0))]) (h' := gr_h I J) (C := (((((((True ∧ True) ∧ True) ∧ True) ∧ True) ∧ True) ∧ True) ∧ (0 ≤ a1 ∧ a1 < ((2000 : Nat) : Int)))) rfl ⟨⟨⟨⟨⟨⟨⟨trivial, trivial⟩, trivial⟩, trivial⟩, trivial⟩, trivial⟩, trivial⟩, ⟨by omega, by omega⟩⟩ ?_
      refine gv_run 4 true hD (pc' := 61) (lv' := [(0, .inr (.inr (some 0))), (1, .inl a1), (2, .inl a2), (3, .inl a3)]) (st' := [.inl a3, .inl (a2 + 1), .inl (I 135 (Int.toNat a1)), .inr (.inr (some 0)), .inl 0, .inr (.inr (some 0))]) (h' := gr_h I J) (C := ((((True ∧ True) ∧ True) ∧ True) ∧ True)) rfl ⟨⟨⟨⟨trivial, trivial⟩, trivial⟩, trivial⟩, trivial⟩ ?_
      obtain ⟨r12, h12, E12, P12⟩ := ihR I J hI ((I 135 (Int.toNat a1))) (a2 + 1) a3 ⟨by omega, by omega⟩ ⟨by omega, by omega⟩ ⟨by omega, by omega⟩ x0 (by omega) (by omega) x3 (by omega) (by omega) (by omega) (by omega) (by omega) (by omega) (by omega) (by omega) (by omega) (by omega) (by omega) (by omega)
      obtain ⟨I13, J14, rfl, hI13, g12, k12, ⟨z12, rfl, q12⟩⟩ := P12
      have FI13 := gr_frt FI g12 rfl rfl
      have FJ14 := gr_fjt FJ k12 rfl rfl
      have t15 := g12 0 217 rfl
      have f16 := (show 0 ≤ I13 0 216 ∧ I13 0 216 ≤ 1300 from (hI13 0 216).1)
      have f17 := (show 0 ≤ I13 0 217 ∧ I13 0 217 ≤ 1300 from (hI13 0 217).1)
      have f18 := (show 0 ≤ I13 0 218 ∧ I13 0 218 ≤ 1 from (hI13 0 218).1)
      refine gv_callV hD rfl (As := [.inl (I 135 (Int.toNat a1)), .inl (a2 + 1), .inl a3]) (st := [.inl 0, .inr (.inr (some 0))]) rfl (by decide) rfl rfl (gr_lV hws rfl) (Nat.le_of_ble_eq_true rfl) (gz_Ev_mono (d := (302 + nr)) (Nat.le_refl _) E12) ?_
      show gv_X _ _ (64, [(0, .inr (.inr (some 0))), (1, .inl a1), (2, .inl a2), (3, .inl a3)], [.inl z12, .inl 0, .inr (.inr (some 0))], gr_sh ++ ext, gr_h I13 J14)
      refine gv_run 2 true hD (pc' := 66) (lv' := [(0, .inr (.inr (some 0))), (1, .inl a1), (2, .inl a2), (3, .inl a3)]) (st' := [.inr (.inl (Int64.ofNat 0)), .inl 0, .inl z12, .inl 0, .inr (.inr (some 0))]) (h' := gr_h I13 J14) (C := ((True ∧ True) ∧ True)) rfl ⟨⟨trivial, trivial⟩, trivial⟩ ?_
      obtain ⟨r19, h19, E19, P19⟩ := r_heap_w (ws0 := ws0) (tb := tb) hws htb ext I13 J14 hI13 0 z12 0 (Int64.ofNat 0) ⟨by omega, by omega⟩ ⟨by omega, by omega⟩ ⟨by omega, by omega⟩ (by omega) (by omega) (by omega)
      obtain ⟨I20, J21, rfl, hI20, g19, k19, ⟨z19, rfl, q19⟩⟩ := P19
      have FI20 := gr_frt FI13 g19 rfl rfl
      have FJ21 := gr_fjt FJ14 k19 rfl rfl
      have t22 := g19 0 217 rfl
      have f23 := (show 0 ≤ I20 0 216 ∧ I20 0 216 ≤ 1300 from (hI20 0 216).1)
      have f24 := (show 0 ≤ I20 0 217 ∧ I20 0 217 ≤ 1300 from (hI20 0 217).1)
      have f25 := (show 0 ≤ I20 0 218 ∧ I20 0 218 ≤ 1 from (hI20 0 218).1)
      refine gv_callV hD rfl (As := [.inl 0, .inl z12, .inl 0, .inr (.inl (Int64.ofNat 0))]) (st := []) rfl (by decide) rfl rfl (gr_lV hws rfl) (Nat.le_of_ble_eq_true rfl) (gz_Ev_mono (d := 1) (by omega) E19) ?_
      show gv_X _ _ (69, [(0, .inr (.inr (some 0))), (1, .inl a1), (2, .inl a2), (3, .inl a3)], [.inl z19], gr_sh ++ ext, gr_h I20 J21)
      refine gr_gst (a := 137) (k := (Int.toNat z19)) (z := ((I20 0 216) - (I 0 216))) hI20 FI20 rfl rfl ⟨⟨by show 0 ≤ _; omega, by show _ ≤ 2000000; omega⟩, trivial⟩ (fun I26 hI26 FI26 q27 p27 => ?_)
      have t28 := p27 0 216 (fun q => absurd q.1 (by decide))
      have t29 := p27 0 217 (fun q => absurd q.1 (by decide))
      have t30 := p27 0 218 (fun q => absurd q.1 (by decide))
      have f31 := (show 0 ≤ I26 0 216 ∧ I26 0 216 ≤ 1300 from (hI26 0 216).1)
      have f32 := (show 0 ≤ I26 0 217 ∧ I26 0 217 ≤ 1300 from (hI26 0 217).1)
      have f33 := (show 0 ≤ I26 0 218 ∧ I26 0 218 ≤ 1 from (hI26 0 218).1)
      refine gr_gst (a := 137) (k := (5000 + Int.toNat z19)) (z := (c9 + a2)) hI26 FI26 rfl rfl ⟨⟨by show 0 ≤ _; omega, by show _ ≤ 2000000; omega⟩, trivial⟩ (fun I34 hI34 FI34 q35 p35 => ?_)
      have t36 := p35 0 216 (fun q => absurd q.1 (by decide))
      have t37 := p35 0 217 (fun q => absurd q.1 (by decide))
      have t38 := p35 0 218 (fun q => absurd q.1 (by decide))
      have f39 := (show 0 ≤ I34 0 216 ∧ I34 0 216 ≤ 1300 from (hI34 0 216).1)
      have f40 := (show 0 ≤ I34 0 217 ∧ I34 0 217 ≤ 1300 from (hI34 0 217).1)
      have f41 := (show 0 ≤ I34 0 218 ∧ I34 0 218 ≤ 1 from (hI34 0 218).1)
      exact gv_iret hD rfl ⟨I34, J21, rfl, hI34, FI34, FJ21, ⟨_, rfl, by omega, by omega, by omega, by omega, by omega, by omega, (gr_ok0 (c := (c9 + a2)) (gr_OK_w q12.2.2.2.2.2.2 (by omega) (Int.le_refl _)) q19.2.2.2.2.2.2.1 (gr_GS_of p27 q27 p35 q35) (by omega) ⟨by omega, by omega⟩ (by omega) (by omega) (by omega))⟩⟩
    by_cases c42 : ((I 134 (Int.toNat a1))) = 1
    · refine gv_tabAt hD 1 rfl ⟨by omega, by omega⟩ c42 ⟨by decide, by decide⟩ rfl (t := 105) rfl ?_
      have t43 := gr_GH_b x0 (x := a1) ⟨by omega, by omega⟩
      have t44 := gr_GH_1 x0 (x := a1) ⟨by omega, by omega⟩ (by omega)
      have f45 := (show (-2147483648) ≤ I 135 (Int.toNat a1) ∧ I 135 (Int.toNat a1) ≤ 2147483647 from (hI 135 (Int.toNat a1)).1)
      refine gv_run 4 true hD (pc' := 111) (lv' := [(0, .inr (.inr (some 0))), (1, .inl a1), (2, .inl a2), (3, .inl a3)]) (st' := [.inl (I 135 (Int.toNat a1))]) (h' := gr_h I J) (C := ((((True ∧ True) ∧ True) ∧ True) ∧ (0 ≤ a1 ∧ a1 < ((2000 : Nat) : Int)))) rfl ⟨⟨⟨⟨trivial, trivial⟩, trivial⟩, trivial⟩, ⟨by omega, by omega⟩⟩ ?_
      refine gv_run 1 true hD (pc' := 112) (lv' := [(0, .inr (.inr (some 0))), (1, .inl a1), (2, .inl a2), (3, .inl a3)]) (st' := [.inl a2, .inl (I 135 (Int.toNat a1))]) (h' := gr_h I J) (C := (True ∧ True)) rfl ⟨trivial, trivial⟩ ?_
      refine gv_icmp_ne (t := 125) hD rfl rfl ⟨⟨by omega, by omega⟩, ⟨by omega, by omega⟩⟩ (fun c46 => ?_) (fun c46 => ?_)
      · have f47 := (show (-2147483648) ≤ I 135 (Int.toNat a1) ∧ I 135 (Int.toNat a1) ≤ 2147483647 from (hI 135 (Int.toNat a1)).1)
        refine gv_run 6 true hD (pc' := 133) (lv' := [(0, .inr (.inr (some 0))), (1, .inl a1), (2, .inl a2), (3, .inl a3)]) (st' := [.inl (I 135 (Int.toNat a1)), .inl 1, .inr (.inr (some 0))]) (h' := gr_h I J) (C := ((((((True ∧ True) ∧ True) ∧ True) ∧ True) ∧ True) ∧ (0 ≤ a1 ∧ a1 < ((2000 : Nat) : Int)))) rfl ⟨⟨⟨⟨⟨⟨trivial, trivial⟩, trivial⟩, trivial⟩, trivial⟩, trivial⟩, ⟨by omega, by omega⟩⟩ ?_
        refine gv_run 1 true hD (pc' := 134) (lv' := [(0, .inr (.inr (some 0))), (1, .inl a1), (2, .inl a2), (3, .inl a3)]) (st' := [.inl a2, .inl (I 135 (Int.toNat a1)), .inl 1, .inr (.inr (some 0))]) (h' := gr_h I J) (C := (True ∧ True)) rfl ⟨trivial, trivial⟩ ?_
        refine gv_icmp_le (t := 148) hD rfl rfl ⟨⟨by omega, by omega⟩, ⟨by omega, by omega⟩⟩ (fun c48 => ?_) (fun c48 => ?_)
        · have f49 := (show (-2147483648) ≤ I 135 (Int.toNat a1) ∧ I 135 (Int.toNat a1) ≤ 2147483647 from (hI 135 (Int.toNat a1)).1)
          refine gv_run 4 true hD (pc' := 154) (lv' := [(0, .inr (.inr (some 0))), (1, .inl a1), (2, .inl a2), (3, .inl a3)]) (st' := [.inl (I 135 (Int.toNat a1)), .inl 1, .inr (.inr (some 0))]) (h' := gr_h I J) (C := ((((True ∧ True) ∧ True) ∧ True) ∧ (0 ≤ a1 ∧ a1 < ((2000 : Nat) : Int)))) rfl ⟨⟨⟨⟨trivial, trivial⟩, trivial⟩, trivial⟩, ⟨by omega, by omega⟩⟩ ?_
          refine gv_run 2 true hD (pc' := 156) (lv' := [(0, .inr (.inr (some 0))), (1, .inl a1), (2, .inl a2), (3, .inl a3)]) (st' := [.inr (.inl (Int64.ofNat 0)), .inl 0, .inl (I 135 (Int.toNat a1)), .inl 1, .inr (.inr (some 0))]) (h' := gr_h I J) (C := ((True ∧ True) ∧ True)) rfl ⟨⟨trivial, trivial⟩, trivial⟩ ?_
          obtain ⟨r50, h50, E50, P50⟩ := r_heap_w (ws0 := ws0) (tb := tb) hws htb ext I J hI 1 ((I 135 (Int.toNat a1))) 0 (Int64.ofNat 0) ⟨by omega, by omega⟩ ⟨by omega, by omega⟩ ⟨by omega, by omega⟩ (by omega) (by omega) (by omega)
          obtain ⟨I51, J52, rfl, hI51, g50, k50, ⟨z50, rfl, q50⟩⟩ := P50
          have FI51 := gr_frt FI g50 rfl rfl
          have FJ52 := gr_fjt FJ k50 rfl rfl
          have t53 := g50 0 217 rfl
          have f54 := (show 0 ≤ I51 0 216 ∧ I51 0 216 ≤ 1300 from (hI51 0 216).1)
          have f55 := (show 0 ≤ I51 0 217 ∧ I51 0 217 ≤ 1300 from (hI51 0 217).1)
          have f56 := (show 0 ≤ I51 0 218 ∧ I51 0 218 ≤ 1 from (hI51 0 218).1)
          refine gv_callV hD rfl (As := [.inl 1, .inl (I 135 (Int.toNat a1)), .inl 0, .inr (.inl (Int64.ofNat 0))]) (st := []) rfl (by decide) rfl rfl (gr_lV hws rfl) (Nat.le_of_ble_eq_true rfl) (gz_Ev_mono (d := 1) (by omega) E50) ?_
          show gv_X _ _ (159, [(0, .inr (.inr (some 0))), (1, .inl a1), (2, .inl a2), (3, .inl a3)], [.inl z50], gr_sh ++ ext, gr_h I51 J52)
          refine gr_gst (a := 137) (k := (Int.toNat z50)) (z := ((I51 0 216) - (I 0 216))) hI51 FI51 rfl rfl ⟨⟨by show 0 ≤ _; omega, by show _ ≤ 2000000; omega⟩, trivial⟩ (fun I57 hI57 FI57 q58 p58 => ?_)
          have t59 := p58 0 216 (fun q => absurd q.1 (by decide))
          have t60 := p58 0 217 (fun q => absurd q.1 (by decide))
          have t61 := p58 0 218 (fun q => absurd q.1 (by decide))
          have f62 := (show 0 ≤ I57 0 216 ∧ I57 0 216 ≤ 1300 from (hI57 0 216).1)
          have f63 := (show 0 ≤ I57 0 217 ∧ I57 0 217 ≤ 1300 from (hI57 0 217).1)
          have f64 := (show 0 ≤ I57 0 218 ∧ I57 0 218 ≤ 1 from (hI57 0 218).1)
          refine gr_gst (a := 137) (k := (5000 + Int.toNat z50)) (z := (c9 + a2)) hI57 FI57 rfl rfl ⟨⟨by show 0 ≤ _; omega, by show _ ≤ 2000000; omega⟩, trivial⟩ (fun I65 hI65 FI65 q66 p66 => ?_)
          have t67 := p66 0 216 (fun q => absurd q.1 (by decide))
          have t68 := p66 0 217 (fun q => absurd q.1 (by decide))
          have t69 := p66 0 218 (fun q => absurd q.1 (by decide))
          have f70 := (show 0 ≤ I65 0 216 ∧ I65 0 216 ≤ 1300 from (hI65 0 216).1)
          have f71 := (show 0 ≤ I65 0 217 ∧ I65 0 217 ≤ 1300 from (hI65 0 217).1)
          have f72 := (show 0 ≤ I65 0 218 ∧ I65 0 218 ≤ 1 from (hI65 0 218).1)
          exact gv_iret hD rfl ⟨I65, J52, rfl, hI65, FI65, FJ52, ⟨_, rfl, by omega, by omega, by omega, by omega, by omega, by omega, (gr_ocl q50.2.2.2.2.2.2.1 (gr_GS_of p58 q58 p66 q66) (by omega) (by omega) ⟨by omega, by omega⟩ (by omega) (by omega) (by omega) (by omega))⟩⟩
        · have f73 := (show (-2147483648) ≤ I 135 (Int.toNat a1) ∧ I 135 (Int.toNat a1) ≤ 2147483647 from (hI 135 (Int.toNat a1)).1)
          refine gv_run 4 true hD (pc' := 143) (lv' := [(0, .inr (.inr (some 0))), (1, .inl a1), (2, .inl a2), (3, .inl a3)]) (st' := [.inl (I 135 (Int.toNat a1)), .inl 1, .inr (.inr (some 0))]) (h' := gr_h I J) (C := ((((True ∧ True) ∧ True) ∧ True) ∧ (0 ≤ a1 ∧ a1 < ((2000 : Nat) : Int)))) rfl ⟨⟨⟨⟨trivial, trivial⟩, trivial⟩, trivial⟩, ⟨by omega, by omega⟩⟩ ?_
          refine gv_run 5 true hD (pc' := 156) (lv' := [(0, .inr (.inr (some 0))), (1, .inl a1), (2, .inl a2), (3, .inl a3)]) (st' := [.inr (.inl (Int64.ofNat 0)), .inl 0, .inl ((I 135 (Int.toNat a1)) - 1), .inl 1, .inr (.inr (some 0))]) (h' := gr_h I J) (C := (((((True ∧ True) ∧ True) ∧ True) ∧ True) ∧ True)) rfl ⟨⟨⟨⟨⟨trivial, trivial⟩, trivial⟩, trivial⟩, trivial⟩, trivial⟩ ?_
          obtain ⟨r74, h74, E74, P74⟩ := r_heap_w (ws0 := ws0) (tb := tb) hws htb ext I J hI 1 (((I 135 (Int.toNat a1)) - 1)) 0 (Int64.ofNat 0) ⟨by omega, by omega⟩ ⟨by omega, by omega⟩ ⟨by omega, by omega⟩ (by omega) (by omega) (by omega)
          obtain ⟨I75, J76, rfl, hI75, g74, k74, ⟨z74, rfl, q74⟩⟩ := P74
          have FI75 := gr_frt FI g74 rfl rfl
          have FJ76 := gr_fjt FJ k74 rfl rfl
          have t77 := g74 0 217 rfl
          have f78 := (show 0 ≤ I75 0 216 ∧ I75 0 216 ≤ 1300 from (hI75 0 216).1)
          have f79 := (show 0 ≤ I75 0 217 ∧ I75 0 217 ≤ 1300 from (hI75 0 217).1)
          have f80 := (show 0 ≤ I75 0 218 ∧ I75 0 218 ≤ 1 from (hI75 0 218).1)
          refine gv_callV hD rfl (As := [.inl 1, .inl ((I 135 (Int.toNat a1)) - 1), .inl 0, .inr (.inl (Int64.ofNat 0))]) (st := []) rfl (by decide) rfl rfl (gr_lV hws rfl) (Nat.le_of_ble_eq_true rfl) (gz_Ev_mono (d := 1) (by omega) E74) ?_
          show gv_X _ _ (159, [(0, .inr (.inr (some 0))), (1, .inl a1), (2, .inl a2), (3, .inl a3)], [.inl z74], gr_sh ++ ext, gr_h I75 J76)
          refine gr_gst (a := 137) (k := (Int.toNat z74)) (z := ((I75 0 216) - (I 0 216))) hI75 FI75 rfl rfl ⟨⟨by show 0 ≤ _; omega, by show _ ≤ 2000000; omega⟩, trivial⟩ (fun I81 hI81 FI81 q82 p82 => ?_)
          have t83 := p82 0 216 (fun q => absurd q.1 (by decide))
          have t84 := p82 0 217 (fun q => absurd q.1 (by decide))
          have t85 := p82 0 218 (fun q => absurd q.1 (by decide))
          have f86 := (show 0 ≤ I81 0 216 ∧ I81 0 216 ≤ 1300 from (hI81 0 216).1)
          have f87 := (show 0 ≤ I81 0 217 ∧ I81 0 217 ≤ 1300 from (hI81 0 217).1)
          have f88 := (show 0 ≤ I81 0 218 ∧ I81 0 218 ≤ 1 from (hI81 0 218).1)
          refine gr_gst (a := 137) (k := (5000 + Int.toNat z74)) (z := (c9 + a2)) hI81 FI81 rfl rfl ⟨⟨by show 0 ≤ _; omega, by show _ ≤ 2000000; omega⟩, trivial⟩ (fun I89 hI89 FI89 q90 p90 => ?_)
          have t91 := p90 0 216 (fun q => absurd q.1 (by decide))
          have t92 := p90 0 217 (fun q => absurd q.1 (by decide))
          have t93 := p90 0 218 (fun q => absurd q.1 (by decide))
          have f94 := (show 0 ≤ I89 0 216 ∧ I89 0 216 ≤ 1300 from (hI89 0 216).1)
          have f95 := (show 0 ≤ I89 0 217 ∧ I89 0 217 ≤ 1300 from (hI89 0 217).1)
          have f96 := (show 0 ≤ I89 0 218 ∧ I89 0 218 ≤ 1 from (hI89 0 218).1)
          exact gv_iret hD rfl ⟨I89, J76, rfl, hI89, FI89, FJ76, ⟨_, rfl, by omega, by omega, by omega, by omega, by omega, by omega, (gr_ocl q74.2.2.2.2.2.2.1 (gr_GS_of p82 q82 p90 q90) (by omega) (by omega) ⟨by omega, by omega⟩ (by omega) (by omega) (by omega) (by omega))⟩⟩
      · have t97 := gr_GH_b x0 (x := a3) ⟨by omega, by omega⟩
        refine gv_run 4 true hD (pc' := 119) (lv' := [(0, .inr (.inr (some 0))), (1, .inl a1), (2, .inl a2), (3, .inl a3)]) (st' := [.inl 0, .inl a2, .inl a3, .inr (.inr (some 0))]) (h' := gr_h I J) (C := ((((True ∧ True) ∧ True) ∧ True) ∧ True)) rfl ⟨⟨⟨⟨trivial, trivial⟩, trivial⟩, trivial⟩, trivial⟩ ?_
        obtain ⟨r98, h98, E98, P98⟩ := r_raised (ws0 := ws0) (tb := tb) hws htb ext a9 b9 S9 c9 301 I J hI a3 a2 0 ⟨by omega, by omega⟩ ⟨by omega, by omega⟩ ⟨by omega, by omega⟩ x0 (by omega) (by omega) x3 (by omega) (by omega) (by omega) (by omega) (by omega) (by omega) (by omega) (by omega) (by omega)
        obtain ⟨I99, J100, rfl, hI99, g98, k98, ⟨z98, rfl, q98⟩⟩ := P98
        have FI99 := gr_frt FI g98 rfl rfl
        have FJ100 := gr_fjt FJ k98 rfl rfl
        have t101 := g98 0 217 rfl
        have f102 := (show 0 ≤ I99 0 216 ∧ I99 0 216 ≤ 1300 from (hI99 0 216).1)
        have f103 := (show 0 ≤ I99 0 217 ∧ I99 0 217 ≤ 1300 from (hI99 0 217).1)
        have f104 := (show 0 ≤ I99 0 218 ∧ I99 0 218 ≤ 1 from (hI99 0 218).1)
        refine gv_callV hD rfl (As := [.inl a3, .inl a2, .inl 0]) (st := []) rfl (by decide) rfl rfl (gr_lV hws rfl) (Nat.le_of_ble_eq_true rfl) (gz_Ev_mono (d := 302) (by omega) E98) ?_
        show gv_X _ _ (122, [(0, .inr (.inr (some 0))), (1, .inl a1), (2, .inl a2), (3, .inl a3)], [.inl z98], gr_sh ++ ext, gr_h I99 J100)
        refine gv_run 1 true hD (pc' := 159) (lv' := [(0, .inr (.inr (some 0))), (1, .inl a1), (2, .inl a2), (3, .inl a3)]) (st' := [.inl z98]) (h' := gr_h I99 J100) (C := (True ∧ True)) rfl ⟨trivial, trivial⟩ ?_
        exact gv_iret hD rfl ⟨I99, J100, rfl, hI99, FI99, FJ100, ⟨_, rfl, by omega, by omega, by omega, by omega, by omega, by omega, (gr_OK_w q98.2.2.2.2.2.2 (by omega) (Int.le_refl _))⟩⟩
    by_cases c105 : ((I 134 (Int.toNat a1))) = 2
    · refine gv_tabAt hD 2 rfl ⟨by omega, by omega⟩ c105 ⟨by decide, by decide⟩ rfl (t := 160) rfl ?_
      have t106 := gr_GH_b x0 (x := a1) ⟨by omega, by omega⟩
      have t107 := gr_GH_k x0 (x := a1) ⟨by omega, by omega⟩
      refine gv_run 7 true hD (pc' := 169) (lv' := [(0, .inr (.inr (some 0))), (1, .inl a1), (2, .inl a2), (3, .inl a3)]) (st' := [.inl a1, .inr (.inr (some 137)), .inl 0, .inl 0, .inl 2, .inr (.inr (some 0))]) (h' := gr_h I J) (C := (((((((True ∧ True) ∧ True) ∧ True) ∧ True) ∧ True) ∧ True) ∧ True)) rfl ⟨⟨⟨⟨⟨⟨⟨trivial, trivial⟩, trivial⟩, trivial⟩, trivial⟩, trivial⟩, trivial⟩, trivial⟩ ?_
      refine gv_run 1 true hD (pc' := 170) (lv' := [(0, .inr (.inr (some 0))), (1, .inl a1), (2, .inl a2), (3, .inl a3)]) (st' := [.inr (.inl (J 137 (Int.toNat a1))), .inl 0, .inl 0, .inl 2, .inr (.inr (some 0))]) (h' := gr_h I J) (C := (True ∧ (0 ≤ a1 ∧ a1 < ((2000 : Nat) : Int)))) rfl ⟨trivial, ⟨by omega, by omega⟩⟩ ?_
      obtain ⟨r108, h108, E108, P108⟩ := r_heap_w (ws0 := ws0) (tb := tb) hws htb ext I J hI 2 0 0 ((J 137 (Int.toNat a1))) ⟨by omega, by omega⟩ ⟨by omega, by omega⟩ ⟨by omega, by omega⟩ (by omega) (by omega) (by omega)
      obtain ⟨I109, J110, rfl, hI109, g108, k108, ⟨z108, rfl, q108⟩⟩ := P108
      have FI109 := gr_frt FI g108 rfl rfl
      have FJ110 := gr_fjt FJ k108 rfl rfl
      have t111 := g108 0 217 rfl
      have f112 := (show 0 ≤ I109 0 216 ∧ I109 0 216 ≤ 1300 from (hI109 0 216).1)
      have f113 := (show 0 ≤ I109 0 217 ∧ I109 0 217 ≤ 1300 from (hI109 0 217).1)
      have f114 := (show 0 ≤ I109 0 218 ∧ I109 0 218 ≤ 1 from (hI109 0 218).1)
      refine gv_callV hD rfl (As := [.inl 2, .inl 0, .inl 0, .inr (.inl (J 137 (Int.toNat a1)))]) (st := []) rfl (by decide) rfl rfl (gr_lV hws rfl) (Nat.le_of_ble_eq_true rfl) (gz_Ev_mono (d := 1) (by omega) E108) ?_
      show gv_X _ _ (173, [(0, .inr (.inr (some 0))), (1, .inl a1), (2, .inl a2), (3, .inl a3)], [.inl z108], gr_sh ++ ext, gr_h I109 J110)
      refine gr_gst (a := 137) (k := (Int.toNat z108)) (z := ((I109 0 216) - (I 0 216))) hI109 FI109 rfl rfl ⟨⟨by show 0 ≤ _; omega, by show _ ≤ 2000000; omega⟩, trivial⟩ (fun I115 hI115 FI115 q116 p116 => ?_)
      have t117 := p116 0 216 (fun q => absurd q.1 (by decide))
      have t118 := p116 0 217 (fun q => absurd q.1 (by decide))
      have t119 := p116 0 218 (fun q => absurd q.1 (by decide))
      have f120 := (show 0 ≤ I115 0 216 ∧ I115 0 216 ≤ 1300 from (hI115 0 216).1)
      have f121 := (show 0 ≤ I115 0 217 ∧ I115 0 217 ≤ 1300 from (hI115 0 217).1)
      have f122 := (show 0 ≤ I115 0 218 ∧ I115 0 218 ≤ 1 from (hI115 0 218).1)
      refine gr_gst (a := 137) (k := (5000 + Int.toNat z108)) (z := (c9 + a2)) hI115 FI115 rfl rfl ⟨⟨by show 0 ≤ _; omega, by show _ ≤ 2000000; omega⟩, trivial⟩ (fun I123 hI123 FI123 q124 p124 => ?_)
      have t125 := p124 0 216 (fun q => absurd q.1 (by decide))
      have t126 := p124 0 217 (fun q => absurd q.1 (by decide))
      have t127 := p124 0 218 (fun q => absurd q.1 (by decide))
      have f128 := (show 0 ≤ I123 0 216 ∧ I123 0 216 ≤ 1300 from (hI123 0 216).1)
      have f129 := (show 0 ≤ I123 0 217 ∧ I123 0 217 ≤ 1300 from (hI123 0 217).1)
      have f130 := (show 0 ≤ I123 0 218 ∧ I123 0 218 ≤ 1 from (hI123 0 218).1)
      exact gv_iret hD rfl ⟨I123, J110, rfl, hI123, FI123, FJ110, ⟨_, rfl, by omega, by omega, by omega, by omega, by omega, by omega, (gr_ocl q108.2.2.2.2.2.2.1 (gr_GS_of p116 q116 p124 q124) (by omega) (by omega) ⟨by omega, by omega⟩ (by omega) (by omega) (by omega) (by omega))⟩⟩
    by_cases c131 : ((I 134 (Int.toNat a1))) = 3
    · refine gv_tabAt hD 3 rfl ⟨by omega, by omega⟩ c131 ⟨by decide, by decide⟩ rfl (t := 160) rfl ?_
      have t132 := gr_GH_b x0 (x := a1) ⟨by omega, by omega⟩
      have t133 := gr_GH_k x0 (x := a1) ⟨by omega, by omega⟩
      refine gv_run 7 true hD (pc' := 169) (lv' := [(0, .inr (.inr (some 0))), (1, .inl a1), (2, .inl a2), (3, .inl a3)]) (st' := [.inl a1, .inr (.inr (some 137)), .inl 0, .inl 0, .inl 2, .inr (.inr (some 0))]) (h' := gr_h I J) (C := (((((((True ∧ True) ∧ True) ∧ True) ∧ True) ∧ True) ∧ True) ∧ True)) rfl ⟨⟨⟨⟨⟨⟨⟨trivial, trivial⟩, trivial⟩, trivial⟩, trivial⟩, trivial⟩, trivial⟩, trivial⟩ ?_
      refine gv_run 1 true hD (pc' := 170) (lv' := [(0, .inr (.inr (some 0))), (1, .inl a1), (2, .inl a2), (3, .inl a3)]) (st' := [.inr (.inl (J 137 (Int.toNat a1))), .inl 0, .inl 0, .inl 2, .inr (.inr (some 0))]) (h' := gr_h I J) (C := (True ∧ (0 ≤ a1 ∧ a1 < ((2000 : Nat) : Int)))) rfl ⟨trivial, ⟨by omega, by omega⟩⟩ ?_
      obtain ⟨r134, h134, E134, P134⟩ := r_heap_w (ws0 := ws0) (tb := tb) hws htb ext I J hI 2 0 0 ((J 137 (Int.toNat a1))) ⟨by omega, by omega⟩ ⟨by omega, by omega⟩ ⟨by omega, by omega⟩ (by omega) (by omega) (by omega)
      obtain ⟨I135, J136, rfl, hI135, g134, k134, ⟨z134, rfl, q134⟩⟩ := P134
      have FI135 := gr_frt FI g134 rfl rfl
      have FJ136 := gr_fjt FJ k134 rfl rfl
      have t137 := g134 0 217 rfl
      have f138 := (show 0 ≤ I135 0 216 ∧ I135 0 216 ≤ 1300 from (hI135 0 216).1)
      have f139 := (show 0 ≤ I135 0 217 ∧ I135 0 217 ≤ 1300 from (hI135 0 217).1)
      have f140 := (show 0 ≤ I135 0 218 ∧ I135 0 218 ≤ 1 from (hI135 0 218).1)
      refine gv_callV hD rfl (As := [.inl 2, .inl 0, .inl 0, .inr (.inl (J 137 (Int.toNat a1)))]) (st := []) rfl (by decide) rfl rfl (gr_lV hws rfl) (Nat.le_of_ble_eq_true rfl) (gz_Ev_mono (d := 1) (by omega) E134) ?_
      show gv_X _ _ (173, [(0, .inr (.inr (some 0))), (1, .inl a1), (2, .inl a2), (3, .inl a3)], [.inl z134], gr_sh ++ ext, gr_h I135 J136)
      refine gr_gst (a := 137) (k := (Int.toNat z134)) (z := ((I135 0 216) - (I 0 216))) hI135 FI135 rfl rfl ⟨⟨by show 0 ≤ _; omega, by show _ ≤ 2000000; omega⟩, trivial⟩ (fun I141 hI141 FI141 q142 p142 => ?_)
      have t143 := p142 0 216 (fun q => absurd q.1 (by decide))
      have t144 := p142 0 217 (fun q => absurd q.1 (by decide))
      have t145 := p142 0 218 (fun q => absurd q.1 (by decide))
      have f146 := (show 0 ≤ I141 0 216 ∧ I141 0 216 ≤ 1300 from (hI141 0 216).1)
      have f147 := (show 0 ≤ I141 0 217 ∧ I141 0 217 ≤ 1300 from (hI141 0 217).1)
      have f148 := (show 0 ≤ I141 0 218 ∧ I141 0 218 ≤ 1 from (hI141 0 218).1)
      refine gr_gst (a := 137) (k := (5000 + Int.toNat z134)) (z := (c9 + a2)) hI141 FI141 rfl rfl ⟨⟨by show 0 ≤ _; omega, by show _ ≤ 2000000; omega⟩, trivial⟩ (fun I149 hI149 FI149 q150 p150 => ?_)
      have t151 := p150 0 216 (fun q => absurd q.1 (by decide))
      have t152 := p150 0 217 (fun q => absurd q.1 (by decide))
      have t153 := p150 0 218 (fun q => absurd q.1 (by decide))
      have f154 := (show 0 ≤ I149 0 216 ∧ I149 0 216 ≤ 1300 from (hI149 0 216).1)
      have f155 := (show 0 ≤ I149 0 217 ∧ I149 0 217 ≤ 1300 from (hI149 0 217).1)
      have f156 := (show 0 ≤ I149 0 218 ∧ I149 0 218 ≤ 1 from (hI149 0 218).1)
      exact gv_iret hD rfl ⟨I149, J136, rfl, hI149, FI149, FJ136, ⟨_, rfl, by omega, by omega, by omega, by omega, by omega, by omega, (gr_ocl q134.2.2.2.2.2.2.1 (gr_GS_of p142 q142 p150 q150) (by omega) (by omega) ⟨by omega, by omega⟩ (by omega) (by omega) (by omega) (by omega))⟩⟩
    by_cases c157 : ((I 134 (Int.toNat a1))) = 4
    · refine gv_tabAt hD 4 rfl ⟨by omega, by omega⟩ c157 ⟨by decide, by decide⟩ rfl (t := 70) rfl ?_
      have t158 := gr_GH_b x0 (x := a1) ⟨by omega, by omega⟩
      have t159 := gr_GH_4 x0 (x := a1) ⟨by omega, by omega⟩ (by omega)
      have f160 := (show (-2147483648) ≤ I 135 (Int.toNat a1) ∧ I 135 (Int.toNat a1) ≤ 2147483647 from (hI 135 (Int.toNat a1)).1)
      refine gv_run 5 true hD (pc' := 77) (lv' := [(0, .inr (.inr (some 0))), (1, .inl a1), (2, .inl a2), (3, .inl a3)]) (st' := [.inl (I 135 (Int.toNat a1)), .inr (.inr (some 0))]) (h' := gr_h I J) (C := (((((True ∧ True) ∧ True) ∧ True) ∧ True) ∧ (0 ≤ a1 ∧ a1 < ((2000 : Nat) : Int)))) rfl ⟨⟨⟨⟨⟨trivial, trivial⟩, trivial⟩, trivial⟩, trivial⟩, ⟨by omega, by omega⟩⟩ ?_
      refine gv_run 2 true hD (pc' := 79) (lv' := [(0, .inr (.inr (some 0))), (1, .inl a1), (2, .inl a2), (3, .inl a3)]) (st' := [.inl a3, .inl a2, .inl (I 135 (Int.toNat a1)), .inr (.inr (some 0))]) (h' := gr_h I J) (C := ((True ∧ True) ∧ True)) rfl ⟨⟨trivial, trivial⟩, trivial⟩ ?_
      obtain ⟨r161, h161, E161, P161⟩ := ihR I J hI ((I 135 (Int.toNat a1))) a2 a3 ⟨by omega, by omega⟩ ⟨by omega, by omega⟩ ⟨by omega, by omega⟩ x0 (by omega) (by omega) x3 (by omega) (by omega) (by omega) (by omega) (by omega) (by omega) (by omega) (by omega) (by omega) (by omega) (by omega) (by omega)
      obtain ⟨I162, J163, rfl, hI162, g161, k161, ⟨z161, rfl, q161⟩⟩ := P161
      have FI162 := gr_frt FI g161 rfl rfl
      have FJ163 := gr_fjt FJ k161 rfl rfl
      have t164 := g161 0 217 rfl
      have f165 := (show 0 ≤ I162 0 216 ∧ I162 0 216 ≤ 1300 from (hI162 0 216).1)
      have f166 := (show 0 ≤ I162 0 217 ∧ I162 0 217 ≤ 1300 from (hI162 0 217).1)
      have f167 := (show 0 ≤ I162 0 218 ∧ I162 0 218 ≤ 1 from (hI162 0 218).1)
      refine gv_callV hD rfl (As := [.inl (I 135 (Int.toNat a1)), .inl a2, .inl a3]) (st := []) rfl (by decide) rfl rfl (gr_lV hws rfl) (Nat.le_of_ble_eq_true rfl) (gz_Ev_mono (d := (302 + nr)) (Nat.le_refl _) E161) ?_
      show gv_X _ _ (82, [(0, .inr (.inr (some 0))), (1, .inl a1), (2, .inl a2), (3, .inl a3)], [.inl z161], gr_sh ++ ext, gr_h I162 J163)
      refine gv_run 1 true hD (pc' := 84) (lv' := [(4, .inl z161), (0, .inr (.inr (some 0))), (1, .inl a1), (2, .inl a2), (3, .inl a3)]) (st' := []) (h' := gr_h I162 J163) (C := (True ∧ True)) rfl ⟨trivial, trivial⟩ ?_
      have t168 := gr_HF_x (q161.2.2.2.2.2.2).1 x3 x0 (x := a1) ⟨by omega, by omega⟩
      have t169 := gr_GH_4 (gr_GH_fr x0 (q161.2.2.2.2.2.2).1 x3) (x := a1) ⟨by omega, by omega⟩ (by omega)
      have t170 := gr_HF_x (q161.2.2.2.2.2.2).1 x3 x0 (x := a3) ⟨by omega, by omega⟩
      refine gv_run 7 true hD (pc' := 94) (lv' := [(4, .inl z161), (0, .inr (.inr (some 0))), (1, .inl a1), (2, .inl a2), (3, .inl a3)]) (st' := [.inl a1, .inr (.inr (some 136)), .inr (.inr (some 0)), .inl z161, .inl 4, .inr (.inr (some 0))]) (h' := gr_h I162 J163) (C := (((((((True ∧ True) ∧ True) ∧ True) ∧ True) ∧ True) ∧ True) ∧ True)) rfl ⟨⟨⟨⟨⟨⟨⟨trivial, trivial⟩, trivial⟩, trivial⟩, trivial⟩, trivial⟩, trivial⟩, trivial⟩ ?_
      have f171 := (show (-2147483648) ≤ I162 136 (Int.toNat a1) ∧ I162 136 (Int.toNat a1) ≤ 2147483647 from (hI162 136 (Int.toNat a1)).1)
      refine gv_run 1 true hD (pc' := 95) (lv' := [(4, .inl z161), (0, .inr (.inr (some 0))), (1, .inl a1), (2, .inl a2), (3, .inl a3)]) (st' := [.inl (I162 136 (Int.toNat a1)), .inr (.inr (some 0)), .inl z161, .inl 4, .inr (.inr (some 0))]) (h' := gr_h I162 J163) (C := (True ∧ (0 ≤ a1 ∧ a1 < ((2000 : Nat) : Int)))) rfl ⟨trivial, ⟨by omega, by omega⟩⟩ ?_
      refine gv_run 2 true hD (pc' := 97) (lv' := [(4, .inl z161), (0, .inr (.inr (some 0))), (1, .inl a1), (2, .inl a2), (3, .inl a3)]) (st' := [.inl a3, .inl a2, .inl (I162 136 (Int.toNat a1)), .inr (.inr (some 0)), .inl z161, .inl 4, .inr (.inr (some 0))]) (h' := gr_h I162 J163) (C := ((True ∧ True) ∧ True)) rfl ⟨⟨trivial, trivial⟩, trivial⟩ ?_
      obtain ⟨r172, h172, E172, P172⟩ := ihR I162 J163 hI162 ((I162 136 (Int.toNat a1))) a2 a3 ⟨by omega, by omega⟩ ⟨by omega, by omega⟩ ⟨by omega, by omega⟩ (gr_GH_fr x0 (q161.2.2.2.2.2.2).1 x3) (by omega) (by omega) (show gr_DJ a9 b9 I162 from by unfold gr_DJ at x3 ⊢; omega) (by omega) (by omega) (by omega) (by omega) (by omega) (by omega) (by omega) (by omega) (by omega) (by omega) (by omega) (by omega)
      obtain ⟨I173, J174, rfl, hI173, g172, k172, ⟨z172, rfl, q172⟩⟩ := P172
      have FI173 := gr_frt FI162 g172 rfl rfl
      have FJ174 := gr_fjt FJ163 k172 rfl rfl
      have t175 := g172 0 217 rfl
      have f176 := (show 0 ≤ I173 0 216 ∧ I173 0 216 ≤ 1300 from (hI173 0 216).1)
      have f177 := (show 0 ≤ I173 0 217 ∧ I173 0 217 ≤ 1300 from (hI173 0 217).1)
      have f178 := (show 0 ≤ I173 0 218 ∧ I173 0 218 ≤ 1 from (hI173 0 218).1)
      refine gv_callV hD rfl (As := [.inl (I162 136 (Int.toNat a1)), .inl a2, .inl a3]) (st := [.inl z161, .inl 4, .inr (.inr (some 0))]) rfl (by decide) rfl rfl (gr_lV hws rfl) (Nat.le_of_ble_eq_true rfl) (gz_Ev_mono (d := (302 + nr)) (Nat.le_refl _) E172) ?_
      show gv_X _ _ (100, [(4, .inl z161), (0, .inr (.inr (some 0))), (1, .inl a1), (2, .inl a2), (3, .inl a3)], [.inl z172, .inl z161, .inl 4, .inr (.inr (some 0))], gr_sh ++ ext, gr_h I173 J174)
      refine gv_run 1 true hD (pc' := 101) (lv' := [(4, .inl z161), (0, .inr (.inr (some 0))), (1, .inl a1), (2, .inl a2), (3, .inl a3)]) (st' := [.inr (.inl (Int64.ofNat 0)), .inl z172, .inl z161, .inl 4, .inr (.inr (some 0))]) (h' := gr_h I173 J174) (C := (True ∧ True)) rfl ⟨trivial, trivial⟩ ?_
      obtain ⟨r179, h179, E179, P179⟩ := r_heap_w (ws0 := ws0) (tb := tb) hws htb ext I173 J174 hI173 4 z161 z172 (Int64.ofNat 0) ⟨by omega, by omega⟩ ⟨by omega, by omega⟩ ⟨by omega, by omega⟩ (by omega) (by omega) (by omega)
      obtain ⟨I180, J181, rfl, hI180, g179, k179, ⟨z179, rfl, q179⟩⟩ := P179
      have FI180 := gr_frt FI173 g179 rfl rfl
      have FJ181 := gr_fjt FJ174 k179 rfl rfl
      have t182 := g179 0 217 rfl
      have f183 := (show 0 ≤ I180 0 216 ∧ I180 0 216 ≤ 1300 from (hI180 0 216).1)
      have f184 := (show 0 ≤ I180 0 217 ∧ I180 0 217 ≤ 1300 from (hI180 0 217).1)
      have f185 := (show 0 ≤ I180 0 218 ∧ I180 0 218 ≤ 1 from (hI180 0 218).1)
      refine gv_callV hD rfl (As := [.inl 4, .inl z161, .inl z172, .inr (.inl (Int64.ofNat 0))]) (st := []) rfl (by decide) rfl rfl (gr_lV hws rfl) (Nat.le_of_ble_eq_true rfl) (gz_Ev_mono (d := 1) (by omega) E179) ?_
      show gv_X _ _ (104, [(4, .inl z161), (0, .inr (.inr (some 0))), (1, .inl a1), (2, .inl a2), (3, .inl a3)], [.inl z179], gr_sh ++ ext, gr_h I180 J181)
      refine gr_gst (a := 137) (k := (Int.toNat z179)) (z := ((I180 0 216) - (I 0 216))) hI180 FI180 rfl rfl ⟨⟨by show 0 ≤ _; omega, by show _ ≤ 2000000; omega⟩, trivial⟩ (fun I186 hI186 FI186 q187 p187 => ?_)
      have t188 := p187 0 216 (fun q => absurd q.1 (by decide))
      have t189 := p187 0 217 (fun q => absurd q.1 (by decide))
      have t190 := p187 0 218 (fun q => absurd q.1 (by decide))
      have f191 := (show 0 ≤ I186 0 216 ∧ I186 0 216 ≤ 1300 from (hI186 0 216).1)
      have f192 := (show 0 ≤ I186 0 217 ∧ I186 0 217 ≤ 1300 from (hI186 0 217).1)
      have f193 := (show 0 ≤ I186 0 218 ∧ I186 0 218 ≤ 1 from (hI186 0 218).1)
      refine gr_gst (a := 137) (k := (5000 + Int.toNat z179)) (z := (c9 + a2)) hI186 FI186 rfl rfl ⟨⟨by show 0 ≤ _; omega, by show _ ≤ 2000000; omega⟩, trivial⟩ (fun I194 hI194 FI194 q195 p195 => ?_)
      have t196 := p195 0 216 (fun q => absurd q.1 (by decide))
      have t197 := p195 0 217 (fun q => absurd q.1 (by decide))
      have t198 := p195 0 218 (fun q => absurd q.1 (by decide))
      have f199 := (show 0 ≤ I194 0 216 ∧ I194 0 216 ≤ 1300 from (hI194 0 216).1)
      have f200 := (show 0 ≤ I194 0 217 ∧ I194 0 217 ≤ 1300 from (hI194 0 217).1)
      have f201 := (show 0 ≤ I194 0 218 ∧ I194 0 218 ≤ 1 from (hI194 0 218).1)
      exact gv_iret hD rfl ⟨I194, J181, rfl, hI194, FI194, FJ181, ⟨_, rfl, by omega, by omega, by omega, by omega, by omega, by omega, (gr_ok4 (c := (c9 + a2)) (gr_OK_w q161.2.2.2.2.2.2 (by omega) (Int.le_refl _)) (gr_OK_w q172.2.2.2.2.2.2 (by omega) (Int.le_refl _)) q179.2.2.2.2.2.2.1 (gr_GS_of p187 q187 p195 q195) (by omega) ⟨by omega, by omega⟩ (by omega) (by omega) (by omega))⟩⟩
    refine gv_tabOut hD rfl ⟨by omega, by omega⟩ (by omega) (t := 160) rfl ?_
    have t202 := gr_GH_b x0 (x := a1) ⟨by omega, by omega⟩
    have t203 := gr_GH_k x0 (x := a1) ⟨by omega, by omega⟩
    refine gv_run 7 true hD (pc' := 169) (lv' := [(0, .inr (.inr (some 0))), (1, .inl a1), (2, .inl a2), (3, .inl a3)]) (st' := [.inl a1, .inr (.inr (some 137)), .inl 0, .inl 0, .inl 2, .inr (.inr (some 0))]) (h' := gr_h I J) (C := (((((((True ∧ True) ∧ True) ∧ True) ∧ True) ∧ True) ∧ True) ∧ True)) rfl ⟨⟨⟨⟨⟨⟨⟨trivial, trivial⟩, trivial⟩, trivial⟩, trivial⟩, trivial⟩, trivial⟩, trivial⟩ ?_
    refine gv_run 1 true hD (pc' := 170) (lv' := [(0, .inr (.inr (some 0))), (1, .inl a1), (2, .inl a2), (3, .inl a3)]) (st' := [.inr (.inl (J 137 (Int.toNat a1))), .inl 0, .inl 0, .inl 2, .inr (.inr (some 0))]) (h' := gr_h I J) (C := (True ∧ (0 ≤ a1 ∧ a1 < ((2000 : Nat) : Int)))) rfl ⟨trivial, ⟨by omega, by omega⟩⟩ ?_
    obtain ⟨r204, h204, E204, P204⟩ := r_heap_w (ws0 := ws0) (tb := tb) hws htb ext I J hI 2 0 0 ((J 137 (Int.toNat a1))) ⟨by omega, by omega⟩ ⟨by omega, by omega⟩ ⟨by omega, by omega⟩ (by omega) (by omega) (by omega)
    obtain ⟨I205, J206, rfl, hI205, g204, k204, ⟨z204, rfl, q204⟩⟩ := P204
    have FI205 := gr_frt FI g204 rfl rfl
    have FJ206 := gr_fjt FJ k204 rfl rfl
    have t207 := g204 0 217 rfl
    have f208 := (show 0 ≤ I205 0 216 ∧ I205 0 216 ≤ 1300 from (hI205 0 216).1)
    have f209 := (show 0 ≤ I205 0 217 ∧ I205 0 217 ≤ 1300 from (hI205 0 217).1)
    have f210 := (show 0 ≤ I205 0 218 ∧ I205 0 218 ≤ 1 from (hI205 0 218).1)
    refine gv_callV hD rfl (As := [.inl 2, .inl 0, .inl 0, .inr (.inl (J 137 (Int.toNat a1)))]) (st := []) rfl (by decide) rfl rfl (gr_lV hws rfl) (Nat.le_of_ble_eq_true rfl) (gz_Ev_mono (d := 1) (by omega) E204) ?_
    show gv_X _ _ (173, [(0, .inr (.inr (some 0))), (1, .inl a1), (2, .inl a2), (3, .inl a3)], [.inl z204], gr_sh ++ ext, gr_h I205 J206)
    refine gr_gst (a := 137) (k := (Int.toNat z204)) (z := ((I205 0 216) - (I 0 216))) hI205 FI205 rfl rfl ⟨⟨by show 0 ≤ _; omega, by show _ ≤ 2000000; omega⟩, trivial⟩ (fun I211 hI211 FI211 q212 p212 => ?_)
    have t213 := p212 0 216 (fun q => absurd q.1 (by decide))
    have t214 := p212 0 217 (fun q => absurd q.1 (by decide))
    have t215 := p212 0 218 (fun q => absurd q.1 (by decide))
    have f216 := (show 0 ≤ I211 0 216 ∧ I211 0 216 ≤ 1300 from (hI211 0 216).1)
    have f217 := (show 0 ≤ I211 0 217 ∧ I211 0 217 ≤ 1300 from (hI211 0 217).1)
    have f218 := (show 0 ≤ I211 0 218 ∧ I211 0 218 ≤ 1 from (hI211 0 218).1)
    refine gr_gst (a := 137) (k := (5000 + Int.toNat z204)) (z := (c9 + a2)) hI211 FI211 rfl rfl ⟨⟨by show 0 ≤ _; omega, by show _ ≤ 2000000; omega⟩, trivial⟩ (fun I219 hI219 FI219 q220 p220 => ?_)
    have t221 := p220 0 216 (fun q => absurd q.1 (by decide))
    have t222 := p220 0 217 (fun q => absurd q.1 (by decide))
    have t223 := p220 0 218 (fun q => absurd q.1 (by decide))
    have f224 := (show 0 ≤ I219 0 216 ∧ I219 0 216 ≤ 1300 from (hI219 0 216).1)
    have f225 := (show 0 ≤ I219 0 217 ∧ I219 0 217 ≤ 1300 from (hI219 0 217).1)
    have f226 := (show 0 ≤ I219 0 218 ∧ I219 0 218 ≤ 1 from (hI219 0 218).1)
    exact gv_iret hD rfl ⟨I219, J206, rfl, hI219, FI219, FJ206, ⟨_, rfl, by omega, by omega, by omega, by omega, by omega, by omega, (gr_ocl q204.2.2.2.2.2.2.1 (gr_GS_of p212 q212 p220 q220) (by omega) (by omega) ⟨by omega, by omega⟩ (by omega) (by omega) (by omega) (by omega))⟩⟩
  · refine gv_run 1 true hD (pc' := 8) (lv' := [(0, .inr (.inr (some 0))), (1, .inl a1), (2, .inl a2), (3, .inl a3)]) (st' := [.inl 0]) (h' := gr_h I J) (C := (True ∧ True)) rfl ⟨trivial, trivial⟩ ?_
    exact gv_iret hD rfl ⟨I, J, rfl, hI, FI, FJ, ⟨_, rfl, by omega, by omega, by omega, by omega, by omega, by omega, (gr_OK_lg (by omega) (by omega))⟩⟩
set_option maxHeartbeats 4000000 in
set_option maxRecDepth 100000 in
theorem r_redex {ws0 : List Cond} {tb : String → gz_T} (hws : ∀ w ∈ gr_ws, w ∈ ws0) (htb : tb RX13 = gr_T) (ext : gz_Sh) (a9 : Int) (b9 : Int) (S9 : Int) : ∀ (nr : Nat) (I : gr_I) (J : gr_J) (hI : gr_Inv I) (a1 : Int) (ha1 : 0 ≤ a1 ∧ a1 ≤ 1299) (x0 : gr_GH a9 b9 S9 I) (x1 : a9 ≤ a1) (x2 : a1 < b9) (_ : ((I 137 (Int.toNat a1))).toNat < nr), ∃ r h', gz_Ev ws0 tb (0 + nr) (yX13_redex, cX13_redex, 3, (some .int)) [.inr (.inr (some 0)), .inl a1] (gr_sh ++ ext) (gr_h I J) r (gr_sh ++ ext) h' 0 0 ∧ (h' = gr_h I J ∧ (∃ z : Int, r = some (.inl z) ∧ (-1) ≤ z ∧ z ≤ 1299 ∧ (z < 0 ∨ ((a9 ≤ z ∧ z < b9) ∧ I 134 (Int.toNat z) = 4 ∧ I 134 (Int.toNat (I 135 (Int.toNat z))) = 0)))) := by
  intro nr
  induction nr with
  | zero => intro I J hI a1 ha1 x0 x1 x2 hnr; omega
  | succ nr ihR =>
  intro I J hI a1 ha1 x0 x1 x2 hnr
  have hD : gv_D (gr_E ws0 tb (0 + nr) (yX13_redex, cX13_redex, 3, (some .int)) kX13_redex) := gq_ok oX13_redex
  refine gr_ev (d := (0 + nr)) (l := kX13_redex) (Po := fun r h' => (h' = gr_h I J ∧ (∃ z : Int, r = some (.inl z) ∧ (-1) ≤ z ∧ z ≤ 1299 ∧ (z < 0 ∨ ((a9 ≤ z ∧ z < b9) ∧ I 134 (Int.toNat z) = 4 ∧ I 134 (Int.toNat (I 135 (Int.toNat z))) = 0))))) htb rfl (Nat.le_of_ble_eq_true rfl) ?_
  have t1 := x0.1
  have f2 := (show (-2147483648) ≤ I 134 (Int.toNat a1) ∧ I 134 (Int.toNat a1) ≤ 2147483647 from (hI 134 (Int.toNat a1)).1)
  refine gv_run 4 true hD (pc' := 6) (lv' := [(0, .inr (.inr (some 0))), (1, .inl a1)]) (st' := [.inl (I 134 (Int.toNat a1))]) (h' := gr_h I J) (C := ((((True ∧ True) ∧ True) ∧ True) ∧ (0 ≤ a1 ∧ a1 < ((2000 : Nat) : Int)))) rfl ⟨⟨⟨⟨trivial, trivial⟩, trivial⟩, trivial⟩, ⟨by omega, by omega⟩⟩ ?_
  refine gv_if_ne (t := 20) hD rfl rfl ⟨by omega, by omega⟩ (fun c3 => ?_) (fun c3 => ?_)
  · have f4 := (show (-2147483648) ≤ I 134 (Int.toNat a1) ∧ I 134 (Int.toNat a1) ≤ 2147483647 from (hI 134 (Int.toNat a1)).1)
    refine gv_run 4 true hD (pc' := 26) (lv' := [(0, .inr (.inr (some 0))), (1, .inl a1)]) (st' := [.inl (I 134 (Int.toNat a1))]) (h' := gr_h I J) (C := ((((True ∧ True) ∧ True) ∧ True) ∧ (0 ≤ a1 ∧ a1 < ((2000 : Nat) : Int)))) rfl ⟨⟨⟨⟨trivial, trivial⟩, trivial⟩, trivial⟩, ⟨by omega, by omega⟩⟩ ?_
    refine gv_run 1 true hD (pc' := 27) (lv' := [(0, .inr (.inr (some 0))), (1, .inl a1)]) (st' := [.inl 4, .inl (I 134 (Int.toNat a1))]) (h' := gr_h I J) (C := (True ∧ True)) rfl ⟨trivial, trivial⟩ ?_
    refine gv_icmp_eq (t := 32) hD rfl rfl ⟨⟨by omega, by omega⟩, ⟨by omega, by omega⟩⟩ (fun c5 => ?_) (fun c5 => ?_)
    · have t6 := gr_GH_b x0 (x := a1) ⟨by omega, by omega⟩
      have t7 := gr_GH_4 x0 (x := a1) ⟨by omega, by omega⟩ (by omega)
      have f8 := (show (-2147483648) ≤ I 135 (Int.toNat a1) ∧ I 135 (Int.toNat a1) ≤ 2147483647 from (hI 135 (Int.toNat a1)).1)
      refine gv_run 6 true hD (pc' := 42) (lv' := [(0, .inr (.inr (some 0))), (1, .inl a1)]) (st' := [.inl (I 135 (Int.toNat a1)), .inr (.inr (some 134))]) (h' := gr_h I J) (C := ((((((True ∧ True) ∧ True) ∧ True) ∧ True) ∧ True) ∧ (0 ≤ a1 ∧ a1 < ((2000 : Nat) : Int)))) rfl ⟨⟨⟨⟨⟨⟨trivial, trivial⟩, trivial⟩, trivial⟩, trivial⟩, trivial⟩, ⟨by omega, by omega⟩⟩ ?_
      have f9 := (show (-2147483648) ≤ I 134 (Int.toNat ((I 135 (Int.toNat a1)))) ∧ I 134 (Int.toNat ((I 135 (Int.toNat a1)))) ≤ 2147483647 from (hI 134 (Int.toNat ((I 135 (Int.toNat a1))))).1)
      refine gv_run 1 true hD (pc' := 43) (lv' := [(0, .inr (.inr (some 0))), (1, .inl a1)]) (st' := [.inl (I 134 (Int.toNat ((I 135 (Int.toNat a1)))))]) (h' := gr_h I J) (C := (True ∧ (0 ≤ ((I 135 (Int.toNat a1))) ∧ ((I 135 (Int.toNat a1))) < ((2000 : Nat) : Int)))) rfl ⟨trivial, ⟨by omega, by omega⟩⟩ ?_
      refine gv_if_ne (t := 48) hD rfl rfl ⟨by omega, by omega⟩ (fun c10 => ?_) (fun c10 => ?_)
      · have f11 := (show (-2147483648) ≤ I 135 (Int.toNat a1) ∧ I 135 (Int.toNat a1) ≤ 2147483647 from (hI 135 (Int.toNat a1)).1)
        refine gv_run 5 true hD (pc' := 55) (lv' := [(0, .inr (.inr (some 0))), (1, .inl a1)]) (st' := [.inl (I 135 (Int.toNat a1)), .inr (.inr (some 0))]) (h' := gr_h I J) (C := (((((True ∧ True) ∧ True) ∧ True) ∧ True) ∧ (0 ≤ a1 ∧ a1 < ((2000 : Nat) : Int)))) rfl ⟨⟨⟨⟨⟨trivial, trivial⟩, trivial⟩, trivial⟩, trivial⟩, ⟨by omega, by omega⟩⟩ ?_
        obtain ⟨r12, h12, E12, P12⟩ := ihR I J hI ((I 135 (Int.toNat a1))) ⟨by omega, by omega⟩ x0 (by omega) (by omega) (by omega)
        obtain ⟨rfl, ⟨z12, rfl, q12⟩⟩ := P12
        refine gv_callV hD rfl (As := [.inl (I 135 (Int.toNat a1))]) (st := []) rfl (by decide) rfl rfl (gr_lV hws rfl) (Nat.le_of_ble_eq_true rfl) (gz_Ev_mono (d := (0 + nr)) (Nat.le_refl _) E12) ?_
        show gv_X _ _ (58, [(0, .inr (.inr (some 0))), (1, .inl a1)], [.inl z12], gr_sh ++ ext, gr_h I J)
        refine gv_run 2 true hD (pc' := 60) (lv' := [(2, .inl z12), (0, .inr (.inr (some 0))), (1, .inl a1)]) (st' := [.inl z12]) (h' := gr_h I J) (C := ((True ∧ True) ∧ True)) rfl ⟨⟨trivial, trivial⟩, trivial⟩ ?_
        refine gv_if_lt (t := 67) hD rfl rfl ⟨by omega, by omega⟩ (fun c13 => ?_) (fun c13 => ?_)
        · have f14 := (show (-2147483648) ≤ I 136 (Int.toNat a1) ∧ I 136 (Int.toNat a1) ≤ 2147483647 from (hI 136 (Int.toNat a1)).1)
          refine gv_run 5 true hD (pc' := 74) (lv' := [(2, .inl z12), (0, .inr (.inr (some 0))), (1, .inl a1)]) (st' := [.inl (I 136 (Int.toNat a1)), .inr (.inr (some 0))]) (h' := gr_h I J) (C := (((((True ∧ True) ∧ True) ∧ True) ∧ True) ∧ (0 ≤ a1 ∧ a1 < ((2000 : Nat) : Int)))) rfl ⟨⟨⟨⟨⟨trivial, trivial⟩, trivial⟩, trivial⟩, trivial⟩, ⟨by omega, by omega⟩⟩ ?_
          obtain ⟨r15, h15, E15, P15⟩ := ihR I J hI ((I 136 (Int.toNat a1))) ⟨by omega, by omega⟩ x0 (by omega) (by omega) (by omega)
          obtain ⟨rfl, ⟨z15, rfl, q15⟩⟩ := P15
          refine gv_callV hD rfl (As := [.inl (I 136 (Int.toNat a1))]) (st := []) rfl (by decide) rfl rfl (gr_lV hws rfl) (Nat.le_of_ble_eq_true rfl) (gz_Ev_mono (d := (0 + nr)) (Nat.le_refl _) E15) ?_
          show gv_X _ _ (77, [(2, .inl z12), (0, .inr (.inr (some 0))), (1, .inl a1)], [.inl z15], gr_sh ++ ext, gr_h I J)
          exact gv_iret hD rfl ⟨rfl, ⟨_, rfl, by omega⟩⟩
        · refine gv_run 2 true hD (pc' := 77) (lv' := [(2, .inl z12), (0, .inr (.inr (some 0))), (1, .inl a1)]) (st' := [.inl z12]) (h' := gr_h I J) (C := ((True ∧ True) ∧ True)) rfl ⟨⟨trivial, trivial⟩, trivial⟩ ?_
          exact gv_iret hD rfl ⟨rfl, ⟨_, rfl, by omega⟩⟩
      · refine gv_run 1 true hD (pc' := 47) (lv' := [(0, .inr (.inr (some 0))), (1, .inl a1)]) (st' := [.inl a1]) (h' := gr_h I J) (C := (True ∧ True)) rfl ⟨trivial, trivial⟩ ?_
        exact gv_iret hD rfl ⟨rfl, ⟨_, rfl, by omega⟩⟩
    · refine gv_run 1 true hD (pc' := 31) (lv' := [(0, .inr (.inr (some 0))), (1, .inl a1)]) (st' := [.inl (-1)]) (h' := gr_h I J) (C := (True ∧ True)) rfl ⟨trivial, trivial⟩ ?_
      exact gv_iret hD rfl ⟨rfl, ⟨_, rfl, by omega⟩⟩
  · have t16 := gr_GH_b x0 (x := a1) ⟨by omega, by omega⟩
    have t17 := gr_GH_0 x0 (x := a1) ⟨by omega, by omega⟩ (by omega)
    have f18 := (show (-2147483648) ≤ I 135 (Int.toNat a1) ∧ I 135 (Int.toNat a1) ≤ 2147483647 from (hI 135 (Int.toNat a1)).1)
    refine gv_run 5 true hD (pc' := 16) (lv' := [(0, .inr (.inr (some 0))), (1, .inl a1)]) (st' := [.inl (I 135 (Int.toNat a1)), .inr (.inr (some 0))]) (h' := gr_h I J) (C := (((((True ∧ True) ∧ True) ∧ True) ∧ True) ∧ (0 ≤ a1 ∧ a1 < ((2000 : Nat) : Int)))) rfl ⟨⟨⟨⟨⟨trivial, trivial⟩, trivial⟩, trivial⟩, trivial⟩, ⟨by omega, by omega⟩⟩ ?_
    obtain ⟨r19, h19, E19, P19⟩ := ihR I J hI ((I 135 (Int.toNat a1))) ⟨by omega, by omega⟩ x0 (by omega) (by omega) (by omega)
    obtain ⟨rfl, ⟨z19, rfl, q19⟩⟩ := P19
    refine gv_callV hD rfl (As := [.inl (I 135 (Int.toNat a1))]) (st := []) rfl (by decide) rfl rfl (gr_lV hws rfl) (Nat.le_of_ble_eq_true rfl) (gz_Ev_mono (d := (0 + nr)) (Nat.le_refl _) E19) ?_
    show gv_X _ _ (19, [(0, .inr (.inr (some 0))), (1, .inl a1)], [.inl z19], gr_sh ++ ext, gr_h I J)
    exact gv_iret hD rfl ⟨rfl, ⟨_, rfl, by omega⟩⟩
set_option maxHeartbeats 4000000 in
set_option maxRecDepth 100000 in
theorem r_stepped {ws0 : List Cond} {tb : String → gz_T} (hws : ∀ w ∈ gr_ws, w ∈ ws0) (htb : tb RX13 = gr_T) (ext : gz_Sh) (a9 : Int) (b9 : Int) (S9 : Int) : ∀ (nr : Nat) (I : gr_I) (J : gr_J) (hI : gr_Inv I) (a1 : Int) (a2 : Int) (ha1 : 0 ≤ a1 ∧ a1 ≤ 1299) (ha2 : 0 ≤ a2 ∧ a2 ≤ 1299) (x0 : gr_GH a9 b9 S9 I) (x1 : a9 ≤ a1) (x2 : a1 < b9) (x3 : gr_DJ a9 b9 I) (x4 : I 0 216 ≤ I 0 217) (x5 : I 0 217 - 300 ≤ I 0 216) (x6 : 300 ≤ I 0 217) (x7 : a9 ≤ a2) (x8 : a2 < b9) (x9 : I 134 (Int.toNat a2) = 4) (x10 : I 134 (Int.toNat (I 135 (Int.toNat a2))) = 0) (x11 : S9 ≤ 1000000) (_ : ((I 137 (Int.toNat a1))).toNat < nr), ∃ r h', gz_Ev ws0 tb (603 + nr) (yX13_stepped, cX13_stepped, 4, (some .int)) [.inr (.inr (some 0)), .inl a1, .inl a2] (gr_sh ++ ext) (gr_h I J) r (gr_sh ++ ext) h' 0 0 ∧ (∃ (I' : gr_I) (J' : gr_J), h' = gr_h I' J' ∧ gr_Inv I' ∧ gr_fr [216, 218] [134, 135, 136, 137] I I' ∧ gr_fj [216, 218] [134, 135, 136, 137] J J' ∧ (∃ z : Int, r = some (.inl z) ∧ 0 ≤ z ∧ z ≤ 1299 ∧ (I' 0 217 = I 0 217) ∧ (I 0 216 ≤ I' 0 216) ∧ (I' 0 216 ≤ I' 0 217) ∧ (I 0 218 ≤ I' 0 218) ∧ (gr_OK I I' z (I 137 (5000 + (Int.toNat a1))) (S9 + 600)))) := by
  intro nr
  induction nr with
  | zero => intro I J hI a1 a2 ha1 ha2 x0 x1 x2 x3 x4 x5 x6 x7 x8 x9 x10 x11 hnr; omega
  | succ nr ihR =>
  intro I J hI a1 a2 ha1 ha2 x0 x1 x2 x3 x4 x5 x6 x7 x8 x9 x10 x11 hnr
  have FI : gr_fr [216, 218] [134, 135, 136, 137] I I := fun _ _ _ => rfl
  have FJ : gr_fj [216, 218] [134, 135, 136, 137] J J := fun _ _ _ => rfl
  have hD : gv_D (gr_E ws0 tb (603 + nr) (yX13_stepped, cX13_stepped, 4, (some .int)) kX13_stepped) := gq_ok oX13_stepped
  refine gr_ev (d := (603 + nr)) (l := kX13_stepped) (Po := fun r h' => (∃ (I' : gr_I) (J' : gr_J), h' = gr_h I' J' ∧ gr_Inv I' ∧ gr_fr [216, 218] [134, 135, 136, 137] I I' ∧ gr_fj [216, 218] [134, 135, 136, 137] J J' ∧ (∃ z : Int, r = some (.inl z) ∧ 0 ≤ z ∧ z ≤ 1299 ∧ (I' 0 217 = I 0 217) ∧ (I 0 216 ≤ I' 0 216) ∧ (I' 0 216 ≤ I' 0 217) ∧ (I 0 218 ≤ I' 0 218) ∧ (gr_OK I I' z (I 137 (5000 + (Int.toNat a1))) (S9 + 600))))) htb rfl (Nat.le_of_ble_eq_true rfl) ?_
  have f1 := (show 0 ≤ I 0 216 ∧ I 0 216 ≤ 1300 from (hI 0 216).1)
  have f2 := (show 0 ≤ I 0 217 ∧ I 0 217 ≤ 1300 from (hI 0 217).1)
  have f3 := (show 0 ≤ I 0 218 ∧ I 0 218 ≤ 1 from (hI 0 218).1)
  have t4 := x0.1
  have f5 := (show 0 ≤ I 0 218 ∧ I 0 218 ≤ 1 from (hI 0 218).1)
  refine gv_run 2 true hD (pc' := 4) (lv' := [(0, .inr (.inr (some 0))), (1, .inl a1), (2, .inl a2)]) (st' := [.inl (I 0 218)]) (h' := gr_h I J) (C := ((True ∧ True) ∧ True)) rfl ⟨⟨trivial, trivial⟩, trivial⟩ ?_
  refine gv_if_eq (t := 9) hD rfl rfl ⟨by omega, by omega⟩ (fun c6 => ?_) (fun c6 => ?_)
  · refine gv_run 2 true hD (pc' := 11) (lv' := [(0, .inr (.inr (some 0))), (1, .inl a1), (2, .inl a2)]) (st' := [.inl a2, .inl a1]) (h' := gr_h I J) (C := ((True ∧ True) ∧ True)) rfl ⟨⟨trivial, trivial⟩, trivial⟩ ?_
    refine gv_icmp_ne (t := 37) hD rfl rfl ⟨⟨by omega, by omega⟩, ⟨by omega, by omega⟩⟩ (fun c7 => ?_) (fun c7 => ?_)
    · have f8 := (show (-2147483648) ≤ I 134 (Int.toNat a1) ∧ I 134 (Int.toNat a1) ≤ 2147483647 from (hI 134 (Int.toNat a1)).1)
      refine gv_run 4 true hD (pc' := 43) (lv' := [(0, .inr (.inr (some 0))), (1, .inl a1), (2, .inl a2)]) (st' := [.inl (I 134 (Int.toNat a1))]) (h' := gr_h I J) (C := ((((True ∧ True) ∧ True) ∧ True) ∧ (0 ≤ a1 ∧ a1 < ((2000 : Nat) : Int)))) rfl ⟨⟨⟨⟨trivial, trivial⟩, trivial⟩, trivial⟩, ⟨by omega, by omega⟩⟩ ?_
      by_cases c9 : ((I 134 (Int.toNat a1))) = 0
      · refine gv_look hD rfl ⟨by omega, by omega⟩ (by decide) 25 (by rw [c9]; decide) (t := 68) rfl ?_
        have t10 := gr_GH_b x0 (x := a1) ⟨by omega, by omega⟩
        have t11 := gr_GH_0 x0 (x := a1) ⟨by omega, by omega⟩ (by omega)
        have f12 := (show (-2147483648) ≤ I 135 (Int.toNat a1) ∧ I 135 (Int.toNat a1) ≤ 2147483647 from (hI 135 (Int.toNat a1)).1)
        refine gv_run 7 true hD (pc' := 77) (lv' := [(0, .inr (.inr (some 0))), (1, .inl a1), (2, .inl a2)]) (st' := [.inl (I 135 (Int.toNat a1)), .inr (.inr (some 0)), .inl 0, .inr (.inr (some 0))]) (h' := gr_h I J) (C := (((((((True ∧ True) ∧ True) ∧ True) ∧ True) ∧ True) ∧ True) ∧ (0 ≤ a1 ∧ a1 < ((2000 : Nat) : Int)))) rfl ⟨⟨⟨⟨⟨⟨⟨trivial, trivial⟩, trivial⟩, trivial⟩, trivial⟩, trivial⟩, trivial⟩, ⟨by omega, by omega⟩⟩ ?_
        refine gv_run 1 true hD (pc' := 78) (lv' := [(0, .inr (.inr (some 0))), (1, .inl a1), (2, .inl a2)]) (st' := [.inl a2, .inl (I 135 (Int.toNat a1)), .inr (.inr (some 0)), .inl 0, .inr (.inr (some 0))]) (h' := gr_h I J) (C := (True ∧ True)) rfl ⟨trivial, trivial⟩ ?_
        obtain ⟨r13, h13, E13, P13⟩ := ihR I J hI ((I 135 (Int.toNat a1))) a2 ⟨by omega, by omega⟩ ⟨by omega, by omega⟩ x0 (by omega) (by omega) x3 (by omega) (by omega) (by omega) (by omega) (by omega) (by omega) (by omega) (by omega) (by omega)
        obtain ⟨I14, J15, rfl, hI14, g13, k13, ⟨z13, rfl, q13⟩⟩ := P13
        have FI14 := gr_frt FI g13 rfl rfl
        have FJ15 := gr_fjt FJ k13 rfl rfl
        have t16 := g13 0 217 rfl
        have f17 := (show 0 ≤ I14 0 216 ∧ I14 0 216 ≤ 1300 from (hI14 0 216).1)
        have f18 := (show 0 ≤ I14 0 217 ∧ I14 0 217 ≤ 1300 from (hI14 0 217).1)
        have f19 := (show 0 ≤ I14 0 218 ∧ I14 0 218 ≤ 1 from (hI14 0 218).1)
        refine gv_callV hD rfl (As := [.inl (I 135 (Int.toNat a1)), .inl a2]) (st := [.inl 0, .inr (.inr (some 0))]) rfl (by decide) rfl rfl (gr_lV hws rfl) (Nat.le_of_ble_eq_true rfl) (gz_Ev_mono (d := (603 + nr)) (Nat.le_refl _) E13) ?_
        show gv_X _ _ (81, [(0, .inr (.inr (some 0))), (1, .inl a1), (2, .inl a2)], [.inl z13, .inl 0, .inr (.inr (some 0))], gr_sh ++ ext, gr_h I14 J15)
        refine gv_run 2 true hD (pc' := 83) (lv' := [(0, .inr (.inr (some 0))), (1, .inl a1), (2, .inl a2)]) (st' := [.inr (.inl (Int64.ofNat 0)), .inl 0, .inl z13, .inl 0, .inr (.inr (some 0))]) (h' := gr_h I14 J15) (C := ((True ∧ True) ∧ True)) rfl ⟨⟨trivial, trivial⟩, trivial⟩ ?_
        obtain ⟨r20, h20, E20, P20⟩ := r_heap_w (ws0 := ws0) (tb := tb) hws htb ext I14 J15 hI14 0 z13 0 (Int64.ofNat 0) ⟨by omega, by omega⟩ ⟨by omega, by omega⟩ ⟨by omega, by omega⟩ (by omega) (by omega) (by omega)
        obtain ⟨I21, J22, rfl, hI21, g20, k20, ⟨z20, rfl, q20⟩⟩ := P20
        have FI21 := gr_frt FI14 g20 rfl rfl
        have FJ22 := gr_fjt FJ15 k20 rfl rfl
        have t23 := g20 0 217 rfl
        have f24 := (show 0 ≤ I21 0 216 ∧ I21 0 216 ≤ 1300 from (hI21 0 216).1)
        have f25 := (show 0 ≤ I21 0 217 ∧ I21 0 217 ≤ 1300 from (hI21 0 217).1)
        have f26 := (show 0 ≤ I21 0 218 ∧ I21 0 218 ≤ 1 from (hI21 0 218).1)
        refine gv_callV hD rfl (As := [.inl 0, .inl z13, .inl 0, .inr (.inl (Int64.ofNat 0))]) (st := []) rfl (by decide) rfl rfl (gr_lV hws rfl) (Nat.le_of_ble_eq_true rfl) (gz_Ev_mono (d := 1) (by omega) E20) ?_
        show gv_X _ _ (86, [(0, .inr (.inr (some 0))), (1, .inl a1), (2, .inl a2)], [.inl z20], gr_sh ++ ext, gr_h I21 J22)
        refine gr_gst (a := 137) (k := (Int.toNat z20)) (z := ((I21 0 216) - (I 0 216))) hI21 FI21 rfl rfl ⟨⟨by show 0 ≤ _; omega, by show _ ≤ 2000000; omega⟩, trivial⟩ (fun I27 hI27 FI27 q28 p28 => ?_)
        have t29 := p28 0 216 (fun q => absurd q.1 (by decide))
        have t30 := p28 0 217 (fun q => absurd q.1 (by decide))
        have t31 := p28 0 218 (fun q => absurd q.1 (by decide))
        have f32 := (show 0 ≤ I27 0 216 ∧ I27 0 216 ≤ 1300 from (hI27 0 216).1)
        have f33 := (show 0 ≤ I27 0 217 ∧ I27 0 217 ≤ 1300 from (hI27 0 217).1)
        have f34 := (show 0 ≤ I27 0 218 ∧ I27 0 218 ≤ 1 from (hI27 0 218).1)
        refine gr_gst (a := 137) (k := (5000 + Int.toNat z20)) (z := (I 137 (5000 + (Int.toNat a1)))) hI27 FI27 rfl rfl ⟨⟨by show 0 ≤ _; omega, by show _ ≤ 2000000; omega⟩, trivial⟩ (fun I35 hI35 FI35 q36 p36 => ?_)
        have t37 := p36 0 216 (fun q => absurd q.1 (by decide))
        have t38 := p36 0 217 (fun q => absurd q.1 (by decide))
        have t39 := p36 0 218 (fun q => absurd q.1 (by decide))
        have f40 := (show 0 ≤ I35 0 216 ∧ I35 0 216 ≤ 1300 from (hI35 0 216).1)
        have f41 := (show 0 ≤ I35 0 217 ∧ I35 0 217 ≤ 1300 from (hI35 0 217).1)
        have f42 := (show 0 ≤ I35 0 218 ∧ I35 0 218 ≤ 1 from (hI35 0 218).1)
        exact gv_iret hD rfl ⟨I35, J22, rfl, hI35, FI35, FJ22, ⟨_, rfl, by omega, by omega, by omega, by omega, by omega, by omega, (gr_ok0 (c := (I 137 (5000 + (Int.toNat a1)))) (gr_OK_w q13.2.2.2.2.2.2 (by omega) (Int.le_refl _)) q20.2.2.2.2.2.2.1 (gr_GS_of p28 q28 p36 q36) (by omega) ⟨by omega, by omega⟩ (by omega) (by omega) (by omega))⟩⟩
      by_cases c43 : ((I 134 (Int.toNat a1))) = 4
      · refine gv_look hD rfl ⟨by omega, by omega⟩ (by decide) 44 (by rw [c43]; decide) (t := 87) rfl ?_
        have t44 := gr_GH_b x0 (x := a1) ⟨by omega, by omega⟩
        have t45 := gr_GH_4 x0 (x := a1) ⟨by omega, by omega⟩ (by omega)
        have t46 := gr_GH_4 x0 (x := a2) ⟨by omega, by omega⟩ (by omega)
        have f47 := (show (-2147483648) ≤ I 135 (Int.toNat a1) ∧ I 135 (Int.toNat a1) ≤ 2147483647 from (hI 135 (Int.toNat a1)).1)
        refine gv_run 5 true hD (pc' := 94) (lv' := [(0, .inr (.inr (some 0))), (1, .inl a1), (2, .inl a2)]) (st' := [.inl (I 135 (Int.toNat a1)), .inr (.inr (some 0))]) (h' := gr_h I J) (C := (((((True ∧ True) ∧ True) ∧ True) ∧ True) ∧ (0 ≤ a1 ∧ a1 < ((2000 : Nat) : Int)))) rfl ⟨⟨⟨⟨⟨trivial, trivial⟩, trivial⟩, trivial⟩, trivial⟩, ⟨by omega, by omega⟩⟩ ?_
        refine gv_run 1 true hD (pc' := 95) (lv' := [(0, .inr (.inr (some 0))), (1, .inl a1), (2, .inl a2)]) (st' := [.inl a2, .inl (I 135 (Int.toNat a1)), .inr (.inr (some 0))]) (h' := gr_h I J) (C := (True ∧ True)) rfl ⟨trivial, trivial⟩ ?_
        obtain ⟨r48, h48, E48, P48⟩ := ihR I J hI ((I 135 (Int.toNat a1))) a2 ⟨by omega, by omega⟩ ⟨by omega, by omega⟩ x0 (by omega) (by omega) x3 (by omega) (by omega) (by omega) (by omega) (by omega) (by omega) (by omega) (by omega) (by omega)
        obtain ⟨I49, J50, rfl, hI49, g48, k48, ⟨z48, rfl, q48⟩⟩ := P48
        have FI49 := gr_frt FI g48 rfl rfl
        have FJ50 := gr_fjt FJ k48 rfl rfl
        have t51 := g48 0 217 rfl
        have f52 := (show 0 ≤ I49 0 216 ∧ I49 0 216 ≤ 1300 from (hI49 0 216).1)
        have f53 := (show 0 ≤ I49 0 217 ∧ I49 0 217 ≤ 1300 from (hI49 0 217).1)
        have f54 := (show 0 ≤ I49 0 218 ∧ I49 0 218 ≤ 1 from (hI49 0 218).1)
        refine gv_callV hD rfl (As := [.inl (I 135 (Int.toNat a1)), .inl a2]) (st := []) rfl (by decide) rfl rfl (gr_lV hws rfl) (Nat.le_of_ble_eq_true rfl) (gz_Ev_mono (d := (603 + nr)) (Nat.le_refl _) E48) ?_
        show gv_X _ _ (98, [(0, .inr (.inr (some 0))), (1, .inl a1), (2, .inl a2)], [.inl z48], gr_sh ++ ext, gr_h I49 J50)
        refine gv_run 1 true hD (pc' := 99) (lv' := [(3, .inl z48), (0, .inr (.inr (some 0))), (1, .inl a1), (2, .inl a2)]) (st' := []) (h' := gr_h I49 J50) (C := (True ∧ True)) rfl ⟨trivial, trivial⟩ ?_
        have t55 := gr_HF_x (q48.2.2.2.2.2.2).1 x3 x0 (x := a1) ⟨by omega, by omega⟩
        have t56 := gr_GH_4 (gr_GH_fr x0 (q48.2.2.2.2.2.2).1 x3) (x := a1) ⟨by omega, by omega⟩ (by omega)
        have t57 := gr_HF_x (q48.2.2.2.2.2.2).1 x3 x0 (x := a2) ⟨by omega, by omega⟩
        have t58 := gr_HF_x (q48.2.2.2.2.2.2).1 x3 x0 (x := (I 135 (Int.toNat a2))) ⟨by omega, by omega⟩
        have t59 := (show I49 134 (Int.toNat (I49 135 (Int.toNat a2))) = I49 134 (Int.toNat (I 135 (Int.toNat a2))) from by rw [(gr_HF_x (q48.2.2.2.2.2.2).1 x3 x0 (x := a2) ⟨by omega, by omega⟩).1.2.1])
        refine gv_run 7 true hD (pc' := 108) (lv' := [(3, .inl z48), (0, .inr (.inr (some 0))), (1, .inl a1), (2, .inl a2)]) (st' := [.inl a1, .inr (.inr (some 136)), .inr (.inr (some 0)), .inl z48, .inl 4, .inr (.inr (some 0))]) (h' := gr_h I49 J50) (C := (((((((True ∧ True) ∧ True) ∧ True) ∧ True) ∧ True) ∧ True) ∧ True)) rfl ⟨⟨⟨⟨⟨⟨⟨trivial, trivial⟩, trivial⟩, trivial⟩, trivial⟩, trivial⟩, trivial⟩, trivial⟩ ?_
        have f60 := (show (-2147483648) ≤ I49 136 (Int.toNat a1) ∧ I49 136 (Int.toNat a1) ≤ 2147483647 from (hI49 136 (Int.toNat a1)).1)
        refine gv_run 1 true hD (pc' := 109) (lv' := [(3, .inl z48), (0, .inr (.inr (some 0))), (1, .inl a1), (2, .inl a2)]) (st' := [.inl (I49 136 (Int.toNat a1)), .inr (.inr (some 0)), .inl z48, .inl 4, .inr (.inr (some 0))]) (h' := gr_h I49 J50) (C := (True ∧ (0 ≤ a1 ∧ a1 < ((2000 : Nat) : Int)))) rfl ⟨trivial, ⟨by omega, by omega⟩⟩ ?_
        refine gv_run 1 true hD (pc' := 110) (lv' := [(3, .inl z48), (0, .inr (.inr (some 0))), (1, .inl a1), (2, .inl a2)]) (st' := [.inl a2, .inl (I49 136 (Int.toNat a1)), .inr (.inr (some 0)), .inl z48, .inl 4, .inr (.inr (some 0))]) (h' := gr_h I49 J50) (C := (True ∧ True)) rfl ⟨trivial, trivial⟩ ?_
        obtain ⟨r61, h61, E61, P61⟩ := ihR I49 J50 hI49 ((I49 136 (Int.toNat a1))) a2 ⟨by omega, by omega⟩ ⟨by omega, by omega⟩ (gr_GH_fr x0 (q48.2.2.2.2.2.2).1 x3) (by omega) (by omega) (show gr_DJ a9 b9 I49 from by unfold gr_DJ at x3 ⊢; omega) (by omega) (by omega) (by omega) (by omega) (by omega) (by omega) (by omega) (by omega) (by omega)
        obtain ⟨I62, J63, rfl, hI62, g61, k61, ⟨z61, rfl, q61⟩⟩ := P61
        have FI62 := gr_frt FI49 g61 rfl rfl
        have FJ63 := gr_fjt FJ50 k61 rfl rfl
        have t64 := g61 0 217 rfl
        have f65 := (show 0 ≤ I62 0 216 ∧ I62 0 216 ≤ 1300 from (hI62 0 216).1)
        have f66 := (show 0 ≤ I62 0 217 ∧ I62 0 217 ≤ 1300 from (hI62 0 217).1)
        have f67 := (show 0 ≤ I62 0 218 ∧ I62 0 218 ≤ 1 from (hI62 0 218).1)
        refine gv_callV hD rfl (As := [.inl (I49 136 (Int.toNat a1)), .inl a2]) (st := [.inl z48, .inl 4, .inr (.inr (some 0))]) rfl (by decide) rfl rfl (gr_lV hws rfl) (Nat.le_of_ble_eq_true rfl) (gz_Ev_mono (d := (603 + nr)) (Nat.le_refl _) E61) ?_
        show gv_X _ _ (113, [(3, .inl z48), (0, .inr (.inr (some 0))), (1, .inl a1), (2, .inl a2)], [.inl z61, .inl z48, .inl 4, .inr (.inr (some 0))], gr_sh ++ ext, gr_h I62 J63)
        refine gv_run 1 true hD (pc' := 114) (lv' := [(3, .inl z48), (0, .inr (.inr (some 0))), (1, .inl a1), (2, .inl a2)]) (st' := [.inr (.inl (Int64.ofNat 0)), .inl z61, .inl z48, .inl 4, .inr (.inr (some 0))]) (h' := gr_h I62 J63) (C := (True ∧ True)) rfl ⟨trivial, trivial⟩ ?_
        obtain ⟨r68, h68, E68, P68⟩ := r_heap_w (ws0 := ws0) (tb := tb) hws htb ext I62 J63 hI62 4 z48 z61 (Int64.ofNat 0) ⟨by omega, by omega⟩ ⟨by omega, by omega⟩ ⟨by omega, by omega⟩ (by omega) (by omega) (by omega)
        obtain ⟨I69, J70, rfl, hI69, g68, k68, ⟨z68, rfl, q68⟩⟩ := P68
        have FI69 := gr_frt FI62 g68 rfl rfl
        have FJ70 := gr_fjt FJ63 k68 rfl rfl
        have t71 := g68 0 217 rfl
        have f72 := (show 0 ≤ I69 0 216 ∧ I69 0 216 ≤ 1300 from (hI69 0 216).1)
        have f73 := (show 0 ≤ I69 0 217 ∧ I69 0 217 ≤ 1300 from (hI69 0 217).1)
        have f74 := (show 0 ≤ I69 0 218 ∧ I69 0 218 ≤ 1 from (hI69 0 218).1)
        refine gv_callV hD rfl (As := [.inl 4, .inl z48, .inl z61, .inr (.inl (Int64.ofNat 0))]) (st := []) rfl (by decide) rfl rfl (gr_lV hws rfl) (Nat.le_of_ble_eq_true rfl) (gz_Ev_mono (d := 1) (by omega) E68) ?_
        show gv_X _ _ (117, [(3, .inl z48), (0, .inr (.inr (some 0))), (1, .inl a1), (2, .inl a2)], [.inl z68], gr_sh ++ ext, gr_h I69 J70)
        refine gr_gst (a := 137) (k := (Int.toNat z68)) (z := ((I69 0 216) - (I 0 216))) hI69 FI69 rfl rfl ⟨⟨by show 0 ≤ _; omega, by show _ ≤ 2000000; omega⟩, trivial⟩ (fun I75 hI75 FI75 q76 p76 => ?_)
        have t77 := p76 0 216 (fun q => absurd q.1 (by decide))
        have t78 := p76 0 217 (fun q => absurd q.1 (by decide))
        have t79 := p76 0 218 (fun q => absurd q.1 (by decide))
        have f80 := (show 0 ≤ I75 0 216 ∧ I75 0 216 ≤ 1300 from (hI75 0 216).1)
        have f81 := (show 0 ≤ I75 0 217 ∧ I75 0 217 ≤ 1300 from (hI75 0 217).1)
        have f82 := (show 0 ≤ I75 0 218 ∧ I75 0 218 ≤ 1 from (hI75 0 218).1)
        refine gr_gst (a := 137) (k := (5000 + Int.toNat z68)) (z := (I 137 (5000 + (Int.toNat a1)))) hI75 FI75 rfl rfl ⟨⟨by show 0 ≤ _; omega, by show _ ≤ 2000000; omega⟩, trivial⟩ (fun I83 hI83 FI83 q84 p84 => ?_)
        have t85 := p84 0 216 (fun q => absurd q.1 (by decide))
        have t86 := p84 0 217 (fun q => absurd q.1 (by decide))
        have t87 := p84 0 218 (fun q => absurd q.1 (by decide))
        have f88 := (show 0 ≤ I83 0 216 ∧ I83 0 216 ≤ 1300 from (hI83 0 216).1)
        have f89 := (show 0 ≤ I83 0 217 ∧ I83 0 217 ≤ 1300 from (hI83 0 217).1)
        have f90 := (show 0 ≤ I83 0 218 ∧ I83 0 218 ≤ 1 from (hI83 0 218).1)
        exact gv_iret hD rfl ⟨I83, J70, rfl, hI83, FI83, FJ70, ⟨_, rfl, by omega, by omega, by omega, by omega, by omega, by omega, (gr_ok4 (c := (I 137 (5000 + (Int.toNat a1)))) (gr_OK_w q48.2.2.2.2.2.2 (by omega) (Int.le_refl _)) (gr_OK_w q61.2.2.2.2.2.2 (by omega) (Int.le_refl _)) q68.2.2.2.2.2.2.1 (gr_GS_of p76 q76 p84 q84) (by omega) ⟨by omega, by omega⟩ (by omega) (by omega) (by omega))⟩⟩
      refine gv_look hD rfl ⟨by omega, by omega⟩ (by decide) 75 (by show Op.lookupswitch.offset [(0, 25), (4, 44)] 75 ((I 134 (Int.toNat a1))) = _; rw [Op.lookupswitch.offset_cons, if_neg (fun q => c9 q.symm), Op.lookupswitch.offset_cons, if_neg (fun q => c43 q.symm)]; rfl) (t := 118) rfl ?_
      have t91 := gr_GH_b x0 (x := a1) ⟨by omega, by omega⟩
      have t92 := gr_GH_k x0 (x := a1) ⟨by omega, by omega⟩
      have t93 := (fun k : I 134 (Int.toNat a1) = 1 => gr_GH_1 x0 (x := a1) ⟨by omega, by omega⟩ k)
      have f94 := (show (-2147483648) ≤ I 134 (Int.toNat a1) ∧ I 134 (Int.toNat a1) ≤ 2147483647 from (hI 134 (Int.toNat a1)).1)
      refine gv_run 5 true hD (pc' := 125) (lv' := [(0, .inr (.inr (some 0))), (1, .inl a1), (2, .inl a2)]) (st' := [.inl (I 134 (Int.toNat a1)), .inr (.inr (some 0))]) (h' := gr_h I J) (C := (((((True ∧ True) ∧ True) ∧ True) ∧ True) ∧ (0 ≤ a1 ∧ a1 < ((2000 : Nat) : Int)))) rfl ⟨⟨⟨⟨⟨trivial, trivial⟩, trivial⟩, trivial⟩, trivial⟩, ⟨by omega, by omega⟩⟩ ?_
      have f95 := (show (-2147483648) ≤ I 135 (Int.toNat a1) ∧ I 135 (Int.toNat a1) ≤ 2147483647 from (hI 135 (Int.toNat a1)).1)
      refine gv_run 4 true hD (pc' := 131) (lv' := [(0, .inr (.inr (some 0))), (1, .inl a1), (2, .inl a2)]) (st' := [.inl (I 135 (Int.toNat a1)), .inl (I 134 (Int.toNat a1)), .inr (.inr (some 0))]) (h' := gr_h I J) (C := ((((True ∧ True) ∧ True) ∧ True) ∧ (0 ≤ a1 ∧ a1 < ((2000 : Nat) : Int)))) rfl ⟨⟨⟨⟨trivial, trivial⟩, trivial⟩, trivial⟩, ⟨by omega, by omega⟩⟩ ?_
      refine gv_run 5 true hD (pc' := 138) (lv' := [(0, .inr (.inr (some 0))), (1, .inl a1), (2, .inl a2)]) (st' := [.inr (.inl (J 137 (Int.toNat a1))), .inl 0, .inl (I 135 (Int.toNat a1)), .inl (I 134 (Int.toNat a1)), .inr (.inr (some 0))]) (h' := gr_h I J) (C := (((((True ∧ True) ∧ True) ∧ True) ∧ True) ∧ (0 ≤ a1 ∧ a1 < ((2000 : Nat) : Int)))) rfl ⟨⟨⟨⟨⟨trivial, trivial⟩, trivial⟩, trivial⟩, trivial⟩, ⟨by omega, by omega⟩⟩ ?_
      obtain ⟨r96, h96, E96, P96⟩ := r_heap_w (ws0 := ws0) (tb := tb) hws htb ext I J hI ((I 134 (Int.toNat a1))) ((I 135 (Int.toNat a1))) 0 ((J 137 (Int.toNat a1))) ⟨by omega, by omega⟩ ⟨by omega, by omega⟩ ⟨by omega, by omega⟩ (by omega) (by omega) (by omega)
      obtain ⟨I97, J98, rfl, hI97, g96, k96, ⟨z96, rfl, q96⟩⟩ := P96
      have FI97 := gr_frt FI g96 rfl rfl
      have FJ98 := gr_fjt FJ k96 rfl rfl
      have t99 := g96 0 217 rfl
      have f100 := (show 0 ≤ I97 0 216 ∧ I97 0 216 ≤ 1300 from (hI97 0 216).1)
      have f101 := (show 0 ≤ I97 0 217 ∧ I97 0 217 ≤ 1300 from (hI97 0 217).1)
      have f102 := (show 0 ≤ I97 0 218 ∧ I97 0 218 ≤ 1 from (hI97 0 218).1)
      refine gv_callV hD rfl (As := [.inl (I 134 (Int.toNat a1)), .inl (I 135 (Int.toNat a1)), .inl 0, .inr (.inl (J 137 (Int.toNat a1)))]) (st := []) rfl (by decide) rfl rfl (gr_lV hws rfl) (Nat.le_of_ble_eq_true rfl) (gz_Ev_mono (d := 1) (by omega) E96) ?_
      show gv_X _ _ (141, [(0, .inr (.inr (some 0))), (1, .inl a1), (2, .inl a2)], [.inl z96], gr_sh ++ ext, gr_h I97 J98)
      refine gr_gst (a := 137) (k := (Int.toNat z96)) (z := ((I97 0 216) - (I 0 216))) hI97 FI97 rfl rfl ⟨⟨by show 0 ≤ _; omega, by show _ ≤ 2000000; omega⟩, trivial⟩ (fun I103 hI103 FI103 q104 p104 => ?_)
      have t105 := p104 0 216 (fun q => absurd q.1 (by decide))
      have t106 := p104 0 217 (fun q => absurd q.1 (by decide))
      have t107 := p104 0 218 (fun q => absurd q.1 (by decide))
      have f108 := (show 0 ≤ I103 0 216 ∧ I103 0 216 ≤ 1300 from (hI103 0 216).1)
      have f109 := (show 0 ≤ I103 0 217 ∧ I103 0 217 ≤ 1300 from (hI103 0 217).1)
      have f110 := (show 0 ≤ I103 0 218 ∧ I103 0 218 ≤ 1 from (hI103 0 218).1)
      refine gr_gst (a := 137) (k := (5000 + Int.toNat z96)) (z := (I 137 (5000 + (Int.toNat a1)))) hI103 FI103 rfl rfl ⟨⟨by show 0 ≤ _; omega, by show _ ≤ 2000000; omega⟩, trivial⟩ (fun I111 hI111 FI111 q112 p112 => ?_)
      have t113 := p112 0 216 (fun q => absurd q.1 (by decide))
      have t114 := p112 0 217 (fun q => absurd q.1 (by decide))
      have t115 := p112 0 218 (fun q => absurd q.1 (by decide))
      have f116 := (show 0 ≤ I111 0 216 ∧ I111 0 216 ≤ 1300 from (hI111 0 216).1)
      have f117 := (show 0 ≤ I111 0 217 ∧ I111 0 217 ≤ 1300 from (hI111 0 217).1)
      have f118 := (show 0 ≤ I111 0 218 ∧ I111 0 218 ≤ 1 from (hI111 0 218).1)
      exact gv_iret hD rfl ⟨I111, J98, rfl, hI111, FI111, FJ98, ⟨_, rfl, by omega, by omega, by omega, by omega, by omega, by omega, (gr_ocl q96.2.2.2.2.2.2.1 (gr_GS_of p104 q104 p112 q112) (by omega) (by omega) ⟨by omega, by omega⟩ (by omega) (by omega) (by omega) (by omega))⟩⟩
    · have t119 := (show a1 = a2 from by omega)
      have t120 := gr_GH_b x0 (x := a1) ⟨by omega, by omega⟩
      have t121 := (show I 134 (Int.toNat a1) = 4 from by rw [show a1 = a2 from by omega]; exact x9)
      have t122 := (show I 134 (Int.toNat (I 135 (Int.toNat a1))) = 0 from by rw [show a1 = a2 from by omega]; exact x10)
      have t123 := gr_GH_4 x0 (x := a1) ⟨by omega, by omega⟩ (by rw [show a1 = a2 from by omega]; exact x9)
      have t124 := gr_GH_b x0 (x := I 135 (Int.toNat a1)) ⟨by have h9 := (gr_GH_4 x0 (x := a1) ⟨by omega, by omega⟩ (by omega)).1.1; omega, by have h9 := (gr_GH_4 x0 (x := a1) ⟨by omega, by omega⟩ (by omega)).1.1; omega⟩
      have t125 := gr_GH_0 x0 (x := I 135 (Int.toNat a1)) ⟨by have h9 := (gr_GH_4 x0 (x := a1) ⟨by omega, by omega⟩ (by omega)).1.1; omega, by have h9 := (gr_GH_4 x0 (x := a1) ⟨by omega, by omega⟩ (by omega)).1.1; omega⟩ (by rw [show a1 = a2 from by omega]; exact x10)
      have f126 := (show (-2147483648) ≤ I 135 (Int.toNat a1) ∧ I 135 (Int.toNat a1) ≤ 2147483647 from (hI 135 (Int.toNat a1)).1)
      refine gv_run 7 true hD (pc' := 25) (lv' := [(0, .inr (.inr (some 0))), (1, .inl a1), (2, .inl a2)]) (st' := [.inl (I 135 (Int.toNat a1)), .inr (.inr (some 135)), .inr (.inr (some 0))]) (h' := gr_h I J) (C := (((((((True ∧ True) ∧ True) ∧ True) ∧ True) ∧ True) ∧ True) ∧ (0 ≤ a1 ∧ a1 < ((2000 : Nat) : Int)))) rfl ⟨⟨⟨⟨⟨⟨⟨trivial, trivial⟩, trivial⟩, trivial⟩, trivial⟩, trivial⟩, trivial⟩, ⟨by omega, by omega⟩⟩ ?_
      have f127 := (show (-2147483648) ≤ I 135 (Int.toNat ((I 135 (Int.toNat a1)))) ∧ I 135 (Int.toNat ((I 135 (Int.toNat a1)))) ≤ 2147483647 from (hI 135 (Int.toNat ((I 135 (Int.toNat a1))))).1)
      refine gv_run 1 true hD (pc' := 26) (lv' := [(0, .inr (.inr (some 0))), (1, .inl a1), (2, .inl a2)]) (st' := [.inl (I 135 (Int.toNat ((I 135 (Int.toNat a1))))), .inr (.inr (some 0))]) (h' := gr_h I J) (C := (True ∧ (0 ≤ ((I 135 (Int.toNat a1))) ∧ ((I 135 (Int.toNat a1))) < ((2000 : Nat) : Int)))) rfl ⟨trivial, ⟨by omega, by omega⟩⟩ ?_
      have f128 := (show (-2147483648) ≤ I 136 (Int.toNat a1) ∧ I 136 (Int.toNat a1) ≤ 2147483647 from (hI 136 (Int.toNat a1)).1)
      refine gv_run 5 true hD (pc' := 33) (lv' := [(0, .inr (.inr (some 0))), (1, .inl a1), (2, .inl a2)]) (st' := [.inl (I 136 (Int.toNat a1)), .inl 0, .inl (I 135 (Int.toNat ((I 135 (Int.toNat a1))))), .inr (.inr (some 0))]) (h' := gr_h I J) (C := (((((True ∧ True) ∧ True) ∧ True) ∧ True) ∧ (0 ≤ a1 ∧ a1 < ((2000 : Nat) : Int)))) rfl ⟨⟨⟨⟨⟨trivial, trivial⟩, trivial⟩, trivial⟩, trivial⟩, ⟨by omega, by omega⟩⟩ ?_
      obtain ⟨r129, h129, E129, P129⟩ := r_put (ws0 := ws0) (tb := tb) hws htb ext a9 b9 S9 (I 137 (5000 + (Int.toNat a1))) 301 I J hI ((I 135 (Int.toNat ((I 135 (Int.toNat a1)))))) 0 ((I 136 (Int.toNat a1))) ⟨by omega, by omega⟩ ⟨by omega, by omega⟩ ⟨by omega, by omega⟩ x0 (by omega) (by omega) x3 (by omega) (by omega) (by omega) (by omega) (by omega) (by omega) (by omega) (by omega) (by omega) (by omega) (by omega) (by omega)
      obtain ⟨I130, J131, rfl, hI130, g129, k129, ⟨z129, rfl, q129⟩⟩ := P129
      have FI130 := gr_frt FI g129 rfl rfl
      have FJ131 := gr_fjt FJ k129 rfl rfl
      have t132 := g129 0 217 rfl
      have f133 := (show 0 ≤ I130 0 216 ∧ I130 0 216 ≤ 1300 from (hI130 0 216).1)
      have f134 := (show 0 ≤ I130 0 217 ∧ I130 0 217 ≤ 1300 from (hI130 0 217).1)
      have f135 := (show 0 ≤ I130 0 218 ∧ I130 0 218 ≤ 1 from (hI130 0 218).1)
      refine gv_callV hD rfl (As := [.inl (I 135 (Int.toNat ((I 135 (Int.toNat a1))))), .inl 0, .inl (I 136 (Int.toNat a1))]) (st := []) rfl (by decide) rfl rfl (gr_lV hws rfl) (Nat.le_of_ble_eq_true rfl) (gz_Ev_mono (d := 603) (by omega) E129) ?_
      show gv_X _ _ (36, [(0, .inr (.inr (some 0))), (1, .inl a1), (2, .inl a2)], [.inl z129], gr_sh ++ ext, gr_h I130 J131)
      exact gv_iret hD rfl ⟨I130, J131, rfl, hI130, FI130, FJ131, ⟨_, rfl, by omega, by omega, by omega, by omega, by omega, by omega, (gr_OK_w q129.2.2.2.2.2.2 (by omega) (Int.le_refl _))⟩⟩
  · refine gv_run 1 true hD (pc' := 8) (lv' := [(0, .inr (.inr (some 0))), (1, .inl a1), (2, .inl a2)]) (st' := [.inl 0]) (h' := gr_h I J) (C := (True ∧ True)) rfl ⟨trivial, trivial⟩ ?_
    exact gv_iret hD rfl ⟨I, J, rfl, hI, FI, FJ, ⟨_, rfl, by omega, by omega, by omega, by omega, by omega, by omega, (gr_OK_lg (by omega) (by omega))⟩⟩
