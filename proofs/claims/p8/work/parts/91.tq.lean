set_option maxHeartbeats 8000000 in
set_option maxRecDepth 100000 in
theorem r_raised {ws0 : List Cond} {tb : String → gz_T} (hws : ∀ w ∈ gr_ws, w ∈ ws0) (htb : tb RX13 = gr_T) (ext : gz_Sh) (a9 : Int) (b9 : Int) (S9 : Int) (c9 : Int) : ∀ (nr : Nat) (I : gr_I) (J : gr_J) (hI : gr_Inv I) (a1 : Int) (a2 : Int) (a3 : Int) (ha1 : 0 ≤ a1 ∧ a1 ≤ 1299) (ha2 : 0 ≤ a2 ∧ a2 ≤ 300) (ha3 : 0 ≤ a3 ∧ a3 ≤ 300) (x0 : gr_GH a9 b9 S9 I) (x1 : a9 ≤ a1) (x2 : a1 < b9) (x3 : gr_DJ a9 b9 I) (x4 : I 0 216 ≤ I 0 217) (x5 : I 0 217 - 300 ≤ I 0 216) (x6 : 300 ≤ I 0 217) (x7 : I 137 (5000 + (Int.toNat a1)) ≤ c9 + a3) (x8 : a3 + I 137 (Int.toNat a1) ≤ 300) (x9 : 0 ≤ c9) (x10 : c9 ≤ S9) (x11 : S9 ≤ 1000000) (_ : ((I 137 (Int.toNat a1))).toNat < nr), ∃ r h', gz_Ev ws0 tb (1 + nr) (yX13_raised, cX13_raised, 5, (some .int)) [.inr (.inr (some 0)), .inl a1, .inl a2, .inl a3] (gr_sh ++ ext) (gr_h I J) r (gr_sh ++ ext) h' 0 0 ∧ (∃ (I' : gr_I) (J' : gr_J), h' = gr_h I' J' ∧ gr_Inv I' ∧ gr_fr [216, 218] [134, 135, 136, 137] I I' ∧ gr_fj [216, 218] [134, 135, 136, 137] J J' ∧ (∃ z : Int, r = some (.inl z) ∧ 0 ≤ z ∧ z ≤ 1299 ∧ (I' 0 217 = I 0 217) ∧ (I 0 216 ≤ I' 0 216) ∧ (I' 0 216 ≤ I' 0 217) ∧ (I 0 218 ≤ I' 0 218) ∧ (gr_OK I I' z (c9 + a2 + a3) (S9 + 600)))) := by
  intro nr
  induction nr with
  | zero => intro I J hI a1 a2 a3 ha1 ha2 ha3 x0 x1 x2 x3 x4 x5 x6 x7 x8 x9 x10 x11 hnr; exact gz_m 0 (by omega)
  | succ nr ihR =>
  intro I J hI a1 a2 a3 ha1 ha2 ha3 x0 x1 x2 x3 x4 x5 x6 x7 x8 x9 x10 x11 hnr
  have FI : gr_fr [216, 218] [134, 135, 136, 137] I I := fun _ _ _ => rfl
  have FJ : gr_fj [216, 218] [134, 135, 136, 137] J J := fun _ _ _ => rfl
  have hD : gv_D (gr_E ws0 tb (1 + nr) (yX13_raised, cX13_raised, 5, (some .int)) kX13_raised) := gq_of oX13_raised
  refine gr_ev (d := (1 + nr)) (l := kX13_raised) (Po := fun r h' => (∃ (I' : gr_I) (J' : gr_J), h' = gr_h I' J' ∧ gr_Inv I' ∧ gr_fr [216, 218] [134, 135, 136, 137] I I' ∧ gr_fj [216, 218] [134, 135, 136, 137] J J' ∧ (∃ z : Int, r = some (.inl z) ∧ 0 ≤ z ∧ z ≤ 1299 ∧ (I' 0 217 = I 0 217) ∧ (I 0 216 ≤ I' 0 216) ∧ (I' 0 216 ≤ I' 0 217) ∧ (I 0 218 ≤ I' 0 218) ∧ (gr_OK I I' z (c9 + a2 + a3) (S9 + 600))))) htb rfl (Nat.le_of_ble_eq_true rfl) ?_
  have f1 := (gr_b_0_216 hI)
  have f2 := (gr_b_0_217 hI)
  have f3 := (gr_b_0_218 hI)
  have t4 := x0.1
  have f5 := (gr_b_0_218 hI)
  refine gv_run 2 true hD (pc' := 4) (lv' := [(0, .inr (.inr (some 0))), (1, .inl a1), (2, .inl a2), (3, .inl a3)]) (st' := [.inl (I 0 218)]) (h' := gr_h I J) (C := ((True ∧ True) ∧ True)) rfl ⟨⟨trivial, trivial⟩, trivial⟩ ?_
  refine gv_if_eq (t := 9) hD rfl rfl ⟨by exact gz_m 1 (by omega), by exact gz_m 2 (by omega)⟩ (fun c6 => ?_) (fun c6 => ?_)
  · have f7 := (gr_b_134 hI (Int.toNat a1))
    refine gv_run 4 true hD (pc' := 15) (lv' := [(0, .inr (.inr (some 0))), (1, .inl a1), (2, .inl a2), (3, .inl a3)]) (st' := [.inl (I 134 (Int.toNat a1))]) (h' := gr_h I J) (C := ((((True ∧ True) ∧ True) ∧ True) ∧ (0 ≤ a1 ∧ a1 < ((2000 : Nat) : Int)))) rfl ⟨⟨⟨⟨trivial, trivial⟩, trivial⟩, trivial⟩, ⟨by exact gz_m 3 (by omega), by exact gz_m 4 (by omega)⟩⟩ ?_
    by_cases c8 : ((I 134 (Int.toNat a1))) = 0
    · refine gv_tabAt hD 0 rfl ⟨by exact gz_m 5 (by omega), by exact gz_m 6 (by omega)⟩ c8 ⟨by decide, by decide⟩ rfl (t := 48) rfl ?_
      have t9 := gr_GH_b x0 (x := a1) ⟨by exact gz_m 7 (by omega), by exact gz_m 8 (by omega)⟩
      have t10 := gr_GH_0 x0 (x := a1) ⟨by exact gz_m 9 (by omega), by exact gz_m 10 (by omega)⟩ (by exact gz_m 11 (by omega))
      have f11 := (gr_b_135 hI (Int.toNat a1))
      refine gv_run 7 true hD (pc' := 57) (lv' := [(0, .inr (.inr (some 0))), (1, .inl a1), (2, .inl a2), (3, .inl a3)]) (st' := [.inl (I 135 (Int.toNat a1)), .inr (.inr (some 0)), .inl 0, .inr (.inr (some 0))]) (h' := gr_h I J) (C := (((((((True ∧ True) ∧ True) ∧ True) ∧ True) ∧ True) ∧ True) ∧ (0 ≤ a1 ∧ a1 < ((2000 : Nat) : Int)))) rfl ⟨⟨⟨⟨⟨⟨⟨trivial, trivial⟩, trivial⟩, trivial⟩, trivial⟩, trivial⟩, trivial⟩, ⟨by exact gz_m 12 (by omega), by exact gz_m 13 (by omega)⟩⟩ ?_
      refine gv_run 4 true hD (pc' := 61) (lv' := [(0, .inr (.inr (some 0))), (1, .inl a1), (2, .inl a2), (3, .inl a3)]) (st' := [.inl (a3 + 1), .inl a2, .inl (I 135 (Int.toNat a1)), .inr (.inr (some 0)), .inl 0, .inr (.inr (some 0))]) (h' := gr_h I J) (C := ((((True ∧ True) ∧ True) ∧ True) ∧ True)) rfl ⟨⟨⟨⟨trivial, trivial⟩, trivial⟩, trivial⟩, trivial⟩ ?_
      obtain ⟨r12, h12, E12, P12⟩ := ihR I J hI ((I 135 (Int.toNat a1))) a2 (a3 + 1) ⟨by exact gz_m 14 (by omega), by exact gz_m 15 (by omega)⟩ ⟨by exact gz_m 16 (by omega), by exact gz_m 17 (by omega)⟩ ⟨by exact gz_m 18 (by omega), by exact gz_m 19 (by omega)⟩ x0 (by exact gz_m 20 (by omega)) (by exact gz_m 21 (by omega)) x3 (by exact gz_m 22 (by omega)) (by exact gz_m 23 (by omega)) (by exact gz_m 24 (by omega)) (by exact gz_m 25 (by omega)) (by exact gz_m 26 (by omega)) (by exact gz_m 27 (by omega)) (by exact gz_m 28 (by omega)) (by exact gz_m 29 (by omega)) (by exact gz_m 30 (by omega))
      obtain ⟨I13, J14, rfl, hI13, g12, k12, ⟨z12, rfl, q12⟩⟩ := P12
      have FI13 := gr_frt FI g12 rfl rfl
      have FJ14 := gr_fjt FJ k12 rfl rfl
      have t15 := g12 0 217 rfl
      have f16 := (gr_b_0_216 hI13)
      have f17 := (gr_b_0_217 hI13)
      have f18 := (gr_b_0_218 hI13)
      refine gv_callV hD rfl (As := [.inl (I 135 (Int.toNat a1)), .inl a2, .inl (a3 + 1)]) (st := [.inl 0, .inr (.inr (some 0))]) rfl (by decide) rfl rfl (gr_lV hws rfl) (Nat.le_of_ble_eq_true rfl) (gz_Ev_mono (d := (1 + nr)) (Nat.le_refl _) E12) ?_
      show gv_X _ _ (64, [(0, .inr (.inr (some 0))), (1, .inl a1), (2, .inl a2), (3, .inl a3)], [.inl z12, .inl 0, .inr (.inr (some 0))], gr_sh ++ ext, gr_h I13 J14)
      refine gv_run 2 true hD (pc' := 66) (lv' := [(0, .inr (.inr (some 0))), (1, .inl a1), (2, .inl a2), (3, .inl a3)]) (st' := [.inr (.inl (Int64.ofNat 0)), .inl 0, .inl z12, .inl 0, .inr (.inr (some 0))]) (h' := gr_h I13 J14) (C := ((True ∧ True) ∧ True)) rfl ⟨⟨trivial, trivial⟩, trivial⟩ ?_
      obtain ⟨r19, h19, E19, P19⟩ := r_heap_w (ws0 := ws0) (tb := tb) hws htb ext I13 J14 hI13 0 z12 0 (Int64.ofNat 0) ⟨by exact gz_m 31 (by omega), by exact gz_m 32 (by omega)⟩ ⟨by exact gz_m 33 (by omega), by exact gz_m 34 (by omega)⟩ ⟨by exact gz_m 35 (by omega), by exact gz_m 36 (by omega)⟩ (by exact gz_m 37 (by omega)) (by exact gz_m 38 (by omega)) (by exact gz_m 39 (by omega))
      obtain ⟨I20, J21, rfl, hI20, g19, k19, ⟨z19, rfl, q19⟩⟩ := P19
      have FI20 := gr_frt FI13 g19 rfl rfl
      have FJ21 := gr_fjt FJ14 k19 rfl rfl
      have t22 := g19 0 217 rfl
      have f23 := (gr_b_0_216 hI20)
      have f24 := (gr_b_0_217 hI20)
      have f25 := (gr_b_0_218 hI20)
      refine gv_callV hD rfl (As := [.inl 0, .inl z12, .inl 0, .inr (.inl (Int64.ofNat 0))]) (st := []) rfl (by decide) rfl rfl (gr_lV hws rfl) (Nat.le_of_ble_eq_true rfl) (gz_Ev_mono (d := 1) (by exact gz_m 40 (by omega)) E19) ?_
      show gv_X _ _ (69, [(0, .inr (.inr (some 0))), (1, .inl a1), (2, .inl a2), (3, .inl a3)], [.inl z19], gr_sh ++ ext, gr_h I20 J21)
      refine gr_gst (a := 137) (k := (Int.toNat z19)) (z := ((I20 0 216) - (I 0 216))) hI20 FI20 rfl rfl ⟨⟨by show 0 ≤ _; exact gz_m 41 (by omega), by show _ ≤ 2000000; exact gz_m 42 (by omega)⟩, trivial⟩ (fun I26 hI26 FI26 q27 p27 => ?_)
      have t28 := p27 0 216 (fun q => absurd q.1 (by decide))
      have t29 := p27 0 217 (fun q => absurd q.1 (by decide))
      have t30 := p27 0 218 (fun q => absurd q.1 (by decide))
      have f31 := (gr_b_0_216 hI26)
      have f32 := (gr_b_0_217 hI26)
      have f33 := (gr_b_0_218 hI26)
      refine gr_gst (a := 137) (k := (5000 + Int.toNat z19)) (z := (c9 + a2 + a3)) hI26 FI26 rfl rfl ⟨⟨by show 0 ≤ _; exact gz_m 43 (by omega), by show _ ≤ 2000000; exact gz_m 44 (by omega)⟩, trivial⟩ (fun I34 hI34 FI34 q35 p35 => ?_)
      have t36 := p35 0 216 (fun q => absurd q.1 (by decide))
      have t37 := p35 0 217 (fun q => absurd q.1 (by decide))
      have t38 := p35 0 218 (fun q => absurd q.1 (by decide))
      have f39 := (gr_b_0_216 hI34)
      have f40 := (gr_b_0_217 hI34)
      have f41 := (gr_b_0_218 hI34)
      exact gv_iret hD rfl ⟨I34, J21, rfl, hI34, FI34, FJ21, ⟨_, rfl, by exact gz_m 45 (by omega), by exact gz_m 46 (by omega), by exact gz_m 47 (by omega), by exact gz_m 48 (by omega), by exact gz_m 49 (by omega), by exact gz_m 50 (by omega), (gr_ok0 (c := (c9 + a2 + a3)) (gr_OK_w q12.2.2.2.2.2.2 (by exact gz_m 51 (by omega)) (Int.le_refl _)) q19.2.2.2.2.2.2.1 (gr_GS_of p27 q27 p35 q35) (by exact gz_m 52 (by omega)) ⟨by exact gz_m 53 (by omega), by exact gz_m 54 (by omega)⟩ (by exact gz_m 55 (by omega)) (by exact gz_m 56 (by omega)) (by exact gz_m 57 (by omega)))⟩⟩
    by_cases c42 : ((I 134 (Int.toNat a1))) = 1
    · refine gv_tabAt hD 1 rfl ⟨by exact gz_m 58 (by omega), by exact gz_m 59 (by omega)⟩ c42 ⟨by decide, by decide⟩ rfl (t := 105) rfl ?_
      have t43 := gr_GH_b x0 (x := a1) ⟨by exact gz_m 60 (by omega), by exact gz_m 61 (by omega)⟩
      have t44 := gr_GH_1 x0 (x := a1) ⟨by exact gz_m 62 (by omega), by exact gz_m 63 (by omega)⟩ (by exact gz_m 64 (by omega))
      have f45 := (gr_b_135 hI (Int.toNat a1))
      refine gv_run 6 true hD (pc' := 113) (lv' := [(0, .inr (.inr (some 0))), (1, .inl a1), (2, .inl a2), (3, .inl a3)]) (st' := [.inl (I 135 (Int.toNat a1)), .inl 1, .inr (.inr (some 0))]) (h' := gr_h I J) (C := ((((((True ∧ True) ∧ True) ∧ True) ∧ True) ∧ True) ∧ (0 ≤ a1 ∧ a1 < ((2000 : Nat) : Int)))) rfl ⟨⟨⟨⟨⟨⟨trivial, trivial⟩, trivial⟩, trivial⟩, trivial⟩, trivial⟩, ⟨by exact gz_m 65 (by omega), by exact gz_m 66 (by omega)⟩⟩ ?_
      refine gv_run 1 true hD (pc' := 114) (lv' := [(0, .inr (.inr (some 0))), (1, .inl a1), (2, .inl a2), (3, .inl a3)]) (st' := [.inl a3, .inl (I 135 (Int.toNat a1)), .inl 1, .inr (.inr (some 0))]) (h' := gr_h I J) (C := (True ∧ True)) rfl ⟨trivial, trivial⟩ ?_
      refine gv_icmp_lt (t := 128) hD rfl rfl ⟨⟨by exact gz_m 67 (by omega), by exact gz_m 68 (by omega)⟩, ⟨by exact gz_m 69 (by omega), by exact gz_m 70 (by omega)⟩⟩ (fun c46 => ?_) (fun c46 => ?_)
      · have f47 := (gr_b_135 hI (Int.toNat a1))
        refine gv_run 4 true hD (pc' := 134) (lv' := [(0, .inr (.inr (some 0))), (1, .inl a1), (2, .inl a2), (3, .inl a3)]) (st' := [.inl (I 135 (Int.toNat a1)), .inl 1, .inr (.inr (some 0))]) (h' := gr_h I J) (C := ((((True ∧ True) ∧ True) ∧ True) ∧ (0 ≤ a1 ∧ a1 < ((2000 : Nat) : Int)))) rfl ⟨⟨⟨⟨trivial, trivial⟩, trivial⟩, trivial⟩, ⟨by exact gz_m 71 (by omega), by exact gz_m 72 (by omega)⟩⟩ ?_
        refine gv_run 2 true hD (pc' := 136) (lv' := [(0, .inr (.inr (some 0))), (1, .inl a1), (2, .inl a2), (3, .inl a3)]) (st' := [.inr (.inl (Int64.ofNat 0)), .inl 0, .inl (I 135 (Int.toNat a1)), .inl 1, .inr (.inr (some 0))]) (h' := gr_h I J) (C := ((True ∧ True) ∧ True)) rfl ⟨⟨trivial, trivial⟩, trivial⟩ ?_
        obtain ⟨r48, h48, E48, P48⟩ := r_heap_w (ws0 := ws0) (tb := tb) hws htb ext I J hI 1 ((I 135 (Int.toNat a1))) 0 (Int64.ofNat 0) ⟨by exact gz_m 73 (by omega), by exact gz_m 74 (by omega)⟩ ⟨by exact gz_m 75 (by omega), by exact gz_m 76 (by omega)⟩ ⟨by exact gz_m 77 (by omega), by exact gz_m 78 (by omega)⟩ (by exact gz_m 79 (by omega)) (by exact gz_m 80 (by omega)) (by exact gz_m 81 (by omega))
        obtain ⟨I49, J50, rfl, hI49, g48, k48, ⟨z48, rfl, q48⟩⟩ := P48
        have FI49 := gr_frt FI g48 rfl rfl
        have FJ50 := gr_fjt FJ k48 rfl rfl
        have t51 := g48 0 217 rfl
        have f52 := (gr_b_0_216 hI49)
        have f53 := (gr_b_0_217 hI49)
        have f54 := (gr_b_0_218 hI49)
        refine gv_callV hD rfl (As := [.inl 1, .inl (I 135 (Int.toNat a1)), .inl 0, .inr (.inl (Int64.ofNat 0))]) (st := []) rfl (by decide) rfl rfl (gr_lV hws rfl) (Nat.le_of_ble_eq_true rfl) (gz_Ev_mono (d := 1) (by exact gz_m 82 (by omega)) E48) ?_
        show gv_X _ _ (139, [(0, .inr (.inr (some 0))), (1, .inl a1), (2, .inl a2), (3, .inl a3)], [.inl z48], gr_sh ++ ext, gr_h I49 J50)
        refine gr_gst (a := 137) (k := (Int.toNat z48)) (z := ((I49 0 216) - (I 0 216))) hI49 FI49 rfl rfl ⟨⟨by show 0 ≤ _; exact gz_m 83 (by omega), by show _ ≤ 2000000; exact gz_m 84 (by omega)⟩, trivial⟩ (fun I55 hI55 FI55 q56 p56 => ?_)
        have t57 := p56 0 216 (fun q => absurd q.1 (by decide))
        have t58 := p56 0 217 (fun q => absurd q.1 (by decide))
        have t59 := p56 0 218 (fun q => absurd q.1 (by decide))
        have f60 := (gr_b_0_216 hI55)
        have f61 := (gr_b_0_217 hI55)
        have f62 := (gr_b_0_218 hI55)
        refine gr_gst (a := 137) (k := (5000 + Int.toNat z48)) (z := (c9 + a2 + a3)) hI55 FI55 rfl rfl ⟨⟨by show 0 ≤ _; exact gz_m 85 (by omega), by show _ ≤ 2000000; exact gz_m 86 (by omega)⟩, trivial⟩ (fun I63 hI63 FI63 q64 p64 => ?_)
        have t65 := p64 0 216 (fun q => absurd q.1 (by decide))
        have t66 := p64 0 217 (fun q => absurd q.1 (by decide))
        have t67 := p64 0 218 (fun q => absurd q.1 (by decide))
        have f68 := (gr_b_0_216 hI63)
        have f69 := (gr_b_0_217 hI63)
        have f70 := (gr_b_0_218 hI63)
        exact gv_iret hD rfl ⟨I63, J50, rfl, hI63, FI63, FJ50, ⟨_, rfl, by exact gz_m 87 (by omega), by exact gz_m 88 (by omega), by exact gz_m 89 (by omega), by exact gz_m 90 (by omega), by exact gz_m 91 (by omega), by exact gz_m 92 (by omega), (gr_ocl q48.2.2.2.2.2.2.1 (gr_GS_of p56 q56 p64 q64) (by exact gz_m 93 (by omega)) (by exact gz_m 94 (by omega)) ⟨by exact gz_m 95 (by omega), by exact gz_m 96 (by omega)⟩ (by exact gz_m 97 (by omega)) (by exact gz_m 98 (by omega)) (by exact gz_m 99 (by omega)) (by exact gz_m 100 (by omega)))⟩⟩
      · have f71 := (gr_b_135 hI (Int.toNat a1))
        refine gv_run 4 true hD (pc' := 123) (lv' := [(0, .inr (.inr (some 0))), (1, .inl a1), (2, .inl a2), (3, .inl a3)]) (st' := [.inl (I 135 (Int.toNat a1)), .inl 1, .inr (.inr (some 0))]) (h' := gr_h I J) (C := ((((True ∧ True) ∧ True) ∧ True) ∧ (0 ≤ a1 ∧ a1 < ((2000 : Nat) : Int)))) rfl ⟨⟨⟨⟨trivial, trivial⟩, trivial⟩, trivial⟩, ⟨by exact gz_m 101 (by omega), by exact gz_m 102 (by omega)⟩⟩ ?_
        refine gv_run 5 true hD (pc' := 136) (lv' := [(0, .inr (.inr (some 0))), (1, .inl a1), (2, .inl a2), (3, .inl a3)]) (st' := [.inr (.inl (Int64.ofNat 0)), .inl 0, .inl ((I 135 (Int.toNat a1)) + a2), .inl 1, .inr (.inr (some 0))]) (h' := gr_h I J) (C := (((((True ∧ True) ∧ True) ∧ True) ∧ True) ∧ True)) rfl ⟨⟨⟨⟨⟨trivial, trivial⟩, trivial⟩, trivial⟩, trivial⟩, trivial⟩ ?_
        obtain ⟨r72, h72, E72, P72⟩ := r_heap_w (ws0 := ws0) (tb := tb) hws htb ext I J hI 1 (((I 135 (Int.toNat a1)) + a2)) 0 (Int64.ofNat 0) ⟨by exact gz_m 103 (by omega), by exact gz_m 104 (by omega)⟩ ⟨by exact gz_m 105 (by omega), by exact gz_m 106 (by omega)⟩ ⟨by exact gz_m 107 (by omega), by exact gz_m 108 (by omega)⟩ (by exact gz_m 109 (by omega)) (by exact gz_m 110 (by omega)) (by exact gz_m 111 (by omega))
        obtain ⟨I73, J74, rfl, hI73, g72, k72, ⟨z72, rfl, q72⟩⟩ := P72
        have FI73 := gr_frt FI g72 rfl rfl
        have FJ74 := gr_fjt FJ k72 rfl rfl
        have t75 := g72 0 217 rfl
        have f76 := (gr_b_0_216 hI73)
        have f77 := (gr_b_0_217 hI73)
        have f78 := (gr_b_0_218 hI73)
        refine gv_callV hD rfl (As := [.inl 1, .inl ((I 135 (Int.toNat a1)) + a2), .inl 0, .inr (.inl (Int64.ofNat 0))]) (st := []) rfl (by decide) rfl rfl (gr_lV hws rfl) (Nat.le_of_ble_eq_true rfl) (gz_Ev_mono (d := 1) (by exact gz_m 112 (by omega)) E72) ?_
        show gv_X _ _ (139, [(0, .inr (.inr (some 0))), (1, .inl a1), (2, .inl a2), (3, .inl a3)], [.inl z72], gr_sh ++ ext, gr_h I73 J74)
        refine gr_gst (a := 137) (k := (Int.toNat z72)) (z := ((I73 0 216) - (I 0 216))) hI73 FI73 rfl rfl ⟨⟨by show 0 ≤ _; exact gz_m 113 (by omega), by show _ ≤ 2000000; exact gz_m 114 (by omega)⟩, trivial⟩ (fun I79 hI79 FI79 q80 p80 => ?_)
        have t81 := p80 0 216 (fun q => absurd q.1 (by decide))
        have t82 := p80 0 217 (fun q => absurd q.1 (by decide))
        have t83 := p80 0 218 (fun q => absurd q.1 (by decide))
        have f84 := (gr_b_0_216 hI79)
        have f85 := (gr_b_0_217 hI79)
        have f86 := (gr_b_0_218 hI79)
        refine gr_gst (a := 137) (k := (5000 + Int.toNat z72)) (z := (c9 + a2 + a3)) hI79 FI79 rfl rfl ⟨⟨by show 0 ≤ _; exact gz_m 115 (by omega), by show _ ≤ 2000000; exact gz_m 116 (by omega)⟩, trivial⟩ (fun I87 hI87 FI87 q88 p88 => ?_)
        have t89 := p88 0 216 (fun q => absurd q.1 (by decide))
        have t90 := p88 0 217 (fun q => absurd q.1 (by decide))
        have t91 := p88 0 218 (fun q => absurd q.1 (by decide))
        have f92 := (gr_b_0_216 hI87)
        have f93 := (gr_b_0_217 hI87)
        have f94 := (gr_b_0_218 hI87)
        exact gv_iret hD rfl ⟨I87, J74, rfl, hI87, FI87, FJ74, ⟨_, rfl, by exact gz_m 117 (by omega), by exact gz_m 118 (by omega), by exact gz_m 119 (by omega), by exact gz_m 120 (by omega), by exact gz_m 121 (by omega), by exact gz_m 122 (by omega), (gr_ocl q72.2.2.2.2.2.2.1 (gr_GS_of p80 q80 p88 q88) (by exact gz_m 123 (by omega)) (by exact gz_m 124 (by omega)) ⟨by exact gz_m 125 (by omega), by exact gz_m 126 (by omega)⟩ (by exact gz_m 127 (by omega)) (by exact gz_m 128 (by omega)) (by exact gz_m 129 (by omega)) (by exact gz_m 130 (by omega)))⟩⟩
    by_cases c95 : ((I 134 (Int.toNat a1))) = 2
    · refine gv_tabAt hD 2 rfl ⟨by exact gz_m 131 (by omega), by exact gz_m 132 (by omega)⟩ c95 ⟨by decide, by decide⟩ rfl (t := 140) rfl ?_
      have t96 := gr_GH_b x0 (x := a1) ⟨by exact gz_m 133 (by omega), by exact gz_m 134 (by omega)⟩
      have t97 := gr_GH_k x0 (x := a1) ⟨by exact gz_m 135 (by omega), by exact gz_m 136 (by omega)⟩
      refine gv_run 7 true hD (pc' := 149) (lv' := [(0, .inr (.inr (some 0))), (1, .inl a1), (2, .inl a2), (3, .inl a3)]) (st' := [.inl a1, .inr (.inr (some 137)), .inl 0, .inl 0, .inl 2, .inr (.inr (some 0))]) (h' := gr_h I J) (C := (((((((True ∧ True) ∧ True) ∧ True) ∧ True) ∧ True) ∧ True) ∧ True)) rfl ⟨⟨⟨⟨⟨⟨⟨trivial, trivial⟩, trivial⟩, trivial⟩, trivial⟩, trivial⟩, trivial⟩, trivial⟩ ?_
      refine gv_run 1 true hD (pc' := 150) (lv' := [(0, .inr (.inr (some 0))), (1, .inl a1), (2, .inl a2), (3, .inl a3)]) (st' := [.inr (.inl (J 137 (Int.toNat a1))), .inl 0, .inl 0, .inl 2, .inr (.inr (some 0))]) (h' := gr_h I J) (C := (True ∧ (0 ≤ a1 ∧ a1 < ((2000 : Nat) : Int)))) rfl ⟨trivial, ⟨by exact gz_m 137 (by omega), by exact gz_m 138 (by omega)⟩⟩ ?_
      obtain ⟨r98, h98, E98, P98⟩ := r_heap_w (ws0 := ws0) (tb := tb) hws htb ext I J hI 2 0 0 ((J 137 (Int.toNat a1))) ⟨by exact gz_m 139 (by omega), by exact gz_m 140 (by omega)⟩ ⟨by exact gz_m 141 (by omega), by exact gz_m 142 (by omega)⟩ ⟨by exact gz_m 143 (by omega), by exact gz_m 144 (by omega)⟩ (by exact gz_m 145 (by omega)) (by exact gz_m 146 (by omega)) (by exact gz_m 147 (by omega))
      obtain ⟨I99, J100, rfl, hI99, g98, k98, ⟨z98, rfl, q98⟩⟩ := P98
      have FI99 := gr_frt FI g98 rfl rfl
      have FJ100 := gr_fjt FJ k98 rfl rfl
      have t101 := g98 0 217 rfl
      have f102 := (gr_b_0_216 hI99)
      have f103 := (gr_b_0_217 hI99)
      have f104 := (gr_b_0_218 hI99)
      refine gv_callV hD rfl (As := [.inl 2, .inl 0, .inl 0, .inr (.inl (J 137 (Int.toNat a1)))]) (st := []) rfl (by decide) rfl rfl (gr_lV hws rfl) (Nat.le_of_ble_eq_true rfl) (gz_Ev_mono (d := 1) (by exact gz_m 148 (by omega)) E98) ?_
      show gv_X _ _ (153, [(0, .inr (.inr (some 0))), (1, .inl a1), (2, .inl a2), (3, .inl a3)], [.inl z98], gr_sh ++ ext, gr_h I99 J100)
      refine gr_gst (a := 137) (k := (Int.toNat z98)) (z := ((I99 0 216) - (I 0 216))) hI99 FI99 rfl rfl ⟨⟨by show 0 ≤ _; exact gz_m 149 (by omega), by show _ ≤ 2000000; exact gz_m 150 (by omega)⟩, trivial⟩ (fun I105 hI105 FI105 q106 p106 => ?_)
      have t107 := p106 0 216 (fun q => absurd q.1 (by decide))
      have t108 := p106 0 217 (fun q => absurd q.1 (by decide))
      have t109 := p106 0 218 (fun q => absurd q.1 (by decide))
      have f110 := (gr_b_0_216 hI105)
      have f111 := (gr_b_0_217 hI105)
      have f112 := (gr_b_0_218 hI105)
      refine gr_gst (a := 137) (k := (5000 + Int.toNat z98)) (z := (c9 + a2 + a3)) hI105 FI105 rfl rfl ⟨⟨by show 0 ≤ _; exact gz_m 151 (by omega), by show _ ≤ 2000000; exact gz_m 152 (by omega)⟩, trivial⟩ (fun I113 hI113 FI113 q114 p114 => ?_)
      have t115 := p114 0 216 (fun q => absurd q.1 (by decide))
      have t116 := p114 0 217 (fun q => absurd q.1 (by decide))
      have t117 := p114 0 218 (fun q => absurd q.1 (by decide))
      have f118 := (gr_b_0_216 hI113)
      have f119 := (gr_b_0_217 hI113)
      have f120 := (gr_b_0_218 hI113)
      exact gv_iret hD rfl ⟨I113, J100, rfl, hI113, FI113, FJ100, ⟨_, rfl, by exact gz_m 153 (by omega), by exact gz_m 154 (by omega), by exact gz_m 155 (by omega), by exact gz_m 156 (by omega), by exact gz_m 157 (by omega), by exact gz_m 158 (by omega), (gr_ocl q98.2.2.2.2.2.2.1 (gr_GS_of p106 q106 p114 q114) (by exact gz_m 159 (by omega)) (by exact gz_m 160 (by omega)) ⟨by exact gz_m 161 (by omega), by exact gz_m 162 (by omega)⟩ (by exact gz_m 163 (by omega)) (by exact gz_m 164 (by omega)) (by exact gz_m 165 (by omega)) (by exact gz_m 166 (by omega)))⟩⟩
    by_cases c121 : ((I 134 (Int.toNat a1))) = 3
    · refine gv_tabAt hD 3 rfl ⟨by exact gz_m 167 (by omega), by exact gz_m 168 (by omega)⟩ c121 ⟨by decide, by decide⟩ rfl (t := 140) rfl ?_
      have t122 := gr_GH_b x0 (x := a1) ⟨by exact gz_m 169 (by omega), by exact gz_m 170 (by omega)⟩
      have t123 := gr_GH_k x0 (x := a1) ⟨by exact gz_m 171 (by omega), by exact gz_m 172 (by omega)⟩
      refine gv_run 7 true hD (pc' := 149) (lv' := [(0, .inr (.inr (some 0))), (1, .inl a1), (2, .inl a2), (3, .inl a3)]) (st' := [.inl a1, .inr (.inr (some 137)), .inl 0, .inl 0, .inl 2, .inr (.inr (some 0))]) (h' := gr_h I J) (C := (((((((True ∧ True) ∧ True) ∧ True) ∧ True) ∧ True) ∧ True) ∧ True)) rfl ⟨⟨⟨⟨⟨⟨⟨trivial, trivial⟩, trivial⟩, trivial⟩, trivial⟩, trivial⟩, trivial⟩, trivial⟩ ?_
      refine gv_run 1 true hD (pc' := 150) (lv' := [(0, .inr (.inr (some 0))), (1, .inl a1), (2, .inl a2), (3, .inl a3)]) (st' := [.inr (.inl (J 137 (Int.toNat a1))), .inl 0, .inl 0, .inl 2, .inr (.inr (some 0))]) (h' := gr_h I J) (C := (True ∧ (0 ≤ a1 ∧ a1 < ((2000 : Nat) : Int)))) rfl ⟨trivial, ⟨by exact gz_m 173 (by omega), by exact gz_m 174 (by omega)⟩⟩ ?_
      obtain ⟨r124, h124, E124, P124⟩ := r_heap_w (ws0 := ws0) (tb := tb) hws htb ext I J hI 2 0 0 ((J 137 (Int.toNat a1))) ⟨by exact gz_m 175 (by omega), by exact gz_m 176 (by omega)⟩ ⟨by exact gz_m 177 (by omega), by exact gz_m 178 (by omega)⟩ ⟨by exact gz_m 179 (by omega), by exact gz_m 180 (by omega)⟩ (by exact gz_m 181 (by omega)) (by exact gz_m 182 (by omega)) (by exact gz_m 183 (by omega))
      obtain ⟨I125, J126, rfl, hI125, g124, k124, ⟨z124, rfl, q124⟩⟩ := P124
      have FI125 := gr_frt FI g124 rfl rfl
      have FJ126 := gr_fjt FJ k124 rfl rfl
      have t127 := g124 0 217 rfl
      have f128 := (gr_b_0_216 hI125)
      have f129 := (gr_b_0_217 hI125)
      have f130 := (gr_b_0_218 hI125)
      refine gv_callV hD rfl (As := [.inl 2, .inl 0, .inl 0, .inr (.inl (J 137 (Int.toNat a1)))]) (st := []) rfl (by decide) rfl rfl (gr_lV hws rfl) (Nat.le_of_ble_eq_true rfl) (gz_Ev_mono (d := 1) (by exact gz_m 184 (by omega)) E124) ?_
      show gv_X _ _ (153, [(0, .inr (.inr (some 0))), (1, .inl a1), (2, .inl a2), (3, .inl a3)], [.inl z124], gr_sh ++ ext, gr_h I125 J126)
      refine gr_gst (a := 137) (k := (Int.toNat z124)) (z := ((I125 0 216) - (I 0 216))) hI125 FI125 rfl rfl ⟨⟨by show 0 ≤ _; exact gz_m 185 (by omega), by show _ ≤ 2000000; exact gz_m 186 (by omega)⟩, trivial⟩ (fun I131 hI131 FI131 q132 p132 => ?_)
      have t133 := p132 0 216 (fun q => absurd q.1 (by decide))
      have t134 := p132 0 217 (fun q => absurd q.1 (by decide))
      have t135 := p132 0 218 (fun q => absurd q.1 (by decide))
      have f136 := (gr_b_0_216 hI131)
      have f137 := (gr_b_0_217 hI131)
      have f138 := (gr_b_0_218 hI131)
      refine gr_gst (a := 137) (k := (5000 + Int.toNat z124)) (z := (c9 + a2 + a3)) hI131 FI131 rfl rfl ⟨⟨by show 0 ≤ _; exact gz_m 187 (by omega), by show _ ≤ 2000000; exact gz_m 188 (by omega)⟩, trivial⟩ (fun I139 hI139 FI139 q140 p140 => ?_)
      have t141 := p140 0 216 (fun q => absurd q.1 (by decide))
      have t142 := p140 0 217 (fun q => absurd q.1 (by decide))
      have t143 := p140 0 218 (fun q => absurd q.1 (by decide))
      have f144 := (gr_b_0_216 hI139)
      have f145 := (gr_b_0_217 hI139)
      have f146 := (gr_b_0_218 hI139)
      exact gv_iret hD rfl ⟨I139, J126, rfl, hI139, FI139, FJ126, ⟨_, rfl, by exact gz_m 189 (by omega), by exact gz_m 190 (by omega), by exact gz_m 191 (by omega), by exact gz_m 192 (by omega), by exact gz_m 193 (by omega), by exact gz_m 194 (by omega), (gr_ocl q124.2.2.2.2.2.2.1 (gr_GS_of p132 q132 p140 q140) (by exact gz_m 195 (by omega)) (by exact gz_m 196 (by omega)) ⟨by exact gz_m 197 (by omega), by exact gz_m 198 (by omega)⟩ (by exact gz_m 199 (by omega)) (by exact gz_m 200 (by omega)) (by exact gz_m 201 (by omega)) (by exact gz_m 202 (by omega)))⟩⟩
    by_cases c147 : ((I 134 (Int.toNat a1))) = 4
    · refine gv_tabAt hD 4 rfl ⟨by exact gz_m 203 (by omega), by exact gz_m 204 (by omega)⟩ c147 ⟨by decide, by decide⟩ rfl (t := 70) rfl ?_
      have t148 := gr_GH_b x0 (x := a1) ⟨by exact gz_m 205 (by omega), by exact gz_m 206 (by omega)⟩
      have t149 := gr_GH_4 x0 (x := a1) ⟨by exact gz_m 207 (by omega), by exact gz_m 208 (by omega)⟩ (by exact gz_m 209 (by omega))
      have f150 := (gr_b_135 hI (Int.toNat a1))
      refine gv_run 5 true hD (pc' := 77) (lv' := [(0, .inr (.inr (some 0))), (1, .inl a1), (2, .inl a2), (3, .inl a3)]) (st' := [.inl (I 135 (Int.toNat a1)), .inr (.inr (some 0))]) (h' := gr_h I J) (C := (((((True ∧ True) ∧ True) ∧ True) ∧ True) ∧ (0 ≤ a1 ∧ a1 < ((2000 : Nat) : Int)))) rfl ⟨⟨⟨⟨⟨trivial, trivial⟩, trivial⟩, trivial⟩, trivial⟩, ⟨by exact gz_m 210 (by omega), by exact gz_m 211 (by omega)⟩⟩ ?_
      refine gv_run 2 true hD (pc' := 79) (lv' := [(0, .inr (.inr (some 0))), (1, .inl a1), (2, .inl a2), (3, .inl a3)]) (st' := [.inl a3, .inl a2, .inl (I 135 (Int.toNat a1)), .inr (.inr (some 0))]) (h' := gr_h I J) (C := ((True ∧ True) ∧ True)) rfl ⟨⟨trivial, trivial⟩, trivial⟩ ?_
      obtain ⟨r151, h151, E151, P151⟩ := ihR I J hI ((I 135 (Int.toNat a1))) a2 a3 ⟨by exact gz_m 212 (by omega), by exact gz_m 213 (by omega)⟩ ⟨by exact gz_m 214 (by omega), by exact gz_m 215 (by omega)⟩ ⟨by exact gz_m 216 (by omega), by exact gz_m 217 (by omega)⟩ x0 (by exact gz_m 218 (by omega)) (by exact gz_m 219 (by omega)) x3 (by exact gz_m 220 (by omega)) (by exact gz_m 221 (by omega)) (by exact gz_m 222 (by omega)) (by exact gz_m 223 (by omega)) (by exact gz_m 224 (by omega)) (by exact gz_m 225 (by omega)) (by exact gz_m 226 (by omega)) (by exact gz_m 227 (by omega)) (by exact gz_m 228 (by omega))
      obtain ⟨I152, J153, rfl, hI152, g151, k151, ⟨z151, rfl, q151⟩⟩ := P151
      have FI152 := gr_frt FI g151 rfl rfl
      have FJ153 := gr_fjt FJ k151 rfl rfl
      have t154 := g151 0 217 rfl
      have f155 := (gr_b_0_216 hI152)
      have f156 := (gr_b_0_217 hI152)
      have f157 := (gr_b_0_218 hI152)
      refine gv_callV hD rfl (As := [.inl (I 135 (Int.toNat a1)), .inl a2, .inl a3]) (st := []) rfl (by decide) rfl rfl (gr_lV hws rfl) (Nat.le_of_ble_eq_true rfl) (gz_Ev_mono (d := (1 + nr)) (Nat.le_refl _) E151) ?_
      show gv_X _ _ (82, [(0, .inr (.inr (some 0))), (1, .inl a1), (2, .inl a2), (3, .inl a3)], [.inl z151], gr_sh ++ ext, gr_h I152 J153)
      refine gv_run 1 true hD (pc' := 84) (lv' := [(4, .inl z151), (0, .inr (.inr (some 0))), (1, .inl a1), (2, .inl a2), (3, .inl a3)]) (st' := []) (h' := gr_h I152 J153) (C := (True ∧ True)) rfl ⟨trivial, trivial⟩ ?_
      have t158 := gr_HF_x (q151.2.2.2.2.2.2).1 x3 x0 (x := a1) ⟨by exact gz_m 229 (by omega), by exact gz_m 230 (by omega)⟩
      have t159 := gr_GH_4 (gr_GH_fr x0 (q151.2.2.2.2.2.2).1 x3) (x := a1) ⟨by exact gz_m 231 (by omega), by exact gz_m 232 (by omega)⟩ (by exact gz_m 233 (by omega))
      refine gv_run 7 true hD (pc' := 94) (lv' := [(4, .inl z151), (0, .inr (.inr (some 0))), (1, .inl a1), (2, .inl a2), (3, .inl a3)]) (st' := [.inl a1, .inr (.inr (some 136)), .inr (.inr (some 0)), .inl z151, .inl 4, .inr (.inr (some 0))]) (h' := gr_h I152 J153) (C := (((((((True ∧ True) ∧ True) ∧ True) ∧ True) ∧ True) ∧ True) ∧ True)) rfl ⟨⟨⟨⟨⟨⟨⟨trivial, trivial⟩, trivial⟩, trivial⟩, trivial⟩, trivial⟩, trivial⟩, trivial⟩ ?_
      have f160 := (gr_b_136 hI152 (Int.toNat a1))
      refine gv_run 1 true hD (pc' := 95) (lv' := [(4, .inl z151), (0, .inr (.inr (some 0))), (1, .inl a1), (2, .inl a2), (3, .inl a3)]) (st' := [.inl (I152 136 (Int.toNat a1)), .inr (.inr (some 0)), .inl z151, .inl 4, .inr (.inr (some 0))]) (h' := gr_h I152 J153) (C := (True ∧ (0 ≤ a1 ∧ a1 < ((2000 : Nat) : Int)))) rfl ⟨trivial, ⟨by exact gz_m 234 (by omega), by exact gz_m 235 (by omega)⟩⟩ ?_
      refine gv_run 2 true hD (pc' := 97) (lv' := [(4, .inl z151), (0, .inr (.inr (some 0))), (1, .inl a1), (2, .inl a2), (3, .inl a3)]) (st' := [.inl a3, .inl a2, .inl (I152 136 (Int.toNat a1)), .inr (.inr (some 0)), .inl z151, .inl 4, .inr (.inr (some 0))]) (h' := gr_h I152 J153) (C := ((True ∧ True) ∧ True)) rfl ⟨⟨trivial, trivial⟩, trivial⟩ ?_
      obtain ⟨r161, h161, E161, P161⟩ := ihR I152 J153 hI152 ((I152 136 (Int.toNat a1))) a2 a3 ⟨by exact gz_m 236 (by omega), by exact gz_m 237 (by omega)⟩ ⟨by exact gz_m 238 (by omega), by exact gz_m 239 (by omega)⟩ ⟨by exact gz_m 240 (by omega), by exact gz_m 241 (by omega)⟩ (gr_GH_fr x0 (q151.2.2.2.2.2.2).1 x3) (by exact gz_m 242 (by omega)) (by exact gz_m 243 (by omega)) (show gr_DJ a9 b9 I152 from by unfold gr_DJ at x3 ⊢; exact gz_m 244 (by omega)) (by exact gz_m 245 (by omega)) (by exact gz_m 246 (by omega)) (by exact gz_m 247 (by omega)) (by exact gz_m 248 (by omega)) (by exact gz_m 249 (by omega)) (by exact gz_m 250 (by omega)) (by exact gz_m 251 (by omega)) (by exact gz_m 252 (by omega)) (by exact gz_m 253 (by omega))
      obtain ⟨I162, J163, rfl, hI162, g161, k161, ⟨z161, rfl, q161⟩⟩ := P161
      have FI162 := gr_frt FI152 g161 rfl rfl
      have FJ163 := gr_fjt FJ153 k161 rfl rfl
      have t164 := g161 0 217 rfl
      have f165 := (gr_b_0_216 hI162)
      have f166 := (gr_b_0_217 hI162)
      have f167 := (gr_b_0_218 hI162)
      refine gv_callV hD rfl (As := [.inl (I152 136 (Int.toNat a1)), .inl a2, .inl a3]) (st := [.inl z151, .inl 4, .inr (.inr (some 0))]) rfl (by decide) rfl rfl (gr_lV hws rfl) (Nat.le_of_ble_eq_true rfl) (gz_Ev_mono (d := (1 + nr)) (Nat.le_refl _) E161) ?_
      show gv_X _ _ (100, [(4, .inl z151), (0, .inr (.inr (some 0))), (1, .inl a1), (2, .inl a2), (3, .inl a3)], [.inl z161, .inl z151, .inl 4, .inr (.inr (some 0))], gr_sh ++ ext, gr_h I162 J163)
      refine gv_run 1 true hD (pc' := 101) (lv' := [(4, .inl z151), (0, .inr (.inr (some 0))), (1, .inl a1), (2, .inl a2), (3, .inl a3)]) (st' := [.inr (.inl (Int64.ofNat 0)), .inl z161, .inl z151, .inl 4, .inr (.inr (some 0))]) (h' := gr_h I162 J163) (C := (True ∧ True)) rfl ⟨trivial, trivial⟩ ?_
      obtain ⟨r168, h168, E168, P168⟩ := r_heap_w (ws0 := ws0) (tb := tb) hws htb ext I162 J163 hI162 4 z151 z161 (Int64.ofNat 0) ⟨by exact gz_m 254 (by omega), by exact gz_m 255 (by omega)⟩ ⟨by exact gz_m 256 (by omega), by exact gz_m 257 (by omega)⟩ ⟨by exact gz_m 258 (by omega), by exact gz_m 259 (by omega)⟩ (by exact gz_m 260 (by omega)) (by exact gz_m 261 (by omega)) (by exact gz_m 262 (by omega))
      obtain ⟨I169, J170, rfl, hI169, g168, k168, ⟨z168, rfl, q168⟩⟩ := P168
      have FI169 := gr_frt FI162 g168 rfl rfl
      have FJ170 := gr_fjt FJ163 k168 rfl rfl
      have t171 := g168 0 217 rfl
      have f172 := (gr_b_0_216 hI169)
      have f173 := (gr_b_0_217 hI169)
      have f174 := (gr_b_0_218 hI169)
      refine gv_callV hD rfl (As := [.inl 4, .inl z151, .inl z161, .inr (.inl (Int64.ofNat 0))]) (st := []) rfl (by decide) rfl rfl (gr_lV hws rfl) (Nat.le_of_ble_eq_true rfl) (gz_Ev_mono (d := 1) (by exact gz_m 263 (by omega)) E168) ?_
      show gv_X _ _ (104, [(4, .inl z151), (0, .inr (.inr (some 0))), (1, .inl a1), (2, .inl a2), (3, .inl a3)], [.inl z168], gr_sh ++ ext, gr_h I169 J170)
      refine gr_gst (a := 137) (k := (Int.toNat z168)) (z := ((I169 0 216) - (I 0 216))) hI169 FI169 rfl rfl ⟨⟨by show 0 ≤ _; exact gz_m 264 (by omega), by show _ ≤ 2000000; exact gz_m 265 (by omega)⟩, trivial⟩ (fun I175 hI175 FI175 q176 p176 => ?_)
      have t177 := p176 0 216 (fun q => absurd q.1 (by decide))
      have t178 := p176 0 217 (fun q => absurd q.1 (by decide))
      have t179 := p176 0 218 (fun q => absurd q.1 (by decide))
      have f180 := (gr_b_0_216 hI175)
      have f181 := (gr_b_0_217 hI175)
      have f182 := (gr_b_0_218 hI175)
      refine gr_gst (a := 137) (k := (5000 + Int.toNat z168)) (z := (c9 + a2 + a3)) hI175 FI175 rfl rfl ⟨⟨by show 0 ≤ _; exact gz_m 266 (by omega), by show _ ≤ 2000000; exact gz_m 267 (by omega)⟩, trivial⟩ (fun I183 hI183 FI183 q184 p184 => ?_)
      have t185 := p184 0 216 (fun q => absurd q.1 (by decide))
      have t186 := p184 0 217 (fun q => absurd q.1 (by decide))
      have t187 := p184 0 218 (fun q => absurd q.1 (by decide))
      have f188 := (gr_b_0_216 hI183)
      have f189 := (gr_b_0_217 hI183)
      have f190 := (gr_b_0_218 hI183)
      exact gv_iret hD rfl ⟨I183, J170, rfl, hI183, FI183, FJ170, ⟨_, rfl, by exact gz_m 268 (by omega), by exact gz_m 269 (by omega), by exact gz_m 270 (by omega), by exact gz_m 271 (by omega), by exact gz_m 272 (by omega), by exact gz_m 273 (by omega), (gr_ok4 (c := (c9 + a2 + a3)) (gr_OK_w q151.2.2.2.2.2.2 (by exact gz_m 274 (by omega)) (Int.le_refl _)) (gr_OK_w q161.2.2.2.2.2.2 (by exact gz_m 275 (by omega)) (Int.le_refl _)) q168.2.2.2.2.2.2.1 (gr_GS_of p176 q176 p184 q184) (by exact gz_m 276 (by omega)) ⟨by exact gz_m 277 (by omega), by exact gz_m 278 (by omega)⟩ (by exact gz_m 279 (by omega)) (by exact gz_m 280 (by omega)) (by exact gz_m 281 (by omega)))⟩⟩
    refine gv_tabOut hD rfl ⟨by exact gz_m 282 (by omega), by exact gz_m 283 (by omega)⟩ (by exact gz_m 284 (by omega)) (t := 140) rfl ?_
    have t191 := gr_GH_b x0 (x := a1) ⟨by exact gz_m 285 (by omega), by exact gz_m 286 (by omega)⟩
    have t192 := gr_GH_k x0 (x := a1) ⟨by exact gz_m 287 (by omega), by exact gz_m 288 (by omega)⟩
    refine gv_run 7 true hD (pc' := 149) (lv' := [(0, .inr (.inr (some 0))), (1, .inl a1), (2, .inl a2), (3, .inl a3)]) (st' := [.inl a1, .inr (.inr (some 137)), .inl 0, .inl 0, .inl 2, .inr (.inr (some 0))]) (h' := gr_h I J) (C := (((((((True ∧ True) ∧ True) ∧ True) ∧ True) ∧ True) ∧ True) ∧ True)) rfl ⟨⟨⟨⟨⟨⟨⟨trivial, trivial⟩, trivial⟩, trivial⟩, trivial⟩, trivial⟩, trivial⟩, trivial⟩ ?_
    refine gv_run 1 true hD (pc' := 150) (lv' := [(0, .inr (.inr (some 0))), (1, .inl a1), (2, .inl a2), (3, .inl a3)]) (st' := [.inr (.inl (J 137 (Int.toNat a1))), .inl 0, .inl 0, .inl 2, .inr (.inr (some 0))]) (h' := gr_h I J) (C := (True ∧ (0 ≤ a1 ∧ a1 < ((2000 : Nat) : Int)))) rfl ⟨trivial, ⟨by exact gz_m 289 (by omega), by exact gz_m 290 (by omega)⟩⟩ ?_
    obtain ⟨r193, h193, E193, P193⟩ := r_heap_w (ws0 := ws0) (tb := tb) hws htb ext I J hI 2 0 0 ((J 137 (Int.toNat a1))) ⟨by exact gz_m 291 (by omega), by exact gz_m 292 (by omega)⟩ ⟨by exact gz_m 293 (by omega), by exact gz_m 294 (by omega)⟩ ⟨by exact gz_m 295 (by omega), by exact gz_m 296 (by omega)⟩ (by exact gz_m 297 (by omega)) (by exact gz_m 298 (by omega)) (by exact gz_m 299 (by omega))
    obtain ⟨I194, J195, rfl, hI194, g193, k193, ⟨z193, rfl, q193⟩⟩ := P193
    have FI194 := gr_frt FI g193 rfl rfl
    have FJ195 := gr_fjt FJ k193 rfl rfl
    have t196 := g193 0 217 rfl
    have f197 := (gr_b_0_216 hI194)
    have f198 := (gr_b_0_217 hI194)
    have f199 := (gr_b_0_218 hI194)
    refine gv_callV hD rfl (As := [.inl 2, .inl 0, .inl 0, .inr (.inl (J 137 (Int.toNat a1)))]) (st := []) rfl (by decide) rfl rfl (gr_lV hws rfl) (Nat.le_of_ble_eq_true rfl) (gz_Ev_mono (d := 1) (by exact gz_m 300 (by omega)) E193) ?_
    show gv_X _ _ (153, [(0, .inr (.inr (some 0))), (1, .inl a1), (2, .inl a2), (3, .inl a3)], [.inl z193], gr_sh ++ ext, gr_h I194 J195)
    refine gr_gst (a := 137) (k := (Int.toNat z193)) (z := ((I194 0 216) - (I 0 216))) hI194 FI194 rfl rfl ⟨⟨by show 0 ≤ _; exact gz_m 301 (by omega), by show _ ≤ 2000000; exact gz_m 302 (by omega)⟩, trivial⟩ (fun I200 hI200 FI200 q201 p201 => ?_)
    have t202 := p201 0 216 (fun q => absurd q.1 (by decide))
    have t203 := p201 0 217 (fun q => absurd q.1 (by decide))
    have t204 := p201 0 218 (fun q => absurd q.1 (by decide))
    have f205 := (gr_b_0_216 hI200)
    have f206 := (gr_b_0_217 hI200)
    have f207 := (gr_b_0_218 hI200)
    refine gr_gst (a := 137) (k := (5000 + Int.toNat z193)) (z := (c9 + a2 + a3)) hI200 FI200 rfl rfl ⟨⟨by show 0 ≤ _; exact gz_m 303 (by omega), by show _ ≤ 2000000; exact gz_m 304 (by omega)⟩, trivial⟩ (fun I208 hI208 FI208 q209 p209 => ?_)
    have t210 := p209 0 216 (fun q => absurd q.1 (by decide))
    have t211 := p209 0 217 (fun q => absurd q.1 (by decide))
    have t212 := p209 0 218 (fun q => absurd q.1 (by decide))
    have f213 := (gr_b_0_216 hI208)
    have f214 := (gr_b_0_217 hI208)
    have f215 := (gr_b_0_218 hI208)
    exact gv_iret hD rfl ⟨I208, J195, rfl, hI208, FI208, FJ195, ⟨_, rfl, by exact gz_m 305 (by omega), by exact gz_m 306 (by omega), by exact gz_m 307 (by omega), by exact gz_m 308 (by omega), by exact gz_m 309 (by omega), by exact gz_m 310 (by omega), (gr_ocl q193.2.2.2.2.2.2.1 (gr_GS_of p201 q201 p209 q209) (by exact gz_m 311 (by omega)) (by exact gz_m 312 (by omega)) ⟨by exact gz_m 313 (by omega), by exact gz_m 314 (by omega)⟩ (by exact gz_m 315 (by omega)) (by exact gz_m 316 (by omega)) (by exact gz_m 317 (by omega)) (by exact gz_m 318 (by omega)))⟩⟩
  · refine gv_run 1 true hD (pc' := 8) (lv' := [(0, .inr (.inr (some 0))), (1, .inl a1), (2, .inl a2), (3, .inl a3)]) (st' := [.inl 0]) (h' := gr_h I J) (C := (True ∧ True)) rfl ⟨trivial, trivial⟩ ?_
    exact gv_iret hD rfl ⟨I, J, rfl, hI, FI, FJ, ⟨_, rfl, by exact gz_m 319 (by omega), by exact gz_m 320 (by omega), by exact gz_m 321 (by omega), by exact gz_m 322 (by omega), by exact gz_m 323 (by omega), by exact gz_m 324 (by omega), (gr_OK_lg (by exact gz_m 325 (by omega)) (by exact gz_m 326 (by omega)))⟩⟩
set_option maxHeartbeats 8000000 in
set_option maxRecDepth 100000 in
theorem r_put {ws0 : List Cond} {tb : String → gz_T} (hws : ∀ w ∈ gr_ws, w ∈ ws0) (htb : tb RX13 = gr_T) (ext : gz_Sh) (a9 : Int) (b9 : Int) (S9 : Int) (c9 : Int) : ∀ (nr : Nat) (I : gr_I) (J : gr_J) (hI : gr_Inv I) (a1 : Int) (a2 : Int) (a3 : Int) (ha1 : 0 ≤ a1 ∧ a1 ≤ 1299) (ha2 : 0 ≤ a2 ∧ a2 ≤ 300) (ha3 : 0 ≤ a3 ∧ a3 ≤ 1299) (x0 : gr_GH a9 b9 S9 I) (x1 : a9 ≤ a1) (x2 : a1 < b9) (x3 : gr_DJ a9 b9 I) (x4 : I 0 216 ≤ I 0 217) (x5 : I 0 217 - 300 ≤ I 0 216) (x6 : 300 ≤ I 0 217) (x7 : I 137 (5000 + (Int.toNat a1)) ≤ c9 + a2 + 1) (x8 : a2 + I 137 (Int.toNat a1) ≤ 300) (x9 : 0 ≤ c9) (x10 : c9 ≤ S9) (x11 : S9 ≤ 1000000) (x12 : a9 ≤ a3) (x13 : a3 < b9) (x14 : I 137 (5000 + Int.toNat a3) ≤ c9) (_ : ((I 137 (Int.toNat a1))).toNat < nr), ∃ r h', gz_Ev ws0 tb (302 + nr) (yX13_put, cX13_put, 5, (some .int)) [.inr (.inr (some 0)), .inl a1, .inl a2, .inl a3] (gr_sh ++ ext) (gr_h I J) r (gr_sh ++ ext) h' 0 0 ∧ (∃ (I' : gr_I) (J' : gr_J), h' = gr_h I' J' ∧ gr_Inv I' ∧ gr_fr [216, 218] [134, 135, 136, 137] I I' ∧ gr_fj [216, 218] [134, 135, 136, 137] J J' ∧ (∃ z : Int, r = some (.inl z) ∧ 0 ≤ z ∧ z ≤ 1299 ∧ (I' 0 217 = I 0 217) ∧ (I 0 216 ≤ I' 0 216) ∧ (I' 0 216 ≤ I' 0 217) ∧ (I 0 218 ≤ I' 0 218) ∧ (gr_OK I I' z (c9 + a2) (S9 + 600)))) := by
  intro nr
  induction nr with
  | zero => intro I J hI a1 a2 a3 ha1 ha2 ha3 x0 x1 x2 x3 x4 x5 x6 x7 x8 x9 x10 x11 x12 x13 x14 hnr; exact gz_m 0 (by omega)
  | succ nr ihR =>
  intro I J hI a1 a2 a3 ha1 ha2 ha3 x0 x1 x2 x3 x4 x5 x6 x7 x8 x9 x10 x11 x12 x13 x14 hnr
  have FI : gr_fr [216, 218] [134, 135, 136, 137] I I := fun _ _ _ => rfl
  have FJ : gr_fj [216, 218] [134, 135, 136, 137] J J := fun _ _ _ => rfl
  have hD : gv_D (gr_E ws0 tb (302 + nr) (yX13_put, cX13_put, 5, (some .int)) kX13_put) := gq_of oX13_put
  refine gr_ev (d := (302 + nr)) (l := kX13_put) (Po := fun r h' => (∃ (I' : gr_I) (J' : gr_J), h' = gr_h I' J' ∧ gr_Inv I' ∧ gr_fr [216, 218] [134, 135, 136, 137] I I' ∧ gr_fj [216, 218] [134, 135, 136, 137] J J' ∧ (∃ z : Int, r = some (.inl z) ∧ 0 ≤ z ∧ z ≤ 1299 ∧ (I' 0 217 = I 0 217) ∧ (I 0 216 ≤ I' 0 216) ∧ (I' 0 216 ≤ I' 0 217) ∧ (I 0 218 ≤ I' 0 218) ∧ (gr_OK I I' z (c9 + a2) (S9 + 600))))) htb rfl (Nat.le_of_ble_eq_true rfl) ?_
  have f1 := (gr_b_0_216 hI)
  have f2 := (gr_b_0_217 hI)
  have f3 := (gr_b_0_218 hI)
  have t4 := x0.1
  have f5 := (gr_b_0_218 hI)
  refine gv_run 2 true hD (pc' := 4) (lv' := [(0, .inr (.inr (some 0))), (1, .inl a1), (2, .inl a2), (3, .inl a3)]) (st' := [.inl (I 0 218)]) (h' := gr_h I J) (C := ((True ∧ True) ∧ True)) rfl ⟨⟨trivial, trivial⟩, trivial⟩ ?_
  refine gv_if_eq (t := 9) hD rfl rfl ⟨by exact gz_m 1 (by omega), by exact gz_m 2 (by omega)⟩ (fun c6 => ?_) (fun c6 => ?_)
  · have f7 := (gr_b_134 hI (Int.toNat a1))
    refine gv_run 4 true hD (pc' := 15) (lv' := [(0, .inr (.inr (some 0))), (1, .inl a1), (2, .inl a2), (3, .inl a3)]) (st' := [.inl (I 134 (Int.toNat a1))]) (h' := gr_h I J) (C := ((((True ∧ True) ∧ True) ∧ True) ∧ (0 ≤ a1 ∧ a1 < ((2000 : Nat) : Int)))) rfl ⟨⟨⟨⟨trivial, trivial⟩, trivial⟩, trivial⟩, ⟨by exact gz_m 3 (by omega), by exact gz_m 4 (by omega)⟩⟩ ?_
    by_cases c8 : ((I 134 (Int.toNat a1))) = 0
    · refine gv_tabAt hD 0 rfl ⟨by exact gz_m 5 (by omega), by exact gz_m 6 (by omega)⟩ c8 ⟨by decide, by decide⟩ rfl (t := 48) rfl ?_
      have t9 := gr_GH_b x0 (x := a1) ⟨by exact gz_m 7 (by omega), by exact gz_m 8 (by omega)⟩
      have t10 := gr_GH_0 x0 (x := a1) ⟨by exact gz_m 9 (by omega), by exact gz_m 10 (by omega)⟩ (by exact gz_m 11 (by omega))
      have f11 := (gr_b_135 hI (Int.toNat a1))
      refine gv_run 7 true hD (pc' := 57) (lv' := [(0, .inr (.inr (some 0))), (1, .inl a1), (2, .inl a2), (3, .inl a3)]) (st' := [.inl (I 135 (Int.toNat a1)), .inr (.inr (some 0)), .inl 0, .inr (.inr (some 0))]) (h' := gr_h I J) (C := (((((((True ∧ True) ∧ True) ∧ True) ∧ True) ∧ True) ∧ True) ∧ (0 ≤ a1 ∧ a1 < ((2000 : Nat) : Int)))) rfl ⟨⟨⟨⟨⟨⟨⟨trivial, trivial⟩, trivial⟩, trivial⟩, trivial⟩, trivial⟩, trivial⟩, ⟨by exact gz_m 12 (by omega), by exact gz_m 13 (by omega)⟩⟩ ?_
      refine gv_run 4 true hD (pc' := 61) (lv' := [(0, .inr (.inr (some 0))), (1, .inl a1), (2, .inl a2), (3, .inl a3)]) (st' := [.inl a3, .inl (a2 + 1), .inl (I 135 (Int.toNat a1)), .inr (.inr (some 0)), .inl 0, .inr (.inr (some 0))]) (h' := gr_h I J) (C := ((((True ∧ True) ∧ True) ∧ True) ∧ True)) rfl ⟨⟨⟨⟨trivial, trivial⟩, trivial⟩, trivial⟩, trivial⟩ ?_
      obtain ⟨r12, h12, E12, P12⟩ := ihR I J hI ((I 135 (Int.toNat a1))) (a2 + 1) a3 ⟨by exact gz_m 14 (by omega), by exact gz_m 15 (by omega)⟩ ⟨by exact gz_m 16 (by omega), by exact gz_m 17 (by omega)⟩ ⟨by exact gz_m 18 (by omega), by exact gz_m 19 (by omega)⟩ x0 (by exact gz_m 20 (by omega)) (by exact gz_m 21 (by omega)) x3 (by exact gz_m 22 (by omega)) (by exact gz_m 23 (by omega)) (by exact gz_m 24 (by omega)) (by exact gz_m 25 (by omega)) (by exact gz_m 26 (by omega)) (by exact gz_m 27 (by omega)) (by exact gz_m 28 (by omega)) (by exact gz_m 29 (by omega)) (by exact gz_m 30 (by omega)) (by exact gz_m 31 (by omega)) (by exact gz_m 32 (by omega)) (by exact gz_m 33 (by omega))
      obtain ⟨I13, J14, rfl, hI13, g12, k12, ⟨z12, rfl, q12⟩⟩ := P12
      have FI13 := gr_frt FI g12 rfl rfl
      have FJ14 := gr_fjt FJ k12 rfl rfl
      have t15 := g12 0 217 rfl
      have f16 := (gr_b_0_216 hI13)
      have f17 := (gr_b_0_217 hI13)
      have f18 := (gr_b_0_218 hI13)
      refine gv_callV hD rfl (As := [.inl (I 135 (Int.toNat a1)), .inl (a2 + 1), .inl a3]) (st := [.inl 0, .inr (.inr (some 0))]) rfl (by decide) rfl rfl (gr_lV hws rfl) (Nat.le_of_ble_eq_true rfl) (gz_Ev_mono (d := (302 + nr)) (Nat.le_refl _) E12) ?_
      show gv_X _ _ (64, [(0, .inr (.inr (some 0))), (1, .inl a1), (2, .inl a2), (3, .inl a3)], [.inl z12, .inl 0, .inr (.inr (some 0))], gr_sh ++ ext, gr_h I13 J14)
      refine gv_run 2 true hD (pc' := 66) (lv' := [(0, .inr (.inr (some 0))), (1, .inl a1), (2, .inl a2), (3, .inl a3)]) (st' := [.inr (.inl (Int64.ofNat 0)), .inl 0, .inl z12, .inl 0, .inr (.inr (some 0))]) (h' := gr_h I13 J14) (C := ((True ∧ True) ∧ True)) rfl ⟨⟨trivial, trivial⟩, trivial⟩ ?_
      obtain ⟨r19, h19, E19, P19⟩ := r_heap_w (ws0 := ws0) (tb := tb) hws htb ext I13 J14 hI13 0 z12 0 (Int64.ofNat 0) ⟨by exact gz_m 34 (by omega), by exact gz_m 35 (by omega)⟩ ⟨by exact gz_m 36 (by omega), by exact gz_m 37 (by omega)⟩ ⟨by exact gz_m 38 (by omega), by exact gz_m 39 (by omega)⟩ (by exact gz_m 40 (by omega)) (by exact gz_m 41 (by omega)) (by exact gz_m 42 (by omega))
      obtain ⟨I20, J21, rfl, hI20, g19, k19, ⟨z19, rfl, q19⟩⟩ := P19
      have FI20 := gr_frt FI13 g19 rfl rfl
      have FJ21 := gr_fjt FJ14 k19 rfl rfl
      have t22 := g19 0 217 rfl
      have f23 := (gr_b_0_216 hI20)
      have f24 := (gr_b_0_217 hI20)
      have f25 := (gr_b_0_218 hI20)
      refine gv_callV hD rfl (As := [.inl 0, .inl z12, .inl 0, .inr (.inl (Int64.ofNat 0))]) (st := []) rfl (by decide) rfl rfl (gr_lV hws rfl) (Nat.le_of_ble_eq_true rfl) (gz_Ev_mono (d := 1) (by exact gz_m 43 (by omega)) E19) ?_
      show gv_X _ _ (69, [(0, .inr (.inr (some 0))), (1, .inl a1), (2, .inl a2), (3, .inl a3)], [.inl z19], gr_sh ++ ext, gr_h I20 J21)
      refine gr_gst (a := 137) (k := (Int.toNat z19)) (z := ((I20 0 216) - (I 0 216))) hI20 FI20 rfl rfl ⟨⟨by show 0 ≤ _; exact gz_m 44 (by omega), by show _ ≤ 2000000; exact gz_m 45 (by omega)⟩, trivial⟩ (fun I26 hI26 FI26 q27 p27 => ?_)
      have t28 := p27 0 216 (fun q => absurd q.1 (by decide))
      have t29 := p27 0 217 (fun q => absurd q.1 (by decide))
      have t30 := p27 0 218 (fun q => absurd q.1 (by decide))
      have f31 := (gr_b_0_216 hI26)
      have f32 := (gr_b_0_217 hI26)
      have f33 := (gr_b_0_218 hI26)
      refine gr_gst (a := 137) (k := (5000 + Int.toNat z19)) (z := (c9 + a2)) hI26 FI26 rfl rfl ⟨⟨by show 0 ≤ _; exact gz_m 46 (by omega), by show _ ≤ 2000000; exact gz_m 47 (by omega)⟩, trivial⟩ (fun I34 hI34 FI34 q35 p35 => ?_)
      have t36 := p35 0 216 (fun q => absurd q.1 (by decide))
      have t37 := p35 0 217 (fun q => absurd q.1 (by decide))
      have t38 := p35 0 218 (fun q => absurd q.1 (by decide))
      have f39 := (gr_b_0_216 hI34)
      have f40 := (gr_b_0_217 hI34)
      have f41 := (gr_b_0_218 hI34)
      exact gv_iret hD rfl ⟨I34, J21, rfl, hI34, FI34, FJ21, ⟨_, rfl, by exact gz_m 48 (by omega), by exact gz_m 49 (by omega), by exact gz_m 50 (by omega), by exact gz_m 51 (by omega), by exact gz_m 52 (by omega), by exact gz_m 53 (by omega), (gr_ok0 (c := (c9 + a2)) (gr_OK_w q12.2.2.2.2.2.2 (by exact gz_m 54 (by omega)) (Int.le_refl _)) q19.2.2.2.2.2.2.1 (gr_GS_of p27 q27 p35 q35) (by exact gz_m 55 (by omega)) ⟨by exact gz_m 56 (by omega), by exact gz_m 57 (by omega)⟩ (by exact gz_m 58 (by omega)) (by exact gz_m 59 (by omega)) (by exact gz_m 60 (by omega)))⟩⟩
    by_cases c42 : ((I 134 (Int.toNat a1))) = 1
    · refine gv_tabAt hD 1 rfl ⟨by exact gz_m 61 (by omega), by exact gz_m 62 (by omega)⟩ c42 ⟨by decide, by decide⟩ rfl (t := 105) rfl ?_
      have t43 := gr_GH_b x0 (x := a1) ⟨by exact gz_m 63 (by omega), by exact gz_m 64 (by omega)⟩
      have t44 := gr_GH_1 x0 (x := a1) ⟨by exact gz_m 65 (by omega), by exact gz_m 66 (by omega)⟩ (by exact gz_m 67 (by omega))
      have f45 := (gr_b_135 hI (Int.toNat a1))
      refine gv_run 4 true hD (pc' := 111) (lv' := [(0, .inr (.inr (some 0))), (1, .inl a1), (2, .inl a2), (3, .inl a3)]) (st' := [.inl (I 135 (Int.toNat a1))]) (h' := gr_h I J) (C := ((((True ∧ True) ∧ True) ∧ True) ∧ (0 ≤ a1 ∧ a1 < ((2000 : Nat) : Int)))) rfl ⟨⟨⟨⟨trivial, trivial⟩, trivial⟩, trivial⟩, ⟨by exact gz_m 68 (by omega), by exact gz_m 69 (by omega)⟩⟩ ?_
      refine gv_run 1 true hD (pc' := 112) (lv' := [(0, .inr (.inr (some 0))), (1, .inl a1), (2, .inl a2), (3, .inl a3)]) (st' := [.inl a2, .inl (I 135 (Int.toNat a1))]) (h' := gr_h I J) (C := (True ∧ True)) rfl ⟨trivial, trivial⟩ ?_
      refine gv_icmp_ne (t := 125) hD rfl rfl ⟨⟨by exact gz_m 70 (by omega), by exact gz_m 71 (by omega)⟩, ⟨by exact gz_m 72 (by omega), by exact gz_m 73 (by omega)⟩⟩ (fun c46 => ?_) (fun c46 => ?_)
      · have f47 := (gr_b_135 hI (Int.toNat a1))
        refine gv_run 6 true hD (pc' := 133) (lv' := [(0, .inr (.inr (some 0))), (1, .inl a1), (2, .inl a2), (3, .inl a3)]) (st' := [.inl (I 135 (Int.toNat a1)), .inl 1, .inr (.inr (some 0))]) (h' := gr_h I J) (C := ((((((True ∧ True) ∧ True) ∧ True) ∧ True) ∧ True) ∧ (0 ≤ a1 ∧ a1 < ((2000 : Nat) : Int)))) rfl ⟨⟨⟨⟨⟨⟨trivial, trivial⟩, trivial⟩, trivial⟩, trivial⟩, trivial⟩, ⟨by exact gz_m 74 (by omega), by exact gz_m 75 (by omega)⟩⟩ ?_
        refine gv_run 1 true hD (pc' := 134) (lv' := [(0, .inr (.inr (some 0))), (1, .inl a1), (2, .inl a2), (3, .inl a3)]) (st' := [.inl a2, .inl (I 135 (Int.toNat a1)), .inl 1, .inr (.inr (some 0))]) (h' := gr_h I J) (C := (True ∧ True)) rfl ⟨trivial, trivial⟩ ?_
        refine gv_icmp_le (t := 148) hD rfl rfl ⟨⟨by exact gz_m 76 (by omega), by exact gz_m 77 (by omega)⟩, ⟨by exact gz_m 78 (by omega), by exact gz_m 79 (by omega)⟩⟩ (fun c48 => ?_) (fun c48 => ?_)
        · have f49 := (gr_b_135 hI (Int.toNat a1))
          refine gv_run 4 true hD (pc' := 154) (lv' := [(0, .inr (.inr (some 0))), (1, .inl a1), (2, .inl a2), (3, .inl a3)]) (st' := [.inl (I 135 (Int.toNat a1)), .inl 1, .inr (.inr (some 0))]) (h' := gr_h I J) (C := ((((True ∧ True) ∧ True) ∧ True) ∧ (0 ≤ a1 ∧ a1 < ((2000 : Nat) : Int)))) rfl ⟨⟨⟨⟨trivial, trivial⟩, trivial⟩, trivial⟩, ⟨by exact gz_m 80 (by omega), by exact gz_m 81 (by omega)⟩⟩ ?_
          refine gv_run 2 true hD (pc' := 156) (lv' := [(0, .inr (.inr (some 0))), (1, .inl a1), (2, .inl a2), (3, .inl a3)]) (st' := [.inr (.inl (Int64.ofNat 0)), .inl 0, .inl (I 135 (Int.toNat a1)), .inl 1, .inr (.inr (some 0))]) (h' := gr_h I J) (C := ((True ∧ True) ∧ True)) rfl ⟨⟨trivial, trivial⟩, trivial⟩ ?_
          obtain ⟨r50, h50, E50, P50⟩ := r_heap_w (ws0 := ws0) (tb := tb) hws htb ext I J hI 1 ((I 135 (Int.toNat a1))) 0 (Int64.ofNat 0) ⟨by exact gz_m 82 (by omega), by exact gz_m 83 (by omega)⟩ ⟨by exact gz_m 84 (by omega), by exact gz_m 85 (by omega)⟩ ⟨by exact gz_m 86 (by omega), by exact gz_m 87 (by omega)⟩ (by exact gz_m 88 (by omega)) (by exact gz_m 89 (by omega)) (by exact gz_m 90 (by omega))
          obtain ⟨I51, J52, rfl, hI51, g50, k50, ⟨z50, rfl, q50⟩⟩ := P50
          have FI51 := gr_frt FI g50 rfl rfl
          have FJ52 := gr_fjt FJ k50 rfl rfl
          have t53 := g50 0 217 rfl
          have f54 := (gr_b_0_216 hI51)
          have f55 := (gr_b_0_217 hI51)
          have f56 := (gr_b_0_218 hI51)
          refine gv_callV hD rfl (As := [.inl 1, .inl (I 135 (Int.toNat a1)), .inl 0, .inr (.inl (Int64.ofNat 0))]) (st := []) rfl (by decide) rfl rfl (gr_lV hws rfl) (Nat.le_of_ble_eq_true rfl) (gz_Ev_mono (d := 1) (by exact gz_m 91 (by omega)) E50) ?_
          show gv_X _ _ (159, [(0, .inr (.inr (some 0))), (1, .inl a1), (2, .inl a2), (3, .inl a3)], [.inl z50], gr_sh ++ ext, gr_h I51 J52)
          refine gr_gst (a := 137) (k := (Int.toNat z50)) (z := ((I51 0 216) - (I 0 216))) hI51 FI51 rfl rfl ⟨⟨by show 0 ≤ _; exact gz_m 92 (by omega), by show _ ≤ 2000000; exact gz_m 93 (by omega)⟩, trivial⟩ (fun I57 hI57 FI57 q58 p58 => ?_)
          have t59 := p58 0 216 (fun q => absurd q.1 (by decide))
          have t60 := p58 0 217 (fun q => absurd q.1 (by decide))
          have t61 := p58 0 218 (fun q => absurd q.1 (by decide))
          have f62 := (gr_b_0_216 hI57)
          have f63 := (gr_b_0_217 hI57)
          have f64 := (gr_b_0_218 hI57)
          refine gr_gst (a := 137) (k := (5000 + Int.toNat z50)) (z := (c9 + a2)) hI57 FI57 rfl rfl ⟨⟨by show 0 ≤ _; exact gz_m 94 (by omega), by show _ ≤ 2000000; exact gz_m 95 (by omega)⟩, trivial⟩ (fun I65 hI65 FI65 q66 p66 => ?_)
          have t67 := p66 0 216 (fun q => absurd q.1 (by decide))
          have t68 := p66 0 217 (fun q => absurd q.1 (by decide))
          have t69 := p66 0 218 (fun q => absurd q.1 (by decide))
          have f70 := (gr_b_0_216 hI65)
          have f71 := (gr_b_0_217 hI65)
          have f72 := (gr_b_0_218 hI65)
          exact gv_iret hD rfl ⟨I65, J52, rfl, hI65, FI65, FJ52, ⟨_, rfl, by exact gz_m 96 (by omega), by exact gz_m 97 (by omega), by exact gz_m 98 (by omega), by exact gz_m 99 (by omega), by exact gz_m 100 (by omega), by exact gz_m 101 (by omega), (gr_ocl q50.2.2.2.2.2.2.1 (gr_GS_of p58 q58 p66 q66) (by exact gz_m 102 (by omega)) (by exact gz_m 103 (by omega)) ⟨by exact gz_m 104 (by omega), by exact gz_m 105 (by omega)⟩ (by exact gz_m 106 (by omega)) (by exact gz_m 107 (by omega)) (by exact gz_m 108 (by omega)) (by exact gz_m 109 (by omega)))⟩⟩
        · have f73 := (gr_b_135 hI (Int.toNat a1))
          refine gv_run 4 true hD (pc' := 143) (lv' := [(0, .inr (.inr (some 0))), (1, .inl a1), (2, .inl a2), (3, .inl a3)]) (st' := [.inl (I 135 (Int.toNat a1)), .inl 1, .inr (.inr (some 0))]) (h' := gr_h I J) (C := ((((True ∧ True) ∧ True) ∧ True) ∧ (0 ≤ a1 ∧ a1 < ((2000 : Nat) : Int)))) rfl ⟨⟨⟨⟨trivial, trivial⟩, trivial⟩, trivial⟩, ⟨by exact gz_m 110 (by omega), by exact gz_m 111 (by omega)⟩⟩ ?_
          refine gv_run 5 true hD (pc' := 156) (lv' := [(0, .inr (.inr (some 0))), (1, .inl a1), (2, .inl a2), (3, .inl a3)]) (st' := [.inr (.inl (Int64.ofNat 0)), .inl 0, .inl ((I 135 (Int.toNat a1)) - 1), .inl 1, .inr (.inr (some 0))]) (h' := gr_h I J) (C := (((((True ∧ True) ∧ True) ∧ True) ∧ True) ∧ True)) rfl ⟨⟨⟨⟨⟨trivial, trivial⟩, trivial⟩, trivial⟩, trivial⟩, trivial⟩ ?_
          obtain ⟨r74, h74, E74, P74⟩ := r_heap_w (ws0 := ws0) (tb := tb) hws htb ext I J hI 1 (((I 135 (Int.toNat a1)) - 1)) 0 (Int64.ofNat 0) ⟨by exact gz_m 112 (by omega), by exact gz_m 113 (by omega)⟩ ⟨by exact gz_m 114 (by omega), by exact gz_m 115 (by omega)⟩ ⟨by exact gz_m 116 (by omega), by exact gz_m 117 (by omega)⟩ (by exact gz_m 118 (by omega)) (by exact gz_m 119 (by omega)) (by exact gz_m 120 (by omega))
          obtain ⟨I75, J76, rfl, hI75, g74, k74, ⟨z74, rfl, q74⟩⟩ := P74
          have FI75 := gr_frt FI g74 rfl rfl
          have FJ76 := gr_fjt FJ k74 rfl rfl
          have t77 := g74 0 217 rfl
          have f78 := (gr_b_0_216 hI75)
          have f79 := (gr_b_0_217 hI75)
          have f80 := (gr_b_0_218 hI75)
          refine gv_callV hD rfl (As := [.inl 1, .inl ((I 135 (Int.toNat a1)) - 1), .inl 0, .inr (.inl (Int64.ofNat 0))]) (st := []) rfl (by decide) rfl rfl (gr_lV hws rfl) (Nat.le_of_ble_eq_true rfl) (gz_Ev_mono (d := 1) (by exact gz_m 121 (by omega)) E74) ?_
          show gv_X _ _ (159, [(0, .inr (.inr (some 0))), (1, .inl a1), (2, .inl a2), (3, .inl a3)], [.inl z74], gr_sh ++ ext, gr_h I75 J76)
          refine gr_gst (a := 137) (k := (Int.toNat z74)) (z := ((I75 0 216) - (I 0 216))) hI75 FI75 rfl rfl ⟨⟨by show 0 ≤ _; exact gz_m 122 (by omega), by show _ ≤ 2000000; exact gz_m 123 (by omega)⟩, trivial⟩ (fun I81 hI81 FI81 q82 p82 => ?_)
          have t83 := p82 0 216 (fun q => absurd q.1 (by decide))
          have t84 := p82 0 217 (fun q => absurd q.1 (by decide))
          have t85 := p82 0 218 (fun q => absurd q.1 (by decide))
          have f86 := (gr_b_0_216 hI81)
          have f87 := (gr_b_0_217 hI81)
          have f88 := (gr_b_0_218 hI81)
          refine gr_gst (a := 137) (k := (5000 + Int.toNat z74)) (z := (c9 + a2)) hI81 FI81 rfl rfl ⟨⟨by show 0 ≤ _; exact gz_m 124 (by omega), by show _ ≤ 2000000; exact gz_m 125 (by omega)⟩, trivial⟩ (fun I89 hI89 FI89 q90 p90 => ?_)
          have t91 := p90 0 216 (fun q => absurd q.1 (by decide))
          have t92 := p90 0 217 (fun q => absurd q.1 (by decide))
          have t93 := p90 0 218 (fun q => absurd q.1 (by decide))
          have f94 := (gr_b_0_216 hI89)
          have f95 := (gr_b_0_217 hI89)
          have f96 := (gr_b_0_218 hI89)
          exact gv_iret hD rfl ⟨I89, J76, rfl, hI89, FI89, FJ76, ⟨_, rfl, by exact gz_m 126 (by omega), by exact gz_m 127 (by omega), by exact gz_m 128 (by omega), by exact gz_m 129 (by omega), by exact gz_m 130 (by omega), by exact gz_m 131 (by omega), (gr_ocl q74.2.2.2.2.2.2.1 (gr_GS_of p82 q82 p90 q90) (by exact gz_m 132 (by omega)) (by exact gz_m 133 (by omega)) ⟨by exact gz_m 134 (by omega), by exact gz_m 135 (by omega)⟩ (by exact gz_m 136 (by omega)) (by exact gz_m 137 (by omega)) (by exact gz_m 138 (by omega)) (by exact gz_m 139 (by omega)))⟩⟩
      · have t97 := gr_GH_b x0 (x := a3) ⟨by exact gz_m 140 (by omega), by exact gz_m 141 (by omega)⟩
        refine gv_run 4 true hD (pc' := 119) (lv' := [(0, .inr (.inr (some 0))), (1, .inl a1), (2, .inl a2), (3, .inl a3)]) (st' := [.inl 0, .inl a2, .inl a3, .inr (.inr (some 0))]) (h' := gr_h I J) (C := ((((True ∧ True) ∧ True) ∧ True) ∧ True)) rfl ⟨⟨⟨⟨trivial, trivial⟩, trivial⟩, trivial⟩, trivial⟩ ?_
        obtain ⟨r98, h98, E98, P98⟩ := r_raised (ws0 := ws0) (tb := tb) hws htb ext a9 b9 S9 c9 301 I J hI a3 a2 0 ⟨by exact gz_m 142 (by omega), by exact gz_m 143 (by omega)⟩ ⟨by exact gz_m 144 (by omega), by exact gz_m 145 (by omega)⟩ ⟨by exact gz_m 146 (by omega), by exact gz_m 147 (by omega)⟩ x0 (by exact gz_m 148 (by omega)) (by exact gz_m 149 (by omega)) x3 (by exact gz_m 150 (by omega)) (by exact gz_m 151 (by omega)) (by exact gz_m 152 (by omega)) (by exact gz_m 153 (by omega)) (by exact gz_m 154 (by omega)) (by exact gz_m 155 (by omega)) (by exact gz_m 156 (by omega)) (by exact gz_m 157 (by omega)) (by exact gz_m 158 (by omega))
        obtain ⟨I99, J100, rfl, hI99, g98, k98, ⟨z98, rfl, q98⟩⟩ := P98
        have FI99 := gr_frt FI g98 rfl rfl
        have FJ100 := gr_fjt FJ k98 rfl rfl
        have t101 := g98 0 217 rfl
        have f102 := (gr_b_0_216 hI99)
        have f103 := (gr_b_0_217 hI99)
        have f104 := (gr_b_0_218 hI99)
        refine gv_callV hD rfl (As := [.inl a3, .inl a2, .inl 0]) (st := []) rfl (by decide) rfl rfl (gr_lV hws rfl) (Nat.le_of_ble_eq_true rfl) (gz_Ev_mono (d := 302) (by exact gz_m 159 (by omega)) E98) ?_
        show gv_X _ _ (122, [(0, .inr (.inr (some 0))), (1, .inl a1), (2, .inl a2), (3, .inl a3)], [.inl z98], gr_sh ++ ext, gr_h I99 J100)
        refine gv_run 1 true hD (pc' := 159) (lv' := [(0, .inr (.inr (some 0))), (1, .inl a1), (2, .inl a2), (3, .inl a3)]) (st' := [.inl z98]) (h' := gr_h I99 J100) (C := (True ∧ True)) rfl ⟨trivial, trivial⟩ ?_
        exact gv_iret hD rfl ⟨I99, J100, rfl, hI99, FI99, FJ100, ⟨_, rfl, by exact gz_m 160 (by omega), by exact gz_m 161 (by omega), by exact gz_m 162 (by omega), by exact gz_m 163 (by omega), by exact gz_m 164 (by omega), by exact gz_m 165 (by omega), (gr_OK_w q98.2.2.2.2.2.2 (by exact gz_m 166 (by omega)) (Int.le_refl _))⟩⟩
    by_cases c105 : ((I 134 (Int.toNat a1))) = 2
    · refine gv_tabAt hD 2 rfl ⟨by exact gz_m 167 (by omega), by exact gz_m 168 (by omega)⟩ c105 ⟨by decide, by decide⟩ rfl (t := 160) rfl ?_
      have t106 := gr_GH_b x0 (x := a1) ⟨by exact gz_m 169 (by omega), by exact gz_m 170 (by omega)⟩
      have t107 := gr_GH_k x0 (x := a1) ⟨by exact gz_m 171 (by omega), by exact gz_m 172 (by omega)⟩
      refine gv_run 7 true hD (pc' := 169) (lv' := [(0, .inr (.inr (some 0))), (1, .inl a1), (2, .inl a2), (3, .inl a3)]) (st' := [.inl a1, .inr (.inr (some 137)), .inl 0, .inl 0, .inl 2, .inr (.inr (some 0))]) (h' := gr_h I J) (C := (((((((True ∧ True) ∧ True) ∧ True) ∧ True) ∧ True) ∧ True) ∧ True)) rfl ⟨⟨⟨⟨⟨⟨⟨trivial, trivial⟩, trivial⟩, trivial⟩, trivial⟩, trivial⟩, trivial⟩, trivial⟩ ?_
      refine gv_run 1 true hD (pc' := 170) (lv' := [(0, .inr (.inr (some 0))), (1, .inl a1), (2, .inl a2), (3, .inl a3)]) (st' := [.inr (.inl (J 137 (Int.toNat a1))), .inl 0, .inl 0, .inl 2, .inr (.inr (some 0))]) (h' := gr_h I J) (C := (True ∧ (0 ≤ a1 ∧ a1 < ((2000 : Nat) : Int)))) rfl ⟨trivial, ⟨by exact gz_m 173 (by omega), by exact gz_m 174 (by omega)⟩⟩ ?_
      obtain ⟨r108, h108, E108, P108⟩ := r_heap_w (ws0 := ws0) (tb := tb) hws htb ext I J hI 2 0 0 ((J 137 (Int.toNat a1))) ⟨by exact gz_m 175 (by omega), by exact gz_m 176 (by omega)⟩ ⟨by exact gz_m 177 (by omega), by exact gz_m 178 (by omega)⟩ ⟨by exact gz_m 179 (by omega), by exact gz_m 180 (by omega)⟩ (by exact gz_m 181 (by omega)) (by exact gz_m 182 (by omega)) (by exact gz_m 183 (by omega))
      obtain ⟨I109, J110, rfl, hI109, g108, k108, ⟨z108, rfl, q108⟩⟩ := P108
      have FI109 := gr_frt FI g108 rfl rfl
      have FJ110 := gr_fjt FJ k108 rfl rfl
      have t111 := g108 0 217 rfl
      have f112 := (gr_b_0_216 hI109)
      have f113 := (gr_b_0_217 hI109)
      have f114 := (gr_b_0_218 hI109)
      refine gv_callV hD rfl (As := [.inl 2, .inl 0, .inl 0, .inr (.inl (J 137 (Int.toNat a1)))]) (st := []) rfl (by decide) rfl rfl (gr_lV hws rfl) (Nat.le_of_ble_eq_true rfl) (gz_Ev_mono (d := 1) (by exact gz_m 184 (by omega)) E108) ?_
      show gv_X _ _ (173, [(0, .inr (.inr (some 0))), (1, .inl a1), (2, .inl a2), (3, .inl a3)], [.inl z108], gr_sh ++ ext, gr_h I109 J110)
      refine gr_gst (a := 137) (k := (Int.toNat z108)) (z := ((I109 0 216) - (I 0 216))) hI109 FI109 rfl rfl ⟨⟨by show 0 ≤ _; exact gz_m 185 (by omega), by show _ ≤ 2000000; exact gz_m 186 (by omega)⟩, trivial⟩ (fun I115 hI115 FI115 q116 p116 => ?_)
      have t117 := p116 0 216 (fun q => absurd q.1 (by decide))
      have t118 := p116 0 217 (fun q => absurd q.1 (by decide))
      have t119 := p116 0 218 (fun q => absurd q.1 (by decide))
      have f120 := (gr_b_0_216 hI115)
      have f121 := (gr_b_0_217 hI115)
      have f122 := (gr_b_0_218 hI115)
      refine gr_gst (a := 137) (k := (5000 + Int.toNat z108)) (z := (c9 + a2)) hI115 FI115 rfl rfl ⟨⟨by show 0 ≤ _; exact gz_m 187 (by omega), by show _ ≤ 2000000; exact gz_m 188 (by omega)⟩, trivial⟩ (fun I123 hI123 FI123 q124 p124 => ?_)
      have t125 := p124 0 216 (fun q => absurd q.1 (by decide))
      have t126 := p124 0 217 (fun q => absurd q.1 (by decide))
      have t127 := p124 0 218 (fun q => absurd q.1 (by decide))
      have f128 := (gr_b_0_216 hI123)
      have f129 := (gr_b_0_217 hI123)
      have f130 := (gr_b_0_218 hI123)
      exact gv_iret hD rfl ⟨I123, J110, rfl, hI123, FI123, FJ110, ⟨_, rfl, by exact gz_m 189 (by omega), by exact gz_m 190 (by omega), by exact gz_m 191 (by omega), by exact gz_m 192 (by omega), by exact gz_m 193 (by omega), by exact gz_m 194 (by omega), (gr_ocl q108.2.2.2.2.2.2.1 (gr_GS_of p116 q116 p124 q124) (by exact gz_m 195 (by omega)) (by exact gz_m 196 (by omega)) ⟨by exact gz_m 197 (by omega), by exact gz_m 198 (by omega)⟩ (by exact gz_m 199 (by omega)) (by exact gz_m 200 (by omega)) (by exact gz_m 201 (by omega)) (by exact gz_m 202 (by omega)))⟩⟩
    by_cases c131 : ((I 134 (Int.toNat a1))) = 3
    · refine gv_tabAt hD 3 rfl ⟨by exact gz_m 203 (by omega), by exact gz_m 204 (by omega)⟩ c131 ⟨by decide, by decide⟩ rfl (t := 160) rfl ?_
      have t132 := gr_GH_b x0 (x := a1) ⟨by exact gz_m 205 (by omega), by exact gz_m 206 (by omega)⟩
      have t133 := gr_GH_k x0 (x := a1) ⟨by exact gz_m 207 (by omega), by exact gz_m 208 (by omega)⟩
      refine gv_run 7 true hD (pc' := 169) (lv' := [(0, .inr (.inr (some 0))), (1, .inl a1), (2, .inl a2), (3, .inl a3)]) (st' := [.inl a1, .inr (.inr (some 137)), .inl 0, .inl 0, .inl 2, .inr (.inr (some 0))]) (h' := gr_h I J) (C := (((((((True ∧ True) ∧ True) ∧ True) ∧ True) ∧ True) ∧ True) ∧ True)) rfl ⟨⟨⟨⟨⟨⟨⟨trivial, trivial⟩, trivial⟩, trivial⟩, trivial⟩, trivial⟩, trivial⟩, trivial⟩ ?_
      refine gv_run 1 true hD (pc' := 170) (lv' := [(0, .inr (.inr (some 0))), (1, .inl a1), (2, .inl a2), (3, .inl a3)]) (st' := [.inr (.inl (J 137 (Int.toNat a1))), .inl 0, .inl 0, .inl 2, .inr (.inr (some 0))]) (h' := gr_h I J) (C := (True ∧ (0 ≤ a1 ∧ a1 < ((2000 : Nat) : Int)))) rfl ⟨trivial, ⟨by exact gz_m 209 (by omega), by exact gz_m 210 (by omega)⟩⟩ ?_
      obtain ⟨r134, h134, E134, P134⟩ := r_heap_w (ws0 := ws0) (tb := tb) hws htb ext I J hI 2 0 0 ((J 137 (Int.toNat a1))) ⟨by exact gz_m 211 (by omega), by exact gz_m 212 (by omega)⟩ ⟨by exact gz_m 213 (by omega), by exact gz_m 214 (by omega)⟩ ⟨by exact gz_m 215 (by omega), by exact gz_m 216 (by omega)⟩ (by exact gz_m 217 (by omega)) (by exact gz_m 218 (by omega)) (by exact gz_m 219 (by omega))
      obtain ⟨I135, J136, rfl, hI135, g134, k134, ⟨z134, rfl, q134⟩⟩ := P134
      have FI135 := gr_frt FI g134 rfl rfl
      have FJ136 := gr_fjt FJ k134 rfl rfl
      have t137 := g134 0 217 rfl
      have f138 := (gr_b_0_216 hI135)
      have f139 := (gr_b_0_217 hI135)
      have f140 := (gr_b_0_218 hI135)
      refine gv_callV hD rfl (As := [.inl 2, .inl 0, .inl 0, .inr (.inl (J 137 (Int.toNat a1)))]) (st := []) rfl (by decide) rfl rfl (gr_lV hws rfl) (Nat.le_of_ble_eq_true rfl) (gz_Ev_mono (d := 1) (by exact gz_m 220 (by omega)) E134) ?_
      show gv_X _ _ (173, [(0, .inr (.inr (some 0))), (1, .inl a1), (2, .inl a2), (3, .inl a3)], [.inl z134], gr_sh ++ ext, gr_h I135 J136)
      refine gr_gst (a := 137) (k := (Int.toNat z134)) (z := ((I135 0 216) - (I 0 216))) hI135 FI135 rfl rfl ⟨⟨by show 0 ≤ _; exact gz_m 221 (by omega), by show _ ≤ 2000000; exact gz_m 222 (by omega)⟩, trivial⟩ (fun I141 hI141 FI141 q142 p142 => ?_)
      have t143 := p142 0 216 (fun q => absurd q.1 (by decide))
      have t144 := p142 0 217 (fun q => absurd q.1 (by decide))
      have t145 := p142 0 218 (fun q => absurd q.1 (by decide))
      have f146 := (gr_b_0_216 hI141)
      have f147 := (gr_b_0_217 hI141)
      have f148 := (gr_b_0_218 hI141)
      refine gr_gst (a := 137) (k := (5000 + Int.toNat z134)) (z := (c9 + a2)) hI141 FI141 rfl rfl ⟨⟨by show 0 ≤ _; exact gz_m 223 (by omega), by show _ ≤ 2000000; exact gz_m 224 (by omega)⟩, trivial⟩ (fun I149 hI149 FI149 q150 p150 => ?_)
      have t151 := p150 0 216 (fun q => absurd q.1 (by decide))
      have t152 := p150 0 217 (fun q => absurd q.1 (by decide))
      have t153 := p150 0 218 (fun q => absurd q.1 (by decide))
      have f154 := (gr_b_0_216 hI149)
      have f155 := (gr_b_0_217 hI149)
      have f156 := (gr_b_0_218 hI149)
      exact gv_iret hD rfl ⟨I149, J136, rfl, hI149, FI149, FJ136, ⟨_, rfl, by exact gz_m 225 (by omega), by exact gz_m 226 (by omega), by exact gz_m 227 (by omega), by exact gz_m 228 (by omega), by exact gz_m 229 (by omega), by exact gz_m 230 (by omega), (gr_ocl q134.2.2.2.2.2.2.1 (gr_GS_of p142 q142 p150 q150) (by exact gz_m 231 (by omega)) (by exact gz_m 232 (by omega)) ⟨by exact gz_m 233 (by omega), by exact gz_m 234 (by omega)⟩ (by exact gz_m 235 (by omega)) (by exact gz_m 236 (by omega)) (by exact gz_m 237 (by omega)) (by exact gz_m 238 (by omega)))⟩⟩
    by_cases c157 : ((I 134 (Int.toNat a1))) = 4
    · refine gv_tabAt hD 4 rfl ⟨by exact gz_m 239 (by omega), by exact gz_m 240 (by omega)⟩ c157 ⟨by decide, by decide⟩ rfl (t := 70) rfl ?_
      have t158 := gr_GH_b x0 (x := a1) ⟨by exact gz_m 241 (by omega), by exact gz_m 242 (by omega)⟩
      have t159 := gr_GH_4 x0 (x := a1) ⟨by exact gz_m 243 (by omega), by exact gz_m 244 (by omega)⟩ (by exact gz_m 245 (by omega))
      have f160 := (gr_b_135 hI (Int.toNat a1))
      refine gv_run 5 true hD (pc' := 77) (lv' := [(0, .inr (.inr (some 0))), (1, .inl a1), (2, .inl a2), (3, .inl a3)]) (st' := [.inl (I 135 (Int.toNat a1)), .inr (.inr (some 0))]) (h' := gr_h I J) (C := (((((True ∧ True) ∧ True) ∧ True) ∧ True) ∧ (0 ≤ a1 ∧ a1 < ((2000 : Nat) : Int)))) rfl ⟨⟨⟨⟨⟨trivial, trivial⟩, trivial⟩, trivial⟩, trivial⟩, ⟨by exact gz_m 246 (by omega), by exact gz_m 247 (by omega)⟩⟩ ?_
      refine gv_run 2 true hD (pc' := 79) (lv' := [(0, .inr (.inr (some 0))), (1, .inl a1), (2, .inl a2), (3, .inl a3)]) (st' := [.inl a3, .inl a2, .inl (I 135 (Int.toNat a1)), .inr (.inr (some 0))]) (h' := gr_h I J) (C := ((True ∧ True) ∧ True)) rfl ⟨⟨trivial, trivial⟩, trivial⟩ ?_
      obtain ⟨r161, h161, E161, P161⟩ := ihR I J hI ((I 135 (Int.toNat a1))) a2 a3 ⟨by exact gz_m 248 (by omega), by exact gz_m 249 (by omega)⟩ ⟨by exact gz_m 250 (by omega), by exact gz_m 251 (by omega)⟩ ⟨by exact gz_m 252 (by omega), by exact gz_m 253 (by omega)⟩ x0 (by exact gz_m 254 (by omega)) (by exact gz_m 255 (by omega)) x3 (by exact gz_m 256 (by omega)) (by exact gz_m 257 (by omega)) (by exact gz_m 258 (by omega)) (by exact gz_m 259 (by omega)) (by exact gz_m 260 (by omega)) (by exact gz_m 261 (by omega)) (by exact gz_m 262 (by omega)) (by exact gz_m 263 (by omega)) (by exact gz_m 264 (by omega)) (by exact gz_m 265 (by omega)) (by exact gz_m 266 (by omega)) (by exact gz_m 267 (by omega))
      obtain ⟨I162, J163, rfl, hI162, g161, k161, ⟨z161, rfl, q161⟩⟩ := P161
      have FI162 := gr_frt FI g161 rfl rfl
      have FJ163 := gr_fjt FJ k161 rfl rfl
      have t164 := g161 0 217 rfl
      have f165 := (gr_b_0_216 hI162)
      have f166 := (gr_b_0_217 hI162)
      have f167 := (gr_b_0_218 hI162)
      refine gv_callV hD rfl (As := [.inl (I 135 (Int.toNat a1)), .inl a2, .inl a3]) (st := []) rfl (by decide) rfl rfl (gr_lV hws rfl) (Nat.le_of_ble_eq_true rfl) (gz_Ev_mono (d := (302 + nr)) (Nat.le_refl _) E161) ?_
      show gv_X _ _ (82, [(0, .inr (.inr (some 0))), (1, .inl a1), (2, .inl a2), (3, .inl a3)], [.inl z161], gr_sh ++ ext, gr_h I162 J163)
      refine gv_run 1 true hD (pc' := 84) (lv' := [(4, .inl z161), (0, .inr (.inr (some 0))), (1, .inl a1), (2, .inl a2), (3, .inl a3)]) (st' := []) (h' := gr_h I162 J163) (C := (True ∧ True)) rfl ⟨trivial, trivial⟩ ?_
      have t168 := gr_HF_x (q161.2.2.2.2.2.2).1 x3 x0 (x := a1) ⟨by exact gz_m 268 (by omega), by exact gz_m 269 (by omega)⟩
      have t169 := gr_GH_4 (gr_GH_fr x0 (q161.2.2.2.2.2.2).1 x3) (x := a1) ⟨by exact gz_m 270 (by omega), by exact gz_m 271 (by omega)⟩ (by exact gz_m 272 (by omega))
      have t170 := gr_HF_x (q161.2.2.2.2.2.2).1 x3 x0 (x := a3) ⟨by exact gz_m 273 (by omega), by exact gz_m 274 (by omega)⟩
      refine gv_run 7 true hD (pc' := 94) (lv' := [(4, .inl z161), (0, .inr (.inr (some 0))), (1, .inl a1), (2, .inl a2), (3, .inl a3)]) (st' := [.inl a1, .inr (.inr (some 136)), .inr (.inr (some 0)), .inl z161, .inl 4, .inr (.inr (some 0))]) (h' := gr_h I162 J163) (C := (((((((True ∧ True) ∧ True) ∧ True) ∧ True) ∧ True) ∧ True) ∧ True)) rfl ⟨⟨⟨⟨⟨⟨⟨trivial, trivial⟩, trivial⟩, trivial⟩, trivial⟩, trivial⟩, trivial⟩, trivial⟩ ?_
      have f171 := (gr_b_136 hI162 (Int.toNat a1))
      refine gv_run 1 true hD (pc' := 95) (lv' := [(4, .inl z161), (0, .inr (.inr (some 0))), (1, .inl a1), (2, .inl a2), (3, .inl a3)]) (st' := [.inl (I162 136 (Int.toNat a1)), .inr (.inr (some 0)), .inl z161, .inl 4, .inr (.inr (some 0))]) (h' := gr_h I162 J163) (C := (True ∧ (0 ≤ a1 ∧ a1 < ((2000 : Nat) : Int)))) rfl ⟨trivial, ⟨by exact gz_m 275 (by omega), by exact gz_m 276 (by omega)⟩⟩ ?_
      refine gv_run 2 true hD (pc' := 97) (lv' := [(4, .inl z161), (0, .inr (.inr (some 0))), (1, .inl a1), (2, .inl a2), (3, .inl a3)]) (st' := [.inl a3, .inl a2, .inl (I162 136 (Int.toNat a1)), .inr (.inr (some 0)), .inl z161, .inl 4, .inr (.inr (some 0))]) (h' := gr_h I162 J163) (C := ((True ∧ True) ∧ True)) rfl ⟨⟨trivial, trivial⟩, trivial⟩ ?_
      obtain ⟨r172, h172, E172, P172⟩ := ihR I162 J163 hI162 ((I162 136 (Int.toNat a1))) a2 a3 ⟨by exact gz_m 277 (by omega), by exact gz_m 278 (by omega)⟩ ⟨by exact gz_m 279 (by omega), by exact gz_m 280 (by omega)⟩ ⟨by exact gz_m 281 (by omega), by exact gz_m 282 (by omega)⟩ (gr_GH_fr x0 (q161.2.2.2.2.2.2).1 x3) (by exact gz_m 283 (by omega)) (by exact gz_m 284 (by omega)) (show gr_DJ a9 b9 I162 from by unfold gr_DJ at x3 ⊢; exact gz_m 285 (by omega)) (by exact gz_m 286 (by omega)) (by exact gz_m 287 (by omega)) (by exact gz_m 288 (by omega)) (by exact gz_m 289 (by omega)) (by exact gz_m 290 (by omega)) (by exact gz_m 291 (by omega)) (by exact gz_m 292 (by omega)) (by exact gz_m 293 (by omega)) (by exact gz_m 294 (by omega)) (by exact gz_m 295 (by omega)) (by exact gz_m 296 (by omega)) (by exact gz_m 297 (by omega))
      obtain ⟨I173, J174, rfl, hI173, g172, k172, ⟨z172, rfl, q172⟩⟩ := P172
      have FI173 := gr_frt FI162 g172 rfl rfl
      have FJ174 := gr_fjt FJ163 k172 rfl rfl
      have t175 := g172 0 217 rfl
      have f176 := (gr_b_0_216 hI173)
      have f177 := (gr_b_0_217 hI173)
      have f178 := (gr_b_0_218 hI173)
      refine gv_callV hD rfl (As := [.inl (I162 136 (Int.toNat a1)), .inl a2, .inl a3]) (st := [.inl z161, .inl 4, .inr (.inr (some 0))]) rfl (by decide) rfl rfl (gr_lV hws rfl) (Nat.le_of_ble_eq_true rfl) (gz_Ev_mono (d := (302 + nr)) (Nat.le_refl _) E172) ?_
      show gv_X _ _ (100, [(4, .inl z161), (0, .inr (.inr (some 0))), (1, .inl a1), (2, .inl a2), (3, .inl a3)], [.inl z172, .inl z161, .inl 4, .inr (.inr (some 0))], gr_sh ++ ext, gr_h I173 J174)
      refine gv_run 1 true hD (pc' := 101) (lv' := [(4, .inl z161), (0, .inr (.inr (some 0))), (1, .inl a1), (2, .inl a2), (3, .inl a3)]) (st' := [.inr (.inl (Int64.ofNat 0)), .inl z172, .inl z161, .inl 4, .inr (.inr (some 0))]) (h' := gr_h I173 J174) (C := (True ∧ True)) rfl ⟨trivial, trivial⟩ ?_
      obtain ⟨r179, h179, E179, P179⟩ := r_heap_w (ws0 := ws0) (tb := tb) hws htb ext I173 J174 hI173 4 z161 z172 (Int64.ofNat 0) ⟨by exact gz_m 298 (by omega), by exact gz_m 299 (by omega)⟩ ⟨by exact gz_m 300 (by omega), by exact gz_m 301 (by omega)⟩ ⟨by exact gz_m 302 (by omega), by exact gz_m 303 (by omega)⟩ (by exact gz_m 304 (by omega)) (by exact gz_m 305 (by omega)) (by exact gz_m 306 (by omega))
      obtain ⟨I180, J181, rfl, hI180, g179, k179, ⟨z179, rfl, q179⟩⟩ := P179
      have FI180 := gr_frt FI173 g179 rfl rfl
      have FJ181 := gr_fjt FJ174 k179 rfl rfl
      have t182 := g179 0 217 rfl
      have f183 := (gr_b_0_216 hI180)
      have f184 := (gr_b_0_217 hI180)
      have f185 := (gr_b_0_218 hI180)
      refine gv_callV hD rfl (As := [.inl 4, .inl z161, .inl z172, .inr (.inl (Int64.ofNat 0))]) (st := []) rfl (by decide) rfl rfl (gr_lV hws rfl) (Nat.le_of_ble_eq_true rfl) (gz_Ev_mono (d := 1) (by exact gz_m 307 (by omega)) E179) ?_
      show gv_X _ _ (104, [(4, .inl z161), (0, .inr (.inr (some 0))), (1, .inl a1), (2, .inl a2), (3, .inl a3)], [.inl z179], gr_sh ++ ext, gr_h I180 J181)
      refine gr_gst (a := 137) (k := (Int.toNat z179)) (z := ((I180 0 216) - (I 0 216))) hI180 FI180 rfl rfl ⟨⟨by show 0 ≤ _; exact gz_m 308 (by omega), by show _ ≤ 2000000; exact gz_m 309 (by omega)⟩, trivial⟩ (fun I186 hI186 FI186 q187 p187 => ?_)
      have t188 := p187 0 216 (fun q => absurd q.1 (by decide))
      have t189 := p187 0 217 (fun q => absurd q.1 (by decide))
      have t190 := p187 0 218 (fun q => absurd q.1 (by decide))
      have f191 := (gr_b_0_216 hI186)
      have f192 := (gr_b_0_217 hI186)
      have f193 := (gr_b_0_218 hI186)
      refine gr_gst (a := 137) (k := (5000 + Int.toNat z179)) (z := (c9 + a2)) hI186 FI186 rfl rfl ⟨⟨by show 0 ≤ _; exact gz_m 310 (by omega), by show _ ≤ 2000000; exact gz_m 311 (by omega)⟩, trivial⟩ (fun I194 hI194 FI194 q195 p195 => ?_)
      have t196 := p195 0 216 (fun q => absurd q.1 (by decide))
      have t197 := p195 0 217 (fun q => absurd q.1 (by decide))
      have t198 := p195 0 218 (fun q => absurd q.1 (by decide))
      have f199 := (gr_b_0_216 hI194)
      have f200 := (gr_b_0_217 hI194)
      have f201 := (gr_b_0_218 hI194)
      exact gv_iret hD rfl ⟨I194, J181, rfl, hI194, FI194, FJ181, ⟨_, rfl, by exact gz_m 312 (by omega), by exact gz_m 313 (by omega), by exact gz_m 314 (by omega), by exact gz_m 315 (by omega), by exact gz_m 316 (by omega), by exact gz_m 317 (by omega), (gr_ok4 (c := (c9 + a2)) (gr_OK_w q161.2.2.2.2.2.2 (by exact gz_m 318 (by omega)) (Int.le_refl _)) (gr_OK_w q172.2.2.2.2.2.2 (by exact gz_m 319 (by omega)) (Int.le_refl _)) q179.2.2.2.2.2.2.1 (gr_GS_of p187 q187 p195 q195) (by exact gz_m 320 (by omega)) ⟨by exact gz_m 321 (by omega), by exact gz_m 322 (by omega)⟩ (by exact gz_m 323 (by omega)) (by exact gz_m 324 (by omega)) (by exact gz_m 325 (by omega)))⟩⟩
    refine gv_tabOut hD rfl ⟨by exact gz_m 326 (by omega), by exact gz_m 327 (by omega)⟩ (by exact gz_m 328 (by omega)) (t := 160) rfl ?_
    have t202 := gr_GH_b x0 (x := a1) ⟨by exact gz_m 329 (by omega), by exact gz_m 330 (by omega)⟩
    have t203 := gr_GH_k x0 (x := a1) ⟨by exact gz_m 331 (by omega), by exact gz_m 332 (by omega)⟩
    refine gv_run 7 true hD (pc' := 169) (lv' := [(0, .inr (.inr (some 0))), (1, .inl a1), (2, .inl a2), (3, .inl a3)]) (st' := [.inl a1, .inr (.inr (some 137)), .inl 0, .inl 0, .inl 2, .inr (.inr (some 0))]) (h' := gr_h I J) (C := (((((((True ∧ True) ∧ True) ∧ True) ∧ True) ∧ True) ∧ True) ∧ True)) rfl ⟨⟨⟨⟨⟨⟨⟨trivial, trivial⟩, trivial⟩, trivial⟩, trivial⟩, trivial⟩, trivial⟩, trivial⟩ ?_
    refine gv_run 1 true hD (pc' := 170) (lv' := [(0, .inr (.inr (some 0))), (1, .inl a1), (2, .inl a2), (3, .inl a3)]) (st' := [.inr (.inl (J 137 (Int.toNat a1))), .inl 0, .inl 0, .inl 2, .inr (.inr (some 0))]) (h' := gr_h I J) (C := (True ∧ (0 ≤ a1 ∧ a1 < ((2000 : Nat) : Int)))) rfl ⟨trivial, ⟨by exact gz_m 333 (by omega), by exact gz_m 334 (by omega)⟩⟩ ?_
    obtain ⟨r204, h204, E204, P204⟩ := r_heap_w (ws0 := ws0) (tb := tb) hws htb ext I J hI 2 0 0 ((J 137 (Int.toNat a1))) ⟨by exact gz_m 335 (by omega), by exact gz_m 336 (by omega)⟩ ⟨by exact gz_m 337 (by omega), by exact gz_m 338 (by omega)⟩ ⟨by exact gz_m 339 (by omega), by exact gz_m 340 (by omega)⟩ (by exact gz_m 341 (by omega)) (by exact gz_m 342 (by omega)) (by exact gz_m 343 (by omega))
    obtain ⟨I205, J206, rfl, hI205, g204, k204, ⟨z204, rfl, q204⟩⟩ := P204
    have FI205 := gr_frt FI g204 rfl rfl
    have FJ206 := gr_fjt FJ k204 rfl rfl
    have t207 := g204 0 217 rfl
    have f208 := (gr_b_0_216 hI205)
    have f209 := (gr_b_0_217 hI205)
    have f210 := (gr_b_0_218 hI205)
    refine gv_callV hD rfl (As := [.inl 2, .inl 0, .inl 0, .inr (.inl (J 137 (Int.toNat a1)))]) (st := []) rfl (by decide) rfl rfl (gr_lV hws rfl) (Nat.le_of_ble_eq_true rfl) (gz_Ev_mono (d := 1) (by exact gz_m 344 (by omega)) E204) ?_
    show gv_X _ _ (173, [(0, .inr (.inr (some 0))), (1, .inl a1), (2, .inl a2), (3, .inl a3)], [.inl z204], gr_sh ++ ext, gr_h I205 J206)
    refine gr_gst (a := 137) (k := (Int.toNat z204)) (z := ((I205 0 216) - (I 0 216))) hI205 FI205 rfl rfl ⟨⟨by show 0 ≤ _; exact gz_m 345 (by omega), by show _ ≤ 2000000; exact gz_m 346 (by omega)⟩, trivial⟩ (fun I211 hI211 FI211 q212 p212 => ?_)
    have t213 := p212 0 216 (fun q => absurd q.1 (by decide))
    have t214 := p212 0 217 (fun q => absurd q.1 (by decide))
    have t215 := p212 0 218 (fun q => absurd q.1 (by decide))
    have f216 := (gr_b_0_216 hI211)
    have f217 := (gr_b_0_217 hI211)
    have f218 := (gr_b_0_218 hI211)
    refine gr_gst (a := 137) (k := (5000 + Int.toNat z204)) (z := (c9 + a2)) hI211 FI211 rfl rfl ⟨⟨by show 0 ≤ _; exact gz_m 347 (by omega), by show _ ≤ 2000000; exact gz_m 348 (by omega)⟩, trivial⟩ (fun I219 hI219 FI219 q220 p220 => ?_)
    have t221 := p220 0 216 (fun q => absurd q.1 (by decide))
    have t222 := p220 0 217 (fun q => absurd q.1 (by decide))
    have t223 := p220 0 218 (fun q => absurd q.1 (by decide))
    have f224 := (gr_b_0_216 hI219)
    have f225 := (gr_b_0_217 hI219)
    have f226 := (gr_b_0_218 hI219)
    exact gv_iret hD rfl ⟨I219, J206, rfl, hI219, FI219, FJ206, ⟨_, rfl, by exact gz_m 349 (by omega), by exact gz_m 350 (by omega), by exact gz_m 351 (by omega), by exact gz_m 352 (by omega), by exact gz_m 353 (by omega), by exact gz_m 354 (by omega), (gr_ocl q204.2.2.2.2.2.2.1 (gr_GS_of p212 q212 p220 q220) (by exact gz_m 355 (by omega)) (by exact gz_m 356 (by omega)) ⟨by exact gz_m 357 (by omega), by exact gz_m 358 (by omega)⟩ (by exact gz_m 359 (by omega)) (by exact gz_m 360 (by omega)) (by exact gz_m 361 (by omega)) (by exact gz_m 362 (by omega)))⟩⟩
  · refine gv_run 1 true hD (pc' := 8) (lv' := [(0, .inr (.inr (some 0))), (1, .inl a1), (2, .inl a2), (3, .inl a3)]) (st' := [.inl 0]) (h' := gr_h I J) (C := (True ∧ True)) rfl ⟨trivial, trivial⟩ ?_
    exact gv_iret hD rfl ⟨I, J, rfl, hI, FI, FJ, ⟨_, rfl, by exact gz_m 363 (by omega), by exact gz_m 364 (by omega), by exact gz_m 365 (by omega), by exact gz_m 366 (by omega), by exact gz_m 367 (by omega), by exact gz_m 368 (by omega), (gr_OK_lg (by exact gz_m 369 (by omega)) (by exact gz_m 370 (by omega)))⟩⟩
set_option maxHeartbeats 8000000 in
set_option maxRecDepth 100000 in
theorem r_redex {ws0 : List Cond} {tb : String → gz_T} (hws : ∀ w ∈ gr_ws, w ∈ ws0) (htb : tb RX13 = gr_T) (ext : gz_Sh) (a9 : Int) (b9 : Int) (S9 : Int) : ∀ (nr : Nat) (I : gr_I) (J : gr_J) (hI : gr_Inv I) (a1 : Int) (ha1 : 0 ≤ a1 ∧ a1 ≤ 1299) (x0 : gr_GH a9 b9 S9 I) (x1 : a9 ≤ a1) (x2 : a1 < b9) (_ : ((I 137 (Int.toNat a1))).toNat < nr), ∃ r h', gz_Ev ws0 tb (0 + nr) (yX13_redex, cX13_redex, 3, (some .int)) [.inr (.inr (some 0)), .inl a1] (gr_sh ++ ext) (gr_h I J) r (gr_sh ++ ext) h' 0 0 ∧ (h' = gr_h I J ∧ (∃ z : Int, r = some (.inl z) ∧ (-1) ≤ z ∧ z ≤ 1299 ∧ (z < 0 ∨ ((a9 ≤ z ∧ z < b9) ∧ I 134 (Int.toNat z) = 4 ∧ I 134 (Int.toNat (I 135 (Int.toNat z))) = 0)))) := by
  intro nr
  induction nr with
  | zero => intro I J hI a1 ha1 x0 x1 x2 hnr; exact gz_m 0 (by omega)
  | succ nr ihR =>
  intro I J hI a1 ha1 x0 x1 x2 hnr
  have hD : gv_D (gr_E ws0 tb (0 + nr) (yX13_redex, cX13_redex, 3, (some .int)) kX13_redex) := gq_of oX13_redex
  refine gr_ev (d := (0 + nr)) (l := kX13_redex) (Po := fun r h' => (h' = gr_h I J ∧ (∃ z : Int, r = some (.inl z) ∧ (-1) ≤ z ∧ z ≤ 1299 ∧ (z < 0 ∨ ((a9 ≤ z ∧ z < b9) ∧ I 134 (Int.toNat z) = 4 ∧ I 134 (Int.toNat (I 135 (Int.toNat z))) = 0))))) htb rfl (Nat.le_of_ble_eq_true rfl) ?_
  have t1 := x0.1
  have f2 := (gr_b_134 hI (Int.toNat a1))
  refine gv_run 4 true hD (pc' := 6) (lv' := [(0, .inr (.inr (some 0))), (1, .inl a1)]) (st' := [.inl (I 134 (Int.toNat a1))]) (h' := gr_h I J) (C := ((((True ∧ True) ∧ True) ∧ True) ∧ (0 ≤ a1 ∧ a1 < ((2000 : Nat) : Int)))) rfl ⟨⟨⟨⟨trivial, trivial⟩, trivial⟩, trivial⟩, ⟨by exact gz_m 1 (by omega), by exact gz_m 2 (by omega)⟩⟩ ?_
  refine gv_if_ne (t := 20) hD rfl rfl ⟨by exact gz_m 3 (by omega), by exact gz_m 4 (by omega)⟩ (fun c3 => ?_) (fun c3 => ?_)
  · have f4 := (gr_b_134 hI (Int.toNat a1))
    refine gv_run 4 true hD (pc' := 26) (lv' := [(0, .inr (.inr (some 0))), (1, .inl a1)]) (st' := [.inl (I 134 (Int.toNat a1))]) (h' := gr_h I J) (C := ((((True ∧ True) ∧ True) ∧ True) ∧ (0 ≤ a1 ∧ a1 < ((2000 : Nat) : Int)))) rfl ⟨⟨⟨⟨trivial, trivial⟩, trivial⟩, trivial⟩, ⟨by exact gz_m 5 (by omega), by exact gz_m 6 (by omega)⟩⟩ ?_
    refine gv_run 1 true hD (pc' := 27) (lv' := [(0, .inr (.inr (some 0))), (1, .inl a1)]) (st' := [.inl 4, .inl (I 134 (Int.toNat a1))]) (h' := gr_h I J) (C := (True ∧ True)) rfl ⟨trivial, trivial⟩ ?_
    refine gv_icmp_eq (t := 32) hD rfl rfl ⟨⟨by exact gz_m 7 (by omega), by exact gz_m 8 (by omega)⟩, ⟨by exact gz_m 9 (by omega), by exact gz_m 10 (by omega)⟩⟩ (fun c5 => ?_) (fun c5 => ?_)
    · have t6 := gr_GH_b x0 (x := a1) ⟨by exact gz_m 11 (by omega), by exact gz_m 12 (by omega)⟩
      have t7 := gr_GH_4 x0 (x := a1) ⟨by exact gz_m 13 (by omega), by exact gz_m 14 (by omega)⟩ (by exact gz_m 15 (by omega))
      have f8 := (gr_b_135 hI (Int.toNat a1))
      refine gv_run 6 true hD (pc' := 42) (lv' := [(0, .inr (.inr (some 0))), (1, .inl a1)]) (st' := [.inl (I 135 (Int.toNat a1)), .inr (.inr (some 134))]) (h' := gr_h I J) (C := ((((((True ∧ True) ∧ True) ∧ True) ∧ True) ∧ True) ∧ (0 ≤ a1 ∧ a1 < ((2000 : Nat) : Int)))) rfl ⟨⟨⟨⟨⟨⟨trivial, trivial⟩, trivial⟩, trivial⟩, trivial⟩, trivial⟩, ⟨by exact gz_m 16 (by omega), by exact gz_m 17 (by omega)⟩⟩ ?_
      have f9 := (gr_b_134 hI (Int.toNat ((I 135 (Int.toNat a1)))))
      refine gv_run 1 true hD (pc' := 43) (lv' := [(0, .inr (.inr (some 0))), (1, .inl a1)]) (st' := [.inl (I 134 (Int.toNat ((I 135 (Int.toNat a1)))))]) (h' := gr_h I J) (C := (True ∧ (0 ≤ ((I 135 (Int.toNat a1))) ∧ ((I 135 (Int.toNat a1))) < ((2000 : Nat) : Int)))) rfl ⟨trivial, ⟨by exact gz_m 18 (by omega), by exact gz_m 19 (by omega)⟩⟩ ?_
      refine gv_if_ne (t := 48) hD rfl rfl ⟨by exact gz_m 20 (by omega), by exact gz_m 21 (by omega)⟩ (fun c10 => ?_) (fun c10 => ?_)
      · have f11 := (gr_b_135 hI (Int.toNat a1))
        refine gv_run 5 true hD (pc' := 55) (lv' := [(0, .inr (.inr (some 0))), (1, .inl a1)]) (st' := [.inl (I 135 (Int.toNat a1)), .inr (.inr (some 0))]) (h' := gr_h I J) (C := (((((True ∧ True) ∧ True) ∧ True) ∧ True) ∧ (0 ≤ a1 ∧ a1 < ((2000 : Nat) : Int)))) rfl ⟨⟨⟨⟨⟨trivial, trivial⟩, trivial⟩, trivial⟩, trivial⟩, ⟨by exact gz_m 22 (by omega), by exact gz_m 23 (by omega)⟩⟩ ?_
        obtain ⟨r12, h12, E12, P12⟩ := ihR I J hI ((I 135 (Int.toNat a1))) ⟨by exact gz_m 24 (by omega), by exact gz_m 25 (by omega)⟩ x0 (by exact gz_m 26 (by omega)) (by exact gz_m 27 (by omega)) (by exact gz_m 28 (by omega))
        obtain ⟨rfl, ⟨z12, rfl, q12⟩⟩ := P12
        refine gv_callV hD rfl (As := [.inl (I 135 (Int.toNat a1))]) (st := []) rfl (by decide) rfl rfl (gr_lV hws rfl) (Nat.le_of_ble_eq_true rfl) (gz_Ev_mono (d := (0 + nr)) (Nat.le_refl _) E12) ?_
        show gv_X _ _ (58, [(0, .inr (.inr (some 0))), (1, .inl a1)], [.inl z12], gr_sh ++ ext, gr_h I J)
        refine gv_run 2 true hD (pc' := 60) (lv' := [(2, .inl z12), (0, .inr (.inr (some 0))), (1, .inl a1)]) (st' := [.inl z12]) (h' := gr_h I J) (C := ((True ∧ True) ∧ True)) rfl ⟨⟨trivial, trivial⟩, trivial⟩ ?_
        refine gv_if_lt (t := 67) hD rfl rfl ⟨by exact gz_m 29 (by omega), by exact gz_m 30 (by omega)⟩ (fun c13 => ?_) (fun c13 => ?_)
        · have f14 := (gr_b_136 hI (Int.toNat a1))
          refine gv_run 5 true hD (pc' := 74) (lv' := [(2, .inl z12), (0, .inr (.inr (some 0))), (1, .inl a1)]) (st' := [.inl (I 136 (Int.toNat a1)), .inr (.inr (some 0))]) (h' := gr_h I J) (C := (((((True ∧ True) ∧ True) ∧ True) ∧ True) ∧ (0 ≤ a1 ∧ a1 < ((2000 : Nat) : Int)))) rfl ⟨⟨⟨⟨⟨trivial, trivial⟩, trivial⟩, trivial⟩, trivial⟩, ⟨by exact gz_m 31 (by omega), by exact gz_m 32 (by omega)⟩⟩ ?_
          obtain ⟨r15, h15, E15, P15⟩ := ihR I J hI ((I 136 (Int.toNat a1))) ⟨by exact gz_m 33 (by omega), by exact gz_m 34 (by omega)⟩ x0 (by exact gz_m 35 (by omega)) (by exact gz_m 36 (by omega)) (by exact gz_m 37 (by omega))
          obtain ⟨rfl, ⟨z15, rfl, q15⟩⟩ := P15
          refine gv_callV hD rfl (As := [.inl (I 136 (Int.toNat a1))]) (st := []) rfl (by decide) rfl rfl (gr_lV hws rfl) (Nat.le_of_ble_eq_true rfl) (gz_Ev_mono (d := (0 + nr)) (Nat.le_refl _) E15) ?_
          show gv_X _ _ (77, [(2, .inl z12), (0, .inr (.inr (some 0))), (1, .inl a1)], [.inl z15], gr_sh ++ ext, gr_h I J)
          exact gv_iret hD rfl ⟨rfl, ⟨_, rfl, by exact gz_m 38 (by omega)⟩⟩
        · refine gv_run 2 true hD (pc' := 77) (lv' := [(2, .inl z12), (0, .inr (.inr (some 0))), (1, .inl a1)]) (st' := [.inl z12]) (h' := gr_h I J) (C := ((True ∧ True) ∧ True)) rfl ⟨⟨trivial, trivial⟩, trivial⟩ ?_
          exact gv_iret hD rfl ⟨rfl, ⟨_, rfl, by exact gz_m 39 (by omega)⟩⟩
      · refine gv_run 1 true hD (pc' := 47) (lv' := [(0, .inr (.inr (some 0))), (1, .inl a1)]) (st' := [.inl a1]) (h' := gr_h I J) (C := (True ∧ True)) rfl ⟨trivial, trivial⟩ ?_
        exact gv_iret hD rfl ⟨rfl, ⟨_, rfl, by exact gz_m 40 (by omega)⟩⟩
    · refine gv_run 1 true hD (pc' := 31) (lv' := [(0, .inr (.inr (some 0))), (1, .inl a1)]) (st' := [.inl (-1)]) (h' := gr_h I J) (C := (True ∧ True)) rfl ⟨trivial, trivial⟩ ?_
      exact gv_iret hD rfl ⟨rfl, ⟨_, rfl, by exact gz_m 41 (by omega)⟩⟩
  · have t16 := gr_GH_b x0 (x := a1) ⟨by exact gz_m 42 (by omega), by exact gz_m 43 (by omega)⟩
    have t17 := gr_GH_0 x0 (x := a1) ⟨by exact gz_m 44 (by omega), by exact gz_m 45 (by omega)⟩ (by exact gz_m 46 (by omega))
    have f18 := (gr_b_135 hI (Int.toNat a1))
    refine gv_run 5 true hD (pc' := 16) (lv' := [(0, .inr (.inr (some 0))), (1, .inl a1)]) (st' := [.inl (I 135 (Int.toNat a1)), .inr (.inr (some 0))]) (h' := gr_h I J) (C := (((((True ∧ True) ∧ True) ∧ True) ∧ True) ∧ (0 ≤ a1 ∧ a1 < ((2000 : Nat) : Int)))) rfl ⟨⟨⟨⟨⟨trivial, trivial⟩, trivial⟩, trivial⟩, trivial⟩, ⟨by exact gz_m 47 (by omega), by exact gz_m 48 (by omega)⟩⟩ ?_
    obtain ⟨r19, h19, E19, P19⟩ := ihR I J hI ((I 135 (Int.toNat a1))) ⟨by exact gz_m 49 (by omega), by exact gz_m 50 (by omega)⟩ x0 (by exact gz_m 51 (by omega)) (by exact gz_m 52 (by omega)) (by exact gz_m 53 (by omega))
    obtain ⟨rfl, ⟨z19, rfl, q19⟩⟩ := P19
    refine gv_callV hD rfl (As := [.inl (I 135 (Int.toNat a1))]) (st := []) rfl (by decide) rfl rfl (gr_lV hws rfl) (Nat.le_of_ble_eq_true rfl) (gz_Ev_mono (d := (0 + nr)) (Nat.le_refl _) E19) ?_
    show gv_X _ _ (19, [(0, .inr (.inr (some 0))), (1, .inl a1)], [.inl z19], gr_sh ++ ext, gr_h I J)
    exact gv_iret hD rfl ⟨rfl, ⟨_, rfl, by exact gz_m 54 (by omega)⟩⟩
set_option maxHeartbeats 8000000 in
set_option maxRecDepth 100000 in
theorem r_stepped {ws0 : List Cond} {tb : String → gz_T} (hws : ∀ w ∈ gr_ws, w ∈ ws0) (htb : tb RX13 = gr_T) (ext : gz_Sh) (a9 : Int) (b9 : Int) (S9 : Int) : ∀ (nr : Nat) (I : gr_I) (J : gr_J) (hI : gr_Inv I) (a1 : Int) (a2 : Int) (ha1 : 0 ≤ a1 ∧ a1 ≤ 1299) (ha2 : 0 ≤ a2 ∧ a2 ≤ 1299) (x0 : gr_GH a9 b9 S9 I) (x1 : a9 ≤ a1) (x2 : a1 < b9) (x3 : gr_DJ a9 b9 I) (x4 : I 0 216 ≤ I 0 217) (x5 : I 0 217 - 300 ≤ I 0 216) (x6 : 300 ≤ I 0 217) (x7 : a9 ≤ a2) (x8 : a2 < b9) (x9 : I 134 (Int.toNat a2) = 4) (x10 : I 134 (Int.toNat (I 135 (Int.toNat a2))) = 0) (x11 : S9 ≤ 1000000) (_ : ((I 137 (Int.toNat a1))).toNat < nr), ∃ r h', gz_Ev ws0 tb (603 + nr) (yX13_stepped, cX13_stepped, 4, (some .int)) [.inr (.inr (some 0)), .inl a1, .inl a2] (gr_sh ++ ext) (gr_h I J) r (gr_sh ++ ext) h' 0 0 ∧ (∃ (I' : gr_I) (J' : gr_J), h' = gr_h I' J' ∧ gr_Inv I' ∧ gr_fr [216, 218] [134, 135, 136, 137] I I' ∧ gr_fj [216, 218] [134, 135, 136, 137] J J' ∧ (∃ z : Int, r = some (.inl z) ∧ 0 ≤ z ∧ z ≤ 1299 ∧ (I' 0 217 = I 0 217) ∧ (I 0 216 ≤ I' 0 216) ∧ (I' 0 216 ≤ I' 0 217) ∧ (I 0 218 ≤ I' 0 218) ∧ (gr_OK I I' z (I 137 (5000 + (Int.toNat a1))) (S9 + 600)))) := by
  intro nr
  induction nr with
  | zero => intro I J hI a1 a2 ha1 ha2 x0 x1 x2 x3 x4 x5 x6 x7 x8 x9 x10 x11 hnr; exact gz_m 0 (by omega)
  | succ nr ihR =>
  intro I J hI a1 a2 ha1 ha2 x0 x1 x2 x3 x4 x5 x6 x7 x8 x9 x10 x11 hnr
  have FI : gr_fr [216, 218] [134, 135, 136, 137] I I := fun _ _ _ => rfl
  have FJ : gr_fj [216, 218] [134, 135, 136, 137] J J := fun _ _ _ => rfl
  have hD : gv_D (gr_E ws0 tb (603 + nr) (yX13_stepped, cX13_stepped, 4, (some .int)) kX13_stepped) := gq_of oX13_stepped
  refine gr_ev (d := (603 + nr)) (l := kX13_stepped) (Po := fun r h' => (∃ (I' : gr_I) (J' : gr_J), h' = gr_h I' J' ∧ gr_Inv I' ∧ gr_fr [216, 218] [134, 135, 136, 137] I I' ∧ gr_fj [216, 218] [134, 135, 136, 137] J J' ∧ (∃ z : Int, r = some (.inl z) ∧ 0 ≤ z ∧ z ≤ 1299 ∧ (I' 0 217 = I 0 217) ∧ (I 0 216 ≤ I' 0 216) ∧ (I' 0 216 ≤ I' 0 217) ∧ (I 0 218 ≤ I' 0 218) ∧ (gr_OK I I' z (I 137 (5000 + (Int.toNat a1))) (S9 + 600))))) htb rfl (Nat.le_of_ble_eq_true rfl) ?_
  have f1 := (gr_b_0_216 hI)
  have f2 := (gr_b_0_217 hI)
  have f3 := (gr_b_0_218 hI)
  have t4 := x0.1
  have f5 := (gr_b_0_218 hI)
  refine gv_run 2 true hD (pc' := 4) (lv' := [(0, .inr (.inr (some 0))), (1, .inl a1), (2, .inl a2)]) (st' := [.inl (I 0 218)]) (h' := gr_h I J) (C := ((True ∧ True) ∧ True)) rfl ⟨⟨trivial, trivial⟩, trivial⟩ ?_
  refine gv_if_eq (t := 9) hD rfl rfl ⟨by exact gz_m 1 (by omega), by exact gz_m 2 (by omega)⟩ (fun c6 => ?_) (fun c6 => ?_)
  · refine gv_run 2 true hD (pc' := 11) (lv' := [(0, .inr (.inr (some 0))), (1, .inl a1), (2, .inl a2)]) (st' := [.inl a2, .inl a1]) (h' := gr_h I J) (C := ((True ∧ True) ∧ True)) rfl ⟨⟨trivial, trivial⟩, trivial⟩ ?_
    refine gv_icmp_ne (t := 37) hD rfl rfl ⟨⟨by exact gz_m 3 (by omega), by exact gz_m 4 (by omega)⟩, ⟨by exact gz_m 5 (by omega), by exact gz_m 6 (by omega)⟩⟩ (fun c7 => ?_) (fun c7 => ?_)
    · have f8 := (gr_b_134 hI (Int.toNat a1))
      refine gv_run 4 true hD (pc' := 43) (lv' := [(0, .inr (.inr (some 0))), (1, .inl a1), (2, .inl a2)]) (st' := [.inl (I 134 (Int.toNat a1))]) (h' := gr_h I J) (C := ((((True ∧ True) ∧ True) ∧ True) ∧ (0 ≤ a1 ∧ a1 < ((2000 : Nat) : Int)))) rfl ⟨⟨⟨⟨trivial, trivial⟩, trivial⟩, trivial⟩, ⟨by exact gz_m 7 (by omega), by exact gz_m 8 (by omega)⟩⟩ ?_
      by_cases c9 : ((I 134 (Int.toNat a1))) = 0
      · refine gv_look hD rfl ⟨by exact gz_m 9 (by omega), by exact gz_m 10 (by omega)⟩ (by decide) 25 (by rw [c9]; decide) (t := 68) rfl ?_
        have t10 := gr_GH_b x0 (x := a1) ⟨by exact gz_m 11 (by omega), by exact gz_m 12 (by omega)⟩
        have t11 := gr_GH_0 x0 (x := a1) ⟨by exact gz_m 13 (by omega), by exact gz_m 14 (by omega)⟩ (by exact gz_m 15 (by omega))
        have f12 := (gr_b_135 hI (Int.toNat a1))
        refine gv_run 7 true hD (pc' := 77) (lv' := [(0, .inr (.inr (some 0))), (1, .inl a1), (2, .inl a2)]) (st' := [.inl (I 135 (Int.toNat a1)), .inr (.inr (some 0)), .inl 0, .inr (.inr (some 0))]) (h' := gr_h I J) (C := (((((((True ∧ True) ∧ True) ∧ True) ∧ True) ∧ True) ∧ True) ∧ (0 ≤ a1 ∧ a1 < ((2000 : Nat) : Int)))) rfl ⟨⟨⟨⟨⟨⟨⟨trivial, trivial⟩, trivial⟩, trivial⟩, trivial⟩, trivial⟩, trivial⟩, ⟨by exact gz_m 16 (by omega), by exact gz_m 17 (by omega)⟩⟩ ?_
        refine gv_run 1 true hD (pc' := 78) (lv' := [(0, .inr (.inr (some 0))), (1, .inl a1), (2, .inl a2)]) (st' := [.inl a2, .inl (I 135 (Int.toNat a1)), .inr (.inr (some 0)), .inl 0, .inr (.inr (some 0))]) (h' := gr_h I J) (C := (True ∧ True)) rfl ⟨trivial, trivial⟩ ?_
        obtain ⟨r13, h13, E13, P13⟩ := ihR I J hI ((I 135 (Int.toNat a1))) a2 ⟨by exact gz_m 18 (by omega), by exact gz_m 19 (by omega)⟩ ⟨by exact gz_m 20 (by omega), by exact gz_m 21 (by omega)⟩ x0 (by exact gz_m 22 (by omega)) (by exact gz_m 23 (by omega)) x3 (by exact gz_m 24 (by omega)) (by exact gz_m 25 (by omega)) (by exact gz_m 26 (by omega)) (by exact gz_m 27 (by omega)) (by exact gz_m 28 (by omega)) (by exact gz_m 29 (by omega)) (by exact gz_m 30 (by omega)) (by exact gz_m 31 (by omega)) (by exact gz_m 32 (by omega))
        obtain ⟨I14, J15, rfl, hI14, g13, k13, ⟨z13, rfl, q13⟩⟩ := P13
        have FI14 := gr_frt FI g13 rfl rfl
        have FJ15 := gr_fjt FJ k13 rfl rfl
        have t16 := g13 0 217 rfl
        have f17 := (gr_b_0_216 hI14)
        have f18 := (gr_b_0_217 hI14)
        have f19 := (gr_b_0_218 hI14)
        refine gv_callV hD rfl (As := [.inl (I 135 (Int.toNat a1)), .inl a2]) (st := [.inl 0, .inr (.inr (some 0))]) rfl (by decide) rfl rfl (gr_lV hws rfl) (Nat.le_of_ble_eq_true rfl) (gz_Ev_mono (d := (603 + nr)) (Nat.le_refl _) E13) ?_
        show gv_X _ _ (81, [(0, .inr (.inr (some 0))), (1, .inl a1), (2, .inl a2)], [.inl z13, .inl 0, .inr (.inr (some 0))], gr_sh ++ ext, gr_h I14 J15)
        refine gv_run 2 true hD (pc' := 83) (lv' := [(0, .inr (.inr (some 0))), (1, .inl a1), (2, .inl a2)]) (st' := [.inr (.inl (Int64.ofNat 0)), .inl 0, .inl z13, .inl 0, .inr (.inr (some 0))]) (h' := gr_h I14 J15) (C := ((True ∧ True) ∧ True)) rfl ⟨⟨trivial, trivial⟩, trivial⟩ ?_
        obtain ⟨r20, h20, E20, P20⟩ := r_heap_w (ws0 := ws0) (tb := tb) hws htb ext I14 J15 hI14 0 z13 0 (Int64.ofNat 0) ⟨by exact gz_m 33 (by omega), by exact gz_m 34 (by omega)⟩ ⟨by exact gz_m 35 (by omega), by exact gz_m 36 (by omega)⟩ ⟨by exact gz_m 37 (by omega), by exact gz_m 38 (by omega)⟩ (by exact gz_m 39 (by omega)) (by exact gz_m 40 (by omega)) (by exact gz_m 41 (by omega))
        obtain ⟨I21, J22, rfl, hI21, g20, k20, ⟨z20, rfl, q20⟩⟩ := P20
        have FI21 := gr_frt FI14 g20 rfl rfl
        have FJ22 := gr_fjt FJ15 k20 rfl rfl
        have t23 := g20 0 217 rfl
        have f24 := (gr_b_0_216 hI21)
        have f25 := (gr_b_0_217 hI21)
        have f26 := (gr_b_0_218 hI21)
        refine gv_callV hD rfl (As := [.inl 0, .inl z13, .inl 0, .inr (.inl (Int64.ofNat 0))]) (st := []) rfl (by decide) rfl rfl (gr_lV hws rfl) (Nat.le_of_ble_eq_true rfl) (gz_Ev_mono (d := 1) (by exact gz_m 42 (by omega)) E20) ?_
        show gv_X _ _ (86, [(0, .inr (.inr (some 0))), (1, .inl a1), (2, .inl a2)], [.inl z20], gr_sh ++ ext, gr_h I21 J22)
        refine gr_gst (a := 137) (k := (Int.toNat z20)) (z := ((I21 0 216) - (I 0 216))) hI21 FI21 rfl rfl ⟨⟨by show 0 ≤ _; exact gz_m 43 (by omega), by show _ ≤ 2000000; exact gz_m 44 (by omega)⟩, trivial⟩ (fun I27 hI27 FI27 q28 p28 => ?_)
        have t29 := p28 0 216 (fun q => absurd q.1 (by decide))
        have t30 := p28 0 217 (fun q => absurd q.1 (by decide))
        have t31 := p28 0 218 (fun q => absurd q.1 (by decide))
        have f32 := (gr_b_0_216 hI27)
        have f33 := (gr_b_0_217 hI27)
        have f34 := (gr_b_0_218 hI27)
        refine gr_gst (a := 137) (k := (5000 + Int.toNat z20)) (z := (I 137 (5000 + (Int.toNat a1)))) hI27 FI27 rfl rfl ⟨⟨by show 0 ≤ _; exact gz_m 45 (by omega), by show _ ≤ 2000000; exact gz_m 46 (by omega)⟩, trivial⟩ (fun I35 hI35 FI35 q36 p36 => ?_)
        have t37 := p36 0 216 (fun q => absurd q.1 (by decide))
        have t38 := p36 0 217 (fun q => absurd q.1 (by decide))
        have t39 := p36 0 218 (fun q => absurd q.1 (by decide))
        have f40 := (gr_b_0_216 hI35)
        have f41 := (gr_b_0_217 hI35)
        have f42 := (gr_b_0_218 hI35)
        exact gv_iret hD rfl ⟨I35, J22, rfl, hI35, FI35, FJ22, ⟨_, rfl, by exact gz_m 47 (by omega), by exact gz_m 48 (by omega), by exact gz_m 49 (by omega), by exact gz_m 50 (by omega), by exact gz_m 51 (by omega), by exact gz_m 52 (by omega), (gr_ok0 (c := (I 137 (5000 + (Int.toNat a1)))) (gr_OK_w q13.2.2.2.2.2.2 (by exact gz_m 53 (by omega)) (Int.le_refl _)) q20.2.2.2.2.2.2.1 (gr_GS_of p28 q28 p36 q36) (by exact gz_m 54 (by omega)) ⟨by exact gz_m 55 (by omega), by exact gz_m 56 (by omega)⟩ (by exact gz_m 57 (by omega)) (by exact gz_m 58 (by omega)) (by exact gz_m 59 (by omega)))⟩⟩
      by_cases c43 : ((I 134 (Int.toNat a1))) = 4
      · refine gv_look hD rfl ⟨by exact gz_m 60 (by omega), by exact gz_m 61 (by omega)⟩ (by decide) 44 (by rw [c43]; decide) (t := 87) rfl ?_
        have t44 := gr_GH_b x0 (x := a1) ⟨by exact gz_m 62 (by omega), by exact gz_m 63 (by omega)⟩
        have t45 := gr_GH_4 x0 (x := a1) ⟨by exact gz_m 64 (by omega), by exact gz_m 65 (by omega)⟩ (by exact gz_m 66 (by omega))
        have t46 := gr_GH_4 x0 (x := a2) ⟨by exact gz_m 67 (by omega), by exact gz_m 68 (by omega)⟩ (by exact gz_m 69 (by omega))
        have f47 := (gr_b_135 hI (Int.toNat a1))
        refine gv_run 5 true hD (pc' := 94) (lv' := [(0, .inr (.inr (some 0))), (1, .inl a1), (2, .inl a2)]) (st' := [.inl (I 135 (Int.toNat a1)), .inr (.inr (some 0))]) (h' := gr_h I J) (C := (((((True ∧ True) ∧ True) ∧ True) ∧ True) ∧ (0 ≤ a1 ∧ a1 < ((2000 : Nat) : Int)))) rfl ⟨⟨⟨⟨⟨trivial, trivial⟩, trivial⟩, trivial⟩, trivial⟩, ⟨by exact gz_m 70 (by omega), by exact gz_m 71 (by omega)⟩⟩ ?_
        refine gv_run 1 true hD (pc' := 95) (lv' := [(0, .inr (.inr (some 0))), (1, .inl a1), (2, .inl a2)]) (st' := [.inl a2, .inl (I 135 (Int.toNat a1)), .inr (.inr (some 0))]) (h' := gr_h I J) (C := (True ∧ True)) rfl ⟨trivial, trivial⟩ ?_
        obtain ⟨r48, h48, E48, P48⟩ := ihR I J hI ((I 135 (Int.toNat a1))) a2 ⟨by exact gz_m 72 (by omega), by exact gz_m 73 (by omega)⟩ ⟨by exact gz_m 74 (by omega), by exact gz_m 75 (by omega)⟩ x0 (by exact gz_m 76 (by omega)) (by exact gz_m 77 (by omega)) x3 (by exact gz_m 78 (by omega)) (by exact gz_m 79 (by omega)) (by exact gz_m 80 (by omega)) (by exact gz_m 81 (by omega)) (by exact gz_m 82 (by omega)) (by exact gz_m 83 (by omega)) (by exact gz_m 84 (by omega)) (by exact gz_m 85 (by omega)) (by exact gz_m 86 (by omega))
        obtain ⟨I49, J50, rfl, hI49, g48, k48, ⟨z48, rfl, q48⟩⟩ := P48
        have FI49 := gr_frt FI g48 rfl rfl
        have FJ50 := gr_fjt FJ k48 rfl rfl
        have t51 := g48 0 217 rfl
        have f52 := (gr_b_0_216 hI49)
        have f53 := (gr_b_0_217 hI49)
        have f54 := (gr_b_0_218 hI49)
        refine gv_callV hD rfl (As := [.inl (I 135 (Int.toNat a1)), .inl a2]) (st := []) rfl (by decide) rfl rfl (gr_lV hws rfl) (Nat.le_of_ble_eq_true rfl) (gz_Ev_mono (d := (603 + nr)) (Nat.le_refl _) E48) ?_
        show gv_X _ _ (98, [(0, .inr (.inr (some 0))), (1, .inl a1), (2, .inl a2)], [.inl z48], gr_sh ++ ext, gr_h I49 J50)
        refine gv_run 1 true hD (pc' := 99) (lv' := [(3, .inl z48), (0, .inr (.inr (some 0))), (1, .inl a1), (2, .inl a2)]) (st' := []) (h' := gr_h I49 J50) (C := (True ∧ True)) rfl ⟨trivial, trivial⟩ ?_
        have t55 := gr_HF_x (q48.2.2.2.2.2.2).1 x3 x0 (x := a1) ⟨by exact gz_m 87 (by omega), by exact gz_m 88 (by omega)⟩
        have t56 := gr_GH_4 (gr_GH_fr x0 (q48.2.2.2.2.2.2).1 x3) (x := a1) ⟨by exact gz_m 89 (by omega), by exact gz_m 90 (by omega)⟩ (by exact gz_m 91 (by omega))
        have t57 := gr_HF_x (q48.2.2.2.2.2.2).1 x3 x0 (x := a2) ⟨by exact gz_m 92 (by omega), by exact gz_m 93 (by omega)⟩
        have t58 := gr_HF_x (q48.2.2.2.2.2.2).1 x3 x0 (x := (I 135 (Int.toNat a2))) ⟨by exact gz_m 94 (by omega), by exact gz_m 95 (by omega)⟩
        have t59 := (show I49 134 (Int.toNat (I49 135 (Int.toNat a2))) = I49 134 (Int.toNat (I 135 (Int.toNat a2))) from by rw [(gr_HF_x (q48.2.2.2.2.2.2).1 x3 x0 (x := a2) ⟨by exact gz_m 96 (by omega), by exact gz_m 97 (by omega)⟩).1.2.1])
        refine gv_run 7 true hD (pc' := 108) (lv' := [(3, .inl z48), (0, .inr (.inr (some 0))), (1, .inl a1), (2, .inl a2)]) (st' := [.inl a1, .inr (.inr (some 136)), .inr (.inr (some 0)), .inl z48, .inl 4, .inr (.inr (some 0))]) (h' := gr_h I49 J50) (C := (((((((True ∧ True) ∧ True) ∧ True) ∧ True) ∧ True) ∧ True) ∧ True)) rfl ⟨⟨⟨⟨⟨⟨⟨trivial, trivial⟩, trivial⟩, trivial⟩, trivial⟩, trivial⟩, trivial⟩, trivial⟩ ?_
        have f60 := (gr_b_136 hI49 (Int.toNat a1))
        refine gv_run 1 true hD (pc' := 109) (lv' := [(3, .inl z48), (0, .inr (.inr (some 0))), (1, .inl a1), (2, .inl a2)]) (st' := [.inl (I49 136 (Int.toNat a1)), .inr (.inr (some 0)), .inl z48, .inl 4, .inr (.inr (some 0))]) (h' := gr_h I49 J50) (C := (True ∧ (0 ≤ a1 ∧ a1 < ((2000 : Nat) : Int)))) rfl ⟨trivial, ⟨by exact gz_m 98 (by omega), by exact gz_m 99 (by omega)⟩⟩ ?_
        refine gv_run 1 true hD (pc' := 110) (lv' := [(3, .inl z48), (0, .inr (.inr (some 0))), (1, .inl a1), (2, .inl a2)]) (st' := [.inl a2, .inl (I49 136 (Int.toNat a1)), .inr (.inr (some 0)), .inl z48, .inl 4, .inr (.inr (some 0))]) (h' := gr_h I49 J50) (C := (True ∧ True)) rfl ⟨trivial, trivial⟩ ?_
        obtain ⟨r61, h61, E61, P61⟩ := ihR I49 J50 hI49 ((I49 136 (Int.toNat a1))) a2 ⟨by exact gz_m 100 (by omega), by exact gz_m 101 (by omega)⟩ ⟨by exact gz_m 102 (by omega), by exact gz_m 103 (by omega)⟩ (gr_GH_fr x0 (q48.2.2.2.2.2.2).1 x3) (by exact gz_m 104 (by omega)) (by exact gz_m 105 (by omega)) (show gr_DJ a9 b9 I49 from by unfold gr_DJ at x3 ⊢; exact gz_m 106 (by omega)) (by exact gz_m 107 (by omega)) (by exact gz_m 108 (by omega)) (by exact gz_m 109 (by omega)) (by exact gz_m 110 (by omega)) (by exact gz_m 111 (by omega)) (by exact gz_m 112 (by omega)) (by exact gz_m 113 (by omega)) (by exact gz_m 114 (by omega)) (by exact gz_m 115 (by omega))
        obtain ⟨I62, J63, rfl, hI62, g61, k61, ⟨z61, rfl, q61⟩⟩ := P61
        have FI62 := gr_frt FI49 g61 rfl rfl
        have FJ63 := gr_fjt FJ50 k61 rfl rfl
        have t64 := g61 0 217 rfl
        have f65 := (gr_b_0_216 hI62)
        have f66 := (gr_b_0_217 hI62)
        have f67 := (gr_b_0_218 hI62)
        refine gv_callV hD rfl (As := [.inl (I49 136 (Int.toNat a1)), .inl a2]) (st := [.inl z48, .inl 4, .inr (.inr (some 0))]) rfl (by decide) rfl rfl (gr_lV hws rfl) (Nat.le_of_ble_eq_true rfl) (gz_Ev_mono (d := (603 + nr)) (Nat.le_refl _) E61) ?_
        show gv_X _ _ (113, [(3, .inl z48), (0, .inr (.inr (some 0))), (1, .inl a1), (2, .inl a2)], [.inl z61, .inl z48, .inl 4, .inr (.inr (some 0))], gr_sh ++ ext, gr_h I62 J63)
        refine gv_run 1 true hD (pc' := 114) (lv' := [(3, .inl z48), (0, .inr (.inr (some 0))), (1, .inl a1), (2, .inl a2)]) (st' := [.inr (.inl (Int64.ofNat 0)), .inl z61, .inl z48, .inl 4, .inr (.inr (some 0))]) (h' := gr_h I62 J63) (C := (True ∧ True)) rfl ⟨trivial, trivial⟩ ?_
        obtain ⟨r68, h68, E68, P68⟩ := r_heap_w (ws0 := ws0) (tb := tb) hws htb ext I62 J63 hI62 4 z48 z61 (Int64.ofNat 0) ⟨by exact gz_m 116 (by omega), by exact gz_m 117 (by omega)⟩ ⟨by exact gz_m 118 (by omega), by exact gz_m 119 (by omega)⟩ ⟨by exact gz_m 120 (by omega), by exact gz_m 121 (by omega)⟩ (by exact gz_m 122 (by omega)) (by exact gz_m 123 (by omega)) (by exact gz_m 124 (by omega))
        obtain ⟨I69, J70, rfl, hI69, g68, k68, ⟨z68, rfl, q68⟩⟩ := P68
        have FI69 := gr_frt FI62 g68 rfl rfl
        have FJ70 := gr_fjt FJ63 k68 rfl rfl
        have t71 := g68 0 217 rfl
        have f72 := (gr_b_0_216 hI69)
        have f73 := (gr_b_0_217 hI69)
        have f74 := (gr_b_0_218 hI69)
        refine gv_callV hD rfl (As := [.inl 4, .inl z48, .inl z61, .inr (.inl (Int64.ofNat 0))]) (st := []) rfl (by decide) rfl rfl (gr_lV hws rfl) (Nat.le_of_ble_eq_true rfl) (gz_Ev_mono (d := 1) (by exact gz_m 125 (by omega)) E68) ?_
        show gv_X _ _ (117, [(3, .inl z48), (0, .inr (.inr (some 0))), (1, .inl a1), (2, .inl a2)], [.inl z68], gr_sh ++ ext, gr_h I69 J70)
        refine gr_gst (a := 137) (k := (Int.toNat z68)) (z := ((I69 0 216) - (I 0 216))) hI69 FI69 rfl rfl ⟨⟨by show 0 ≤ _; exact gz_m 126 (by omega), by show _ ≤ 2000000; exact gz_m 127 (by omega)⟩, trivial⟩ (fun I75 hI75 FI75 q76 p76 => ?_)
        have t77 := p76 0 216 (fun q => absurd q.1 (by decide))
        have t78 := p76 0 217 (fun q => absurd q.1 (by decide))
        have t79 := p76 0 218 (fun q => absurd q.1 (by decide))
        have f80 := (gr_b_0_216 hI75)
        have f81 := (gr_b_0_217 hI75)
        have f82 := (gr_b_0_218 hI75)
        refine gr_gst (a := 137) (k := (5000 + Int.toNat z68)) (z := (I 137 (5000 + (Int.toNat a1)))) hI75 FI75 rfl rfl ⟨⟨by show 0 ≤ _; exact gz_m 128 (by omega), by show _ ≤ 2000000; exact gz_m 129 (by omega)⟩, trivial⟩ (fun I83 hI83 FI83 q84 p84 => ?_)
        have t85 := p84 0 216 (fun q => absurd q.1 (by decide))
        have t86 := p84 0 217 (fun q => absurd q.1 (by decide))
        have t87 := p84 0 218 (fun q => absurd q.1 (by decide))
        have f88 := (gr_b_0_216 hI83)
        have f89 := (gr_b_0_217 hI83)
        have f90 := (gr_b_0_218 hI83)
        exact gv_iret hD rfl ⟨I83, J70, rfl, hI83, FI83, FJ70, ⟨_, rfl, by exact gz_m 130 (by omega), by exact gz_m 131 (by omega), by exact gz_m 132 (by omega), by exact gz_m 133 (by omega), by exact gz_m 134 (by omega), by exact gz_m 135 (by omega), (gr_ok4 (c := (I 137 (5000 + (Int.toNat a1)))) (gr_OK_w q48.2.2.2.2.2.2 (by exact gz_m 136 (by omega)) (Int.le_refl _)) (gr_OK_w q61.2.2.2.2.2.2 (by exact gz_m 137 (by omega)) (Int.le_refl _)) q68.2.2.2.2.2.2.1 (gr_GS_of p76 q76 p84 q84) (by exact gz_m 138 (by omega)) ⟨by exact gz_m 139 (by omega), by exact gz_m 140 (by omega)⟩ (by exact gz_m 141 (by omega)) (by exact gz_m 142 (by omega)) (by exact gz_m 143 (by omega)))⟩⟩
      refine gv_look hD rfl ⟨by exact gz_m 144 (by omega), by exact gz_m 145 (by omega)⟩ (by decide) 75 (by show Op.lookupswitch.offset [(0, 25), (4, 44)] 75 ((I 134 (Int.toNat a1))) = _; rw [Op.lookupswitch.offset_cons, if_neg (fun q => c9 q.symm), Op.lookupswitch.offset_cons, if_neg (fun q => c43 q.symm)]; rfl) (t := 118) rfl ?_
      have t91 := gr_GH_b x0 (x := a1) ⟨by exact gz_m 146 (by omega), by exact gz_m 147 (by omega)⟩
      have t92 := gr_GH_k x0 (x := a1) ⟨by exact gz_m 148 (by omega), by exact gz_m 149 (by omega)⟩
      have t93 := (fun k : I 134 (Int.toNat a1) = 1 => gr_GH_1 x0 (x := a1) ⟨by exact gz_m 150 (by omega), by exact gz_m 151 (by omega)⟩ k)
      have f94 := (gr_b_134 hI (Int.toNat a1))
      refine gv_run 5 true hD (pc' := 125) (lv' := [(0, .inr (.inr (some 0))), (1, .inl a1), (2, .inl a2)]) (st' := [.inl (I 134 (Int.toNat a1)), .inr (.inr (some 0))]) (h' := gr_h I J) (C := (((((True ∧ True) ∧ True) ∧ True) ∧ True) ∧ (0 ≤ a1 ∧ a1 < ((2000 : Nat) : Int)))) rfl ⟨⟨⟨⟨⟨trivial, trivial⟩, trivial⟩, trivial⟩, trivial⟩, ⟨by exact gz_m 152 (by omega), by exact gz_m 153 (by omega)⟩⟩ ?_
      have f95 := (gr_b_135 hI (Int.toNat a1))
      refine gv_run 4 true hD (pc' := 131) (lv' := [(0, .inr (.inr (some 0))), (1, .inl a1), (2, .inl a2)]) (st' := [.inl (I 135 (Int.toNat a1)), .inl (I 134 (Int.toNat a1)), .inr (.inr (some 0))]) (h' := gr_h I J) (C := ((((True ∧ True) ∧ True) ∧ True) ∧ (0 ≤ a1 ∧ a1 < ((2000 : Nat) : Int)))) rfl ⟨⟨⟨⟨trivial, trivial⟩, trivial⟩, trivial⟩, ⟨by exact gz_m 154 (by omega), by exact gz_m 155 (by omega)⟩⟩ ?_
      refine gv_run 5 true hD (pc' := 138) (lv' := [(0, .inr (.inr (some 0))), (1, .inl a1), (2, .inl a2)]) (st' := [.inr (.inl (J 137 (Int.toNat a1))), .inl 0, .inl (I 135 (Int.toNat a1)), .inl (I 134 (Int.toNat a1)), .inr (.inr (some 0))]) (h' := gr_h I J) (C := (((((True ∧ True) ∧ True) ∧ True) ∧ True) ∧ (0 ≤ a1 ∧ a1 < ((2000 : Nat) : Int)))) rfl ⟨⟨⟨⟨⟨trivial, trivial⟩, trivial⟩, trivial⟩, trivial⟩, ⟨by exact gz_m 156 (by omega), by exact gz_m 157 (by omega)⟩⟩ ?_
      obtain ⟨r96, h96, E96, P96⟩ := r_heap_w (ws0 := ws0) (tb := tb) hws htb ext I J hI ((I 134 (Int.toNat a1))) ((I 135 (Int.toNat a1))) 0 ((J 137 (Int.toNat a1))) ⟨by exact gz_m 158 (by omega), by exact gz_m 159 (by omega)⟩ ⟨by exact gz_m 160 (by omega), by exact gz_m 161 (by omega)⟩ ⟨by exact gz_m 162 (by omega), by exact gz_m 163 (by omega)⟩ (by exact gz_m 164 (by omega)) (by exact gz_m 165 (by omega)) (by exact gz_m 166 (by omega))
      obtain ⟨I97, J98, rfl, hI97, g96, k96, ⟨z96, rfl, q96⟩⟩ := P96
      have FI97 := gr_frt FI g96 rfl rfl
      have FJ98 := gr_fjt FJ k96 rfl rfl
      have t99 := g96 0 217 rfl
      have f100 := (gr_b_0_216 hI97)
      have f101 := (gr_b_0_217 hI97)
      have f102 := (gr_b_0_218 hI97)
      refine gv_callV hD rfl (As := [.inl (I 134 (Int.toNat a1)), .inl (I 135 (Int.toNat a1)), .inl 0, .inr (.inl (J 137 (Int.toNat a1)))]) (st := []) rfl (by decide) rfl rfl (gr_lV hws rfl) (Nat.le_of_ble_eq_true rfl) (gz_Ev_mono (d := 1) (by exact gz_m 167 (by omega)) E96) ?_
      show gv_X _ _ (141, [(0, .inr (.inr (some 0))), (1, .inl a1), (2, .inl a2)], [.inl z96], gr_sh ++ ext, gr_h I97 J98)
      refine gr_gst (a := 137) (k := (Int.toNat z96)) (z := ((I97 0 216) - (I 0 216))) hI97 FI97 rfl rfl ⟨⟨by show 0 ≤ _; exact gz_m 168 (by omega), by show _ ≤ 2000000; exact gz_m 169 (by omega)⟩, trivial⟩ (fun I103 hI103 FI103 q104 p104 => ?_)
      have t105 := p104 0 216 (fun q => absurd q.1 (by decide))
      have t106 := p104 0 217 (fun q => absurd q.1 (by decide))
      have t107 := p104 0 218 (fun q => absurd q.1 (by decide))
      have f108 := (gr_b_0_216 hI103)
      have f109 := (gr_b_0_217 hI103)
      have f110 := (gr_b_0_218 hI103)
      refine gr_gst (a := 137) (k := (5000 + Int.toNat z96)) (z := (I 137 (5000 + (Int.toNat a1)))) hI103 FI103 rfl rfl ⟨⟨by show 0 ≤ _; exact gz_m 170 (by omega), by show _ ≤ 2000000; exact gz_m 171 (by omega)⟩, trivial⟩ (fun I111 hI111 FI111 q112 p112 => ?_)
      have t113 := p112 0 216 (fun q => absurd q.1 (by decide))
      have t114 := p112 0 217 (fun q => absurd q.1 (by decide))
      have t115 := p112 0 218 (fun q => absurd q.1 (by decide))
      have f116 := (gr_b_0_216 hI111)
      have f117 := (gr_b_0_217 hI111)
      have f118 := (gr_b_0_218 hI111)
      exact gv_iret hD rfl ⟨I111, J98, rfl, hI111, FI111, FJ98, ⟨_, rfl, by exact gz_m 172 (by omega), by exact gz_m 173 (by omega), by exact gz_m 174 (by omega), by exact gz_m 175 (by omega), by exact gz_m 176 (by omega), by exact gz_m 177 (by omega), (gr_ocl q96.2.2.2.2.2.2.1 (gr_GS_of p104 q104 p112 q112) (by exact gz_m 178 (by omega)) (by exact gz_m 179 (by omega)) ⟨by exact gz_m 180 (by omega), by exact gz_m 181 (by omega)⟩ (by exact gz_m 182 (by omega)) (by exact gz_m 183 (by omega)) (by exact gz_m 184 (by omega)) (by exact gz_m 185 (by omega)))⟩⟩
    · have t119 := (show a1 = a2 from by exact gz_m 186 (by omega))
      have t120 := gr_GH_b x0 (x := a1) ⟨by exact gz_m 187 (by omega), by exact gz_m 188 (by omega)⟩
      have t121 := (show I 134 (Int.toNat a1) = 4 from by rw [show a1 = a2 from by exact gz_m 189 (by omega)]; exact x9)
      have t122 := (show I 134 (Int.toNat (I 135 (Int.toNat a1))) = 0 from by rw [show a1 = a2 from by exact gz_m 190 (by omega)]; exact x10)
      have t123 := gr_GH_4 x0 (x := a1) ⟨by exact gz_m 191 (by omega), by exact gz_m 192 (by omega)⟩ (by rw [show a1 = a2 from by exact gz_m 193 (by omega)]; exact x9)
      have t124 := gr_GH_b x0 (x := I 135 (Int.toNat a1)) ⟨by have h9 := (gr_GH_4 x0 (x := a1) ⟨by exact gz_m 194 (by omega), by exact gz_m 195 (by omega)⟩ (by exact gz_m 196 (by omega))).1.1; exact gz_m 197 (by omega), by have h9 := (gr_GH_4 x0 (x := a1) ⟨by exact gz_m 198 (by omega), by exact gz_m 199 (by omega)⟩ (by exact gz_m 200 (by omega))).1.1; exact gz_m 201 (by omega)⟩
      have t125 := gr_GH_0 x0 (x := I 135 (Int.toNat a1)) ⟨by have h9 := (gr_GH_4 x0 (x := a1) ⟨by exact gz_m 202 (by omega), by exact gz_m 203 (by omega)⟩ (by exact gz_m 204 (by omega))).1.1; exact gz_m 205 (by omega), by have h9 := (gr_GH_4 x0 (x := a1) ⟨by exact gz_m 206 (by omega), by exact gz_m 207 (by omega)⟩ (by exact gz_m 208 (by omega))).1.1; exact gz_m 209 (by omega)⟩ (by rw [show a1 = a2 from by exact gz_m 210 (by omega)]; exact x10)
      have f126 := (gr_b_135 hI (Int.toNat a1))
      refine gv_run 7 true hD (pc' := 25) (lv' := [(0, .inr (.inr (some 0))), (1, .inl a1), (2, .inl a2)]) (st' := [.inl (I 135 (Int.toNat a1)), .inr (.inr (some 135)), .inr (.inr (some 0))]) (h' := gr_h I J) (C := (((((((True ∧ True) ∧ True) ∧ True) ∧ True) ∧ True) ∧ True) ∧ (0 ≤ a1 ∧ a1 < ((2000 : Nat) : Int)))) rfl ⟨⟨⟨⟨⟨⟨⟨trivial, trivial⟩, trivial⟩, trivial⟩, trivial⟩, trivial⟩, trivial⟩, ⟨by exact gz_m 211 (by omega), by exact gz_m 212 (by omega)⟩⟩ ?_
      have f127 := (gr_b_135 hI (Int.toNat ((I 135 (Int.toNat a1)))))
      refine gv_run 1 true hD (pc' := 26) (lv' := [(0, .inr (.inr (some 0))), (1, .inl a1), (2, .inl a2)]) (st' := [.inl (I 135 (Int.toNat ((I 135 (Int.toNat a1))))), .inr (.inr (some 0))]) (h' := gr_h I J) (C := (True ∧ (0 ≤ ((I 135 (Int.toNat a1))) ∧ ((I 135 (Int.toNat a1))) < ((2000 : Nat) : Int)))) rfl ⟨trivial, ⟨by exact gz_m 213 (by omega), by exact gz_m 214 (by omega)⟩⟩ ?_
      have f128 := (gr_b_136 hI (Int.toNat a1))
      refine gv_run 5 true hD (pc' := 33) (lv' := [(0, .inr (.inr (some 0))), (1, .inl a1), (2, .inl a2)]) (st' := [.inl (I 136 (Int.toNat a1)), .inl 0, .inl (I 135 (Int.toNat ((I 135 (Int.toNat a1))))), .inr (.inr (some 0))]) (h' := gr_h I J) (C := (((((True ∧ True) ∧ True) ∧ True) ∧ True) ∧ (0 ≤ a1 ∧ a1 < ((2000 : Nat) : Int)))) rfl ⟨⟨⟨⟨⟨trivial, trivial⟩, trivial⟩, trivial⟩, trivial⟩, ⟨by exact gz_m 215 (by omega), by exact gz_m 216 (by omega)⟩⟩ ?_
      obtain ⟨r129, h129, E129, P129⟩ := r_put (ws0 := ws0) (tb := tb) hws htb ext a9 b9 S9 (I 137 (5000 + (Int.toNat a1))) 301 I J hI ((I 135 (Int.toNat ((I 135 (Int.toNat a1)))))) 0 ((I 136 (Int.toNat a1))) ⟨by exact gz_m 217 (by omega), by exact gz_m 218 (by omega)⟩ ⟨by exact gz_m 219 (by omega), by exact gz_m 220 (by omega)⟩ ⟨by exact gz_m 221 (by omega), by exact gz_m 222 (by omega)⟩ x0 (by exact gz_m 223 (by omega)) (by exact gz_m 224 (by omega)) x3 (by exact gz_m 225 (by omega)) (by exact gz_m 226 (by omega)) (by exact gz_m 227 (by omega)) (by exact gz_m 228 (by omega)) (by exact gz_m 229 (by omega)) (by exact gz_m 230 (by omega)) (by exact gz_m 231 (by omega)) (by exact gz_m 232 (by omega)) (by exact gz_m 233 (by omega)) (by exact gz_m 234 (by omega)) (by exact gz_m 235 (by omega)) (by exact gz_m 236 (by omega))
      obtain ⟨I130, J131, rfl, hI130, g129, k129, ⟨z129, rfl, q129⟩⟩ := P129
      have FI130 := gr_frt FI g129 rfl rfl
      have FJ131 := gr_fjt FJ k129 rfl rfl
      have t132 := g129 0 217 rfl
      have f133 := (gr_b_0_216 hI130)
      have f134 := (gr_b_0_217 hI130)
      have f135 := (gr_b_0_218 hI130)
      refine gv_callV hD rfl (As := [.inl (I 135 (Int.toNat ((I 135 (Int.toNat a1))))), .inl 0, .inl (I 136 (Int.toNat a1))]) (st := []) rfl (by decide) rfl rfl (gr_lV hws rfl) (Nat.le_of_ble_eq_true rfl) (gz_Ev_mono (d := 603) (by exact gz_m 237 (by omega)) E129) ?_
      show gv_X _ _ (36, [(0, .inr (.inr (some 0))), (1, .inl a1), (2, .inl a2)], [.inl z129], gr_sh ++ ext, gr_h I130 J131)
      exact gv_iret hD rfl ⟨I130, J131, rfl, hI130, FI130, FJ131, ⟨_, rfl, by exact gz_m 238 (by omega), by exact gz_m 239 (by omega), by exact gz_m 240 (by omega), by exact gz_m 241 (by omega), by exact gz_m 242 (by omega), by exact gz_m 243 (by omega), (gr_OK_w q129.2.2.2.2.2.2 (by exact gz_m 244 (by omega)) (Int.le_refl _))⟩⟩
  · refine gv_run 1 true hD (pc' := 8) (lv' := [(0, .inr (.inr (some 0))), (1, .inl a1), (2, .inl a2)]) (st' := [.inl 0]) (h' := gr_h I J) (C := (True ∧ True)) rfl ⟨trivial, trivial⟩ ?_
    exact gv_iret hD rfl ⟨I, J, rfl, hI, FI, FJ, ⟨_, rfl, by exact gz_m 245 (by omega), by exact gz_m 246 (by omega), by exact gz_m 247 (by omega), by exact gz_m 248 (by omega), by exact gz_m 249 (by omega), by exact gz_m 250 (by omega), (gr_OK_lg (by exact gz_m 251 (by omega)) (by exact gz_m 252 (by omega)))⟩⟩
