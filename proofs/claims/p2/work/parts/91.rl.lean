set_option maxHeartbeats 4000000 in
set_option maxRecDepth 100000 in
theorem r_item {ws0 : List Cond} {tb : String → gz_T} (hws : ∀ w ∈ gr_ws, w ∈ ws0) (htb : tb RX13 = gr_T) (ext : gz_Sh) (I : gr_I) (J : gr_J) (hI : gr_Inv I) (a1 : Int) (ha1 : 0 ≤ a1 ∧ a1 ≤ 95) (x0 : I 0 71 = 5 ∨ I 0 73 ≤ I 0 69) (x1 : I 0 72 ≤ I 0 69) (x2 : I 0 71 = 0 ∨ (I 0 72 < I 0 73 ∧ I 0 72 < I 0 69)) (x3 : I 0 71 = 3 → 2 ≤ I 0 73 - I 0 72 ∧ I 0 73 - I 0 72 ≤ 14) (x4 : I 0 72 ≤ I 0 73) (x5 : 0 ≤ I 0 6) (x6 : I 0 59 + I 0 69 - I 0 72 ≤ 1900) (x7 : I 0 71 = 3 ∨ I 0 71 = 2) : ∃ r h', gz_Ev ws0 tb 12 (yX13_item, cX13_item, 3, (some .boolean)) [.inr (.inr (some 0)), .inl a1] (gr_sh ++ ext) (gr_h I J) r (gr_sh ++ ext) h' 0 0 ∧ (∃ (I' : gr_I) (J' : gr_J), h' = gr_h I' J' ∧ gr_Inv I' ∧ gr_fr [59, 71, 72, 73, 74, 75, 76, 77, 106, 118] [51, 57, 68, 69, 74] I I' ∧ gr_fj [59, 71, 72, 73, 74, 75, 76, 77, 106, 118] [51, 57, 68, 69, 74] J J' ∧ (∃ z : Int, r = some (.inl z) ∧ 0 ≤ z ∧ z ≤ 1 ∧ (I' 0 71 = 5 ∨ I' 0 73 ≤ I' 0 69) ∧ (I' 0 72 ≤ I' 0 69) ∧ (I' 0 71 = 0 ∨ (I' 0 72 < I' 0 73 ∧ I' 0 72 < I' 0 69)) ∧ (I' 0 71 = 3 → 2 ≤ I' 0 73 - I' 0 72 ∧ I' 0 73 - I' 0 72 ≤ 14) ∧ (I' 0 72 ≤ I' 0 73) ∧ (I' 0 69 = I 0 69) ∧ (I 0 73 ≤ I' 0 73) ∧ (I 0 72 ≤ I' 0 72) ∧ (I' 0 59 - I' 0 72 ≤ I 0 59 - I 0 72) ∧ (z = 0 ∨ I 0 72 < I' 0 72))) := by
  have FI : gr_fr [59, 71, 72, 73, 74, 75, 76, 77, 106, 118] [51, 57, 68, 69, 74] I I := fun _ _ _ => rfl
  have FJ : gr_fj [59, 71, 72, 73, 74, 75, 76, 77, 106, 118] [51, 57, 68, 69, 74] J J := fun _ _ _ => rfl
  have hD : gv_D (gr_E ws0 tb 11 (yX13_item, cX13_item, 3, (some .boolean)) kX13_item) := gq_ok oX13_item
  refine gr_ev (d := 11) (l := kX13_item) (Po := fun r h' => (∃ (I' : gr_I) (J' : gr_J), h' = gr_h I' J' ∧ gr_Inv I' ∧ gr_fr [59, 71, 72, 73, 74, 75, 76, 77, 106, 118] [51, 57, 68, 69, 74] I I' ∧ gr_fj [59, 71, 72, 73, 74, 75, 76, 77, 106, 118] [51, 57, 68, 69, 74] J J' ∧ (∃ z : Int, r = some (.inl z) ∧ 0 ≤ z ∧ z ≤ 1 ∧ (I' 0 71 = 5 ∨ I' 0 73 ≤ I' 0 69) ∧ (I' 0 72 ≤ I' 0 69) ∧ (I' 0 71 = 0 ∨ (I' 0 72 < I' 0 73 ∧ I' 0 72 < I' 0 69)) ∧ (I' 0 71 = 3 → 2 ≤ I' 0 73 - I' 0 72 ∧ I' 0 73 - I' 0 72 ≤ 14) ∧ (I' 0 72 ≤ I' 0 73) ∧ (I' 0 69 = I 0 69) ∧ (I 0 73 ≤ I' 0 73) ∧ (I 0 72 ≤ I' 0 72) ∧ (I' 0 59 - I' 0 72 ≤ I 0 59 - I 0 72) ∧ (z = 0 ∨ I 0 72 < I' 0 72)))) htb rfl (Nat.le_of_ble_eq_true rfl) ?_
  have f1 := (show 0 ≤ I 0 71 ∧ I 0 71 ≤ 5 from (hI 0 71).1)
  have f2 := (show 0 ≤ I 0 72 ∧ I 0 72 ≤ 1000 from (hI 0 72).1)
  have f3 := (show 0 ≤ I 0 73 ∧ I 0 73 ≤ 1001 from (hI 0 73).1)
  have f4 := (show 0 ≤ I 0 69 ∧ I 0 69 ≤ 1000 from (hI 0 69).1)
  have f5 := (show 0 ≤ I 0 59 ∧ I 0 59 ≤ 2000 from (hI 0 59).1)
  have f6 := (show (-1) ≤ I 0 6 ∧ I 0 6 ≤ 7 from (hI 0 6).1)
  have f7 := (show 0 ≤ I 0 118 ∧ I 0 118 ≤ 6 from (hI 0 118).1)
  have L173 : ∀ (I8 : gr_I) (J9 : gr_J) , gr_Inv I8 → gr_fr [59, 71, 72, 73, 74, 75, 76, 77, 106, 118] [51, 57, 68, 69, 74] I I8 → gr_fj [59, 71, 72, 73, 74, 75, 76, 77, 106, 118] [51, 57, 68, 69, 74] J J9 → ((I 0 72 < I8 0 72) ∧ (I8 0 118 ≤ 5) ∧ (I8 0 59 - I8 0 72 ≤ I 0 59 - I 0 72) ∧ (0 ≤ I8 0 6) ∧ (I8 0 71 = 5 ∨ I8 0 73 ≤ I8 0 69) ∧ (I8 0 72 ≤ I8 0 69) ∧ (I8 0 71 = 0 ∨ (I8 0 72 < I8 0 73 ∧ I8 0 72 < I8 0 69)) ∧ (I8 0 71 = 3 → 2 ≤ I8 0 73 - I8 0 72 ∧ I8 0 73 - I8 0 72 ≤ 14) ∧ (I8 0 72 ≤ I8 0 73) ∧ (I8 0 69 = I 0 69) ∧ (I 0 73 ≤ I8 0 73) ∧ (I 0 72 ≤ I8 0 72)) → gv_X (gr_E ws0 tb 11 (yX13_item, cX13_item, 3, (some .boolean)) kX13_item) (gv_Q cX13_item (some .boolean) (gr_sh ++ ext) (fun r h' => (∃ (I' : gr_I) (J' : gr_J), h' = gr_h I' J' ∧ gr_Inv I' ∧ gr_fr [59, 71, 72, 73, 74, 75, 76, 77, 106, 118] [51, 57, 68, 69, 74] I I' ∧ gr_fj [59, 71, 72, 73, 74, 75, 76, 77, 106, 118] [51, 57, 68, 69, 74] J J' ∧ (∃ z : Int, r = some (.inl z) ∧ 0 ≤ z ∧ z ≤ 1 ∧ (I' 0 71 = 5 ∨ I' 0 73 ≤ I' 0 69) ∧ (I' 0 72 ≤ I' 0 69) ∧ (I' 0 71 = 0 ∨ (I' 0 72 < I' 0 73 ∧ I' 0 72 < I' 0 69)) ∧ (I' 0 71 = 3 → 2 ≤ I' 0 73 - I' 0 72 ∧ I' 0 73 - I' 0 72 ≤ 14) ∧ (I' 0 72 ≤ I' 0 73) ∧ (I' 0 69 = I 0 69) ∧ (I 0 73 ≤ I' 0 73) ∧ (I 0 72 ≤ I' 0 72) ∧ (I' 0 59 - I' 0 72 ≤ I 0 59 - I 0 72) ∧ (z = 0 ∨ I 0 72 < I' 0 72))))) (173, [(0, .inr (.inr (some 0)))], [], gr_sh ++ ext, gr_h I8 J9) := by
    intro I8 J9 hI8 FI8 FJ9 m_10
    obtain ⟨e0_10, e1_10, e2_10, e3_10, e4_10, e5_10, e6_10, e7_10, e8_10, e9_10, e10_10, e11_10⟩ := m_10
    have f11 := (show 0 ≤ I8 0 71 ∧ I8 0 71 ≤ 5 from (hI8 0 71).1)
    have f12 := (show 0 ≤ I8 0 72 ∧ I8 0 72 ≤ 1000 from (hI8 0 72).1)
    have f13 := (show 0 ≤ I8 0 73 ∧ I8 0 73 ≤ 1001 from (hI8 0 73).1)
    have f14 := (show 0 ≤ I8 0 69 ∧ I8 0 69 ≤ 1000 from (hI8 0 69).1)
    have f15 := (show 0 ≤ I8 0 59 ∧ I8 0 59 ≤ 2000 from (hI8 0 59).1)
    have f16 := (show (-1) ≤ I8 0 6 ∧ I8 0 6 ≤ 7 from (hI8 0 6).1)
    have f17 := (show 0 ≤ I8 0 118 ∧ I8 0 118 ≤ 6 from (hI8 0 118).1)
    have f18 := (show 0 ≤ I8 0 118 ∧ I8 0 118 ≤ 6 from (hI8 0 118).1)
    refine gv_run 7 true hD (pc' := 184) (lv' := [(0, .inr (.inr (some 0)))]) (st' := [.inl 1, .inl (I8 0 118), .inr (.inr (some 0)), .inl (I8 0 118), .inr (.inr (some 69))]) (h' := gr_h I8 J9) (C := (((((((True ∧ True) ∧ True) ∧ True) ∧ True) ∧ True) ∧ True) ∧ True)) rfl ⟨⟨⟨⟨⟨⟨⟨trivial, trivial⟩, trivial⟩, trivial⟩, trivial⟩, trivial⟩, trivial⟩, trivial⟩ ?_
    refine gv_run 2 true hD (pc' := 188) (lv' := [(0, .inr (.inr (some 0)))]) (st' := [.inl (I8 0 118), .inr (.inr (some 69))]) (h' := gz_up (gr_h I8 J9) 0 118 (.inl (((I8 0 118) + 1)))) (C := ((True ∧ True) ∧ True)) rfl ⟨⟨trivial, trivial⟩, trivial⟩ ?_
    refine gr_st hI8 FI8 rfl rfl ⟨⟨by show 0 ≤ _; omega, by show _ ≤ 6; omega⟩, trivial⟩ (fun I19 hI19 FI19 q20 p20 => ?_)
    have t21 := p20 0 71 (by decide)
    have t22 := p20 0 72 (by decide)
    have t23 := p20 0 73 (by decide)
    have t24 := p20 0 69 (by decide)
    have t25 := p20 0 59 (by decide)
    have t26 := p20 0 6 (by decide)
    have f27 := (show 0 ≤ I19 0 71 ∧ I19 0 71 ≤ 5 from (hI19 0 71).1)
    have f28 := (show 0 ≤ I19 0 72 ∧ I19 0 72 ≤ 1000 from (hI19 0 72).1)
    have f29 := (show 0 ≤ I19 0 73 ∧ I19 0 73 ≤ 1001 from (hI19 0 73).1)
    have f30 := (show 0 ≤ I19 0 69 ∧ I19 0 69 ≤ 1000 from (hI19 0 69).1)
    have f31 := (show 0 ≤ I19 0 59 ∧ I19 0 59 ≤ 2000 from (hI19 0 59).1)
    have f32 := (show (-1) ≤ I19 0 6 ∧ I19 0 6 ≤ 7 from (hI19 0 6).1)
    have f33 := (show 0 ≤ I19 0 118 ∧ I19 0 118 ≤ 6 from (hI19 0 118).1)
    have f34 := (show 0 ≤ I19 0 106 ∧ I19 0 106 ≤ 16777215 from (hI19 0 106).1)
    refine gv_run 3 true hD (pc' := 193) (lv' := [(0, .inr (.inr (some 0)))]) (st' := []) (h' := gz_up (gr_h I19 J9) 69 (Int.toNat ((I8 0 118))) (.inl (I19 0 106))) (C := (((True ∧ True) ∧ True) ∧ (0 ≤ (I8 0 118) ∧ (I8 0 118) < ((6 : Nat) : Int)))) rfl ⟨⟨⟨trivial, trivial⟩, trivial⟩, ⟨by omega, by omega⟩⟩ ?_
    refine gr_st hI19 FI19 rfl rfl ⟨⟨by show 0 ≤ _; omega, by show _ ≤ 16777215; omega⟩, trivial⟩ (fun I35 hI35 FI35 q36 p36 => ?_)
    have t37 := p36 0 71 (fun q => absurd q.1 (by decide))
    have t38 := p36 0 72 (fun q => absurd q.1 (by decide))
    have t39 := p36 0 73 (fun q => absurd q.1 (by decide))
    have t40 := p36 0 69 (fun q => absurd q.1 (by decide))
    have t41 := p36 0 59 (fun q => absurd q.1 (by decide))
    have t42 := p36 0 6 (fun q => absurd q.1 (by decide))
    have t43 := p36 0 118 (fun q => absurd q.1 (by decide))
    have f44 := (show 0 ≤ I35 0 71 ∧ I35 0 71 ≤ 5 from (hI35 0 71).1)
    have f45 := (show 0 ≤ I35 0 72 ∧ I35 0 72 ≤ 1000 from (hI35 0 72).1)
    have f46 := (show 0 ≤ I35 0 73 ∧ I35 0 73 ≤ 1001 from (hI35 0 73).1)
    have f47 := (show 0 ≤ I35 0 69 ∧ I35 0 69 ≤ 1000 from (hI35 0 69).1)
    have f48 := (show 0 ≤ I35 0 59 ∧ I35 0 59 ≤ 2000 from (hI35 0 59).1)
    have f49 := (show (-1) ≤ I35 0 6 ∧ I35 0 6 ≤ 7 from (hI35 0 6).1)
    have f50 := (show 0 ≤ I35 0 118 ∧ I35 0 118 ≤ 6 from (hI35 0 118).1)
    refine gv_run 1 true hD (pc' := 194) (lv' := [(0, .inr (.inr (some 0)))]) (st' := [.inl 1]) (h' := gr_h I35 J9) (C := (True ∧ True)) rfl ⟨trivial, trivial⟩ ?_
    exact gv_zret hD rfl (by omega) ⟨I35, J9, rfl, hI35, FI35, FJ9, ⟨_, rfl, by omega⟩⟩
  have L91 : ∀ (I51 : gr_I) (J52 : gr_J) , gr_Inv I51 → gr_fr [59, 71, 72, 73, 74, 75, 76, 77, 106, 118] [51, 57, 68, 69, 74] I I51 → gr_fj [59, 71, 72, 73, 74, 75, 76, 77, 106, 118] [51, 57, 68, 69, 74] J J52 → ((I51 0 59 - I51 0 72 ≤ I 0 59 - I 0 72) ∧ (I51 0 71 = 5 ∨ I51 0 73 ≤ I51 0 69) ∧ (I51 0 72 ≤ I51 0 69) ∧ (I51 0 71 = 0 ∨ (I51 0 72 < I51 0 73 ∧ I51 0 72 < I51 0 69)) ∧ (I51 0 71 = 3 → 2 ≤ I51 0 73 - I51 0 72 ∧ I51 0 73 - I51 0 72 ≤ 14) ∧ (I51 0 72 ≤ I51 0 73) ∧ (I51 0 69 = I 0 69) ∧ (I 0 73 ≤ I51 0 73) ∧ (I 0 72 ≤ I51 0 72)) → gv_X (gr_E ws0 tb 11 (yX13_item, cX13_item, 3, (some .boolean)) kX13_item) (gv_Q cX13_item (some .boolean) (gr_sh ++ ext) (fun r h' => (∃ (I' : gr_I) (J' : gr_J), h' = gr_h I' J' ∧ gr_Inv I' ∧ gr_fr [59, 71, 72, 73, 74, 75, 76, 77, 106, 118] [51, 57, 68, 69, 74] I I' ∧ gr_fj [59, 71, 72, 73, 74, 75, 76, 77, 106, 118] [51, 57, 68, 69, 74] J J' ∧ (∃ z : Int, r = some (.inl z) ∧ 0 ≤ z ∧ z ≤ 1 ∧ (I' 0 71 = 5 ∨ I' 0 73 ≤ I' 0 69) ∧ (I' 0 72 ≤ I' 0 69) ∧ (I' 0 71 = 0 ∨ (I' 0 72 < I' 0 73 ∧ I' 0 72 < I' 0 69)) ∧ (I' 0 71 = 3 → 2 ≤ I' 0 73 - I' 0 72 ∧ I' 0 73 - I' 0 72 ≤ 14) ∧ (I' 0 72 ≤ I' 0 73) ∧ (I' 0 69 = I 0 69) ∧ (I 0 73 ≤ I' 0 73) ∧ (I 0 72 ≤ I' 0 72) ∧ (I' 0 59 - I' 0 72 ≤ I 0 59 - I 0 72) ∧ (z = 0 ∨ I 0 72 < I' 0 72))))) (91, [(0, .inr (.inr (some 0)))], [], gr_sh ++ ext, gr_h I51 J52) := by
    intro I51 J52 hI51 FI51 FJ52 m_53
    obtain ⟨e0_53, e1_53, e2_53, e3_53, e4_53, e5_53, e6_53, e7_53, e8_53⟩ := m_53
    have f54 := (show 0 ≤ I51 0 71 ∧ I51 0 71 ≤ 5 from (hI51 0 71).1)
    have f55 := (show 0 ≤ I51 0 72 ∧ I51 0 72 ≤ 1000 from (hI51 0 72).1)
    have f56 := (show 0 ≤ I51 0 73 ∧ I51 0 73 ≤ 1001 from (hI51 0 73).1)
    have f57 := (show 0 ≤ I51 0 69 ∧ I51 0 69 ≤ 1000 from (hI51 0 69).1)
    have f58 := (show 0 ≤ I51 0 59 ∧ I51 0 59 ≤ 2000 from (hI51 0 59).1)
    have f59 := (show (-1) ≤ I51 0 6 ∧ I51 0 6 ≤ 7 from (hI51 0 6).1)
    have f60 := (show 0 ≤ I51 0 118 ∧ I51 0 118 ≤ 6 from (hI51 0 118).1)
    refine gv_run 2 true hD (pc' := 93) (lv' := [(0, .inr (.inr (some 0)))]) (st' := [.inl 5, .inr (.inr (some 0))]) (h' := gr_h I51 J52) (C := ((True ∧ True) ∧ True)) rfl ⟨⟨trivial, trivial⟩, trivial⟩ ?_
    obtain ⟨r61, h61, E61, P61⟩ := r_no_ (ws0 := ws0) (tb := tb) hws htb ext I51 J52 hI51 5 ⟨by omega, by omega⟩ 
    obtain ⟨I62, J63, rfl, hI62, g61, k61, ⟨z61, rfl, q61⟩⟩ := P61
    have FI62 := gr_frt FI51 g61 rfl rfl
    have FJ63 := gr_fjt FJ52 k61 rfl rfl
    have t64 := g61 0 71 rfl
    have t65 := g61 0 72 rfl
    have t66 := g61 0 73 rfl
    have t67 := g61 0 69 rfl
    have t68 := g61 0 59 rfl
    have t69 := g61 0 6 rfl
    have t70 := g61 0 118 rfl
    have f71 := (show 0 ≤ I62 0 71 ∧ I62 0 71 ≤ 5 from (hI62 0 71).1)
    have f72 := (show 0 ≤ I62 0 72 ∧ I62 0 72 ≤ 1000 from (hI62 0 72).1)
    have f73 := (show 0 ≤ I62 0 73 ∧ I62 0 73 ≤ 1001 from (hI62 0 73).1)
    have f74 := (show 0 ≤ I62 0 69 ∧ I62 0 69 ≤ 1000 from (hI62 0 69).1)
    have f75 := (show 0 ≤ I62 0 59 ∧ I62 0 59 ≤ 2000 from (hI62 0 59).1)
    have f76 := (show (-1) ≤ I62 0 6 ∧ I62 0 6 ≤ 7 from (hI62 0 6).1)
    have f77 := (show 0 ≤ I62 0 118 ∧ I62 0 118 ≤ 6 from (hI62 0 118).1)
    refine gv_callV hD rfl (As := [.inl 5]) (st := []) rfl (by decide) rfl rfl (gr_lV hws rfl) (Nat.le_of_ble_eq_true rfl) (gz_Ev_mono (d := 2) (by decide) E61) ?_
    show gv_X _ _ (96, [(0, .inr (.inr (some 0)))], [.inl z61], gr_sh ++ ext, gr_h I62 J63)
    exact gv_zret hD rfl (by omega) ⟨I62, J63, rfl, hI62, FI62, FJ63, ⟨_, rfl, by omega⟩⟩
  have L145 : ∀ (n : Nat) (I78 : gr_I) (J79 : gr_J) , (1001 - I78 0 72).toNat < n → gr_Inv I78 → gr_fr [59, 71, 72, 73, 74, 75, 76, 77, 106, 118] [51, 57, 68, 69, 74] I I78 → gr_fj [59, 71, 72, 73, 74, 75, 76, 77, 106, 118] [51, 57, 68, 69, 74] J J79 → ((I 0 72 < I78 0 72) ∧ (I78 0 118 ≤ 5) ∧ (I78 0 59 - I78 0 72 ≤ I 0 59 - I 0 72) ∧ (0 ≤ I78 0 6) ∧ (I78 0 71 = 5 ∨ I78 0 73 ≤ I78 0 69) ∧ (I78 0 72 ≤ I78 0 69) ∧ (I78 0 71 = 0 ∨ (I78 0 72 < I78 0 73 ∧ I78 0 72 < I78 0 69)) ∧ (I78 0 71 = 3 → 2 ≤ I78 0 73 - I78 0 72 ∧ I78 0 73 - I78 0 72 ≤ 14) ∧ (I78 0 72 ≤ I78 0 73) ∧ (I78 0 69 = I 0 69) ∧ (I 0 73 ≤ I78 0 73) ∧ (I 0 72 ≤ I78 0 72)) → gv_X (gr_E ws0 tb 11 (yX13_item, cX13_item, 3, (some .boolean)) kX13_item) (gv_Q cX13_item (some .boolean) (gr_sh ++ ext) (fun r h' => (∃ (I' : gr_I) (J' : gr_J), h' = gr_h I' J' ∧ gr_Inv I' ∧ gr_fr [59, 71, 72, 73, 74, 75, 76, 77, 106, 118] [51, 57, 68, 69, 74] I I' ∧ gr_fj [59, 71, 72, 73, 74, 75, 76, 77, 106, 118] [51, 57, 68, 69, 74] J J' ∧ (∃ z : Int, r = some (.inl z) ∧ 0 ≤ z ∧ z ≤ 1 ∧ (I' 0 71 = 5 ∨ I' 0 73 ≤ I' 0 69) ∧ (I' 0 72 ≤ I' 0 69) ∧ (I' 0 71 = 0 ∨ (I' 0 72 < I' 0 73 ∧ I' 0 72 < I' 0 69)) ∧ (I' 0 71 = 3 → 2 ≤ I' 0 73 - I' 0 72 ∧ I' 0 73 - I' 0 72 ≤ 14) ∧ (I' 0 72 ≤ I' 0 73) ∧ (I' 0 69 = I 0 69) ∧ (I 0 73 ≤ I' 0 73) ∧ (I 0 72 ≤ I' 0 72) ∧ (I' 0 59 - I' 0 72 ≤ I 0 59 - I 0 72) ∧ (z = 0 ∨ I 0 72 < I' 0 72))))) (145, [(0, .inr (.inr (some 0)))], [], gr_sh ++ ext, gr_h I78 J79) := by
    intro n
    induction n with
    | zero => intro I78 J79 hn; omega
    | succ n ih145 =>
      intro I78 J79 hn hI78 FI78 FJ79 m_80
      obtain ⟨e0_80, e1_80, e2_80, e3_80, e4_80, e5_80, e6_80, e7_80, e8_80, e9_80, e10_80, e11_80⟩ := m_80
      have f81 := (show 0 ≤ I78 0 71 ∧ I78 0 71 ≤ 5 from (hI78 0 71).1)
      have f82 := (show 0 ≤ I78 0 72 ∧ I78 0 72 ≤ 1000 from (hI78 0 72).1)
      have f83 := (show 0 ≤ I78 0 73 ∧ I78 0 73 ≤ 1001 from (hI78 0 73).1)
      have f84 := (show 0 ≤ I78 0 69 ∧ I78 0 69 ≤ 1000 from (hI78 0 69).1)
      have f85 := (show 0 ≤ I78 0 59 ∧ I78 0 59 ≤ 2000 from (hI78 0 59).1)
      have f86 := (show (-1) ≤ I78 0 6 ∧ I78 0 6 ≤ 7 from (hI78 0 6).1)
      have f87 := (show 0 ≤ I78 0 118 ∧ I78 0 118 ≤ 6 from (hI78 0 118).1)
      have f88 := (show 0 ≤ I78 0 71 ∧ I78 0 71 ≤ 5 from (hI78 0 71).1)
      refine gv_run 3 true hD (pc' := 150) (lv' := [(0, .inr (.inr (some 0)))]) (st' := [.inl 1, .inl (I78 0 71)]) (h' := gr_h I78 J79) (C := (((True ∧ True) ∧ True) ∧ True)) rfl ⟨⟨⟨trivial, trivial⟩, trivial⟩, trivial⟩ ?_
      refine gv_icmp_ne (t := 162) hD rfl rfl ⟨⟨by omega, by omega⟩, ⟨by omega, by omega⟩⟩ (fun c89 => ?_) (fun c89 => ?_)
      · refine gv_run 2 true hD (pc' := 165) (lv' := [(0, .inr (.inr (some 0)))]) (st' := [.inl 93, .inr (.inr (some 0))]) (h' := gr_h I78 J79) (C := ((True ∧ True) ∧ True)) rfl ⟨⟨trivial, trivial⟩, trivial⟩ ?_
        obtain ⟨r90, h90, E90, P90⟩ := r_need (ws0 := ws0) (tb := tb) hws htb ext I78 J79 hI78 93 ⟨by omega, by omega⟩ (by omega) (by omega) (by omega) (by omega) (by omega)
        obtain ⟨I91, J92, rfl, hI91, g90, k90, ⟨z90, rfl, q90⟩⟩ := P90
        have FI91 := gr_frt FI78 g90 rfl rfl
        have FJ92 := gr_fjt FJ79 k90 rfl rfl
        have t93 := g90 0 69 rfl
        have t94 := g90 0 59 rfl
        have t95 := g90 0 6 rfl
        have t96 := g90 0 118 rfl
        have f97 := (show 0 ≤ I91 0 71 ∧ I91 0 71 ≤ 5 from (hI91 0 71).1)
        have f98 := (show 0 ≤ I91 0 72 ∧ I91 0 72 ≤ 1000 from (hI91 0 72).1)
        have f99 := (show 0 ≤ I91 0 73 ∧ I91 0 73 ≤ 1001 from (hI91 0 73).1)
        have f100 := (show 0 ≤ I91 0 69 ∧ I91 0 69 ≤ 1000 from (hI91 0 69).1)
        have f101 := (show 0 ≤ I91 0 59 ∧ I91 0 59 ≤ 2000 from (hI91 0 59).1)
        have f102 := (show (-1) ≤ I91 0 6 ∧ I91 0 6 ≤ 7 from (hI91 0 6).1)
        have f103 := (show 0 ≤ I91 0 118 ∧ I91 0 118 ≤ 6 from (hI91 0 118).1)
        refine gv_callV hD rfl (As := [.inl 93]) (st := []) rfl (by decide) rfl rfl (gr_lV hws rfl) (Nat.le_of_ble_eq_true rfl) (gz_Ev_mono (d := 11) (by decide) E90) ?_
        show gv_X _ _ (168, [(0, .inr (.inr (some 0)))], [.inl z90], gr_sh ++ ext, gr_h I91 J92)
        refine gv_if_ne (t := 173) hD rfl rfl ⟨by omega, by omega⟩ (fun c104 => ?_) (fun c104 => ?_)
        · exact L173 I91 J92 hI91 FI91 FJ92 (by omega)
        · refine gv_run 1 true hD (pc' := 172) (lv' := [(0, .inr (.inr (some 0)))]) (st' := [.inl 0]) (h' := gr_h I91 J92) (C := (True ∧ True)) rfl ⟨trivial, trivial⟩ ?_
          exact gv_zret hD rfl (by omega) ⟨I91, J92, rfl, hI91, FI91, FJ92, ⟨_, rfl, by omega⟩⟩
      · refine gv_run 1 true hD (pc' := 154) (lv' := [(0, .inr (.inr (some 0)))]) (st' := [.inr (.inr (some 0))]) (h' := gr_h I78 J79) (C := (True ∧ True)) rfl ⟨trivial, trivial⟩ ?_
        obtain ⟨r105, h105, E105, P105⟩ := r_oneValue (ws0 := ws0) (tb := tb) hws htb ext I78 J79 hI78   (by omega) (by omega) (by omega) (by omega) (by omega) (by omega) (by omega)
        obtain ⟨I106, J107, rfl, hI106, g105, k105, ⟨z105, rfl, q105⟩⟩ := P105
        have FI106 := gr_frt FI78 g105 rfl rfl
        have FJ107 := gr_fjt FJ79 k105 rfl rfl
        have t108 := g105 0 69 rfl
        have t109 := g105 0 59 rfl
        have t110 := g105 0 6 rfl
        have t111 := g105 0 118 rfl
        have f112 := (show 0 ≤ I106 0 71 ∧ I106 0 71 ≤ 5 from (hI106 0 71).1)
        have f113 := (show 0 ≤ I106 0 72 ∧ I106 0 72 ≤ 1000 from (hI106 0 72).1)
        have f114 := (show 0 ≤ I106 0 73 ∧ I106 0 73 ≤ 1001 from (hI106 0 73).1)
        have f115 := (show 0 ≤ I106 0 69 ∧ I106 0 69 ≤ 1000 from (hI106 0 69).1)
        have f116 := (show 0 ≤ I106 0 59 ∧ I106 0 59 ≤ 2000 from (hI106 0 59).1)
        have f117 := (show (-1) ≤ I106 0 6 ∧ I106 0 6 ≤ 7 from (hI106 0 6).1)
        have f118 := (show 0 ≤ I106 0 118 ∧ I106 0 118 ≤ 6 from (hI106 0 118).1)
        refine gv_callV hD rfl (As := []) (st := []) rfl (by decide) rfl rfl (gr_lV hws rfl) (Nat.le_of_ble_eq_true rfl) (gz_Ev_mono (d := 11) (by decide) E105) ?_
        show gv_X _ _ (157, [(0, .inr (.inr (some 0)))], [.inl z105], gr_sh ++ ext, gr_h I106 J107)
        refine gv_if_ne (t := 145) hD rfl rfl ⟨by omega, by omega⟩ (fun c119 => ?_) (fun c119 => ?_)
        · exact ih145 I106 J107 (by omega) hI106 FI106 FJ107 (by omega)
        · refine gv_run 1 true hD (pc' := 161) (lv' := [(0, .inr (.inr (some 0)))]) (st' := [.inl 0]) (h' := gr_h I106 J107) (C := (True ∧ True)) rfl ⟨trivial, trivial⟩ ?_
          exact gv_zret hD rfl (by omega) ⟨I106, J107, rfl, hI106, FI106, FJ107, ⟨_, rfl, by omega⟩⟩
  have f120 := (show 0 ≤ I 0 118 ∧ I 0 118 ≤ 6 from (hI 0 118).1)
  refine gv_run 3 true hD (pc' := 6) (lv' := [(0, .inr (.inr (some 0))), (1, .inl a1)]) (st' := [.inl 6, .inl (I 0 118)]) (h' := gr_h I J) (C := (((True ∧ True) ∧ True) ∧ True)) rfl ⟨⟨⟨trivial, trivial⟩, trivial⟩, trivial⟩ ?_
  refine gv_icmp_ne (t := 15) hD rfl rfl ⟨⟨by omega, by omega⟩, ⟨by omega, by omega⟩⟩ (fun c121 => ?_) (fun c121 => ?_)
  · refine gv_run 3 true hD (pc' := 20) (lv' := [(0, .inr (.inr (some 0))), (1, .inl a1)]) (st' := []) (h' := gz_up (gr_h I J) 0 106 (.inl 0)) (C := (((True ∧ True) ∧ True) ∧ True)) rfl ⟨⟨⟨trivial, trivial⟩, trivial⟩, trivial⟩ ?_
    refine gr_st hI FI rfl rfl ⟨⟨by show 0 ≤ _; omega, by show _ ≤ 16777215; omega⟩, trivial⟩ (fun I122 hI122 FI122 q123 p123 => ?_)
    have t124 := p123 0 71 (by decide)
    have t125 := p123 0 72 (by decide)
    have t126 := p123 0 73 (by decide)
    have t127 := p123 0 69 (by decide)
    have t128 := p123 0 59 (by decide)
    have t129 := p123 0 6 (by decide)
    have t130 := p123 0 118 (by decide)
    have f131 := (show 0 ≤ I122 0 71 ∧ I122 0 71 ≤ 5 from (hI122 0 71).1)
    have f132 := (show 0 ≤ I122 0 72 ∧ I122 0 72 ≤ 1000 from (hI122 0 72).1)
    have f133 := (show 0 ≤ I122 0 73 ∧ I122 0 73 ≤ 1001 from (hI122 0 73).1)
    have f134 := (show 0 ≤ I122 0 69 ∧ I122 0 69 ≤ 1000 from (hI122 0 69).1)
    have f135 := (show 0 ≤ I122 0 59 ∧ I122 0 59 ≤ 2000 from (hI122 0 59).1)
    have f136 := (show (-1) ≤ I122 0 6 ∧ I122 0 6 ≤ 7 from (hI122 0 6).1)
    have f137 := (show 0 ≤ I122 0 118 ∧ I122 0 118 ≤ 6 from (hI122 0 118).1)
    have f138 := (show 0 ≤ I122 0 71 ∧ I122 0 71 ≤ 5 from (hI122 0 71).1)
    refine gv_run 3 true hD (pc' := 25) (lv' := [(0, .inr (.inr (some 0))), (1, .inl a1)]) (st' := [.inl 3, .inl (I122 0 71)]) (h' := gr_h I122 J) (C := (((True ∧ True) ∧ True) ∧ True)) rfl ⟨⟨⟨trivial, trivial⟩, trivial⟩, trivial⟩ ?_
    refine gv_icmp_ne (t := 61) hD rfl rfl ⟨⟨by omega, by omega⟩, ⟨by omega, by omega⟩⟩ (fun c139 => ?_) (fun c139 => ?_)
    · have f140 := (show 0 ≤ I122 0 74 ∧ I122 0 74 ≤ 999999 from (hI122 0 74).1)
      refine gv_run 6 true hD (pc' := 69) (lv' := [(2, .inl ((I122 0 74) - 1)), (0, .inr (.inr (some 0))), (1, .inl a1)]) (st' := [.inl ((I122 0 74) - 1)]) (h' := gr_h I122 J) (C := ((((((True ∧ True) ∧ True) ∧ True) ∧ True) ∧ True) ∧ True)) rfl ⟨⟨⟨⟨⟨⟨trivial, trivial⟩, trivial⟩, trivial⟩, trivial⟩, trivial⟩, trivial⟩ ?_
      refine gv_if_lt (t := 91) hD rfl rfl ⟨by omega, by omega⟩ (fun c141 => ?_) (fun c141 => ?_)
      · refine gv_pick [1] rfl ?_
        exact L91 I122 J hI122 FI122 FJ (by omega)
      · have f142 := (show 0 ≤ I122 6 (Int.toNat a1) ∧ I122 6 (Int.toNat a1) ≤ 4 from (hI122 6 (Int.toNat a1)).1)
        refine gv_run 5 true hD (pc' := 79) (lv' := [(2, .inl ((I122 0 74) - 1)), (0, .inr (.inr (some 0))), (1, .inl a1)]) (st' := [.inl (I122 6 (Int.toNat a1)), .inl ((I122 0 74) - 1)]) (h' := gr_h I122 J) (C := (((((True ∧ True) ∧ True) ∧ True) ∧ True) ∧ (0 ≤ a1 ∧ a1 < ((96 : Nat) : Int)))) rfl ⟨⟨⟨⟨⟨trivial, trivial⟩, trivial⟩, trivial⟩, trivial⟩, ⟨by omega, by omega⟩⟩ ?_
        refine gv_icmp_ge (t := 91) hD rfl rfl ⟨⟨by omega, by omega⟩, ⟨by omega, by omega⟩⟩ (fun c143 => ?_) (fun c143 => ?_)
        · refine gv_pick [1] rfl ?_
          exact L91 I122 J hI122 FI122 FJ (by omega)
        · have f144 := (show (-1) ≤ I122 74 (Int.toNat (((I122 0 74) - 1))) ∧ I122 74 (Int.toNat (((I122 0 74) - 1))) ≤ 1000 from (hI122 74 (Int.toNat (((I122 0 74) - 1)))).1)
          refine gv_run 4 true hD (pc' := 88) (lv' := [(2, .inl ((I122 0 74) - 1)), (0, .inr (.inr (some 0))), (1, .inl a1)]) (st' := [.inl (I122 74 (Int.toNat (((I122 0 74) - 1))))]) (h' := gr_h I122 J) (C := ((((True ∧ True) ∧ True) ∧ True) ∧ (0 ≤ (((I122 0 74) - 1)) ∧ (((I122 0 74) - 1)) < ((4 : Nat) : Int)))) rfl ⟨⟨⟨⟨trivial, trivial⟩, trivial⟩, trivial⟩, ⟨by omega, by omega⟩⟩ ?_
          refine gv_if_lt (t := 97) hD rfl rfl ⟨by omega, by omega⟩ (fun c145 => ?_) (fun c145 => ?_)
          · have f146 := (show 0 ≤ I122 0 72 ∧ I122 0 72 ≤ 1000 from (hI122 0 72).1)
            refine gv_run 5 true hD (pc' := 106) (lv' := [(2, .inl ((I122 0 74) - 1)), (0, .inr (.inr (some 0))), (1, .inl a1)]) (st' := [.inl (I122 0 72), .inl ((I122 0 74) - 1), .inr (.inr (some 74))]) (h' := gr_h I122 J) (C := (((((True ∧ True) ∧ True) ∧ True) ∧ True) ∧ True)) rfl ⟨⟨⟨⟨⟨trivial, trivial⟩, trivial⟩, trivial⟩, trivial⟩, trivial⟩ ?_
            refine gv_run 1 true hD (pc' := 107) (lv' := [(2, .inl ((I122 0 74) - 1)), (0, .inr (.inr (some 0))), (1, .inl a1)]) (st' := []) (h' := gz_up (gr_h I122 J) 74 (Int.toNat (((I122 0 74) - 1))) (.inl (I122 0 72))) (C := (True ∧ (0 ≤ (((I122 0 74) - 1)) ∧ (((I122 0 74) - 1)) < ((4 : Nat) : Int)))) rfl ⟨trivial, ⟨by omega, by omega⟩⟩ ?_
            refine gr_st hI122 FI122 rfl rfl ⟨⟨by show (-1) ≤ _; omega, by show _ ≤ 1000; omega⟩, trivial⟩ (fun I147 hI147 FI147 q148 p148 => ?_)
            have t149 := p148 0 71 (fun q => absurd q.1 (by decide))
            have t150 := p148 0 72 (fun q => absurd q.1 (by decide))
            have t151 := p148 0 73 (fun q => absurd q.1 (by decide))
            have t152 := p148 0 69 (fun q => absurd q.1 (by decide))
            have t153 := p148 0 59 (fun q => absurd q.1 (by decide))
            have t154 := p148 0 6 (fun q => absurd q.1 (by decide))
            have t155 := p148 0 118 (fun q => absurd q.1 (by decide))
            have f156 := (show 0 ≤ I147 0 71 ∧ I147 0 71 ≤ 5 from (hI147 0 71).1)
            have f157 := (show 0 ≤ I147 0 72 ∧ I147 0 72 ≤ 1000 from (hI147 0 72).1)
            have f158 := (show 0 ≤ I147 0 73 ∧ I147 0 73 ≤ 1001 from (hI147 0 73).1)
            have f159 := (show 0 ≤ I147 0 69 ∧ I147 0 69 ≤ 1000 from (hI147 0 69).1)
            have f160 := (show 0 ≤ I147 0 59 ∧ I147 0 59 ≤ 2000 from (hI147 0 59).1)
            have f161 := (show (-1) ≤ I147 0 6 ∧ I147 0 6 ≤ 7 from (hI147 0 6).1)
            have f162 := (show 0 ≤ I147 0 118 ∧ I147 0 118 ≤ 6 from (hI147 0 118).1)
            have f163 := (show 0 ≤ I147 0 118 ∧ I147 0 118 ≤ 6 from (hI147 0 118).1)
            refine gv_run 7 true hD (pc' := 118) (lv' := [(2, .inl ((I122 0 74) - 1)), (0, .inr (.inr (some 0))), (1, .inl a1)]) (st' := [.inl ((-1) - ((I122 0 74) - 1)), .inl (I147 0 118), .inr (.inr (some 68))]) (h' := gr_h I147 J) (C := (((((((True ∧ True) ∧ True) ∧ True) ∧ True) ∧ True) ∧ True) ∧ True)) rfl ⟨⟨⟨⟨⟨⟨⟨trivial, trivial⟩, trivial⟩, trivial⟩, trivial⟩, trivial⟩, trivial⟩, trivial⟩ ?_
            refine gv_run 1 true hD (pc' := 119) (lv' := [(2, .inl ((I122 0 74) - 1)), (0, .inr (.inr (some 0))), (1, .inl a1)]) (st' := []) (h' := gz_up (gr_h I147 J) 68 (Int.toNat ((I147 0 118))) (.inl (((-1) - ((I122 0 74) - 1))))) (C := (True ∧ (0 ≤ (I147 0 118) ∧ (I147 0 118) < ((6 : Nat) : Int)))) rfl ⟨trivial, ⟨by omega, by omega⟩⟩ ?_
            refine gr_st hI147 FI147 rfl rfl ⟨⟨by show (-4) ≤ _; omega, by show _ ≤ 32015; omega⟩, trivial⟩ (fun I164 hI164 FI164 q165 p165 => ?_)
            have t166 := p165 0 71 (fun q => absurd q.1 (by decide))
            have t167 := p165 0 72 (fun q => absurd q.1 (by decide))
            have t168 := p165 0 73 (fun q => absurd q.1 (by decide))
            have t169 := p165 0 69 (fun q => absurd q.1 (by decide))
            have t170 := p165 0 59 (fun q => absurd q.1 (by decide))
            have t171 := p165 0 6 (fun q => absurd q.1 (by decide))
            have t172 := p165 0 118 (fun q => absurd q.1 (by decide))
            have f173 := (show 0 ≤ I164 0 71 ∧ I164 0 71 ≤ 5 from (hI164 0 71).1)
            have f174 := (show 0 ≤ I164 0 72 ∧ I164 0 72 ≤ 1000 from (hI164 0 72).1)
            have f175 := (show 0 ≤ I164 0 73 ∧ I164 0 73 ≤ 1001 from (hI164 0 73).1)
            have f176 := (show 0 ≤ I164 0 69 ∧ I164 0 69 ≤ 1000 from (hI164 0 69).1)
            have f177 := (show 0 ≤ I164 0 59 ∧ I164 0 59 ≤ 2000 from (hI164 0 59).1)
            have f178 := (show (-1) ≤ I164 0 6 ∧ I164 0 6 ≤ 7 from (hI164 0 6).1)
            have f179 := (show 0 ≤ I164 0 118 ∧ I164 0 118 ≤ 6 from (hI164 0 118).1)
            refine gv_run 1 true hD (pc' := 120) (lv' := [(2, .inl ((I122 0 74) - 1)), (0, .inr (.inr (some 0))), (1, .inl a1)]) (st' := [.inr (.inr (some 0))]) (h' := gr_h I164 J) (C := (True ∧ True)) rfl ⟨trivial, trivial⟩ ?_
            obtain ⟨r180, h180, E180, P180⟩ := r_next (ws0 := ws0) (tb := tb) hws htb ext I164 J hI164   (by omega)
            obtain ⟨I181, J182, rfl, hI181, g180, k180, ⟨rfl, q180⟩⟩ := P180
            have FI181 := gr_frt FI164 g180 rfl rfl
            have FJ182 := gr_fjt FJ k180 rfl rfl
            have t183 := g180 0 69 rfl
            have t184 := g180 0 59 rfl
            have t185 := g180 0 6 rfl
            have t186 := g180 0 118 rfl
            have f187 := (show 0 ≤ I181 0 71 ∧ I181 0 71 ≤ 5 from (hI181 0 71).1)
            have f188 := (show 0 ≤ I181 0 72 ∧ I181 0 72 ≤ 1000 from (hI181 0 72).1)
            have f189 := (show 0 ≤ I181 0 73 ∧ I181 0 73 ≤ 1001 from (hI181 0 73).1)
            have f190 := (show 0 ≤ I181 0 69 ∧ I181 0 69 ≤ 1000 from (hI181 0 69).1)
            have f191 := (show 0 ≤ I181 0 59 ∧ I181 0 59 ≤ 2000 from (hI181 0 59).1)
            have f192 := (show (-1) ≤ I181 0 6 ∧ I181 0 6 ≤ 7 from (hI181 0 6).1)
            have f193 := (show 0 ≤ I181 0 118 ∧ I181 0 118 ≤ 6 from (hI181 0 118).1)
            refine gv_callV hD rfl (As := []) (st := []) rfl (by decide) rfl rfl (gr_lV hws rfl) (Nat.le_of_ble_eq_true rfl) (gz_Ev_mono (d := 10) (by decide) E180) ?_
            show gv_X _ _ (123, [(2, .inl ((I122 0 74) - 1)), (0, .inr (.inr (some 0))), (1, .inl a1)], [], gr_sh ++ ext, gr_h I181 J182)
            refine gv_run 2 true hD (pc' := 126) (lv' := [(2, .inl ((I122 0 74) - 1)), (0, .inr (.inr (some 0))), (1, .inl a1)]) (st' := [.inl 91, .inr (.inr (some 0))]) (h' := gr_h I181 J182) (C := ((True ∧ True) ∧ True)) rfl ⟨⟨trivial, trivial⟩, trivial⟩ ?_
            obtain ⟨r194, h194, E194, P194⟩ := r_sign (ws0 := ws0) (tb := tb) hws htb ext I181 J182 hI181 91 ⟨by omega, by omega⟩ (by omega)
            obtain ⟨rfl, ⟨z194, rfl, q194⟩⟩ := P194
            refine gv_callV hD rfl (As := [.inl 91]) (st := []) rfl (by decide) rfl rfl (gr_lV hws rfl) (Nat.le_of_ble_eq_true rfl) (gz_Ev_mono (d := 1) (by decide) E194) ?_
            show gv_X _ _ (129, [(2, .inl ((I122 0 74) - 1)), (0, .inr (.inr (some 0))), (1, .inl a1)], [.inl z194], gr_sh ++ ext, gr_h I181 J182)
            refine gv_if_eq (t := 173) hD rfl rfl ⟨by omega, by omega⟩ (fun c195 => ?_) (fun c195 => ?_)
            · refine gv_pick [1] rfl ?_
              exact L173 I181 J182 hI181 FI181 FJ182 (by omega)
            · refine gv_run 1 true hD (pc' := 133) (lv' := [(2, .inl ((I122 0 74) - 1)), (0, .inr (.inr (some 0))), (1, .inl a1)]) (st' := [.inr (.inr (some 0))]) (h' := gr_h I181 J182) (C := (True ∧ True)) rfl ⟨trivial, trivial⟩ ?_
              obtain ⟨r196, h196, E196, P196⟩ := r_next (ws0 := ws0) (tb := tb) hws htb ext I181 J182 hI181   (by omega)
              obtain ⟨I197, J198, rfl, hI197, g196, k196, ⟨rfl, q196⟩⟩ := P196
              have FI197 := gr_frt FI181 g196 rfl rfl
              have FJ198 := gr_fjt FJ182 k196 rfl rfl
              have t199 := g196 0 69 rfl
              have t200 := g196 0 59 rfl
              have t201 := g196 0 6 rfl
              have t202 := g196 0 118 rfl
              have f203 := (show 0 ≤ I197 0 71 ∧ I197 0 71 ≤ 5 from (hI197 0 71).1)
              have f204 := (show 0 ≤ I197 0 72 ∧ I197 0 72 ≤ 1000 from (hI197 0 72).1)
              have f205 := (show 0 ≤ I197 0 73 ∧ I197 0 73 ≤ 1001 from (hI197 0 73).1)
              have f206 := (show 0 ≤ I197 0 69 ∧ I197 0 69 ≤ 1000 from (hI197 0 69).1)
              have f207 := (show 0 ≤ I197 0 59 ∧ I197 0 59 ≤ 2000 from (hI197 0 59).1)
              have f208 := (show (-1) ≤ I197 0 6 ∧ I197 0 6 ≤ 7 from (hI197 0 6).1)
              have f209 := (show 0 ≤ I197 0 118 ∧ I197 0 118 ≤ 6 from (hI197 0 118).1)
              refine gv_callV hD rfl (As := []) (st := []) rfl (by decide) rfl rfl (gr_lV hws rfl) (Nat.le_of_ble_eq_true rfl) (gz_Ev_mono (d := 10) (by decide) E196) ?_
              show gv_X _ _ (136, [(2, .inl ((I122 0 74) - 1)), (0, .inr (.inr (some 0))), (1, .inl a1)], [], gr_sh ++ ext, gr_h I197 J198)
              refine gv_run 1 true hD (pc' := 137) (lv' := [(2, .inl ((I122 0 74) - 1)), (0, .inr (.inr (some 0))), (1, .inl a1)]) (st' := [.inr (.inr (some 0))]) (h' := gr_h I197 J198) (C := (True ∧ True)) rfl ⟨trivial, trivial⟩ ?_
              obtain ⟨r210, h210, E210, P210⟩ := r_name (ws0 := ws0) (tb := tb) hws htb ext I197 J198 hI197   
              obtain ⟨I211, J212, rfl, hI211, g210, k210, ⟨z210, rfl, q210⟩⟩ := P210
              have FI211 := gr_frt FI197 g210 rfl rfl
              have FJ212 := gr_fjt FJ198 k210 rfl rfl
              have t213 := g210 0 71 rfl
              have t214 := g210 0 72 rfl
              have t215 := g210 0 73 rfl
              have t216 := g210 0 69 rfl
              have t217 := g210 0 59 rfl
              have t218 := g210 0 6 rfl
              have t219 := g210 0 118 rfl
              have f220 := (show 0 ≤ I211 0 71 ∧ I211 0 71 ≤ 5 from (hI211 0 71).1)
              have f221 := (show 0 ≤ I211 0 72 ∧ I211 0 72 ≤ 1000 from (hI211 0 72).1)
              have f222 := (show 0 ≤ I211 0 73 ∧ I211 0 73 ≤ 1001 from (hI211 0 73).1)
              have f223 := (show 0 ≤ I211 0 69 ∧ I211 0 69 ≤ 1000 from (hI211 0 69).1)
              have f224 := (show 0 ≤ I211 0 59 ∧ I211 0 59 ≤ 2000 from (hI211 0 59).1)
              have f225 := (show (-1) ≤ I211 0 6 ∧ I211 0 6 ≤ 7 from (hI211 0 6).1)
              have f226 := (show 0 ≤ I211 0 118 ∧ I211 0 118 ≤ 6 from (hI211 0 118).1)
              refine gv_callV hD rfl (As := []) (st := []) rfl (by decide) rfl rfl (gr_lV hws rfl) (Nat.le_of_ble_eq_true rfl) (gz_Ev_mono (d := 3) (by decide) E210) ?_
              show gv_X _ _ (140, [(2, .inl ((I122 0 74) - 1)), (0, .inr (.inr (some 0))), (1, .inl a1)], [.inl z210], gr_sh ++ ext, gr_h I211 J212)
              refine gv_if_ne (t := 145) hD rfl rfl ⟨by omega, by omega⟩ (fun c227 => ?_) (fun c227 => ?_)
              · refine gv_pick [1] rfl ?_
                exact L145 _ I211 J212 (Nat.lt_succ_self _) hI211 FI211 FJ212 (by omega)
              · refine gv_run 1 true hD (pc' := 144) (lv' := [(2, .inl ((I122 0 74) - 1)), (0, .inr (.inr (some 0))), (1, .inl a1)]) (st' := [.inl 0]) (h' := gr_h I211 J212) (C := (True ∧ True)) rfl ⟨trivial, trivial⟩ ?_
                exact gv_zret hD rfl (by omega) ⟨I211, J212, rfl, hI211, FI211, FJ212, ⟨_, rfl, by omega⟩⟩
          · refine gv_pick [1] rfl ?_
            exact L91 I122 J hI122 FI122 FJ (by omega)
    · refine gv_run 1 true hD (pc' := 29) (lv' := [(0, .inr (.inr (some 0))), (1, .inl a1)]) (st' := [.inr (.inr (some 0))]) (h' := gr_h I122 J) (C := (True ∧ True)) rfl ⟨trivial, trivial⟩ ?_
      obtain ⟨r228, h228, E228, P228⟩ := r_size (ws0 := ws0) (tb := tb) hws htb ext I122 J hI122   
      obtain ⟨rfl, ⟨z228, rfl, q228⟩⟩ := P228
      refine gv_callV hD rfl (As := []) (st := []) rfl (by decide) rfl rfl (gr_lV hws rfl) (Nat.le_of_ble_eq_true rfl) (gz_Ev_mono (d := 1) (by decide) E228) ?_
      show gv_X _ _ (32, [(0, .inr (.inr (some 0))), (1, .inl a1)], [.inl z228], gr_sh ++ ext, gr_h I122 J)
      refine gv_if_ne (t := 41) hD rfl rfl ⟨by omega, by omega⟩ (fun c229 => ?_) (fun c229 => ?_)
      · have f230 := (show 0 ≤ I122 0 118 ∧ I122 0 118 ≤ 6 from (hI122 0 118).1)
        refine gv_run 5 true hD (pc' := 50) (lv' := [(0, .inr (.inr (some 0))), (1, .inl a1)]) (st' := [.inr (.inr (some 0)), .inl (I122 0 118), .inr (.inr (some 68))]) (h' := gr_h I122 J) (C := (((((True ∧ True) ∧ True) ∧ True) ∧ True) ∧ True)) rfl ⟨⟨⟨⟨⟨trivial, trivial⟩, trivial⟩, trivial⟩, trivial⟩, trivial⟩ ?_
        obtain ⟨r231, h231, E231, P231⟩ := r_keeps (ws0 := ws0) (tb := tb) hws htb ext I122 J hI122   (by omega) (by omega) (by omega) (by omega)
        obtain ⟨I232, J233, rfl, hI232, g231, k231, ⟨z231, rfl, q231⟩⟩ := P231
        have FI232 := gr_frt FI122 g231 rfl rfl
        have FJ233 := gr_fjt FJ k231 rfl rfl
        have t234 := g231 0 71 rfl
        have t235 := g231 0 72 rfl
        have t236 := g231 0 73 rfl
        have t237 := g231 0 69 rfl
        have t238 := g231 0 6 rfl
        have t239 := g231 0 118 rfl
        have f240 := (show 0 ≤ I232 0 71 ∧ I232 0 71 ≤ 5 from (hI232 0 71).1)
        have f241 := (show 0 ≤ I232 0 72 ∧ I232 0 72 ≤ 1000 from (hI232 0 72).1)
        have f242 := (show 0 ≤ I232 0 73 ∧ I232 0 73 ≤ 1001 from (hI232 0 73).1)
        have f243 := (show 0 ≤ I232 0 69 ∧ I232 0 69 ≤ 1000 from (hI232 0 69).1)
        have f244 := (show 0 ≤ I232 0 59 ∧ I232 0 59 ≤ 2000 from (hI232 0 59).1)
        have f245 := (show (-1) ≤ I232 0 6 ∧ I232 0 6 ≤ 7 from (hI232 0 6).1)
        have f246 := (show 0 ≤ I232 0 118 ∧ I232 0 118 ≤ 6 from (hI232 0 118).1)
        refine gv_callV hD rfl (As := []) (st := [.inl (I122 0 118), .inr (.inr (some 68))]) rfl (by decide) rfl rfl (gr_lV hws rfl) (Nat.le_of_ble_eq_true rfl) (gz_Ev_mono (d := 2) (by decide) E231) ?_
        show gv_X _ _ (53, [(0, .inr (.inr (some 0))), (1, .inl a1)], [.inl z231, .inl (I122 0 118), .inr (.inr (some 68))], gr_sh ++ ext, gr_h I232 J233)
        refine gv_run 1 true hD (pc' := 54) (lv' := [(0, .inr (.inr (some 0))), (1, .inl a1)]) (st' := []) (h' := gz_up (gr_h I232 J233) 68 (Int.toNat ((I122 0 118))) (.inl z231)) (C := (True ∧ (0 ≤ (I122 0 118) ∧ (I122 0 118) < ((6 : Nat) : Int)))) rfl ⟨trivial, ⟨by omega, by omega⟩⟩ ?_
        refine gr_st hI232 FI232 rfl rfl ⟨⟨by show (-4) ≤ _; omega, by show _ ≤ 32015; omega⟩, trivial⟩ (fun I247 hI247 FI247 q248 p248 => ?_)
        have t249 := p248 0 71 (fun q => absurd q.1 (by decide))
        have t250 := p248 0 72 (fun q => absurd q.1 (by decide))
        have t251 := p248 0 73 (fun q => absurd q.1 (by decide))
        have t252 := p248 0 69 (fun q => absurd q.1 (by decide))
        have t253 := p248 0 59 (fun q => absurd q.1 (by decide))
        have t254 := p248 0 6 (fun q => absurd q.1 (by decide))
        have t255 := p248 0 118 (fun q => absurd q.1 (by decide))
        have f256 := (show 0 ≤ I247 0 71 ∧ I247 0 71 ≤ 5 from (hI247 0 71).1)
        have f257 := (show 0 ≤ I247 0 72 ∧ I247 0 72 ≤ 1000 from (hI247 0 72).1)
        have f258 := (show 0 ≤ I247 0 73 ∧ I247 0 73 ≤ 1001 from (hI247 0 73).1)
        have f259 := (show 0 ≤ I247 0 69 ∧ I247 0 69 ≤ 1000 from (hI247 0 69).1)
        have f260 := (show 0 ≤ I247 0 59 ∧ I247 0 59 ≤ 2000 from (hI247 0 59).1)
        have f261 := (show (-1) ≤ I247 0 6 ∧ I247 0 6 ≤ 7 from (hI247 0 6).1)
        have f262 := (show 0 ≤ I247 0 118 ∧ I247 0 118 ≤ 6 from (hI247 0 118).1)
        refine gv_run 1 true hD (pc' := 55) (lv' := [(0, .inr (.inr (some 0))), (1, .inl a1)]) (st' := [.inr (.inr (some 0))]) (h' := gr_h I247 J233) (C := (True ∧ True)) rfl ⟨trivial, trivial⟩ ?_
        obtain ⟨r263, h263, E263, P263⟩ := r_next (ws0 := ws0) (tb := tb) hws htb ext I247 J233 hI247   (by omega)
        obtain ⟨I264, J265, rfl, hI264, g263, k263, ⟨rfl, q263⟩⟩ := P263
        have FI264 := gr_frt FI247 g263 rfl rfl
        have FJ265 := gr_fjt FJ233 k263 rfl rfl
        have t266 := g263 0 69 rfl
        have t267 := g263 0 59 rfl
        have t268 := g263 0 6 rfl
        have t269 := g263 0 118 rfl
        have f270 := (show 0 ≤ I264 0 71 ∧ I264 0 71 ≤ 5 from (hI264 0 71).1)
        have f271 := (show 0 ≤ I264 0 72 ∧ I264 0 72 ≤ 1000 from (hI264 0 72).1)
        have f272 := (show 0 ≤ I264 0 73 ∧ I264 0 73 ≤ 1001 from (hI264 0 73).1)
        have f273 := (show 0 ≤ I264 0 69 ∧ I264 0 69 ≤ 1000 from (hI264 0 69).1)
        have f274 := (show 0 ≤ I264 0 59 ∧ I264 0 59 ≤ 2000 from (hI264 0 59).1)
        have f275 := (show (-1) ≤ I264 0 6 ∧ I264 0 6 ≤ 7 from (hI264 0 6).1)
        have f276 := (show 0 ≤ I264 0 118 ∧ I264 0 118 ≤ 6 from (hI264 0 118).1)
        refine gv_callV hD rfl (As := []) (st := []) rfl (by decide) rfl rfl (gr_lV hws rfl) (Nat.le_of_ble_eq_true rfl) (gz_Ev_mono (d := 10) (by decide) E263) ?_
        show gv_X _ _ (58, [(0, .inr (.inr (some 0))), (1, .inl a1)], [], gr_sh ++ ext, gr_h I264 J265)
        refine gv_run 1 true hD (pc' := 173) (lv' := [(0, .inr (.inr (some 0))), (1, .inl a1)]) (st' := []) (h' := gr_h I264 J265) (C := (True ∧ True)) rfl ⟨trivial, trivial⟩ ?_
        refine gv_pick [0] rfl ?_
        exact L173 I264 J265 hI264 FI264 FJ265 (by omega)
      · refine gv_run 2 true hD (pc' := 37) (lv' := [(0, .inr (.inr (some 0))), (1, .inl a1)]) (st' := [.inl 5, .inr (.inr (some 0))]) (h' := gr_h I122 J) (C := ((True ∧ True) ∧ True)) rfl ⟨⟨trivial, trivial⟩, trivial⟩ ?_
        obtain ⟨r277, h277, E277, P277⟩ := r_no_ (ws0 := ws0) (tb := tb) hws htb ext I122 J hI122 5 ⟨by omega, by omega⟩ 
        obtain ⟨I278, J279, rfl, hI278, g277, k277, ⟨z277, rfl, q277⟩⟩ := P277
        have FI278 := gr_frt FI122 g277 rfl rfl
        have FJ279 := gr_fjt FJ k277 rfl rfl
        have t280 := g277 0 71 rfl
        have t281 := g277 0 72 rfl
        have t282 := g277 0 73 rfl
        have t283 := g277 0 69 rfl
        have t284 := g277 0 59 rfl
        have t285 := g277 0 6 rfl
        have t286 := g277 0 118 rfl
        have f287 := (show 0 ≤ I278 0 71 ∧ I278 0 71 ≤ 5 from (hI278 0 71).1)
        have f288 := (show 0 ≤ I278 0 72 ∧ I278 0 72 ≤ 1000 from (hI278 0 72).1)
        have f289 := (show 0 ≤ I278 0 73 ∧ I278 0 73 ≤ 1001 from (hI278 0 73).1)
        have f290 := (show 0 ≤ I278 0 69 ∧ I278 0 69 ≤ 1000 from (hI278 0 69).1)
        have f291 := (show 0 ≤ I278 0 59 ∧ I278 0 59 ≤ 2000 from (hI278 0 59).1)
        have f292 := (show (-1) ≤ I278 0 6 ∧ I278 0 6 ≤ 7 from (hI278 0 6).1)
        have f293 := (show 0 ≤ I278 0 118 ∧ I278 0 118 ≤ 6 from (hI278 0 118).1)
        refine gv_callV hD rfl (As := [.inl 5]) (st := []) rfl (by decide) rfl rfl (gr_lV hws rfl) (Nat.le_of_ble_eq_true rfl) (gz_Ev_mono (d := 2) (by decide) E277) ?_
        show gv_X _ _ (40, [(0, .inr (.inr (some 0))), (1, .inl a1)], [.inl z277], gr_sh ++ ext, gr_h I278 J279)
        exact gv_zret hD rfl (by omega) ⟨I278, J279, rfl, hI278, FI278, FJ279, ⟨_, rfl, by omega⟩⟩
  · refine gv_run 2 true hD (pc' := 11) (lv' := [(0, .inr (.inr (some 0))), (1, .inl a1)]) (st' := [.inl 5, .inr (.inr (some 0))]) (h' := gr_h I J) (C := ((True ∧ True) ∧ True)) rfl ⟨⟨trivial, trivial⟩, trivial⟩ ?_
    obtain ⟨r294, h294, E294, P294⟩ := r_no_ (ws0 := ws0) (tb := tb) hws htb ext I J hI 5 ⟨by omega, by omega⟩ 
    obtain ⟨I295, J296, rfl, hI295, g294, k294, ⟨z294, rfl, q294⟩⟩ := P294
    have FI295 := gr_frt FI g294 rfl rfl
    have FJ296 := gr_fjt FJ k294 rfl rfl
    have t297 := g294 0 71 rfl
    have t298 := g294 0 72 rfl
    have t299 := g294 0 73 rfl
    have t300 := g294 0 69 rfl
    have t301 := g294 0 59 rfl
    have t302 := g294 0 6 rfl
    have t303 := g294 0 118 rfl
    have f304 := (show 0 ≤ I295 0 71 ∧ I295 0 71 ≤ 5 from (hI295 0 71).1)
    have f305 := (show 0 ≤ I295 0 72 ∧ I295 0 72 ≤ 1000 from (hI295 0 72).1)
    have f306 := (show 0 ≤ I295 0 73 ∧ I295 0 73 ≤ 1001 from (hI295 0 73).1)
    have f307 := (show 0 ≤ I295 0 69 ∧ I295 0 69 ≤ 1000 from (hI295 0 69).1)
    have f308 := (show 0 ≤ I295 0 59 ∧ I295 0 59 ≤ 2000 from (hI295 0 59).1)
    have f309 := (show (-1) ≤ I295 0 6 ∧ I295 0 6 ≤ 7 from (hI295 0 6).1)
    have f310 := (show 0 ≤ I295 0 118 ∧ I295 0 118 ≤ 6 from (hI295 0 118).1)
    refine gv_callV hD rfl (As := [.inl 5]) (st := []) rfl (by decide) rfl rfl (gr_lV hws rfl) (Nat.le_of_ble_eq_true rfl) (gz_Ev_mono (d := 2) (by decide) E294) ?_
    show gv_X _ _ (14, [(0, .inr (.inr (some 0))), (1, .inl a1)], [.inl z294], gr_sh ++ ext, gr_h I295 J296)
    exact gv_zret hD rfl (by omega) ⟨I295, J296, rfl, hI295, FI295, FJ296, ⟨_, rfl, by omega⟩⟩
