set_option maxHeartbeats 16000000 in
set_option maxRecDepth 100000 in
theorem r_item_p {ws0 : List Cond} {tb : String → gz_T} (hws : ∀ w ∈ gr_ws, w ∈ ws0) (htb : tb RX13 = gr_T) (ext : gz_Sh) (β : Int → Int) (N9 : Int) (p9 : Int) (I : gr_I) (J : gr_J) (hI : gr_Inv I) (a1 : Int) (ha1 : 0 ≤ a1 ∧ a1 ≤ 95) (x0 : I 0 71 = 5 ∨ I 0 73 ≤ I 0 69) (x1 : I 0 72 ≤ I 0 69) (x2 : I 0 71 = 0 ∨ (I 0 72 < I 0 73 ∧ I 0 72 < I 0 69)) (x3 : I 0 71 = 3 → 2 ≤ I 0 73 - I 0 72 ∧ I 0 73 - I 0 72 ≤ 14) (x4 : I 0 72 ≤ I 0 73) (x5 : 0 ≤ I 0 6) (x6 : I 0 59 + I 0 69 - I 0 72 ≤ 1900) (x7 : I 0 71 = 3 ∨ I 0 71 = 2) (x8 : gr_R1 a1 I) (x9 : gr_ATp β N9 p9 I J) (x10 : 0 ≤ p9) : ∃ r h', gz_Ev ws0 tb 12 (yX13_item, cX13_item, 3, (some .boolean)) [.inr (.inr (some 0)), .inl a1] (gr_sh ++ ext) (gr_h I J) r (gr_sh ++ ext) h' 0 0 ∧ (∃ (I' : gr_I) (J' : gr_J), h' = gr_h I' J' ∧ gr_Inv I' ∧ gr_fr [59, 71, 72, 73, 74, 75, 76, 77, 106, 118] [51, 68, 69, 74] I I' ∧ gr_fj [59, 71, 72, 73, 74, 75, 76, 77, 106, 118] [51, 68, 69, 74] J J' ∧ (∃ z : Int, r = some (.inl z) ∧ 0 ≤ z ∧ z ≤ 1 ∧ (I' 0 71 = 5 ∨ I' 0 73 ≤ I' 0 69) ∧ (I' 0 72 ≤ I' 0 69) ∧ (I' 0 71 = 0 ∨ (I' 0 72 < I' 0 73 ∧ I' 0 72 < I' 0 69)) ∧ (I' 0 71 = 3 → 2 ≤ I' 0 73 - I' 0 72 ∧ I' 0 73 - I' 0 72 ≤ 14) ∧ (I' 0 72 ≤ I' 0 73) ∧ (I' 0 69 = I 0 69) ∧ (I 0 73 ≤ I' 0 73) ∧ (I 0 72 ≤ I' 0 72) ∧ (I' 0 59 - I' 0 72 ≤ I 0 59 - I 0 72) ∧ (z = 0 ∨ I 0 72 < I' 0 72) ∧ (gr_o (z = 0) (gr_R1 a1 I')) ∧ (gs_Or z (0 ≤ (gs_it β N9 I J (I 6 (Int.toNat a1)) (I 0 118) (gs_a4 (I 74)) p9) ∧ gr_ATp β N9 (gs_it β N9 I J (I 6 (Int.toNat a1)) (I 0 118) (gs_a4 (I 74)) p9) I' J' ∧ gs_Uit β N9 p9 I I') ((gs_it β N9 I J (I 6 (Int.toNat a1)) (I 0 118) (gs_a4 (I 74)) p9) < 0 ∧ I' 0 77 = -1 - (gs_it β N9 I J (I 6 (Int.toNat a1)) (I 0 118) (gs_a4 (I 74)) p9))))) := by
  have FI : gr_fr [59, 71, 72, 73, 74, 75, 76, 77, 106, 118] [51, 68, 69, 74] I I := fun _ _ _ => rfl
  have FJ : gr_fj [59, 71, 72, 73, 74, 75, 76, 77, 106, 118] [51, 68, 69, 74] J J := fun _ _ _ => rfl
  have hD : gv_D (gr_E ws0 tb 11 (yX13_item, cX13_item, 3, (some .boolean)) kX13_item) := gq_ok oX13_item
  refine gr_ev (d := 11) (l := kX13_item) (Po := fun r h' => (∃ (I' : gr_I) (J' : gr_J), h' = gr_h I' J' ∧ gr_Inv I' ∧ gr_fr [59, 71, 72, 73, 74, 75, 76, 77, 106, 118] [51, 68, 69, 74] I I' ∧ gr_fj [59, 71, 72, 73, 74, 75, 76, 77, 106, 118] [51, 68, 69, 74] J J' ∧ (∃ z : Int, r = some (.inl z) ∧ 0 ≤ z ∧ z ≤ 1 ∧ (I' 0 71 = 5 ∨ I' 0 73 ≤ I' 0 69) ∧ (I' 0 72 ≤ I' 0 69) ∧ (I' 0 71 = 0 ∨ (I' 0 72 < I' 0 73 ∧ I' 0 72 < I' 0 69)) ∧ (I' 0 71 = 3 → 2 ≤ I' 0 73 - I' 0 72 ∧ I' 0 73 - I' 0 72 ≤ 14) ∧ (I' 0 72 ≤ I' 0 73) ∧ (I' 0 69 = I 0 69) ∧ (I 0 73 ≤ I' 0 73) ∧ (I 0 72 ≤ I' 0 72) ∧ (I' 0 59 - I' 0 72 ≤ I 0 59 - I 0 72) ∧ (z = 0 ∨ I 0 72 < I' 0 72) ∧ (gr_o (z = 0) (gr_R1 a1 I')) ∧ (gs_Or z (0 ≤ (gs_it β N9 I J (I 6 (Int.toNat a1)) (I 0 118) (gs_a4 (I 74)) p9) ∧ gr_ATp β N9 (gs_it β N9 I J (I 6 (Int.toNat a1)) (I 0 118) (gs_a4 (I 74)) p9) I' J' ∧ gs_Uit β N9 p9 I I') ((gs_it β N9 I J (I 6 (Int.toNat a1)) (I 0 118) (gs_a4 (I 74)) p9) < 0 ∧ I' 0 77 = -1 - (gs_it β N9 I J (I 6 (Int.toNat a1)) (I 0 118) (gs_a4 (I 74)) p9)))))) htb rfl (Nat.le_of_ble_eq_true rfl) ?_
  have tAT := gr_ATp_l x9
  clear x0 x2 x3
  have f1 := (show 0 ≤ I 0 71 ∧ I 0 71 ≤ 5 from (hI 0 71).1)
  have f2 := (show 0 ≤ I 0 72 ∧ I 0 72 ≤ 1000 from (hI 0 72).1)
  have f3 := (show 0 ≤ I 0 73 ∧ I 0 73 ≤ 1001 from (hI 0 73).1)
  have f4 := (show 0 ≤ I 0 69 ∧ I 0 69 ≤ 1000 from (hI 0 69).1)
  have f5 := (show 0 ≤ I 0 59 ∧ I 0 59 ≤ 2000 from (hI 0 59).1)
  have f6 := (show (-1) ≤ I 0 6 ∧ I 0 6 ≤ 7 from (hI 0 6).1)
  have f7 := (show 0 ≤ I 0 118 ∧ I 0 118 ≤ 6 from (hI 0 118).1)
  have f8 := (show 0 ≤ I 0 119 ∧ I 0 119 ≤ 6 from (hI 0 119).1)
  have f9 := (show 0 ≤ I 0 74 ∧ I 0 74 ≤ 999999 from (hI 0 74).1)
  have f10 := (show 0 ≤ I 0 106 ∧ I 0 106 ≤ 16777215 from (hI 0 106).1)
  have L173 : ∀ (I11 : gr_I) (J12 : gr_J) (p_13 : Int), gr_Inv I11 → gr_fr [59, 71, 72, 73, 74, 75, 76, 77, 106, 118] [51, 68, 69, 74] I I11 → gr_fj [59, 71, 72, 73, 74, 75, 76, 77, 106, 118] [51, 68, 69, 74] J J12 → ((I 0 72 < I11 0 72) ∧ (I11 0 118 ≤ 5) ∧ (I11 0 59 - I11 0 72 ≤ I 0 59 - I 0 72) ∧ (0 ≤ I11 0 6) ∧ (0 ≤ p_13) ∧ (I11 0 72 ≤ I11 0 69) ∧ (I11 0 72 ≤ I11 0 73) ∧ (I11 0 69 = I 0 69) ∧ (I 0 73 ≤ I11 0 73) ∧ (I 0 72 ≤ I11 0 72)) → (gr_R1u a1 I11) → (gr_ATp β N9 p_13 I11 J12) → ((gs_it β N9 I J (I 6 (Int.toNat a1)) (I 0 118) (gs_a4 (I 74)) p9) = p_13) → (gs_Uiv β N9 p9 I I11) → gv_X (gr_E ws0 tb 11 (yX13_item, cX13_item, 3, (some .boolean)) kX13_item) (gv_Q cX13_item (some .boolean) (gr_sh ++ ext) (fun r h' => (∃ (I' : gr_I) (J' : gr_J), h' = gr_h I' J' ∧ gr_Inv I' ∧ gr_fr [59, 71, 72, 73, 74, 75, 76, 77, 106, 118] [51, 68, 69, 74] I I' ∧ gr_fj [59, 71, 72, 73, 74, 75, 76, 77, 106, 118] [51, 68, 69, 74] J J' ∧ (∃ z : Int, r = some (.inl z) ∧ 0 ≤ z ∧ z ≤ 1 ∧ (I' 0 71 = 5 ∨ I' 0 73 ≤ I' 0 69) ∧ (I' 0 72 ≤ I' 0 69) ∧ (I' 0 71 = 0 ∨ (I' 0 72 < I' 0 73 ∧ I' 0 72 < I' 0 69)) ∧ (I' 0 71 = 3 → 2 ≤ I' 0 73 - I' 0 72 ∧ I' 0 73 - I' 0 72 ≤ 14) ∧ (I' 0 72 ≤ I' 0 73) ∧ (I' 0 69 = I 0 69) ∧ (I 0 73 ≤ I' 0 73) ∧ (I 0 72 ≤ I' 0 72) ∧ (I' 0 59 - I' 0 72 ≤ I 0 59 - I 0 72) ∧ (z = 0 ∨ I 0 72 < I' 0 72) ∧ (gr_o (z = 0) (gr_R1 a1 I')) ∧ (gs_Or z (0 ≤ (gs_it β N9 I J (I 6 (Int.toNat a1)) (I 0 118) (gs_a4 (I 74)) p9) ∧ gr_ATp β N9 (gs_it β N9 I J (I 6 (Int.toNat a1)) (I 0 118) (gs_a4 (I 74)) p9) I' J' ∧ gs_Uit β N9 p9 I I') ((gs_it β N9 I J (I 6 (Int.toNat a1)) (I 0 118) (gs_a4 (I 74)) p9) < 0 ∧ I' 0 77 = -1 - (gs_it β N9 I J (I 6 (Int.toNat a1)) (I 0 118) (gs_a4 (I 74)) p9))))))) (173, [(0, .inr (.inr (some 0)))], [], gr_sh ++ ext, gr_h I11 J12) := by
    intro I11 J12 p_13 hI11 FI11 FJ12 m_13 e4_13 e6_13 e7_13 e8_13
    obtain ⟨e0_13, e1_13, e2_13, e3_13, e5_13, e9_13, e10_13, e11_13, e12_13, e13_13⟩ := m_13
    have f14 := (show 0 ≤ I11 0 71 ∧ I11 0 71 ≤ 5 from (hI11 0 71).1)
    have f15 := (show 0 ≤ I11 0 72 ∧ I11 0 72 ≤ 1000 from (hI11 0 72).1)
    have f16 := (show 0 ≤ I11 0 73 ∧ I11 0 73 ≤ 1001 from (hI11 0 73).1)
    have f17 := (show 0 ≤ I11 0 69 ∧ I11 0 69 ≤ 1000 from (hI11 0 69).1)
    have f18 := (show 0 ≤ I11 0 59 ∧ I11 0 59 ≤ 2000 from (hI11 0 59).1)
    have f19 := (show (-1) ≤ I11 0 6 ∧ I11 0 6 ≤ 7 from (hI11 0 6).1)
    have f20 := (show 0 ≤ I11 0 118 ∧ I11 0 118 ≤ 6 from (hI11 0 118).1)
    have f21 := (show 0 ≤ I11 0 119 ∧ I11 0 119 ≤ 6 from (hI11 0 119).1)
    have f22 := (show 0 ≤ I11 0 74 ∧ I11 0 74 ≤ 999999 from (hI11 0 74).1)
    have f23 := (show 0 ≤ I11 0 106 ∧ I11 0 106 ≤ 16777215 from (hI11 0 106).1)
    have t24 := gr_ATp_l e6_13
    have f25 := (show 0 ≤ I11 0 118 ∧ I11 0 118 ≤ 6 from (hI11 0 118).1)
    refine gv_run 7 true hD (pc' := 184) (lv' := [(0, .inr (.inr (some 0)))]) (st' := [.inl 1, .inl (I11 0 118), .inr (.inr (some 0)), .inl (I11 0 118), .inr (.inr (some 69))]) (h' := gr_h I11 J12) (C := (((((((True ∧ True) ∧ True) ∧ True) ∧ True) ∧ True) ∧ True) ∧ True)) rfl ⟨⟨⟨⟨⟨⟨⟨trivial, trivial⟩, trivial⟩, trivial⟩, trivial⟩, trivial⟩, trivial⟩, trivial⟩ ?_
    refine gv_run 2 true hD (pc' := 188) (lv' := [(0, .inr (.inr (some 0)))]) (st' := [.inl (I11 0 118), .inr (.inr (some 69))]) (h' := gz_up (gr_h I11 J12) 0 118 (.inl (((I11 0 118) + 1)))) (C := ((True ∧ True) ∧ True)) rfl ⟨⟨trivial, trivial⟩, trivial⟩ ?_
    refine gr_st hI11 FI11 rfl rfl ⟨⟨by show 0 ≤ _; omega, by show _ ≤ 6; omega⟩, trivial⟩ (fun I26 hI26 FI26 q27 p27 => ?_)
    have t28 := p27 0 71 (by decide)
    have t29 := p27 0 72 (by decide)
    have t30 := p27 0 73 (by decide)
    have t31 := p27 0 69 (by decide)
    have t32 := p27 0 59 (by decide)
    have t33 := p27 0 6 (by decide)
    have t34 := p27 0 119 (by decide)
    have t35 := p27 0 74 (by decide)
    have t36 := p27 0 106 (by decide)
    have f37 := (show 0 ≤ I26 0 71 ∧ I26 0 71 ≤ 5 from (hI26 0 71).1)
    have f38 := (show 0 ≤ I26 0 72 ∧ I26 0 72 ≤ 1000 from (hI26 0 72).1)
    have f39 := (show 0 ≤ I26 0 73 ∧ I26 0 73 ≤ 1001 from (hI26 0 73).1)
    have f40 := (show 0 ≤ I26 0 69 ∧ I26 0 69 ≤ 1000 from (hI26 0 69).1)
    have f41 := (show 0 ≤ I26 0 59 ∧ I26 0 59 ≤ 2000 from (hI26 0 59).1)
    have f42 := (show (-1) ≤ I26 0 6 ∧ I26 0 6 ≤ 7 from (hI26 0 6).1)
    have f43 := (show 0 ≤ I26 0 118 ∧ I26 0 118 ≤ 6 from (hI26 0 118).1)
    have f44 := (show 0 ≤ I26 0 119 ∧ I26 0 119 ≤ 6 from (hI26 0 119).1)
    have f45 := (show 0 ≤ I26 0 74 ∧ I26 0 74 ≤ 999999 from (hI26 0 74).1)
    have f46 := (show 0 ≤ I26 0 106 ∧ I26 0 106 ≤ 16777215 from (hI26 0 106).1)
    have A47 := gr_ATp_sf e6_13 p27 rfl
    have f48 := (show 0 ≤ I26 0 106 ∧ I26 0 106 ≤ 16777215 from (hI26 0 106).1)
    refine gv_run 3 true hD (pc' := 193) (lv' := [(0, .inr (.inr (some 0)))]) (st' := []) (h' := gz_up (gr_h I26 J12) 69 (Int.toNat ((I11 0 118))) (.inl (I26 0 106))) (C := (((True ∧ True) ∧ True) ∧ (0 ≤ (I11 0 118) ∧ (I11 0 118) < ((6 : Nat) : Int)))) rfl ⟨⟨⟨trivial, trivial⟩, trivial⟩, ⟨by omega, by omega⟩⟩ ?_
    refine gr_st hI26 FI26 rfl rfl ⟨⟨by show 0 ≤ _; omega, by show _ ≤ 16777215; omega⟩, trivial⟩ (fun I49 hI49 FI49 q50 p50 => ?_)
    have t51 := p50 0 71 (fun q => absurd q.1 (by decide))
    have t52 := p50 0 72 (fun q => absurd q.1 (by decide))
    have t53 := p50 0 73 (fun q => absurd q.1 (by decide))
    have t54 := p50 0 69 (fun q => absurd q.1 (by decide))
    have t55 := p50 0 59 (fun q => absurd q.1 (by decide))
    have t56 := p50 0 6 (fun q => absurd q.1 (by decide))
    have t57 := p50 0 118 (fun q => absurd q.1 (by decide))
    have t58 := p50 0 119 (fun q => absurd q.1 (by decide))
    have t59 := p50 0 74 (fun q => absurd q.1 (by decide))
    have t60 := p50 0 106 (fun q => absurd q.1 (by decide))
    have f61 := (show 0 ≤ I49 0 71 ∧ I49 0 71 ≤ 5 from (hI49 0 71).1)
    have f62 := (show 0 ≤ I49 0 72 ∧ I49 0 72 ≤ 1000 from (hI49 0 72).1)
    have f63 := (show 0 ≤ I49 0 73 ∧ I49 0 73 ≤ 1001 from (hI49 0 73).1)
    have f64 := (show 0 ≤ I49 0 69 ∧ I49 0 69 ≤ 1000 from (hI49 0 69).1)
    have f65 := (show 0 ≤ I49 0 59 ∧ I49 0 59 ≤ 2000 from (hI49 0 59).1)
    have f66 := (show (-1) ≤ I49 0 6 ∧ I49 0 6 ≤ 7 from (hI49 0 6).1)
    have f67 := (show 0 ≤ I49 0 118 ∧ I49 0 118 ≤ 6 from (hI49 0 118).1)
    have f68 := (show 0 ≤ I49 0 119 ∧ I49 0 119 ≤ 6 from (hI49 0 119).1)
    have f69 := (show 0 ≤ I49 0 74 ∧ I49 0 74 ≤ 999999 from (hI49 0 74).1)
    have f70 := (show 0 ≤ I49 0 106 ∧ I49 0 106 ≤ 16777215 from (hI49 0 106).1)
    have A71 := gr_ATp_sr A47 p50 rfl
    refine gv_run 1 true hD (pc' := 194) (lv' := [(0, .inr (.inr (some 0)))]) (st' := [.inl 1]) (h' := gr_h I49 J12) (C := (True ∧ True)) rfl ⟨trivial, trivial⟩ ?_
    have b72 : (I49 0 69 = I 0 69) ∧ (I 0 73 ≤ I49 0 73) ∧ (I 0 72 ≤ I49 0 72) ∧ (I49 0 59 - I49 0 72 ≤ I 0 59 - I 0 72) ∧ ((1 : Int) = 0 ∨ I 0 72 < I49 0 72) := by omega
    exact gv_zret hD rfl (by omega) ⟨I49, J12, rfl, hI49, FI49, FJ12, ⟨_, rfl, by omega, by omega, (gr_ATp_rr A71).1, (gr_ATp_rr A71).2.1, (gr_ATp_rr A71).2.2.1, (gr_ATp_rr A71).2.2.2.1, (gr_ATp_rr A71).2.2.2.2, b72.1, b72.2.1, b72.2.2.1, b72.2.2.2.1, b72.2.2.2.2, (gr_o_b (gr_R1_fr (gr_R1_up e4_13 (fun k => p27 68 k (fun q => absurd q.1 (by decide))) (fun k => p27 74 k (fun q => absurd q.1 (by decide))) (fun k => p27 6 k (fun q => absurd q.1 (by decide))) (fun k => p27 70 k (fun q => absurd q.1 (by decide))) (fun k => p27 71 k (fun q => absurd q.1 (by decide))) (by omega) (by omega)) (fun k => p50 68 k (fun q => absurd q.1 (by decide))) (fun k => p50 74 k (fun q => absurd q.1 (by decide))) (fun k => p50 6 k (fun q => absurd q.1 (by decide))) (fun k => p50 70 k (fun q => absurd q.1 (by decide))) (fun k => p50 71 k (fun q => absurd q.1 (by decide))) (p50 0 118 (fun q => absurd q.1 (by decide))) (p50 0 119 (fun q => absurd q.1 (by decide))))), (Or.inl ⟨by omega, by rw [e7_13]; exact ⟨by omega, A71, gs_Uit_mk e8_13 (by omega) (fun j => ((p50 74 j (fun q => absurd q.1 (by decide))).trans (p27 74 j (fun q => absurd q.1 (by decide))))) (fun j => ((p50 68 j (fun q => absurd q.1 (by decide))).trans (p27 68 j (fun q => absurd q.1 (by decide)))))⟩⟩)⟩⟩
  have L145 : ∀ (n : Nat) (I73 : gr_I) (J74 : gr_J) (p_75 : Int), (1001 - I73 0 72).toNat < n → gr_Inv I73 → gr_fr [59, 71, 72, 73, 74, 75, 76, 77, 106, 118] [51, 68, 69, 74] I I73 → gr_fj [59, 71, 72, 73, 74, 75, 76, 77, 106, 118] [51, 68, 69, 74] J J74 → ((I 0 72 < I73 0 72) ∧ (I73 0 118 ≤ 5) ∧ (I73 0 59 - I73 0 72 ≤ I 0 59 - I 0 72) ∧ (0 ≤ I73 0 6) ∧ (0 ≤ p_75) ∧ (I73 0 72 ≤ I73 0 69) ∧ (I73 0 72 ≤ I73 0 73) ∧ (I73 0 69 = I 0 69) ∧ (I 0 73 ≤ I73 0 73) ∧ (I 0 72 ≤ I73 0 72)) → (gr_R1u a1 I73) → (gr_ATp β N9 p_75 I73 J74) → (∃ m : Nat, 1001 - gs_A β N9 p_75 < (m : Int) ∧ (gs_it β N9 I J (I 6 (Int.toNat a1)) (I 0 118) (gs_a4 (I 74)) p9) = gs_it4 β N9 (gs_ws β N9 I J m (I73 0 106) p_75)) → (gs_Uiv β N9 p9 I I73) → gv_X (gr_E ws0 tb 11 (yX13_item, cX13_item, 3, (some .boolean)) kX13_item) (gv_Q cX13_item (some .boolean) (gr_sh ++ ext) (fun r h' => (∃ (I' : gr_I) (J' : gr_J), h' = gr_h I' J' ∧ gr_Inv I' ∧ gr_fr [59, 71, 72, 73, 74, 75, 76, 77, 106, 118] [51, 68, 69, 74] I I' ∧ gr_fj [59, 71, 72, 73, 74, 75, 76, 77, 106, 118] [51, 68, 69, 74] J J' ∧ (∃ z : Int, r = some (.inl z) ∧ 0 ≤ z ∧ z ≤ 1 ∧ (I' 0 71 = 5 ∨ I' 0 73 ≤ I' 0 69) ∧ (I' 0 72 ≤ I' 0 69) ∧ (I' 0 71 = 0 ∨ (I' 0 72 < I' 0 73 ∧ I' 0 72 < I' 0 69)) ∧ (I' 0 71 = 3 → 2 ≤ I' 0 73 - I' 0 72 ∧ I' 0 73 - I' 0 72 ≤ 14) ∧ (I' 0 72 ≤ I' 0 73) ∧ (I' 0 69 = I 0 69) ∧ (I 0 73 ≤ I' 0 73) ∧ (I 0 72 ≤ I' 0 72) ∧ (I' 0 59 - I' 0 72 ≤ I 0 59 - I 0 72) ∧ (z = 0 ∨ I 0 72 < I' 0 72) ∧ (gr_o (z = 0) (gr_R1 a1 I')) ∧ (gs_Or z (0 ≤ (gs_it β N9 I J (I 6 (Int.toNat a1)) (I 0 118) (gs_a4 (I 74)) p9) ∧ gr_ATp β N9 (gs_it β N9 I J (I 6 (Int.toNat a1)) (I 0 118) (gs_a4 (I 74)) p9) I' J' ∧ gs_Uit β N9 p9 I I') ((gs_it β N9 I J (I 6 (Int.toNat a1)) (I 0 118) (gs_a4 (I 74)) p9) < 0 ∧ I' 0 77 = -1 - (gs_it β N9 I J (I 6 (Int.toNat a1)) (I 0 118) (gs_a4 (I 74)) p9))))))) (145, [(0, .inr (.inr (some 0)))], [], gr_sh ++ ext, gr_h I73 J74) := by
    intro n
    induction n with
    | zero => intro I73 J74 p_75 hn; omega
    | succ n ih145 =>
      intro I73 J74 p_75 hn hI73 FI73 FJ74 m_75 e4_75 e6_75 e7_75 e8_75
      obtain ⟨e0_75, e1_75, e2_75, e3_75, e5_75, e9_75, e10_75, e11_75, e12_75, e13_75⟩ := m_75
      have f76 := (show 0 ≤ I73 0 71 ∧ I73 0 71 ≤ 5 from (hI73 0 71).1)
      have f77 := (show 0 ≤ I73 0 72 ∧ I73 0 72 ≤ 1000 from (hI73 0 72).1)
      have f78 := (show 0 ≤ I73 0 73 ∧ I73 0 73 ≤ 1001 from (hI73 0 73).1)
      have f79 := (show 0 ≤ I73 0 69 ∧ I73 0 69 ≤ 1000 from (hI73 0 69).1)
      have f80 := (show 0 ≤ I73 0 59 ∧ I73 0 59 ≤ 2000 from (hI73 0 59).1)
      have f81 := (show (-1) ≤ I73 0 6 ∧ I73 0 6 ≤ 7 from (hI73 0 6).1)
      have f82 := (show 0 ≤ I73 0 118 ∧ I73 0 118 ≤ 6 from (hI73 0 118).1)
      have f83 := (show 0 ≤ I73 0 119 ∧ I73 0 119 ≤ 6 from (hI73 0 119).1)
      have f84 := (show 0 ≤ I73 0 74 ∧ I73 0 74 ≤ 999999 from (hI73 0 74).1)
      have f85 := (show 0 ≤ I73 0 106 ∧ I73 0 106 ≤ 16777215 from (hI73 0 106).1)
      have t86 := gr_ATp_l e6_75
      have f87 := (show 0 ≤ I73 0 71 ∧ I73 0 71 ≤ 5 from (hI73 0 71).1)
      refine gv_run 3 true hD (pc' := 150) (lv' := [(0, .inr (.inr (some 0)))]) (st' := [.inl 1, .inl (I73 0 71)]) (h' := gr_h I73 J74) (C := (((True ∧ True) ∧ True) ∧ True)) rfl ⟨⟨⟨trivial, trivial⟩, trivial⟩, trivial⟩ ?_
      refine gv_icmp_ne (t := 162) hD rfl rfl ⟨⟨by omega, by omega⟩, ⟨by omega, by omega⟩⟩ (fun c88 => ?_) (fun c88 => ?_)
      · have t89 := gr_ATp_ne e6_75 (c := 1) (by omega) (by omega)
        refine gv_run 2 true hD (pc' := 165) (lv' := [(0, .inr (.inr (some 0)))]) (st' := [.inl 93, .inr (.inr (some 0))]) (h' := gr_h I73 J74) (C := ((True ∧ True) ∧ True)) rfl ⟨⟨trivial, trivial⟩, trivial⟩ ?_
        obtain ⟨r90, h90, E90, P90⟩ := r_need_p (ws0 := ws0) (tb := tb) hws htb ext β N9 p_75 I73 J74 hI73 93 ⟨by omega, by omega⟩ (gr_ATp_rr e6_75).1 (gr_ATp_rr e6_75).2.1 (gr_ATp_rr e6_75).2.2.1 (gr_ATp_rr e6_75).2.2.2.1 (gr_ATp_rr e6_75).2.2.2.2 e6_75 (by omega)
        obtain ⟨I91, J92, rfl, hI91, g90, k90, ⟨z90, rfl, q90⟩⟩ := P90
        have FI91 := gr_frt FI73 g90 rfl rfl
        have FJ92 := gr_fjt FJ74 k90 rfl rfl
        have t93 := g90 0 69 rfl
        have t94 := g90 0 59 rfl
        have t95 := g90 0 6 rfl
        have t96 := g90 0 118 rfl
        have t97 := g90 0 119 rfl
        have t98 := g90 0 106 rfl
        have f99 := (show 0 ≤ I91 0 71 ∧ I91 0 71 ≤ 5 from (hI91 0 71).1)
        have f100 := (show 0 ≤ I91 0 72 ∧ I91 0 72 ≤ 1000 from (hI91 0 72).1)
        have f101 := (show 0 ≤ I91 0 73 ∧ I91 0 73 ≤ 1001 from (hI91 0 73).1)
        have f102 := (show 0 ≤ I91 0 69 ∧ I91 0 69 ≤ 1000 from (hI91 0 69).1)
        have f103 := (show 0 ≤ I91 0 59 ∧ I91 0 59 ≤ 2000 from (hI91 0 59).1)
        have f104 := (show (-1) ≤ I91 0 6 ∧ I91 0 6 ≤ 7 from (hI91 0 6).1)
        have f105 := (show 0 ≤ I91 0 118 ∧ I91 0 118 ≤ 6 from (hI91 0 118).1)
        have f106 := (show 0 ≤ I91 0 119 ∧ I91 0 119 ≤ 6 from (hI91 0 119).1)
        have f107 := (show 0 ≤ I91 0 74 ∧ I91 0 74 ≤ 999999 from (hI91 0 74).1)
        have f108 := (show 0 ≤ I91 0 106 ∧ I91 0 106 ≤ 16777215 from (hI91 0 106).1)
        refine gv_callV hD rfl (As := [.inl 93]) (st := []) rfl (by decide) rfl rfl (gr_lV hws rfl) (Nat.le_of_ble_eq_true rfl) (gz_Ev_mono (d := 11) (by decide) E90) ?_
        show gv_X _ _ (168, [(0, .inr (.inr (some 0)))], [.inl z90], gr_sh ++ ext, gr_h I91 J92)
        refine gv_if_ne (t := 173) hD rfl rfl ⟨by omega, by omega⟩ (fun c109 => ?_) (fun c109 => ?_)
        · obtain ⟨u110, A110⟩ := gs_or1 q90.2.2.2.2.2.2.2.2.2.2.2 (by omega)
          have t111 := gr_ATp_l A110
          have t112 := (q90.2.2.2.2.2.2.2.2.2.2.1).resolve_left (by omega)
          obtain ⟨_, _, -, _, -, -, _, _, _, _, -, -⟩ := q90
          have t113 := (gr_ATp_rr e6_75).2.2.1.resolve_left (by omega)
          exact L173 I91 J92 (gs_need β N9 93 p_75) hI91 FI91 FJ92 (by omega) (gr_R1u_fr e4_75 (fun k => g90 68 k rfl) (fun k => g90 74 k rfl) (fun k => g90 6 k rfl) (fun k => g90 70 k rfl) (fun k => g90 71 k rfl) (g90 0 118 rfl) (g90 0 119 rfl)) A110 (by obtain ⟨m, hm, em⟩ := e7_75; obtain ⟨m, rfl⟩ : ∃ n, m = n + 1 := ⟨m - 1, by omega⟩; exact em.trans (by rw [gs_ws_e (by omega), gs_it4_e (by omega)])) (gs_Uiv_fr e8_75 (g90 0 118 rfl) (fun j => (g90 74 j rfl)) (fun j => (g90 68 j rfl)))
        · obtain ⟨u114, u114_⟩ := gs_or0 q90.2.2.2.2.2.2.2.2.2.2.2 (by omega)
          refine gv_run 1 true hD (pc' := 172) (lv' := [(0, .inr (.inr (some 0)))]) (st' := [.inl 0]) (h' := gr_h I91 J92) (C := (True ∧ True)) rfl ⟨trivial, trivial⟩ ?_
          have b115 : (I91 0 71 = 5 ∨ I91 0 73 ≤ I91 0 69) ∧ (I91 0 72 ≤ I91 0 69) ∧ (I91 0 71 = 0 ∨ (I91 0 72 < I91 0 73 ∧ I91 0 72 < I91 0 69)) ∧ (I91 0 71 = 3 → 2 ≤ I91 0 73 - I91 0 72 ∧ I91 0 73 - I91 0 72 ≤ 14) ∧ (I91 0 72 ≤ I91 0 73) ∧ (I91 0 69 = I 0 69) ∧ (I 0 73 ≤ I91 0 73) ∧ (I 0 72 ≤ I91 0 72) ∧ (I91 0 59 - I91 0 72 ≤ I 0 59 - I 0 72) ∧ ((0 : Int) = 0 ∨ I 0 72 < I91 0 72) := by omega
          exact gv_zret hD rfl (by omega) ⟨I91, J92, rfl, hI91, FI91, FJ92, ⟨_, rfl, by omega, by omega, b115.1, b115.2.1, b115.2.2.1, b115.2.2.2.1, b115.2.2.2.2.1, b115.2.2.2.2.2.1, b115.2.2.2.2.2.2.1, b115.2.2.2.2.2.2.2.1, b115.2.2.2.2.2.2.2.2.1, b115.2.2.2.2.2.2.2.2.2, (gr_o_a (by omega)), (Or.inr ⟨by omega, by obtain ⟨m, hm, em⟩ := e7_75; obtain ⟨m, rfl⟩ : ∃ n, m = n + 1 := ⟨m - 1, by omega⟩; rw [em, gs_ws_e (by omega), gs_it4_e (by omega)]; exact ⟨by omega, by omega⟩⟩)⟩⟩
      · have t116 := (gr_ATp_k e6_75 (c := 1) (by omega)).mp (by omega)
        have t117 := (gr_ATp_rr e6_75).2.2.1.resolve_left (by omega)
        refine gv_run 1 true hD (pc' := 154) (lv' := [(0, .inr (.inr (some 0)))]) (st' := [.inr (.inr (some 0))]) (h' := gr_h I73 J74) (C := (True ∧ True)) rfl ⟨trivial, trivial⟩ ?_
        obtain ⟨r118, h118, E118, P118⟩ := r_oneValue_p (ws0 := ws0) (tb := tb) hws htb ext β N9 p_75 I73 J74 hI73   (gr_ATp_rr e6_75).1 (gr_ATp_rr e6_75).2.1 (gr_ATp_rr e6_75).2.2.1 (gr_ATp_rr e6_75).2.2.2.1 (gr_ATp_rr e6_75).2.2.2.2 (by omega) (by omega) e6_75 (by omega)
        obtain ⟨I119, J120, rfl, hI119, g118, k118, ⟨z118, rfl, q118⟩⟩ := P118
        have FI119 := gr_frt FI73 g118 rfl rfl
        have FJ120 := gr_fjt FJ74 k118 rfl rfl
        have t121 := g118 0 69 rfl
        have t122 := g118 0 59 rfl
        have t123 := g118 0 6 rfl
        have t124 := g118 0 118 rfl
        have t125 := g118 0 119 rfl
        have f126 := (show 0 ≤ I119 0 71 ∧ I119 0 71 ≤ 5 from (hI119 0 71).1)
        have f127 := (show 0 ≤ I119 0 72 ∧ I119 0 72 ≤ 1000 from (hI119 0 72).1)
        have f128 := (show 0 ≤ I119 0 73 ∧ I119 0 73 ≤ 1001 from (hI119 0 73).1)
        have f129 := (show 0 ≤ I119 0 69 ∧ I119 0 69 ≤ 1000 from (hI119 0 69).1)
        have f130 := (show 0 ≤ I119 0 59 ∧ I119 0 59 ≤ 2000 from (hI119 0 59).1)
        have f131 := (show (-1) ≤ I119 0 6 ∧ I119 0 6 ≤ 7 from (hI119 0 6).1)
        have f132 := (show 0 ≤ I119 0 118 ∧ I119 0 118 ≤ 6 from (hI119 0 118).1)
        have f133 := (show 0 ≤ I119 0 119 ∧ I119 0 119 ≤ 6 from (hI119 0 119).1)
        have f134 := (show 0 ≤ I119 0 74 ∧ I119 0 74 ≤ 999999 from (hI119 0 74).1)
        have f135 := (show 0 ≤ I119 0 106 ∧ I119 0 106 ≤ 16777215 from (hI119 0 106).1)
        refine gv_callV hD rfl (As := []) (st := []) rfl (by decide) rfl rfl (gr_lV hws rfl) (Nat.le_of_ble_eq_true rfl) (gz_Ev_mono (d := 11) (by decide) E118) ?_
        show gv_X _ _ (157, [(0, .inr (.inr (some 0)))], [.inl z118], gr_sh ++ ext, gr_h I119 J120)
        refine gv_if_ne (t := 145) hD rfl rfl ⟨by omega, by omega⟩ (fun c136 => ?_) (fun c136 => ?_)
        · have Q137 := q118.2.2.2.2.2.2.2.2.2.2.2
          rw [(gs_ov_eq (FI73 0 6 rfl) (fun k => (FI73 14 k rfl)) (fun k => (FI73 24 k rfl)) (fun k => (FI73 25 k rfl)) (fun k => (FJ74 21 k rfl))).1, (gs_ov_eq (FI73 0 6 rfl) (fun k => (FI73 14 k rfl)) (fun k => (FI73 24 k rfl)) (fun k => (FI73 25 k rfl)) (fun k => (FJ74 21 k rfl))).2] at Q137
          obtain ⟨u137, A137, U137⟩ := gs_or1 Q137 (by omega)
          have t138 := gr_ATp_l A137
          have t139 := (q118.2.2.2.2.2.2.2.2.2.2.1).resolve_left (by omega)
          obtain ⟨_, _, -, _, -, -, _, _, _, _, -, -⟩ := q118
          exact ih145 I119 J120 ((gs_ov β N9 I J (I73 0 106) p_75)) (by omega) hI119 FI119 FJ120 (by omega) (gr_R1u_fr e4_75 (fun k => g118 68 k rfl) (fun k => g118 74 k rfl) (fun k => g118 6 k rfl) (fun k => g118 70 k rfl) (fun k => g118 71 k rfl) (g118 0 118 rfl) (g118 0 119 rfl)) A137 (by obtain ⟨m, hm, em⟩ := e7_75; obtain ⟨m, rfl⟩ : ∃ n, m = n + 1 := ⟨m - 1, by omega⟩; exact ⟨m, by omega, em.trans (by rw [gs_ws_s (by omega) (by omega), U137])⟩) (gs_Uiv_fr e8_75 (g118 0 118 rfl) (fun j => (g118 74 j rfl)) (fun j => (g118 68 j rfl)))
        · have Q140 := q118.2.2.2.2.2.2.2.2.2.2.2
          rw [(gs_ov_eq (FI73 0 6 rfl) (fun k => (FI73 14 k rfl)) (fun k => (FI73 24 k rfl)) (fun k => (FI73 25 k rfl)) (fun k => (FJ74 21 k rfl))).1, (gs_ov_eq (FI73 0 6 rfl) (fun k => (FI73 14 k rfl)) (fun k => (FI73 24 k rfl)) (fun k => (FI73 25 k rfl)) (fun k => (FJ74 21 k rfl))).2] at Q140
          obtain ⟨u140, u140_⟩ := gs_or0 Q140 (by omega)
          refine gv_run 1 true hD (pc' := 161) (lv' := [(0, .inr (.inr (some 0)))]) (st' := [.inl 0]) (h' := gr_h I119 J120) (C := (True ∧ True)) rfl ⟨trivial, trivial⟩ ?_
          have b141 : (I119 0 71 = 5 ∨ I119 0 73 ≤ I119 0 69) ∧ (I119 0 72 ≤ I119 0 69) ∧ (I119 0 71 = 0 ∨ (I119 0 72 < I119 0 73 ∧ I119 0 72 < I119 0 69)) ∧ (I119 0 71 = 3 → 2 ≤ I119 0 73 - I119 0 72 ∧ I119 0 73 - I119 0 72 ≤ 14) ∧ (I119 0 72 ≤ I119 0 73) ∧ (I119 0 69 = I 0 69) ∧ (I 0 73 ≤ I119 0 73) ∧ (I 0 72 ≤ I119 0 72) ∧ (I119 0 59 - I119 0 72 ≤ I 0 59 - I 0 72) ∧ ((0 : Int) = 0 ∨ I 0 72 < I119 0 72) := by omega
          exact gv_zret hD rfl (by omega) ⟨I119, J120, rfl, hI119, FI119, FJ120, ⟨_, rfl, by omega, by omega, b141.1, b141.2.1, b141.2.2.1, b141.2.2.2.1, b141.2.2.2.2.1, b141.2.2.2.2.2.1, b141.2.2.2.2.2.2.1, b141.2.2.2.2.2.2.2.1, b141.2.2.2.2.2.2.2.2.1, b141.2.2.2.2.2.2.2.2.2, (gr_o_a (by omega)), (Or.inr ⟨by omega, by obtain ⟨m, hm, em⟩ := e7_75; obtain ⟨m, rfl⟩ : ∃ n, m = n + 1 := ⟨m - 1, by omega⟩; rw [em, gs_ws_x (by omega) (by omega), gs_it4_x (by omega)]; exact ⟨by omega, by omega⟩⟩)⟩⟩
  have f142 := (show 0 ≤ I 0 118 ∧ I 0 118 ≤ 6 from (hI 0 118).1)
  refine gv_run 3 true hD (pc' := 6) (lv' := [(0, .inr (.inr (some 0))), (1, .inl a1)]) (st' := [.inl 6, .inl (I 0 118)]) (h' := gr_h I J) (C := (((True ∧ True) ∧ True) ∧ True)) rfl ⟨⟨⟨trivial, trivial⟩, trivial⟩, trivial⟩ ?_
  refine gv_icmp_ne (t := 15) hD rfl rfl ⟨⟨by omega, by omega⟩, ⟨by omega, by omega⟩⟩ (fun c143 => ?_) (fun c143 => ?_)
  · refine gv_run 3 true hD (pc' := 20) (lv' := [(0, .inr (.inr (some 0))), (1, .inl a1)]) (st' := []) (h' := gz_up (gr_h I J) 0 106 (.inl 0)) (C := (((True ∧ True) ∧ True) ∧ True)) rfl ⟨⟨⟨trivial, trivial⟩, trivial⟩, trivial⟩ ?_
    refine gr_st hI FI rfl rfl ⟨⟨by show 0 ≤ _; omega, by show _ ≤ 16777215; omega⟩, trivial⟩ (fun I144 hI144 FI144 q145 p145 => ?_)
    have t146 := p145 0 71 (by decide)
    have t147 := p145 0 72 (by decide)
    have t148 := p145 0 73 (by decide)
    have t149 := p145 0 69 (by decide)
    have t150 := p145 0 59 (by decide)
    have t151 := p145 0 6 (by decide)
    have t152 := p145 0 118 (by decide)
    have t153 := p145 0 119 (by decide)
    have t154 := p145 0 74 (by decide)
    have f155 := (show 0 ≤ I144 0 71 ∧ I144 0 71 ≤ 5 from (hI144 0 71).1)
    have f156 := (show 0 ≤ I144 0 72 ∧ I144 0 72 ≤ 1000 from (hI144 0 72).1)
    have f157 := (show 0 ≤ I144 0 73 ∧ I144 0 73 ≤ 1001 from (hI144 0 73).1)
    have f158 := (show 0 ≤ I144 0 69 ∧ I144 0 69 ≤ 1000 from (hI144 0 69).1)
    have f159 := (show 0 ≤ I144 0 59 ∧ I144 0 59 ≤ 2000 from (hI144 0 59).1)
    have f160 := (show (-1) ≤ I144 0 6 ∧ I144 0 6 ≤ 7 from (hI144 0 6).1)
    have f161 := (show 0 ≤ I144 0 118 ∧ I144 0 118 ≤ 6 from (hI144 0 118).1)
    have f162 := (show 0 ≤ I144 0 119 ∧ I144 0 119 ≤ 6 from (hI144 0 119).1)
    have f163 := (show 0 ≤ I144 0 74 ∧ I144 0 74 ≤ 999999 from (hI144 0 74).1)
    have f164 := (show 0 ≤ I144 0 106 ∧ I144 0 106 ≤ 16777215 from (hI144 0 106).1)
    have A165 := gr_ATp_sf x9 p145 rfl
    have f166 := (show 0 ≤ I144 0 71 ∧ I144 0 71 ≤ 5 from (hI144 0 71).1)
    refine gv_run 3 true hD (pc' := 25) (lv' := [(0, .inr (.inr (some 0))), (1, .inl a1)]) (st' := [.inl 3, .inl (I144 0 71)]) (h' := gr_h I144 J) (C := (((True ∧ True) ∧ True) ∧ True)) rfl ⟨⟨⟨trivial, trivial⟩, trivial⟩, trivial⟩ ?_
    refine gv_icmp_ne (t := 61) hD rfl rfl ⟨⟨by omega, by omega⟩, ⟨by omega, by omega⟩⟩ (fun c167 => ?_) (fun c167 => ?_)
    · have t168 := gr_ATp_ne A165 (c := 3) (by omega) (by omega)
      have t169 := (gr_ATp_n A165 (show gs_T β N9 p9 = 2 from (gr_ATp_k A165 (c := 2) (by omega)).mp (by omega)))
      have t170 := ((gr_ATp_k A165 (c := 2) (by omega)).mp (show I144 0 71 = 2 by omega))
      have t171 := ((gr_ATp_rr A165).2.2.1.resolve_left (by omega))
      have f172 := (show 0 ≤ I144 0 74 ∧ I144 0 74 ≤ 999999 from (hI144 0 74).1)
      refine gv_run 6 true hD (pc' := 69) (lv' := [(2, .inl ((I144 0 74) - 1)), (0, .inr (.inr (some 0))), (1, .inl a1)]) (st' := [.inl ((I144 0 74) - 1)]) (h' := gr_h I144 J) (C := ((((((True ∧ True) ∧ True) ∧ True) ∧ True) ∧ True) ∧ True)) rfl ⟨⟨⟨⟨⟨⟨trivial, trivial⟩, trivial⟩, trivial⟩, trivial⟩, trivial⟩, trivial⟩ ?_
      refine gv_if_lt (t := 91) hD rfl rfl ⟨by omega, by omega⟩ (fun c173 => ?_) (fun c173 => ?_)
      · refine gv_run 2 true hD (pc' := 93) (lv' := [(2, .inl ((I144 0 74) - 1)), (0, .inr (.inr (some 0))), (1, .inl a1)]) (st' := [.inl 5, .inr (.inr (some 0))]) (h' := gr_h I144 J) (C := ((True ∧ True) ∧ True)) rfl ⟨⟨trivial, trivial⟩, trivial⟩ ?_
        obtain ⟨r174, h174, E174, P174⟩ := r_no__p (ws0 := ws0) (tb := tb) hws htb ext β N9 p9 I144 J hI144 5 ⟨by omega, by omega⟩ A165 (by omega)
        obtain ⟨I175, J176, rfl, hI175, g174, k174, ⟨z174, rfl, q174⟩⟩ := P174
        have FI175 := gr_frt FI144 g174 rfl rfl
        have FJ176 := gr_fjt FJ k174 rfl rfl
        have t177 := g174 0 71 rfl
        have t178 := g174 0 72 rfl
        have t179 := g174 0 73 rfl
        have t180 := g174 0 69 rfl
        have t181 := g174 0 59 rfl
        have t182 := g174 0 6 rfl
        have t183 := g174 0 118 rfl
        have t184 := g174 0 119 rfl
        have t185 := g174 0 74 rfl
        have t186 := g174 0 106 rfl
        have f187 := (show 0 ≤ I175 0 71 ∧ I175 0 71 ≤ 5 from (hI175 0 71).1)
        have f188 := (show 0 ≤ I175 0 72 ∧ I175 0 72 ≤ 1000 from (hI175 0 72).1)
        have f189 := (show 0 ≤ I175 0 73 ∧ I175 0 73 ≤ 1001 from (hI175 0 73).1)
        have f190 := (show 0 ≤ I175 0 69 ∧ I175 0 69 ≤ 1000 from (hI175 0 69).1)
        have f191 := (show 0 ≤ I175 0 59 ∧ I175 0 59 ≤ 2000 from (hI175 0 59).1)
        have f192 := (show (-1) ≤ I175 0 6 ∧ I175 0 6 ≤ 7 from (hI175 0 6).1)
        have f193 := (show 0 ≤ I175 0 118 ∧ I175 0 118 ≤ 6 from (hI175 0 118).1)
        have f194 := (show 0 ≤ I175 0 119 ∧ I175 0 119 ≤ 6 from (hI175 0 119).1)
        have f195 := (show 0 ≤ I175 0 74 ∧ I175 0 74 ≤ 999999 from (hI175 0 74).1)
        have f196 := (show 0 ≤ I175 0 106 ∧ I175 0 106 ≤ 16777215 from (hI175 0 106).1)
        have A197 := gr_ATp_F A165 g174 k174 rfl
        have t198 := gr_ATp_l A197
        refine gv_callV hD rfl (As := [.inl 5]) (st := []) rfl (by decide) rfl rfl (gr_lV hws rfl) (Nat.le_of_ble_eq_true rfl) (gz_Ev_mono (d := 2) (by decide) E174) ?_
        show gv_X _ _ (96, [(2, .inl ((I144 0 74) - 1)), (0, .inr (.inr (some 0))), (1, .inl a1)], [.inl z174], gr_sh ++ ext, gr_h I175 J176)
        have b199 : (I175 0 69 = I 0 69) ∧ (I 0 73 ≤ I175 0 73) ∧ (I 0 72 ≤ I175 0 72) ∧ (I175 0 59 - I175 0 72 ≤ I 0 59 - I 0 72) ∧ ((z174 : Int) = 0 ∨ I 0 72 < I175 0 72) := by omega
        exact gv_zret hD rfl (by omega) ⟨I175, J176, rfl, hI175, FI175, FJ176, ⟨_, rfl, by omega, by omega, (gr_ATp_rr A197).1, (gr_ATp_rr A197).2.1, (gr_ATp_rr A197).2.2.1, (gr_ATp_rr A197).2.2.2.1, (gr_ATp_rr A197).2.2.2.2, b199.1, b199.2.1, b199.2.2.1, b199.2.2.2.1, b199.2.2.2.2, (gr_o_a (by omega)), (Or.inr ⟨by omega, by first | (exfalso; omega) | (unfold gs_it gs_it2 gs_it3; (repeat first | rw [if_pos (by omega)] | rw [if_neg (by omega)]); exact ⟨by omega, by omega⟩)⟩)⟩⟩
      · have f200 := (show 0 ≤ I144 6 (Int.toNat a1) ∧ I144 6 (Int.toNat a1) ≤ 4 from (hI144 6 (Int.toNat a1)).1)
        refine gv_run 5 true hD (pc' := 79) (lv' := [(2, .inl ((I144 0 74) - 1)), (0, .inr (.inr (some 0))), (1, .inl a1)]) (st' := [.inl (I144 6 (Int.toNat a1)), .inl ((I144 0 74) - 1)]) (h' := gr_h I144 J) (C := (((((True ∧ True) ∧ True) ∧ True) ∧ True) ∧ (0 ≤ a1 ∧ a1 < ((96 : Nat) : Int)))) rfl ⟨⟨⟨⟨⟨trivial, trivial⟩, trivial⟩, trivial⟩, trivial⟩, ⟨by omega, by omega⟩⟩ ?_
        have t201 := (show I144 6 (Int.toNat a1) = I 6 (Int.toNat a1) from (FI144 6 (Int.toNat a1) rfl))
        refine gv_icmp_ge (t := 91) hD rfl rfl ⟨⟨by omega, by omega⟩, ⟨by omega, by omega⟩⟩ (fun c202 => ?_) (fun c202 => ?_)
        · refine gv_run 2 true hD (pc' := 93) (lv' := [(2, .inl ((I144 0 74) - 1)), (0, .inr (.inr (some 0))), (1, .inl a1)]) (st' := [.inl 5, .inr (.inr (some 0))]) (h' := gr_h I144 J) (C := ((True ∧ True) ∧ True)) rfl ⟨⟨trivial, trivial⟩, trivial⟩ ?_
          obtain ⟨r203, h203, E203, P203⟩ := r_no__p (ws0 := ws0) (tb := tb) hws htb ext β N9 p9 I144 J hI144 5 ⟨by omega, by omega⟩ A165 (by omega)
          obtain ⟨I204, J205, rfl, hI204, g203, k203, ⟨z203, rfl, q203⟩⟩ := P203
          have FI204 := gr_frt FI144 g203 rfl rfl
          have FJ205 := gr_fjt FJ k203 rfl rfl
          have t206 := g203 0 71 rfl
          have t207 := g203 0 72 rfl
          have t208 := g203 0 73 rfl
          have t209 := g203 0 69 rfl
          have t210 := g203 0 59 rfl
          have t211 := g203 0 6 rfl
          have t212 := g203 0 118 rfl
          have t213 := g203 0 119 rfl
          have t214 := g203 0 74 rfl
          have t215 := g203 0 106 rfl
          have f216 := (show 0 ≤ I204 0 71 ∧ I204 0 71 ≤ 5 from (hI204 0 71).1)
          have f217 := (show 0 ≤ I204 0 72 ∧ I204 0 72 ≤ 1000 from (hI204 0 72).1)
          have f218 := (show 0 ≤ I204 0 73 ∧ I204 0 73 ≤ 1001 from (hI204 0 73).1)
          have f219 := (show 0 ≤ I204 0 69 ∧ I204 0 69 ≤ 1000 from (hI204 0 69).1)
          have f220 := (show 0 ≤ I204 0 59 ∧ I204 0 59 ≤ 2000 from (hI204 0 59).1)
          have f221 := (show (-1) ≤ I204 0 6 ∧ I204 0 6 ≤ 7 from (hI204 0 6).1)
          have f222 := (show 0 ≤ I204 0 118 ∧ I204 0 118 ≤ 6 from (hI204 0 118).1)
          have f223 := (show 0 ≤ I204 0 119 ∧ I204 0 119 ≤ 6 from (hI204 0 119).1)
          have f224 := (show 0 ≤ I204 0 74 ∧ I204 0 74 ≤ 999999 from (hI204 0 74).1)
          have f225 := (show 0 ≤ I204 0 106 ∧ I204 0 106 ≤ 16777215 from (hI204 0 106).1)
          have A226 := gr_ATp_F A165 g203 k203 rfl
          have t227 := gr_ATp_l A226
          refine gv_callV hD rfl (As := [.inl 5]) (st := []) rfl (by decide) rfl rfl (gr_lV hws rfl) (Nat.le_of_ble_eq_true rfl) (gz_Ev_mono (d := 2) (by decide) E203) ?_
          show gv_X _ _ (96, [(2, .inl ((I144 0 74) - 1)), (0, .inr (.inr (some 0))), (1, .inl a1)], [.inl z203], gr_sh ++ ext, gr_h I204 J205)
          have b228 : (I204 0 69 = I 0 69) ∧ (I 0 73 ≤ I204 0 73) ∧ (I 0 72 ≤ I204 0 72) ∧ (I204 0 59 - I204 0 72 ≤ I 0 59 - I 0 72) ∧ ((z203 : Int) = 0 ∨ I 0 72 < I204 0 72) := by omega
          exact gv_zret hD rfl (by omega) ⟨I204, J205, rfl, hI204, FI204, FJ205, ⟨_, rfl, by omega, by omega, (gr_ATp_rr A226).1, (gr_ATp_rr A226).2.1, (gr_ATp_rr A226).2.2.1, (gr_ATp_rr A226).2.2.2.1, (gr_ATp_rr A226).2.2.2.2, b228.1, b228.2.1, b228.2.2.1, b228.2.2.2.1, b228.2.2.2.2, (gr_o_a (by omega)), (Or.inr ⟨by omega, by first | (exfalso; omega) | (unfold gs_it gs_it2 gs_it3; (repeat first | rw [if_pos (by omega)] | rw [if_neg (by omega)]); exact ⟨by omega, by omega⟩)⟩)⟩⟩
        · have f229 := (show (-1) ≤ I144 74 (Int.toNat (((I144 0 74) - 1))) ∧ I144 74 (Int.toNat (((I144 0 74) - 1))) ≤ 1000 from (hI144 74 (Int.toNat (((I144 0 74) - 1)))).1)
          refine gv_run 4 true hD (pc' := 88) (lv' := [(2, .inl ((I144 0 74) - 1)), (0, .inr (.inr (some 0))), (1, .inl a1)]) (st' := [.inl (I144 74 (Int.toNat (((I144 0 74) - 1))))]) (h' := gr_h I144 J) (C := ((((True ∧ True) ∧ True) ∧ True) ∧ (0 ≤ (((I144 0 74) - 1)) ∧ (((I144 0 74) - 1)) < ((4 : Nat) : Int)))) rfl ⟨⟨⟨⟨trivial, trivial⟩, trivial⟩, trivial⟩, ⟨by omega, by omega⟩⟩ ?_
          have t230 := (show gs_a4 (I 74) (Int.toNat (gs_V β N9 p9 - 1)) = I144 74 (Int.toNat (((I144 0 74) - 1))) from by rw [show gs_V β N9 p9 - 1 = (((I144 0 74) - 1)) from by omega]; exact (gs_a4_i (by omega)).trans ((p145 74 _ (fun q => absurd q.1 (by decide)))).symm)
          refine gv_if_lt (t := 97) hD rfl rfl ⟨by omega, by omega⟩ (fun c231 => ?_) (fun c231 => ?_)
          · have f232 := (show 0 ≤ I144 0 72 ∧ I144 0 72 ≤ 1000 from (hI144 0 72).1)
            refine gv_run 5 true hD (pc' := 106) (lv' := [(2, .inl ((I144 0 74) - 1)), (0, .inr (.inr (some 0))), (1, .inl a1)]) (st' := [.inl (I144 0 72), .inl ((I144 0 74) - 1), .inr (.inr (some 74))]) (h' := gr_h I144 J) (C := (((((True ∧ True) ∧ True) ∧ True) ∧ True) ∧ True)) rfl ⟨⟨⟨⟨⟨trivial, trivial⟩, trivial⟩, trivial⟩, trivial⟩, trivial⟩ ?_
            refine gv_run 1 true hD (pc' := 107) (lv' := [(2, .inl ((I144 0 74) - 1)), (0, .inr (.inr (some 0))), (1, .inl a1)]) (st' := []) (h' := gz_up (gr_h I144 J) 74 (Int.toNat (((I144 0 74) - 1))) (.inl (I144 0 72))) (C := (True ∧ (0 ≤ (((I144 0 74) - 1)) ∧ (((I144 0 74) - 1)) < ((4 : Nat) : Int)))) rfl ⟨trivial, ⟨by omega, by omega⟩⟩ ?_
            refine gr_st hI144 FI144 rfl rfl ⟨⟨by show (-1) ≤ _; omega, by show _ ≤ 1000; omega⟩, trivial⟩ (fun I233 hI233 FI233 q234 p234 => ?_)
            have t235 := p234 0 71 (fun q => absurd q.1 (by decide))
            have t236 := p234 0 72 (fun q => absurd q.1 (by decide))
            have t237 := p234 0 73 (fun q => absurd q.1 (by decide))
            have t238 := p234 0 69 (fun q => absurd q.1 (by decide))
            have t239 := p234 0 59 (fun q => absurd q.1 (by decide))
            have t240 := p234 0 6 (fun q => absurd q.1 (by decide))
            have t241 := p234 0 118 (fun q => absurd q.1 (by decide))
            have t242 := p234 0 119 (fun q => absurd q.1 (by decide))
            have t243 := p234 0 74 (fun q => absurd q.1 (by decide))
            have t244 := p234 0 106 (fun q => absurd q.1 (by decide))
            have f245 := (show 0 ≤ I233 0 71 ∧ I233 0 71 ≤ 5 from (hI233 0 71).1)
            have f246 := (show 0 ≤ I233 0 72 ∧ I233 0 72 ≤ 1000 from (hI233 0 72).1)
            have f247 := (show 0 ≤ I233 0 73 ∧ I233 0 73 ≤ 1001 from (hI233 0 73).1)
            have f248 := (show 0 ≤ I233 0 69 ∧ I233 0 69 ≤ 1000 from (hI233 0 69).1)
            have f249 := (show 0 ≤ I233 0 59 ∧ I233 0 59 ≤ 2000 from (hI233 0 59).1)
            have f250 := (show (-1) ≤ I233 0 6 ∧ I233 0 6 ≤ 7 from (hI233 0 6).1)
            have f251 := (show 0 ≤ I233 0 118 ∧ I233 0 118 ≤ 6 from (hI233 0 118).1)
            have f252 := (show 0 ≤ I233 0 119 ∧ I233 0 119 ≤ 6 from (hI233 0 119).1)
            have f253 := (show 0 ≤ I233 0 74 ∧ I233 0 74 ≤ 999999 from (hI233 0 74).1)
            have f254 := (show 0 ≤ I233 0 106 ∧ I233 0 106 ≤ 16777215 from (hI233 0 106).1)
            have A255 := gr_ATp_sr A165 p234 rfl
            have f256 := (show 0 ≤ I233 0 118 ∧ I233 0 118 ≤ 6 from (hI233 0 118).1)
            refine gv_run 7 true hD (pc' := 118) (lv' := [(2, .inl ((I144 0 74) - 1)), (0, .inr (.inr (some 0))), (1, .inl a1)]) (st' := [.inl ((-1) - ((I144 0 74) - 1)), .inl (I233 0 118), .inr (.inr (some 68))]) (h' := gr_h I233 J) (C := (((((((True ∧ True) ∧ True) ∧ True) ∧ True) ∧ True) ∧ True) ∧ True)) rfl ⟨⟨⟨⟨⟨⟨⟨trivial, trivial⟩, trivial⟩, trivial⟩, trivial⟩, trivial⟩, trivial⟩, trivial⟩ ?_
            refine gv_run 1 true hD (pc' := 119) (lv' := [(2, .inl ((I144 0 74) - 1)), (0, .inr (.inr (some 0))), (1, .inl a1)]) (st' := []) (h' := gz_up (gr_h I233 J) 68 (Int.toNat ((I233 0 118))) (.inl (((-1) - ((I144 0 74) - 1))))) (C := (True ∧ (0 ≤ (I233 0 118) ∧ (I233 0 118) < ((6 : Nat) : Int)))) rfl ⟨trivial, ⟨by omega, by omega⟩⟩ ?_
            refine gr_st hI233 FI233 rfl rfl ⟨⟨by show (-4) ≤ _; omega, by show _ ≤ 32015; omega⟩, trivial⟩ (fun I257 hI257 FI257 q258 p258 => ?_)
            have t259 := p258 0 71 (fun q => absurd q.1 (by decide))
            have t260 := p258 0 72 (fun q => absurd q.1 (by decide))
            have t261 := p258 0 73 (fun q => absurd q.1 (by decide))
            have t262 := p258 0 69 (fun q => absurd q.1 (by decide))
            have t263 := p258 0 59 (fun q => absurd q.1 (by decide))
            have t264 := p258 0 6 (fun q => absurd q.1 (by decide))
            have t265 := p258 0 118 (fun q => absurd q.1 (by decide))
            have t266 := p258 0 119 (fun q => absurd q.1 (by decide))
            have t267 := p258 0 74 (fun q => absurd q.1 (by decide))
            have t268 := p258 0 106 (fun q => absurd q.1 (by decide))
            have f269 := (show 0 ≤ I257 0 71 ∧ I257 0 71 ≤ 5 from (hI257 0 71).1)
            have f270 := (show 0 ≤ I257 0 72 ∧ I257 0 72 ≤ 1000 from (hI257 0 72).1)
            have f271 := (show 0 ≤ I257 0 73 ∧ I257 0 73 ≤ 1001 from (hI257 0 73).1)
            have f272 := (show 0 ≤ I257 0 69 ∧ I257 0 69 ≤ 1000 from (hI257 0 69).1)
            have f273 := (show 0 ≤ I257 0 59 ∧ I257 0 59 ≤ 2000 from (hI257 0 59).1)
            have f274 := (show (-1) ≤ I257 0 6 ∧ I257 0 6 ≤ 7 from (hI257 0 6).1)
            have f275 := (show 0 ≤ I257 0 118 ∧ I257 0 118 ≤ 6 from (hI257 0 118).1)
            have f276 := (show 0 ≤ I257 0 119 ∧ I257 0 119 ≤ 6 from (hI257 0 119).1)
            have f277 := (show 0 ≤ I257 0 74 ∧ I257 0 74 ≤ 999999 from (hI257 0 74).1)
            have f278 := (show 0 ≤ I257 0 106 ∧ I257 0 106 ≤ 16777215 from (hI257 0 106).1)
            have A279 := gr_ATp_sr A255 p258 rfl
            refine gv_run 1 true hD (pc' := 120) (lv' := [(2, .inl ((I144 0 74) - 1)), (0, .inr (.inr (some 0))), (1, .inl a1)]) (st' := [.inr (.inr (some 0))]) (h' := gr_h I257 J) (C := (True ∧ True)) rfl ⟨trivial, trivial⟩ ?_
            obtain ⟨r280, h280, E280, P280⟩ := r_next_p (ws0 := ws0) (tb := tb) hws htb ext β N9 I257 J hI257   ((gr_ATp_rr A279).1.resolve_left (by omega)) A279.1.1 A279.1.2
            obtain ⟨I281, J282, rfl, hI281, g280, k280, ⟨rfl, q280⟩⟩ := P280
            have FI281 := gr_frt FI257 g280 rfl rfl
            have FJ282 := gr_fjt FJ k280 rfl rfl
            have t283 := g280 0 69 rfl
            have t284 := g280 0 59 rfl
            have t285 := g280 0 6 rfl
            have t286 := g280 0 118 rfl
            have t287 := g280 0 119 rfl
            have t288 := g280 0 106 rfl
            have f289 := (show 0 ≤ I281 0 71 ∧ I281 0 71 ≤ 5 from (hI281 0 71).1)
            have f290 := (show 0 ≤ I281 0 72 ∧ I281 0 72 ≤ 1000 from (hI281 0 72).1)
            have f291 := (show 0 ≤ I281 0 73 ∧ I281 0 73 ≤ 1001 from (hI281 0 73).1)
            have f292 := (show 0 ≤ I281 0 69 ∧ I281 0 69 ≤ 1000 from (hI281 0 69).1)
            have f293 := (show 0 ≤ I281 0 59 ∧ I281 0 59 ≤ 2000 from (hI281 0 59).1)
            have f294 := (show (-1) ≤ I281 0 6 ∧ I281 0 6 ≤ 7 from (hI281 0 6).1)
            have f295 := (show 0 ≤ I281 0 118 ∧ I281 0 118 ≤ 6 from (hI281 0 118).1)
            have f296 := (show 0 ≤ I281 0 119 ∧ I281 0 119 ≤ 6 from (hI281 0 119).1)
            have f297 := (show 0 ≤ I281 0 74 ∧ I281 0 74 ≤ 999999 from (hI281 0 74).1)
            have f298 := (show 0 ≤ I281 0 106 ∧ I281 0 106 ≤ 16777215 from (hI281 0 106).1)
            have t299 := (gr_ATp_rr A279).2.2.1.resolve_left (by omega)
            have A300 := gr_ATp_nx A279 q280.2.2.2.2.2
            have t301 := gr_ATp_l A300
            obtain ⟨_, _, -, -, -, -⟩ := q280
            refine gv_callV hD rfl (As := []) (st := []) rfl (by decide) rfl rfl (gr_lV hws rfl) (Nat.le_of_ble_eq_true rfl) (gz_Ev_mono (d := 10) (by decide) E280) ?_
            show gv_X _ _ (123, [(2, .inl ((I144 0 74) - 1)), (0, .inr (.inr (some 0))), (1, .inl a1)], [], gr_sh ++ ext, gr_h I281 J282)
            refine gv_run 2 true hD (pc' := 126) (lv' := [(2, .inl ((I144 0 74) - 1)), (0, .inr (.inr (some 0))), (1, .inl a1)]) (st' := [.inl 91, .inr (.inr (some 0))]) (h' := gr_h I281 J282) (C := ((True ∧ True) ∧ True)) rfl ⟨⟨trivial, trivial⟩, trivial⟩ ?_
            obtain ⟨r302, h302, E302, P302⟩ := r_sign_p (ws0 := ws0) (tb := tb) hws htb ext β N9 (gs_X β N9 p9) I281 J282 hI281 91 ⟨by omega, by omega⟩ (fun h9 => by have g9 := (gr_ATp_rr A300).2.2.1; omega) A300 (by omega)
            obtain ⟨rfl, ⟨z302, rfl, q302⟩⟩ := P302
            have V302 := gs_or_mk q302.2.2.2
            obtain ⟨_, _, o302, -⟩ := q302
            refine gv_callV hD rfl (As := [.inl 91]) (st := []) rfl (by decide) rfl rfl (gr_lV hws rfl) (Nat.le_of_ble_eq_true rfl) (gz_Ev_mono (d := 1) (by decide) E302) ?_
            show gv_X _ _ (129, [(2, .inl ((I144 0 74) - 1)), (0, .inr (.inr (some 0))), (1, .inl a1)], [.inl z302], gr_sh ++ ext, gr_h I281 J282)
            refine gv_if_eq (t := 173) hD rfl rfl ⟨by omega, by omega⟩ (fun c303 => ?_) (fun c303 => ?_)
            · have u304 := gs_or0 V302 (by omega)
              clear o302 V302
              refine gv_pick [1] rfl ?_
              exact L173 I281 J282 (gs_X β N9 p9) hI281 FI281 FJ282 (by omega) (gr_R1u_fr (gr_R1_a (gr_R1_fr x8 (fun k => p145 68 k (fun q => absurd q.1 (by decide))) (fun k => p145 74 k (fun q => absurd q.1 (by decide))) (fun k => p145 6 k (fun q => absurd q.1 (by decide))) (fun k => p145 70 k (fun q => absurd q.1 (by decide))) (fun k => p145 71 k (fun q => absurd q.1 (by decide))) (p145 0 118 (by decide)) (p145 0 119 (by decide))) p234 (by omega) p258 (by omega) (by rw [q258]; omega) (by omega) (by omega) (by omega) (by omega)) (fun k => g280 68 k rfl) (fun k => g280 74 k rfl) (fun k => g280 6 k rfl) (fun k => g280 70 k rfl) (fun k => g280 71 k rfl) (g280 0 118 rfl) (g280 0 119 rfl)) A300 (by unfold gs_it gs_it2 gs_it3; (repeat first | rw [if_pos (by omega)] | rw [if_neg (by omega)])) (gs_Uiv_fr (gs_Uiv_a ⟨(p145 0 118 (by decide)), fun j => ⟨(p145 74 j (fun q => absurd q.1 (by decide))), (p145 68 j (fun q => absurd q.1 (by decide)))⟩⟩ (by omega) (by omega) p234 (q234.trans (by omega)) (by omega) p258 q258 (by omega)) (g280 0 118 rfl) (fun j => (g280 74 j rfl)) (fun j => (g280 68 j rfl)))
            · have u305 := gs_or1 V302 (by omega)
              have t306 := o302.resolve_left (by omega)
              have t307 := (gr_ATp_rr A300).2.2.1.resolve_left (by omega)
              clear o302 V302
              refine gv_run 1 true hD (pc' := 133) (lv' := [(2, .inl ((I144 0 74) - 1)), (0, .inr (.inr (some 0))), (1, .inl a1)]) (st' := [.inr (.inr (some 0))]) (h' := gr_h I281 J282) (C := (True ∧ True)) rfl ⟨trivial, trivial⟩ ?_
              obtain ⟨r308, h308, E308, P308⟩ := r_next_p (ws0 := ws0) (tb := tb) hws htb ext β N9 I281 J282 hI281   ((gr_ATp_rr A300).1.resolve_left (by omega)) A300.1.1 A300.1.2
              obtain ⟨I309, J310, rfl, hI309, g308, k308, ⟨rfl, q308⟩⟩ := P308
              have FI309 := gr_frt FI281 g308 rfl rfl
              have FJ310 := gr_fjt FJ282 k308 rfl rfl
              have t311 := g308 0 69 rfl
              have t312 := g308 0 59 rfl
              have t313 := g308 0 6 rfl
              have t314 := g308 0 118 rfl
              have t315 := g308 0 119 rfl
              have t316 := g308 0 106 rfl
              have f317 := (show 0 ≤ I309 0 71 ∧ I309 0 71 ≤ 5 from (hI309 0 71).1)
              have f318 := (show 0 ≤ I309 0 72 ∧ I309 0 72 ≤ 1000 from (hI309 0 72).1)
              have f319 := (show 0 ≤ I309 0 73 ∧ I309 0 73 ≤ 1001 from (hI309 0 73).1)
              have f320 := (show 0 ≤ I309 0 69 ∧ I309 0 69 ≤ 1000 from (hI309 0 69).1)
              have f321 := (show 0 ≤ I309 0 59 ∧ I309 0 59 ≤ 2000 from (hI309 0 59).1)
              have f322 := (show (-1) ≤ I309 0 6 ∧ I309 0 6 ≤ 7 from (hI309 0 6).1)
              have f323 := (show 0 ≤ I309 0 118 ∧ I309 0 118 ≤ 6 from (hI309 0 118).1)
              have f324 := (show 0 ≤ I309 0 119 ∧ I309 0 119 ≤ 6 from (hI309 0 119).1)
              have f325 := (show 0 ≤ I309 0 74 ∧ I309 0 74 ≤ 999999 from (hI309 0 74).1)
              have f326 := (show 0 ≤ I309 0 106 ∧ I309 0 106 ≤ 16777215 from (hI309 0 106).1)
              have t327 := (gr_ATp_rr A300).2.2.1.resolve_left (by omega)
              have A328 := gr_ATp_nx A300 q308.2.2.2.2.2
              have t329 := gr_ATp_l A328
              obtain ⟨_, _, -, -, -, -⟩ := q308
              refine gv_callV hD rfl (As := []) (st := []) rfl (by decide) rfl rfl (gr_lV hws rfl) (Nat.le_of_ble_eq_true rfl) (gz_Ev_mono (d := 10) (by decide) E308) ?_
              show gv_X _ _ (136, [(2, .inl ((I144 0 74) - 1)), (0, .inr (.inr (some 0))), (1, .inl a1)], [], gr_sh ++ ext, gr_h I309 J310)
              refine gv_run 1 true hD (pc' := 137) (lv' := [(2, .inl ((I144 0 74) - 1)), (0, .inr (.inr (some 0))), (1, .inl a1)]) (st' := [.inr (.inr (some 0))]) (h' := gr_h I309 J310) (C := (True ∧ True)) rfl ⟨trivial, trivial⟩ ?_
              obtain ⟨r330, h330, E330, P330⟩ := r_name_p (ws0 := ws0) (tb := tb) hws htb ext β N9 ((gs_X β N9 (gs_X β N9 p9))) I309 J310 hI309   A328 (by omega)
              obtain ⟨I331, J332, rfl, hI331, g330, k330, ⟨z330, rfl, q330⟩⟩ := P330
              have FI331 := gr_frt FI309 g330 rfl rfl
              have FJ332 := gr_fjt FJ310 k330 rfl rfl
              have t333 := g330 0 71 rfl
              have t334 := g330 0 72 rfl
              have t335 := g330 0 73 rfl
              have t336 := g330 0 69 rfl
              have t337 := g330 0 59 rfl
              have t338 := g330 0 6 rfl
              have t339 := g330 0 118 rfl
              have t340 := g330 0 119 rfl
              have t341 := g330 0 74 rfl
              have t342 := g330 0 106 rfl
              have f343 := (show 0 ≤ I331 0 71 ∧ I331 0 71 ≤ 5 from (hI331 0 71).1)
              have f344 := (show 0 ≤ I331 0 72 ∧ I331 0 72 ≤ 1000 from (hI331 0 72).1)
              have f345 := (show 0 ≤ I331 0 73 ∧ I331 0 73 ≤ 1001 from (hI331 0 73).1)
              have f346 := (show 0 ≤ I331 0 69 ∧ I331 0 69 ≤ 1000 from (hI331 0 69).1)
              have f347 := (show 0 ≤ I331 0 59 ∧ I331 0 59 ≤ 2000 from (hI331 0 59).1)
              have f348 := (show (-1) ≤ I331 0 6 ∧ I331 0 6 ≤ 7 from (hI331 0 6).1)
              have f349 := (show 0 ≤ I331 0 118 ∧ I331 0 118 ≤ 6 from (hI331 0 118).1)
              have f350 := (show 0 ≤ I331 0 119 ∧ I331 0 119 ≤ 6 from (hI331 0 119).1)
              have f351 := (show 0 ≤ I331 0 74 ∧ I331 0 74 ≤ 999999 from (hI331 0 74).1)
              have f352 := (show 0 ≤ I331 0 106 ∧ I331 0 106 ≤ 16777215 from (hI331 0 106).1)
              have V330 := gs_or_mk q330.2.2.2
              have A353 := gr_ATp_F A328 g330 k330 rfl
              have t354 := gr_ATp_l A353
              obtain ⟨_, _, o330, -⟩ := q330
              refine gv_callV hD rfl (As := []) (st := []) rfl (by decide) rfl rfl (gr_lV hws rfl) (Nat.le_of_ble_eq_true rfl) (gz_Ev_mono (d := 3) (by decide) E330) ?_
              show gv_X _ _ (140, [(2, .inl ((I144 0 74) - 1)), (0, .inr (.inr (some 0))), (1, .inl a1)], [.inl z330], gr_sh ++ ext, gr_h I331 J332)
              refine gv_if_ne (t := 145) hD rfl rfl ⟨by omega, by omega⟩ (fun c355 => ?_) (fun c355 => ?_)
              · have u356 := gs_or1 V330 (by omega)
                have t357 := o330.resolve_left (by omega)
                have t358 := (gr_ATp_rr A353).2.2.1.resolve_left (by omega)
                clear o330 V330
                refine gv_pick [1] rfl ?_
                exact L145 _ I331 J332 ((gs_X β N9 (gs_X β N9 p9))) (Nat.lt_succ_self _) hI331 FI331 FJ332 (by omega) (gr_R1u_fr (gr_R1u_fr (gr_R1u_fr (gr_R1_a (gr_R1_fr x8 (fun k => p145 68 k (fun q => absurd q.1 (by decide))) (fun k => p145 74 k (fun q => absurd q.1 (by decide))) (fun k => p145 6 k (fun q => absurd q.1 (by decide))) (fun k => p145 70 k (fun q => absurd q.1 (by decide))) (fun k => p145 71 k (fun q => absurd q.1 (by decide))) (p145 0 118 (by decide)) (p145 0 119 (by decide))) p234 (by omega) p258 (by omega) (by rw [q258]; omega) (by omega) (by omega) (by omega) (by omega)) (fun k => g280 68 k rfl) (fun k => g280 74 k rfl) (fun k => g280 6 k rfl) (fun k => g280 70 k rfl) (fun k => g280 71 k rfl) (g280 0 118 rfl) (g280 0 119 rfl)) (fun k => g308 68 k rfl) (fun k => g308 74 k rfl) (fun k => g308 6 k rfl) (fun k => g308 70 k rfl) (fun k => g308 71 k rfl) (g308 0 118 rfl) (g308 0 119 rfl)) (fun k => g330 68 k rfl) (fun k => g330 74 k rfl) (fun k => g330 6 k rfl) (fun k => g330 70 k rfl) (fun k => g330 71 k rfl) (g330 0 118 rfl) (g330 0 119 rfl)) A353 ⟨1002, by omega, (by unfold gs_it gs_it2 gs_it3; (repeat first | rw [if_pos (by omega)] | rw [if_neg (by omega)]); rw [show I331 0 106 = 0 from by omega])⟩ (gs_Uiv_fr (gs_Uiv_a ⟨(p145 0 118 (by decide)), fun j => ⟨(p145 74 j (fun q => absurd q.1 (by decide))), (p145 68 j (fun q => absurd q.1 (by decide)))⟩⟩ (by omega) (by omega) p234 (q234.trans (by omega)) (by omega) p258 q258 (by omega)) (((g330 0 118 rfl).trans (g308 0 118 rfl)).trans (g280 0 118 rfl)) (fun j => (((g330 74 j rfl).trans (g308 74 j rfl)).trans (g280 74 j rfl))) (fun j => (((g330 68 j rfl).trans (g308 68 j rfl)).trans (g280 68 j rfl))))
              · have u359 := gs_or0 V330 (by omega)
                clear o330 V330
                refine gv_run 1 true hD (pc' := 144) (lv' := [(2, .inl ((I144 0 74) - 1)), (0, .inr (.inr (some 0))), (1, .inl a1)]) (st' := [.inl 0]) (h' := gr_h I331 J332) (C := (True ∧ True)) rfl ⟨trivial, trivial⟩ ?_
                have b360 : (I331 0 69 = I 0 69) ∧ (I 0 73 ≤ I331 0 73) ∧ (I 0 72 ≤ I331 0 72) ∧ (I331 0 59 - I331 0 72 ≤ I 0 59 - I 0 72) ∧ ((0 : Int) = 0 ∨ I 0 72 < I331 0 72) := by omega
                exact gv_zret hD rfl (by omega) ⟨I331, J332, rfl, hI331, FI331, FJ332, ⟨_, rfl, by omega, by omega, (gr_ATp_rr A353).1, (gr_ATp_rr A353).2.1, (gr_ATp_rr A353).2.2.1, (gr_ATp_rr A353).2.2.2.1, (gr_ATp_rr A353).2.2.2.2, b360.1, b360.2.1, b360.2.2.1, b360.2.2.2.1, b360.2.2.2.2, (gr_o_a (by omega)), (Or.inr ⟨by omega, by first | (exfalso; omega) | (unfold gs_it gs_it2 gs_it3; (repeat first | rw [if_pos (by omega)] | rw [if_neg (by omega)]); exact ⟨by omega, by omega⟩)⟩)⟩⟩
          · refine gv_run 2 true hD (pc' := 93) (lv' := [(2, .inl ((I144 0 74) - 1)), (0, .inr (.inr (some 0))), (1, .inl a1)]) (st' := [.inl 5, .inr (.inr (some 0))]) (h' := gr_h I144 J) (C := ((True ∧ True) ∧ True)) rfl ⟨⟨trivial, trivial⟩, trivial⟩ ?_
            obtain ⟨r361, h361, E361, P361⟩ := r_no__p (ws0 := ws0) (tb := tb) hws htb ext β N9 p9 I144 J hI144 5 ⟨by omega, by omega⟩ A165 (by omega)
            obtain ⟨I362, J363, rfl, hI362, g361, k361, ⟨z361, rfl, q361⟩⟩ := P361
            have FI362 := gr_frt FI144 g361 rfl rfl
            have FJ363 := gr_fjt FJ k361 rfl rfl
            have t364 := g361 0 71 rfl
            have t365 := g361 0 72 rfl
            have t366 := g361 0 73 rfl
            have t367 := g361 0 69 rfl
            have t368 := g361 0 59 rfl
            have t369 := g361 0 6 rfl
            have t370 := g361 0 118 rfl
            have t371 := g361 0 119 rfl
            have t372 := g361 0 74 rfl
            have t373 := g361 0 106 rfl
            have f374 := (show 0 ≤ I362 0 71 ∧ I362 0 71 ≤ 5 from (hI362 0 71).1)
            have f375 := (show 0 ≤ I362 0 72 ∧ I362 0 72 ≤ 1000 from (hI362 0 72).1)
            have f376 := (show 0 ≤ I362 0 73 ∧ I362 0 73 ≤ 1001 from (hI362 0 73).1)
            have f377 := (show 0 ≤ I362 0 69 ∧ I362 0 69 ≤ 1000 from (hI362 0 69).1)
            have f378 := (show 0 ≤ I362 0 59 ∧ I362 0 59 ≤ 2000 from (hI362 0 59).1)
            have f379 := (show (-1) ≤ I362 0 6 ∧ I362 0 6 ≤ 7 from (hI362 0 6).1)
            have f380 := (show 0 ≤ I362 0 118 ∧ I362 0 118 ≤ 6 from (hI362 0 118).1)
            have f381 := (show 0 ≤ I362 0 119 ∧ I362 0 119 ≤ 6 from (hI362 0 119).1)
            have f382 := (show 0 ≤ I362 0 74 ∧ I362 0 74 ≤ 999999 from (hI362 0 74).1)
            have f383 := (show 0 ≤ I362 0 106 ∧ I362 0 106 ≤ 16777215 from (hI362 0 106).1)
            have A384 := gr_ATp_F A165 g361 k361 rfl
            have t385 := gr_ATp_l A384
            refine gv_callV hD rfl (As := [.inl 5]) (st := []) rfl (by decide) rfl rfl (gr_lV hws rfl) (Nat.le_of_ble_eq_true rfl) (gz_Ev_mono (d := 2) (by decide) E361) ?_
            show gv_X _ _ (96, [(2, .inl ((I144 0 74) - 1)), (0, .inr (.inr (some 0))), (1, .inl a1)], [.inl z361], gr_sh ++ ext, gr_h I362 J363)
            have b386 : (I362 0 69 = I 0 69) ∧ (I 0 73 ≤ I362 0 73) ∧ (I 0 72 ≤ I362 0 72) ∧ (I362 0 59 - I362 0 72 ≤ I 0 59 - I 0 72) ∧ ((z361 : Int) = 0 ∨ I 0 72 < I362 0 72) := by omega
            exact gv_zret hD rfl (by omega) ⟨I362, J363, rfl, hI362, FI362, FJ363, ⟨_, rfl, by omega, by omega, (gr_ATp_rr A384).1, (gr_ATp_rr A384).2.1, (gr_ATp_rr A384).2.2.1, (gr_ATp_rr A384).2.2.2.1, (gr_ATp_rr A384).2.2.2.2, b386.1, b386.2.1, b386.2.2.1, b386.2.2.2.1, b386.2.2.2.2, (gr_o_a (by omega)), (Or.inr ⟨by omega, by first | (exfalso; omega) | (unfold gs_it gs_it2 gs_it3; (repeat first | rw [if_pos (by omega)] | rw [if_neg (by omega)]); exact ⟨by omega, by omega⟩)⟩)⟩⟩
    · have t387 := (gr_ATp_k A165 (c := 3) (by omega)).mp (by omega)
      have t388 := (gr_ATp_rr A165).2.2.1.resolve_left (by omega)
      have t389 := (gr_ATp_rr A165).2.2.2.1 (by omega)
      refine gv_run 1 true hD (pc' := 29) (lv' := [(0, .inr (.inr (some 0))), (1, .inl a1)]) (st' := [.inr (.inr (some 0))]) (h' := gr_h I144 J) (C := (True ∧ True)) rfl ⟨trivial, trivial⟩ ?_
      obtain ⟨r390, h390, E390, P390⟩ := r_size (ws0 := ws0) (tb := tb) hws htb ext I144 J hI144   
      obtain ⟨rfl, ⟨z390, rfl, q390⟩⟩ := P390
      refine gv_callV hD rfl (As := []) (st := []) rfl (by decide) rfl rfl (gr_lV hws rfl) (Nat.le_of_ble_eq_true rfl) (gz_Ev_mono (d := 1) (by decide) E390) ?_
      show gv_X _ _ (32, [(0, .inr (.inr (some 0))), (1, .inl a1)], [.inl z390], gr_sh ++ ext, gr_h I144 J)
      refine gv_if_ne (t := 41) hD rfl rfl ⟨by omega, by omega⟩ (fun c391 => ?_) (fun c391 => ?_)
      · have f392 := (show 0 ≤ I144 0 118 ∧ I144 0 118 ≤ 6 from (hI144 0 118).1)
        refine gv_run 5 true hD (pc' := 50) (lv' := [(0, .inr (.inr (some 0))), (1, .inl a1)]) (st' := [.inr (.inr (some 0)), .inl (I144 0 118), .inr (.inr (some 68))]) (h' := gr_h I144 J) (C := (((((True ∧ True) ∧ True) ∧ True) ∧ True) ∧ True)) rfl ⟨⟨⟨⟨⟨trivial, trivial⟩, trivial⟩, trivial⟩, trivial⟩, trivial⟩ ?_
        obtain ⟨r393, h393, E393, P393⟩ := r_keeps_p (ws0 := ws0) (tb := tb) hws htb ext I144 J hI144   (by omega) ((gr_ATp_rr A165).2.2.2.1 (by omega)).2 ((gr_ATp_rr A165).2.2.2.1 (by omega)).1 (by have h9 := (gr_ATp_rr A165).1.resolve_left (by omega); omega)
        obtain ⟨I394, J395, rfl, hI394, g393, k393, ⟨z393, rfl, q393⟩⟩ := P393
        have FI394 := gr_frt FI144 g393 rfl rfl
        have FJ395 := gr_fjt FJ k393 rfl rfl
        have t396 := g393 0 71 rfl
        have t397 := g393 0 72 rfl
        have t398 := g393 0 73 rfl
        have t399 := g393 0 69 rfl
        have t400 := g393 0 6 rfl
        have t401 := g393 0 118 rfl
        have t402 := g393 0 119 rfl
        have t403 := g393 0 74 rfl
        have t404 := g393 0 106 rfl
        have f405 := (show 0 ≤ I394 0 71 ∧ I394 0 71 ≤ 5 from (hI394 0 71).1)
        have f406 := (show 0 ≤ I394 0 72 ∧ I394 0 72 ≤ 1000 from (hI394 0 72).1)
        have f407 := (show 0 ≤ I394 0 73 ∧ I394 0 73 ≤ 1001 from (hI394 0 73).1)
        have f408 := (show 0 ≤ I394 0 69 ∧ I394 0 69 ≤ 1000 from (hI394 0 69).1)
        have f409 := (show 0 ≤ I394 0 59 ∧ I394 0 59 ≤ 2000 from (hI394 0 59).1)
        have f410 := (show (-1) ≤ I394 0 6 ∧ I394 0 6 ≤ 7 from (hI394 0 6).1)
        have f411 := (show 0 ≤ I394 0 118 ∧ I394 0 118 ≤ 6 from (hI394 0 118).1)
        have f412 := (show 0 ≤ I394 0 119 ∧ I394 0 119 ≤ 6 from (hI394 0 119).1)
        have f413 := (show 0 ≤ I394 0 74 ∧ I394 0 74 ≤ 999999 from (hI394 0 74).1)
        have f414 := (show 0 ≤ I394 0 106 ∧ I394 0 106 ≤ 16777215 from (hI394 0 106).1)
        have A415 := gr_ATp_F A165 g393 k393 rfl
        have t416 := gr_ATp_l A415
        refine gv_callV hD rfl (As := []) (st := [.inl (I144 0 118), .inr (.inr (some 68))]) rfl (by decide) rfl rfl (gr_lV hws rfl) (Nat.le_of_ble_eq_true rfl) (gz_Ev_mono (d := 2) (by decide) E393) ?_
        show gv_X _ _ (53, [(0, .inr (.inr (some 0))), (1, .inl a1)], [.inl z393, .inl (I144 0 118), .inr (.inr (some 68))], gr_sh ++ ext, gr_h I394 J395)
        refine gv_run 1 true hD (pc' := 54) (lv' := [(0, .inr (.inr (some 0))), (1, .inl a1)]) (st' := []) (h' := gz_up (gr_h I394 J395) 68 (Int.toNat ((I144 0 118))) (.inl z393)) (C := (True ∧ (0 ≤ (I144 0 118) ∧ (I144 0 118) < ((6 : Nat) : Int)))) rfl ⟨trivial, ⟨by omega, by omega⟩⟩ ?_
        refine gr_st hI394 FI394 rfl rfl ⟨⟨by show (-4) ≤ _; omega, by show _ ≤ 32015; omega⟩, trivial⟩ (fun I417 hI417 FI417 q418 p418 => ?_)
        have t419 := p418 0 71 (fun q => absurd q.1 (by decide))
        have t420 := p418 0 72 (fun q => absurd q.1 (by decide))
        have t421 := p418 0 73 (fun q => absurd q.1 (by decide))
        have t422 := p418 0 69 (fun q => absurd q.1 (by decide))
        have t423 := p418 0 59 (fun q => absurd q.1 (by decide))
        have t424 := p418 0 6 (fun q => absurd q.1 (by decide))
        have t425 := p418 0 118 (fun q => absurd q.1 (by decide))
        have t426 := p418 0 119 (fun q => absurd q.1 (by decide))
        have t427 := p418 0 74 (fun q => absurd q.1 (by decide))
        have t428 := p418 0 106 (fun q => absurd q.1 (by decide))
        have f429 := (show 0 ≤ I417 0 71 ∧ I417 0 71 ≤ 5 from (hI417 0 71).1)
        have f430 := (show 0 ≤ I417 0 72 ∧ I417 0 72 ≤ 1000 from (hI417 0 72).1)
        have f431 := (show 0 ≤ I417 0 73 ∧ I417 0 73 ≤ 1001 from (hI417 0 73).1)
        have f432 := (show 0 ≤ I417 0 69 ∧ I417 0 69 ≤ 1000 from (hI417 0 69).1)
        have f433 := (show 0 ≤ I417 0 59 ∧ I417 0 59 ≤ 2000 from (hI417 0 59).1)
        have f434 := (show (-1) ≤ I417 0 6 ∧ I417 0 6 ≤ 7 from (hI417 0 6).1)
        have f435 := (show 0 ≤ I417 0 118 ∧ I417 0 118 ≤ 6 from (hI417 0 118).1)
        have f436 := (show 0 ≤ I417 0 119 ∧ I417 0 119 ≤ 6 from (hI417 0 119).1)
        have f437 := (show 0 ≤ I417 0 74 ∧ I417 0 74 ≤ 999999 from (hI417 0 74).1)
        have f438 := (show 0 ≤ I417 0 106 ∧ I417 0 106 ≤ 16777215 from (hI417 0 106).1)
        have A439 := gr_ATp_sr A415 p418 rfl
        refine gv_run 1 true hD (pc' := 55) (lv' := [(0, .inr (.inr (some 0))), (1, .inl a1)]) (st' := [.inr (.inr (some 0))]) (h' := gr_h I417 J395) (C := (True ∧ True)) rfl ⟨trivial, trivial⟩ ?_
        obtain ⟨r440, h440, E440, P440⟩ := r_next_p (ws0 := ws0) (tb := tb) hws htb ext β N9 I417 J395 hI417   ((gr_ATp_rr A439).1.resolve_left (by omega)) A439.1.1 A439.1.2
        obtain ⟨I441, J442, rfl, hI441, g440, k440, ⟨rfl, q440⟩⟩ := P440
        have FI441 := gr_frt FI417 g440 rfl rfl
        have FJ442 := gr_fjt FJ395 k440 rfl rfl
        have t443 := g440 0 69 rfl
        have t444 := g440 0 59 rfl
        have t445 := g440 0 6 rfl
        have t446 := g440 0 118 rfl
        have t447 := g440 0 119 rfl
        have t448 := g440 0 106 rfl
        have f449 := (show 0 ≤ I441 0 71 ∧ I441 0 71 ≤ 5 from (hI441 0 71).1)
        have f450 := (show 0 ≤ I441 0 72 ∧ I441 0 72 ≤ 1000 from (hI441 0 72).1)
        have f451 := (show 0 ≤ I441 0 73 ∧ I441 0 73 ≤ 1001 from (hI441 0 73).1)
        have f452 := (show 0 ≤ I441 0 69 ∧ I441 0 69 ≤ 1000 from (hI441 0 69).1)
        have f453 := (show 0 ≤ I441 0 59 ∧ I441 0 59 ≤ 2000 from (hI441 0 59).1)
        have f454 := (show (-1) ≤ I441 0 6 ∧ I441 0 6 ≤ 7 from (hI441 0 6).1)
        have f455 := (show 0 ≤ I441 0 118 ∧ I441 0 118 ≤ 6 from (hI441 0 118).1)
        have f456 := (show 0 ≤ I441 0 119 ∧ I441 0 119 ≤ 6 from (hI441 0 119).1)
        have f457 := (show 0 ≤ I441 0 74 ∧ I441 0 74 ≤ 999999 from (hI441 0 74).1)
        have f458 := (show 0 ≤ I441 0 106 ∧ I441 0 106 ≤ 16777215 from (hI441 0 106).1)
        have t459 := (gr_ATp_rr A439).2.2.1.resolve_left (by omega)
        have A460 := gr_ATp_nx A439 q440.2.2.2.2.2
        have t461 := gr_ATp_l A460
        obtain ⟨_, _, -, -, -, -⟩ := q440
        refine gv_callV hD rfl (As := []) (st := []) rfl (by decide) rfl rfl (gr_lV hws rfl) (Nat.le_of_ble_eq_true rfl) (gz_Ev_mono (d := 10) (by decide) E440) ?_
        show gv_X _ _ (58, [(0, .inr (.inr (some 0))), (1, .inl a1)], [], gr_sh ++ ext, gr_h I441 J442)
        refine gv_run 1 true hD (pc' := 173) (lv' := [(0, .inr (.inr (some 0))), (1, .inl a1)]) (st' := []) (h' := gr_h I441 J442) (C := (True ∧ True)) rfl ⟨trivial, trivial⟩ ?_
        refine gv_pick [0] rfl ?_
        exact L173 I441 J442 (gs_X β N9 p9) hI441 FI441 FJ442 (by omega) (gr_R1u_fr (gr_R1_t (gr_R1_fr (gr_R1_fr x8 (fun k => p145 68 k (fun q => absurd q.1 (by decide))) (fun k => p145 74 k (fun q => absurd q.1 (by decide))) (fun k => p145 6 k (fun q => absurd q.1 (by decide))) (fun k => p145 70 k (fun q => absurd q.1 (by decide))) (fun k => p145 71 k (fun q => absurd q.1 (by decide))) (p145 0 118 (by decide)) (p145 0 119 (by decide))) (fun k => g393 68 k rfl) (fun k => g393 74 k rfl) (fun k => g393 6 k rfl) (fun k => g393 70 k rfl) (fun k => g393 71 k rfl) (g393 0 118 rfl) (g393 0 119 rfl)) p418 (by omega) (by omega) (by omega)) (fun k => g440 68 k rfl) (fun k => g440 74 k rfl) (fun k => g440 6 k rfl) (fun k => g440 70 k rfl) (fun k => g440 71 k rfl) (g440 0 118 rfl) (g440 0 119 rfl)) A460 (by unfold gs_it gs_it2 gs_it3; (repeat first | rw [if_pos (by omega)] | rw [if_neg (by omega)])) (gs_Uiv_fr (gs_Uiv_l ⟨((g393 0 118 rfl).trans (p145 0 118 (by decide))), fun j => ⟨((g393 74 j rfl).trans (p145 74 j (fun q => absurd q.1 (by decide)))), ((g393 68 j rfl).trans (p145 68 j (fun q => absurd q.1 (by decide))))⟩⟩ (by omega) (by omega) p418 (by rw [q418]; omega)) (g440 0 118 rfl) (fun j => (g440 74 j rfl)) (fun j => (g440 68 j rfl)))
      · refine gv_run 2 true hD (pc' := 37) (lv' := [(0, .inr (.inr (some 0))), (1, .inl a1)]) (st' := [.inl 5, .inr (.inr (some 0))]) (h' := gr_h I144 J) (C := ((True ∧ True) ∧ True)) rfl ⟨⟨trivial, trivial⟩, trivial⟩ ?_
        obtain ⟨r462, h462, E462, P462⟩ := r_no__p (ws0 := ws0) (tb := tb) hws htb ext β N9 p9 I144 J hI144 5 ⟨by omega, by omega⟩ A165 (by omega)
        obtain ⟨I463, J464, rfl, hI463, g462, k462, ⟨z462, rfl, q462⟩⟩ := P462
        have FI463 := gr_frt FI144 g462 rfl rfl
        have FJ464 := gr_fjt FJ k462 rfl rfl
        have t465 := g462 0 71 rfl
        have t466 := g462 0 72 rfl
        have t467 := g462 0 73 rfl
        have t468 := g462 0 69 rfl
        have t469 := g462 0 59 rfl
        have t470 := g462 0 6 rfl
        have t471 := g462 0 118 rfl
        have t472 := g462 0 119 rfl
        have t473 := g462 0 74 rfl
        have t474 := g462 0 106 rfl
        have f475 := (show 0 ≤ I463 0 71 ∧ I463 0 71 ≤ 5 from (hI463 0 71).1)
        have f476 := (show 0 ≤ I463 0 72 ∧ I463 0 72 ≤ 1000 from (hI463 0 72).1)
        have f477 := (show 0 ≤ I463 0 73 ∧ I463 0 73 ≤ 1001 from (hI463 0 73).1)
        have f478 := (show 0 ≤ I463 0 69 ∧ I463 0 69 ≤ 1000 from (hI463 0 69).1)
        have f479 := (show 0 ≤ I463 0 59 ∧ I463 0 59 ≤ 2000 from (hI463 0 59).1)
        have f480 := (show (-1) ≤ I463 0 6 ∧ I463 0 6 ≤ 7 from (hI463 0 6).1)
        have f481 := (show 0 ≤ I463 0 118 ∧ I463 0 118 ≤ 6 from (hI463 0 118).1)
        have f482 := (show 0 ≤ I463 0 119 ∧ I463 0 119 ≤ 6 from (hI463 0 119).1)
        have f483 := (show 0 ≤ I463 0 74 ∧ I463 0 74 ≤ 999999 from (hI463 0 74).1)
        have f484 := (show 0 ≤ I463 0 106 ∧ I463 0 106 ≤ 16777215 from (hI463 0 106).1)
        have A485 := gr_ATp_F A165 g462 k462 rfl
        have t486 := gr_ATp_l A485
        refine gv_callV hD rfl (As := [.inl 5]) (st := []) rfl (by decide) rfl rfl (gr_lV hws rfl) (Nat.le_of_ble_eq_true rfl) (gz_Ev_mono (d := 2) (by decide) E462) ?_
        show gv_X _ _ (40, [(0, .inr (.inr (some 0))), (1, .inl a1)], [.inl z462], gr_sh ++ ext, gr_h I463 J464)
        have b487 : (I463 0 69 = I 0 69) ∧ (I 0 73 ≤ I463 0 73) ∧ (I 0 72 ≤ I463 0 72) ∧ (I463 0 59 - I463 0 72 ≤ I 0 59 - I 0 72) ∧ ((z462 : Int) = 0 ∨ I 0 72 < I463 0 72) := by omega
        exact gv_zret hD rfl (by omega) ⟨I463, J464, rfl, hI463, FI463, FJ464, ⟨_, rfl, by omega, by omega, (gr_ATp_rr A485).1, (gr_ATp_rr A485).2.1, (gr_ATp_rr A485).2.2.1, (gr_ATp_rr A485).2.2.2.1, (gr_ATp_rr A485).2.2.2.2, b487.1, b487.2.1, b487.2.2.1, b487.2.2.2.1, b487.2.2.2.2, (gr_o_a (by omega)), (Or.inr ⟨by omega, by first | (exfalso; omega) | (unfold gs_it gs_it2 gs_it3; (repeat first | rw [if_pos (by omega)] | rw [if_neg (by omega)]); exact ⟨by omega, by omega⟩)⟩)⟩⟩
  · refine gv_run 2 true hD (pc' := 11) (lv' := [(0, .inr (.inr (some 0))), (1, .inl a1)]) (st' := [.inl 5, .inr (.inr (some 0))]) (h' := gr_h I J) (C := ((True ∧ True) ∧ True)) rfl ⟨⟨trivial, trivial⟩, trivial⟩ ?_
    obtain ⟨r488, h488, E488, P488⟩ := r_no__p (ws0 := ws0) (tb := tb) hws htb ext β N9 p9 I J hI 5 ⟨by omega, by omega⟩ x9 (by omega)
    obtain ⟨I489, J490, rfl, hI489, g488, k488, ⟨z488, rfl, q488⟩⟩ := P488
    have FI489 := gr_frt FI g488 rfl rfl
    have FJ490 := gr_fjt FJ k488 rfl rfl
    have t491 := g488 0 71 rfl
    have t492 := g488 0 72 rfl
    have t493 := g488 0 73 rfl
    have t494 := g488 0 69 rfl
    have t495 := g488 0 59 rfl
    have t496 := g488 0 6 rfl
    have t497 := g488 0 118 rfl
    have t498 := g488 0 119 rfl
    have t499 := g488 0 74 rfl
    have t500 := g488 0 106 rfl
    have f501 := (show 0 ≤ I489 0 71 ∧ I489 0 71 ≤ 5 from (hI489 0 71).1)
    have f502 := (show 0 ≤ I489 0 72 ∧ I489 0 72 ≤ 1000 from (hI489 0 72).1)
    have f503 := (show 0 ≤ I489 0 73 ∧ I489 0 73 ≤ 1001 from (hI489 0 73).1)
    have f504 := (show 0 ≤ I489 0 69 ∧ I489 0 69 ≤ 1000 from (hI489 0 69).1)
    have f505 := (show 0 ≤ I489 0 59 ∧ I489 0 59 ≤ 2000 from (hI489 0 59).1)
    have f506 := (show (-1) ≤ I489 0 6 ∧ I489 0 6 ≤ 7 from (hI489 0 6).1)
    have f507 := (show 0 ≤ I489 0 118 ∧ I489 0 118 ≤ 6 from (hI489 0 118).1)
    have f508 := (show 0 ≤ I489 0 119 ∧ I489 0 119 ≤ 6 from (hI489 0 119).1)
    have f509 := (show 0 ≤ I489 0 74 ∧ I489 0 74 ≤ 999999 from (hI489 0 74).1)
    have f510 := (show 0 ≤ I489 0 106 ∧ I489 0 106 ≤ 16777215 from (hI489 0 106).1)
    have A511 := gr_ATp_F x9 g488 k488 rfl
    have t512 := gr_ATp_l A511
    refine gv_callV hD rfl (As := [.inl 5]) (st := []) rfl (by decide) rfl rfl (gr_lV hws rfl) (Nat.le_of_ble_eq_true rfl) (gz_Ev_mono (d := 2) (by decide) E488) ?_
    show gv_X _ _ (14, [(0, .inr (.inr (some 0))), (1, .inl a1)], [.inl z488], gr_sh ++ ext, gr_h I489 J490)
    have b513 : (I489 0 69 = I 0 69) ∧ (I 0 73 ≤ I489 0 73) ∧ (I 0 72 ≤ I489 0 72) ∧ (I489 0 59 - I489 0 72 ≤ I 0 59 - I 0 72) ∧ ((z488 : Int) = 0 ∨ I 0 72 < I489 0 72) := by omega
    exact gv_zret hD rfl (by omega) ⟨I489, J490, rfl, hI489, FI489, FJ490, ⟨_, rfl, by omega, by omega, (gr_ATp_rr A511).1, (gr_ATp_rr A511).2.1, (gr_ATp_rr A511).2.2.1, (gr_ATp_rr A511).2.2.2.1, (gr_ATp_rr A511).2.2.2.2, b513.1, b513.2.1, b513.2.2.1, b513.2.2.2.1, b513.2.2.2.2, (gr_o_a (by omega)), (Or.inr ⟨by omega, by first | (exfalso; omega) | (unfold gs_it gs_it2 gs_it3; (repeat first | rw [if_pos (by omega)] | rw [if_neg (by omega)]); exact ⟨by omega, by omega⟩)⟩)⟩⟩
