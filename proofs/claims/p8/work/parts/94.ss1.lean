set_option maxHeartbeats 32000000 in
set_option maxRecDepth 100000 in
theorem r_item_p {ws0 : List Cond} {tb : String → gz_T} (hws : ∀ w ∈ gr_ws, w ∈ ws0) (htb : tb RX13 = gr_T) (ext : gz_Sh) (β : Int → Int) (N9 : Int) (p9 : Int) (I : gr_I) (J : gr_J) (hI : gr_Inv I) (a1 : Int) (ha1 : 0 ≤ a1 ∧ a1 ≤ 95) (x0 : I 0 71 = 5 ∨ I 0 73 ≤ I 0 69) (x1 : I 0 72 ≤ I 0 69) (x2 : I 0 71 = 0 ∨ (I 0 72 < I 0 73 ∧ I 0 72 < I 0 69)) (x3 : I 0 71 = 3 → 2 ≤ I 0 73 - I 0 72 ∧ I 0 73 - I 0 72 ≤ 14) (x4 : I 0 72 ≤ I 0 73) (x5 : 0 ≤ I 0 6) (x6 : I 0 59 + I 0 69 - I 0 72 ≤ 1900) (x7 : I 0 71 = 3 ∨ I 0 71 = 2) (x8 : gr_R1 a1 I) (x9 : gr_ATp β N9 p9 I J) (x10 : 0 ≤ p9) : ∃ r h', gz_Ev ws0 tb 12 (yX13_item, cX13_item, 3, (some .boolean)) [.inr (.inr (some 0)), .inl a1] (gr_sh ++ ext) (gr_h I J) r (gr_sh ++ ext) h' 0 0 ∧ (∃ (I' : gr_I) (J' : gr_J), h' = gr_h I' J' ∧ gr_Inv I' ∧ gr_fr [59, 71, 72, 73, 74, 75, 76, 77, 106, 118] [51, 68, 69, 74] I I' ∧ gr_fj [59, 71, 72, 73, 74, 75, 76, 77, 106, 118] [51, 68, 69, 74] J J' ∧ (∃ z : Int, r = some (.inl z) ∧ 0 ≤ z ∧ z ≤ 1 ∧ (I' 0 71 = 5 ∨ I' 0 73 ≤ I' 0 69) ∧ (I' 0 72 ≤ I' 0 69) ∧ (I' 0 71 = 0 ∨ (I' 0 72 < I' 0 73 ∧ I' 0 72 < I' 0 69)) ∧ (I' 0 71 = 3 → 2 ≤ I' 0 73 - I' 0 72 ∧ I' 0 73 - I' 0 72 ≤ 14) ∧ (I' 0 72 ≤ I' 0 73) ∧ (I' 0 69 = I 0 69) ∧ (I 0 73 ≤ I' 0 73) ∧ (I 0 72 ≤ I' 0 72) ∧ (I' 0 59 - I' 0 72 ≤ I 0 59 - I 0 72) ∧ (z = 0 ∨ I 0 72 < I' 0 72) ∧ (gr_o (z = 0) (gr_R1 a1 I')) ∧ (gr_LKs I I') ∧ (gs_Or z (0 ≤ (gs_it β N9 I J (I 6 (Int.toNat a1)) (I 0 118) (gs_a4 (I 74)) p9) ∧ gr_ATp β N9 (gs_it β N9 I J (I 6 (Int.toNat a1)) (I 0 118) (gs_a4 (I 74)) p9) I' J' ∧ gs_Uit β N9 p9 I I') ((gs_it β N9 I J (I 6 (Int.toNat a1)) (I 0 118) (gs_a4 (I 74)) p9) < 0 ∧ I' 0 77 = -1 - (gs_it β N9 I J (I 6 (Int.toNat a1)) (I 0 118) (gs_a4 (I 74)) p9))))) := by
  have FI : gr_fr [59, 71, 72, 73, 74, 75, 76, 77, 106, 118] [51, 68, 69, 74] I I := fun _ _ _ => rfl
  have FJ : gr_fj [59, 71, 72, 73, 74, 75, 76, 77, 106, 118] [51, 68, 69, 74] J J := fun _ _ _ => rfl
  have hD : gv_D (gr_E ws0 tb 11 (yX13_item, cX13_item, 3, (some .boolean)) kX13_item) := gq_of oX13_item
  refine gr_ev (d := 11) (l := kX13_item) (Po := fun r h' => (∃ (I' : gr_I) (J' : gr_J), h' = gr_h I' J' ∧ gr_Inv I' ∧ gr_fr [59, 71, 72, 73, 74, 75, 76, 77, 106, 118] [51, 68, 69, 74] I I' ∧ gr_fj [59, 71, 72, 73, 74, 75, 76, 77, 106, 118] [51, 68, 69, 74] J J' ∧ (∃ z : Int, r = some (.inl z) ∧ 0 ≤ z ∧ z ≤ 1 ∧ (I' 0 71 = 5 ∨ I' 0 73 ≤ I' 0 69) ∧ (I' 0 72 ≤ I' 0 69) ∧ (I' 0 71 = 0 ∨ (I' 0 72 < I' 0 73 ∧ I' 0 72 < I' 0 69)) ∧ (I' 0 71 = 3 → 2 ≤ I' 0 73 - I' 0 72 ∧ I' 0 73 - I' 0 72 ≤ 14) ∧ (I' 0 72 ≤ I' 0 73) ∧ (I' 0 69 = I 0 69) ∧ (I 0 73 ≤ I' 0 73) ∧ (I 0 72 ≤ I' 0 72) ∧ (I' 0 59 - I' 0 72 ≤ I 0 59 - I 0 72) ∧ (z = 0 ∨ I 0 72 < I' 0 72) ∧ (gr_o (z = 0) (gr_R1 a1 I')) ∧ (gr_LKs I I') ∧ (gs_Or z (0 ≤ (gs_it β N9 I J (I 6 (Int.toNat a1)) (I 0 118) (gs_a4 (I 74)) p9) ∧ gr_ATp β N9 (gs_it β N9 I J (I 6 (Int.toNat a1)) (I 0 118) (gs_a4 (I 74)) p9) I' J' ∧ gs_Uit β N9 p9 I I') ((gs_it β N9 I J (I 6 (Int.toNat a1)) (I 0 118) (gs_a4 (I 74)) p9) < 0 ∧ I' 0 77 = -1 - (gs_it β N9 I J (I 6 (Int.toNat a1)) (I 0 118) (gs_a4 (I 74)) p9)))))) htb rfl (Nat.le_of_ble_eq_true rfl) ?_
  have tAT := gr_ATp_l x9
  clear x0 x2 x3
  have f1 := (gr_b_0_71 hI)
  have f2 := (gr_b_0_72 hI)
  have f3 := (gr_b_0_73 hI)
  have f4 := (gr_b_0_69 hI)
  have f5 := (gr_b_0_59 hI)
  have f6 := (gr_b_0_6 hI)
  have f7 := (gr_b_0_118 hI)
  have f8 := (gr_b_0_119 hI)
  have f9 := (gr_b_0_74 hI)
  have f10 := (gr_b_0_106 hI)
  have KLK_I : gr_LKs I I := gr_LKs_rf
  have L173 : ∀ (I11 : gr_I) (J12 : gr_J) (p_13 : Int), gr_Inv I11 → gr_fr [59, 71, 72, 73, 74, 75, 76, 77, 106, 118] [51, 68, 69, 74] I I11 → gr_fj [59, 71, 72, 73, 74, 75, 76, 77, 106, 118] [51, 68, 69, 74] J J12 → gr_LKs I I11 → ((I 0 72 < I11 0 72) ∧ (I11 0 118 ≤ 5) ∧ (I11 0 59 - I11 0 72 ≤ I 0 59 - I 0 72) ∧ (0 ≤ I11 0 6) ∧ (0 ≤ p_13) ∧ (I11 0 72 ≤ I11 0 69) ∧ (I11 0 72 ≤ I11 0 73) ∧ (I11 0 69 = I 0 69) ∧ (I 0 73 ≤ I11 0 73) ∧ (I 0 72 ≤ I11 0 72)) → (gr_R1u a1 I11) → (gr_ATp β N9 p_13 I11 J12) → ((gs_it β N9 I J (I 6 (Int.toNat a1)) (I 0 118) (gs_a4 (I 74)) p9) = p_13) → (gs_Uiv β N9 p9 I I11) → gv_X (gr_E ws0 tb 11 (yX13_item, cX13_item, 3, (some .boolean)) kX13_item) (gv_Q cX13_item (some .boolean) (gr_sh ++ ext) (fun r h' => (∃ (I' : gr_I) (J' : gr_J), h' = gr_h I' J' ∧ gr_Inv I' ∧ gr_fr [59, 71, 72, 73, 74, 75, 76, 77, 106, 118] [51, 68, 69, 74] I I' ∧ gr_fj [59, 71, 72, 73, 74, 75, 76, 77, 106, 118] [51, 68, 69, 74] J J' ∧ (∃ z : Int, r = some (.inl z) ∧ 0 ≤ z ∧ z ≤ 1 ∧ (I' 0 71 = 5 ∨ I' 0 73 ≤ I' 0 69) ∧ (I' 0 72 ≤ I' 0 69) ∧ (I' 0 71 = 0 ∨ (I' 0 72 < I' 0 73 ∧ I' 0 72 < I' 0 69)) ∧ (I' 0 71 = 3 → 2 ≤ I' 0 73 - I' 0 72 ∧ I' 0 73 - I' 0 72 ≤ 14) ∧ (I' 0 72 ≤ I' 0 73) ∧ (I' 0 69 = I 0 69) ∧ (I 0 73 ≤ I' 0 73) ∧ (I 0 72 ≤ I' 0 72) ∧ (I' 0 59 - I' 0 72 ≤ I 0 59 - I 0 72) ∧ (z = 0 ∨ I 0 72 < I' 0 72) ∧ (gr_o (z = 0) (gr_R1 a1 I')) ∧ (gr_LKs I I') ∧ (gs_Or z (0 ≤ (gs_it β N9 I J (I 6 (Int.toNat a1)) (I 0 118) (gs_a4 (I 74)) p9) ∧ gr_ATp β N9 (gs_it β N9 I J (I 6 (Int.toNat a1)) (I 0 118) (gs_a4 (I 74)) p9) I' J' ∧ gs_Uit β N9 p9 I I') ((gs_it β N9 I J (I 6 (Int.toNat a1)) (I 0 118) (gs_a4 (I 74)) p9) < 0 ∧ I' 0 77 = -1 - (gs_it β N9 I J (I 6 (Int.toNat a1)) (I 0 118) (gs_a4 (I 74)) p9))))))) (173, [(0, .inr (.inr (some 0)))], [], gr_sh ++ ext, gr_h I11 J12) := by
    intro I11 J12 p_13 hI11 FI11 FJ12 KLK_I11 m_13 e4_13 e6_13 e7_13 e8_13
    obtain ⟨e0_13, e1_13, e2_13, e3_13, e5_13, e9_13, e10_13, e11_13, e12_13, e13_13⟩ := m_13
    have f14 := (gr_b_0_71 hI11)
    have f15 := (gr_b_0_72 hI11)
    have f16 := (gr_b_0_73 hI11)
    have f17 := (gr_b_0_69 hI11)
    have f18 := (gr_b_0_59 hI11)
    have f19 := (gr_b_0_6 hI11)
    have f20 := (gr_b_0_118 hI11)
    have f21 := (gr_b_0_119 hI11)
    have f22 := (gr_b_0_74 hI11)
    have f23 := (gr_b_0_106 hI11)
    have t24 := gr_ATp_l e6_13
    have f25 := (gr_b_0_118 hI11)
    refine gv_run 7 true hD (pc' := 184) (lv' := [(0, .inr (.inr (some 0)))]) (st' := [.inl 1, .inl (I11 0 118), .inr (.inr (some 0)), .inl (I11 0 118), .inr (.inr (some 69))]) (h' := gr_h I11 J12) (C := (((((((True ∧ True) ∧ True) ∧ True) ∧ True) ∧ True) ∧ True) ∧ True)) rfl ⟨⟨⟨⟨⟨⟨⟨trivial, trivial⟩, trivial⟩, trivial⟩, trivial⟩, trivial⟩, trivial⟩, trivial⟩ ?_
    refine gv_run 2 true hD (pc' := 188) (lv' := [(0, .inr (.inr (some 0)))]) (st' := [.inl (I11 0 118), .inr (.inr (some 69))]) (h' := gz_up (gr_h I11 J12) 0 118 (.inl (((I11 0 118) + 1)))) (C := ((True ∧ True) ∧ True)) rfl ⟨⟨trivial, trivial⟩, trivial⟩ ?_
    refine gr_st hI11 FI11 rfl rfl ⟨⟨by show 0 ≤ _; exact gz_m 0 (by omega), by show _ ≤ 6; exact gz_m 1 (by omega)⟩, trivial⟩ (fun I26 hI26 FI26 q27 p27 => ?_)
    have t28 := p27 0 71 (by decide)
    have t29 := p27 0 72 (by decide)
    have t30 := p27 0 73 (by decide)
    have t31 := p27 0 69 (by decide)
    have t32 := p27 0 59 (by decide)
    have t33 := p27 0 6 (by decide)
    have t34 := p27 0 119 (by decide)
    have t35 := p27 0 74 (by decide)
    have t36 := p27 0 106 (by decide)
    have f37 := (gr_b_0_71 hI26)
    have f38 := (gr_b_0_72 hI26)
    have f39 := (gr_b_0_73 hI26)
    have f40 := (gr_b_0_69 hI26)
    have f41 := (gr_b_0_59 hI26)
    have f42 := (gr_b_0_6 hI26)
    have f43 := (gr_b_0_118 hI26)
    have f44 := (gr_b_0_119 hI26)
    have f45 := (gr_b_0_74 hI26)
    have f46 := (gr_b_0_106 hI26)
    have KLK_I26 := gr_LKs_fr KLK_I11 (fun k => p27 51 k (fun q => absurd q.1 (by decide))) (p27 0 59 (by decide))
    have A47 := gr_ATp_sf e6_13 p27 rfl
    have f48 := (gr_b_0_106 hI26)
    refine gv_run 3 true hD (pc' := 193) (lv' := [(0, .inr (.inr (some 0)))]) (st' := []) (h' := gz_up (gr_h I26 J12) 69 (Int.toNat ((I11 0 118))) (.inl (I26 0 106))) (C := (((True ∧ True) ∧ True) ∧ (0 ≤ (I11 0 118) ∧ (I11 0 118) < ((6 : Nat) : Int)))) rfl ⟨⟨⟨trivial, trivial⟩, trivial⟩, ⟨by exact gz_m 2 (by omega), by exact gz_m 3 (by omega)⟩⟩ ?_
    refine gr_st hI26 FI26 rfl rfl ⟨⟨by show 0 ≤ _; exact gz_m 4 (by omega), by show _ ≤ 16777215; exact gz_m 5 (by omega)⟩, trivial⟩ (fun I49 hI49 FI49 q50 p50 => ?_)
    have t51 := p50 0 71 (fun q => absurd q.1 (by decide))
    have t52 := p50 0 72 (fun q => absurd q.1 (by decide))
    have t53 := p50 0 73 (fun q => absurd q.1 (by decide))
    have t54 := p50 0 69 (fun q => absurd q.1 (by decide))
    have t55 := p50 0 59 (fun q => absurd q.1 (by decide))
    have t56 := p50 0 6 (fun q => absurd q.1 (by decide))
    have t57 := p50 0 118 (fun q => absurd q.1 (by decide))
    have t58 := p50 0 119 (fun q => absurd q.1 (by decide))
    have t59 := p50 0 74 (fun q => absurd q.1 (by decide))
    have t60 := p50 0 106 (fun q => absurd q.1 (by decide))
    have f61 := (gr_b_0_71 hI49)
    have f62 := (gr_b_0_72 hI49)
    have f63 := (gr_b_0_73 hI49)
    have f64 := (gr_b_0_69 hI49)
    have f65 := (gr_b_0_59 hI49)
    have f66 := (gr_b_0_6 hI49)
    have f67 := (gr_b_0_118 hI49)
    have f68 := (gr_b_0_119 hI49)
    have f69 := (gr_b_0_74 hI49)
    have f70 := (gr_b_0_106 hI49)
    have KLK_I49 := gr_LKs_fr KLK_I26 (fun k => p50 51 k (fun q => absurd q.1 (by decide))) (p50 0 59 (fun q => absurd q.1 (by decide)))
    have A71 := gr_ATp_sr A47 p50 rfl
    refine gv_run 1 true hD (pc' := 194) (lv' := [(0, .inr (.inr (some 0)))]) (st' := [.inl 1]) (h' := gr_h I49 J12) (C := (True ∧ True)) rfl ⟨trivial, trivial⟩ ?_
    have b72 : (I49 0 69 = I 0 69) ∧ (I 0 73 ≤ I49 0 73) ∧ (I 0 72 ≤ I49 0 72) ∧ (I49 0 59 - I49 0 72 ≤ I 0 59 - I 0 72) ∧ ((1 : Int) = 0 ∨ I 0 72 < I49 0 72) := by exact gz_m 6 (by omega)
    exact gv_zret hD rfl (by exact gz_m 7 (by omega)) ⟨I49, J12, rfl, hI49, FI49, FJ12, ⟨_, rfl, by exact gz_m 8 (by omega), by exact gz_m 9 (by omega), (gr_ATp_rr A71).1, (gr_ATp_rr A71).2.1, (gr_ATp_rr A71).2.2.1, (gr_ATp_rr A71).2.2.2.1, (gr_ATp_rr A71).2.2.2.2, b72.1, b72.2.1, b72.2.2.1, b72.2.2.2.1, b72.2.2.2.2, (gr_o_b (gr_R1_fr (gr_R1_up e4_13 (fun k => p27 68 k (fun q => absurd q.1 (by decide))) (fun k => p27 74 k (fun q => absurd q.1 (by decide))) (fun k => p27 6 k (fun q => absurd q.1 (by decide))) (fun k => p27 70 k (fun q => absurd q.1 (by decide))) (fun k => p27 71 k (fun q => absurd q.1 (by decide))) (by exact gz_m 10 (by omega)) (by exact gz_m 11 (by omega))) (fun k => p50 68 k (fun q => absurd q.1 (by decide))) (fun k => p50 74 k (fun q => absurd q.1 (by decide))) (fun k => p50 6 k (fun q => absurd q.1 (by decide))) (fun k => p50 70 k (fun q => absurd q.1 (by decide))) (fun k => p50 71 k (fun q => absurd q.1 (by decide))) (p50 0 118 (fun q => absurd q.1 (by decide))) (p50 0 119 (fun q => absurd q.1 (by decide))))), KLK_I49, (Or.inl ⟨by exact gz_m 12 (by omega), by rw [e7_13]; exact ⟨by exact gz_m 13 (by omega), A71, gs_Uit_mk e8_13 (by exact gz_m 14 (by omega)) (fun j => ((p50 74 j (fun q => absurd q.1 (by decide))).trans (p27 74 j (fun q => absurd q.1 (by decide))))) (fun j => ((p50 68 j (fun q => absurd q.1 (by decide))).trans (p27 68 j (fun q => absurd q.1 (by decide)))))⟩⟩)⟩⟩
  have L145 : ∀ (n : Nat) (I73 : gr_I) (J74 : gr_J) (p_75 : Int), (1001 - I73 0 72).toNat < n → gr_Inv I73 → gr_fr [59, 71, 72, 73, 74, 75, 76, 77, 106, 118] [51, 68, 69, 74] I I73 → gr_fj [59, 71, 72, 73, 74, 75, 76, 77, 106, 118] [51, 68, 69, 74] J J74 → gr_LKs I I73 → ((I 0 72 < I73 0 72) ∧ (I73 0 118 ≤ 5) ∧ (I73 0 59 - I73 0 72 ≤ I 0 59 - I 0 72) ∧ (0 ≤ I73 0 6) ∧ (0 ≤ p_75) ∧ (I73 0 72 ≤ I73 0 69) ∧ (I73 0 72 ≤ I73 0 73) ∧ (I73 0 69 = I 0 69) ∧ (I 0 73 ≤ I73 0 73) ∧ (I 0 72 ≤ I73 0 72)) → (gr_R1u a1 I73) → (gr_ATp β N9 p_75 I73 J74) → (∃ m : Nat, 1001 - gs_A β N9 p_75 < (m : Int) ∧ (gs_it β N9 I J (I 6 (Int.toNat a1)) (I 0 118) (gs_a4 (I 74)) p9) = gs_it4 β N9 (gs_ws β N9 I J m (I73 0 106) p_75)) → (gs_Uiv β N9 p9 I I73) → gv_X (gr_E ws0 tb 11 (yX13_item, cX13_item, 3, (some .boolean)) kX13_item) (gv_Q cX13_item (some .boolean) (gr_sh ++ ext) (fun r h' => (∃ (I' : gr_I) (J' : gr_J), h' = gr_h I' J' ∧ gr_Inv I' ∧ gr_fr [59, 71, 72, 73, 74, 75, 76, 77, 106, 118] [51, 68, 69, 74] I I' ∧ gr_fj [59, 71, 72, 73, 74, 75, 76, 77, 106, 118] [51, 68, 69, 74] J J' ∧ (∃ z : Int, r = some (.inl z) ∧ 0 ≤ z ∧ z ≤ 1 ∧ (I' 0 71 = 5 ∨ I' 0 73 ≤ I' 0 69) ∧ (I' 0 72 ≤ I' 0 69) ∧ (I' 0 71 = 0 ∨ (I' 0 72 < I' 0 73 ∧ I' 0 72 < I' 0 69)) ∧ (I' 0 71 = 3 → 2 ≤ I' 0 73 - I' 0 72 ∧ I' 0 73 - I' 0 72 ≤ 14) ∧ (I' 0 72 ≤ I' 0 73) ∧ (I' 0 69 = I 0 69) ∧ (I 0 73 ≤ I' 0 73) ∧ (I 0 72 ≤ I' 0 72) ∧ (I' 0 59 - I' 0 72 ≤ I 0 59 - I 0 72) ∧ (z = 0 ∨ I 0 72 < I' 0 72) ∧ (gr_o (z = 0) (gr_R1 a1 I')) ∧ (gr_LKs I I') ∧ (gs_Or z (0 ≤ (gs_it β N9 I J (I 6 (Int.toNat a1)) (I 0 118) (gs_a4 (I 74)) p9) ∧ gr_ATp β N9 (gs_it β N9 I J (I 6 (Int.toNat a1)) (I 0 118) (gs_a4 (I 74)) p9) I' J' ∧ gs_Uit β N9 p9 I I') ((gs_it β N9 I J (I 6 (Int.toNat a1)) (I 0 118) (gs_a4 (I 74)) p9) < 0 ∧ I' 0 77 = -1 - (gs_it β N9 I J (I 6 (Int.toNat a1)) (I 0 118) (gs_a4 (I 74)) p9))))))) (145, [(0, .inr (.inr (some 0)))], [], gr_sh ++ ext, gr_h I73 J74) := by
    intro n
    induction n with
    | zero => intro I73 J74 p_75 hn; exact gz_m 15 (by omega)
    | succ n ih145 =>
      intro I73 J74 p_75 hn hI73 FI73 FJ74 KLK_I73 m_75 e4_75 e6_75 e7_75 e8_75
      obtain ⟨e0_75, e1_75, e2_75, e3_75, e5_75, e9_75, e10_75, e11_75, e12_75, e13_75⟩ := m_75
      have f76 := (gr_b_0_71 hI73)
      have f77 := (gr_b_0_72 hI73)
      have f78 := (gr_b_0_73 hI73)
      have f79 := (gr_b_0_69 hI73)
      have f80 := (gr_b_0_59 hI73)
      have f81 := (gr_b_0_6 hI73)
      have f82 := (gr_b_0_118 hI73)
      have f83 := (gr_b_0_119 hI73)
      have f84 := (gr_b_0_74 hI73)
      have f85 := (gr_b_0_106 hI73)
      have t86 := gr_ATp_l e6_75
      have f87 := (gr_b_0_71 hI73)
      refine gv_run 3 true hD (pc' := 150) (lv' := [(0, .inr (.inr (some 0)))]) (st' := [.inl 1, .inl (I73 0 71)]) (h' := gr_h I73 J74) (C := (((True ∧ True) ∧ True) ∧ True)) rfl ⟨⟨⟨trivial, trivial⟩, trivial⟩, trivial⟩ ?_
      refine gv_icmp_ne (t := 162) hD rfl rfl ⟨⟨by exact gz_m 16 (by omega), by exact gz_m 17 (by omega)⟩, ⟨by exact gz_m 18 (by omega), by exact gz_m 19 (by omega)⟩⟩ (fun c88 => ?_) (fun c88 => ?_)
      · have t89 := gr_ATp_ne e6_75 (c := 1) (by exact gz_m 20 (by omega)) (by exact gz_m 21 (by omega))
        refine gv_run 2 true hD (pc' := 165) (lv' := [(0, .inr (.inr (some 0)))]) (st' := [.inl 93, .inr (.inr (some 0))]) (h' := gr_h I73 J74) (C := ((True ∧ True) ∧ True)) rfl ⟨⟨trivial, trivial⟩, trivial⟩ ?_
        obtain ⟨r90, h90, E90, P90⟩ := r_need_p (ws0 := ws0) (tb := tb) hws htb ext β N9 p_75 I73 J74 hI73 93 ⟨by exact gz_m 22 (by omega), by exact gz_m 23 (by omega)⟩ (gr_ATp_rr e6_75).1 (gr_ATp_rr e6_75).2.1 (gr_ATp_rr e6_75).2.2.1 (gr_ATp_rr e6_75).2.2.2.1 (gr_ATp_rr e6_75).2.2.2.2 e6_75 (by exact gz_m 24 (by omega))
        obtain ⟨I91, J92, rfl, hI91, g90, k90, ⟨z90, rfl, q90⟩⟩ := P90
        have FI91 := gr_frt FI73 g90 rfl rfl
        have FJ92 := gr_fjt FJ74 k90 rfl rfl
        have t93 := g90 0 69 rfl
        have t94 := g90 0 59 rfl
        have t95 := g90 0 6 rfl
        have t96 := g90 0 118 rfl
        have t97 := g90 0 119 rfl
        have t98 := g90 0 106 rfl
        have f99 := (gr_b_0_71 hI91)
        have f100 := (gr_b_0_72 hI91)
        have f101 := (gr_b_0_73 hI91)
        have f102 := (gr_b_0_69 hI91)
        have f103 := (gr_b_0_59 hI91)
        have f104 := (gr_b_0_6 hI91)
        have f105 := (gr_b_0_118 hI91)
        have f106 := (gr_b_0_119 hI91)
        have f107 := (gr_b_0_74 hI91)
        have f108 := (gr_b_0_106 hI91)
        have KLK_I91 := gr_LKs_fr KLK_I73 (fun k => g90 51 k rfl) (g90 0 59 rfl)
        refine gv_callV hD rfl (As := [.inl 93]) (st := []) rfl (by decide) rfl rfl (gr_lV hws rfl) (Nat.le_of_ble_eq_true rfl) (gz_Ev_mono (d := 11) (by decide) E90) ?_
        show gv_X _ _ (168, [(0, .inr (.inr (some 0)))], [.inl z90], gr_sh ++ ext, gr_h I91 J92)
        refine gv_if_ne (t := 173) hD rfl rfl ⟨by exact gz_m 25 (by omega), by exact gz_m 26 (by omega)⟩ (fun c109 => ?_) (fun c109 => ?_)
        · obtain ⟨u110, A110⟩ := gs_or1 q90.2.2.2.2.2.2.2.2.2.2.2 (by exact gz_m 27 (by omega))
          have t111 := gr_ATp_l A110
          have t112 := (q90.2.2.2.2.2.2.2.2.2.2.1).resolve_left (by exact gz_m 28 (by omega))
          obtain ⟨_, _, -, _, -, -, _, _, _, _, -, -⟩ := q90
          have t113 := (gr_ATp_rr e6_75).2.2.1.resolve_left (by exact gz_m 29 (by omega))
          exact L173 I91 J92 (gs_need β N9 93 p_75) hI91 FI91 FJ92 KLK_I91 (by exact gz_m 30 (by omega)) (gr_R1u_fr e4_75 (fun k => g90 68 k rfl) (fun k => g90 74 k rfl) (fun k => g90 6 k rfl) (fun k => g90 70 k rfl) (fun k => g90 71 k rfl) (g90 0 118 rfl) (g90 0 119 rfl)) A110 (by obtain ⟨m, hm, em⟩ := e7_75; obtain ⟨m, rfl⟩ : ∃ n, m = n + 1 := ⟨m - 1, by exact gz_m 31 (by omega)⟩; exact em.trans (by rw [gs_ws_e (by exact gz_m 32 (by omega)), gs_it4_e (by exact gz_m 33 (by omega))])) (gs_Uiv_fr e8_75 (g90 0 118 rfl) (fun j => (g90 74 j rfl)) (fun j => (g90 68 j rfl)))
        · obtain ⟨u114, u114_⟩ := gs_or0 q90.2.2.2.2.2.2.2.2.2.2.2 (by exact gz_m 34 (by omega))
          refine gv_run 1 true hD (pc' := 172) (lv' := [(0, .inr (.inr (some 0)))]) (st' := [.inl 0]) (h' := gr_h I91 J92) (C := (True ∧ True)) rfl ⟨trivial, trivial⟩ ?_
          have b115 : (I91 0 71 = 5 ∨ I91 0 73 ≤ I91 0 69) ∧ (I91 0 72 ≤ I91 0 69) ∧ (I91 0 71 = 0 ∨ (I91 0 72 < I91 0 73 ∧ I91 0 72 < I91 0 69)) ∧ (I91 0 71 = 3 → 2 ≤ I91 0 73 - I91 0 72 ∧ I91 0 73 - I91 0 72 ≤ 14) ∧ (I91 0 72 ≤ I91 0 73) ∧ (I91 0 69 = I 0 69) ∧ (I 0 73 ≤ I91 0 73) ∧ (I 0 72 ≤ I91 0 72) ∧ (I91 0 59 - I91 0 72 ≤ I 0 59 - I 0 72) ∧ ((0 : Int) = 0 ∨ I 0 72 < I91 0 72) := by exact gz_m 35 (by omega)
          exact gv_zret hD rfl (by exact gz_m 36 (by omega)) ⟨I91, J92, rfl, hI91, FI91, FJ92, ⟨_, rfl, by exact gz_m 37 (by omega), by exact gz_m 38 (by omega), b115.1, b115.2.1, b115.2.2.1, b115.2.2.2.1, b115.2.2.2.2.1, b115.2.2.2.2.2.1, b115.2.2.2.2.2.2.1, b115.2.2.2.2.2.2.2.1, b115.2.2.2.2.2.2.2.2.1, b115.2.2.2.2.2.2.2.2.2, (gr_o_a (by exact gz_m 39 (by omega))), KLK_I91, (Or.inr ⟨by exact gz_m 40 (by omega), by obtain ⟨m, hm, em⟩ := e7_75; obtain ⟨m, rfl⟩ : ∃ n, m = n + 1 := ⟨m - 1, by exact gz_m 41 (by omega)⟩; rw [em, gs_ws_e (by exact gz_m 42 (by omega)), gs_it4_e (by exact gz_m 43 (by omega))]; exact ⟨by exact gz_m 44 (by omega), by exact gz_m 45 (by omega)⟩⟩)⟩⟩
      · have t116 := (gr_ATp_k e6_75 (c := 1) (by exact gz_m 46 (by omega))).mp (by exact gz_m 47 (by omega))
        have t117 := (gr_ATp_rr e6_75).2.2.1.resolve_left (by exact gz_m 48 (by omega))
        refine gv_run 1 true hD (pc' := 154) (lv' := [(0, .inr (.inr (some 0)))]) (st' := [.inr (.inr (some 0))]) (h' := gr_h I73 J74) (C := (True ∧ True)) rfl ⟨trivial, trivial⟩ ?_
        obtain ⟨r118, h118, E118, P118⟩ := r_oneValue_p (ws0 := ws0) (tb := tb) hws htb ext β N9 p_75 I73 J74 hI73   (gr_ATp_rr e6_75).1 (gr_ATp_rr e6_75).2.1 (gr_ATp_rr e6_75).2.2.1 (gr_ATp_rr e6_75).2.2.2.1 (gr_ATp_rr e6_75).2.2.2.2 (by exact gz_m 49 (by omega)) (by exact gz_m 50 (by omega)) e6_75 (by exact gz_m 51 (by omega))
        obtain ⟨I119, J120, rfl, hI119, g118, k118, ⟨z118, rfl, q118⟩⟩ := P118
        have FI119 := gr_frt FI73 g118 rfl rfl
        have FJ120 := gr_fjt FJ74 k118 rfl rfl
        have t121 := g118 0 69 rfl
        have t122 := g118 0 59 rfl
        have t123 := g118 0 6 rfl
        have t124 := g118 0 118 rfl
        have t125 := g118 0 119 rfl
        have f126 := (gr_b_0_71 hI119)
        have f127 := (gr_b_0_72 hI119)
        have f128 := (gr_b_0_73 hI119)
        have f129 := (gr_b_0_69 hI119)
        have f130 := (gr_b_0_59 hI119)
        have f131 := (gr_b_0_6 hI119)
        have f132 := (gr_b_0_118 hI119)
        have f133 := (gr_b_0_119 hI119)
        have f134 := (gr_b_0_74 hI119)
        have f135 := (gr_b_0_106 hI119)
        have KLK_I119 := gr_LKs_fr KLK_I73 (fun k => g118 51 k rfl) (g118 0 59 rfl)
        refine gv_callV hD rfl (As := []) (st := []) rfl (by decide) rfl rfl (gr_lV hws rfl) (Nat.le_of_ble_eq_true rfl) (gz_Ev_mono (d := 11) (by decide) E118) ?_
        show gv_X _ _ (157, [(0, .inr (.inr (some 0)))], [.inl z118], gr_sh ++ ext, gr_h I119 J120)
        refine gv_if_ne (t := 145) hD rfl rfl ⟨by exact gz_m 52 (by omega), by exact gz_m 53 (by omega)⟩ (fun c136 => ?_) (fun c136 => ?_)
        · have Q137 := q118.2.2.2.2.2.2.2.2.2.2.2
          rw [(gs_ov_eq (FI73 0 6 rfl) (fun k => (FI73 14 k rfl)) (fun k => (FI73 24 k rfl)) (fun k => (FI73 25 k rfl)) (fun k => (FJ74 21 k rfl))).1, (gs_ov_eq (FI73 0 6 rfl) (fun k => (FI73 14 k rfl)) (fun k => (FI73 24 k rfl)) (fun k => (FI73 25 k rfl)) (fun k => (FJ74 21 k rfl))).2] at Q137
          obtain ⟨u137, A137, U137⟩ := gs_or1 Q137 (by exact gz_m 54 (by omega))
          have t138 := gr_ATp_l A137
          have t139 := (q118.2.2.2.2.2.2.2.2.2.2.1).resolve_left (by exact gz_m 55 (by omega))
          obtain ⟨_, _, -, _, -, -, _, _, _, _, -, -⟩ := q118
          exact ih145 I119 J120 ((gs_ov β N9 I J (I73 0 106) p_75)) (by exact gz_m 56 (by omega)) hI119 FI119 FJ120 KLK_I119 (by exact gz_m 57 (by omega)) (gr_R1u_fr e4_75 (fun k => g118 68 k rfl) (fun k => g118 74 k rfl) (fun k => g118 6 k rfl) (fun k => g118 70 k rfl) (fun k => g118 71 k rfl) (g118 0 118 rfl) (g118 0 119 rfl)) A137 (by obtain ⟨m, hm, em⟩ := e7_75; obtain ⟨m, rfl⟩ : ∃ n, m = n + 1 := ⟨m - 1, by exact gz_m 58 (by omega)⟩; exact ⟨m, by exact gz_m 59 (by omega), em.trans (by rw [gs_ws_s (by exact gz_m 60 (by omega)) (by exact gz_m 61 (by omega)), U137])⟩) (gs_Uiv_fr e8_75 (g118 0 118 rfl) (fun j => (g118 74 j rfl)) (fun j => (g118 68 j rfl)))
        · have Q140 := q118.2.2.2.2.2.2.2.2.2.2.2
          rw [(gs_ov_eq (FI73 0 6 rfl) (fun k => (FI73 14 k rfl)) (fun k => (FI73 24 k rfl)) (fun k => (FI73 25 k rfl)) (fun k => (FJ74 21 k rfl))).1, (gs_ov_eq (FI73 0 6 rfl) (fun k => (FI73 14 k rfl)) (fun k => (FI73 24 k rfl)) (fun k => (FI73 25 k rfl)) (fun k => (FJ74 21 k rfl))).2] at Q140
          obtain ⟨u140, u140_⟩ := gs_or0 Q140 (by exact gz_m 62 (by omega))
          refine gv_run 1 true hD (pc' := 161) (lv' := [(0, .inr (.inr (some 0)))]) (st' := [.inl 0]) (h' := gr_h I119 J120) (C := (True ∧ True)) rfl ⟨trivial, trivial⟩ ?_
          have b141 : (I119 0 71 = 5 ∨ I119 0 73 ≤ I119 0 69) ∧ (I119 0 72 ≤ I119 0 69) ∧ (I119 0 71 = 0 ∨ (I119 0 72 < I119 0 73 ∧ I119 0 72 < I119 0 69)) ∧ (I119 0 71 = 3 → 2 ≤ I119 0 73 - I119 0 72 ∧ I119 0 73 - I119 0 72 ≤ 14) ∧ (I119 0 72 ≤ I119 0 73) ∧ (I119 0 69 = I 0 69) ∧ (I 0 73 ≤ I119 0 73) ∧ (I 0 72 ≤ I119 0 72) ∧ (I119 0 59 - I119 0 72 ≤ I 0 59 - I 0 72) ∧ ((0 : Int) = 0 ∨ I 0 72 < I119 0 72) := by exact gz_m 63 (by omega)
          exact gv_zret hD rfl (by exact gz_m 64 (by omega)) ⟨I119, J120, rfl, hI119, FI119, FJ120, ⟨_, rfl, by exact gz_m 65 (by omega), by exact gz_m 66 (by omega), b141.1, b141.2.1, b141.2.2.1, b141.2.2.2.1, b141.2.2.2.2.1, b141.2.2.2.2.2.1, b141.2.2.2.2.2.2.1, b141.2.2.2.2.2.2.2.1, b141.2.2.2.2.2.2.2.2.1, b141.2.2.2.2.2.2.2.2.2, (gr_o_a (by exact gz_m 67 (by omega))), KLK_I119, (Or.inr ⟨by exact gz_m 68 (by omega), by obtain ⟨m, hm, em⟩ := e7_75; obtain ⟨m, rfl⟩ : ∃ n, m = n + 1 := ⟨m - 1, by exact gz_m 69 (by omega)⟩; rw [em, gs_ws_x (by exact gz_m 70 (by omega)) (by exact gz_m 71 (by omega)), gs_it4_x (by exact gz_m 72 (by omega))]; exact ⟨by exact gz_m 73 (by omega), by exact gz_m 74 (by omega)⟩⟩)⟩⟩
  have f142 := (gr_b_0_118 hI)
  refine gv_run 3 true hD (pc' := 6) (lv' := [(0, .inr (.inr (some 0))), (1, .inl a1)]) (st' := [.inl 6, .inl (I 0 118)]) (h' := gr_h I J) (C := (((True ∧ True) ∧ True) ∧ True)) rfl ⟨⟨⟨trivial, trivial⟩, trivial⟩, trivial⟩ ?_
  refine gv_icmp_ne (t := 15) hD rfl rfl ⟨⟨by exact gz_m 75 (by omega), by exact gz_m 76 (by omega)⟩, ⟨by exact gz_m 77 (by omega), by exact gz_m 78 (by omega)⟩⟩ (fun c143 => ?_) (fun c143 => ?_)
  · refine gv_run 3 true hD (pc' := 20) (lv' := [(0, .inr (.inr (some 0))), (1, .inl a1)]) (st' := []) (h' := gz_up (gr_h I J) 0 106 (.inl 0)) (C := (((True ∧ True) ∧ True) ∧ True)) rfl ⟨⟨⟨trivial, trivial⟩, trivial⟩, trivial⟩ ?_
    refine gr_st hI FI rfl rfl ⟨⟨by show 0 ≤ _; exact gz_m 79 (by omega), by show _ ≤ 16777215; exact gz_m 80 (by omega)⟩, trivial⟩ (fun I144 hI144 FI144 q145 p145 => ?_)
    have t146 := p145 0 71 (by decide)
    have t147 := p145 0 72 (by decide)
    have t148 := p145 0 73 (by decide)
    have t149 := p145 0 69 (by decide)
    have t150 := p145 0 59 (by decide)
    have t151 := p145 0 6 (by decide)
    have t152 := p145 0 118 (by decide)
    have t153 := p145 0 119 (by decide)
    have t154 := p145 0 74 (by decide)
    have f155 := (gr_b_0_71 hI144)
    have f156 := (gr_b_0_72 hI144)
    have f157 := (gr_b_0_73 hI144)
    have f158 := (gr_b_0_69 hI144)
    have f159 := (gr_b_0_59 hI144)
    have f160 := (gr_b_0_6 hI144)
    have f161 := (gr_b_0_118 hI144)
    have f162 := (gr_b_0_119 hI144)
    have f163 := (gr_b_0_74 hI144)
    have f164 := (gr_b_0_106 hI144)
    have KLK_I144 := gr_LKs_fr KLK_I (fun k => p145 51 k (fun q => absurd q.1 (by decide))) (p145 0 59 (by decide))
    have A165 := gr_ATp_sf x9 p145 rfl
    have f166 := (gr_b_0_71 hI144)
    refine gv_run 3 true hD (pc' := 25) (lv' := [(0, .inr (.inr (some 0))), (1, .inl a1)]) (st' := [.inl 3, .inl (I144 0 71)]) (h' := gr_h I144 J) (C := (((True ∧ True) ∧ True) ∧ True)) rfl ⟨⟨⟨trivial, trivial⟩, trivial⟩, trivial⟩ ?_
    refine gv_icmp_ne (t := 61) hD rfl rfl ⟨⟨by exact gz_m 81 (by omega), by exact gz_m 82 (by omega)⟩, ⟨by exact gz_m 83 (by omega), by exact gz_m 84 (by omega)⟩⟩ (fun c167 => ?_) (fun c167 => ?_)
    · have t168 := gr_ATp_ne A165 (c := 3) (by exact gz_m 85 (by omega)) (by exact gz_m 86 (by omega))
      have t169 := (gr_ATp_n A165 (show gs_T β N9 p9 = 2 from (gr_ATp_k A165 (c := 2) (by exact gz_m 87 (by omega))).mp (by exact gz_m 88 (by omega))))
      have t170 := ((gr_ATp_k A165 (c := 2) (by exact gz_m 89 (by omega))).mp (show I144 0 71 = 2 by exact gz_m 90 (by omega)))
      have t171 := ((gr_ATp_rr A165).2.2.1.resolve_left (by exact gz_m 91 (by omega)))
      have f172 := (gr_b_0_74 hI144)
      refine gv_run 6 true hD (pc' := 69) (lv' := [(2, .inl ((I144 0 74) - 1)), (0, .inr (.inr (some 0))), (1, .inl a1)]) (st' := [.inl ((I144 0 74) - 1)]) (h' := gr_h I144 J) (C := ((((((True ∧ True) ∧ True) ∧ True) ∧ True) ∧ True) ∧ True)) rfl ⟨⟨⟨⟨⟨⟨trivial, trivial⟩, trivial⟩, trivial⟩, trivial⟩, trivial⟩, trivial⟩ ?_
      refine gv_if_lt (t := 91) hD rfl rfl ⟨by exact gz_m 92 (by omega), by exact gz_m 93 (by omega)⟩ (fun c173 => ?_) (fun c173 => ?_)
      · refine gv_run 2 true hD (pc' := 93) (lv' := [(2, .inl ((I144 0 74) - 1)), (0, .inr (.inr (some 0))), (1, .inl a1)]) (st' := [.inl 5, .inr (.inr (some 0))]) (h' := gr_h I144 J) (C := ((True ∧ True) ∧ True)) rfl ⟨⟨trivial, trivial⟩, trivial⟩ ?_
        obtain ⟨r174, h174, E174, P174⟩ := r_no__p (ws0 := ws0) (tb := tb) hws htb ext β N9 p9 I144 J hI144 5 ⟨by exact gz_m 94 (by omega), by exact gz_m 95 (by omega)⟩ A165 (by exact gz_m 96 (by omega))
        obtain ⟨I175, J176, rfl, hI175, g174, k174, ⟨z174, rfl, q174⟩⟩ := P174
        have FI175 := gr_frt FI144 g174 rfl rfl
        have FJ176 := gr_fjt FJ k174 rfl rfl
        have t177 := g174 0 71 rfl
        have t178 := g174 0 72 rfl
        have t179 := g174 0 73 rfl
        have t180 := g174 0 69 rfl
        have t181 := g174 0 59 rfl
        have t182 := g174 0 6 rfl
        have t183 := g174 0 118 rfl
        have t184 := g174 0 119 rfl
        have t185 := g174 0 74 rfl
        have t186 := g174 0 106 rfl
        have f187 := (gr_b_0_71 hI175)
        have f188 := (gr_b_0_72 hI175)
        have f189 := (gr_b_0_73 hI175)
        have f190 := (gr_b_0_69 hI175)
        have f191 := (gr_b_0_59 hI175)
        have f192 := (gr_b_0_6 hI175)
        have f193 := (gr_b_0_118 hI175)
        have f194 := (gr_b_0_119 hI175)
        have f195 := (gr_b_0_74 hI175)
        have f196 := (gr_b_0_106 hI175)
        have KLK_I175 := gr_LKs_fr KLK_I144 (fun k => g174 51 k rfl) (g174 0 59 rfl)
        have A197 := gr_ATp_F A165 g174 k174 rfl
        have t198 := gr_ATp_l A197
        refine gv_callV hD rfl (As := [.inl 5]) (st := []) rfl (by decide) rfl rfl (gr_lV hws rfl) (Nat.le_of_ble_eq_true rfl) (gz_Ev_mono (d := 2) (by decide) E174) ?_
        show gv_X _ _ (96, [(2, .inl ((I144 0 74) - 1)), (0, .inr (.inr (some 0))), (1, .inl a1)], [.inl z174], gr_sh ++ ext, gr_h I175 J176)
        have b199 : (I175 0 69 = I 0 69) ∧ (I 0 73 ≤ I175 0 73) ∧ (I 0 72 ≤ I175 0 72) ∧ (I175 0 59 - I175 0 72 ≤ I 0 59 - I 0 72) ∧ ((z174 : Int) = 0 ∨ I 0 72 < I175 0 72) := by exact gz_m 97 (by omega)
        exact gv_zret hD rfl (by exact gz_m 98 (by omega)) ⟨I175, J176, rfl, hI175, FI175, FJ176, ⟨_, rfl, by exact gz_m 99 (by omega), by exact gz_m 100 (by omega), (gr_ATp_rr A197).1, (gr_ATp_rr A197).2.1, (gr_ATp_rr A197).2.2.1, (gr_ATp_rr A197).2.2.2.1, (gr_ATp_rr A197).2.2.2.2, b199.1, b199.2.1, b199.2.2.1, b199.2.2.2.1, b199.2.2.2.2, (gr_o_a (by exact gz_m 101 (by omega))), KLK_I175, (Or.inr ⟨by exact gz_m 102 (by omega), by first | (exfalso; exact gz_m 103 (by omega)) | (unfold gs_it gs_it2 gs_it3; (repeat first | rw [if_pos (by exact gz_m 104 (by omega))] | rw [if_neg (by exact gz_m 105 (by omega))]); exact ⟨by exact gz_m 106 (by omega), by exact gz_m 107 (by omega)⟩)⟩)⟩⟩
      · have f200 := (gr_b_6 hI144 (Int.toNat a1))
        refine gv_run 5 true hD (pc' := 79) (lv' := [(2, .inl ((I144 0 74) - 1)), (0, .inr (.inr (some 0))), (1, .inl a1)]) (st' := [.inl (I144 6 (Int.toNat a1)), .inl ((I144 0 74) - 1)]) (h' := gr_h I144 J) (C := (((((True ∧ True) ∧ True) ∧ True) ∧ True) ∧ (0 ≤ a1 ∧ a1 < ((96 : Nat) : Int)))) rfl ⟨⟨⟨⟨⟨trivial, trivial⟩, trivial⟩, trivial⟩, trivial⟩, ⟨by exact gz_m 108 (by omega), by exact gz_m 109 (by omega)⟩⟩ ?_
        have t201 := (show I144 6 (Int.toNat a1) = I 6 (Int.toNat a1) from (FI144 6 (Int.toNat a1) rfl))
        refine gv_icmp_ge (t := 91) hD rfl rfl ⟨⟨by exact gz_m 110 (by omega), by exact gz_m 111 (by omega)⟩, ⟨by exact gz_m 112 (by omega), by exact gz_m 113 (by omega)⟩⟩ (fun c202 => ?_) (fun c202 => ?_)
        · refine gv_run 2 true hD (pc' := 93) (lv' := [(2, .inl ((I144 0 74) - 1)), (0, .inr (.inr (some 0))), (1, .inl a1)]) (st' := [.inl 5, .inr (.inr (some 0))]) (h' := gr_h I144 J) (C := ((True ∧ True) ∧ True)) rfl ⟨⟨trivial, trivial⟩, trivial⟩ ?_
          obtain ⟨r203, h203, E203, P203⟩ := r_no__p (ws0 := ws0) (tb := tb) hws htb ext β N9 p9 I144 J hI144 5 ⟨by exact gz_m 114 (by omega), by exact gz_m 115 (by omega)⟩ A165 (by exact gz_m 116 (by omega))
          obtain ⟨I204, J205, rfl, hI204, g203, k203, ⟨z203, rfl, q203⟩⟩ := P203
          have FI204 := gr_frt FI144 g203 rfl rfl
          have FJ205 := gr_fjt FJ k203 rfl rfl
          have t206 := g203 0 71 rfl
          have t207 := g203 0 72 rfl
          have t208 := g203 0 73 rfl
          have t209 := g203 0 69 rfl
          have t210 := g203 0 59 rfl
          have t211 := g203 0 6 rfl
          have t212 := g203 0 118 rfl
          have t213 := g203 0 119 rfl
          have t214 := g203 0 74 rfl
          have t215 := g203 0 106 rfl
          have f216 := (gr_b_0_71 hI204)
          have f217 := (gr_b_0_72 hI204)
          have f218 := (gr_b_0_73 hI204)
          have f219 := (gr_b_0_69 hI204)
          have f220 := (gr_b_0_59 hI204)
          have f221 := (gr_b_0_6 hI204)
          have f222 := (gr_b_0_118 hI204)
          have f223 := (gr_b_0_119 hI204)
          have f224 := (gr_b_0_74 hI204)
          have f225 := (gr_b_0_106 hI204)
          have KLK_I204 := gr_LKs_fr KLK_I144 (fun k => g203 51 k rfl) (g203 0 59 rfl)
          have A226 := gr_ATp_F A165 g203 k203 rfl
          have t227 := gr_ATp_l A226
          refine gv_callV hD rfl (As := [.inl 5]) (st := []) rfl (by decide) rfl rfl (gr_lV hws rfl) (Nat.le_of_ble_eq_true rfl) (gz_Ev_mono (d := 2) (by decide) E203) ?_
          show gv_X _ _ (96, [(2, .inl ((I144 0 74) - 1)), (0, .inr (.inr (some 0))), (1, .inl a1)], [.inl z203], gr_sh ++ ext, gr_h I204 J205)
          have b228 : (I204 0 69 = I 0 69) ∧ (I 0 73 ≤ I204 0 73) ∧ (I 0 72 ≤ I204 0 72) ∧ (I204 0 59 - I204 0 72 ≤ I 0 59 - I 0 72) ∧ ((z203 : Int) = 0 ∨ I 0 72 < I204 0 72) := by exact gz_m 117 (by omega)
          exact gv_zret hD rfl (by exact gz_m 118 (by omega)) ⟨I204, J205, rfl, hI204, FI204, FJ205, ⟨_, rfl, by exact gz_m 119 (by omega), by exact gz_m 120 (by omega), (gr_ATp_rr A226).1, (gr_ATp_rr A226).2.1, (gr_ATp_rr A226).2.2.1, (gr_ATp_rr A226).2.2.2.1, (gr_ATp_rr A226).2.2.2.2, b228.1, b228.2.1, b228.2.2.1, b228.2.2.2.1, b228.2.2.2.2, (gr_o_a (by exact gz_m 121 (by omega))), KLK_I204, (Or.inr ⟨by exact gz_m 122 (by omega), by first | (exfalso; exact gz_m 123 (by omega)) | (unfold gs_it gs_it2 gs_it3; (repeat first | rw [if_pos (by exact gz_m 124 (by omega))] | rw [if_neg (by exact gz_m 125 (by omega))]); exact ⟨by exact gz_m 126 (by omega), by exact gz_m 127 (by omega)⟩)⟩)⟩⟩
        · have f229 := (gr_b_74 hI144 (Int.toNat (((I144 0 74) - 1))))
          refine gv_run 4 true hD (pc' := 88) (lv' := [(2, .inl ((I144 0 74) - 1)), (0, .inr (.inr (some 0))), (1, .inl a1)]) (st' := [.inl (I144 74 (Int.toNat (((I144 0 74) - 1))))]) (h' := gr_h I144 J) (C := ((((True ∧ True) ∧ True) ∧ True) ∧ (0 ≤ (((I144 0 74) - 1)) ∧ (((I144 0 74) - 1)) < ((4 : Nat) : Int)))) rfl ⟨⟨⟨⟨trivial, trivial⟩, trivial⟩, trivial⟩, ⟨by exact gz_m 128 (by omega), by exact gz_m 129 (by omega)⟩⟩ ?_
          have t230 := (show gs_a4 (I 74) (Int.toNat (gs_V β N9 p9 - 1)) = I144 74 (Int.toNat (((I144 0 74) - 1))) from by rw [show gs_V β N9 p9 - 1 = (((I144 0 74) - 1)) from by exact gz_m 130 (by omega)]; exact (gs_a4_i (by exact gz_m 131 (by omega))).trans ((p145 74 _ (fun q => absurd q.1 (by decide)))).symm)
          refine gv_if_lt (t := 97) hD rfl rfl ⟨by exact gz_m 132 (by omega), by exact gz_m 133 (by omega)⟩ (fun c231 => ?_) (fun c231 => ?_)
          · have f232 := (gr_b_0_72 hI144)
            refine gv_run 5 true hD (pc' := 106) (lv' := [(2, .inl ((I144 0 74) - 1)), (0, .inr (.inr (some 0))), (1, .inl a1)]) (st' := [.inl (I144 0 72), .inl ((I144 0 74) - 1), .inr (.inr (some 74))]) (h' := gr_h I144 J) (C := (((((True ∧ True) ∧ True) ∧ True) ∧ True) ∧ True)) rfl ⟨⟨⟨⟨⟨trivial, trivial⟩, trivial⟩, trivial⟩, trivial⟩, trivial⟩ ?_
            refine gv_run 1 true hD (pc' := 107) (lv' := [(2, .inl ((I144 0 74) - 1)), (0, .inr (.inr (some 0))), (1, .inl a1)]) (st' := []) (h' := gz_up (gr_h I144 J) 74 (Int.toNat (((I144 0 74) - 1))) (.inl (I144 0 72))) (C := (True ∧ (0 ≤ (((I144 0 74) - 1)) ∧ (((I144 0 74) - 1)) < ((4 : Nat) : Int)))) rfl ⟨trivial, ⟨by exact gz_m 134 (by omega), by exact gz_m 135 (by omega)⟩⟩ ?_
            refine gr_st hI144 FI144 rfl rfl ⟨⟨by show (-1) ≤ _; exact gz_m 136 (by omega), by show _ ≤ 1000; exact gz_m 137 (by omega)⟩, trivial⟩ (fun I233 hI233 FI233 q234 p234 => ?_)
            have t235 := p234 0 71 (fun q => absurd q.1 (by decide))
            have t236 := p234 0 72 (fun q => absurd q.1 (by decide))
            have t237 := p234 0 73 (fun q => absurd q.1 (by decide))
            have t238 := p234 0 69 (fun q => absurd q.1 (by decide))
            have t239 := p234 0 59 (fun q => absurd q.1 (by decide))
            have t240 := p234 0 6 (fun q => absurd q.1 (by decide))
            have t241 := p234 0 118 (fun q => absurd q.1 (by decide))
            have t242 := p234 0 119 (fun q => absurd q.1 (by decide))
            have t243 := p234 0 74 (fun q => absurd q.1 (by decide))
            have t244 := p234 0 106 (fun q => absurd q.1 (by decide))
            have f245 := (gr_b_0_71 hI233)
            have f246 := (gr_b_0_72 hI233)
            have f247 := (gr_b_0_73 hI233)
            have f248 := (gr_b_0_69 hI233)
            have f249 := (gr_b_0_59 hI233)
            have f250 := (gr_b_0_6 hI233)
            have f251 := (gr_b_0_118 hI233)
            have f252 := (gr_b_0_119 hI233)
            have f253 := (gr_b_0_74 hI233)
            have f254 := (gr_b_0_106 hI233)
            have KLK_I233 := gr_LKs_fr KLK_I144 (fun k => p234 51 k (fun q => absurd q.1 (by decide))) (p234 0 59 (fun q => absurd q.1 (by decide)))
            have A255 := gr_ATp_sr A165 p234 rfl
            have f256 := (gr_b_0_118 hI233)
            refine gv_run 7 true hD (pc' := 118) (lv' := [(2, .inl ((I144 0 74) - 1)), (0, .inr (.inr (some 0))), (1, .inl a1)]) (st' := [.inl ((-1) - ((I144 0 74) - 1)), .inl (I233 0 118), .inr (.inr (some 68))]) (h' := gr_h I233 J) (C := (((((((True ∧ True) ∧ True) ∧ True) ∧ True) ∧ True) ∧ True) ∧ True)) rfl ⟨⟨⟨⟨⟨⟨⟨trivial, trivial⟩, trivial⟩, trivial⟩, trivial⟩, trivial⟩, trivial⟩, trivial⟩ ?_
            refine gv_run 1 true hD (pc' := 119) (lv' := [(2, .inl ((I144 0 74) - 1)), (0, .inr (.inr (some 0))), (1, .inl a1)]) (st' := []) (h' := gz_up (gr_h I233 J) 68 (Int.toNat ((I233 0 118))) (.inl (((-1) - ((I144 0 74) - 1))))) (C := (True ∧ (0 ≤ (I233 0 118) ∧ (I233 0 118) < ((6 : Nat) : Int)))) rfl ⟨trivial, ⟨by exact gz_m 138 (by omega), by exact gz_m 139 (by omega)⟩⟩ ?_
            refine gr_st hI233 FI233 rfl rfl ⟨⟨by show (-4) ≤ _; exact gz_m 140 (by omega), by show _ ≤ 32015; exact gz_m 141 (by omega)⟩, trivial⟩ (fun I257 hI257 FI257 q258 p258 => ?_)
            have t259 := p258 0 71 (fun q => absurd q.1 (by decide))
            have t260 := p258 0 72 (fun q => absurd q.1 (by decide))
            have t261 := p258 0 73 (fun q => absurd q.1 (by decide))
            have t262 := p258 0 69 (fun q => absurd q.1 (by decide))
            have t263 := p258 0 59 (fun q => absurd q.1 (by decide))
            have t264 := p258 0 6 (fun q => absurd q.1 (by decide))
            have t265 := p258 0 118 (fun q => absurd q.1 (by decide))
            have t266 := p258 0 119 (fun q => absurd q.1 (by decide))
            have t267 := p258 0 74 (fun q => absurd q.1 (by decide))
            have t268 := p258 0 106 (fun q => absurd q.1 (by decide))
            have f269 := (gr_b_0_71 hI257)
            have f270 := (gr_b_0_72 hI257)
            have f271 := (gr_b_0_73 hI257)
            have f272 := (gr_b_0_69 hI257)
            have f273 := (gr_b_0_59 hI257)
            have f274 := (gr_b_0_6 hI257)
            have f275 := (gr_b_0_118 hI257)
            have f276 := (gr_b_0_119 hI257)
            have f277 := (gr_b_0_74 hI257)
            have f278 := (gr_b_0_106 hI257)
            have KLK_I257 := gr_LKs_fr KLK_I233 (fun k => p258 51 k (fun q => absurd q.1 (by decide))) (p258 0 59 (fun q => absurd q.1 (by decide)))
            have A279 := gr_ATp_sr A255 p258 rfl
            refine gv_run 1 true hD (pc' := 120) (lv' := [(2, .inl ((I144 0 74) - 1)), (0, .inr (.inr (some 0))), (1, .inl a1)]) (st' := [.inr (.inr (some 0))]) (h' := gr_h I257 J) (C := (True ∧ True)) rfl ⟨trivial, trivial⟩ ?_
            obtain ⟨r280, h280, E280, P280⟩ := r_next_p (ws0 := ws0) (tb := tb) hws htb ext β N9 I257 J hI257   ((gr_ATp_rr A279).1.resolve_left (by exact gz_m 142 (by omega))) A279.1.1 A279.1.2
            obtain ⟨I281, J282, rfl, hI281, g280, k280, ⟨rfl, q280⟩⟩ := P280
            have FI281 := gr_frt FI257 g280 rfl rfl
            have FJ282 := gr_fjt FJ k280 rfl rfl
            have t283 := g280 0 69 rfl
            have t284 := g280 0 59 rfl
            have t285 := g280 0 6 rfl
            have t286 := g280 0 118 rfl
            have t287 := g280 0 119 rfl
            have t288 := g280 0 106 rfl
            have f289 := (gr_b_0_71 hI281)
            have f290 := (gr_b_0_72 hI281)
            have f291 := (gr_b_0_73 hI281)
            have f292 := (gr_b_0_69 hI281)
            have f293 := (gr_b_0_59 hI281)
            have f294 := (gr_b_0_6 hI281)
            have f295 := (gr_b_0_118 hI281)
            have f296 := (gr_b_0_119 hI281)
            have f297 := (gr_b_0_74 hI281)
            have f298 := (gr_b_0_106 hI281)
            have KLK_I281 := gr_LKs_fr KLK_I257 (fun k => g280 51 k rfl) (g280 0 59 rfl)
            have t299 := (gr_ATp_rr A279).2.2.1.resolve_left (by exact gz_m 143 (by omega))
            have A300 := gr_ATp_nx A279 q280.2.2.2.2.2
            have t301 := gr_ATp_l A300
            obtain ⟨_, _, -, -, -, -⟩ := q280
            refine gv_callV hD rfl (As := []) (st := []) rfl (by decide) rfl rfl (gr_lV hws rfl) (Nat.le_of_ble_eq_true rfl) (gz_Ev_mono (d := 10) (by decide) E280) ?_
            show gv_X _ _ (123, [(2, .inl ((I144 0 74) - 1)), (0, .inr (.inr (some 0))), (1, .inl a1)], [], gr_sh ++ ext, gr_h I281 J282)
            refine gv_run 2 true hD (pc' := 126) (lv' := [(2, .inl ((I144 0 74) - 1)), (0, .inr (.inr (some 0))), (1, .inl a1)]) (st' := [.inl 91, .inr (.inr (some 0))]) (h' := gr_h I281 J282) (C := ((True ∧ True) ∧ True)) rfl ⟨⟨trivial, trivial⟩, trivial⟩ ?_
            obtain ⟨r302, h302, E302, P302⟩ := r_sign_p (ws0 := ws0) (tb := tb) hws htb ext β N9 (gs_X β N9 p9) I281 J282 hI281 91 ⟨by exact gz_m 144 (by omega), by exact gz_m 145 (by omega)⟩ (fun h9 => by have g9 := (gr_ATp_rr A300).2.2.1; exact gz_m 146 (by omega)) A300 (by exact gz_m 147 (by omega))
            obtain ⟨rfl, ⟨z302, rfl, q302⟩⟩ := P302
            have V302 := gs_or_mk q302.2.2.2
            obtain ⟨_, _, o302, -⟩ := q302
            refine gv_callV hD rfl (As := [.inl 91]) (st := []) rfl (by decide) rfl rfl (gr_lV hws rfl) (Nat.le_of_ble_eq_true rfl) (gz_Ev_mono (d := 1) (by decide) E302) ?_
            show gv_X _ _ (129, [(2, .inl ((I144 0 74) - 1)), (0, .inr (.inr (some 0))), (1, .inl a1)], [.inl z302], gr_sh ++ ext, gr_h I281 J282)
            refine gv_if_eq (t := 173) hD rfl rfl ⟨by exact gz_m 148 (by omega), by exact gz_m 149 (by omega)⟩ (fun c303 => ?_) (fun c303 => ?_)
            · have u304 := gs_or0 V302 (by exact gz_m 150 (by omega))
              clear o302 V302
              refine gv_pick [1] rfl ?_
              exact L173 I281 J282 (gs_X β N9 p9) hI281 FI281 FJ282 KLK_I281 (by exact gz_m 151 (by omega)) (gr_R1u_fr (gr_R1_a (gr_R1_fr x8 (fun k => p145 68 k (fun q => absurd q.1 (by decide))) (fun k => p145 74 k (fun q => absurd q.1 (by decide))) (fun k => p145 6 k (fun q => absurd q.1 (by decide))) (fun k => p145 70 k (fun q => absurd q.1 (by decide))) (fun k => p145 71 k (fun q => absurd q.1 (by decide))) (p145 0 118 (by decide)) (p145 0 119 (by decide))) p234 (by exact gz_m 152 (by omega)) p258 (by exact gz_m 153 (by omega)) (by rw [q258]; exact gz_m 154 (by omega)) (by exact gz_m 155 (by omega)) (by exact gz_m 156 (by omega)) (by exact gz_m 157 (by omega)) (by exact gz_m 158 (by omega))) (fun k => g280 68 k rfl) (fun k => g280 74 k rfl) (fun k => g280 6 k rfl) (fun k => g280 70 k rfl) (fun k => g280 71 k rfl) (g280 0 118 rfl) (g280 0 119 rfl)) A300 (by unfold gs_it gs_it2 gs_it3; (repeat first | rw [if_pos (by exact gz_m 159 (by omega))] | rw [if_neg (by exact gz_m 160 (by omega))])) (gs_Uiv_fr (gs_Uiv_a ⟨(p145 0 118 (by decide)), fun j => ⟨(p145 74 j (fun q => absurd q.1 (by decide))), (p145 68 j (fun q => absurd q.1 (by decide)))⟩⟩ (by exact gz_m 161 (by omega)) (by exact gz_m 162 (by omega)) p234 (q234.trans (by exact gz_m 163 (by omega))) (by exact gz_m 164 (by omega)) p258 q258 (by exact gz_m 165 (by omega))) (g280 0 118 rfl) (fun j => (g280 74 j rfl)) (fun j => (g280 68 j rfl)))
            · have u305 := gs_or1 V302 (by exact gz_m 166 (by omega))
              have t306 := o302.resolve_left (by exact gz_m 167 (by omega))
              have t307 := (gr_ATp_rr A300).2.2.1.resolve_left (by exact gz_m 168 (by omega))
              clear o302 V302
              refine gv_run 1 true hD (pc' := 133) (lv' := [(2, .inl ((I144 0 74) - 1)), (0, .inr (.inr (some 0))), (1, .inl a1)]) (st' := [.inr (.inr (some 0))]) (h' := gr_h I281 J282) (C := (True ∧ True)) rfl ⟨trivial, trivial⟩ ?_
              obtain ⟨r308, h308, E308, P308⟩ := r_next_p (ws0 := ws0) (tb := tb) hws htb ext β N9 I281 J282 hI281   ((gr_ATp_rr A300).1.resolve_left (by exact gz_m 169 (by omega))) A300.1.1 A300.1.2
              obtain ⟨I309, J310, rfl, hI309, g308, k308, ⟨rfl, q308⟩⟩ := P308
              have FI309 := gr_frt FI281 g308 rfl rfl
              have FJ310 := gr_fjt FJ282 k308 rfl rfl
              have t311 := g308 0 69 rfl
              have t312 := g308 0 59 rfl
              have t313 := g308 0 6 rfl
              have t314 := g308 0 118 rfl
              have t315 := g308 0 119 rfl
              have t316 := g308 0 106 rfl
              have f317 := (gr_b_0_71 hI309)
              have f318 := (gr_b_0_72 hI309)
              have f319 := (gr_b_0_73 hI309)
              have f320 := (gr_b_0_69 hI309)
              have f321 := (gr_b_0_59 hI309)
              have f322 := (gr_b_0_6 hI309)
              have f323 := (gr_b_0_118 hI309)
              have f324 := (gr_b_0_119 hI309)
              have f325 := (gr_b_0_74 hI309)
              have f326 := (gr_b_0_106 hI309)
              have KLK_I309 := gr_LKs_fr KLK_I281 (fun k => g308 51 k rfl) (g308 0 59 rfl)
              have t327 := (gr_ATp_rr A300).2.2.1.resolve_left (by exact gz_m 170 (by omega))
              have A328 := gr_ATp_nx A300 q308.2.2.2.2.2
              have t329 := gr_ATp_l A328
              obtain ⟨_, _, -, -, -, -⟩ := q308
              refine gv_callV hD rfl (As := []) (st := []) rfl (by decide) rfl rfl (gr_lV hws rfl) (Nat.le_of_ble_eq_true rfl) (gz_Ev_mono (d := 10) (by decide) E308) ?_
              show gv_X _ _ (136, [(2, .inl ((I144 0 74) - 1)), (0, .inr (.inr (some 0))), (1, .inl a1)], [], gr_sh ++ ext, gr_h I309 J310)
              refine gv_run 1 true hD (pc' := 137) (lv' := [(2, .inl ((I144 0 74) - 1)), (0, .inr (.inr (some 0))), (1, .inl a1)]) (st' := [.inr (.inr (some 0))]) (h' := gr_h I309 J310) (C := (True ∧ True)) rfl ⟨trivial, trivial⟩ ?_
              obtain ⟨r330, h330, E330, P330⟩ := r_name_p (ws0 := ws0) (tb := tb) hws htb ext β N9 ((gs_X β N9 (gs_X β N9 p9))) I309 J310 hI309   A328 (by exact gz_m 171 (by omega))
              obtain ⟨I331, J332, rfl, hI331, g330, k330, ⟨z330, rfl, q330⟩⟩ := P330
              have FI331 := gr_frt FI309 g330 rfl rfl
              have FJ332 := gr_fjt FJ310 k330 rfl rfl
              have t333 := g330 0 71 rfl
              have t334 := g330 0 72 rfl
              have t335 := g330 0 73 rfl
              have t336 := g330 0 69 rfl
              have t337 := g330 0 59 rfl
              have t338 := g330 0 6 rfl
              have t339 := g330 0 118 rfl
              have t340 := g330 0 119 rfl
              have t341 := g330 0 74 rfl
              have t342 := g330 0 106 rfl
              have f343 := (gr_b_0_71 hI331)
              have f344 := (gr_b_0_72 hI331)
              have f345 := (gr_b_0_73 hI331)
              have f346 := (gr_b_0_69 hI331)
              have f347 := (gr_b_0_59 hI331)
              have f348 := (gr_b_0_6 hI331)
              have f349 := (gr_b_0_118 hI331)
              have f350 := (gr_b_0_119 hI331)
              have f351 := (gr_b_0_74 hI331)
              have f352 := (gr_b_0_106 hI331)
              have KLK_I331 := gr_LKs_fr KLK_I309 (fun k => g330 51 k rfl) (g330 0 59 rfl)
              have V330 := gs_or_mk q330.2.2.2
              have A353 := gr_ATp_F A328 g330 k330 rfl
              have t354 := gr_ATp_l A353
              obtain ⟨_, _, o330, -⟩ := q330
              refine gv_callV hD rfl (As := []) (st := []) rfl (by decide) rfl rfl (gr_lV hws rfl) (Nat.le_of_ble_eq_true rfl) (gz_Ev_mono (d := 3) (by decide) E330) ?_
              show gv_X _ _ (140, [(2, .inl ((I144 0 74) - 1)), (0, .inr (.inr (some 0))), (1, .inl a1)], [.inl z330], gr_sh ++ ext, gr_h I331 J332)
              refine gv_if_ne (t := 145) hD rfl rfl ⟨by exact gz_m 172 (by omega), by exact gz_m 173 (by omega)⟩ (fun c355 => ?_) (fun c355 => ?_)
              · have u356 := gs_or1 V330 (by exact gz_m 174 (by omega))
                have t357 := o330.resolve_left (by exact gz_m 175 (by omega))
                have t358 := (gr_ATp_rr A353).2.2.1.resolve_left (by exact gz_m 176 (by omega))
                clear o330 V330
                refine gv_pick [1] rfl ?_
                exact L145 _ I331 J332 ((gs_X β N9 (gs_X β N9 p9))) (Nat.lt_succ_self _) hI331 FI331 FJ332 KLK_I331 (by exact gz_m 177 (by omega)) (gr_R1u_fr (gr_R1u_fr (gr_R1u_fr (gr_R1_a (gr_R1_fr x8 (fun k => p145 68 k (fun q => absurd q.1 (by decide))) (fun k => p145 74 k (fun q => absurd q.1 (by decide))) (fun k => p145 6 k (fun q => absurd q.1 (by decide))) (fun k => p145 70 k (fun q => absurd q.1 (by decide))) (fun k => p145 71 k (fun q => absurd q.1 (by decide))) (p145 0 118 (by decide)) (p145 0 119 (by decide))) p234 (by exact gz_m 178 (by omega)) p258 (by exact gz_m 179 (by omega)) (by rw [q258]; exact gz_m 180 (by omega)) (by exact gz_m 181 (by omega)) (by exact gz_m 182 (by omega)) (by exact gz_m 183 (by omega)) (by exact gz_m 184 (by omega))) (fun k => g280 68 k rfl) (fun k => g280 74 k rfl) (fun k => g280 6 k rfl) (fun k => g280 70 k rfl) (fun k => g280 71 k rfl) (g280 0 118 rfl) (g280 0 119 rfl)) (fun k => g308 68 k rfl) (fun k => g308 74 k rfl) (fun k => g308 6 k rfl) (fun k => g308 70 k rfl) (fun k => g308 71 k rfl) (g308 0 118 rfl) (g308 0 119 rfl)) (fun k => g330 68 k rfl) (fun k => g330 74 k rfl) (fun k => g330 6 k rfl) (fun k => g330 70 k rfl) (fun k => g330 71 k rfl) (g330 0 118 rfl) (g330 0 119 rfl)) A353 ⟨1002, by exact gz_m 185 (by omega), (by unfold gs_it gs_it2 gs_it3; (repeat first | rw [if_pos (by exact gz_m 186 (by omega))] | rw [if_neg (by exact gz_m 187 (by omega))]); rw [show I331 0 106 = 0 from by exact gz_m 188 (by omega)])⟩ (gs_Uiv_fr (gs_Uiv_a ⟨(p145 0 118 (by decide)), fun j => ⟨(p145 74 j (fun q => absurd q.1 (by decide))), (p145 68 j (fun q => absurd q.1 (by decide)))⟩⟩ (by exact gz_m 189 (by omega)) (by exact gz_m 190 (by omega)) p234 (q234.trans (by exact gz_m 191 (by omega))) (by exact gz_m 192 (by omega)) p258 q258 (by exact gz_m 193 (by omega))) (((g330 0 118 rfl).trans (g308 0 118 rfl)).trans (g280 0 118 rfl)) (fun j => (((g330 74 j rfl).trans (g308 74 j rfl)).trans (g280 74 j rfl))) (fun j => (((g330 68 j rfl).trans (g308 68 j rfl)).trans (g280 68 j rfl))))
              · have u359 := gs_or0 V330 (by exact gz_m 194 (by omega))
                clear o330 V330
                refine gv_run 1 true hD (pc' := 144) (lv' := [(2, .inl ((I144 0 74) - 1)), (0, .inr (.inr (some 0))), (1, .inl a1)]) (st' := [.inl 0]) (h' := gr_h I331 J332) (C := (True ∧ True)) rfl ⟨trivial, trivial⟩ ?_
                have b360 : (I331 0 69 = I 0 69) ∧ (I 0 73 ≤ I331 0 73) ∧ (I 0 72 ≤ I331 0 72) ∧ (I331 0 59 - I331 0 72 ≤ I 0 59 - I 0 72) ∧ ((0 : Int) = 0 ∨ I 0 72 < I331 0 72) := by exact gz_m 195 (by omega)
                exact gv_zret hD rfl (by exact gz_m 196 (by omega)) ⟨I331, J332, rfl, hI331, FI331, FJ332, ⟨_, rfl, by exact gz_m 197 (by omega), by exact gz_m 198 (by omega), (gr_ATp_rr A353).1, (gr_ATp_rr A353).2.1, (gr_ATp_rr A353).2.2.1, (gr_ATp_rr A353).2.2.2.1, (gr_ATp_rr A353).2.2.2.2, b360.1, b360.2.1, b360.2.2.1, b360.2.2.2.1, b360.2.2.2.2, (gr_o_a (by exact gz_m 199 (by omega))), KLK_I331, (Or.inr ⟨by exact gz_m 200 (by omega), by first | (exfalso; exact gz_m 201 (by omega)) | (unfold gs_it gs_it2 gs_it3; (repeat first | rw [if_pos (by exact gz_m 202 (by omega))] | rw [if_neg (by exact gz_m 203 (by omega))]); exact ⟨by exact gz_m 204 (by omega), by exact gz_m 205 (by omega)⟩)⟩)⟩⟩
          · refine gv_run 2 true hD (pc' := 93) (lv' := [(2, .inl ((I144 0 74) - 1)), (0, .inr (.inr (some 0))), (1, .inl a1)]) (st' := [.inl 5, .inr (.inr (some 0))]) (h' := gr_h I144 J) (C := ((True ∧ True) ∧ True)) rfl ⟨⟨trivial, trivial⟩, trivial⟩ ?_
            obtain ⟨r361, h361, E361, P361⟩ := r_no__p (ws0 := ws0) (tb := tb) hws htb ext β N9 p9 I144 J hI144 5 ⟨by exact gz_m 206 (by omega), by exact gz_m 207 (by omega)⟩ A165 (by exact gz_m 208 (by omega))
            obtain ⟨I362, J363, rfl, hI362, g361, k361, ⟨z361, rfl, q361⟩⟩ := P361
            have FI362 := gr_frt FI144 g361 rfl rfl
            have FJ363 := gr_fjt FJ k361 rfl rfl
            have t364 := g361 0 71 rfl
            have t365 := g361 0 72 rfl
            have t366 := g361 0 73 rfl
            have t367 := g361 0 69 rfl
            have t368 := g361 0 59 rfl
            have t369 := g361 0 6 rfl
            have t370 := g361 0 118 rfl
            have t371 := g361 0 119 rfl
            have t372 := g361 0 74 rfl
            have t373 := g361 0 106 rfl
            have f374 := (gr_b_0_71 hI362)
            have f375 := (gr_b_0_72 hI362)
            have f376 := (gr_b_0_73 hI362)
            have f377 := (gr_b_0_69 hI362)
            have f378 := (gr_b_0_59 hI362)
            have f379 := (gr_b_0_6 hI362)
            have f380 := (gr_b_0_118 hI362)
            have f381 := (gr_b_0_119 hI362)
            have f382 := (gr_b_0_74 hI362)
            have f383 := (gr_b_0_106 hI362)
            have KLK_I362 := gr_LKs_fr KLK_I144 (fun k => g361 51 k rfl) (g361 0 59 rfl)
            have A384 := gr_ATp_F A165 g361 k361 rfl
            have t385 := gr_ATp_l A384
            refine gv_callV hD rfl (As := [.inl 5]) (st := []) rfl (by decide) rfl rfl (gr_lV hws rfl) (Nat.le_of_ble_eq_true rfl) (gz_Ev_mono (d := 2) (by decide) E361) ?_
            show gv_X _ _ (96, [(2, .inl ((I144 0 74) - 1)), (0, .inr (.inr (some 0))), (1, .inl a1)], [.inl z361], gr_sh ++ ext, gr_h I362 J363)
            have b386 : (I362 0 69 = I 0 69) ∧ (I 0 73 ≤ I362 0 73) ∧ (I 0 72 ≤ I362 0 72) ∧ (I362 0 59 - I362 0 72 ≤ I 0 59 - I 0 72) ∧ ((z361 : Int) = 0 ∨ I 0 72 < I362 0 72) := by exact gz_m 209 (by omega)
            exact gv_zret hD rfl (by exact gz_m 210 (by omega)) ⟨I362, J363, rfl, hI362, FI362, FJ363, ⟨_, rfl, by exact gz_m 211 (by omega), by exact gz_m 212 (by omega), (gr_ATp_rr A384).1, (gr_ATp_rr A384).2.1, (gr_ATp_rr A384).2.2.1, (gr_ATp_rr A384).2.2.2.1, (gr_ATp_rr A384).2.2.2.2, b386.1, b386.2.1, b386.2.2.1, b386.2.2.2.1, b386.2.2.2.2, (gr_o_a (by exact gz_m 213 (by omega))), KLK_I362, (Or.inr ⟨by exact gz_m 214 (by omega), by first | (exfalso; exact gz_m 215 (by omega)) | (unfold gs_it gs_it2 gs_it3; (repeat first | rw [if_pos (by exact gz_m 216 (by omega))] | rw [if_neg (by exact gz_m 217 (by omega))]); exact ⟨by exact gz_m 218 (by omega), by exact gz_m 219 (by omega)⟩)⟩)⟩⟩
    · have t387 := (gr_ATp_k A165 (c := 3) (by exact gz_m 220 (by omega))).mp (by exact gz_m 221 (by omega))
      have t388 := (gr_ATp_rr A165).2.2.1.resolve_left (by exact gz_m 222 (by omega))
      have t389 := (gr_ATp_rr A165).2.2.2.1 (by exact gz_m 223 (by omega))
      refine gv_run 1 true hD (pc' := 29) (lv' := [(0, .inr (.inr (some 0))), (1, .inl a1)]) (st' := [.inr (.inr (some 0))]) (h' := gr_h I144 J) (C := (True ∧ True)) rfl ⟨trivial, trivial⟩ ?_
      obtain ⟨r390, h390, E390, P390⟩ := r_size (ws0 := ws0) (tb := tb) hws htb ext I144 J hI144   
      obtain ⟨rfl, ⟨z390, rfl, q390⟩⟩ := P390
      refine gv_callV hD rfl (As := []) (st := []) rfl (by decide) rfl rfl (gr_lV hws rfl) (Nat.le_of_ble_eq_true rfl) (gz_Ev_mono (d := 1) (by decide) E390) ?_
      show gv_X _ _ (32, [(0, .inr (.inr (some 0))), (1, .inl a1)], [.inl z390], gr_sh ++ ext, gr_h I144 J)
      refine gv_if_ne (t := 41) hD rfl rfl ⟨by exact gz_m 224 (by omega), by exact gz_m 225 (by omega)⟩ (fun c391 => ?_) (fun c391 => ?_)
      · have f392 := (gr_b_0_118 hI144)
        refine gv_run 5 true hD (pc' := 50) (lv' := [(0, .inr (.inr (some 0))), (1, .inl a1)]) (st' := [.inr (.inr (some 0)), .inl (I144 0 118), .inr (.inr (some 68))]) (h' := gr_h I144 J) (C := (((((True ∧ True) ∧ True) ∧ True) ∧ True) ∧ True)) rfl ⟨⟨⟨⟨⟨trivial, trivial⟩, trivial⟩, trivial⟩, trivial⟩, trivial⟩ ?_
        obtain ⟨r393, h393, E393, P393⟩ := r_keeps_p (ws0 := ws0) (tb := tb) hws htb ext I144 J hI144   (by exact gz_m 226 (by omega)) ((gr_ATp_rr A165).2.2.2.1 (by exact gz_m 227 (by omega))).2 ((gr_ATp_rr A165).2.2.2.1 (by exact gz_m 228 (by omega))).1 (by have h9 := (gr_ATp_rr A165).1.resolve_left (by exact gz_m 229 (by omega)); exact gz_m 230 (by omega))
        obtain ⟨I394, J395, rfl, hI394, g393, k393, ⟨z393, rfl, q393⟩⟩ := P393
        have FI394 := gr_frt FI144 g393 rfl rfl
        have FJ395 := gr_fjt FJ k393 rfl rfl
        have t396 := g393 0 71 rfl
        have t397 := g393 0 72 rfl
        have t398 := g393 0 73 rfl
        have t399 := g393 0 69 rfl
        have t400 := g393 0 6 rfl
        have t401 := g393 0 118 rfl
        have t402 := g393 0 119 rfl
        have t403 := g393 0 74 rfl
        have t404 := g393 0 106 rfl
        have f405 := (gr_b_0_71 hI394)
        have f406 := (gr_b_0_72 hI394)
        have f407 := (gr_b_0_73 hI394)
        have f408 := (gr_b_0_69 hI394)
        have f409 := (gr_b_0_59 hI394)
        have f410 := (gr_b_0_6 hI394)
        have f411 := (gr_b_0_118 hI394)
        have f412 := (gr_b_0_119 hI394)
        have f413 := (gr_b_0_74 hI394)
        have f414 := (gr_b_0_106 hI394)
        have l393 := q393.2.2.2.2.1
        have KLK_I394 := gr_LKs_tr KLK_I144 l393
        have A415 := gr_ATp_F A165 g393 k393 rfl
        have t416 := gr_ATp_l A415
        have G393 := q393.2.2.2.2.2.2
        refine gv_callV hD rfl (As := []) (st := [.inl (I144 0 118), .inr (.inr (some 68))]) rfl (by decide) rfl rfl (gr_lV hws rfl) (Nat.le_of_ble_eq_true rfl) (gz_Ev_mono (d := 2) (by decide) E393) ?_
        show gv_X _ _ (53, [(0, .inr (.inr (some 0))), (1, .inl a1)], [.inl z393, .inl (I144 0 118), .inr (.inr (some 68))], gr_sh ++ ext, gr_h I394 J395)
        refine gv_run 1 true hD (pc' := 54) (lv' := [(0, .inr (.inr (some 0))), (1, .inl a1)]) (st' := []) (h' := gz_up (gr_h I394 J395) 68 (Int.toNat ((I144 0 118))) (.inl z393)) (C := (True ∧ (0 ≤ (I144 0 118) ∧ (I144 0 118) < ((6 : Nat) : Int)))) rfl ⟨trivial, ⟨by exact gz_m 231 (by omega), by exact gz_m 232 (by omega)⟩⟩ ?_
        refine gr_st hI394 FI394 rfl rfl ⟨⟨by show (-4) ≤ _; exact gz_m 233 (by omega), by show _ ≤ 32015; exact gz_m 234 (by omega)⟩, trivial⟩ (fun I417 hI417 FI417 q418 p418 => ?_)
        have t419 := p418 0 71 (fun q => absurd q.1 (by decide))
        have t420 := p418 0 72 (fun q => absurd q.1 (by decide))
        have t421 := p418 0 73 (fun q => absurd q.1 (by decide))
        have t422 := p418 0 69 (fun q => absurd q.1 (by decide))
        have t423 := p418 0 59 (fun q => absurd q.1 (by decide))
        have t424 := p418 0 6 (fun q => absurd q.1 (by decide))
        have t425 := p418 0 118 (fun q => absurd q.1 (by decide))
        have t426 := p418 0 119 (fun q => absurd q.1 (by decide))
        have t427 := p418 0 74 (fun q => absurd q.1 (by decide))
        have t428 := p418 0 106 (fun q => absurd q.1 (by decide))
        have f429 := (gr_b_0_71 hI417)
        have f430 := (gr_b_0_72 hI417)
        have f431 := (gr_b_0_73 hI417)
        have f432 := (gr_b_0_69 hI417)
        have f433 := (gr_b_0_59 hI417)
        have f434 := (gr_b_0_6 hI417)
        have f435 := (gr_b_0_118 hI417)
        have f436 := (gr_b_0_119 hI417)
        have f437 := (gr_b_0_74 hI417)
        have f438 := (gr_b_0_106 hI417)
        have KLK_I417 := gr_LKs_fr KLK_I394 (fun k => p418 51 k (fun q => absurd q.1 (by decide))) (p418 0 59 (fun q => absurd q.1 (by decide)))
        have A439 := gr_ATp_sr A415 p418 rfl
        refine gv_run 1 true hD (pc' := 55) (lv' := [(0, .inr (.inr (some 0))), (1, .inl a1)]) (st' := [.inr (.inr (some 0))]) (h' := gr_h I417 J395) (C := (True ∧ True)) rfl ⟨trivial, trivial⟩ ?_
        obtain ⟨r440, h440, E440, P440⟩ := r_next_p (ws0 := ws0) (tb := tb) hws htb ext β N9 I417 J395 hI417   ((gr_ATp_rr A439).1.resolve_left (by exact gz_m 235 (by omega))) A439.1.1 A439.1.2
        obtain ⟨I441, J442, rfl, hI441, g440, k440, ⟨rfl, q440⟩⟩ := P440
        have FI441 := gr_frt FI417 g440 rfl rfl
        have FJ442 := gr_fjt FJ395 k440 rfl rfl
        have t443 := g440 0 69 rfl
        have t444 := g440 0 59 rfl
        have t445 := g440 0 6 rfl
        have t446 := g440 0 118 rfl
        have t447 := g440 0 119 rfl
        have t448 := g440 0 106 rfl
        have f449 := (gr_b_0_71 hI441)
        have f450 := (gr_b_0_72 hI441)
        have f451 := (gr_b_0_73 hI441)
        have f452 := (gr_b_0_69 hI441)
        have f453 := (gr_b_0_59 hI441)
        have f454 := (gr_b_0_6 hI441)
        have f455 := (gr_b_0_118 hI441)
        have f456 := (gr_b_0_119 hI441)
        have f457 := (gr_b_0_74 hI441)
        have f458 := (gr_b_0_106 hI441)
        have KLK_I441 := gr_LKs_fr KLK_I417 (fun k => g440 51 k rfl) (g440 0 59 rfl)
        have t459 := (gr_ATp_rr A439).2.2.1.resolve_left (by exact gz_m 236 (by omega))
        have A460 := gr_ATp_nx A439 q440.2.2.2.2.2
        have t461 := gr_ATp_l A460
        obtain ⟨_, _, -, -, -, -⟩ := q440
        refine gv_callV hD rfl (As := []) (st := []) rfl (by decide) rfl rfl (gr_lV hws rfl) (Nat.le_of_ble_eq_true rfl) (gz_Ev_mono (d := 10) (by decide) E440) ?_
        show gv_X _ _ (58, [(0, .inr (.inr (some 0))), (1, .inl a1)], [], gr_sh ++ ext, gr_h I441 J442)
        refine gv_run 1 true hD (pc' := 173) (lv' := [(0, .inr (.inr (some 0))), (1, .inl a1)]) (st' := []) (h' := gr_h I441 J442) (C := (True ∧ True)) rfl ⟨trivial, trivial⟩ ?_
        refine gv_pick [0] rfl ?_
        exact L173 I441 J442 (gs_X β N9 p9) hI441 FI441 FJ442 KLK_I441 (by exact gz_m 237 (by omega)) (gr_R1u_fr (gr_R1_t (gr_R1_fr (gr_R1_fr x8 (fun k => p145 68 k (fun q => absurd q.1 (by decide))) (fun k => p145 74 k (fun q => absurd q.1 (by decide))) (fun k => p145 6 k (fun q => absurd q.1 (by decide))) (fun k => p145 70 k (fun q => absurd q.1 (by decide))) (fun k => p145 71 k (fun q => absurd q.1 (by decide))) (p145 0 118 (by decide)) (p145 0 119 (by decide))) (fun k => g393 68 k rfl) (fun k => g393 74 k rfl) (fun k => g393 6 k rfl) (fun k => g393 70 k rfl) (fun k => g393 71 k rfl) (g393 0 118 rfl) (g393 0 119 rfl)) p418 (by exact gz_m 238 (by omega)) (by exact gz_m 239 (by omega)) (by exact gz_m 240 (by omega))) (fun k => g440 68 k rfl) (fun k => g440 74 k rfl) (fun k => g440 6 k rfl) (fun k => g440 70 k rfl) (fun k => g440 71 k rfl) (g440 0 118 rfl) (g440 0 119 rfl)) A460 (by unfold gs_it gs_it2 gs_it3; (repeat first | rw [if_pos (by exact gz_m 241 (by omega))] | rw [if_neg (by exact gz_m 242 (by omega))])) (gs_Uiv_fr (gs_Uiv_l ⟨((g393 0 118 rfl).trans (p145 0 118 (by decide))), fun j => ⟨((g393 74 j rfl).trans (p145 74 j (fun q => absurd q.1 (by decide)))), ((g393 68 j rfl).trans (p145 68 j (fun q => absurd q.1 (by decide))))⟩⟩ (by exact gz_m 243 (by omega)) (by exact gz_m 244 (by omega)) p418 (by rw [q418]; exact gz_m 245 (by omega))) (g440 0 118 rfl) (fun j => (g440 74 j rfl)) (fun j => (g440 68 j rfl)))
      · refine gv_run 2 true hD (pc' := 37) (lv' := [(0, .inr (.inr (some 0))), (1, .inl a1)]) (st' := [.inl 5, .inr (.inr (some 0))]) (h' := gr_h I144 J) (C := ((True ∧ True) ∧ True)) rfl ⟨⟨trivial, trivial⟩, trivial⟩ ?_
        obtain ⟨r462, h462, E462, P462⟩ := r_no__p (ws0 := ws0) (tb := tb) hws htb ext β N9 p9 I144 J hI144 5 ⟨by exact gz_m 246 (by omega), by exact gz_m 247 (by omega)⟩ A165 (by exact gz_m 248 (by omega))
        obtain ⟨I463, J464, rfl, hI463, g462, k462, ⟨z462, rfl, q462⟩⟩ := P462
        have FI463 := gr_frt FI144 g462 rfl rfl
        have FJ464 := gr_fjt FJ k462 rfl rfl
        have t465 := g462 0 71 rfl
        have t466 := g462 0 72 rfl
        have t467 := g462 0 73 rfl
        have t468 := g462 0 69 rfl
        have t469 := g462 0 59 rfl
        have t470 := g462 0 6 rfl
        have t471 := g462 0 118 rfl
        have t472 := g462 0 119 rfl
        have t473 := g462 0 74 rfl
        have t474 := g462 0 106 rfl
        have f475 := (gr_b_0_71 hI463)
        have f476 := (gr_b_0_72 hI463)
        have f477 := (gr_b_0_73 hI463)
        have f478 := (gr_b_0_69 hI463)
        have f479 := (gr_b_0_59 hI463)
        have f480 := (gr_b_0_6 hI463)
        have f481 := (gr_b_0_118 hI463)
        have f482 := (gr_b_0_119 hI463)
        have f483 := (gr_b_0_74 hI463)
        have f484 := (gr_b_0_106 hI463)
        have KLK_I463 := gr_LKs_fr KLK_I144 (fun k => g462 51 k rfl) (g462 0 59 rfl)
        have A485 := gr_ATp_F A165 g462 k462 rfl
        have t486 := gr_ATp_l A485
        refine gv_callV hD rfl (As := [.inl 5]) (st := []) rfl (by decide) rfl rfl (gr_lV hws rfl) (Nat.le_of_ble_eq_true rfl) (gz_Ev_mono (d := 2) (by decide) E462) ?_
        show gv_X _ _ (40, [(0, .inr (.inr (some 0))), (1, .inl a1)], [.inl z462], gr_sh ++ ext, gr_h I463 J464)
        have b487 : (I463 0 69 = I 0 69) ∧ (I 0 73 ≤ I463 0 73) ∧ (I 0 72 ≤ I463 0 72) ∧ (I463 0 59 - I463 0 72 ≤ I 0 59 - I 0 72) ∧ ((z462 : Int) = 0 ∨ I 0 72 < I463 0 72) := by exact gz_m 249 (by omega)
        exact gv_zret hD rfl (by exact gz_m 250 (by omega)) ⟨I463, J464, rfl, hI463, FI463, FJ464, ⟨_, rfl, by exact gz_m 251 (by omega), by exact gz_m 252 (by omega), (gr_ATp_rr A485).1, (gr_ATp_rr A485).2.1, (gr_ATp_rr A485).2.2.1, (gr_ATp_rr A485).2.2.2.1, (gr_ATp_rr A485).2.2.2.2, b487.1, b487.2.1, b487.2.2.1, b487.2.2.2.1, b487.2.2.2.2, (gr_o_a (by exact gz_m 253 (by omega))), KLK_I463, (Or.inr ⟨by exact gz_m 254 (by omega), by first | (exfalso; exact gz_m 255 (by omega)) | (unfold gs_it gs_it2 gs_it3; (repeat first | rw [if_pos (by exact gz_m 256 (by omega))] | rw [if_neg (by exact gz_m 257 (by omega))]); exact ⟨by exact gz_m 258 (by omega), by exact gz_m 259 (by omega)⟩)⟩)⟩⟩
  · refine gv_run 2 true hD (pc' := 11) (lv' := [(0, .inr (.inr (some 0))), (1, .inl a1)]) (st' := [.inl 5, .inr (.inr (some 0))]) (h' := gr_h I J) (C := ((True ∧ True) ∧ True)) rfl ⟨⟨trivial, trivial⟩, trivial⟩ ?_
    obtain ⟨r488, h488, E488, P488⟩ := r_no__p (ws0 := ws0) (tb := tb) hws htb ext β N9 p9 I J hI 5 ⟨by exact gz_m 260 (by omega), by exact gz_m 261 (by omega)⟩ x9 (by exact gz_m 262 (by omega))
    obtain ⟨I489, J490, rfl, hI489, g488, k488, ⟨z488, rfl, q488⟩⟩ := P488
    have FI489 := gr_frt FI g488 rfl rfl
    have FJ490 := gr_fjt FJ k488 rfl rfl
    have t491 := g488 0 71 rfl
    have t492 := g488 0 72 rfl
    have t493 := g488 0 73 rfl
    have t494 := g488 0 69 rfl
    have t495 := g488 0 59 rfl
    have t496 := g488 0 6 rfl
    have t497 := g488 0 118 rfl
    have t498 := g488 0 119 rfl
    have t499 := g488 0 74 rfl
    have t500 := g488 0 106 rfl
    have f501 := (gr_b_0_71 hI489)
    have f502 := (gr_b_0_72 hI489)
    have f503 := (gr_b_0_73 hI489)
    have f504 := (gr_b_0_69 hI489)
    have f505 := (gr_b_0_59 hI489)
    have f506 := (gr_b_0_6 hI489)
    have f507 := (gr_b_0_118 hI489)
    have f508 := (gr_b_0_119 hI489)
    have f509 := (gr_b_0_74 hI489)
    have f510 := (gr_b_0_106 hI489)
    have KLK_I489 := gr_LKs_fr KLK_I (fun k => g488 51 k rfl) (g488 0 59 rfl)
    have A511 := gr_ATp_F x9 g488 k488 rfl
    have t512 := gr_ATp_l A511
    refine gv_callV hD rfl (As := [.inl 5]) (st := []) rfl (by decide) rfl rfl (gr_lV hws rfl) (Nat.le_of_ble_eq_true rfl) (gz_Ev_mono (d := 2) (by decide) E488) ?_
    show gv_X _ _ (14, [(0, .inr (.inr (some 0))), (1, .inl a1)], [.inl z488], gr_sh ++ ext, gr_h I489 J490)
    have b513 : (I489 0 69 = I 0 69) ∧ (I 0 73 ≤ I489 0 73) ∧ (I 0 72 ≤ I489 0 72) ∧ (I489 0 59 - I489 0 72 ≤ I 0 59 - I 0 72) ∧ ((z488 : Int) = 0 ∨ I 0 72 < I489 0 72) := by exact gz_m 263 (by omega)
    exact gv_zret hD rfl (by exact gz_m 264 (by omega)) ⟨I489, J490, rfl, hI489, FI489, FJ490, ⟨_, rfl, by exact gz_m 265 (by omega), by exact gz_m 266 (by omega), (gr_ATp_rr A511).1, (gr_ATp_rr A511).2.1, (gr_ATp_rr A511).2.2.1, (gr_ATp_rr A511).2.2.2.1, (gr_ATp_rr A511).2.2.2.2, b513.1, b513.2.1, b513.2.2.1, b513.2.2.2.1, b513.2.2.2.2, (gr_o_a (by exact gz_m 267 (by omega))), KLK_I489, (Or.inr ⟨by exact gz_m 268 (by omega), by first | (exfalso; exact gz_m 269 (by omega)) | (unfold gs_it gs_it2 gs_it3; (repeat first | rw [if_pos (by exact gz_m 270 (by omega))] | rw [if_neg (by exact gz_m 271 (by omega))]); exact ⟨by exact gz_m 272 (by omega), by exact gz_m 273 (by omega)⟩)⟩)⟩⟩
