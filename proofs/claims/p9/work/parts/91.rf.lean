set_option maxHeartbeats 8000000 in
set_option maxRecDepth 100000 in
theorem r_next_L30 {ws0 : List Cond} {tb : String → gz_T} (hws : ∀ w ∈ gr_ws, w ∈ ws0) (htb : tb RX13 = gr_T) (ext : gz_Sh) (I : gr_I) (J : gr_J) (hI : gr_Inv I)   (x0 : I 0 73 ≤ I 0 69) (v1_6 : Int) : ((0 ≤ v1_6 ∧ v1_6 ≤ 1000) ∧ (v1_6 ≤ I 0 69) ∧ (I 0 73 ≤ v1_6)) → gv_X (gr_E ws0 tb 9 (yX13_next, cX13_next, 2, none) kX13_next) (gv_Q cX13_next none (gr_sh ++ ext) (fun r hₚ => (∃ (Iₚ : gr_I) (Jₚ : gr_J), hₚ = gr_h Iₚ Jₚ ∧ gr_Inv Iₚ ∧ gr_fr [71, 72, 73, 74, 75] [] I Iₚ ∧ gr_fj [71, 72, 73, 74, 75] [] J Jₚ ∧ r = none ∧ (I 0 73 ≤ Iₚ 0 72 ∧ Iₚ 0 69 = I 0 69 ∧ Iₚ 0 72 ≤ I 0 69) ∧ (Iₚ 0 72 ≤ Iₚ 0 73) ∧ (Iₚ 0 71 = 0 ∨ (Iₚ 0 72 < Iₚ 0 73 ∧ Iₚ 0 72 < I 0 69)) ∧ (Iₚ 0 71 = 5 ∨ Iₚ 0 73 ≤ I 0 69) ∧ (Iₚ 0 71 = 3 → 2 ≤ Iₚ 0 73 - Iₚ 0 72 ∧ Iₚ 0 73 - Iₚ 0 72 ≤ 14)))) (30, [(0, .inr (.inr (some 0))), (1, .inl v1_6)], [], gr_sh ++ ext, gr_h I J) := by
  have FI : gr_fr [71, 72, 73, 74, 75] [] I I := fun _ _ _ => rfl
  have FJ : gr_fj [71, 72, 73, 74, 75] [] J J := fun _ _ _ => rfl
  have hD : gv_D (gr_E ws0 tb 9 (yX13_next, cX13_next, 2, none) kX13_next) := gq_of oX13_next
  have f1 := (gr_b_0_72 hI)
  have f2 := (gr_b_0_73 hI)
  have f3 := (gr_b_0_69 hI)
  have f4 := (gr_b_0_74 hI)
  have f5 := (gr_b_0_71 hI)
  intro m_12
  obtain ⟨hv1_6_12, e0_12, e1_12⟩ := m_12
  have f13 := (gr_b_0_72 hI)
  have f14 := (gr_b_0_73 hI)
  have f15 := (gr_b_0_69 hI)
  have f16 := (gr_b_0_74 hI)
  have f17 := (gr_b_0_71 hI)
  have L309 : ∀ (I18 : gr_I) (J19 : gr_J) (v1_20 : Int), gr_Inv I18 → gr_fr [71, 72, 73, 74, 75] [] I I18 → gr_fj [71, 72, 73, 74, 75] [] J J19 → ((0 ≤ v1_20 ∧ v1_20 ≤ 1001) ∧ (I18 0 72 ≤ v1_20) ∧ (I 0 73 ≤ I18 0 72) ∧ (I18 0 69 = I 0 69) ∧ (I18 0 72 ≤ I18 0 69) ∧ (I18 0 71 = 0 ∨ (I18 0 72 < v1_20 ∧ I18 0 72 < I18 0 69)) ∧ (I18 0 71 = 5 ∨ v1_20 ≤ I18 0 69) ∧ (I18 0 71 = 3 → 2 ≤ v1_20 - I18 0 72 ∧ v1_20 - I18 0 72 ≤ 14)) → gv_X (gr_E ws0 tb 9 (yX13_next, cX13_next, 2, none) kX13_next) (gv_Q cX13_next none (gr_sh ++ ext) (fun r hₚ => (∃ (Iₚ : gr_I) (Jₚ : gr_J), hₚ = gr_h Iₚ Jₚ ∧ gr_Inv Iₚ ∧ gr_fr [71, 72, 73, 74, 75] [] I Iₚ ∧ gr_fj [71, 72, 73, 74, 75] [] J Jₚ ∧ r = none ∧ (I 0 73 ≤ Iₚ 0 72 ∧ Iₚ 0 69 = I 0 69 ∧ Iₚ 0 72 ≤ I 0 69) ∧ (Iₚ 0 72 ≤ Iₚ 0 73) ∧ (Iₚ 0 71 = 0 ∨ (Iₚ 0 72 < Iₚ 0 73 ∧ Iₚ 0 72 < I 0 69)) ∧ (Iₚ 0 71 = 5 ∨ Iₚ 0 73 ≤ I 0 69) ∧ (Iₚ 0 71 = 3 → 2 ≤ Iₚ 0 73 - Iₚ 0 72 ∧ Iₚ 0 73 - Iₚ 0 72 ≤ 14)))) (309, [(0, .inr (.inr (some 0))), (1, .inl v1_20)], [], gr_sh ++ ext, gr_h I18 J19) := by
    intro I18 J19 v1_20 hI18 FI18 FJ19 m_20
    obtain ⟨hv1_20, e0_20, e1_20, e2_20, e3_20, e4_20, e5_20, e6_20⟩ := m_20
    have f21 := (gr_b_0_72 hI18)
    have f22 := (gr_b_0_73 hI18)
    have f23 := (gr_b_0_69 hI18)
    have f24 := (gr_b_0_74 hI18)
    have f25 := (gr_b_0_71 hI18)
    refine gv_run 3 true hD (pcₚ := 314) (lvₚ := [(0, .inr (.inr (some 0))), (1, .inl v1_20)]) (stₚ := []) (hₚ := gz_up (gr_h I18 J19) 0 73 (.inl v1_20)) (C := (((True ∧ True) ∧ True) ∧ True)) rfl ⟨⟨⟨trivial, trivial⟩, trivial⟩, trivial⟩ ?_
    refine gr_st hI18 FI18 rfl rfl ⟨⟨by show 0 ≤ _; omega, by show _ ≤ 1001; omega⟩, trivial⟩ (fun I26 hI26 FI26 q27 p27 => ?_)
    have t28 := p27 0 72 (by decide)
    have t29 := p27 0 69 (by decide)
    have t30 := p27 0 74 (by decide)
    have t31 := p27 0 71 (by decide)
    have t32 := p27 57 (Int.toNat v1_20) (fun q => absurd q.1 (by decide))
    have f33 := (gr_b_0_72 hI26)
    have f34 := (gr_b_0_73 hI26)
    have f35 := (gr_b_0_69 hI26)
    have f36 := (gr_b_0_74 hI26)
    have f37 := (gr_b_0_71 hI26)
    exact gv_vret hD rfl ⟨I26, J19, rfl, hI26, FI26, FJ19, ⟨rfl, by omega⟩⟩
  have L74 : ∀ (n : Nat) (I38 : gr_I) (J39 : gr_J) (v1_40 : Int), (1001 - v1_40).toNat < n → gr_Inv I38 → gr_fr [71, 72, 73, 74, 75] [] I I38 → gr_fj [71, 72, 73, 74, 75] [] J J39 → ((0 ≤ v1_40 ∧ v1_40 ≤ 1000) ∧ (I 0 73 ≤ I38 0 72) ∧ (I38 0 72 < I38 0 69) ∧ (I38 0 69 = I 0 69) ∧ (v1_40 ≤ I38 0 69) ∧ (I38 0 72 ≤ v1_40) ∧ (I38 0 71 = 1) ∧ (I38 0 72 < v1_40 ∨ (v1_40 = I38 0 72 ∧ 97 ≤ I38 57 (Int.toNat v1_40) ∧ I38 57 (Int.toNat v1_40) ≤ 122))) → gv_X (gr_E ws0 tb 9 (yX13_next, cX13_next, 2, none) kX13_next) (gv_Q cX13_next none (gr_sh ++ ext) (fun r hₚ => (∃ (Iₚ : gr_I) (Jₚ : gr_J), hₚ = gr_h Iₚ Jₚ ∧ gr_Inv Iₚ ∧ gr_fr [71, 72, 73, 74, 75] [] I Iₚ ∧ gr_fj [71, 72, 73, 74, 75] [] J Jₚ ∧ r = none ∧ (I 0 73 ≤ Iₚ 0 72 ∧ Iₚ 0 69 = I 0 69 ∧ Iₚ 0 72 ≤ I 0 69) ∧ (Iₚ 0 72 ≤ Iₚ 0 73) ∧ (Iₚ 0 71 = 0 ∨ (Iₚ 0 72 < Iₚ 0 73 ∧ Iₚ 0 72 < I 0 69)) ∧ (Iₚ 0 71 = 5 ∨ Iₚ 0 73 ≤ I 0 69) ∧ (Iₚ 0 71 = 3 → 2 ≤ Iₚ 0 73 - Iₚ 0 72 ∧ Iₚ 0 73 - Iₚ 0 72 ≤ 14)))) (74, [(0, .inr (.inr (some 0))), (1, .inl v1_40)], [], gr_sh ++ ext, gr_h I38 J39) := by
    intro n
    induction n with
    | zero => intro I38 J39 v1_40 hn; omega
    | succ n ih74 =>
      intro I38 J39 v1_40 hn hI38 FI38 FJ39 m_40
      obtain ⟨hv1_40, e0_40, e1_40, e2_40, e3_40, e4_40, e5_40, e6_40⟩ := m_40
      have f41 := (gr_b_0_72 hI38)
      have f42 := (gr_b_0_73 hI38)
      have f43 := (gr_b_0_69 hI38)
      have f44 := (gr_b_0_74 hI38)
      have f45 := (gr_b_0_71 hI38)
      have L101 : ((0 ≤ v1_40 ∧ v1_40 ≤ 999) ∧ (I 0 73 ≤ I38 0 72) ∧ (I38 0 72 < I38 0 69) ∧ (I38 0 69 = I 0 69) ∧ (v1_40 < I38 0 69) ∧ (I38 0 72 ≤ v1_40) ∧ (I38 0 71 = 1)) → gv_X (gr_E ws0 tb 9 (yX13_next, cX13_next, 2, none) kX13_next) (gv_Q cX13_next none (gr_sh ++ ext) (fun r hₚ => (∃ (Iₚ : gr_I) (Jₚ : gr_J), hₚ = gr_h Iₚ Jₚ ∧ gr_Inv Iₚ ∧ gr_fr [71, 72, 73, 74, 75] [] I Iₚ ∧ gr_fj [71, 72, 73, 74, 75] [] J Jₚ ∧ r = none ∧ (I 0 73 ≤ Iₚ 0 72 ∧ Iₚ 0 69 = I 0 69 ∧ Iₚ 0 72 ≤ I 0 69) ∧ (Iₚ 0 72 ≤ Iₚ 0 73) ∧ (Iₚ 0 71 = 0 ∨ (Iₚ 0 72 < Iₚ 0 73 ∧ Iₚ 0 72 < I 0 69)) ∧ (Iₚ 0 71 = 5 ∨ Iₚ 0 73 ≤ I 0 69) ∧ (Iₚ 0 71 = 3 → 2 ≤ Iₚ 0 73 - Iₚ 0 72 ∧ Iₚ 0 73 - Iₚ 0 72 ≤ 14)))) (101, [(0, .inr (.inr (some 0))), (1, .inl v1_40)], [], gr_sh ++ ext, gr_h I38 J39) := by
        intro m_46
        obtain ⟨hv1_40_46, e0_46, e1_46, e2_46, e3_46, e4_46, e5_46⟩ := m_46
        have f47 := (gr_b_0_72 hI38)
        have f48 := (gr_b_0_73 hI38)
        have f49 := (gr_b_0_69 hI38)
        have f50 := (gr_b_0_74 hI38)
        have f51 := (gr_b_0_71 hI38)
        refine gv_run 7 true hD (pcₚ := 113) (lvₚ := [(0, .inr (.inr (some 0))), (1, .inl v1_40)]) (stₚ := [.inr (.inr (some 57)), .inr (.inl ((J39 0 75) <<< ((Int32.ofInt 8).toInt64 &&& 63))), .inr (.inr (some 0))]) (hₚ := gr_h I38 J39) (C := (((((((True ∧ True) ∧ True) ∧ True) ∧ True) ∧ True) ∧ True) ∧ True)) rfl ⟨⟨⟨⟨⟨⟨⟨trivial, trivial⟩, trivial⟩, trivial⟩, trivial⟩, trivial⟩, trivial⟩, trivial⟩ ?_
        have f52 := (gr_b_57 hI38 (Int.toNat v1_40))
        refine gv_run 2 true hD (pcₚ := 115) (lvₚ := [(0, .inr (.inr (some 0))), (1, .inl v1_40)]) (stₚ := [.inl (I38 57 (Int.toNat v1_40)), .inr (.inl ((J39 0 75) <<< ((Int32.ofInt 8).toInt64 &&& 63))), .inr (.inr (some 0))]) (hₚ := gr_h I38 J39) (C := ((True ∧ True) ∧ (0 ≤ v1_40 ∧ v1_40 < ((1000 : Nat) : Int)))) rfl ⟨⟨trivial, trivial⟩, ⟨by omega, by omega⟩⟩ ?_
        refine gv_run 3 true hD (pcₚ := 120) (lvₚ := [(0, .inr (.inr (some 0))), (1, .inl v1_40)]) (stₚ := []) (hₚ := gz_up (gr_h I38 J39) 0 75 (.inr (.inl ((((J39 0 75) <<< ((Int32.ofInt 8).toInt64 &&& 63)) ||| (Int32.ofInt ((I38 57 (Int.toNat v1_40)))).toInt64))))) (C := (((True ∧ True) ∧ True) ∧ True)) rfl ⟨⟨⟨trivial, trivial⟩, trivial⟩, trivial⟩ ?_
        refine gr_stJ FJ39 rfl rfl (fun J53 FJ53 => ?_)
        refine gv_run 2 true hD (pcₚ := 74) (lvₚ := [(1, .inl (v1_40 + 1)), (0, .inr (.inr (some 0)))]) (stₚ := []) (hₚ := gr_h I38 J53) (C := ((True ∧ True) ∧ True)) rfl ⟨⟨trivial, trivial⟩, trivial⟩ ?_
        refine gv_pick [1, 0] rfl ?_
        exact ih74 I38 J53 (v1_40 + 1) (by omega) hI38 FI38 FJ53 (by omega)
      have L126 : ((0 ≤ v1_40 ∧ v1_40 ≤ 1000) ∧ (I 0 73 ≤ I38 0 72) ∧ (I38 0 72 < I38 0 69) ∧ (I38 0 69 = I 0 69) ∧ (v1_40 ≤ I38 0 69) ∧ (I38 0 72 < v1_40) ∧ (I38 0 71 = 1)) → gv_X (gr_E ws0 tb 9 (yX13_next, cX13_next, 2, none) kX13_next) (gv_Q cX13_next none (gr_sh ++ ext) (fun r hₚ => (∃ (Iₚ : gr_I) (Jₚ : gr_J), hₚ = gr_h Iₚ Jₚ ∧ gr_Inv Iₚ ∧ gr_fr [71, 72, 73, 74, 75] [] I Iₚ ∧ gr_fj [71, 72, 73, 74, 75] [] J Jₚ ∧ r = none ∧ (I 0 73 ≤ Iₚ 0 72 ∧ Iₚ 0 69 = I 0 69 ∧ Iₚ 0 72 ≤ I 0 69) ∧ (Iₚ 0 72 ≤ Iₚ 0 73) ∧ (Iₚ 0 71 = 0 ∨ (Iₚ 0 72 < Iₚ 0 73 ∧ Iₚ 0 72 < I 0 69)) ∧ (Iₚ 0 71 = 5 ∨ Iₚ 0 73 ≤ I 0 69) ∧ (Iₚ 0 71 = 3 → 2 ≤ Iₚ 0 73 - Iₚ 0 72 ∧ Iₚ 0 73 - Iₚ 0 72 ≤ 14)))) (126, [(0, .inr (.inr (some 0))), (1, .inl v1_40)], [], gr_sh ++ ext, gr_h I38 J39) := by
        intro m_54
        obtain ⟨hv1_40_54, e0_54, e1_54, e2_54, e3_54, e4_54, e5_54⟩ := m_54
        have f55 := (gr_b_0_72 hI38)
        have f56 := (gr_b_0_73 hI38)
        have f57 := (gr_b_0_69 hI38)
        have f58 := (gr_b_0_74 hI38)
        have f59 := (gr_b_0_71 hI38)
        refine gv_run 7 true hD (pcₚ := 137) (lvₚ := [(0, .inr (.inr (some 0))), (1, .inl v1_40)]) (stₚ := [.inl (8 - v1_40), .inl 8, .inr (.inl (J39 0 75)), .inr (.inr (some 0))]) (hₚ := gr_h I38 J39) (C := (((((((True ∧ True) ∧ True) ∧ True) ∧ True) ∧ True) ∧ True) ∧ True)) rfl ⟨⟨⟨⟨⟨⟨⟨trivial, trivial⟩, trivial⟩, trivial⟩, trivial⟩, trivial⟩, trivial⟩, trivial⟩ ?_
        have f60 := (gr_b_0_72 hI38)
        refine gv_run 5 true hD (pcₚ := 144) (lvₚ := [(0, .inr (.inr (some 0))), (1, .inl v1_40)]) (stₚ := [.inr (.inl ((J39 0 75) <<< ((Int32.ofInt ((8 * ((8 - v1_40) + (I38 0 72))))).toInt64 &&& 63))), .inr (.inr (some 0))]) (hₚ := gr_h I38 J39) (C := (((((True ∧ True) ∧ True) ∧ True) ∧ True) ∧ True)) rfl ⟨⟨⟨⟨⟨trivial, trivial⟩, trivial⟩, trivial⟩, trivial⟩, trivial⟩ ?_
        refine gv_run 1 true hD (pcₚ := 147) (lvₚ := [(0, .inr (.inr (some 0))), (1, .inl v1_40)]) (stₚ := []) (hₚ := gz_up (gr_h I38 J39) 0 75 (.inr (.inl (((J39 0 75) <<< ((Int32.ofInt ((8 * ((8 - v1_40) + (I38 0 72))))).toInt64 &&& 63)))))) (C := (True ∧ True)) rfl ⟨trivial, trivial⟩ ?_
        refine gr_stJ FJ39 rfl rfl (fun J61 FJ61 => ?_)
        refine gv_run 1 true hD (pcₚ := 309) (lvₚ := [(0, .inr (.inr (some 0))), (1, .inl v1_40)]) (stₚ := []) (hₚ := gr_h I38 J61) (C := (True ∧ True)) rfl ⟨trivial, trivial⟩ ?_
        exact L309 I38 J61 v1_40 hI38 FI38 FJ61 (by omega)
      have f62 := (gr_b_0_72 hI38)
      refine gv_run 5 true hD (pcₚ := 82) (lvₚ := [(0, .inr (.inr (some 0))), (1, .inl v1_40)]) (stₚ := [.inl ((I38 0 72) + 8), .inl v1_40]) (hₚ := gr_h I38 J39) (C := (((((True ∧ True) ∧ True) ∧ True) ∧ True) ∧ True)) rfl ⟨⟨⟨⟨⟨trivial, trivial⟩, trivial⟩, trivial⟩, trivial⟩, trivial⟩ ?_
      refine gv_icmp_ge (t := 126) hD rfl rfl ⟨⟨by omega, by omega⟩, ⟨by omega, by omega⟩⟩ (fun c63 => ?_) (fun c63 => ?_)
      · exact L126 (by omega)
      · refine gv_run 2 true hD (pcₚ := 87) (lvₚ := [(0, .inr (.inr (some 0))), (1, .inl v1_40)]) (stₚ := [.inl v1_40, .inr (.inr (some 0))]) (hₚ := gr_h I38 J39) (C := ((True ∧ True) ∧ True)) rfl ⟨⟨trivial, trivial⟩, trivial⟩ ?_
        obtain ⟨r64, h64, E64, P64⟩ := r_low (ws0 := ws0) (tb := tb) hws htb ext I38 J39 hI38 v1_40 ⟨by omega, by omega⟩ 
        obtain ⟨rfl, ⟨z64, rfl, q64⟩⟩ := P64
        refine gv_callV hD rfl (As := [.inl v1_40]) (st := []) rfl (by decide) rfl rfl (gr_lV hws rfl) (Nat.le_of_ble_eq_true rfl) (gz_Ev_mono (d := 1) (by decide) E64) ?_
        show gv_X _ _ (90, [(0, .inr (.inr (some 0))), (1, .inl v1_40)], [.inl z64], gr_sh ++ ext, gr_h I38 J39)
        refine gv_if_ne (t := 101) hD rfl rfl ⟨by omega, by omega⟩ (fun c65 => ?_) (fun c65 => ?_)
        · exact L101 (by omega)
        · refine gv_run 2 true hD (pcₚ := 95) (lvₚ := [(0, .inr (.inr (some 0))), (1, .inl v1_40)]) (stₚ := [.inl v1_40, .inr (.inr (some 0))]) (hₚ := gr_h I38 J39) (C := ((True ∧ True) ∧ True)) rfl ⟨⟨trivial, trivial⟩, trivial⟩ ?_
          obtain ⟨r66, h66, E66, P66⟩ := r_dig (ws0 := ws0) (tb := tb) hws htb ext I38 J39 hI38 v1_40 ⟨by omega, by omega⟩ 
          obtain ⟨rfl, ⟨z66, rfl, q66⟩⟩ := P66
          refine gv_callV hD rfl (As := [.inl v1_40]) (st := []) rfl (by decide) rfl rfl (gr_lV hws rfl) (Nat.le_of_ble_eq_true rfl) (gz_Ev_mono (d := 1) (by decide) E66) ?_
          show gv_X _ _ (98, [(0, .inr (.inr (some 0))), (1, .inl v1_40)], [.inl z66], gr_sh ++ ext, gr_h I38 J39)
          refine gv_if_eq (t := 126) hD rfl rfl ⟨by omega, by omega⟩ (fun c67 => ?_) (fun c67 => ?_)
          · exact L126 (by omega)
          · exact L101 (by omega)
  have L163 : ∀ (n : Nat) (I68 : gr_I) (J69 : gr_J) (v1_70 : Int), (1001 - v1_70).toNat < n → gr_Inv I68 → gr_fr [71, 72, 73, 74, 75] [] I I68 → gr_fj [71, 72, 73, 74, 75] [] J J69 → ((0 ≤ v1_70 ∧ v1_70 ≤ 1000) ∧ (I 0 73 ≤ I68 0 72) ∧ (I68 0 72 < I68 0 69) ∧ (I68 0 69 = I 0 69) ∧ (v1_70 ≤ I68 0 69) ∧ (I68 0 71 = 2) ∧ (I68 0 72 < v1_70 ∨ (v1_70 = I68 0 72 ∧ 48 ≤ I68 57 (Int.toNat v1_70) ∧ I68 57 (Int.toNat v1_70) ≤ 57)) ∧ ((v1_70 - I68 0 72 = 0 ∧ I68 0 74 ≤ 0) ∨ (v1_70 - I68 0 72 = 1 ∧ I68 0 74 ≤ 9) ∨ (v1_70 - I68 0 72 = 2 ∧ I68 0 74 ≤ 99) ∨ (v1_70 - I68 0 72 = 3 ∧ I68 0 74 ≤ 999) ∨ (v1_70 - I68 0 72 = 4 ∧ I68 0 74 ≤ 9999) ∨ (v1_70 - I68 0 72 = 5 ∧ I68 0 74 ≤ 99999) ∨ (v1_70 - I68 0 72 = 6 ∧ I68 0 74 ≤ 999999))) → gv_X (gr_E ws0 tb 9 (yX13_next, cX13_next, 2, none) kX13_next) (gv_Q cX13_next none (gr_sh ++ ext) (fun r hₚ => (∃ (Iₚ : gr_I) (Jₚ : gr_J), hₚ = gr_h Iₚ Jₚ ∧ gr_Inv Iₚ ∧ gr_fr [71, 72, 73, 74, 75] [] I Iₚ ∧ gr_fj [71, 72, 73, 74, 75] [] J Jₚ ∧ r = none ∧ (I 0 73 ≤ Iₚ 0 72 ∧ Iₚ 0 69 = I 0 69 ∧ Iₚ 0 72 ≤ I 0 69) ∧ (Iₚ 0 72 ≤ Iₚ 0 73) ∧ (Iₚ 0 71 = 0 ∨ (Iₚ 0 72 < Iₚ 0 73 ∧ Iₚ 0 72 < I 0 69)) ∧ (Iₚ 0 71 = 5 ∨ Iₚ 0 73 ≤ I 0 69) ∧ (Iₚ 0 71 = 3 → 2 ≤ Iₚ 0 73 - Iₚ 0 72 ∧ Iₚ 0 73 - Iₚ 0 72 ≤ 14)))) (163, [(0, .inr (.inr (some 0))), (1, .inl v1_70)], [], gr_sh ++ ext, gr_h I68 J69) := by
    intro n
    induction n with
    | zero => intro I68 J69 v1_70 hn; omega
    | succ n ih163 =>
      intro I68 J69 v1_70 hn hI68 FI68 FJ69 m_70
      obtain ⟨hv1_70, e0_70, e1_70, e2_70, e3_70, e4_70, e5_70, e6_70⟩ := m_70
      have f71 := (gr_b_0_72 hI68)
      have f72 := (gr_b_0_73 hI68)
      have f73 := (gr_b_0_69 hI68)
      have f74 := (gr_b_0_74 hI68)
      have f75 := (gr_b_0_71 hI68)
      have f76 := (gr_b_0_72 hI68)
      refine gv_run 5 true hD (pcₚ := 171) (lvₚ := [(0, .inr (.inr (some 0))), (1, .inl v1_70)]) (stₚ := [.inl ((I68 0 72) + 6), .inl v1_70]) (hₚ := gr_h I68 J69) (C := (((((True ∧ True) ∧ True) ∧ True) ∧ True) ∧ True)) rfl ⟨⟨⟨⟨⟨trivial, trivial⟩, trivial⟩, trivial⟩, trivial⟩, trivial⟩ ?_
      refine gv_icmp_ge (t := 309) hD rfl rfl ⟨⟨by omega, by omega⟩, ⟨by omega, by omega⟩⟩ (fun c77 => ?_) (fun c77 => ?_)
      · exact L309 I68 J69 v1_70 hI68 FI68 FJ69 (by omega)
      · refine gv_run 2 true hD (pcₚ := 176) (lvₚ := [(0, .inr (.inr (some 0))), (1, .inl v1_70)]) (stₚ := [.inl v1_70, .inr (.inr (some 0))]) (hₚ := gr_h I68 J69) (C := ((True ∧ True) ∧ True)) rfl ⟨⟨trivial, trivial⟩, trivial⟩ ?_
        obtain ⟨r78, h78, E78, P78⟩ := r_dig (ws0 := ws0) (tb := tb) hws htb ext I68 J69 hI68 v1_70 ⟨by omega, by omega⟩ 
        obtain ⟨rfl, ⟨z78, rfl, q78⟩⟩ := P78
        refine gv_callV hD rfl (As := [.inl v1_70]) (st := []) rfl (by decide) rfl rfl (gr_lV hws rfl) (Nat.le_of_ble_eq_true rfl) (gz_Ev_mono (d := 1) (by decide) E78) ?_
        show gv_X _ _ (179, [(0, .inr (.inr (some 0))), (1, .inl v1_70)], [.inl z78], gr_sh ++ ext, gr_h I68 J69)
        refine gv_if_eq (t := 309) hD rfl rfl ⟨by omega, by omega⟩ (fun c79 => ?_) (fun c79 => ?_)
        · exact L309 I68 J69 v1_70 hI68 FI68 FJ69 (by omega)
        · have f80 := (gr_b_0_74 hI68)
          refine gv_run 7 true hD (pcₚ := 194) (lvₚ := [(0, .inr (.inr (some 0))), (1, .inl v1_70)]) (stₚ := [.inr (.inr (some 57)), .inl (10 * (I68 0 74)), .inr (.inr (some 0))]) (hₚ := gr_h I68 J69) (C := (((((((True ∧ True) ∧ True) ∧ True) ∧ True) ∧ True) ∧ True) ∧ True)) rfl ⟨⟨⟨⟨⟨⟨⟨trivial, trivial⟩, trivial⟩, trivial⟩, trivial⟩, trivial⟩, trivial⟩, trivial⟩ ?_
          have f81 := (gr_b_57 hI68 (Int.toNat v1_70))
          refine gv_run 2 true hD (pcₚ := 196) (lvₚ := [(0, .inr (.inr (some 0))), (1, .inl v1_70)]) (stₚ := [.inl (I68 57 (Int.toNat v1_70)), .inl (10 * (I68 0 74)), .inr (.inr (some 0))]) (hₚ := gr_h I68 J69) (C := ((True ∧ True) ∧ (0 ≤ v1_70 ∧ v1_70 < ((1000 : Nat) : Int)))) rfl ⟨⟨trivial, trivial⟩, ⟨by omega, by omega⟩⟩ ?_
          refine gv_run 3 true hD (pcₚ := 200) (lvₚ := [(0, .inr (.inr (some 0))), (1, .inl v1_70)]) (stₚ := [.inl (((10 * (I68 0 74)) + (I68 57 (Int.toNat v1_70))) - 48), .inr (.inr (some 0))]) (hₚ := gr_h I68 J69) (C := (((True ∧ True) ∧ True) ∧ True)) rfl ⟨⟨⟨trivial, trivial⟩, trivial⟩, trivial⟩ ?_
          refine gv_run 1 true hD (pcₚ := 203) (lvₚ := [(0, .inr (.inr (some 0))), (1, .inl v1_70)]) (stₚ := []) (hₚ := gz_up (gr_h I68 J69) 0 74 (.inl ((((10 * (I68 0 74)) + (I68 57 (Int.toNat v1_70))) - 48)))) (C := (True ∧ True)) rfl ⟨trivial, trivial⟩ ?_
          refine gr_st hI68 FI68 rfl rfl ⟨⟨by show 0 ≤ _; omega, by show _ ≤ 999999; omega⟩, trivial⟩ (fun I82 hI82 FI82 q83 p83 => ?_)
          have t84 := p83 0 72 (by decide)
          have t85 := p83 0 73 (by decide)
          have t86 := p83 0 69 (by decide)
          have t87 := p83 0 71 (by decide)
          have t88 := p83 57 (Int.toNat v1_70) (fun q => absurd q.1 (by decide))
          have f89 := (gr_b_0_72 hI82)
          have f90 := (gr_b_0_73 hI82)
          have f91 := (gr_b_0_69 hI82)
          have f92 := (gr_b_0_74 hI82)
          have f93 := (gr_b_0_71 hI82)
          refine gv_run 2 true hD (pcₚ := 163) (lvₚ := [(1, .inl (v1_70 + 1)), (0, .inr (.inr (some 0)))]) (stₚ := []) (hₚ := gr_h I82 J69) (C := ((True ∧ True) ∧ True)) rfl ⟨⟨trivial, trivial⟩, trivial⟩ ?_
          refine gv_pick [1, 0] rfl ?_
          exact ih163 I82 J69 (v1_70 + 1) (by omega) hI82 FI82 FJ69 (by omega)
  have L223 : ∀ (n : Nat) (I94 : gr_I) (J95 : gr_J) (v1_96 : Int), (1001 - v1_96).toNat < n → gr_Inv I94 → gr_fr [71, 72, 73, 74, 75] [] I I94 → gr_fj [71, 72, 73, 74, 75] [] J J95 → ((1 ≤ v1_96 ∧ v1_96 ≤ 1000) ∧ (I 0 73 ≤ I94 0 72) ∧ (I94 0 72 < I94 0 69) ∧ (I94 0 69 = I 0 69) ∧ (v1_96 ≤ I94 0 69) ∧ (I94 0 72 < v1_96) ∧ (v1_96 - I94 0 72 ≤ 13)) → gv_X (gr_E ws0 tb 9 (yX13_next, cX13_next, 2, none) kX13_next) (gv_Q cX13_next none (gr_sh ++ ext) (fun r hₚ => (∃ (Iₚ : gr_I) (Jₚ : gr_J), hₚ = gr_h Iₚ Jₚ ∧ gr_Inv Iₚ ∧ gr_fr [71, 72, 73, 74, 75] [] I Iₚ ∧ gr_fj [71, 72, 73, 74, 75] [] J Jₚ ∧ r = none ∧ (I 0 73 ≤ Iₚ 0 72 ∧ Iₚ 0 69 = I 0 69 ∧ Iₚ 0 72 ≤ I 0 69) ∧ (Iₚ 0 72 ≤ Iₚ 0 73) ∧ (Iₚ 0 71 = 0 ∨ (Iₚ 0 72 < Iₚ 0 73 ∧ Iₚ 0 72 < I 0 69)) ∧ (Iₚ 0 71 = 5 ∨ Iₚ 0 73 ≤ I 0 69) ∧ (Iₚ 0 71 = 3 → 2 ≤ Iₚ 0 73 - Iₚ 0 72 ∧ Iₚ 0 73 - Iₚ 0 72 ≤ 14)))) (223, [(0, .inr (.inr (some 0))), (1, .inl v1_96)], [], gr_sh ++ ext, gr_h I94 J95) := by
    intro n
    induction n with
    | zero => intro I94 J95 v1_96 hn; omega
    | succ n ih223 =>
      intro I94 J95 v1_96 hn hI94 FI94 FJ95 m_96
      obtain ⟨hv1_96, e0_96, e1_96, e2_96, e3_96, e4_96, e5_96⟩ := m_96
      have f97 := (gr_b_0_72 hI94)
      have f98 := (gr_b_0_73 hI94)
      have f99 := (gr_b_0_69 hI94)
      have f100 := (gr_b_0_74 hI94)
      have f101 := (gr_b_0_71 hI94)
      have L248 : ((1 ≤ v1_96 ∧ v1_96 ≤ 1000) ∧ (I 0 73 ≤ I94 0 72) ∧ (I94 0 72 < I94 0 69) ∧ (I94 0 69 = I 0 69) ∧ (v1_96 ≤ I94 0 69) ∧ (I94 0 72 < v1_96) ∧ (v1_96 - I94 0 72 ≤ 13)) → gv_X (gr_E ws0 tb 9 (yX13_next, cX13_next, 2, none) kX13_next) (gv_Q cX13_next none (gr_sh ++ ext) (fun r hₚ => (∃ (Iₚ : gr_I) (Jₚ : gr_J), hₚ = gr_h Iₚ Jₚ ∧ gr_Inv Iₚ ∧ gr_fr [71, 72, 73, 74, 75] [] I Iₚ ∧ gr_fj [71, 72, 73, 74, 75] [] J Jₚ ∧ r = none ∧ (I 0 73 ≤ Iₚ 0 72 ∧ Iₚ 0 69 = I 0 69 ∧ Iₚ 0 72 ≤ I 0 69) ∧ (Iₚ 0 72 ≤ Iₚ 0 73) ∧ (Iₚ 0 71 = 0 ∨ (Iₚ 0 72 < Iₚ 0 73 ∧ Iₚ 0 72 < I 0 69)) ∧ (Iₚ 0 71 = 5 ∨ Iₚ 0 73 ≤ I 0 69) ∧ (Iₚ 0 71 = 3 → 2 ≤ Iₚ 0 73 - Iₚ 0 72 ∧ Iₚ 0 73 - Iₚ 0 72 ≤ 14)))) (248, [(0, .inr (.inr (some 0))), (1, .inl v1_96)], [], gr_sh ++ ext, gr_h I94 J95) := by
        intro m_102
        obtain ⟨hv1_96_102, e0_102, e1_102, e2_102, e3_102, e4_102, e5_102⟩ := m_102
        have f103 := (gr_b_0_72 hI94)
        have f104 := (gr_b_0_73 hI94)
        have f105 := (gr_b_0_69 hI94)
        have f106 := (gr_b_0_74 hI94)
        have f107 := (gr_b_0_71 hI94)
        have L273 : ∀ (s1_108 : Int), ((1 ≤ v1_96 ∧ v1_96 ≤ 1000) ∧ (3 ≤ s1_108 ∧ s1_108 ≤ 5) ∧ (I 0 73 ≤ I94 0 72) ∧ (I94 0 72 < I94 0 69) ∧ (I94 0 69 = I 0 69) ∧ (v1_96 ≤ I94 0 69) ∧ (I94 0 72 < v1_96) ∧ (v1_96 - I94 0 72 ≤ 13) ∧ (s1_108 = 5 ∨ v1_96 < I94 0 69)) → gv_X (gr_E ws0 tb 9 (yX13_next, cX13_next, 2, none) kX13_next) (gv_Q cX13_next none (gr_sh ++ ext) (fun r hₚ => (∃ (Iₚ : gr_I) (Jₚ : gr_J), hₚ = gr_h Iₚ Jₚ ∧ gr_Inv Iₚ ∧ gr_fr [71, 72, 73, 74, 75] [] I Iₚ ∧ gr_fj [71, 72, 73, 74, 75] [] J Jₚ ∧ r = none ∧ (I 0 73 ≤ Iₚ 0 72 ∧ Iₚ 0 69 = I 0 69 ∧ Iₚ 0 72 ≤ I 0 69) ∧ (Iₚ 0 72 ≤ Iₚ 0 73) ∧ (Iₚ 0 71 = 0 ∨ (Iₚ 0 72 < Iₚ 0 73 ∧ Iₚ 0 72 < I 0 69)) ∧ (Iₚ 0 71 = 5 ∨ Iₚ 0 73 ≤ I 0 69) ∧ (Iₚ 0 71 = 3 → 2 ≤ Iₚ 0 73 - Iₚ 0 72 ∧ Iₚ 0 73 - Iₚ 0 72 ≤ 14)))) (273, [(0, .inr (.inr (some 0))), (1, .inl v1_96)], [.inl s1_108, .inr (.inr (some 0))], gr_sh ++ ext, gr_h I94 J95) := by
          intro s1_108 m_108
          obtain ⟨hv1_96_108, hs1_108, e0_108, e1_108, e2_108, e3_108, e4_108, e5_108, e6_108⟩ := m_108
          have f109 := (gr_b_0_72 hI94)
          have f110 := (gr_b_0_73 hI94)
          have f111 := (gr_b_0_69 hI94)
          have f112 := (gr_b_0_74 hI94)
          have f113 := (gr_b_0_71 hI94)
          refine gv_run 1 true hD (pcₚ := 276) (lvₚ := [(0, .inr (.inr (some 0))), (1, .inl v1_96)]) (stₚ := []) (hₚ := gz_up (gr_h I94 J95) 0 71 (.inl s1_108)) (C := (True ∧ True)) rfl ⟨trivial, trivial⟩ ?_
          refine gr_st hI94 FI94 rfl rfl ⟨⟨by show 0 ≤ _; omega, by show _ ≤ 5; omega⟩, trivial⟩ (fun I114 hI114 FI114 q115 p115 => ?_)
          have t116 := p115 0 72 (by decide)
          have t117 := p115 0 73 (by decide)
          have t118 := p115 0 69 (by decide)
          have t119 := p115 0 74 (by decide)
          have t120 := p115 57 (Int.toNat v1_96) (fun q => absurd q.1 (by decide))
          have f121 := (gr_b_0_72 hI114)
          have f122 := (gr_b_0_73 hI114)
          have f123 := (gr_b_0_69 hI114)
          have f124 := (gr_b_0_74 hI114)
          have f125 := (gr_b_0_71 hI114)
          refine gv_run 2 true hD (pcₚ := 309) (lvₚ := [(1, .inl (v1_96 + 1)), (0, .inr (.inr (some 0)))]) (stₚ := []) (hₚ := gr_h I114 J95) (C := ((True ∧ True) ∧ True)) rfl ⟨⟨trivial, trivial⟩, trivial⟩ ?_
          refine gv_pick [1, 0] rfl ?_
          exact L309 I114 J95 (v1_96 + 1) hI114 FI114 FJ95 (by omega)
        have L272 : ((1 ≤ v1_96 ∧ v1_96 ≤ 1000) ∧ (I 0 73 ≤ I94 0 72) ∧ (I94 0 72 < I94 0 69) ∧ (I94 0 69 = I 0 69) ∧ (v1_96 ≤ I94 0 69) ∧ (I94 0 72 < v1_96) ∧ (v1_96 - I94 0 72 ≤ 13)) → gv_X (gr_E ws0 tb 9 (yX13_next, cX13_next, 2, none) kX13_next) (gv_Q cX13_next none (gr_sh ++ ext) (fun r hₚ => (∃ (Iₚ : gr_I) (Jₚ : gr_J), hₚ = gr_h Iₚ Jₚ ∧ gr_Inv Iₚ ∧ gr_fr [71, 72, 73, 74, 75] [] I Iₚ ∧ gr_fj [71, 72, 73, 74, 75] [] J Jₚ ∧ r = none ∧ (I 0 73 ≤ Iₚ 0 72 ∧ Iₚ 0 69 = I 0 69 ∧ Iₚ 0 72 ≤ I 0 69) ∧ (Iₚ 0 72 ≤ Iₚ 0 73) ∧ (Iₚ 0 71 = 0 ∨ (Iₚ 0 72 < Iₚ 0 73 ∧ Iₚ 0 72 < I 0 69)) ∧ (Iₚ 0 71 = 5 ∨ Iₚ 0 73 ≤ I 0 69) ∧ (Iₚ 0 71 = 3 → 2 ≤ Iₚ 0 73 - Iₚ 0 72 ∧ Iₚ 0 73 - Iₚ 0 72 ≤ 14)))) (272, [(0, .inr (.inr (some 0))), (1, .inl v1_96)], [.inr (.inr (some 0))], gr_sh ++ ext, gr_h I94 J95) := by
          intro m_126
          obtain ⟨hv1_96_126, e0_126, e1_126, e2_126, e3_126, e4_126, e5_126⟩ := m_126
          have f127 := (gr_b_0_72 hI94)
          have f128 := (gr_b_0_73 hI94)
          have f129 := (gr_b_0_69 hI94)
          have f130 := (gr_b_0_74 hI94)
          have f131 := (gr_b_0_71 hI94)
          refine gv_run 1 true hD (pcₚ := 273) (lvₚ := [(0, .inr (.inr (some 0))), (1, .inl v1_96)]) (stₚ := [.inl 5, .inr (.inr (some 0))]) (hₚ := gr_h I94 J95) (C := (True ∧ True)) rfl ⟨trivial, trivial⟩ ?_
          exact L273 5 (by omega)
        have f132 := (gr_b_0_69 hI94)
        refine gv_run 4 true hD (pcₚ := 254) (lvₚ := [(0, .inr (.inr (some 0))), (1, .inl v1_96)]) (stₚ := [.inl (I94 0 69), .inl v1_96, .inr (.inr (some 0))]) (hₚ := gr_h I94 J95) (C := ((((True ∧ True) ∧ True) ∧ True) ∧ True)) rfl ⟨⟨⟨⟨trivial, trivial⟩, trivial⟩, trivial⟩, trivial⟩ ?_
        refine gv_icmp_ge (t := 272) hD rfl rfl ⟨⟨by omega, by omega⟩, ⟨by omega, by omega⟩⟩ (fun c133 => ?_) (fun c133 => ?_)
        · exact L272 (by omega)
        · have f134 := (gr_b_57 hI94 (Int.toNat v1_96))
          refine gv_run 4 true hD (pcₚ := 263) (lvₚ := [(0, .inr (.inr (some 0))), (1, .inl v1_96)]) (stₚ := [.inl (I94 57 (Int.toNat v1_96)), .inr (.inr (some 0))]) (hₚ := gr_h I94 J95) (C := ((((True ∧ True) ∧ True) ∧ True) ∧ (0 ≤ v1_96 ∧ v1_96 < ((1000 : Nat) : Int)))) rfl ⟨⟨⟨⟨trivial, trivial⟩, trivial⟩, trivial⟩, ⟨by omega, by omega⟩⟩ ?_
          refine gv_run 1 true hD (pcₚ := 265) (lvₚ := [(0, .inr (.inr (some 0))), (1, .inl v1_96)]) (stₚ := [.inl 39, .inl (I94 57 (Int.toNat v1_96)), .inr (.inr (some 0))]) (hₚ := gr_h I94 J95) (C := (True ∧ True)) rfl ⟨trivial, trivial⟩ ?_
          refine gv_icmp_ne (t := 272) hD rfl rfl ⟨⟨by omega, by omega⟩, ⟨by omega, by omega⟩⟩ (fun c135 => ?_) (fun c135 => ?_)
          · exact L272 (by omega)
          · refine gv_run 2 true hD (pcₚ := 273) (lvₚ := [(0, .inr (.inr (some 0))), (1, .inl v1_96)]) (stₚ := [.inl 3, .inr (.inr (some 0))]) (hₚ := gr_h I94 J95) (C := ((True ∧ True) ∧ True)) rfl ⟨⟨trivial, trivial⟩, trivial⟩ ?_
            exact L273 3 (by omega)
      have f136 := (gr_b_0_72 hI94)
      refine gv_run 5 true hD (pcₚ := 231) (lvₚ := [(0, .inr (.inr (some 0))), (1, .inl v1_96)]) (stₚ := [.inl ((I94 0 72) + 13), .inl v1_96]) (hₚ := gr_h I94 J95) (C := (((((True ∧ True) ∧ True) ∧ True) ∧ True) ∧ True)) rfl ⟨⟨⟨⟨⟨trivial, trivial⟩, trivial⟩, trivial⟩, trivial⟩, trivial⟩ ?_
      refine gv_icmp_ge (t := 248) hD rfl rfl ⟨⟨by omega, by omega⟩, ⟨by omega, by omega⟩⟩ (fun c137 => ?_) (fun c137 => ?_)
      · exact L248 (by omega)
      · refine gv_run 2 true hD (pcₚ := 236) (lvₚ := [(0, .inr (.inr (some 0))), (1, .inl v1_96)]) (stₚ := [.inl v1_96, .inr (.inr (some 0))]) (hₚ := gr_h I94 J95) (C := ((True ∧ True) ∧ True)) rfl ⟨⟨trivial, trivial⟩, trivial⟩ ?_
        obtain ⟨r138, h138, E138, P138⟩ := r_low (ws0 := ws0) (tb := tb) hws htb ext I94 J95 hI94 v1_96 ⟨by omega, by omega⟩ 
        obtain ⟨rfl, ⟨z138, rfl, q138⟩⟩ := P138
        refine gv_callV hD rfl (As := [.inl v1_96]) (st := []) rfl (by decide) rfl rfl (gr_lV hws rfl) (Nat.le_of_ble_eq_true rfl) (gz_Ev_mono (d := 1) (by decide) E138) ?_
        show gv_X _ _ (239, [(0, .inr (.inr (some 0))), (1, .inl v1_96)], [.inl z138], gr_sh ++ ext, gr_h I94 J95)
        refine gv_if_eq (t := 248) hD rfl rfl ⟨by omega, by omega⟩ (fun c139 => ?_) (fun c139 => ?_)
        · exact L248 (by omega)
        · refine gv_run 2 true hD (pcₚ := 223) (lvₚ := [(1, .inl (v1_96 + 1)), (0, .inr (.inr (some 0)))]) (stₚ := []) (hₚ := gr_h I94 J95) (C := ((True ∧ True) ∧ True)) rfl ⟨⟨trivial, trivial⟩, trivial⟩ ?_
          refine gv_pick [1, 0] rfl ?_
          exact ih223 I94 J95 (v1_96 + 1) (by omega) hI94 FI94 FJ95 (by omega)
  have L303 : ∀ (I140 : gr_I) (J141 : gr_J) (s1_142 : Int), gr_Inv I140 → gr_fr [71, 72, 73, 74, 75] [] I I140 → gr_fj [71, 72, 73, 74, 75] [] J J141 → ((0 ≤ v1_6 ∧ v1_6 ≤ 999) ∧ (4 ≤ s1_142 ∧ s1_142 ≤ 5) ∧ (I 0 73 ≤ I140 0 72) ∧ (I140 0 72 < I140 0 69) ∧ (I140 0 69 = I 0 69) ∧ (v1_6 = I140 0 72)) → gv_X (gr_E ws0 tb 9 (yX13_next, cX13_next, 2, none) kX13_next) (gv_Q cX13_next none (gr_sh ++ ext) (fun r hₚ => (∃ (Iₚ : gr_I) (Jₚ : gr_J), hₚ = gr_h Iₚ Jₚ ∧ gr_Inv Iₚ ∧ gr_fr [71, 72, 73, 74, 75] [] I Iₚ ∧ gr_fj [71, 72, 73, 74, 75] [] J Jₚ ∧ r = none ∧ (I 0 73 ≤ Iₚ 0 72 ∧ Iₚ 0 69 = I 0 69 ∧ Iₚ 0 72 ≤ I 0 69) ∧ (Iₚ 0 72 ≤ Iₚ 0 73) ∧ (Iₚ 0 71 = 0 ∨ (Iₚ 0 72 < Iₚ 0 73 ∧ Iₚ 0 72 < I 0 69)) ∧ (Iₚ 0 71 = 5 ∨ Iₚ 0 73 ≤ I 0 69) ∧ (Iₚ 0 71 = 3 → 2 ≤ Iₚ 0 73 - Iₚ 0 72 ∧ Iₚ 0 73 - Iₚ 0 72 ≤ 14)))) (303, [(0, .inr (.inr (some 0))), (1, .inl v1_6)], [.inl s1_142, .inr (.inr (some 0))], gr_sh ++ ext, gr_h I140 J141) := by
    intro I140 J141 s1_142 hI140 FI140 FJ141 m_142
    obtain ⟨hv1_6_142, hs1_142, e0_142, e1_142, e2_142, e3_142⟩ := m_142
    have f143 := (gr_b_0_72 hI140)
    have f144 := (gr_b_0_73 hI140)
    have f145 := (gr_b_0_69 hI140)
    have f146 := (gr_b_0_74 hI140)
    have f147 := (gr_b_0_71 hI140)
    refine gv_run 1 true hD (pcₚ := 306) (lvₚ := [(0, .inr (.inr (some 0))), (1, .inl v1_6)]) (stₚ := []) (hₚ := gz_up (gr_h I140 J141) 0 71 (.inl s1_142)) (C := (True ∧ True)) rfl ⟨trivial, trivial⟩ ?_
    refine gr_st hI140 FI140 rfl rfl ⟨⟨by show 0 ≤ _; omega, by show _ ≤ 5; omega⟩, trivial⟩ (fun I148 hI148 FI148 q149 p149 => ?_)
    have t150 := p149 0 72 (by decide)
    have t151 := p149 0 73 (by decide)
    have t152 := p149 0 69 (by decide)
    have t153 := p149 0 74 (by decide)
    have t154 := p149 57 (Int.toNat v1_6) (fun q => absurd q.1 (by decide))
    have f155 := (gr_b_0_72 hI148)
    have f156 := (gr_b_0_73 hI148)
    have f157 := (gr_b_0_69 hI148)
    have f158 := (gr_b_0_74 hI148)
    have f159 := (gr_b_0_71 hI148)
    refine gv_run 1 true hD (pcₚ := 309) (lvₚ := [(1, .inl (v1_6 + 1)), (0, .inr (.inr (some 0)))]) (stₚ := []) (hₚ := gr_h I148 J141) (C := (True ∧ True)) rfl ⟨trivial, trivial⟩ ?_
    refine gv_pick [1, 0] rfl ?_
    exact L309 I148 J141 (v1_6 + 1) hI148 FI148 FJ141 (by omega)
  refine gv_run 3 true hD (pcₚ := 35) (lvₚ := [(0, .inr (.inr (some 0))), (1, .inl v1_6)]) (stₚ := []) (hₚ := gz_up (gr_h I J) 0 72 (.inl v1_6)) (C := (((True ∧ True) ∧ True) ∧ True)) rfl ⟨⟨⟨trivial, trivial⟩, trivial⟩, trivial⟩ ?_
  refine gr_st hI FI rfl rfl ⟨⟨by show 0 ≤ _; omega, by show _ ≤ 1000; omega⟩, trivial⟩ (fun I160 hI160 FI160 q161 p161 => ?_)
  have t162 := p161 0 73 (by decide)
  have t163 := p161 0 69 (by decide)
  have t164 := p161 0 74 (by decide)
  have t165 := p161 0 71 (by decide)
  have t166 := p161 57 (Int.toNat v1_6) (fun q => absurd q.1 (by decide))
  have f167 := (gr_b_0_72 hI160)
  have f168 := (gr_b_0_73 hI160)
  have f169 := (gr_b_0_69 hI160)
  have f170 := (gr_b_0_74 hI160)
  have f171 := (gr_b_0_71 hI160)
  refine gv_run 3 true hD (pcₚ := 40) (lvₚ := [(0, .inr (.inr (some 0))), (1, .inl v1_6)]) (stₚ := []) (hₚ := gz_up (gr_h I160 J) 0 74 (.inl 0)) (C := (((True ∧ True) ∧ True) ∧ True)) rfl ⟨⟨⟨trivial, trivial⟩, trivial⟩, trivial⟩ ?_
  refine gr_st hI160 FI160 rfl rfl ⟨⟨by show 0 ≤ _; omega, by show _ ≤ 999999; omega⟩, trivial⟩ (fun I172 hI172 FI172 q173 p173 => ?_)
  have t174 := p173 0 72 (by decide)
  have t175 := p173 0 73 (by decide)
  have t176 := p173 0 69 (by decide)
  have t177 := p173 0 71 (by decide)
  have t178 := p173 57 (Int.toNat v1_6) (fun q => absurd q.1 (by decide))
  have f179 := (gr_b_0_72 hI172)
  have f180 := (gr_b_0_73 hI172)
  have f181 := (gr_b_0_69 hI172)
  have f182 := (gr_b_0_74 hI172)
  have f183 := (gr_b_0_71 hI172)
  refine gv_run 3 true hD (pcₚ := 45) (lvₚ := [(0, .inr (.inr (some 0))), (1, .inl v1_6)]) (stₚ := []) (hₚ := gz_up (gr_h I172 J) 0 75 (.inr (.inl (Int64.ofNat 0)))) (C := (((True ∧ True) ∧ True) ∧ True)) rfl ⟨⟨⟨trivial, trivial⟩, trivial⟩, trivial⟩ ?_
  refine gr_stJ FJ rfl rfl (fun J184 FJ184 => ?_)
  have f185 := (gr_b_0_69 hI172)
  refine gv_run 3 true hD (pcₚ := 50) (lvₚ := [(0, .inr (.inr (some 0))), (1, .inl v1_6)]) (stₚ := [.inl (I172 0 69), .inl v1_6]) (hₚ := gr_h I172 J184) (C := (((True ∧ True) ∧ True) ∧ True)) rfl ⟨⟨⟨trivial, trivial⟩, trivial⟩, trivial⟩ ?_
  refine gv_icmp_ne (t := 61) hD rfl rfl ⟨⟨by omega, by omega⟩, ⟨by omega, by omega⟩⟩ (fun c186 => ?_) (fun c186 => ?_)
  · refine gv_run 2 true hD (pcₚ := 63) (lvₚ := [(0, .inr (.inr (some 0))), (1, .inl v1_6)]) (stₚ := [.inl v1_6, .inr (.inr (some 0))]) (hₚ := gr_h I172 J184) (C := ((True ∧ True) ∧ True)) rfl ⟨⟨trivial, trivial⟩, trivial⟩ ?_
    obtain ⟨r187, h187, E187, P187⟩ := r_low (ws0 := ws0) (tb := tb) hws htb ext I172 J184 hI172 v1_6 ⟨by omega, by omega⟩ 
    obtain ⟨rfl, ⟨z187, rfl, q187⟩⟩ := P187
    refine gv_callV hD rfl (As := [.inl v1_6]) (st := []) rfl (by decide) rfl rfl (gr_lV hws rfl) (Nat.le_of_ble_eq_true rfl) (gz_Ev_mono (d := 1) (by decide) E187) ?_
    show gv_X _ _ (66, [(0, .inr (.inr (some 0))), (1, .inl v1_6)], [.inl z187], gr_sh ++ ext, gr_h I172 J184)
    refine gv_if_eq (t := 150) hD rfl rfl ⟨by omega, by omega⟩ (fun c188 => ?_) (fun c188 => ?_)
    · refine gv_run 2 true hD (pcₚ := 152) (lvₚ := [(0, .inr (.inr (some 0))), (1, .inl v1_6)]) (stₚ := [.inl v1_6, .inr (.inr (some 0))]) (hₚ := gr_h I172 J184) (C := ((True ∧ True) ∧ True)) rfl ⟨⟨trivial, trivial⟩, trivial⟩ ?_
      obtain ⟨r189, h189, E189, P189⟩ := r_dig (ws0 := ws0) (tb := tb) hws htb ext I172 J184 hI172 v1_6 ⟨by omega, by omega⟩ 
      obtain ⟨rfl, ⟨z189, rfl, q189⟩⟩ := P189
      refine gv_callV hD rfl (As := [.inl v1_6]) (st := []) rfl (by decide) rfl rfl (gr_lV hws rfl) (Nat.le_of_ble_eq_true rfl) (gz_Ev_mono (d := 1) (by decide) E189) ?_
      show gv_X _ _ (155, [(0, .inr (.inr (some 0))), (1, .inl v1_6)], [.inl z189], gr_sh ++ ext, gr_h I172 J184)
      refine gv_if_eq (t := 209) hD rfl rfl ⟨by omega, by omega⟩ (fun c190 => ?_) (fun c190 => ?_)
      · have f191 := (gr_b_57 hI172 (Int.toNat v1_6))
        refine gv_run 4 true hD (pcₚ := 215) (lvₚ := [(0, .inr (.inr (some 0))), (1, .inl v1_6)]) (stₚ := [.inl (I172 57 (Int.toNat v1_6))]) (hₚ := gr_h I172 J184) (C := ((((True ∧ True) ∧ True) ∧ True) ∧ (0 ≤ v1_6 ∧ v1_6 < ((1000 : Nat) : Int)))) rfl ⟨⟨⟨⟨trivial, trivial⟩, trivial⟩, trivial⟩, ⟨by omega, by omega⟩⟩ ?_
        refine gv_run 1 true hD (pcₚ := 217) (lvₚ := [(0, .inr (.inr (some 0))), (1, .inl v1_6)]) (stₚ := [.inl 39, .inl (I172 57 (Int.toNat v1_6))]) (hₚ := gr_h I172 J184) (C := (True ∧ True)) rfl ⟨trivial, trivial⟩ ?_
        refine gv_icmp_ne (t := 282) hD rfl rfl ⟨⟨by omega, by omega⟩, ⟨by omega, by omega⟩⟩ (fun c192 => ?_) (fun c192 => ?_)
        · refine gv_run 1 true hD (pcₚ := 283) (lvₚ := [(0, .inr (.inr (some 0))), (1, .inl v1_6)]) (stₚ := [.inr (.inr (some 0))]) (hₚ := gr_h I172 J184) (C := (True ∧ True)) rfl ⟨trivial, trivial⟩ ?_
          refine gv_sg hD rfl rfl ?_
          have f193 := (gr_b_57 hI172 (Int.toNat v1_6))
          refine gv_run 4 true hD (pcₚ := 292) (lvₚ := [(0, .inr (.inr (some 0))), (1, .inl v1_6)]) (stₚ := [.inl (I172 57 (Int.toNat v1_6)), .inr (.inr (some 1005000)), .inr (.inr (some 0))]) (hₚ := gr_h I172 J184) (C := ((((True ∧ True) ∧ True) ∧ True) ∧ (0 ≤ v1_6 ∧ v1_6 < ((1000 : Nat) : Int)))) rfl ⟨⟨⟨⟨trivial, trivial⟩, trivial⟩, trivial⟩, ⟨by omega, by omega⟩⟩ ?_
          have f194 := gz_ixf_r ((I172 57 (Int.toNat v1_6)))
          refine gv_ix hD rfl (gr_lX hws) (Nat.le_of_ble_eq_true rfl) (gz_Ev_ix (by decide) ⟨by omega, by omega⟩) ?_
          show gv_X _ _ (295, [(0, .inr (.inr (some 0))), (1, .inl v1_6)], [.inl (gz_ixf ((I172 57 (Int.toNat v1_6)))), .inr (.inr (some 0))], gr_sh ++ ext, gr_h I172 J184)
          refine gv_if_lt (t := 302) hD rfl rfl ⟨by omega, by omega⟩ (fun c195 => ?_) (fun c195 => ?_)
          · refine gv_run 1 true hD (pcₚ := 303) (lvₚ := [(0, .inr (.inr (some 0))), (1, .inl v1_6)]) (stₚ := [.inl 5, .inr (.inr (some 0))]) (hₚ := gr_h I172 J184) (C := (True ∧ True)) rfl ⟨trivial, trivial⟩ ?_
            exact L303 I172 J184 5 hI172 FI172 FJ184 (by omega)
          · refine gv_run 2 true hD (pcₚ := 303) (lvₚ := [(0, .inr (.inr (some 0))), (1, .inl v1_6)]) (stₚ := [.inl 4, .inr (.inr (some 0))]) (hₚ := gr_h I172 J184) (C := ((True ∧ True) ∧ True)) rfl ⟨⟨trivial, trivial⟩, trivial⟩ ?_
            exact L303 I172 J184 4 hI172 FI172 FJ184 (by omega)
        · refine gv_run 1 true hD (pcₚ := 223) (lvₚ := [(1, .inl (v1_6 + 1)), (0, .inr (.inr (some 0)))]) (stₚ := []) (hₚ := gr_h I172 J184) (C := (True ∧ True)) rfl ⟨trivial, trivial⟩ ?_
          refine gv_pick [1, 0] rfl ?_
          exact L223 _ I172 J184 (v1_6 + 1) (Nat.lt_succ_self _) hI172 FI172 FJ184 (by omega)
      · refine gv_run 3 true hD (pcₚ := 163) (lvₚ := [(0, .inr (.inr (some 0))), (1, .inl v1_6)]) (stₚ := []) (hₚ := gz_up (gr_h I172 J184) 0 71 (.inl 2)) (C := (((True ∧ True) ∧ True) ∧ True)) rfl ⟨⟨⟨trivial, trivial⟩, trivial⟩, trivial⟩ ?_
        refine gr_st hI172 FI172 rfl rfl ⟨⟨by show 0 ≤ _; omega, by show _ ≤ 5; omega⟩, trivial⟩ (fun I196 hI196 FI196 q197 p197 => ?_)
        have t198 := p197 0 72 (by decide)
        have t199 := p197 0 73 (by decide)
        have t200 := p197 0 69 (by decide)
        have t201 := p197 0 74 (by decide)
        have t202 := p197 57 (Int.toNat v1_6) (fun q => absurd q.1 (by decide))
        have f203 := (gr_b_0_72 hI196)
        have f204 := (gr_b_0_73 hI196)
        have f205 := (gr_b_0_69 hI196)
        have f206 := (gr_b_0_74 hI196)
        have f207 := (gr_b_0_71 hI196)
        exact L163 _ I196 J184 v1_6 (Nat.lt_succ_self _) hI196 FI196 FJ184 (by omega)
    · refine gv_run 3 true hD (pcₚ := 74) (lvₚ := [(0, .inr (.inr (some 0))), (1, .inl v1_6)]) (stₚ := []) (hₚ := gz_up (gr_h I172 J184) 0 71 (.inl 1)) (C := (((True ∧ True) ∧ True) ∧ True)) rfl ⟨⟨⟨trivial, trivial⟩, trivial⟩, trivial⟩ ?_
      refine gr_st hI172 FI172 rfl rfl ⟨⟨by show 0 ≤ _; omega, by show _ ≤ 5; omega⟩, trivial⟩ (fun I208 hI208 FI208 q209 p209 => ?_)
      have t210 := p209 0 72 (by decide)
      have t211 := p209 0 73 (by decide)
      have t212 := p209 0 69 (by decide)
      have t213 := p209 0 74 (by decide)
      have t214 := p209 57 (Int.toNat v1_6) (fun q => absurd q.1 (by decide))
      have f215 := (gr_b_0_72 hI208)
      have f216 := (gr_b_0_73 hI208)
      have f217 := (gr_b_0_69 hI208)
      have f218 := (gr_b_0_74 hI208)
      have f219 := (gr_b_0_71 hI208)
      exact L74 _ I208 J184 v1_6 (Nat.lt_succ_self _) hI208 FI208 FJ184 (by omega)
  · refine gv_run 3 true hD (pcₚ := 58) (lvₚ := [(0, .inr (.inr (some 0))), (1, .inl v1_6)]) (stₚ := []) (hₚ := gz_up (gr_h I172 J184) 0 71 (.inl 0)) (C := (((True ∧ True) ∧ True) ∧ True)) rfl ⟨⟨⟨trivial, trivial⟩, trivial⟩, trivial⟩ ?_
    refine gr_st hI172 FI172 rfl rfl ⟨⟨by show 0 ≤ _; omega, by show _ ≤ 5; omega⟩, trivial⟩ (fun I220 hI220 FI220 q221 p221 => ?_)
    have t222 := p221 0 72 (by decide)
    have t223 := p221 0 73 (by decide)
    have t224 := p221 0 69 (by decide)
    have t225 := p221 0 74 (by decide)
    have t226 := p221 57 (Int.toNat v1_6) (fun q => absurd q.1 (by decide))
    have f227 := (gr_b_0_72 hI220)
    have f228 := (gr_b_0_73 hI220)
    have f229 := (gr_b_0_69 hI220)
    have f230 := (gr_b_0_74 hI220)
    have f231 := (gr_b_0_71 hI220)
    refine gv_run 1 true hD (pcₚ := 309) (lvₚ := [(0, .inr (.inr (some 0))), (1, .inl v1_6)]) (stₚ := []) (hₚ := gr_h I220 J184) (C := (True ∧ True)) rfl ⟨trivial, trivial⟩ ?_
    exact L309 I220 J184 v1_6 hI220 FI220 FJ184 (by omega)
set_option maxHeartbeats 8000000 in
set_option maxRecDepth 100000 in
theorem r_next {ws0 : List Cond} {tb : String → gz_T} (hws : ∀ w ∈ gr_ws, w ∈ ws0) (htb : tb RX13 = gr_T) (ext : gz_Sh) (I : gr_I) (J : gr_J) (hI : gr_Inv I)   (x0 : I 0 73 ≤ I 0 69) : ∃ r hₚ, gz_Ev ws0 tb 10 (yX13_next, cX13_next, 2, none) [.inr (.inr (some 0))] (gr_sh ++ ext) (gr_h I J) r (gr_sh ++ ext) hₚ 0 0 ∧ (∃ (Iₚ : gr_I) (Jₚ : gr_J), hₚ = gr_h Iₚ Jₚ ∧ gr_Inv Iₚ ∧ gr_fr [71, 72, 73, 74, 75] [] I Iₚ ∧ gr_fj [71, 72, 73, 74, 75] [] J Jₚ ∧ r = none ∧ (I 0 73 ≤ Iₚ 0 72 ∧ Iₚ 0 69 = I 0 69 ∧ Iₚ 0 72 ≤ I 0 69) ∧ (Iₚ 0 72 ≤ Iₚ 0 73) ∧ (Iₚ 0 71 = 0 ∨ (Iₚ 0 72 < Iₚ 0 73 ∧ Iₚ 0 72 < I 0 69)) ∧ (Iₚ 0 71 = 5 ∨ Iₚ 0 73 ≤ I 0 69) ∧ (Iₚ 0 71 = 3 → 2 ≤ Iₚ 0 73 - Iₚ 0 72 ∧ Iₚ 0 73 - Iₚ 0 72 ≤ 14)) := by
  have FI : gr_fr [71, 72, 73, 74, 75] [] I I := fun _ _ _ => rfl
  have FJ : gr_fj [71, 72, 73, 74, 75] [] J J := fun _ _ _ => rfl
  have hD : gv_D (gr_E ws0 tb 9 (yX13_next, cX13_next, 2, none) kX13_next) := gq_of oX13_next
  refine gr_ev (d := 9) (l := kX13_next) (Po := fun r hₚ => (∃ (Iₚ : gr_I) (Jₚ : gr_J), hₚ = gr_h Iₚ Jₚ ∧ gr_Inv Iₚ ∧ gr_fr [71, 72, 73, 74, 75] [] I Iₚ ∧ gr_fj [71, 72, 73, 74, 75] [] J Jₚ ∧ r = none ∧ (I 0 73 ≤ Iₚ 0 72 ∧ Iₚ 0 69 = I 0 69 ∧ Iₚ 0 72 ≤ I 0 69) ∧ (Iₚ 0 72 ≤ Iₚ 0 73) ∧ (Iₚ 0 71 = 0 ∨ (Iₚ 0 72 < Iₚ 0 73 ∧ Iₚ 0 72 < I 0 69)) ∧ (Iₚ 0 71 = 5 ∨ Iₚ 0 73 ≤ I 0 69) ∧ (Iₚ 0 71 = 3 → 2 ≤ Iₚ 0 73 - Iₚ 0 72 ∧ Iₚ 0 73 - Iₚ 0 72 ≤ 14))) htb rfl (Nat.le_of_ble_eq_true rfl) ?_
  have f1 := (gr_b_0_72 hI)
  have f2 := (gr_b_0_73 hI)
  have f3 := (gr_b_0_69 hI)
  have f4 := (gr_b_0_74 hI)
  have f5 := (gr_b_0_71 hI)
  have L5 : ∀ (n : Nat) (v1_6 : Int), (1001 - v1_6).toNat < n → ((0 ≤ v1_6 ∧ v1_6 ≤ 1000) ∧ (v1_6 ≤ I 0 69) ∧ (I 0 73 ≤ v1_6)) → gv_X (gr_E ws0 tb 9 (yX13_next, cX13_next, 2, none) kX13_next) (gv_Q cX13_next none (gr_sh ++ ext) (fun r hₚ => (∃ (Iₚ : gr_I) (Jₚ : gr_J), hₚ = gr_h Iₚ Jₚ ∧ gr_Inv Iₚ ∧ gr_fr [71, 72, 73, 74, 75] [] I Iₚ ∧ gr_fj [71, 72, 73, 74, 75] [] J Jₚ ∧ r = none ∧ (I 0 73 ≤ Iₚ 0 72 ∧ Iₚ 0 69 = I 0 69 ∧ Iₚ 0 72 ≤ I 0 69) ∧ (Iₚ 0 72 ≤ Iₚ 0 73) ∧ (Iₚ 0 71 = 0 ∨ (Iₚ 0 72 < Iₚ 0 73 ∧ Iₚ 0 72 < I 0 69)) ∧ (Iₚ 0 71 = 5 ∨ Iₚ 0 73 ≤ I 0 69) ∧ (Iₚ 0 71 = 3 → 2 ≤ Iₚ 0 73 - Iₚ 0 72 ∧ Iₚ 0 73 - Iₚ 0 72 ≤ 14)))) (5, [(0, .inr (.inr (some 0))), (1, .inl v1_6)], [], gr_sh ++ ext, gr_h I J) := by
    intro n
    induction n with
    | zero => intro v1_6 hn; omega
    | succ n ih5 =>
      intro v1_6 hn m_6
      obtain ⟨hv1_6, e0_6, e1_6⟩ := m_6
      have f7 := (gr_b_0_72 hI)
      have f8 := (gr_b_0_73 hI)
      have f9 := (gr_b_0_69 hI)
      have f10 := (gr_b_0_74 hI)
      have f11 := (gr_b_0_71 hI)
      have L30 : ((0 ≤ v1_6 ∧ v1_6 ≤ 1000) ∧ (v1_6 ≤ I 0 69) ∧ (I 0 73 ≤ v1_6)) → gv_X (gr_E ws0 tb 9 (yX13_next, cX13_next, 2, none) kX13_next) (gv_Q cX13_next none (gr_sh ++ ext) (fun r hₚ => (∃ (Iₚ : gr_I) (Jₚ : gr_J), hₚ = gr_h Iₚ Jₚ ∧ gr_Inv Iₚ ∧ gr_fr [71, 72, 73, 74, 75] [] I Iₚ ∧ gr_fj [71, 72, 73, 74, 75] [] J Jₚ ∧ r = none ∧ (I 0 73 ≤ Iₚ 0 72 ∧ Iₚ 0 69 = I 0 69 ∧ Iₚ 0 72 ≤ I 0 69) ∧ (Iₚ 0 72 ≤ Iₚ 0 73) ∧ (Iₚ 0 71 = 0 ∨ (Iₚ 0 72 < Iₚ 0 73 ∧ Iₚ 0 72 < I 0 69)) ∧ (Iₚ 0 71 = 5 ∨ Iₚ 0 73 ≤ I 0 69) ∧ (Iₚ 0 71 = 3 → 2 ≤ Iₚ 0 73 - Iₚ 0 72 ∧ Iₚ 0 73 - Iₚ 0 72 ≤ 14)))) (30, [(0, .inr (.inr (some 0))), (1, .inl v1_6)], [], gr_sh ++ ext, gr_h I J) := r_next_L30 (ws0 := ws0) (tb := tb) hws htb ext I J hI x0 v1_6
      have f232 := (gr_b_0_69 hI)
      refine gv_run 3 true hD (pcₚ := 10) (lvₚ := [(0, .inr (.inr (some 0))), (1, .inl v1_6)]) (stₚ := [.inl (I 0 69), .inl v1_6]) (hₚ := gr_h I J) (C := (((True ∧ True) ∧ True) ∧ True)) rfl ⟨⟨⟨trivial, trivial⟩, trivial⟩, trivial⟩ ?_
      refine gv_icmp_ge (t := 30) hD rfl rfl ⟨⟨by omega, by omega⟩, ⟨by omega, by omega⟩⟩ (fun c233 => ?_) (fun c233 => ?_)
      · exact L30 (by omega)
      · have f234 := (gr_b_57 hI (Int.toNat v1_6))
        refine gv_run 4 true hD (pcₚ := 19) (lvₚ := [(0, .inr (.inr (some 0))), (1, .inl v1_6)]) (stₚ := [.inl (I 57 (Int.toNat v1_6))]) (hₚ := gr_h I J) (C := ((((True ∧ True) ∧ True) ∧ True) ∧ (0 ≤ v1_6 ∧ v1_6 < ((1000 : Nat) : Int)))) rfl ⟨⟨⟨⟨trivial, trivial⟩, trivial⟩, trivial⟩, ⟨by omega, by omega⟩⟩ ?_
        refine gv_run 1 true hD (pcₚ := 21) (lvₚ := [(0, .inr (.inr (some 0))), (1, .inl v1_6)]) (stₚ := [.inl 32, .inl (I 57 (Int.toNat v1_6))]) (hₚ := gr_h I J) (C := (True ∧ True)) rfl ⟨trivial, trivial⟩ ?_
        refine gv_icmp_ne (t := 30) hD rfl rfl ⟨⟨by omega, by omega⟩, ⟨by omega, by omega⟩⟩ (fun c235 => ?_) (fun c235 => ?_)
        · exact L30 (by omega)
        · refine gv_run 2 true hD (pcₚ := 5) (lvₚ := [(1, .inl (v1_6 + 1)), (0, .inr (.inr (some 0)))]) (stₚ := []) (hₚ := gr_h I J) (C := ((True ∧ True) ∧ True)) rfl ⟨⟨trivial, trivial⟩, trivial⟩ ?_
          refine gv_pick [1, 0] rfl ?_
          exact ih5 (v1_6 + 1) (by omega) (by omega)
  have f236 := (gr_b_0_73 hI)
  refine gv_run 3 true hD (pcₚ := 5) (lvₚ := [(1, .inl (I 0 73)), (0, .inr (.inr (some 0)))]) (stₚ := []) (hₚ := gr_h I J) (C := (((True ∧ True) ∧ True) ∧ True)) rfl ⟨⟨⟨trivial, trivial⟩, trivial⟩, trivial⟩ ?_
  refine gv_pick [1, 0] rfl ?_
  exact L5 _ (I 0 73) (Nat.lt_succ_self _) (by omega)
