theorem gr_A9_c {β : Int → Int} {N p : Int} {I I' : gr_I} {J J' : gr_J} {e : Int} (h : gr_AT9 β N p I J e) (h1 : I' 0 71 = I 0 71) (h2 : I' 0 72 = I 0 72) (h3 : I' 0 74 = I 0 74) (h4 : J' 0 75 = J 0 75) : gr_AT9 β N p I' J' e := by
  unfold gr_AT9 at h ⊢
  rw [h1, h2, h3, h4]
  exact h
set_option maxHeartbeats 8000000 in
set_option maxRecDepth 100000 in
theorem r_next_p {ws0 : List Cond} {tb : String → gz_T} (hws : ∀ w ∈ gr_ws, w ∈ ws0) (htb : tb RX13 = gr_T) (ext : gz_Sh) (β : Int → Int) (N9 : Int) (I : gr_I) (J : gr_J) (hI : gr_Inv I)   (x0 : I 0 73 ≤ I 0 69) (x1 : gs_TX β N9 (I 57)) (x2 : N9 = I 0 69) : ∃ r h', gz_Ev ws0 tb 10 (yX13_next, cX13_next, 2, none) [.inr (.inr (some 0))] (gr_sh ++ ext) (gr_h I J) r (gr_sh ++ ext) h' 0 0 ∧ (∃ (I' : gr_I) (J' : gr_J), h' = gr_h I' J' ∧ gr_Inv I' ∧ gr_fr [71, 72, 73, 74, 75] [] I I' ∧ gr_fj [71, 72, 73, 74, 75] [] J J' ∧ r = none ∧ (I 0 73 ≤ I' 0 72 ∧ I' 0 69 = I 0 69 ∧ I' 0 72 ≤ I 0 69) ∧ (I' 0 72 ≤ I' 0 73) ∧ (I' 0 71 = 0 ∨ (I' 0 72 < I' 0 73 ∧ I' 0 72 < I 0 69)) ∧ (I' 0 71 = 5 ∨ I' 0 73 ≤ I 0 69) ∧ (I' 0 71 = 3 → 2 ≤ I' 0 73 - I' 0 72 ∧ I' 0 73 - I' 0 72 ≤ 14) ∧ (gr_ATp β N9 (I 0 73) I' J')) := by
  have FI : gr_fr [71, 72, 73, 74, 75] [] I I := fun _ _ _ => rfl
  have FJ : gr_fj [71, 72, 73, 74, 75] [] J J := fun _ _ _ => rfl
  have hD : gv_D (gr_E ws0 tb 9 (yX13_next, cX13_next, 2, none) kX13_next) := gq_of oX13_next
  refine gr_ev (d := 9) (l := kX13_next) (Po := fun r h' => (∃ (I' : gr_I) (J' : gr_J), h' = gr_h I' J' ∧ gr_Inv I' ∧ gr_fr [71, 72, 73, 74, 75] [] I I' ∧ gr_fj [71, 72, 73, 74, 75] [] J J' ∧ r = none ∧ (I 0 73 ≤ I' 0 72 ∧ I' 0 69 = I 0 69 ∧ I' 0 72 ≤ I 0 69) ∧ (I' 0 72 ≤ I' 0 73) ∧ (I' 0 71 = 0 ∨ (I' 0 72 < I' 0 73 ∧ I' 0 72 < I 0 69)) ∧ (I' 0 71 = 5 ∨ I' 0 73 ≤ I 0 69) ∧ (I' 0 71 = 3 → 2 ≤ I' 0 73 - I' 0 72 ∧ I' 0 73 - I' 0 72 ≤ 14) ∧ (gr_ATp β N9 (I 0 73) I' J'))) htb rfl (Nat.le_of_ble_eq_true rfl) ?_
  have f1 := (gr_b_0_72 hI)
  have f2 := (gr_b_0_73 hI)
  have f3 := (gr_b_0_69 hI)
  have f4 := (gr_b_0_74 hI)
  have f5 := (gr_b_0_71 hI)
  have L5 : ∀ (n : Nat) (v1_6 : Int), (1001 - v1_6).toNat < n → ((0 ≤ v1_6 ∧ v1_6 ≤ 1000) ∧ (v1_6 ≤ I 0 69) ∧ (I 0 73 ≤ v1_6)) → (gs_S β N9 (I 0 73) = gs_S β N9 v1_6) → gv_X (gr_E ws0 tb 9 (yX13_next, cX13_next, 2, none) kX13_next) (gv_Q cX13_next none (gr_sh ++ ext) (fun r h' => (∃ (I' : gr_I) (J' : gr_J), h' = gr_h I' J' ∧ gr_Inv I' ∧ gr_fr [71, 72, 73, 74, 75] [] I I' ∧ gr_fj [71, 72, 73, 74, 75] [] J J' ∧ r = none ∧ (I 0 73 ≤ I' 0 72 ∧ I' 0 69 = I 0 69 ∧ I' 0 72 ≤ I 0 69) ∧ (I' 0 72 ≤ I' 0 73) ∧ (I' 0 71 = 0 ∨ (I' 0 72 < I' 0 73 ∧ I' 0 72 < I 0 69)) ∧ (I' 0 71 = 5 ∨ I' 0 73 ≤ I 0 69) ∧ (I' 0 71 = 3 → 2 ≤ I' 0 73 - I' 0 72 ∧ I' 0 73 - I' 0 72 ≤ 14) ∧ (gr_ATp β N9 (I 0 73) I' J')))) (5, [(0, .inr (.inr (some 0))), (1, .inl v1_6)], [], gr_sh ++ ext, gr_h I J) := by
    intro n
    induction n with
    | zero => intro v1_6 hn; exact gz_m 0 (by omega)
    | succ n ih5 =>
      intro v1_6 hn m_6 e2_6
      obtain ⟨hv1_6, e0_6, e1_6⟩ := m_6
      have f7 := (gr_b_0_72 hI)
      have f8 := (gr_b_0_73 hI)
      have f9 := (gr_b_0_69 hI)
      have f10 := (gr_b_0_74 hI)
      have f11 := (gr_b_0_71 hI)
      have L30 : ((0 ≤ v1_6 ∧ v1_6 ≤ 1000) ∧ (v1_6 ≤ I 0 69) ∧ (I 0 73 ≤ v1_6)) → (gs_S β N9 (I 0 73) = v1_6) → gv_X (gr_E ws0 tb 9 (yX13_next, cX13_next, 2, none) kX13_next) (gv_Q cX13_next none (gr_sh ++ ext) (fun r h' => (∃ (I' : gr_I) (J' : gr_J), h' = gr_h I' J' ∧ gr_Inv I' ∧ gr_fr [71, 72, 73, 74, 75] [] I I' ∧ gr_fj [71, 72, 73, 74, 75] [] J J' ∧ r = none ∧ (I 0 73 ≤ I' 0 72 ∧ I' 0 69 = I 0 69 ∧ I' 0 72 ≤ I 0 69) ∧ (I' 0 72 ≤ I' 0 73) ∧ (I' 0 71 = 0 ∨ (I' 0 72 < I' 0 73 ∧ I' 0 72 < I 0 69)) ∧ (I' 0 71 = 5 ∨ I' 0 73 ≤ I 0 69) ∧ (I' 0 71 = 3 → 2 ≤ I' 0 73 - I' 0 72 ∧ I' 0 73 - I' 0 72 ≤ 14) ∧ (gr_ATp β N9 (I 0 73) I' J')))) (30, [(0, .inr (.inr (some 0))), (1, .inl v1_6)], [], gr_sh ++ ext, gr_h I J) := by
        intro m_12 e2_12
        obtain ⟨hv1_6_12, e0_12, e1_12⟩ := m_12
        have f13 := (gr_b_0_72 hI)
        have f14 := (gr_b_0_73 hI)
        have f15 := (gr_b_0_69 hI)
        have f16 := (gr_b_0_74 hI)
        have f17 := (gr_b_0_71 hI)
        have L309 : ∀ (I18 : gr_I) (J19 : gr_J) (v1_20 : Int), gr_Inv I18 → gr_fr [71, 72, 73, 74, 75] [] I I18 → gr_fj [71, 72, 73, 74, 75] [] J J19 → ((0 ≤ v1_20 ∧ v1_20 ≤ 1001) ∧ (I18 0 72 ≤ v1_20) ∧ (I 0 73 ≤ I18 0 72) ∧ (I18 0 69 = I 0 69) ∧ (I18 0 72 ≤ I18 0 69) ∧ (I18 0 71 = 0 ∨ (I18 0 72 < v1_20 ∧ I18 0 72 < I18 0 69)) ∧ (I18 0 71 = 5 ∨ v1_20 ≤ I18 0 69) ∧ (I18 0 71 = 3 → 2 ≤ v1_20 - I18 0 72 ∧ v1_20 - I18 0 72 ≤ 14)) → (gr_AT9 β N9 (I 0 73) I18 J19 v1_20) → gv_X (gr_E ws0 tb 9 (yX13_next, cX13_next, 2, none) kX13_next) (gv_Q cX13_next none (gr_sh ++ ext) (fun r h' => (∃ (I' : gr_I) (J' : gr_J), h' = gr_h I' J' ∧ gr_Inv I' ∧ gr_fr [71, 72, 73, 74, 75] [] I I' ∧ gr_fj [71, 72, 73, 74, 75] [] J J' ∧ r = none ∧ (I 0 73 ≤ I' 0 72 ∧ I' 0 69 = I 0 69 ∧ I' 0 72 ≤ I 0 69) ∧ (I' 0 72 ≤ I' 0 73) ∧ (I' 0 71 = 0 ∨ (I' 0 72 < I' 0 73 ∧ I' 0 72 < I 0 69)) ∧ (I' 0 71 = 5 ∨ I' 0 73 ≤ I 0 69) ∧ (I' 0 71 = 3 → 2 ≤ I' 0 73 - I' 0 72 ∧ I' 0 73 - I' 0 72 ≤ 14) ∧ (gr_ATp β N9 (I 0 73) I' J')))) (309, [(0, .inr (.inr (some 0))), (1, .inl v1_20)], [], gr_sh ++ ext, gr_h I18 J19) := by
          intro I18 J19 v1_20 hI18 FI18 FJ19 m_20 e7_20
          clear hv1_6_12 e0_12 e1_12 f13 f14 f15 f16 f17 hv1_6 e0_6 e1_6 f7 f8 f9 f10 f11
          obtain ⟨hv1_20, e0_20, e1_20, e2_20, e3_20, e4_20, e5_20, e6_20⟩ := m_20
          have f21 := (gr_b_0_72 hI18)
          have f22 := (gr_b_0_73 hI18)
          have f23 := (gr_b_0_69 hI18)
          have f24 := (gr_b_0_74 hI18)
          have f25 := (gr_b_0_71 hI18)
          refine gv_run 3 true hD (pc' := 314) (lv' := [(0, .inr (.inr (some 0))), (1, .inl v1_20)]) (st' := []) (h' := gz_up (gr_h I18 J19) 0 73 (.inl v1_20)) (C := (((True ∧ True) ∧ True) ∧ True)) rfl ⟨⟨⟨trivial, trivial⟩, trivial⟩, trivial⟩ ?_
          refine gr_st hI18 FI18 rfl rfl ⟨⟨by show 0 ≤ _; exact gz_m 1 (by omega), by show _ ≤ 1001; exact gz_m 2 (by omega)⟩, trivial⟩ (fun I26 hI26 FI26 q27 p27 => ?_)
          have t28 := p27 0 72 (by decide)
          have t29 := p27 0 69 (by decide)
          have t30 := p27 0 74 (by decide)
          have t31 := p27 0 71 (by decide)
          have t32 := p27 57 (Int.toNat v1_20) (fun q => absurd q.1 (by decide))
          have f33 := (gr_b_0_72 hI26)
          have f34 := (gr_b_0_73 hI26)
          have f35 := (gr_b_0_69 hI26)
          have f36 := (gr_b_0_74 hI26)
          have f37 := (gr_b_0_71 hI26)
          exact gv_vret hD rfl ⟨I26, J19, rfl, hI26, FI26, FJ19, ⟨rfl, by exact gz_m 3 (by omega), by exact gz_m 4 (by omega), by exact gz_m 5 (by omega), by exact gz_m 6 (by omega), by exact gz_m 7 (by omega), ⟨⟨by intro k; rw [show I26 57 = I 57 from funext fun k => FI26 57 k rfl]; exact x1 k, by exact gz_m 8 (by omega)⟩, by have h9 := e7_20; rw [show I26 0 73 = v1_20 from by exact gz_m 9 (by omega)]; exact gr_A9_c h9 (p27 0 71 (by decide)) (p27 0 72 (by decide)) (p27 0 74 (by decide)) rfl⟩⟩⟩
        have L74 : ∀ (n : Nat) (I38 : gr_I) (J39 : gr_J) (v1_40 : Int), (1001 - v1_40).toNat < n → gr_Inv I38 → gr_fr [71, 72, 73, 74, 75] [] I I38 → gr_fj [71, 72, 73, 74, 75] [] J J39 → ((0 ≤ v1_40 ∧ v1_40 ≤ 1000) ∧ (I 0 73 ≤ I38 0 72) ∧ (I38 0 72 < I38 0 69) ∧ (I38 0 69 = I 0 69) ∧ (v1_40 ≤ I38 0 69) ∧ (I38 0 72 ≤ v1_40) ∧ (I38 0 71 = 1) ∧ (I38 0 72 < v1_40 ∨ (v1_40 = I38 0 72 ∧ 97 ≤ I38 57 (Int.toNat v1_40) ∧ I38 57 (Int.toNat v1_40) ≤ 122)) ∧ (I38 0 72 = (gs_S β N9 (I 0 73))) ∧ (¬ N9 ≤ (gs_S β N9 (I 0 73))) ∧ ((97 ≤ β (gs_S β N9 (I 0 73)) ∧ β (gs_S β N9 (I 0 73)) ≤ 122))) → (gs_ne β 8 (gs_S β N9 (I 0 73)) = gs_ne β (Int.toNat ((gs_S β N9 (I 0 73)) + (8 : Nat) - v1_40)) v1_40) → (gs_nv β 8 (gs_S β N9 (I 0 73)) (Int64.ofNat 0) = gs_nv β (Int.toNat ((gs_S β N9 (I 0 73)) + (8 : Nat) - v1_40)) v1_40 (J39 0 75)) → gv_X (gr_E ws0 tb 9 (yX13_next, cX13_next, 2, none) kX13_next) (gv_Q cX13_next none (gr_sh ++ ext) (fun r h' => (∃ (I' : gr_I) (J' : gr_J), h' = gr_h I' J' ∧ gr_Inv I' ∧ gr_fr [71, 72, 73, 74, 75] [] I I' ∧ gr_fj [71, 72, 73, 74, 75] [] J J' ∧ r = none ∧ (I 0 73 ≤ I' 0 72 ∧ I' 0 69 = I 0 69 ∧ I' 0 72 ≤ I 0 69) ∧ (I' 0 72 ≤ I' 0 73) ∧ (I' 0 71 = 0 ∨ (I' 0 72 < I' 0 73 ∧ I' 0 72 < I 0 69)) ∧ (I' 0 71 = 5 ∨ I' 0 73 ≤ I 0 69) ∧ (I' 0 71 = 3 → 2 ≤ I' 0 73 - I' 0 72 ∧ I' 0 73 - I' 0 72 ≤ 14) ∧ (gr_ATp β N9 (I 0 73) I' J')))) (74, [(0, .inr (.inr (some 0))), (1, .inl v1_40)], [], gr_sh ++ ext, gr_h I38 J39) := by
          intro n
          induction n with
          | zero => intro I38 J39 v1_40 hn; exact gz_m 10 (by omega)
          | succ n ih74 =>
            intro I38 J39 v1_40 hn hI38 FI38 FJ39 m_40 e10_40 e11_40
            clear hv1_6_12 e0_12 e1_12 f13 f14 f15 f16 f17 hv1_6 e0_6 e1_6 f7 f8 f9 f10 f11
            obtain ⟨hv1_40, e0_40, e1_40, e2_40, e3_40, e4_40, e5_40, e6_40, e7_40, e8_40, e9_40⟩ := m_40
            have f41 := (gr_b_0_72 hI38)
            have f42 := (gr_b_0_73 hI38)
            have f43 := (gr_b_0_69 hI38)
            have f44 := (gr_b_0_74 hI38)
            have f45 := (gr_b_0_71 hI38)
            have L101 : ((0 ≤ v1_40 ∧ v1_40 ≤ 999) ∧ (I 0 73 ≤ I38 0 72) ∧ (I38 0 72 < I38 0 69) ∧ (I38 0 69 = I 0 69) ∧ (v1_40 < I38 0 69) ∧ (I38 0 72 ≤ v1_40) ∧ (I38 0 71 = 1) ∧ (I38 0 72 = (gs_S β N9 (I 0 73))) ∧ (¬ N9 ≤ (gs_S β N9 (I 0 73))) ∧ ((97 ≤ β (gs_S β N9 (I 0 73)) ∧ β (gs_S β N9 (I 0 73)) ≤ 122)) ∧ (v1_40 < (gs_S β N9 (I 0 73)) + 8) ∧ ((97 ≤ β v1_40 ∧ β v1_40 ≤ 122) ∨ (48 ≤ β v1_40 ∧ β v1_40 ≤ 57))) → (gs_ne β 8 (gs_S β N9 (I 0 73)) = gs_ne β (Int.toNat ((gs_S β N9 (I 0 73)) + (8 : Nat) - v1_40)) v1_40) → (gs_nv β 8 (gs_S β N9 (I 0 73)) (Int64.ofNat 0) = gs_nv β (Int.toNat ((gs_S β N9 (I 0 73)) + (8 : Nat) - v1_40)) v1_40 (J39 0 75)) → gv_X (gr_E ws0 tb 9 (yX13_next, cX13_next, 2, none) kX13_next) (gv_Q cX13_next none (gr_sh ++ ext) (fun r h' => (∃ (I' : gr_I) (J' : gr_J), h' = gr_h I' J' ∧ gr_Inv I' ∧ gr_fr [71, 72, 73, 74, 75] [] I I' ∧ gr_fj [71, 72, 73, 74, 75] [] J J' ∧ r = none ∧ (I 0 73 ≤ I' 0 72 ∧ I' 0 69 = I 0 69 ∧ I' 0 72 ≤ I 0 69) ∧ (I' 0 72 ≤ I' 0 73) ∧ (I' 0 71 = 0 ∨ (I' 0 72 < I' 0 73 ∧ I' 0 72 < I 0 69)) ∧ (I' 0 71 = 5 ∨ I' 0 73 ≤ I 0 69) ∧ (I' 0 71 = 3 → 2 ≤ I' 0 73 - I' 0 72 ∧ I' 0 73 - I' 0 72 ≤ 14) ∧ (gr_ATp β N9 (I 0 73) I' J')))) (101, [(0, .inr (.inr (some 0))), (1, .inl v1_40)], [], gr_sh ++ ext, gr_h I38 J39) := by
              intro m_46 e11_46 e12_46
              obtain ⟨hv1_40_46, e0_46, e1_46, e2_46, e3_46, e4_46, e5_46, e6_46, e7_46, e8_46, e9_46, e10_46⟩ := m_46
              have f47 := (gr_b_0_72 hI38)
              have f48 := (gr_b_0_73 hI38)
              have f49 := (gr_b_0_69 hI38)
              have f50 := (gr_b_0_74 hI38)
              have f51 := (gr_b_0_71 hI38)
              have t52 := (fun h : v1_40 < N9 => gs_TX_i x1 (k := v1_40) (by exact gz_m 11 (by omega)) h)
              have t53 := (fun h : ¬ v1_40 < N9 => gs_TX_o x1 (k := v1_40) h)
              have t54 := (show I38 57 (Int.toNat v1_40) = I 57 (Int.toNat v1_40) from FI38 57 _ rfl)
              refine gv_run 7 true hD (pc' := 113) (lv' := [(0, .inr (.inr (some 0))), (1, .inl v1_40)]) (st' := [.inr (.inr (some 57)), .inr (.inl ((J39 0 75) <<< ((Int32.ofInt 8).toInt64 &&& 63))), .inr (.inr (some 0))]) (h' := gr_h I38 J39) (C := (((((((True ∧ True) ∧ True) ∧ True) ∧ True) ∧ True) ∧ True) ∧ True)) rfl ⟨⟨⟨⟨⟨⟨⟨trivial, trivial⟩, trivial⟩, trivial⟩, trivial⟩, trivial⟩, trivial⟩, trivial⟩ ?_
              have f55 := (gr_b_57 hI38 (Int.toNat v1_40))
              refine gv_run 2 true hD (pc' := 115) (lv' := [(0, .inr (.inr (some 0))), (1, .inl v1_40)]) (st' := [.inl (I38 57 (Int.toNat v1_40)), .inr (.inl ((J39 0 75) <<< ((Int32.ofInt 8).toInt64 &&& 63))), .inr (.inr (some 0))]) (h' := gr_h I38 J39) (C := ((True ∧ True) ∧ (0 ≤ v1_40 ∧ v1_40 < ((1000 : Nat) : Int)))) rfl ⟨⟨trivial, trivial⟩, ⟨by exact gz_m 12 (by omega), by exact gz_m 13 (by omega)⟩⟩ ?_
              refine gv_run 3 true hD (pc' := 120) (lv' := [(0, .inr (.inr (some 0))), (1, .inl v1_40)]) (st' := []) (h' := gz_up (gr_h I38 J39) 0 75 (.inr (.inl ((((J39 0 75) <<< ((Int32.ofInt 8).toInt64 &&& 63)) ||| (Int32.ofInt ((I38 57 (Int.toNat v1_40)))).toInt64))))) (C := (((True ∧ True) ∧ True) ∧ True)) rfl ⟨⟨⟨trivial, trivial⟩, trivial⟩, trivial⟩ ?_
              refine gr_stJq FJ39 rfl rfl (fun J56 FJ56 q57 p57 => ?_)
              refine gv_run 2 true hD (pc' := 74) (lv' := [(1, .inl (v1_40 + 1)), (0, .inr (.inr (some 0)))]) (st' := []) (h' := gr_h I38 J56) (C := ((True ∧ True) ∧ True)) rfl ⟨⟨trivial, trivial⟩, trivial⟩ ?_
              refine gv_pick [1, 0] rfl ?_
              exact ih74 I38 J56 (v1_40 + 1) (by exact gz_m 14 (by omega)) hI38 FI38 FJ56 (by exact gz_m 15 (by omega)) (e11_46.trans (gs_ne_s (by exact gz_m 16 (by omega)) (by exact gz_m 17 (by omega)))) (e12_46.trans ((gs_nv_s (by exact gz_m 18 (by omega)) (by exact gz_m 19 (by omega))).trans (by rw [q57, show β v1_40 = (I38 57 (Int.toNat v1_40)) from by exact gz_m 20 (by omega)]; rfl)))
            have L126 : ((0 ≤ v1_40 ∧ v1_40 ≤ 1000) ∧ (I 0 73 ≤ I38 0 72) ∧ (I38 0 72 < I38 0 69) ∧ (I38 0 69 = I 0 69) ∧ (v1_40 ≤ I38 0 69) ∧ (I38 0 72 < v1_40) ∧ (I38 0 71 = 1) ∧ (I38 0 72 = (gs_S β N9 (I 0 73))) ∧ (¬ N9 ≤ (gs_S β N9 (I 0 73))) ∧ ((97 ≤ β (gs_S β N9 (I 0 73)) ∧ β (gs_S β N9 (I 0 73)) ≤ 122))) → (gs_ne β 8 (gs_S β N9 (I 0 73)) = v1_40) → (gs_nv β 8 (gs_S β N9 (I 0 73)) (Int64.ofNat 0) = J39 0 75) → gv_X (gr_E ws0 tb 9 (yX13_next, cX13_next, 2, none) kX13_next) (gv_Q cX13_next none (gr_sh ++ ext) (fun r h' => (∃ (I' : gr_I) (J' : gr_J), h' = gr_h I' J' ∧ gr_Inv I' ∧ gr_fr [71, 72, 73, 74, 75] [] I I' ∧ gr_fj [71, 72, 73, 74, 75] [] J J' ∧ r = none ∧ (I 0 73 ≤ I' 0 72 ∧ I' 0 69 = I 0 69 ∧ I' 0 72 ≤ I 0 69) ∧ (I' 0 72 ≤ I' 0 73) ∧ (I' 0 71 = 0 ∨ (I' 0 72 < I' 0 73 ∧ I' 0 72 < I 0 69)) ∧ (I' 0 71 = 5 ∨ I' 0 73 ≤ I 0 69) ∧ (I' 0 71 = 3 → 2 ≤ I' 0 73 - I' 0 72 ∧ I' 0 73 - I' 0 72 ≤ 14) ∧ (gr_ATp β N9 (I 0 73) I' J')))) (126, [(0, .inr (.inr (some 0))), (1, .inl v1_40)], [], gr_sh ++ ext, gr_h I38 J39) := by
              intro m_58 e9_58 e10_58
              obtain ⟨hv1_40_58, e0_58, e1_58, e2_58, e3_58, e4_58, e5_58, e6_58, e7_58, e8_58⟩ := m_58
              have f59 := (gr_b_0_72 hI38)
              have f60 := (gr_b_0_73 hI38)
              have f61 := (gr_b_0_69 hI38)
              have f62 := (gr_b_0_74 hI38)
              have f63 := (gr_b_0_71 hI38)
              have t64 := (fun h : v1_40 < N9 => gs_TX_i x1 (k := v1_40) (by exact gz_m 21 (by omega)) h)
              have t65 := (fun h : ¬ v1_40 < N9 => gs_TX_o x1 (k := v1_40) h)
              have t66 := (show I38 57 (Int.toNat v1_40) = I 57 (Int.toNat v1_40) from FI38 57 _ rfl)
              refine gv_run 7 true hD (pc' := 137) (lv' := [(0, .inr (.inr (some 0))), (1, .inl v1_40)]) (st' := [.inl (8 - v1_40), .inl 8, .inr (.inl (J39 0 75)), .inr (.inr (some 0))]) (h' := gr_h I38 J39) (C := (((((((True ∧ True) ∧ True) ∧ True) ∧ True) ∧ True) ∧ True) ∧ True)) rfl ⟨⟨⟨⟨⟨⟨⟨trivial, trivial⟩, trivial⟩, trivial⟩, trivial⟩, trivial⟩, trivial⟩, trivial⟩ ?_
              have f67 := (gr_b_0_72 hI38)
              refine gv_run 5 true hD (pc' := 144) (lv' := [(0, .inr (.inr (some 0))), (1, .inl v1_40)]) (st' := [.inr (.inl ((J39 0 75) <<< ((Int32.ofInt ((8 * ((8 - v1_40) + (I38 0 72))))).toInt64 &&& 63))), .inr (.inr (some 0))]) (h' := gr_h I38 J39) (C := (((((True ∧ True) ∧ True) ∧ True) ∧ True) ∧ True)) rfl ⟨⟨⟨⟨⟨trivial, trivial⟩, trivial⟩, trivial⟩, trivial⟩, trivial⟩ ?_
              refine gv_run 1 true hD (pc' := 147) (lv' := [(0, .inr (.inr (some 0))), (1, .inl v1_40)]) (st' := []) (h' := gz_up (gr_h I38 J39) 0 75 (.inr (.inl (((J39 0 75) <<< ((Int32.ofInt ((8 * ((8 - v1_40) + (I38 0 72))))).toInt64 &&& 63)))))) (C := (True ∧ True)) rfl ⟨trivial, trivial⟩ ?_
              refine gr_stJq FJ39 rfl rfl (fun J68 FJ68 q69 p69 => ?_)
              refine gv_run 1 true hD (pc' := 309) (lv' := [(0, .inr (.inr (some 0))), (1, .inl v1_40)]) (st' := []) (h' := gr_h I38 J68) (C := (True ∧ True)) rfl ⟨trivial, trivial⟩ ?_
              exact L309 I38 J68 v1_40 hI38 FI38 FJ68 (by exact gz_m 22 (by omega)) (gr_A9_nm rfl (by exact gz_m 23 (by omega)) (by exact gz_m 24 (by omega)) e9_58 e10_58 (by exact gz_m 25 (by omega)) (by exact gz_m 26 (by omega)) (by rw [q69]))
            have t70 := (fun h : v1_40 < N9 => gs_TX_i x1 (k := v1_40) (by exact gz_m 27 (by omega)) h)
            have t71 := (fun h : ¬ v1_40 < N9 => gs_TX_o x1 (k := v1_40) h)
            have t72 := (show I38 57 (Int.toNat v1_40) = I 57 (Int.toNat v1_40) from FI38 57 _ rfl)
            have f73 := (gr_b_0_72 hI38)
            refine gv_run 5 true hD (pc' := 82) (lv' := [(0, .inr (.inr (some 0))), (1, .inl v1_40)]) (st' := [.inl ((I38 0 72) + 8), .inl v1_40]) (h' := gr_h I38 J39) (C := (((((True ∧ True) ∧ True) ∧ True) ∧ True) ∧ True)) rfl ⟨⟨⟨⟨⟨trivial, trivial⟩, trivial⟩, trivial⟩, trivial⟩, trivial⟩ ?_
            refine gv_icmp_ge (t := 126) hD rfl rfl ⟨⟨by exact gz_m 28 (by omega), by exact gz_m 29 (by omega)⟩, ⟨by exact gz_m 30 (by omega), by exact gz_m 31 (by omega)⟩⟩ (fun c74 => ?_) (fun c74 => ?_)
            · exact L126 (by exact gz_m 32 (by omega)) (e10_40.trans (gs_ne_e (by exact gz_m 33 (by omega)))) (e11_40.trans (gs_nv_e (by exact gz_m 34 (by omega))))
            · refine gv_run 2 true hD (pc' := 87) (lv' := [(0, .inr (.inr (some 0))), (1, .inl v1_40)]) (st' := [.inl v1_40, .inr (.inr (some 0))]) (h' := gr_h I38 J39) (C := ((True ∧ True) ∧ True)) rfl ⟨⟨trivial, trivial⟩, trivial⟩ ?_
              obtain ⟨r75, h75, E75, P75⟩ := r_low (ws0 := ws0) (tb := tb) hws htb ext I38 J39 hI38 v1_40 ⟨by exact gz_m 35 (by omega), by exact gz_m 36 (by omega)⟩ 
              obtain ⟨rfl, ⟨z75, rfl, q75⟩⟩ := P75
              refine gv_callV hD rfl (As := [.inl v1_40]) (st := []) rfl (by decide) rfl rfl (gr_lV hws rfl) (Nat.le_of_ble_eq_true rfl) (gz_Ev_mono (d := 1) (by decide) E75) ?_
              show gv_X _ _ (90, [(0, .inr (.inr (some 0))), (1, .inl v1_40)], [.inl z75], gr_sh ++ ext, gr_h I38 J39)
              refine gv_if_ne (t := 101) hD rfl rfl ⟨by exact gz_m 37 (by omega), by exact gz_m 38 (by omega)⟩ (fun c76 => ?_) (fun c76 => ?_)
              · exact L101 (by exact gz_m 39 (by omega)) e10_40 e11_40
              · refine gv_run 2 true hD (pc' := 95) (lv' := [(0, .inr (.inr (some 0))), (1, .inl v1_40)]) (st' := [.inl v1_40, .inr (.inr (some 0))]) (h' := gr_h I38 J39) (C := ((True ∧ True) ∧ True)) rfl ⟨⟨trivial, trivial⟩, trivial⟩ ?_
                obtain ⟨r77, h77, E77, P77⟩ := r_dig (ws0 := ws0) (tb := tb) hws htb ext I38 J39 hI38 v1_40 ⟨by exact gz_m 40 (by omega), by exact gz_m 41 (by omega)⟩ 
                obtain ⟨rfl, ⟨z77, rfl, q77⟩⟩ := P77
                refine gv_callV hD rfl (As := [.inl v1_40]) (st := []) rfl (by decide) rfl rfl (gr_lV hws rfl) (Nat.le_of_ble_eq_true rfl) (gz_Ev_mono (d := 1) (by decide) E77) ?_
                show gv_X _ _ (98, [(0, .inr (.inr (some 0))), (1, .inl v1_40)], [.inl z77], gr_sh ++ ext, gr_h I38 J39)
                refine gv_if_eq (t := 126) hD rfl rfl ⟨by exact gz_m 42 (by omega), by exact gz_m 43 (by omega)⟩ (fun c78 => ?_) (fun c78 => ?_)
                · exact L126 (by exact gz_m 44 (by omega)) (e10_40.trans (gs_ne_e (by exact gz_m 45 (by omega)))) (e11_40.trans (gs_nv_e (by exact gz_m 46 (by omega))))
                · exact L101 (by exact gz_m 47 (by omega)) e10_40 e11_40
        have L163 : ∀ (n : Nat) (I79 : gr_I) (J80 : gr_J) (v1_81 : Int), (1001 - v1_81).toNat < n → gr_Inv I79 → gr_fr [71, 72, 73, 74, 75] [] I I79 → gr_fj [71, 72, 73, 74, 75] [] J J80 → ((0 ≤ v1_81 ∧ v1_81 ≤ 1000) ∧ (I 0 73 ≤ I79 0 72) ∧ (I79 0 72 < I79 0 69) ∧ (I79 0 69 = I 0 69) ∧ (v1_81 ≤ I79 0 69) ∧ (I79 0 71 = 2) ∧ (I79 0 72 < v1_81 ∨ (v1_81 = I79 0 72 ∧ 48 ≤ I79 57 (Int.toNat v1_81) ∧ I79 57 (Int.toNat v1_81) ≤ 57)) ∧ ((v1_81 - I79 0 72 = 0 ∧ I79 0 74 ≤ 0) ∨ (v1_81 - I79 0 72 = 1 ∧ I79 0 74 ≤ 9) ∨ (v1_81 - I79 0 72 = 2 ∧ I79 0 74 ≤ 99) ∨ (v1_81 - I79 0 72 = 3 ∧ I79 0 74 ≤ 999) ∨ (v1_81 - I79 0 72 = 4 ∧ I79 0 74 ≤ 9999) ∨ (v1_81 - I79 0 72 = 5 ∧ I79 0 74 ≤ 99999) ∨ (v1_81 - I79 0 72 = 6 ∧ I79 0 74 ≤ 999999)) ∧ (I79 0 72 = (gs_S β N9 (I 0 73))) ∧ (¬ N9 ≤ (gs_S β N9 (I 0 73))) ∧ ((48 ≤ β (gs_S β N9 (I 0 73)) ∧ β (gs_S β N9 (I 0 73)) ≤ 57))) → (gs_de β 6 (gs_S β N9 (I 0 73)) = gs_de β (Int.toNat ((gs_S β N9 (I 0 73)) + (6 : Nat) - v1_81)) v1_81) → (gs_dv β 6 (gs_S β N9 (I 0 73)) 0 = gs_dv β (Int.toNat ((gs_S β N9 (I 0 73)) + (6 : Nat) - v1_81)) v1_81 (I79 0 74)) → (J80 0 75 = 0) → gv_X (gr_E ws0 tb 9 (yX13_next, cX13_next, 2, none) kX13_next) (gv_Q cX13_next none (gr_sh ++ ext) (fun r h' => (∃ (I' : gr_I) (J' : gr_J), h' = gr_h I' J' ∧ gr_Inv I' ∧ gr_fr [71, 72, 73, 74, 75] [] I I' ∧ gr_fj [71, 72, 73, 74, 75] [] J J' ∧ r = none ∧ (I 0 73 ≤ I' 0 72 ∧ I' 0 69 = I 0 69 ∧ I' 0 72 ≤ I 0 69) ∧ (I' 0 72 ≤ I' 0 73) ∧ (I' 0 71 = 0 ∨ (I' 0 72 < I' 0 73 ∧ I' 0 72 < I 0 69)) ∧ (I' 0 71 = 5 ∨ I' 0 73 ≤ I 0 69) ∧ (I' 0 71 = 3 → 2 ≤ I' 0 73 - I' 0 72 ∧ I' 0 73 - I' 0 72 ≤ 14) ∧ (gr_ATp β N9 (I 0 73) I' J')))) (163, [(0, .inr (.inr (some 0))), (1, .inl v1_81)], [], gr_sh ++ ext, gr_h I79 J80) := by
          intro n
          induction n with
          | zero => intro I79 J80 v1_81 hn; exact gz_m 48 (by omega)
          | succ n ih163 =>
            intro I79 J80 v1_81 hn hI79 FI79 FJ80 m_81 e10_81 e11_81 e12_81
            clear hv1_6_12 e0_12 e1_12 f13 f14 f15 f16 f17 hv1_6 e0_6 e1_6 f7 f8 f9 f10 f11
            obtain ⟨hv1_81, e0_81, e1_81, e2_81, e3_81, e4_81, e5_81, e6_81, e7_81, e8_81, e9_81⟩ := m_81
            have f82 := (gr_b_0_72 hI79)
            have f83 := (gr_b_0_73 hI79)
            have f84 := (gr_b_0_69 hI79)
            have f85 := (gr_b_0_74 hI79)
            have f86 := (gr_b_0_71 hI79)
            have t87 := (fun h : v1_81 < N9 => gs_TX_i x1 (k := v1_81) (by exact gz_m 49 (by omega)) h)
            have t88 := (fun h : ¬ v1_81 < N9 => gs_TX_o x1 (k := v1_81) h)
            have t89 := (show I79 57 (Int.toNat v1_81) = I 57 (Int.toNat v1_81) from FI79 57 _ rfl)
            have f90 := (gr_b_0_72 hI79)
            refine gv_run 5 true hD (pc' := 171) (lv' := [(0, .inr (.inr (some 0))), (1, .inl v1_81)]) (st' := [.inl ((I79 0 72) + 6), .inl v1_81]) (h' := gr_h I79 J80) (C := (((((True ∧ True) ∧ True) ∧ True) ∧ True) ∧ True)) rfl ⟨⟨⟨⟨⟨trivial, trivial⟩, trivial⟩, trivial⟩, trivial⟩, trivial⟩ ?_
            refine gv_icmp_ge (t := 309) hD rfl rfl ⟨⟨by exact gz_m 50 (by omega), by exact gz_m 51 (by omega)⟩, ⟨by exact gz_m 52 (by omega), by exact gz_m 53 (by omega)⟩⟩ (fun c91 => ?_) (fun c91 => ?_)
            · exact L309 I79 J80 v1_81 hI79 FI79 FJ80 (by exact gz_m 54 (by omega)) (gr_A9_nu rfl (by exact gz_m 55 (by omega)) (by exact gz_m 56 (by omega)) (by rw [e10_81]; exact gs_de_e (by exact gz_m 57 (by omega))) (by rw [e11_81]; exact gs_dv_e (by exact gz_m 58 (by omega))) (by exact gz_m 59 (by omega)) (by exact gz_m 60 (by omega)) e12_81)
            · refine gv_run 2 true hD (pc' := 176) (lv' := [(0, .inr (.inr (some 0))), (1, .inl v1_81)]) (st' := [.inl v1_81, .inr (.inr (some 0))]) (h' := gr_h I79 J80) (C := ((True ∧ True) ∧ True)) rfl ⟨⟨trivial, trivial⟩, trivial⟩ ?_
              obtain ⟨r92, h92, E92, P92⟩ := r_dig (ws0 := ws0) (tb := tb) hws htb ext I79 J80 hI79 v1_81 ⟨by exact gz_m 61 (by omega), by exact gz_m 62 (by omega)⟩ 
              obtain ⟨rfl, ⟨z92, rfl, q92⟩⟩ := P92
              refine gv_callV hD rfl (As := [.inl v1_81]) (st := []) rfl (by decide) rfl rfl (gr_lV hws rfl) (Nat.le_of_ble_eq_true rfl) (gz_Ev_mono (d := 1) (by decide) E92) ?_
              show gv_X _ _ (179, [(0, .inr (.inr (some 0))), (1, .inl v1_81)], [.inl z92], gr_sh ++ ext, gr_h I79 J80)
              refine gv_if_eq (t := 309) hD rfl rfl ⟨by exact gz_m 63 (by omega), by exact gz_m 64 (by omega)⟩ (fun c93 => ?_) (fun c93 => ?_)
              · exact L309 I79 J80 v1_81 hI79 FI79 FJ80 (by exact gz_m 65 (by omega)) (gr_A9_nu rfl (by exact gz_m 66 (by omega)) (by exact gz_m 67 (by omega)) (by rw [e10_81]; exact gs_de_e (by exact gz_m 68 (by omega))) (by rw [e11_81]; exact gs_dv_e (by exact gz_m 69 (by omega))) (by exact gz_m 70 (by omega)) (by exact gz_m 71 (by omega)) e12_81)
              · have f94 := (gr_b_0_74 hI79)
                refine gv_run 7 true hD (pc' := 194) (lv' := [(0, .inr (.inr (some 0))), (1, .inl v1_81)]) (st' := [.inr (.inr (some 57)), .inl (10 * (I79 0 74)), .inr (.inr (some 0))]) (h' := gr_h I79 J80) (C := (((((((True ∧ True) ∧ True) ∧ True) ∧ True) ∧ True) ∧ True) ∧ True)) rfl ⟨⟨⟨⟨⟨⟨⟨trivial, trivial⟩, trivial⟩, trivial⟩, trivial⟩, trivial⟩, trivial⟩, trivial⟩ ?_
                have f95 := (gr_b_57 hI79 (Int.toNat v1_81))
                refine gv_run 2 true hD (pc' := 196) (lv' := [(0, .inr (.inr (some 0))), (1, .inl v1_81)]) (st' := [.inl (I79 57 (Int.toNat v1_81)), .inl (10 * (I79 0 74)), .inr (.inr (some 0))]) (h' := gr_h I79 J80) (C := ((True ∧ True) ∧ (0 ≤ v1_81 ∧ v1_81 < ((1000 : Nat) : Int)))) rfl ⟨⟨trivial, trivial⟩, ⟨by exact gz_m 72 (by omega), by exact gz_m 73 (by omega)⟩⟩ ?_
                refine gv_run 3 true hD (pc' := 200) (lv' := [(0, .inr (.inr (some 0))), (1, .inl v1_81)]) (st' := [.inl (((10 * (I79 0 74)) + (I79 57 (Int.toNat v1_81))) - 48), .inr (.inr (some 0))]) (h' := gr_h I79 J80) (C := (((True ∧ True) ∧ True) ∧ True)) rfl ⟨⟨⟨trivial, trivial⟩, trivial⟩, trivial⟩ ?_
                refine gv_run 1 true hD (pc' := 203) (lv' := [(0, .inr (.inr (some 0))), (1, .inl v1_81)]) (st' := []) (h' := gz_up (gr_h I79 J80) 0 74 (.inl ((((10 * (I79 0 74)) + (I79 57 (Int.toNat v1_81))) - 48)))) (C := (True ∧ True)) rfl ⟨trivial, trivial⟩ ?_
                refine gr_st hI79 FI79 rfl rfl ⟨⟨by show 0 ≤ _; exact gz_m 74 (by omega), by show _ ≤ 999999; exact gz_m 75 (by omega)⟩, trivial⟩ (fun I96 hI96 FI96 q97 p97 => ?_)
                have t98 := p97 0 72 (by decide)
                have t99 := p97 0 73 (by decide)
                have t100 := p97 0 69 (by decide)
                have t101 := p97 0 71 (by decide)
                have t102 := p97 57 (Int.toNat v1_81) (fun q => absurd q.1 (by decide))
                have f103 := (gr_b_0_72 hI96)
                have f104 := (gr_b_0_73 hI96)
                have f105 := (gr_b_0_69 hI96)
                have f106 := (gr_b_0_74 hI96)
                have f107 := (gr_b_0_71 hI96)
                refine gv_run 2 true hD (pc' := 163) (lv' := [(1, .inl (v1_81 + 1)), (0, .inr (.inr (some 0)))]) (st' := []) (h' := gr_h I96 J80) (C := ((True ∧ True) ∧ True)) rfl ⟨⟨trivial, trivial⟩, trivial⟩ ?_
                refine gv_pick [1, 0] rfl ?_
                exact ih163 I96 J80 (v1_81 + 1) (by exact gz_m 76 (by omega)) hI96 FI96 FJ80 (by exact gz_m 77 (by omega)) (e10_81.trans (gs_de_s (by exact gz_m 78 (by omega)) (by exact gz_m 79 (by omega)))) (e11_81.trans ((gs_dv_s (by exact gz_m 80 (by omega)) (by exact gz_m 81 (by omega))).trans (by rw [show 10 * I79 0 74 + β v1_81 - 48 = I96 0 74 from by exact gz_m 82 (by omega)]))) e12_81
        have L223 : ∀ (n : Nat) (I108 : gr_I) (J109 : gr_J) (v1_110 : Int), (1001 - v1_110).toNat < n → gr_Inv I108 → gr_fr [71, 72, 73, 74, 75] [] I I108 → gr_fj [71, 72, 73, 74, 75] [] J J109 → ((1 ≤ v1_110 ∧ v1_110 ≤ 1000) ∧ (I 0 73 ≤ I108 0 72) ∧ (I108 0 72 < I108 0 69) ∧ (I108 0 69 = I 0 69) ∧ (v1_110 ≤ I108 0 69) ∧ (I108 0 72 < v1_110) ∧ (v1_110 - I108 0 72 ≤ 13) ∧ (I108 0 72 = (gs_S β N9 (I 0 73))) ∧ (¬ N9 ≤ (gs_S β N9 (I 0 73))) ∧ (β (gs_S β N9 (I 0 73)) = 39)) → (gs_le β 12 ((gs_S β N9 (I 0 73)) + 1) = gs_le β (Int.toNat ((gs_S β N9 (I 0 73)) + 1 + (12 : Nat) - v1_110)) v1_110) → (J109 0 75 = 0) → gv_X (gr_E ws0 tb 9 (yX13_next, cX13_next, 2, none) kX13_next) (gv_Q cX13_next none (gr_sh ++ ext) (fun r h' => (∃ (I' : gr_I) (J' : gr_J), h' = gr_h I' J' ∧ gr_Inv I' ∧ gr_fr [71, 72, 73, 74, 75] [] I I' ∧ gr_fj [71, 72, 73, 74, 75] [] J J' ∧ r = none ∧ (I 0 73 ≤ I' 0 72 ∧ I' 0 69 = I 0 69 ∧ I' 0 72 ≤ I 0 69) ∧ (I' 0 72 ≤ I' 0 73) ∧ (I' 0 71 = 0 ∨ (I' 0 72 < I' 0 73 ∧ I' 0 72 < I 0 69)) ∧ (I' 0 71 = 5 ∨ I' 0 73 ≤ I 0 69) ∧ (I' 0 71 = 3 → 2 ≤ I' 0 73 - I' 0 72 ∧ I' 0 73 - I' 0 72 ≤ 14) ∧ (gr_ATp β N9 (I 0 73) I' J')))) (223, [(0, .inr (.inr (some 0))), (1, .inl v1_110)], [], gr_sh ++ ext, gr_h I108 J109) := by
          intro n
          induction n with
          | zero => intro I108 J109 v1_110 hn; exact gz_m 83 (by omega)
          | succ n ih223 =>
            intro I108 J109 v1_110 hn hI108 FI108 FJ109 m_110 e9_110 e10_110
            clear hv1_6_12 e0_12 e1_12 f13 f14 f15 f16 f17 hv1_6 e0_6 e1_6 f7 f8 f9 f10 f11
            obtain ⟨hv1_110, e0_110, e1_110, e2_110, e3_110, e4_110, e5_110, e6_110, e7_110, e8_110⟩ := m_110
            have f111 := (gr_b_0_72 hI108)
            have f112 := (gr_b_0_73 hI108)
            have f113 := (gr_b_0_69 hI108)
            have f114 := (gr_b_0_74 hI108)
            have f115 := (gr_b_0_71 hI108)
            have L248 : ((1 ≤ v1_110 ∧ v1_110 ≤ 1000) ∧ (I 0 73 ≤ I108 0 72) ∧ (I108 0 72 < I108 0 69) ∧ (I108 0 69 = I 0 69) ∧ (v1_110 ≤ I108 0 69) ∧ (I108 0 72 < v1_110) ∧ (v1_110 - I108 0 72 ≤ 13) ∧ (I108 0 72 = (gs_S β N9 (I 0 73))) ∧ (¬ N9 ≤ (gs_S β N9 (I 0 73))) ∧ (β (gs_S β N9 (I 0 73)) = 39)) → (gs_le β 12 ((gs_S β N9 (I 0 73)) + 1) = v1_110) → (J109 0 75 = 0) → gv_X (gr_E ws0 tb 9 (yX13_next, cX13_next, 2, none) kX13_next) (gv_Q cX13_next none (gr_sh ++ ext) (fun r h' => (∃ (I' : gr_I) (J' : gr_J), h' = gr_h I' J' ∧ gr_Inv I' ∧ gr_fr [71, 72, 73, 74, 75] [] I I' ∧ gr_fj [71, 72, 73, 74, 75] [] J J' ∧ r = none ∧ (I 0 73 ≤ I' 0 72 ∧ I' 0 69 = I 0 69 ∧ I' 0 72 ≤ I 0 69) ∧ (I' 0 72 ≤ I' 0 73) ∧ (I' 0 71 = 0 ∨ (I' 0 72 < I' 0 73 ∧ I' 0 72 < I 0 69)) ∧ (I' 0 71 = 5 ∨ I' 0 73 ≤ I 0 69) ∧ (I' 0 71 = 3 → 2 ≤ I' 0 73 - I' 0 72 ∧ I' 0 73 - I' 0 72 ≤ 14) ∧ (gr_ATp β N9 (I 0 73) I' J')))) (248, [(0, .inr (.inr (some 0))), (1, .inl v1_110)], [], gr_sh ++ ext, gr_h I108 J109) := by
              intro m_116 e9_116 e10_116
              obtain ⟨hv1_110_116, e0_116, e1_116, e2_116, e3_116, e4_116, e5_116, e6_116, e7_116, e8_116⟩ := m_116
              have f117 := (gr_b_0_72 hI108)
              have f118 := (gr_b_0_73 hI108)
              have f119 := (gr_b_0_69 hI108)
              have f120 := (gr_b_0_74 hI108)
              have f121 := (gr_b_0_71 hI108)
              have L273 : ∀ (s1_122 : Int), ((1 ≤ v1_110 ∧ v1_110 ≤ 1000) ∧ (3 ≤ s1_122 ∧ s1_122 ≤ 5) ∧ (I 0 73 ≤ I108 0 72) ∧ (I108 0 72 < I108 0 69) ∧ (I108 0 69 = I 0 69) ∧ (v1_110 ≤ I108 0 69) ∧ (I108 0 72 < v1_110) ∧ (v1_110 - I108 0 72 ≤ 13) ∧ (s1_122 = 5 ∨ v1_110 < I108 0 69) ∧ (I108 0 72 = (gs_S β N9 (I 0 73))) ∧ (¬ N9 ≤ (gs_S β N9 (I 0 73))) ∧ (β (gs_S β N9 (I 0 73)) = 39) ∧ ((s1_122 = 3 ∧ β v1_110 = 39) ∨ (s1_122 = 5 ∧ ¬ β v1_110 = 39))) → (gs_le β 12 ((gs_S β N9 (I 0 73)) + 1) = v1_110) → (J109 0 75 = 0) → gv_X (gr_E ws0 tb 9 (yX13_next, cX13_next, 2, none) kX13_next) (gv_Q cX13_next none (gr_sh ++ ext) (fun r h' => (∃ (I' : gr_I) (J' : gr_J), h' = gr_h I' J' ∧ gr_Inv I' ∧ gr_fr [71, 72, 73, 74, 75] [] I I' ∧ gr_fj [71, 72, 73, 74, 75] [] J J' ∧ r = none ∧ (I 0 73 ≤ I' 0 72 ∧ I' 0 69 = I 0 69 ∧ I' 0 72 ≤ I 0 69) ∧ (I' 0 72 ≤ I' 0 73) ∧ (I' 0 71 = 0 ∨ (I' 0 72 < I' 0 73 ∧ I' 0 72 < I 0 69)) ∧ (I' 0 71 = 5 ∨ I' 0 73 ≤ I 0 69) ∧ (I' 0 71 = 3 → 2 ≤ I' 0 73 - I' 0 72 ∧ I' 0 73 - I' 0 72 ≤ 14) ∧ (gr_ATp β N9 (I 0 73) I' J')))) (273, [(0, .inr (.inr (some 0))), (1, .inl v1_110)], [.inl s1_122, .inr (.inr (some 0))], gr_sh ++ ext, gr_h I108 J109) := by
                intro s1_122 m_122 e10_122 e12_122
                obtain ⟨hv1_110_122, hs1_122, e0_122, e1_122, e2_122, e3_122, e4_122, e5_122, e6_122, e7_122, e8_122, e9_122, e11_122⟩ := m_122
                have f123 := (gr_b_0_72 hI108)
                have f124 := (gr_b_0_73 hI108)
                have f125 := (gr_b_0_69 hI108)
                have f126 := (gr_b_0_74 hI108)
                have f127 := (gr_b_0_71 hI108)
                refine gv_run 1 true hD (pc' := 276) (lv' := [(0, .inr (.inr (some 0))), (1, .inl v1_110)]) (st' := []) (h' := gz_up (gr_h I108 J109) 0 71 (.inl s1_122)) (C := (True ∧ True)) rfl ⟨trivial, trivial⟩ ?_
                refine gr_st hI108 FI108 rfl rfl ⟨⟨by show 0 ≤ _; exact gz_m 84 (by omega), by show _ ≤ 5; exact gz_m 85 (by omega)⟩, trivial⟩ (fun I128 hI128 FI128 q129 p129 => ?_)
                have t130 := p129 0 72 (by decide)
                have t131 := p129 0 73 (by decide)
                have t132 := p129 0 69 (by decide)
                have t133 := p129 0 74 (by decide)
                have t134 := p129 57 (Int.toNat v1_110) (fun q => absurd q.1 (by decide))
                have f135 := (gr_b_0_72 hI128)
                have f136 := (gr_b_0_73 hI128)
                have f137 := (gr_b_0_69 hI128)
                have f138 := (gr_b_0_74 hI128)
                have f139 := (gr_b_0_71 hI128)
                refine gv_run 2 true hD (pc' := 309) (lv' := [(1, .inl (v1_110 + 1)), (0, .inr (.inr (some 0)))]) (st' := []) (h' := gr_h I128 J109) (C := ((True ∧ True) ∧ True)) rfl ⟨⟨trivial, trivial⟩, trivial⟩ ?_
                refine gv_pick [1, 0] rfl ?_
                exact L309 I128 J109 (v1_110 + 1) hI128 FI128 FJ109 (by exact gz_m 86 (by omega)) (gr_A9_lt rfl (by exact gz_m 87 (by omega)) (by exact gz_m 88 (by omega)) e10_122 (by exact gz_m 89 (by omega)) (by exact gz_m 90 (by omega)) (by exact gz_m 91 (by omega)) e12_122)
              have L272 : ((1 ≤ v1_110 ∧ v1_110 ≤ 1000) ∧ (I 0 73 ≤ I108 0 72) ∧ (I108 0 72 < I108 0 69) ∧ (I108 0 69 = I 0 69) ∧ (v1_110 ≤ I108 0 69) ∧ (I108 0 72 < v1_110) ∧ (v1_110 - I108 0 72 ≤ 13) ∧ (I108 0 72 = (gs_S β N9 (I 0 73))) ∧ (¬ N9 ≤ (gs_S β N9 (I 0 73))) ∧ (β (gs_S β N9 (I 0 73)) = 39) ∧ (¬ β v1_110 = 39)) → (gs_le β 12 ((gs_S β N9 (I 0 73)) + 1) = v1_110) → (J109 0 75 = 0) → gv_X (gr_E ws0 tb 9 (yX13_next, cX13_next, 2, none) kX13_next) (gv_Q cX13_next none (gr_sh ++ ext) (fun r h' => (∃ (I' : gr_I) (J' : gr_J), h' = gr_h I' J' ∧ gr_Inv I' ∧ gr_fr [71, 72, 73, 74, 75] [] I I' ∧ gr_fj [71, 72, 73, 74, 75] [] J J' ∧ r = none ∧ (I 0 73 ≤ I' 0 72 ∧ I' 0 69 = I 0 69 ∧ I' 0 72 ≤ I 0 69) ∧ (I' 0 72 ≤ I' 0 73) ∧ (I' 0 71 = 0 ∨ (I' 0 72 < I' 0 73 ∧ I' 0 72 < I 0 69)) ∧ (I' 0 71 = 5 ∨ I' 0 73 ≤ I 0 69) ∧ (I' 0 71 = 3 → 2 ≤ I' 0 73 - I' 0 72 ∧ I' 0 73 - I' 0 72 ≤ 14) ∧ (gr_ATp β N9 (I 0 73) I' J')))) (272, [(0, .inr (.inr (some 0))), (1, .inl v1_110)], [.inr (.inr (some 0))], gr_sh ++ ext, gr_h I108 J109) := by
                intro m_140 e9_140 e11_140
                obtain ⟨hv1_110_140, e0_140, e1_140, e2_140, e3_140, e4_140, e5_140, e6_140, e7_140, e8_140, e10_140⟩ := m_140
                have f141 := (gr_b_0_72 hI108)
                have f142 := (gr_b_0_73 hI108)
                have f143 := (gr_b_0_69 hI108)
                have f144 := (gr_b_0_74 hI108)
                have f145 := (gr_b_0_71 hI108)
                refine gv_run 1 true hD (pc' := 273) (lv' := [(0, .inr (.inr (some 0))), (1, .inl v1_110)]) (st' := [.inl 5, .inr (.inr (some 0))]) (h' := gr_h I108 J109) (C := (True ∧ True)) rfl ⟨trivial, trivial⟩ ?_
                exact L273 5 (by exact gz_m 92 (by omega)) e9_140 e11_140
              have t146 := (fun h : v1_110 < N9 => gs_TX_i x1 (k := v1_110) (by exact gz_m 93 (by omega)) h)
              have t147 := (fun h : ¬ v1_110 < N9 => gs_TX_o x1 (k := v1_110) h)
              have t148 := (show I108 57 (Int.toNat v1_110) = I 57 (Int.toNat v1_110) from FI108 57 _ rfl)
              have f149 := (gr_b_0_69 hI108)
              refine gv_run 4 true hD (pc' := 254) (lv' := [(0, .inr (.inr (some 0))), (1, .inl v1_110)]) (st' := [.inl (I108 0 69), .inl v1_110, .inr (.inr (some 0))]) (h' := gr_h I108 J109) (C := ((((True ∧ True) ∧ True) ∧ True) ∧ True)) rfl ⟨⟨⟨⟨trivial, trivial⟩, trivial⟩, trivial⟩, trivial⟩ ?_
              refine gv_icmp_ge (t := 272) hD rfl rfl ⟨⟨by exact gz_m 94 (by omega), by exact gz_m 95 (by omega)⟩, ⟨by exact gz_m 96 (by omega), by exact gz_m 97 (by omega)⟩⟩ (fun c150 => ?_) (fun c150 => ?_)
              · exact L272 (by exact gz_m 98 (by omega)) e9_116 e10_116
              · have f151 := (gr_b_57 hI108 (Int.toNat v1_110))
                refine gv_run 4 true hD (pc' := 263) (lv' := [(0, .inr (.inr (some 0))), (1, .inl v1_110)]) (st' := [.inl (I108 57 (Int.toNat v1_110)), .inr (.inr (some 0))]) (h' := gr_h I108 J109) (C := ((((True ∧ True) ∧ True) ∧ True) ∧ (0 ≤ v1_110 ∧ v1_110 < ((1000 : Nat) : Int)))) rfl ⟨⟨⟨⟨trivial, trivial⟩, trivial⟩, trivial⟩, ⟨by exact gz_m 99 (by omega), by exact gz_m 100 (by omega)⟩⟩ ?_
                refine gv_run 1 true hD (pc' := 265) (lv' := [(0, .inr (.inr (some 0))), (1, .inl v1_110)]) (st' := [.inl 39, .inl (I108 57 (Int.toNat v1_110)), .inr (.inr (some 0))]) (h' := gr_h I108 J109) (C := (True ∧ True)) rfl ⟨trivial, trivial⟩ ?_
                refine gv_icmp_ne (t := 272) hD rfl rfl ⟨⟨by exact gz_m 101 (by omega), by exact gz_m 102 (by omega)⟩, ⟨by exact gz_m 103 (by omega), by exact gz_m 104 (by omega)⟩⟩ (fun c152 => ?_) (fun c152 => ?_)
                · exact L272 (by exact gz_m 105 (by omega)) e9_116 e10_116
                · refine gv_run 2 true hD (pc' := 273) (lv' := [(0, .inr (.inr (some 0))), (1, .inl v1_110)]) (st' := [.inl 3, .inr (.inr (some 0))]) (h' := gr_h I108 J109) (C := ((True ∧ True) ∧ True)) rfl ⟨⟨trivial, trivial⟩, trivial⟩ ?_
                  exact L273 3 (by exact gz_m 106 (by omega)) e9_116 e10_116
            have t153 := (fun h : v1_110 < N9 => gs_TX_i x1 (k := v1_110) (by exact gz_m 107 (by omega)) h)
            have t154 := (fun h : ¬ v1_110 < N9 => gs_TX_o x1 (k := v1_110) h)
            have t155 := (show I108 57 (Int.toNat v1_110) = I 57 (Int.toNat v1_110) from FI108 57 _ rfl)
            have f156 := (gr_b_0_72 hI108)
            refine gv_run 5 true hD (pc' := 231) (lv' := [(0, .inr (.inr (some 0))), (1, .inl v1_110)]) (st' := [.inl ((I108 0 72) + 13), .inl v1_110]) (h' := gr_h I108 J109) (C := (((((True ∧ True) ∧ True) ∧ True) ∧ True) ∧ True)) rfl ⟨⟨⟨⟨⟨trivial, trivial⟩, trivial⟩, trivial⟩, trivial⟩, trivial⟩ ?_
            refine gv_icmp_ge (t := 248) hD rfl rfl ⟨⟨by exact gz_m 108 (by omega), by exact gz_m 109 (by omega)⟩, ⟨by exact gz_m 110 (by omega), by exact gz_m 111 (by omega)⟩⟩ (fun c157 => ?_) (fun c157 => ?_)
            · exact L248 (by exact gz_m 112 (by omega)) (e9_110.trans (gs_le_e (by exact gz_m 113 (by omega)))) e10_110
            · refine gv_run 2 true hD (pc' := 236) (lv' := [(0, .inr (.inr (some 0))), (1, .inl v1_110)]) (st' := [.inl v1_110, .inr (.inr (some 0))]) (h' := gr_h I108 J109) (C := ((True ∧ True) ∧ True)) rfl ⟨⟨trivial, trivial⟩, trivial⟩ ?_
              obtain ⟨r158, h158, E158, P158⟩ := r_low (ws0 := ws0) (tb := tb) hws htb ext I108 J109 hI108 v1_110 ⟨by exact gz_m 114 (by omega), by exact gz_m 115 (by omega)⟩ 
              obtain ⟨rfl, ⟨z158, rfl, q158⟩⟩ := P158
              refine gv_callV hD rfl (As := [.inl v1_110]) (st := []) rfl (by decide) rfl rfl (gr_lV hws rfl) (Nat.le_of_ble_eq_true rfl) (gz_Ev_mono (d := 1) (by decide) E158) ?_
              show gv_X _ _ (239, [(0, .inr (.inr (some 0))), (1, .inl v1_110)], [.inl z158], gr_sh ++ ext, gr_h I108 J109)
              refine gv_if_eq (t := 248) hD rfl rfl ⟨by exact gz_m 116 (by omega), by exact gz_m 117 (by omega)⟩ (fun c159 => ?_) (fun c159 => ?_)
              · exact L248 (by exact gz_m 118 (by omega)) (e9_110.trans (gs_le_e (by exact gz_m 119 (by omega)))) e10_110
              · refine gv_run 2 true hD (pc' := 223) (lv' := [(1, .inl (v1_110 + 1)), (0, .inr (.inr (some 0)))]) (st' := []) (h' := gr_h I108 J109) (C := ((True ∧ True) ∧ True)) rfl ⟨⟨trivial, trivial⟩, trivial⟩ ?_
                refine gv_pick [1, 0] rfl ?_
                exact ih223 I108 J109 (v1_110 + 1) (by exact gz_m 120 (by omega)) hI108 FI108 FJ109 (by exact gz_m 121 (by omega)) (e9_110.trans (gs_le_s (by exact gz_m 122 (by omega)) (by exact gz_m 123 (by omega)))) e10_110
        have L303 : ∀ (I160 : gr_I) (J161 : gr_J) (s1_162 : Int), gr_Inv I160 → gr_fr [71, 72, 73, 74, 75] [] I I160 → gr_fj [71, 72, 73, 74, 75] [] J J161 → ((0 ≤ v1_6 ∧ v1_6 ≤ 999) ∧ (4 ≤ s1_162 ∧ s1_162 ≤ 5) ∧ (I 0 73 ≤ I160 0 72) ∧ (I160 0 72 < I160 0 69) ∧ (I160 0 69 = I 0 69) ∧ (v1_6 = I160 0 72) ∧ (I160 0 72 = (gs_S β N9 (I 0 73))) ∧ (¬ N9 ≤ (gs_S β N9 (I 0 73))) ∧ (¬ (97 ≤ β (gs_S β N9 (I 0 73)) ∧ β (gs_S β N9 (I 0 73)) ≤ 122)) ∧ (¬ (48 ≤ β (gs_S β N9 (I 0 73)) ∧ β (gs_S β N9 (I 0 73)) ≤ 57)) ∧ (¬ β (gs_S β N9 (I 0 73)) = 39) ∧ ((s1_162 = 4 ∧ 0 ≤ gz_ixf (β (gs_S β N9 (I 0 73)))) ∨ (s1_162 = 5 ∧ ¬ 0 ≤ gz_ixf (β (gs_S β N9 (I 0 73)))))) → (J161 0 75 = 0) → gv_X (gr_E ws0 tb 9 (yX13_next, cX13_next, 2, none) kX13_next) (gv_Q cX13_next none (gr_sh ++ ext) (fun r h' => (∃ (I' : gr_I) (J' : gr_J), h' = gr_h I' J' ∧ gr_Inv I' ∧ gr_fr [71, 72, 73, 74, 75] [] I I' ∧ gr_fj [71, 72, 73, 74, 75] [] J J' ∧ r = none ∧ (I 0 73 ≤ I' 0 72 ∧ I' 0 69 = I 0 69 ∧ I' 0 72 ≤ I 0 69) ∧ (I' 0 72 ≤ I' 0 73) ∧ (I' 0 71 = 0 ∨ (I' 0 72 < I' 0 73 ∧ I' 0 72 < I 0 69)) ∧ (I' 0 71 = 5 ∨ I' 0 73 ≤ I 0 69) ∧ (I' 0 71 = 3 → 2 ≤ I' 0 73 - I' 0 72 ∧ I' 0 73 - I' 0 72 ≤ 14) ∧ (gr_ATp β N9 (I 0 73) I' J')))) (303, [(0, .inr (.inr (some 0))), (1, .inl v1_6)], [.inl s1_162, .inr (.inr (some 0))], gr_sh ++ ext, gr_h I160 J161) := by
          intro I160 J161 s1_162 hI160 FI160 FJ161 m_162 e10_162
          clear hv1_6_12 e0_12 e1_12 f13 f14 f15 f16 f17 hv1_6 e0_6 e1_6 f7 f8 f9 f10 f11
          obtain ⟨hv1_6_162, hs1_162, e0_162, e1_162, e2_162, e3_162, e4_162, e5_162, e6_162, e7_162, e8_162, e9_162⟩ := m_162
          have f163 := (gr_b_0_72 hI160)
          have f164 := (gr_b_0_73 hI160)
          have f165 := (gr_b_0_69 hI160)
          have f166 := (gr_b_0_74 hI160)
          have f167 := (gr_b_0_71 hI160)
          refine gv_run 1 true hD (pc' := 306) (lv' := [(0, .inr (.inr (some 0))), (1, .inl v1_6)]) (st' := []) (h' := gz_up (gr_h I160 J161) 0 71 (.inl s1_162)) (C := (True ∧ True)) rfl ⟨trivial, trivial⟩ ?_
          refine gr_st hI160 FI160 rfl rfl ⟨⟨by show 0 ≤ _; exact gz_m 124 (by omega), by show _ ≤ 5; exact gz_m 125 (by omega)⟩, trivial⟩ (fun I168 hI168 FI168 q169 p169 => ?_)
          have t170 := p169 0 72 (by decide)
          have t171 := p169 0 73 (by decide)
          have t172 := p169 0 69 (by decide)
          have t173 := p169 0 74 (by decide)
          have t174 := p169 57 (Int.toNat v1_6) (fun q => absurd q.1 (by decide))
          have f175 := (gr_b_0_72 hI168)
          have f176 := (gr_b_0_73 hI168)
          have f177 := (gr_b_0_69 hI168)
          have f178 := (gr_b_0_74 hI168)
          have f179 := (gr_b_0_71 hI168)
          refine gv_run 1 true hD (pc' := 309) (lv' := [(1, .inl (v1_6 + 1)), (0, .inr (.inr (some 0)))]) (st' := []) (h' := gr_h I168 J161) (C := (True ∧ True)) rfl ⟨trivial, trivial⟩ ?_
          refine gv_pick [1, 0] rfl ?_
          exact L309 I168 J161 (v1_6 + 1) hI168 FI168 FJ161 (by exact gz_m 126 (by omega)) (gr_A9_sg rfl (by exact gz_m 127 (by omega)) (by exact gz_m 128 (by omega)) (by exact gz_m 129 (by omega)) (by exact gz_m 130 (by omega)) (by exact gz_m 131 (by omega)) (by exact gz_m 132 (by omega)) (by exact gz_m 133 (by omega)) e10_162)
        refine gv_run 3 true hD (pc' := 35) (lv' := [(0, .inr (.inr (some 0))), (1, .inl v1_6)]) (st' := []) (h' := gz_up (gr_h I J) 0 72 (.inl v1_6)) (C := (((True ∧ True) ∧ True) ∧ True)) rfl ⟨⟨⟨trivial, trivial⟩, trivial⟩, trivial⟩ ?_
        refine gr_st hI FI rfl rfl ⟨⟨by show 0 ≤ _; exact gz_m 134 (by omega), by show _ ≤ 1000; exact gz_m 135 (by omega)⟩, trivial⟩ (fun I180 hI180 FI180 q181 p181 => ?_)
        have t182 := p181 0 73 (by decide)
        have t183 := p181 0 69 (by decide)
        have t184 := p181 0 74 (by decide)
        have t185 := p181 0 71 (by decide)
        have t186 := p181 57 (Int.toNat v1_6) (fun q => absurd q.1 (by decide))
        have f187 := (gr_b_0_72 hI180)
        have f188 := (gr_b_0_73 hI180)
        have f189 := (gr_b_0_69 hI180)
        have f190 := (gr_b_0_74 hI180)
        have f191 := (gr_b_0_71 hI180)
        refine gv_run 3 true hD (pc' := 40) (lv' := [(0, .inr (.inr (some 0))), (1, .inl v1_6)]) (st' := []) (h' := gz_up (gr_h I180 J) 0 74 (.inl 0)) (C := (((True ∧ True) ∧ True) ∧ True)) rfl ⟨⟨⟨trivial, trivial⟩, trivial⟩, trivial⟩ ?_
        refine gr_st hI180 FI180 rfl rfl ⟨⟨by show 0 ≤ _; exact gz_m 136 (by omega), by show _ ≤ 999999; exact gz_m 137 (by omega)⟩, trivial⟩ (fun I192 hI192 FI192 q193 p193 => ?_)
        have t194 := p193 0 72 (by decide)
        have t195 := p193 0 73 (by decide)
        have t196 := p193 0 69 (by decide)
        have t197 := p193 0 71 (by decide)
        have t198 := p193 57 (Int.toNat v1_6) (fun q => absurd q.1 (by decide))
        have f199 := (gr_b_0_72 hI192)
        have f200 := (gr_b_0_73 hI192)
        have f201 := (gr_b_0_69 hI192)
        have f202 := (gr_b_0_74 hI192)
        have f203 := (gr_b_0_71 hI192)
        refine gv_run 3 true hD (pc' := 45) (lv' := [(0, .inr (.inr (some 0))), (1, .inl v1_6)]) (st' := []) (h' := gz_up (gr_h I192 J) 0 75 (.inr (.inl (Int64.ofNat 0)))) (C := (((True ∧ True) ∧ True) ∧ True)) rfl ⟨⟨⟨trivial, trivial⟩, trivial⟩, trivial⟩ ?_
        refine gr_stJq FJ rfl rfl (fun J204 FJ204 q205 p205 => ?_)
        have f206 := (gr_b_0_69 hI192)
        refine gv_run 3 true hD (pc' := 50) (lv' := [(0, .inr (.inr (some 0))), (1, .inl v1_6)]) (st' := [.inl (I192 0 69), .inl v1_6]) (h' := gr_h I192 J204) (C := (((True ∧ True) ∧ True) ∧ True)) rfl ⟨⟨⟨trivial, trivial⟩, trivial⟩, trivial⟩ ?_
        refine gv_icmp_ne (t := 61) hD rfl rfl ⟨⟨by exact gz_m 138 (by omega), by exact gz_m 139 (by omega)⟩, ⟨by exact gz_m 140 (by omega), by exact gz_m 141 (by omega)⟩⟩ (fun c207 => ?_) (fun c207 => ?_)
        · have t208 := (fun h : v1_6 < N9 => gs_TX_i x1 (k := v1_6) (by exact gz_m 142 (by omega)) h)
          have t209 := (fun h : ¬ v1_6 < N9 => gs_TX_o x1 (k := v1_6) h)
          have t210 := (show I192 57 (Int.toNat v1_6) = I 57 (Int.toNat v1_6) from FI192 57 _ rfl)
          have t211 := (show β (gs_S β N9 (I 0 73)) = β v1_6 from by rw [show (gs_S β N9 (I 0 73)) = v1_6 from by exact gz_m 143 (by omega)])
          refine gv_run 2 true hD (pc' := 63) (lv' := [(0, .inr (.inr (some 0))), (1, .inl v1_6)]) (st' := [.inl v1_6, .inr (.inr (some 0))]) (h' := gr_h I192 J204) (C := ((True ∧ True) ∧ True)) rfl ⟨⟨trivial, trivial⟩, trivial⟩ ?_
          obtain ⟨r212, h212, E212, P212⟩ := r_low (ws0 := ws0) (tb := tb) hws htb ext I192 J204 hI192 v1_6 ⟨by exact gz_m 144 (by omega), by exact gz_m 145 (by omega)⟩ 
          obtain ⟨rfl, ⟨z212, rfl, q212⟩⟩ := P212
          refine gv_callV hD rfl (As := [.inl v1_6]) (st := []) rfl (by decide) rfl rfl (gr_lV hws rfl) (Nat.le_of_ble_eq_true rfl) (gz_Ev_mono (d := 1) (by decide) E212) ?_
          show gv_X _ _ (66, [(0, .inr (.inr (some 0))), (1, .inl v1_6)], [.inl z212], gr_sh ++ ext, gr_h I192 J204)
          refine gv_if_eq (t := 150) hD rfl rfl ⟨by exact gz_m 146 (by omega), by exact gz_m 147 (by omega)⟩ (fun c213 => ?_) (fun c213 => ?_)
          · have t214 := (fun h : v1_6 < N9 => gs_TX_i x1 (k := v1_6) (by exact gz_m 148 (by omega)) h)
            have t215 := (fun h : ¬ v1_6 < N9 => gs_TX_o x1 (k := v1_6) h)
            have t216 := (show I192 57 (Int.toNat v1_6) = I 57 (Int.toNat v1_6) from FI192 57 _ rfl)
            refine gv_run 2 true hD (pc' := 152) (lv' := [(0, .inr (.inr (some 0))), (1, .inl v1_6)]) (st' := [.inl v1_6, .inr (.inr (some 0))]) (h' := gr_h I192 J204) (C := ((True ∧ True) ∧ True)) rfl ⟨⟨trivial, trivial⟩, trivial⟩ ?_
            obtain ⟨r217, h217, E217, P217⟩ := r_dig (ws0 := ws0) (tb := tb) hws htb ext I192 J204 hI192 v1_6 ⟨by exact gz_m 149 (by omega), by exact gz_m 150 (by omega)⟩ 
            obtain ⟨rfl, ⟨z217, rfl, q217⟩⟩ := P217
            refine gv_callV hD rfl (As := [.inl v1_6]) (st := []) rfl (by decide) rfl rfl (gr_lV hws rfl) (Nat.le_of_ble_eq_true rfl) (gz_Ev_mono (d := 1) (by decide) E217) ?_
            show gv_X _ _ (155, [(0, .inr (.inr (some 0))), (1, .inl v1_6)], [.inl z217], gr_sh ++ ext, gr_h I192 J204)
            refine gv_if_eq (t := 209) hD rfl rfl ⟨by exact gz_m 151 (by omega), by exact gz_m 152 (by omega)⟩ (fun c218 => ?_) (fun c218 => ?_)
            · have t219 := (fun h : v1_6 < N9 => gs_TX_i x1 (k := v1_6) (by exact gz_m 153 (by omega)) h)
              have t220 := (fun h : ¬ v1_6 < N9 => gs_TX_o x1 (k := v1_6) h)
              have t221 := (show I192 57 (Int.toNat v1_6) = I 57 (Int.toNat v1_6) from FI192 57 _ rfl)
              have f222 := (gr_b_57 hI192 (Int.toNat v1_6))
              refine gv_run 4 true hD (pc' := 215) (lv' := [(0, .inr (.inr (some 0))), (1, .inl v1_6)]) (st' := [.inl (I192 57 (Int.toNat v1_6))]) (h' := gr_h I192 J204) (C := ((((True ∧ True) ∧ True) ∧ True) ∧ (0 ≤ v1_6 ∧ v1_6 < ((1000 : Nat) : Int)))) rfl ⟨⟨⟨⟨trivial, trivial⟩, trivial⟩, trivial⟩, ⟨by exact gz_m 154 (by omega), by exact gz_m 155 (by omega)⟩⟩ ?_
              refine gv_run 1 true hD (pc' := 217) (lv' := [(0, .inr (.inr (some 0))), (1, .inl v1_6)]) (st' := [.inl 39, .inl (I192 57 (Int.toNat v1_6))]) (h' := gr_h I192 J204) (C := (True ∧ True)) rfl ⟨trivial, trivial⟩ ?_
              refine gv_icmp_ne (t := 282) hD rfl rfl ⟨⟨by exact gz_m 156 (by omega), by exact gz_m 157 (by omega)⟩, ⟨by exact gz_m 158 (by omega), by exact gz_m 159 (by omega)⟩⟩ (fun c223 => ?_) (fun c223 => ?_)
              · have t224 := (fun h : v1_6 < N9 => gs_TX_i x1 (k := v1_6) (by exact gz_m 160 (by omega)) h)
                have t225 := (fun h : ¬ v1_6 < N9 => gs_TX_o x1 (k := v1_6) h)
                have t226 := (show I192 57 (Int.toNat v1_6) = I 57 (Int.toNat v1_6) from FI192 57 _ rfl)
                refine gv_run 1 true hD (pc' := 283) (lv' := [(0, .inr (.inr (some 0))), (1, .inl v1_6)]) (st' := [.inr (.inr (some 0))]) (h' := gr_h I192 J204) (C := (True ∧ True)) rfl ⟨trivial, trivial⟩ ?_
                refine gv_sg hD rfl rfl ?_
                have f227 := (gr_b_57 hI192 (Int.toNat v1_6))
                refine gv_run 4 true hD (pc' := 292) (lv' := [(0, .inr (.inr (some 0))), (1, .inl v1_6)]) (st' := [.inl (I192 57 (Int.toNat v1_6)), .inr (.inr (some 1005000)), .inr (.inr (some 0))]) (h' := gr_h I192 J204) (C := ((((True ∧ True) ∧ True) ∧ True) ∧ (0 ≤ v1_6 ∧ v1_6 < ((1000 : Nat) : Int)))) rfl ⟨⟨⟨⟨trivial, trivial⟩, trivial⟩, trivial⟩, ⟨by exact gz_m 161 (by omega), by exact gz_m 162 (by omega)⟩⟩ ?_
                have f228 := gz_ixf_r ((I192 57 (Int.toNat v1_6)))
                refine gv_ix hD rfl (gr_lX hws) (Nat.le_of_ble_eq_true rfl) (gz_Ev_ix (by decide) ⟨by exact gz_m 163 (by omega), by exact gz_m 164 (by omega)⟩) ?_
                show gv_X _ _ (295, [(0, .inr (.inr (some 0))), (1, .inl v1_6)], [.inl (gz_ixf ((I192 57 (Int.toNat v1_6)))), .inr (.inr (some 0))], gr_sh ++ ext, gr_h I192 J204)
                have t229 := (show gz_ixf (I192 57 (Int.toNat v1_6)) = gz_ixf (β (gs_S β N9 (I 0 73))) from by rw [show I192 57 (Int.toNat v1_6) = β (gs_S β N9 (I 0 73)) from by exact gz_m 165 (by omega)])
                refine gv_if_lt (t := 302) hD rfl rfl ⟨by exact gz_m 166 (by omega), by exact gz_m 167 (by omega)⟩ (fun c230 => ?_) (fun c230 => ?_)
                · refine gv_run 1 true hD (pc' := 303) (lv' := [(0, .inr (.inr (some 0))), (1, .inl v1_6)]) (st' := [.inl 5, .inr (.inr (some 0))]) (h' := gr_h I192 J204) (C := (True ∧ True)) rfl ⟨trivial, trivial⟩ ?_
                  exact L303 I192 J204 5 hI192 FI192 FJ204 (by exact gz_m 168 (by omega)) q205
                · refine gv_run 2 true hD (pc' := 303) (lv' := [(0, .inr (.inr (some 0))), (1, .inl v1_6)]) (st' := [.inl 4, .inr (.inr (some 0))]) (h' := gr_h I192 J204) (C := ((True ∧ True) ∧ True)) rfl ⟨⟨trivial, trivial⟩, trivial⟩ ?_
                  exact L303 I192 J204 4 hI192 FI192 FJ204 (by exact gz_m 169 (by omega)) q205
              · refine gv_run 1 true hD (pc' := 223) (lv' := [(1, .inl (v1_6 + 1)), (0, .inr (.inr (some 0)))]) (st' := []) (h' := gr_h I192 J204) (C := (True ∧ True)) rfl ⟨trivial, trivial⟩ ?_
                refine gv_pick [1, 0] rfl ?_
                exact L223 _ I192 J204 (v1_6 + 1) (Nat.lt_succ_self _) hI192 FI192 FJ204 (by exact gz_m 170 (by omega)) (by rw [show Int.toNat ((gs_S β N9 (I 0 73)) + 1 + (12 : Nat) - (v1_6 + 1)) = 12 from by exact gz_m 171 (by omega), show (v1_6 + 1) = (gs_S β N9 (I 0 73)) + 1 from by exact gz_m 172 (by omega)]) q205
            · refine gv_run 3 true hD (pc' := 163) (lv' := [(0, .inr (.inr (some 0))), (1, .inl v1_6)]) (st' := []) (h' := gz_up (gr_h I192 J204) 0 71 (.inl 2)) (C := (((True ∧ True) ∧ True) ∧ True)) rfl ⟨⟨⟨trivial, trivial⟩, trivial⟩, trivial⟩ ?_
              refine gr_st hI192 FI192 rfl rfl ⟨⟨by show 0 ≤ _; exact gz_m 173 (by omega), by show _ ≤ 5; exact gz_m 174 (by omega)⟩, trivial⟩ (fun I231 hI231 FI231 q232 p232 => ?_)
              have t233 := p232 0 72 (by decide)
              have t234 := p232 0 73 (by decide)
              have t235 := p232 0 69 (by decide)
              have t236 := p232 0 74 (by decide)
              have t237 := p232 57 (Int.toNat v1_6) (fun q => absurd q.1 (by decide))
              have f238 := (gr_b_0_72 hI231)
              have f239 := (gr_b_0_73 hI231)
              have f240 := (gr_b_0_69 hI231)
              have f241 := (gr_b_0_74 hI231)
              have f242 := (gr_b_0_71 hI231)
              exact L163 _ I231 J204 v1_6 (Nat.lt_succ_self _) hI231 FI231 FJ204 (by exact gz_m 175 (by omega)) (by rw [show Int.toNat ((gs_S β N9 (I 0 73)) + (6 : Nat) - v1_6) = 6 from by exact gz_m 176 (by omega), show (gs_S β N9 (I 0 73)) = v1_6 from by exact gz_m 177 (by omega)]) (by rw [show Int.toNat ((gs_S β N9 (I 0 73)) + (6 : Nat) - v1_6) = 6 from by exact gz_m 178 (by omega), show I231 0 74 = 0 from by exact gz_m 179 (by omega), show (gs_S β N9 (I 0 73)) = v1_6 from by exact gz_m 180 (by omega)]) q205
          · refine gv_run 3 true hD (pc' := 74) (lv' := [(0, .inr (.inr (some 0))), (1, .inl v1_6)]) (st' := []) (h' := gz_up (gr_h I192 J204) 0 71 (.inl 1)) (C := (((True ∧ True) ∧ True) ∧ True)) rfl ⟨⟨⟨trivial, trivial⟩, trivial⟩, trivial⟩ ?_
            refine gr_st hI192 FI192 rfl rfl ⟨⟨by show 0 ≤ _; exact gz_m 181 (by omega), by show _ ≤ 5; exact gz_m 182 (by omega)⟩, trivial⟩ (fun I243 hI243 FI243 q244 p244 => ?_)
            have t245 := p244 0 72 (by decide)
            have t246 := p244 0 73 (by decide)
            have t247 := p244 0 69 (by decide)
            have t248 := p244 0 74 (by decide)
            have t249 := p244 57 (Int.toNat v1_6) (fun q => absurd q.1 (by decide))
            have f250 := (gr_b_0_72 hI243)
            have f251 := (gr_b_0_73 hI243)
            have f252 := (gr_b_0_69 hI243)
            have f253 := (gr_b_0_74 hI243)
            have f254 := (gr_b_0_71 hI243)
            exact L74 _ I243 J204 v1_6 (Nat.lt_succ_self _) hI243 FI243 FJ204 (by exact gz_m 183 (by omega)) (by rw [show Int.toNat ((gs_S β N9 (I 0 73)) + (8 : Nat) - v1_6) = 8 from by exact gz_m 184 (by omega), show (gs_S β N9 (I 0 73)) = v1_6 from by exact gz_m 185 (by omega)]) (by rw [show Int.toNat ((gs_S β N9 (I 0 73)) + (8 : Nat) - v1_6) = 8 from by exact gz_m 186 (by omega), q205, show (gs_S β N9 (I 0 73)) = v1_6 from by exact gz_m 187 (by omega)])
        · refine gv_run 3 true hD (pc' := 58) (lv' := [(0, .inr (.inr (some 0))), (1, .inl v1_6)]) (st' := []) (h' := gz_up (gr_h I192 J204) 0 71 (.inl 0)) (C := (((True ∧ True) ∧ True) ∧ True)) rfl ⟨⟨⟨trivial, trivial⟩, trivial⟩, trivial⟩ ?_
          refine gr_st hI192 FI192 rfl rfl ⟨⟨by show 0 ≤ _; exact gz_m 188 (by omega), by show _ ≤ 5; exact gz_m 189 (by omega)⟩, trivial⟩ (fun I255 hI255 FI255 q256 p256 => ?_)
          have t257 := p256 0 72 (by decide)
          have t258 := p256 0 73 (by decide)
          have t259 := p256 0 69 (by decide)
          have t260 := p256 0 74 (by decide)
          have t261 := p256 57 (Int.toNat v1_6) (fun q => absurd q.1 (by decide))
          have f262 := (gr_b_0_72 hI255)
          have f263 := (gr_b_0_73 hI255)
          have f264 := (gr_b_0_69 hI255)
          have f265 := (gr_b_0_74 hI255)
          have f266 := (gr_b_0_71 hI255)
          refine gv_run 1 true hD (pc' := 309) (lv' := [(0, .inr (.inr (some 0))), (1, .inl v1_6)]) (st' := []) (h' := gr_h I255 J204) (C := (True ∧ True)) rfl ⟨trivial, trivial⟩ ?_
          exact L309 I255 J204 v1_6 hI255 FI255 FJ204 (by exact gz_m 190 (by omega)) (gr_A9_end (by exact gz_m 191 (by omega)) (by exact gz_m 192 (by omega)) (by exact gz_m 193 (by omega)) (by exact gz_m 194 (by omega)) (by exact gz_m 195 (by omega)) q205)
      have t267 := (fun h : v1_6 < N9 => gs_TX_i x1 (k := v1_6) (by exact gz_m 196 (by omega)) h)
      have t268 := (fun h : ¬ v1_6 < N9 => gs_TX_o x1 (k := v1_6) h)
      have f269 := (gr_b_0_69 hI)
      refine gv_run 3 true hD (pc' := 10) (lv' := [(0, .inr (.inr (some 0))), (1, .inl v1_6)]) (st' := [.inl (I 0 69), .inl v1_6]) (h' := gr_h I J) (C := (((True ∧ True) ∧ True) ∧ True)) rfl ⟨⟨⟨trivial, trivial⟩, trivial⟩, trivial⟩ ?_
      refine gv_icmp_ge (t := 30) hD rfl rfl ⟨⟨by exact gz_m 197 (by omega), by exact gz_m 198 (by omega)⟩, ⟨by exact gz_m 199 (by omega), by exact gz_m 200 (by omega)⟩⟩ (fun c270 => ?_) (fun c270 => ?_)
      · exact L30 (by exact gz_m 201 (by omega)) (e2_6.trans (gs_S_e (by exact gz_m 202 (by omega))))
      · have f271 := (gr_b_57 hI (Int.toNat v1_6))
        refine gv_run 4 true hD (pc' := 19) (lv' := [(0, .inr (.inr (some 0))), (1, .inl v1_6)]) (st' := [.inl (I 57 (Int.toNat v1_6))]) (h' := gr_h I J) (C := ((((True ∧ True) ∧ True) ∧ True) ∧ (0 ≤ v1_6 ∧ v1_6 < ((1000 : Nat) : Int)))) rfl ⟨⟨⟨⟨trivial, trivial⟩, trivial⟩, trivial⟩, ⟨by exact gz_m 203 (by omega), by exact gz_m 204 (by omega)⟩⟩ ?_
        refine gv_run 1 true hD (pc' := 21) (lv' := [(0, .inr (.inr (some 0))), (1, .inl v1_6)]) (st' := [.inl 32, .inl (I 57 (Int.toNat v1_6))]) (h' := gr_h I J) (C := (True ∧ True)) rfl ⟨trivial, trivial⟩ ?_
        refine gv_icmp_ne (t := 30) hD rfl rfl ⟨⟨by exact gz_m 205 (by omega), by exact gz_m 206 (by omega)⟩, ⟨by exact gz_m 207 (by omega), by exact gz_m 208 (by omega)⟩⟩ (fun c272 => ?_) (fun c272 => ?_)
        · exact L30 (by exact gz_m 209 (by omega)) (e2_6.trans (gs_S_e (by exact gz_m 210 (by omega))))
        · refine gv_run 2 true hD (pc' := 5) (lv' := [(1, .inl (v1_6 + 1)), (0, .inr (.inr (some 0)))]) (st' := []) (h' := gr_h I J) (C := ((True ∧ True) ∧ True)) rfl ⟨⟨trivial, trivial⟩, trivial⟩ ?_
          refine gv_pick [1, 0] rfl ?_
          exact ih5 (v1_6 + 1) (by exact gz_m 211 (by omega)) (by exact gz_m 212 (by omega)) (e2_6.trans (gs_S_s (by exact gz_m 213 (by omega)) (by exact gz_m 214 (by omega)) (by exact gz_m 215 (by omega))))
  have f273 := (gr_b_0_73 hI)
  refine gv_run 3 true hD (pc' := 5) (lv' := [(1, .inl (I 0 73)), (0, .inr (.inr (some 0)))]) (st' := []) (h' := gr_h I J) (C := (((True ∧ True) ∧ True) ∧ True)) rfl ⟨⟨⟨trivial, trivial⟩, trivial⟩, trivial⟩ ?_
  refine gv_pick [1, 0] rfl ?_
  exact L5 _ (I 0 73) (Nat.lt_succ_self _) (by exact gz_m 216 (by omega)) rfl
