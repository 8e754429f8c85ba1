theorem gc_ixf_r {c : Int} (h : 0 ≤ gz_ixf c) : 35 ≤ c ∧ c ≤ 125 :=
  Classical.byContradiction fun h9 => gs_ixf_n (fun h8 => by unfold gz_sl at h8; simp only [List.mem_cons, List.not_mem_nil, or_false] at h8; omega) h
set_option maxHeartbeats 8000000 in
set_option maxRecDepth 100000 in
theorem d_X9_advance_p {ws0 : List Cond} {tb : String → gz_T} (hws : gc_Ws ws0) (htb : gc_tbs tb) (sh : gz_Sh) (ro : Nat → Nat) (I : gr_I) (J : gr_J) (A : gc_A) (hI : gc_Inv ro I) (p : Nat) (β : Int → Int) (η : Int)  (hp : gc_isText sh ro A p)  (x0 : I p 6 ≤ I p 1) (x1 : gs_TX β η (I (p + 1))) (x2 : η = I p 1) : ∃ r h', gz_Ev ws0 tb 2 (yX9_advance, cX9_advance, 3, none) [.inr (.inr (some p))] sh (gc_h sh I J A) r sh h' 0 0 ∧ (∃ (I' : gr_I) (J' : gr_J), h' = gc_h sh I' J' A ∧ gc_Inv ro I' ∧ (∀ q j : Nat, ((q = p ∧ j = 5) ∨ (q = p ∧ j = 6) ∨ (q = p ∧ j = 7) ∨ (q = p ∧ j = 8)) ∨ I' q j = I q j) ∧ (∀ q j : Nat, ((q = p ∧ j = 9)) ∨ J' q j = J q j) ∧ r = none ∧ (I' p 5 ≤ I' p 6) ∧ (I' p 7 = 5 ∨ I' p 6 ≤ I' p 1) ∧ (I' p 5 ≤ I' p 1) ∧ (I' p 7 = 4 ∨ (I' p 5 < I' p 6 ∧ I' p 5 < I' p 1)) ∧ (I' p 7 = 3 → 2 ≤ I' p 6 - I' p 5 ∧ I' p 6 - I' p 5 ≤ 14) ∧ (I p 6 ≤ I' p 5) ∧ (I' p 1 = I p 1) ∧ (I' p 7 = 3 → gc_lt p I' (I' p 5) (I' p 6 - 1)) ∧ (gc_AT β η (I p 6) p I' J')) := by
  have FI : ∀ q j : Nat, ((q = p ∧ j = 5) ∨ (q = p ∧ j = 6) ∨ (q = p ∧ j = 7) ∨ (q = p ∧ j = 8)) ∨ I q j = I q j := fun _ _ => Or.inr rfl
  have FJ : ∀ q j : Nat, ((q = p ∧ j = 9)) ∨ J q j = J q j := fun _ _ => Or.inr rfl
  obtain ⟨S_p, R_p, B_p, A_p_0, S_p_1, R_p_1, B_p_1, A_p_2, S_p_2, R_p_2, B_p_2, A_p_3, S_p_3, R_p_3, B_p_3⟩ := id hp
  have hD : gv_D (gc_E9 ws0 tb 1 (yX9_advance, cX9_advance, 3, none) kX9_advance) := gq_of oX9_advance
  refine gc_ev9 (d := 1) (l := kX9_advance) (Po := fun r h' => (∃ (I' : gr_I) (J' : gr_J), h' = gc_h sh I' J' A ∧ gc_Inv ro I' ∧ (∀ q j : Nat, ((q = p ∧ j = 5) ∨ (q = p ∧ j = 6) ∨ (q = p ∧ j = 7) ∨ (q = p ∧ j = 8)) ∨ I' q j = I q j) ∧ (∀ q j : Nat, ((q = p ∧ j = 9)) ∨ J' q j = J q j) ∧ r = none ∧ (I' p 5 ≤ I' p 6) ∧ (I' p 7 = 5 ∨ I' p 6 ≤ I' p 1) ∧ (I' p 5 ≤ I' p 1) ∧ (I' p 7 = 4 ∨ (I' p 5 < I' p 6 ∧ I' p 5 < I' p 1)) ∧ (I' p 7 = 3 → 2 ≤ I' p 6 - I' p 5 ∧ I' p 6 - I' p 5 ≤ 14) ∧ (I p 6 ≤ I' p 5) ∧ (I' p 1 = I p 1) ∧ (I' p 7 = 3 → gc_lt p I' (I' p 5) (I' p 6 - 1)) ∧ (gc_AT β η (I p 6) p I' J'))) htb rfl (Nat.le_of_ble_eq_true rfl) ?_
  have f1 := (show 0 ≤ I p 1 ∧ I p 1 ≤ 1000 from gc_in hI R_p rfl rfl)
  have f2 := (show 0 ≤ I p 5 ∧ I p 5 ≤ 1000 from gc_in hI R_p rfl rfl)
  have f3 := (show 0 ≤ I p 6 ∧ I p 6 ≤ 1001 from gc_in hI R_p rfl rfl)
  have f4 := (show 0 ≤ I p 7 ∧ I p 7 ≤ 125 from gc_in hI R_p rfl rfl)
  have L5 : ∀ (n9 : Nat) (v1_5 : Int), (1001 - v1_5).toNat < n9 → ((0 ≤ v1_5 ∧ v1_5 ≤ 1000) ∧ (v1_5 ≤ I p 1) ∧ (I p 6 ≤ v1_5)) → (gs_S β η (I p 6) = gs_S β η v1_5) → gv_X (gc_E9 ws0 tb 1 (yX9_advance, cX9_advance, 3, none) kX9_advance) (gv_Q cX9_advance none sh (fun r h' => (∃ (I' : gr_I) (J' : gr_J), h' = gc_h sh I' J' A ∧ gc_Inv ro I' ∧ (∀ q j : Nat, ((q = p ∧ j = 5) ∨ (q = p ∧ j = 6) ∨ (q = p ∧ j = 7) ∨ (q = p ∧ j = 8)) ∨ I' q j = I q j) ∧ (∀ q j : Nat, ((q = p ∧ j = 9)) ∨ J' q j = J q j) ∧ r = none ∧ (I' p 5 ≤ I' p 6) ∧ (I' p 7 = 5 ∨ I' p 6 ≤ I' p 1) ∧ (I' p 5 ≤ I' p 1) ∧ (I' p 7 = 4 ∨ (I' p 5 < I' p 6 ∧ I' p 5 < I' p 1)) ∧ (I' p 7 = 3 → 2 ≤ I' p 6 - I' p 5 ∧ I' p 6 - I' p 5 ≤ 14) ∧ (I p 6 ≤ I' p 5) ∧ (I' p 1 = I p 1) ∧ (I' p 7 = 3 → gc_lt p I' (I' p 5) (I' p 6 - 1)) ∧ (gc_AT β η (I p 6) p I' J')))) (5, [(0, .inr (.inr (some p))), (1, .inl v1_5)], [], sh, gc_h sh I J A) := by
    intro n9
    induction n9 with
    | zero => intro v1_5 hn; exact gz_m 0 (by omega)
    | succ n9 ih5 =>
      intro v1_5 hn m_5 e2_5
      obtain ⟨hv1_5, e0_5, e1_5⟩ := m_5
      have f6 := (show 0 ≤ I p 1 ∧ I p 1 ≤ 1000 from gc_in hI R_p rfl rfl)
      have f7 := (show 0 ≤ I p 5 ∧ I p 5 ≤ 1000 from gc_in hI R_p rfl rfl)
      have f8 := (show 0 ≤ I p 6 ∧ I p 6 ≤ 1001 from gc_in hI R_p rfl rfl)
      have f9 := (show 0 ≤ I p 7 ∧ I p 7 ≤ 125 from gc_in hI R_p rfl rfl)
      have L30 : ((0 ≤ v1_5 ∧ v1_5 ≤ 1000) ∧ (v1_5 ≤ I p 1) ∧ (I p 6 ≤ v1_5)) → (gs_S β η (I p 6) = v1_5) → gv_X (gc_E9 ws0 tb 1 (yX9_advance, cX9_advance, 3, none) kX9_advance) (gv_Q cX9_advance none sh (fun r h' => (∃ (I' : gr_I) (J' : gr_J), h' = gc_h sh I' J' A ∧ gc_Inv ro I' ∧ (∀ q j : Nat, ((q = p ∧ j = 5) ∨ (q = p ∧ j = 6) ∨ (q = p ∧ j = 7) ∨ (q = p ∧ j = 8)) ∨ I' q j = I q j) ∧ (∀ q j : Nat, ((q = p ∧ j = 9)) ∨ J' q j = J q j) ∧ r = none ∧ (I' p 5 ≤ I' p 6) ∧ (I' p 7 = 5 ∨ I' p 6 ≤ I' p 1) ∧ (I' p 5 ≤ I' p 1) ∧ (I' p 7 = 4 ∨ (I' p 5 < I' p 6 ∧ I' p 5 < I' p 1)) ∧ (I' p 7 = 3 → 2 ≤ I' p 6 - I' p 5 ∧ I' p 6 - I' p 5 ≤ 14) ∧ (I p 6 ≤ I' p 5) ∧ (I' p 1 = I p 1) ∧ (I' p 7 = 3 → gc_lt p I' (I' p 5) (I' p 6 - 1)) ∧ (gc_AT β η (I p 6) p I' J')))) (30, [(0, .inr (.inr (some p))), (1, .inl v1_5)], [], sh, gc_h sh I J A) := by
        intro m_10 e2_10
        obtain ⟨hv1_5_10, e0_10, e1_10⟩ := m_10
        have f11 := (show 0 ≤ I p 1 ∧ I p 1 ≤ 1000 from gc_in hI R_p rfl rfl)
        have f12 := (show 0 ≤ I p 5 ∧ I p 5 ≤ 1000 from gc_in hI R_p rfl rfl)
        have f13 := (show 0 ≤ I p 6 ∧ I p 6 ≤ 1001 from gc_in hI R_p rfl rfl)
        have f14 := (show 0 ≤ I p 7 ∧ I p 7 ≤ 125 from gc_in hI R_p rfl rfl)
        have L141 : ∀ (I15 : gr_I) (J16 : gr_J) , gc_Inv ro I15 → (∀ q j : Nat, ((q = p ∧ j = 5) ∨ (q = p ∧ j = 6) ∨ (q = p ∧ j = 7) ∨ (q = p ∧ j = 8)) ∨ I15 q j = I q j) → (∀ q j : Nat, ((q = p ∧ j = 9)) ∨ J16 q j = J q j) → ((I15 p 5 ≤ I15 p 6) ∧ (I15 p 7 = 5 ∨ I15 p 6 ≤ I15 p 1) ∧ (I15 p 5 ≤ I15 p 1) ∧ (I15 p 7 = 4 ∨ (I15 p 5 < I15 p 6 ∧ I15 p 5 < I15 p 1)) ∧ (I15 p 7 = 3 → 2 ≤ I15 p 6 - I15 p 5 ∧ I15 p 6 - I15 p 5 ≤ 14) ∧ (I p 6 ≤ I15 p 5) ∧ (I15 p 1 = I p 1)) → (I15 p 7 = 3 → gc_lt p I15 (I15 p 5) (I15 p 6 - 1)) → (gc_AT β η (I p 6) p I15 J16) → gv_X (gc_E9 ws0 tb 1 (yX9_advance, cX9_advance, 3, none) kX9_advance) (gv_Q cX9_advance none sh (fun r h' => (∃ (I' : gr_I) (J' : gr_J), h' = gc_h sh I' J' A ∧ gc_Inv ro I' ∧ (∀ q j : Nat, ((q = p ∧ j = 5) ∨ (q = p ∧ j = 6) ∨ (q = p ∧ j = 7) ∨ (q = p ∧ j = 8)) ∨ I' q j = I q j) ∧ (∀ q j : Nat, ((q = p ∧ j = 9)) ∨ J' q j = J q j) ∧ r = none ∧ (I' p 5 ≤ I' p 6) ∧ (I' p 7 = 5 ∨ I' p 6 ≤ I' p 1) ∧ (I' p 5 ≤ I' p 1) ∧ (I' p 7 = 4 ∨ (I' p 5 < I' p 6 ∧ I' p 5 < I' p 1)) ∧ (I' p 7 = 3 → 2 ≤ I' p 6 - I' p 5 ∧ I' p 6 - I' p 5 ≤ 14) ∧ (I p 6 ≤ I' p 5) ∧ (I' p 1 = I p 1) ∧ (I' p 7 = 3 → gc_lt p I' (I' p 5) (I' p 6 - 1)) ∧ (gc_AT β η (I p 6) p I' J')))) (141, [], [], sh, gc_h sh I15 J16 A) := by
          intro I15 J16 hI15 FI15 FJ16 m_17 e7_17 e8_17
          clear hv1_5_10 e0_10 e1_10 f11 f12 f13 f14 hv1_5 e0_5 e1_5 f6 f7 f8 f9
          obtain ⟨e0_17, e1_17, e2_17, e3_17, e4_17, e5_17, e6_17⟩ := m_17
          have f18 := (show 0 ≤ I15 p 1 ∧ I15 p 1 ≤ 1000 from gc_in hI15 R_p rfl rfl)
          have f19 := (show 0 ≤ I15 p 5 ∧ I15 p 5 ≤ 1000 from gc_in hI15 R_p rfl rfl)
          have f20 := (show 0 ≤ I15 p 6 ∧ I15 p 6 ≤ 1001 from gc_in hI15 R_p rfl rfl)
          have f21 := (show 0 ≤ I15 p 7 ∧ I15 p 7 ≤ 125 from gc_in hI15 R_p rfl rfl)
          exact gv_vret hD rfl ⟨I15, J16, rfl, hI15, FI15, FJ16, ⟨rfl, by exact gz_m 1 (by omega), by exact gz_m 2 (by omega), by exact gz_m 3 (by omega), by exact gz_m 4 (by omega), by exact gz_m 5 (by omega), by exact gz_m 6 (by omega), by exact gz_m 7 (by omega), e7_17, e8_17⟩⟩
        have L105 : ∀ (I22 : gr_I) (J23 : gr_J) (v2_24 : Int), gc_Inv ro I22 → (∀ q j : Nat, ((q = p ∧ j = 5) ∨ (q = p ∧ j = 6) ∨ (q = p ∧ j = 7) ∨ (q = p ∧ j = 8)) ∨ I22 q j = I q j) → (∀ q j : Nat, ((q = p ∧ j = 9)) ∨ J23 q j = J q j) → ((0 ≤ v1_5 ∧ v1_5 ≤ 999) ∧ ((-128) ≤ v2_24 ∧ v2_24 ≤ 127) ∧ (I22 p 1 = I p 1) ∧ (v1_5 < I22 p 1) ∧ (I p 6 ≤ v1_5) ∧ (I22 p 5 = v1_5) ∧ (v2_24 = β v1_5) ∧ (¬ (97 ≤ v2_24 ∧ v2_24 ≤ 122)) ∧ (¬ (48 ≤ v2_24 ∧ v2_24 ≤ 57))) → (gs_S β η (I p 6) = v1_5) → gv_X (gc_E9 ws0 tb 1 (yX9_advance, cX9_advance, 3, none) kX9_advance) (gv_Q cX9_advance none sh (fun r h' => (∃ (I' : gr_I) (J' : gr_J), h' = gc_h sh I' J' A ∧ gc_Inv ro I' ∧ (∀ q j : Nat, ((q = p ∧ j = 5) ∨ (q = p ∧ j = 6) ∨ (q = p ∧ j = 7) ∨ (q = p ∧ j = 8)) ∨ I' q j = I q j) ∧ (∀ q j : Nat, ((q = p ∧ j = 9)) ∨ J' q j = J q j) ∧ r = none ∧ (I' p 5 ≤ I' p 6) ∧ (I' p 7 = 5 ∨ I' p 6 ≤ I' p 1) ∧ (I' p 5 ≤ I' p 1) ∧ (I' p 7 = 4 ∨ (I' p 5 < I' p 6 ∧ I' p 5 < I' p 1)) ∧ (I' p 7 = 3 → 2 ≤ I' p 6 - I' p 5 ∧ I' p 6 - I' p 5 ≤ 14) ∧ (I p 6 ≤ I' p 5) ∧ (I' p 1 = I p 1) ∧ (I' p 7 = 3 → gc_lt p I' (I' p 5) (I' p 6 - 1)) ∧ (gc_AT β η (I p 6) p I' J')))) (105, [(0, .inr (.inr (some p))), (1, .inl v1_5), (2, .inl v2_24)], [], sh, gc_h sh I22 J23 A) := by
          intro I22 J23 v2_24 hI22 FI22 FJ23 m_24 e4_24
          clear hv1_5_10 e0_10 e1_10 f11 f12 f13 f14 hv1_5 e0_5 e1_5 f6 f7 f8 f9
          obtain ⟨hv1_5_24, hv2_24, e0_24, e1_24, e2_24, e3_24, e5_24, e6_24, e7_24⟩ := m_24
          have f25 := (show 0 ≤ I22 p 1 ∧ I22 p 1 ≤ 1000 from gc_in hI22 R_p rfl rfl)
          have f26 := (show 0 ≤ I22 p 5 ∧ I22 p 5 ≤ 1000 from gc_in hI22 R_p rfl rfl)
          have f27 := (show 0 ≤ I22 p 6 ∧ I22 p 6 ≤ 1001 from gc_in hI22 R_p rfl rfl)
          have f28 := (show 0 ≤ I22 p 7 ∧ I22 p 7 ≤ 125 from gc_in hI22 R_p rfl rfl)
          have L131 : ∀ (s1_29 : Int), ((0 ≤ v1_5 ∧ v1_5 ≤ 999) ∧ ((-128) ≤ s1_29 ∧ s1_29 ≤ 127) ∧ (I22 p 1 = I p 1) ∧ (v1_5 < I22 p 1) ∧ (I p 6 ≤ v1_5) ∧ (I22 p 5 = v1_5) ∧ (s1_29 = 5 ∨ (35 ≤ s1_29 ∧ s1_29 ≤ 125)) ∧ (¬ (97 ≤ β v1_5 ∧ β v1_5 ≤ 122)) ∧ (¬ (48 ≤ β v1_5 ∧ β v1_5 ≤ 57)) ∧ (¬ β v1_5 = 39)) → (gs_S β η (I p 6) = v1_5) → (s1_29 = if 0 ≤ gz_ixf (β v1_5) then β v1_5 else 5) → gv_X (gc_E9 ws0 tb 1 (yX9_advance, cX9_advance, 3, none) kX9_advance) (gv_Q cX9_advance none sh (fun r h' => (∃ (I' : gr_I) (J' : gr_J), h' = gc_h sh I' J' A ∧ gc_Inv ro I' ∧ (∀ q j : Nat, ((q = p ∧ j = 5) ∨ (q = p ∧ j = 6) ∨ (q = p ∧ j = 7) ∨ (q = p ∧ j = 8)) ∨ I' q j = I q j) ∧ (∀ q j : Nat, ((q = p ∧ j = 9)) ∨ J' q j = J q j) ∧ r = none ∧ (I' p 5 ≤ I' p 6) ∧ (I' p 7 = 5 ∨ I' p 6 ≤ I' p 1) ∧ (I' p 5 ≤ I' p 1) ∧ (I' p 7 = 4 ∨ (I' p 5 < I' p 6 ∧ I' p 5 < I' p 1)) ∧ (I' p 7 = 3 → 2 ≤ I' p 6 - I' p 5 ∧ I' p 6 - I' p 5 ≤ 14) ∧ (I p 6 ≤ I' p 5) ∧ (I' p 1 = I p 1) ∧ (I' p 7 = 3 → gc_lt p I' (I' p 5) (I' p 6 - 1)) ∧ (gc_AT β η (I p 6) p I' J')))) (131, [(0, .inr (.inr (some p))), (1, .inl v1_5)], [.inl s1_29, .inr (.inr (some p))], sh, gc_h sh I22 J23 A) := by
            intro s1_29 m_29 e5_29 e9_29
            obtain ⟨hv1_5_29, hs1_29, e0_29, e1_29, e2_29, e3_29, e4_29, e6_29, e7_29, e8_29⟩ := m_29
            have f30 := (show 0 ≤ I22 p 1 ∧ I22 p 1 ≤ 1000 from gc_in hI22 R_p rfl rfl)
            have f31 := (show 0 ≤ I22 p 5 ∧ I22 p 5 ≤ 1000 from gc_in hI22 R_p rfl rfl)
            have f32 := (show 0 ≤ I22 p 6 ∧ I22 p 6 ≤ 1001 from gc_in hI22 R_p rfl rfl)
            have f33 := (show 0 ≤ I22 p 7 ∧ I22 p 7 ≤ 125 from gc_in hI22 R_p rfl rfl)
            refine gv_put hD rfl rfl S_p ⟨by decide, B_p⟩ rfl trivial ?_
            refine gc_st (k := 7) hI22 S_p rfl R_p (lo := 0) (hi := 125) rfl rfl (by exact gz_m 8 (by omega)) (by exact gz_m 9 (by omega)) (fun I34 hI34 q35 p35 => ?_)
            have FI34 := gc_frs (W := fun q j => (q = p ∧ j = 5) ∨ (q = p ∧ j = 6) ∨ (q = p ∧ j = 7) ∨ (q = p ∧ j = 8)) FI22 (Or.inr (Or.inr (Or.inl ⟨rfl, rfl⟩))) p35
            have t36 := p35 p 1 (fun h => absurd h.2 (by decide))
            have t37 := p35 p 5 (fun h => absurd h.2 (by decide))
            have t38 := p35 p 6 (fun h => absurd h.2 (by decide))
            have f39 := (show 0 ≤ I34 p 7 ∧ I34 p 7 ≤ 125 from gc_in hI34 R_p rfl rfl)
            show gv_X _ _ (134, [(0, .inr (.inr (some p))), (1, .inl v1_5)], [], sh, gc_h sh I34 J23 A)
            refine gv_run 4 true hD (pc' := 138) (lv' := [(0, .inr (.inr (some p))), (1, .inl v1_5)]) (st' := [.inl (v1_5 + 1), .inr (.inr (some p))]) (h' := gc_h sh I34 J23 A) (C := ((((True ∧ True) ∧ True) ∧ True) ∧ True)) rfl ⟨⟨⟨⟨trivial, trivial⟩, trivial⟩, trivial⟩, trivial⟩ ?_
            refine gv_put hD rfl rfl S_p ⟨by decide, B_p⟩ rfl trivial ?_
            refine gc_st (k := 6) hI34 S_p rfl R_p (lo := 0) (hi := 1001) rfl rfl (by exact gz_m 10 (by omega)) (by exact gz_m 11 (by omega)) (fun I40 hI40 q41 p41 => ?_)
            have FI40 := gc_frs (W := fun q j => (q = p ∧ j = 5) ∨ (q = p ∧ j = 6) ∨ (q = p ∧ j = 7) ∨ (q = p ∧ j = 8)) FI34 (Or.inr (Or.inl ⟨rfl, rfl⟩)) p41
            have t42 := p41 p 1 (fun h => absurd h.2 (by decide))
            have t43 := p41 p 5 (fun h => absurd h.2 (by decide))
            have t44 := p41 p 7 (fun h => absurd h.2 (by decide))
            have f45 := (show 0 ≤ I40 p 6 ∧ I40 p 6 ≤ 1001 from gc_in hI40 R_p rfl rfl)
            show gv_X _ _ (141, [(0, .inr (.inr (some p))), (1, .inl v1_5)], [], sh, gc_h sh I40 J23 A)
            refine gv_pick [] rfl ?_
            exact L141 I40 J23 hI40 FI40 FJ23 (by exact gz_m 12 (by omega)) (fun h => by exact gz_m 13 (by omega)) (gc_AT_sg ⟨(by rw [show I40 (p + 1) = I (p + 1) from funext fun k => (FI40 (p + 1) k).resolve_left (by exact gz_m 14 (by omega))]; exact x1), by exact gz_m 15 (by omega)⟩ e5_29 (by exact gz_m 16 (by omega)) (by exact gz_m 17 (by omega)) (by exact gz_m 18 (by omega)) (by exact gz_m 19 (by omega)) (by rw [← e9_29]; exact gz_m 20 (by omega)) (by exact gz_m 21 (by omega)) (by exact gz_m 22 (by omega)))
          refine gv_run 2 true hD (pc' := 108) (lv' := [(0, .inr (.inr (some p))), (1, .inl v1_5), (2, .inl v2_24)]) (st' := [.inl 39, .inl v2_24]) (h' := gc_h sh I22 J23 A) (C := ((True ∧ True) ∧ True)) rfl ⟨⟨trivial, trivial⟩, trivial⟩ ?_
          refine gv_icmp_ne (t := 118) hD rfl rfl ⟨⟨by exact gz_m 23 (by omega), by exact gz_m 24 (by omega)⟩, ⟨by exact gz_m 25 (by omega), by exact gz_m 26 (by omega)⟩⟩ (fun c46 => ?_) (fun c46 => ?_)
          · show gv_X _ _ (118, [(0, .inr (.inr (some p))), (1, .inl v1_5), (2, .inl v2_24)], [], sh, gc_h sh I22 J23 A)
            refine gv_run 2 true hD (pc' := 120) (lv' := [(0, .inr (.inr (some p))), (1, .inl v1_5), (2, .inl v2_24)]) (st' := [.inl v2_24, .inr (.inr (some p))]) (h' := gc_h sh I22 J23 A) (C := ((True ∧ True) ∧ True)) rfl ⟨⟨trivial, trivial⟩, trivial⟩ ?_
            obtain ⟨r47, h47, E47, P47⟩ := d_X9_isSign_p (ws0 := ws0) (tb := tb) hws htb sh ro I22 J23 A hI22  v2_24    ⟨by exact gz_m 27 (by omega), by exact gz_m 28 (by omega)⟩  
            obtain ⟨rfl, ⟨z47, rfl, q47⟩⟩ := P47
            refine gv_callS hD rfl (As := [.inl v2_24]) (st := [.inr (.inr (some p))]) rfl (gc_lS9 hws rfl) (Nat.le_of_ble_eq_true rfl) (gz_Ev_mono (d := 1) (by decide) E47) ?_
            show gv_X _ _ (123, [(0, .inr (.inr (some p))), (1, .inl v1_5), (2, .inl v2_24)], [.inl z47, .inr (.inr (some p))], sh, gc_h sh I22 J23 A)
            refine gv_if_eq (t := 130) hD rfl rfl ⟨by exact gz_m 29 (by omega), by exact gz_m 30 (by omega)⟩ (fun c48 => ?_) (fun c48 => ?_)
            · show gv_X _ _ (130, [(0, .inr (.inr (some p))), (1, .inl v1_5), (2, .inl v2_24)], [.inr (.inr (some p))], sh, gc_h sh I22 J23 A)
              refine gv_run 1 true hD (pc' := 131) (lv' := [(0, .inr (.inr (some p))), (1, .inl v1_5), (2, .inl v2_24)]) (st' := [.inl 5, .inr (.inr (some p))]) (h' := gc_h sh I22 J23 A) (C := (True ∧ True)) rfl ⟨trivial, trivial⟩ ?_
              refine gv_pick [0, 1] rfl ?_
              exact L131 5 (by exact gz_m 31 (by omega)) e4_24 (by rw [show β v1_5 = v2_24 from by exact gz_m 32 (by omega)]; split; (exact gz_m 33 (by omega)); exact gz_m 34 (by omega))
            · show gv_X _ _ (126, [(0, .inr (.inr (some p))), (1, .inl v1_5), (2, .inl v2_24)], [.inr (.inr (some p))], sh, gc_h sh I22 J23 A)
              have t49 := (gc_ixf_r (c := v2_24) (by exact gz_m 35 (by omega)))
              refine gv_run 2 true hD (pc' := 131) (lv' := [(0, .inr (.inr (some p))), (1, .inl v1_5), (2, .inl v2_24)]) (st' := [.inl v2_24, .inr (.inr (some p))]) (h' := gc_h sh I22 J23 A) (C := ((True ∧ True) ∧ True)) rfl ⟨⟨trivial, trivial⟩, trivial⟩ ?_
              refine gv_pick [0, 1] rfl ?_
              exact L131 v2_24 (by exact gz_m 36 (by omega)) e4_24 (by rw [show β v1_5 = v2_24 from by exact gz_m 37 (by omega)]; split; (exact gz_m 38 (by omega)); exact gz_m 39 (by omega))
          · show gv_X _ _ (111, [(0, .inr (.inr (some p))), (1, .inl v1_5), (2, .inl v2_24)], [], sh, gc_h sh I22 J23 A)
            refine gv_run 1 true hD (pc' := 112) (lv' := [(0, .inr (.inr (some p))), (1, .inl v1_5), (2, .inl v2_24)]) (st' := [.inr (.inr (some p))]) (h' := gc_h sh I22 J23 A) (C := (True ∧ True)) rfl ⟨trivial, trivial⟩ ?_
            obtain ⟨r50, h50, E50, P50⟩ := d_X9_takeLetters_p (ws0 := ws0) (tb := tb) hws htb sh ro I22 J23 A hI22 p β η  hp    (by exact gz_m 40 (by omega)) (by rw [show I22 (p + 1) = I (p + 1) from funext fun k => (FI22 (p + 1) k).resolve_left (by exact gz_m 41 (by omega))]; exact x1) (by exact gz_m 42 (by omega)) 
            obtain ⟨I51, J52, rfl, hI51, g50, k50, ⟨rfl, q50⟩⟩ := P50
            have FI51 := gc_frc (W := fun q j => (q = p ∧ j = 5) ∨ (q = p ∧ j = 6) ∨ (q = p ∧ j = 7) ∨ (q = p ∧ j = 8)) (V := fun q j => (q = p ∧ j = 6) ∨ (q = p ∧ j = 7)) FI22 (fun q j h => (h.elim (fun h => (Or.inr (Or.inl h))) (fun h => (Or.inr (Or.inr (Or.inl h)))))) g50
            have t53 := (g50 p 1).resolve_left (fun h => h.elim (fun h => absurd h.2 (by decide)) (fun h => absurd h.2 (by decide)))
            have t54 := (g50 p 5).resolve_left (fun h => h.elim (fun h => absurd h.2 (by decide)) (fun h => absurd h.2 (by decide)))
            have f55 := (show 0 ≤ I51 p 6 ∧ I51 p 6 ≤ 1001 from gc_in hI51 R_p rfl rfl)
            have f56 := (show 0 ≤ I51 p 7 ∧ I51 p 7 ≤ 125 from gc_in hI51 R_p rfl rfl)
            obtain rfl : J23 = J52 := funext fun q => funext fun j => ((k50 q j).resolve_left id).symm
            refine gv_callV hD rfl (As := []) (st := []) rfl B_p S_p rfl (gc_lV9 hws rfl) (Nat.le_of_ble_eq_true rfl) (gz_Ev_mono (d := 1) (by decide) E50) ?_
            show gv_X _ _ (115, [(0, .inr (.inr (some p))), (1, .inl v1_5), (2, .inl v2_24)], [], sh, gc_h sh I51 J23 A)
            refine gv_run 1 true hD (pc' := 141) (lv' := [(0, .inr (.inr (some p))), (1, .inl v1_5), (2, .inl v2_24)]) (st' := []) (h' := gc_h sh I51 J23 A) (C := (True ∧ True)) rfl ⟨trivial, trivial⟩ ?_
            refine gv_pick [] rfl ?_
            exact L141 I51 J23 hI51 FI51 FJ23 (by exact gz_m 43 (by omega)) (fun _ => q50.2.2.1) (gc_AT_lt ⟨(by rw [show I51 (p + 1) = I (p + 1) from funext fun k => (FI51 (p + 1) k).resolve_left (by exact gz_m 44 (by omega))]; exact x1), by exact gz_m 45 (by omega)⟩ e4_24 (by exact gz_m 46 (by omega)) (by exact gz_m 47 (by omega)) (by rw [← (show I22 p 5 = v1_5 from by exact gz_m 48 (by omega))]; exact q50.2.2.2.2) (by exact gz_m 49 (by omega)) (by rw [← (show I22 p 5 = v1_5 from by exact gz_m 50 (by omega))]; exact q50.2.2.2.1))
        have t57 := (fun h : v1_5 < η => gs_TX_i x1 (k := v1_5) (by exact gz_m 51 (by omega)) h)
        have t58 := (fun h : ¬ v1_5 < η => gs_TX_o x1 (k := v1_5) h)
        refine gv_run 2 true hD (pc' := 32) (lv' := [(0, .inr (.inr (some p))), (1, .inl v1_5)]) (st' := [.inl v1_5, .inr (.inr (some p))]) (h' := gc_h sh I J A) (C := ((True ∧ True) ∧ True)) rfl ⟨⟨trivial, trivial⟩, trivial⟩ ?_
        refine gv_put hD rfl rfl S_p ⟨by decide, B_p⟩ rfl trivial ?_
        refine gc_st (k := 5) hI S_p rfl R_p (lo := 0) (hi := 1000) rfl rfl (by exact gz_m 52 (by omega)) (by exact gz_m 53 (by omega)) (fun I59 hI59 q60 p60 => ?_)
        have FI59 := gc_frs (W := fun q j => (q = p ∧ j = 5) ∨ (q = p ∧ j = 6) ∨ (q = p ∧ j = 7) ∨ (q = p ∧ j = 8)) FI (Or.inl ⟨rfl, rfl⟩) p60
        have t61 := p60 p 1 (fun h => absurd h.2 (by decide))
        have t62 := p60 p 6 (fun h => absurd h.2 (by decide))
        have t63 := p60 p 7 (fun h => absurd h.2 (by decide))
        have f64 := (show 0 ≤ I59 p 5 ∧ I59 p 5 ≤ 1000 from gc_in hI59 R_p rfl rfl)
        show gv_X _ _ (35, [(0, .inr (.inr (some p))), (1, .inl v1_5)], [], sh, gc_h sh I59 J A)
        refine gv_run 2 true hD (pc' := 37) (lv' := [(0, .inr (.inr (some p))), (1, .inl v1_5)]) (st' := [.inr (.inr (some p)), .inl v1_5]) (h' := gc_h sh I59 J A) (C := ((True ∧ True) ∧ True)) rfl ⟨⟨trivial, trivial⟩, trivial⟩ ?_
        have f65 := (show 0 ≤ I59 p 1 ∧ I59 p 1 ≤ 1000 from gc_in hI59 R_p rfl rfl)
        refine gv_get hD rfl rfl S_p ⟨by decide, B_p⟩ (gc_hI S_p rfl) ?_
        show gv_X _ _ (40, [(0, .inr (.inr (some p))), (1, .inl v1_5)], [.inl (I59 p 1), .inl v1_5], sh, gc_h sh I59 J A)
        refine gv_icmp_lt (t := 65) hD rfl rfl ⟨⟨by exact gz_m 54 (by omega), by exact gz_m 55 (by omega)⟩, ⟨by exact gz_m 56 (by omega), by exact gz_m 57 (by omega)⟩⟩ (fun c66 => ?_) (fun c66 => ?_)
        · show gv_X _ _ (65, [(0, .inr (.inr (some p))), (1, .inl v1_5)], [], sh, gc_h sh I59 J A)
          have t67 := (fun h : v1_5 < η => gs_TX_i x1 (k := v1_5) (by exact gz_m 58 (by omega)) h)
          have t68 := (fun h : ¬ v1_5 < η => gs_TX_o x1 (k := v1_5) h)
          have t69 := (show I59 (p + 1) (Int.toNat v1_5) = I (p + 1) (Int.toNat v1_5) from (FI59 (p + 1) (Int.toNat v1_5)).resolve_left (by exact gz_m 59 (by omega)))
          refine gv_run 1 true hD (pc' := 66) (lv' := [(0, .inr (.inr (some p))), (1, .inl v1_5)]) (st' := [.inr (.inr (some p))]) (h' := gc_h sh I59 J A) (C := (True ∧ True)) rfl ⟨trivial, trivial⟩ ?_
          refine gv_get hD rfl rfl S_p ⟨by decide, B_p⟩ (gc_hA S_p rfl A_p_0) ?_
          show gv_X _ _ (69, [(0, .inr (.inr (some p))), (1, .inl v1_5)], [.inr (.inr (some (p + 1)))], sh, gc_h sh I59 J A)
          refine gv_run 1 true hD (pc' := 70) (lv' := [(0, .inr (.inr (some p))), (1, .inl v1_5)]) (st' := [.inl v1_5, .inr (.inr (some (p + 1)))]) (h' := gc_h sh I59 J A) (C := (True ∧ True)) rfl ⟨trivial, trivial⟩ ?_
          have f70 := (show (-128) ≤ I59 (p + 1) (Int.toNat v1_5) ∧ I59 (p + 1) (Int.toNat v1_5) ≤ 127 from gc_in hI59 R_p_1 rfl rfl)
          refine gv_bald hD rfl S_p_1 (Or.inl rfl) ⟨by decide, B_p_1⟩ ⟨by exact gz_m 60 (by omega), by exact gz_m 61 (by omega)⟩ (gc_iI S_p_1 rfl) ?_
          show gv_X _ _ (71, [(0, .inr (.inr (some p))), (1, .inl v1_5)], [.inl (I59 (p + 1) (Int.toNat v1_5))], sh, gc_h sh I59 J A)
          refine gv_run 1 true hD (pc' := 72) (lv' := [(2, .inl (I59 (p + 1) (Int.toNat v1_5))), (0, .inr (.inr (some p))), (1, .inl v1_5)]) (st' := []) (h' := gc_h sh I59 J A) (C := (True ∧ True)) rfl ⟨trivial, trivial⟩ ?_
          have t71 := (fun h : v1_5 < η => gs_TX_i x1 (k := v1_5) (by exact gz_m 62 (by omega)) h)
          have t72 := (fun h : ¬ v1_5 < η => gs_TX_o x1 (k := v1_5) h)
          have t73 := (show I59 (p + 1) (Int.toNat v1_5) = I (p + 1) (Int.toNat v1_5) from (FI59 (p + 1) (Int.toNat v1_5)).resolve_left (by exact gz_m 63 (by omega)))
          refine gv_run 1 true hD (pc' := 73) (lv' := [(2, .inl (I59 (p + 1) (Int.toNat v1_5))), (0, .inr (.inr (some p))), (1, .inl v1_5)]) (st' := [.inl (I59 (p + 1) (Int.toNat v1_5))]) (h' := gc_h sh I59 J A) (C := (True ∧ True)) rfl ⟨trivial, trivial⟩ ?_
          obtain ⟨r74, h74, E74, P74⟩ := d_X9_isLetter_p (ws0 := ws0) (tb := tb) hws htb sh ro I59 J A hI59  ((I59 (p + 1) (Int.toNat v1_5)))    ⟨by exact gz_m 64 (by omega), by exact gz_m 65 (by omega)⟩  
          obtain ⟨rfl, ⟨z74, rfl, q74⟩⟩ := P74
          refine gv_callS hD rfl (As := [.inl (I59 (p + 1) (Int.toNat v1_5))]) (st := []) rfl (gc_lS9 hws rfl) (Nat.le_of_ble_eq_true rfl) (gz_Ev_mono (d := 1) (by decide) E74) ?_
          show gv_X _ _ (76, [(2, .inl (I59 (p + 1) (Int.toNat v1_5))), (0, .inr (.inr (some p))), (1, .inl v1_5)], [.inl z74], sh, gc_h sh I59 J A)
          refine gv_if_eq (t := 86) hD rfl rfl ⟨by exact gz_m 66 (by omega), by exact gz_m 67 (by omega)⟩ (fun c75 => ?_) (fun c75 => ?_)
          · show gv_X _ _ (86, [(2, .inl (I59 (p + 1) (Int.toNat v1_5))), (0, .inr (.inr (some p))), (1, .inl v1_5)], [], sh, gc_h sh I59 J A)
            refine gv_run 2 true hD (pc' := 89) (lv' := [(2, .inl (I59 (p + 1) (Int.toNat v1_5))), (0, .inr (.inr (some p))), (1, .inl v1_5)]) (st' := [.inl 48, .inl (I59 (p + 1) (Int.toNat v1_5))]) (h' := gc_h sh I59 J A) (C := ((True ∧ True) ∧ True)) rfl ⟨⟨trivial, trivial⟩, trivial⟩ ?_
            refine gv_icmp_lt (t := 105) hD rfl rfl ⟨⟨by exact gz_m 68 (by omega), by exact gz_m 69 (by omega)⟩, ⟨by exact gz_m 70 (by omega), by exact gz_m 71 (by omega)⟩⟩ (fun c76 => ?_) (fun c76 => ?_)
            · show gv_X _ _ (105, [(2, .inl (I59 (p + 1) (Int.toNat v1_5))), (0, .inr (.inr (some p))), (1, .inl v1_5)], [], sh, gc_h sh I59 J A)
              refine gv_pick [1, 2, 0] rfl ?_
              exact L105 I59 J ((I59 (p + 1) (Int.toNat v1_5))) hI59 FI59 FJ (by exact gz_m 72 (by omega)) e2_10
            · show gv_X _ _ (92, [(2, .inl (I59 (p + 1) (Int.toNat v1_5))), (0, .inr (.inr (some p))), (1, .inl v1_5)], [], sh, gc_h sh I59 J A)
              refine gv_run 2 true hD (pc' := 95) (lv' := [(2, .inl (I59 (p + 1) (Int.toNat v1_5))), (0, .inr (.inr (some p))), (1, .inl v1_5)]) (st' := [.inl 57, .inl (I59 (p + 1) (Int.toNat v1_5))]) (h' := gc_h sh I59 J A) (C := ((True ∧ True) ∧ True)) rfl ⟨⟨trivial, trivial⟩, trivial⟩ ?_
              refine gv_icmp_gt (t := 105) hD rfl rfl ⟨⟨by exact gz_m 73 (by omega), by exact gz_m 74 (by omega)⟩, ⟨by exact gz_m 75 (by omega), by exact gz_m 76 (by omega)⟩⟩ (fun c77 => ?_) (fun c77 => ?_)
              · show gv_X _ _ (105, [(2, .inl (I59 (p + 1) (Int.toNat v1_5))), (0, .inr (.inr (some p))), (1, .inl v1_5)], [], sh, gc_h sh I59 J A)
                refine gv_pick [1, 2, 0] rfl ?_
                exact L105 I59 J ((I59 (p + 1) (Int.toNat v1_5))) hI59 FI59 FJ (by exact gz_m 77 (by omega)) e2_10
              · show gv_X _ _ (98, [(2, .inl (I59 (p + 1) (Int.toNat v1_5))), (0, .inr (.inr (some p))), (1, .inl v1_5)], [], sh, gc_h sh I59 J A)
                refine gv_run 1 true hD (pc' := 99) (lv' := [(2, .inl (I59 (p + 1) (Int.toNat v1_5))), (0, .inr (.inr (some p))), (1, .inl v1_5)]) (st' := [.inr (.inr (some p))]) (h' := gc_h sh I59 J A) (C := (True ∧ True)) rfl ⟨trivial, trivial⟩ ?_
                obtain ⟨r78, h78, E78, P78⟩ := d_X9_takeNumber_p (ws0 := ws0) (tb := tb) hws htb sh ro I59 J A hI59 p β η  hp    (by exact gz_m 78 (by omega)) (by rw [q60]; exact gz_m 79 (by omega)) (by rw [show I59 (p + 1) = I (p + 1) from funext fun k => (FI59 (p + 1) k).resolve_left (by exact gz_m 80 (by omega))]; exact x1) (by exact gz_m 81 (by omega)) 
                obtain ⟨I79, J80, rfl, hI79, g78, k78, ⟨rfl, q78⟩⟩ := P78
                have FI79 := gc_frc (W := fun q j => (q = p ∧ j = 5) ∨ (q = p ∧ j = 6) ∨ (q = p ∧ j = 7) ∨ (q = p ∧ j = 8)) (V := fun q j => (q = p ∧ j = 6) ∨ (q = p ∧ j = 7) ∨ (q = p ∧ j = 8)) FI59 (fun q j h => (h.elim (fun h => (Or.inr (Or.inl h))) (fun h => (h.elim (fun h => (Or.inr (Or.inr (Or.inl h)))) (fun h => (Or.inr (Or.inr (Or.inr h)))))))) g78
                have t81 := (g78 p 1).resolve_left (fun h => h.elim (fun h => absurd h.2 (by decide)) (fun h => h.elim (fun h => absurd h.2 (by decide)) (fun h => absurd h.2 (by decide))))
                have t82 := (g78 p 5).resolve_left (fun h => h.elim (fun h => absurd h.2 (by decide)) (fun h => h.elim (fun h => absurd h.2 (by decide)) (fun h => absurd h.2 (by decide))))
                have f83 := (show 0 ≤ I79 p 6 ∧ I79 p 6 ≤ 1001 from gc_in hI79 R_p rfl rfl)
                have f84 := (show 0 ≤ I79 p 7 ∧ I79 p 7 ≤ 125 from gc_in hI79 R_p rfl rfl)
                obtain rfl : J = J80 := funext fun q => funext fun j => ((k78 q j).resolve_left id).symm
                refine gv_callV hD rfl (As := []) (st := []) rfl B_p S_p rfl (gc_lV9 hws rfl) (Nat.le_of_ble_eq_true rfl) (gz_Ev_mono (d := 1) (by decide) E78) ?_
                show gv_X _ _ (102, [(2, .inl (I59 (p + 1) (Int.toNat v1_5))), (0, .inr (.inr (some p))), (1, .inl v1_5)], [], sh, gc_h sh I79 J A)
                refine gv_run 1 true hD (pc' := 141) (lv' := [(2, .inl (I59 (p + 1) (Int.toNat v1_5))), (0, .inr (.inr (some p))), (1, .inl v1_5)]) (st' := []) (h' := gc_h sh I79 J A) (C := (True ∧ True)) rfl ⟨trivial, trivial⟩ ?_
                refine gv_pick [] rfl ?_
                exact L141 I79 J hI79 FI79 FJ (by exact gz_m 82 (by omega)) (fun h => by exact gz_m 83 (by omega)) (gc_AT_nu ⟨(by rw [show I79 (p + 1) = I (p + 1) from funext fun k => (FI79 (p + 1) k).resolve_left (by exact gz_m 84 (by omega))]; exact x1), by exact gz_m 85 (by omega)⟩ e2_10 (by exact gz_m 86 (by omega)) (by exact gz_m 87 (by omega)) (by exact gz_m 88 (by omega)) (by exact gz_m 89 (by omega)) (by rw [← (show I59 p 5 = v1_5 from by exact gz_m 90 (by omega))]; exact q78.2.2.2.1) (by rw [← (show I59 p 5 = v1_5 from by exact gz_m 91 (by omega))]; exact q78.2.2.2.2))
          · show gv_X _ _ (79, [(2, .inl (I59 (p + 1) (Int.toNat v1_5))), (0, .inr (.inr (some p))), (1, .inl v1_5)], [], sh, gc_h sh I59 J A)
            refine gv_run 1 true hD (pc' := 80) (lv' := [(2, .inl (I59 (p + 1) (Int.toNat v1_5))), (0, .inr (.inr (some p))), (1, .inl v1_5)]) (st' := [.inr (.inr (some p))]) (h' := gc_h sh I59 J A) (C := (True ∧ True)) rfl ⟨trivial, trivial⟩ ?_
            obtain ⟨r85, h85, E85, P85⟩ := d_X9_takeName_p (ws0 := ws0) (tb := tb) hws htb sh ro I59 J A hI59 p β η  hp    (by exact gz_m 92 (by omega)) (by rw [q60]; exact gz_m 93 (by omega)) (by rw [show I59 (p + 1) = I (p + 1) from funext fun k => (FI59 (p + 1) k).resolve_left (by exact gz_m 94 (by omega))]; exact x1) (by exact gz_m 95 (by omega)) 
            obtain ⟨I86, J87, rfl, hI86, g85, k85, ⟨rfl, q85⟩⟩ := P85
            have FI86 := gc_frc (W := fun q j => (q = p ∧ j = 5) ∨ (q = p ∧ j = 6) ∨ (q = p ∧ j = 7) ∨ (q = p ∧ j = 8)) (V := fun q j => (q = p ∧ j = 6) ∨ (q = p ∧ j = 7)) FI59 (fun q j h => (h.elim (fun h => (Or.inr (Or.inl h))) (fun h => (Or.inr (Or.inr (Or.inl h)))))) g85
            have FJ87 := gc_frc (W := fun q j => (q = p ∧ j = 9)) (V := fun q j => (q = p ∧ j = 9)) FJ (fun q j h => h) k85
            have t88 := (g85 p 1).resolve_left (fun h => h.elim (fun h => absurd h.2 (by decide)) (fun h => absurd h.2 (by decide)))
            have t89 := (g85 p 5).resolve_left (fun h => h.elim (fun h => absurd h.2 (by decide)) (fun h => absurd h.2 (by decide)))
            have f90 := (show 0 ≤ I86 p 6 ∧ I86 p 6 ≤ 1001 from gc_in hI86 R_p rfl rfl)
            have f91 := (show 0 ≤ I86 p 7 ∧ I86 p 7 ≤ 125 from gc_in hI86 R_p rfl rfl)
            refine gv_callV hD rfl (As := []) (st := []) rfl B_p S_p rfl (gc_lV9 hws rfl) (Nat.le_of_ble_eq_true rfl) (gz_Ev_mono (d := 1) (by decide) E85) ?_
            show gv_X _ _ (83, [(2, .inl (I59 (p + 1) (Int.toNat v1_5))), (0, .inr (.inr (some p))), (1, .inl v1_5)], [], sh, gc_h sh I86 J87 A)
            refine gv_run 1 true hD (pc' := 141) (lv' := [(2, .inl (I59 (p + 1) (Int.toNat v1_5))), (0, .inr (.inr (some p))), (1, .inl v1_5)]) (st' := []) (h' := gc_h sh I86 J87 A) (C := (True ∧ True)) rfl ⟨trivial, trivial⟩ ?_
            refine gv_pick [] rfl ?_
            exact L141 I86 J87 hI86 FI86 FJ87 (by exact gz_m 96 (by omega)) (fun h => by exact gz_m 97 (by omega)) (gc_AT_nm ⟨(by rw [show I86 (p + 1) = I (p + 1) from funext fun k => (FI86 (p + 1) k).resolve_left (by exact gz_m 98 (by omega))]; exact x1), by exact gz_m 99 (by omega)⟩ e2_10 (by exact gz_m 100 (by omega)) (by exact gz_m 101 (by omega)) (by exact gz_m 102 (by omega)) (by exact gz_m 103 (by omega)) (by rw [← (show I59 p 5 = v1_5 from by exact gz_m 104 (by omega))]; exact q85.2.2.2.1) (by rw [← (show I59 p 5 = v1_5 from by exact gz_m 105 (by omega))]; exact q85.2.2.2.2))
        · show gv_X _ _ (43, [(0, .inr (.inr (some p))), (1, .inl v1_5)], [], sh, gc_h sh I59 J A)
          refine gv_run 2 true hD (pc' := 45) (lv' := [(0, .inr (.inr (some p))), (1, .inl v1_5)]) (st' := [.inl 4, .inr (.inr (some p))]) (h' := gc_h sh I59 J A) (C := ((True ∧ True) ∧ True)) rfl ⟨⟨trivial, trivial⟩, trivial⟩ ?_
          refine gv_put hD rfl rfl S_p ⟨by decide, B_p⟩ rfl trivial ?_
          refine gc_st (k := 7) hI59 S_p rfl R_p (lo := 0) (hi := 125) rfl rfl (by exact gz_m 106 (by omega)) (by exact gz_m 107 (by omega)) (fun I92 hI92 q93 p93 => ?_)
          have FI92 := gc_frs (W := fun q j => (q = p ∧ j = 5) ∨ (q = p ∧ j = 6) ∨ (q = p ∧ j = 7) ∨ (q = p ∧ j = 8)) FI59 (Or.inr (Or.inr (Or.inl ⟨rfl, rfl⟩))) p93
          have t94 := p93 p 1 (fun h => absurd h.2 (by decide))
          have t95 := p93 p 5 (fun h => absurd h.2 (by decide))
          have t96 := p93 p 6 (fun h => absurd h.2 (by decide))
          have f97 := (show 0 ≤ I92 p 7 ∧ I92 p 7 ≤ 125 from gc_in hI92 R_p rfl rfl)
          show gv_X _ _ (48, [(0, .inr (.inr (some p))), (1, .inl v1_5)], [], sh, gc_h sh I92 J A)
          refine gv_run 2 true hD (pc' := 50) (lv' := [(0, .inr (.inr (some p))), (1, .inl v1_5)]) (st' := [.inr (.inr (some p)), .inr (.inr (some p))]) (h' := gc_h sh I92 J A) (C := ((True ∧ True) ∧ True)) rfl ⟨⟨trivial, trivial⟩, trivial⟩ ?_
          have f98 := (show 0 ≤ I92 p 1 ∧ I92 p 1 ≤ 1000 from gc_in hI92 R_p rfl rfl)
          refine gv_get hD rfl rfl S_p ⟨by decide, B_p⟩ (gc_hI S_p rfl) ?_
          show gv_X _ _ (53, [(0, .inr (.inr (some p))), (1, .inl v1_5)], [.inl (I92 p 1), .inr (.inr (some p))], sh, gc_h sh I92 J A)
          refine gv_put hD rfl rfl S_p ⟨by decide, B_p⟩ rfl trivial ?_
          refine gc_st (k := 5) hI92 S_p rfl R_p (lo := 0) (hi := 1000) rfl rfl (by exact gz_m 108 (by omega)) (by exact gz_m 109 (by omega)) (fun I99 hI99 q100 p100 => ?_)
          have FI99 := gc_frs (W := fun q j => (q = p ∧ j = 5) ∨ (q = p ∧ j = 6) ∨ (q = p ∧ j = 7) ∨ (q = p ∧ j = 8)) FI92 (Or.inl ⟨rfl, rfl⟩) p100
          have t101 := p100 p 1 (fun h => absurd h.2 (by decide))
          have t102 := p100 p 6 (fun h => absurd h.2 (by decide))
          have t103 := p100 p 7 (fun h => absurd h.2 (by decide))
          have f104 := (show 0 ≤ I99 p 5 ∧ I99 p 5 ≤ 1000 from gc_in hI99 R_p rfl rfl)
          show gv_X _ _ (56, [(0, .inr (.inr (some p))), (1, .inl v1_5)], [], sh, gc_h sh I99 J A)
          refine gv_run 2 true hD (pc' := 58) (lv' := [(0, .inr (.inr (some p))), (1, .inl v1_5)]) (st' := [.inr (.inr (some p)), .inr (.inr (some p))]) (h' := gc_h sh I99 J A) (C := ((True ∧ True) ∧ True)) rfl ⟨⟨trivial, trivial⟩, trivial⟩ ?_
          have f105 := (show 0 ≤ I99 p 1 ∧ I99 p 1 ≤ 1000 from gc_in hI99 R_p rfl rfl)
          refine gv_get hD rfl rfl S_p ⟨by decide, B_p⟩ (gc_hI S_p rfl) ?_
          show gv_X _ _ (61, [(0, .inr (.inr (some p))), (1, .inl v1_5)], [.inl (I99 p 1), .inr (.inr (some p))], sh, gc_h sh I99 J A)
          refine gv_put hD rfl rfl S_p ⟨by decide, B_p⟩ rfl trivial ?_
          refine gc_st (k := 6) hI99 S_p rfl R_p (lo := 0) (hi := 1001) rfl rfl (by exact gz_m 110 (by omega)) (by exact gz_m 111 (by omega)) (fun I106 hI106 q107 p107 => ?_)
          have FI106 := gc_frs (W := fun q j => (q = p ∧ j = 5) ∨ (q = p ∧ j = 6) ∨ (q = p ∧ j = 7) ∨ (q = p ∧ j = 8)) FI99 (Or.inr (Or.inl ⟨rfl, rfl⟩)) p107
          have t108 := p107 p 1 (fun h => absurd h.2 (by decide))
          have t109 := p107 p 5 (fun h => absurd h.2 (by decide))
          have t110 := p107 p 7 (fun h => absurd h.2 (by decide))
          have f111 := (show 0 ≤ I106 p 6 ∧ I106 p 6 ≤ 1001 from gc_in hI106 R_p rfl rfl)
          show gv_X _ _ (64, [(0, .inr (.inr (some p))), (1, .inl v1_5)], [], sh, gc_h sh I106 J A)
          exact gv_vret hD rfl ⟨I106, J, rfl, hI106, FI106, FJ, ⟨rfl, by exact gz_m 112 (by omega), by exact gz_m 113 (by omega), by exact gz_m 114 (by omega), by exact gz_m 115 (by omega), by exact gz_m 116 (by omega), by exact gz_m 117 (by omega), by exact gz_m 118 (by omega), (fun h => by exact gz_m 119 (by omega)), (gc_AT_end ⟨(by rw [show I106 (p + 1) = I (p + 1) from funext fun k => (FI106 (p + 1) k).resolve_left (by exact gz_m 120 (by omega))]; exact x1), by exact gz_m 121 (by omega)⟩ (by rw [e2_10]; exact gz_m 122 (by omega)) (by exact gz_m 123 (by omega)) (by exact gz_m 124 (by omega)) (by exact gz_m 125 (by omega)))⟩⟩
      have t112 := (fun h : v1_5 < η => gs_TX_i x1 (k := v1_5) (by exact gz_m 126 (by omega)) h)
      have t113 := (fun h : ¬ v1_5 < η => gs_TX_o x1 (k := v1_5) h)
      refine gv_run 2 true hD (pc' := 7) (lv' := [(0, .inr (.inr (some p))), (1, .inl v1_5)]) (st' := [.inr (.inr (some p)), .inl v1_5]) (h' := gc_h sh I J A) (C := ((True ∧ True) ∧ True)) rfl ⟨⟨trivial, trivial⟩, trivial⟩ ?_
      have f114 := (show 0 ≤ I p 1 ∧ I p 1 ≤ 1000 from gc_in hI R_p rfl rfl)
      refine gv_get hD rfl rfl S_p ⟨by decide, B_p⟩ (gc_hI S_p rfl) ?_
      show gv_X _ _ (10, [(0, .inr (.inr (some p))), (1, .inl v1_5)], [.inl (I p 1), .inl v1_5], sh, gc_h sh I J A)
      refine gv_icmp_ge (t := 30) hD rfl rfl ⟨⟨by exact gz_m 127 (by omega), by exact gz_m 128 (by omega)⟩, ⟨by exact gz_m 129 (by omega), by exact gz_m 130 (by omega)⟩⟩ (fun c115 => ?_) (fun c115 => ?_)
      · show gv_X _ _ (30, [(0, .inr (.inr (some p))), (1, .inl v1_5)], [], sh, gc_h sh I J A)
        exact L30 (by exact gz_m 131 (by omega)) (e2_5.trans (gs_S_e (by exact gz_m 132 (by omega))))
      · show gv_X _ _ (13, [(0, .inr (.inr (some p))), (1, .inl v1_5)], [], sh, gc_h sh I J A)
        refine gv_run 1 true hD (pc' := 14) (lv' := [(0, .inr (.inr (some p))), (1, .inl v1_5)]) (st' := [.inr (.inr (some p))]) (h' := gc_h sh I J A) (C := (True ∧ True)) rfl ⟨trivial, trivial⟩ ?_
        refine gv_get hD rfl rfl S_p ⟨by decide, B_p⟩ (gc_hA S_p rfl A_p_0) ?_
        show gv_X _ _ (17, [(0, .inr (.inr (some p))), (1, .inl v1_5)], [.inr (.inr (some (p + 1)))], sh, gc_h sh I J A)
        refine gv_run 1 true hD (pc' := 18) (lv' := [(0, .inr (.inr (some p))), (1, .inl v1_5)]) (st' := [.inl v1_5, .inr (.inr (some (p + 1)))]) (h' := gc_h sh I J A) (C := (True ∧ True)) rfl ⟨trivial, trivial⟩ ?_
        have f116 := (show (-128) ≤ I (p + 1) (Int.toNat v1_5) ∧ I (p + 1) (Int.toNat v1_5) ≤ 127 from gc_in hI R_p_1 rfl rfl)
        refine gv_bald hD rfl S_p_1 (Or.inl rfl) ⟨by decide, B_p_1⟩ ⟨by exact gz_m 133 (by omega), by exact gz_m 134 (by omega)⟩ (gc_iI S_p_1 rfl) ?_
        show gv_X _ _ (19, [(0, .inr (.inr (some p))), (1, .inl v1_5)], [.inl (I (p + 1) (Int.toNat v1_5))], sh, gc_h sh I J A)
        refine gv_run 1 true hD (pc' := 21) (lv' := [(0, .inr (.inr (some p))), (1, .inl v1_5)]) (st' := [.inl 32, .inl (I (p + 1) (Int.toNat v1_5))]) (h' := gc_h sh I J A) (C := (True ∧ True)) rfl ⟨trivial, trivial⟩ ?_
        refine gv_icmp_ne (t := 30) hD rfl rfl ⟨⟨by exact gz_m 135 (by omega), by exact gz_m 136 (by omega)⟩, ⟨by exact gz_m 137 (by omega), by exact gz_m 138 (by omega)⟩⟩ (fun c117 => ?_) (fun c117 => ?_)
        · show gv_X _ _ (30, [(0, .inr (.inr (some p))), (1, .inl v1_5)], [], sh, gc_h sh I J A)
          exact L30 (by exact gz_m 139 (by omega)) (e2_5.trans (gs_S_e (by exact gz_m 140 (by omega))))
        · show gv_X _ _ (24, [(0, .inr (.inr (some p))), (1, .inl v1_5)], [], sh, gc_h sh I J A)
          refine gv_run 2 true hD (pc' := 5) (lv' := [(1, .inl (v1_5 + 1)), (0, .inr (.inr (some p)))]) (st' := []) (h' := gc_h sh I J A) (C := ((True ∧ True) ∧ True)) rfl ⟨⟨trivial, trivial⟩, trivial⟩ ?_
          refine gv_pick [1, 0] rfl ?_
          exact ih5 (v1_5 + 1) (by exact gz_m 141 (by omega)) (by exact gz_m 142 (by omega)) (e2_5.trans (gs_S_s (by exact gz_m 143 (by omega)) (by exact gz_m 144 (by omega)) (by exact gz_m 145 (by omega))))
  refine gv_run 1 true hD (pc' := 1) (lv' := [(0, .inr (.inr (some p)))]) (st' := [.inr (.inr (some p))]) (h' := gc_h sh I J A) (C := (True ∧ True)) rfl ⟨trivial, trivial⟩ ?_
  have f118 := (show 0 ≤ I p 6 ∧ I p 6 ≤ 1001 from gc_in hI R_p rfl rfl)
  refine gv_get hD rfl rfl S_p ⟨by decide, B_p⟩ (gc_hI S_p rfl) ?_
  show gv_X _ _ (4, [(0, .inr (.inr (some p)))], [.inl (I p 6)], sh, gc_h sh I J A)
  refine gv_run 1 true hD (pc' := 5) (lv' := [(1, .inl (I p 6)), (0, .inr (.inr (some p)))]) (st' := []) (h' := gc_h sh I J A) (C := (True ∧ True)) rfl ⟨trivial, trivial⟩ ?_
  refine gv_pick [1, 0] rfl ?_
  exact L5 _ (I p 6) (Nat.lt_succ_self _) (by exact gz_m 146 (by omega)) rfl
