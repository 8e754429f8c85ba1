/-! PARITY, the class's side: WORD -/
theorem gs_VR_fr {Ir I I' : gr_I} {t : Nat} (h : gs_VR Ir I t) (h3 : I' (t + 3) 1 = I (t + 3) 1) (h5 : ∀ k, I' (t + 5) k = I (t + 5) k) (h6 : ∀ k, I' (t + 6) k = I (t + 6) k) : gs_VR Ir I' t := fun k a b => by
  rw [h5, h6]
  exact h k a (by omega)
/-- a FUN's arity, on both sides -/
def gs_AR (Ir I : gr_I) : Prop := ∀ k : Int, 0 ≤ k → k < I 4 1 → I 12 (Int.toNat k) = Ir 6 (Int.toNat k)
def gs_has (β : Int → Int) (N : Int) (I : gr_I) (J : gr_J) (q : Int) : Int := if gs_kw β N q (gs_W 93) = 1 then (if gs_T β N (gs_X β N q) = 1 then gs_hv β N I J 1002 1 0 (gs_X β N q) else -1 - gs_A β N (gs_X β N q)) else q
set_option maxHeartbeats 8000000 in
set_option maxRecDepth 100000 in
theorem d_X6_readStems_a_p {ws0 : List Cond} {tb : String → gz_T} (hws : gc_Ws ws0) (htb : gc_tbs tb) (sh : gz_Sh) (ro : Nat → Nat) (I : gr_I) (J : gr_J) (A : gc_A) (hI : gc_Inv ro I) (B : Int) (β : Int → Int) (η : Int) (p9 : Int)  (hb : gc_Base sh ro A)  (x0 : B ≤ 1280 ∧ I 1 17 + I 23 1 ≤ B + I 23 5) (x1 : gc_AT β η p9 23 I J) (x2 : 0 ≤ p9) (x3 : I 1 18 = 0) (x4 : gs_T β η p9 = 3) (KLT_I : gc_LT I) (KTK_I : gc_TK I) (KRW_I : gc_row 41 11 gc_fW I) : ∃ r h', gz_Ev ws0 tb 3 (yX6_readStems, cX6_readStems, 2, (some .boolean)) [.inr (.inr (some 39))] sh (gc_h sh I J A) r sh h' 0 0 ∧ (∃ (I' : gr_I) (J' : gr_J), h' = gc_h sh I' J' A ∧ gc_Inv ro I' ∧ (∀ q j : Nat, ((q = 39 ∧ j = 3) ∨ (q = 39 ∧ j = 4) ∨ (q = 23 ∧ j = 5) ∨ (q = 23 ∧ j = 6) ∨ (q = 23 ∧ j = 7) ∨ (q = 23 ∧ j = 8) ∨ (q = 1 ∧ j = 17) ∨ (q = 1 ∧ j = 18) ∨ q = 20 ∨ (q = 41 ∧ (4 ≤ j))) ∨ I' q j = I q j) ∧ (∀ q j : Nat, ((q = 23 ∧ j = 9)) ∨ J' q j = J q j) ∧ gc_LT I' ∧ gc_TK I' ∧ gc_row 41 11 gc_fW I' ∧ (∃ z : Int, r = some (.inl z) ∧ 0 ≤ z ∧ z ≤ 1 ∧ (I' 23 1 = I 23 1) ∧ (I 23 5 ≤ I' 23 5) ∧ (B ≤ 1280 ∧ I' 1 17 + I' 23 1 ≤ B + I' 23 5) ∧ (gc_PKs I I') ∧ (gs_Or z (0 ≤ (gs_stm β η 3 p9) ∧ gc_AT β η (gs_stm β η 3 p9) 23 I' J' ∧ I' 1 18 = 0 ∧ gs_ws9 β η p9 I' (I' 41) ∧ ∀ j : Nat, j < 4 → I' 41 j = I 41 j) ((gs_stm β η 3 p9) < 0 ∧ I' 39 4 = -1 - (gs_stm β η 3 p9) ∧ (0 : Int) = 1)))) := by
  have FI : ∀ q j : Nat, ((q = 39 ∧ j = 3) ∨ (q = 39 ∧ j = 4) ∨ (q = 23 ∧ j = 5) ∨ (q = 23 ∧ j = 6) ∨ (q = 23 ∧ j = 7) ∨ (q = 23 ∧ j = 8) ∨ (q = 1 ∧ j = 17) ∨ (q = 1 ∧ j = 18) ∨ q = 20 ∨ (q = 41 ∧ (4 ≤ j))) ∨ I q j = I q j := fun _ _ => Or.inr rfl
  have FJ : ∀ q j : Nat, ((q = 23 ∧ j = 9)) ∨ J q j = J q j := fun _ _ => Or.inr rfl
  have A_39_1 : A 39 1 = some 23 := gc_bA_39_1 hb
  have A_39_10 : A 39 10 = some 41 := gc_bA_39_10 hb
  have B_23 : 23 < 1000000 := by decide
  have B_39 : 39 < 1000000 := by decide
  have B_41 : 41 < 1000000 := by decide
  have R_1 : ro 1 = 22 := gc_bR_1 hb
  have R_23 : ro 23 = 3 := gc_bR_23 hb
  have R_41 : ro 41 = 0 := gc_bR_41 hb
  have S_23 : sh[23]? = some (false, 9, 10) := gc_bS_23 hb
  have S_39 : sh[39]? = some (false, 6, 19) := gc_bS_39 hb
  have S_41 : sh[41]? = some (true, 1, 25) := gc_bS_41 hb
  have hD : gv_D (gc_E6 ws0 tb 2 (yX6_readStems, cX6_readStems, 2, (some .boolean)) kX6_readStems) := gq_of oX6_readStems
  refine gc_ev6 (d := 2) (l := kX6_readStems) (Po := fun r h' => (∃ (I' : gr_I) (J' : gr_J), h' = gc_h sh I' J' A ∧ gc_Inv ro I' ∧ (∀ q j : Nat, ((q = 39 ∧ j = 3) ∨ (q = 39 ∧ j = 4) ∨ (q = 23 ∧ j = 5) ∨ (q = 23 ∧ j = 6) ∨ (q = 23 ∧ j = 7) ∨ (q = 23 ∧ j = 8) ∨ (q = 1 ∧ j = 17) ∨ (q = 1 ∧ j = 18) ∨ q = 20 ∨ (q = 41 ∧ (4 ≤ j))) ∨ I' q j = I q j) ∧ (∀ q j : Nat, ((q = 23 ∧ j = 9)) ∨ J' q j = J q j) ∧ gc_LT I' ∧ gc_TK I' ∧ gc_row 41 11 gc_fW I' ∧ (∃ z : Int, r = some (.inl z) ∧ 0 ≤ z ∧ z ≤ 1 ∧ (I' 23 1 = I 23 1) ∧ (I 23 5 ≤ I' 23 5) ∧ (B ≤ 1280 ∧ I' 1 17 + I' 23 1 ≤ B + I' 23 5) ∧ (gc_PKs I I') ∧ (gs_Or z (0 ≤ (gs_stm β η 3 p9) ∧ gc_AT β η (gs_stm β η 3 p9) 23 I' J' ∧ I' 1 18 = 0 ∧ gs_ws9 β η p9 I' (I' 41) ∧ ∀ j : Nat, j < 4 → I' 41 j = I 41 j) ((gs_stm β η 3 p9) < 0 ∧ I' 39 4 = -1 - (gs_stm β η 3 p9) ∧ (0 : Int) = 1))))) htb rfl (Nat.le_of_ble_eq_true rfl) ?_
  have KPK_I : gc_PKs I I := gc_PKs_rf
  have t1 := gc_TK_mo KTK_I
  have f2 := (gc_b_3_1 hI R_23)
  have f3 := (gc_b_3_5 hI R_23)
  have f4 := (gc_b_3_6 hI R_23)
  have f5 := (gc_b_3_7 hI R_23)
  have f6 := (gc_b_22_17 hI R_1)
  have f7 := (gc_b_22_18 hI R_1)
  have tAT := gc_AT_l x1
  have L2 : ∀ (n9 : Nat) (I8 : gr_I) (J9 : gr_J) (v1_10 : Int) (p_10 : Int), (4 - v1_10).toNat < n9 → gc_Inv ro I8 → (∀ q j : Nat, ((q = 39 ∧ j = 3) ∨ (q = 39 ∧ j = 4) ∨ (q = 23 ∧ j = 5) ∨ (q = 23 ∧ j = 6) ∨ (q = 23 ∧ j = 7) ∨ (q = 23 ∧ j = 8) ∨ (q = 1 ∧ j = 17) ∨ (q = 1 ∧ j = 18) ∨ q = 20 ∨ (q = 41 ∧ (4 ≤ j))) ∨ I8 q j = I q j) → (∀ q j : Nat, ((q = 23 ∧ j = 9)) ∨ J9 q j = J q j) → gc_LT I8 → gc_TK I8 → gc_row 41 11 gc_fW I8 → gc_PKs I I8 → ((0 ≤ v1_10 ∧ v1_10 ≤ 3) ∧ (0 ≤ p_10) ∧ (I8 1 18 = 0) ∧ ((v1_10 = 0 ∧ I8 23 7 = 3) ∨ 0 < v1_10) ∧ (I8 23 1 = I 23 1) ∧ (I 23 5 ≤ I8 23 5) ∧ (B ≤ 1280 ∧ I8 1 17 + I8 23 1 ≤ B + I8 23 5)) → (gc_AT β η p_10 23 I8 J9) → ((gs_stm β η 3 p9) = gs_stm β η (Int.toNat (3 - v1_10)) p_10) → (gs_k2 β η I p9 I8 v1_10 p_10) → gv_X (gc_E6 ws0 tb 2 (yX6_readStems, cX6_readStems, 2, (some .boolean)) kX6_readStems) (gv_Q cX6_readStems (some .boolean) sh (fun r h' => (∃ (I' : gr_I) (J' : gr_J), h' = gc_h sh I' J' A ∧ gc_Inv ro I' ∧ (∀ q j : Nat, ((q = 39 ∧ j = 3) ∨ (q = 39 ∧ j = 4) ∨ (q = 23 ∧ j = 5) ∨ (q = 23 ∧ j = 6) ∨ (q = 23 ∧ j = 7) ∨ (q = 23 ∧ j = 8) ∨ (q = 1 ∧ j = 17) ∨ (q = 1 ∧ j = 18) ∨ q = 20 ∨ (q = 41 ∧ (4 ≤ j))) ∨ I' q j = I q j) ∧ (∀ q j : Nat, ((q = 23 ∧ j = 9)) ∨ J' q j = J q j) ∧ gc_LT I' ∧ gc_TK I' ∧ gc_row 41 11 gc_fW I' ∧ (∃ z : Int, r = some (.inl z) ∧ 0 ≤ z ∧ z ≤ 1 ∧ (I' 23 1 = I 23 1) ∧ (I 23 5 ≤ I' 23 5) ∧ (B ≤ 1280 ∧ I' 1 17 + I' 23 1 ≤ B + I' 23 5) ∧ (gc_PKs I I') ∧ (gs_Or z (0 ≤ (gs_stm β η 3 p9) ∧ gc_AT β η (gs_stm β η 3 p9) 23 I' J' ∧ I' 1 18 = 0 ∧ gs_ws9 β η p9 I' (I' 41) ∧ ∀ j : Nat, j < 4 → I' 41 j = I 41 j) ((gs_stm β η 3 p9) < 0 ∧ I' 39 4 = -1 - (gs_stm β η 3 p9) ∧ (0 : Int) = 1)))))) (2, [(0, .inr (.inr (some 39))), (1, .inl v1_10)], [], sh, gc_h sh I8 J9 A) := by
    intro n9
    induction n9 with
    | zero => intro I8 J9 v1_10 p_10 hn; exact gz_m 0 (by omega)
    | succ n9 ih2 =>
      intro I8 J9 v1_10 p_10 hn hI8 FI8 FJ9 KLT_I8 KTK_I8 KRW_I8 KPK_I8 m_10 e1_10 e2_10 e3_10
      obtain ⟨hv1_10, e0_10, e4_10, e5_10, e6_10, e7_10, e8_10⟩ := m_10
      have t11 := gc_TK_mo KTK_I8
      have f12 := (gc_b_3_1 hI8 R_23)
      have f13 := (gc_b_3_5 hI8 R_23)
      have f14 := (gc_b_3_6 hI8 R_23)
      have f15 := (gc_b_3_7 hI8 R_23)
      have f16 := (gc_b_22_17 hI8 R_1)
      have f17 := (gc_b_22_18 hI8 R_1)
      have t18 := gc_AT_l e1_10
      have L64 : ((0 ≤ v1_10 ∧ v1_10 ≤ 3) ∧ (0 ≤ p_10) ∧ (I8 1 18 = 0) ∧ (0 < v1_10) ∧ (I8 23 1 = I 23 1) ∧ (I 23 5 ≤ I8 23 5) ∧ (B ≤ 1280 ∧ I8 1 17 + I8 23 1 ≤ B + I8 23 5)) → (gc_AT β η p_10 23 I8 J9) → ((gs_stm β η 3 p9) = p_10) → (gs_k2 β η I p9 I8 v1_10 p_10) → (gs_o2 (¬ gs_T β η p_10 = 3) (3 ≤ v1_10)) → gv_X (gc_E6 ws0 tb 2 (yX6_readStems, cX6_readStems, 2, (some .boolean)) kX6_readStems) (gv_Q cX6_readStems (some .boolean) sh (fun r h' => (∃ (I' : gr_I) (J' : gr_J), h' = gc_h sh I' J' A ∧ gc_Inv ro I' ∧ (∀ q j : Nat, ((q = 39 ∧ j = 3) ∨ (q = 39 ∧ j = 4) ∨ (q = 23 ∧ j = 5) ∨ (q = 23 ∧ j = 6) ∨ (q = 23 ∧ j = 7) ∨ (q = 23 ∧ j = 8) ∨ (q = 1 ∧ j = 17) ∨ (q = 1 ∧ j = 18) ∨ q = 20 ∨ (q = 41 ∧ (4 ≤ j))) ∨ I' q j = I q j) ∧ (∀ q j : Nat, ((q = 23 ∧ j = 9)) ∨ J' q j = J q j) ∧ gc_LT I' ∧ gc_TK I' ∧ gc_row 41 11 gc_fW I' ∧ (∃ z : Int, r = some (.inl z) ∧ 0 ≤ z ∧ z ≤ 1 ∧ (I' 23 1 = I 23 1) ∧ (I 23 5 ≤ I' 23 5) ∧ (B ≤ 1280 ∧ I' 1 17 + I' 23 1 ≤ B + I' 23 5) ∧ (gc_PKs I I') ∧ (gs_Or z (0 ≤ (gs_stm β η 3 p9) ∧ gc_AT β η (gs_stm β η 3 p9) 23 I' J' ∧ I' 1 18 = 0 ∧ gs_ws9 β η p9 I' (I' 41) ∧ ∀ j : Nat, j < 4 → I' 41 j = I 41 j) ((gs_stm β η 3 p9) < 0 ∧ I' 39 4 = -1 - (gs_stm β η 3 p9) ∧ (0 : Int) = 1)))))) (64, [(0, .inr (.inr (some 39))), (1, .inl v1_10)], [], sh, gc_h sh I8 J9 A) := by
        intro m_19 e1_19 e2_19 e3_19 e4_19
        obtain ⟨hv1_10_19, e0_19, e5_19, e6_19, e7_19, e8_19, e9_19⟩ := m_19
        have t20 := gc_TK_mo KTK_I8
        have f21 := (gc_b_3_1 hI8 R_23)
        have f22 := (gc_b_3_5 hI8 R_23)
        have f23 := (gc_b_3_6 hI8 R_23)
        have f24 := (gc_b_3_7 hI8 R_23)
        have f25 := (gc_b_22_17 hI8 R_1)
        have f26 := (gc_b_22_18 hI8 R_1)
        have t27 := gc_AT_l e1_10
        refine gv_run 1 true hD (pc' := 65) (lv' := [(0, .inr (.inr (some 39))), (1, .inl v1_10)]) (st' := [.inr (.inr (some 39))]) (h' := gc_h sh I8 J9 A) (C := (True ∧ True)) rfl ⟨trivial, trivial⟩ ?_
        refine gv_get hD rfl rfl S_39 ⟨by decide, B_39⟩ (gc_hA S_39 rfl A_39_10) ?_
        show gv_X _ _ (68, [(0, .inr (.inr (some 39))), (1, .inl v1_10)], [.inr (.inr (some 41))], sh, gc_h sh I8 J9 A)
        refine gv_run 2 true hD (pc' := 70) (lv' := [(0, .inr (.inr (some 39))), (1, .inl v1_10)]) (st' := [.inl v1_10, .inl 4, .inr (.inr (some 41))]) (h' := gc_h sh I8 J9 A) (C := ((True ∧ True) ∧ True)) rfl ⟨⟨trivial, trivial⟩, trivial⟩ ?_
        refine gv_iast hD rfl S_41 ⟨by decide, B_41⟩ ⟨by exact gz_m 1 (by omega), by exact gz_m 2 (by omega)⟩ ?_
        refine gc_st (k := 4) hI8 S_41 rfl R_41 (lo := (-2147483648)) (hi := 2147483647) rfl rfl (by exact gz_m 3 (by omega)) (by exact gz_m 4 (by omega)) (fun I28 hI28 q29 p29 => ?_)
        have FI28 := gc_frs (W := fun q j => (q = 39 ∧ j = 3) ∨ (q = 39 ∧ j = 4) ∨ (q = 23 ∧ j = 5) ∨ (q = 23 ∧ j = 6) ∨ (q = 23 ∧ j = 7) ∨ (q = 23 ∧ j = 8) ∨ (q = 1 ∧ j = 17) ∨ (q = 1 ∧ j = 18) ∨ q = 20 ∨ (q = 41 ∧ (4 ≤ j))) FI8 (Or.inr (Or.inr (Or.inr (Or.inr (Or.inr (Or.inr (Or.inr (Or.inr (Or.inr ⟨rfl, by exact gz_m 5 (by omega)⟩))))))))) p29
        have t30 := p29 23 1 (fun h => absurd h.2 (gz_ne rfl))
        have t31 := p29 23 5 (fun h => absurd h.2 (gz_ne rfl))
        have t32 := p29 23 6 (fun h => absurd h.2 (gz_ne rfl))
        have t33 := p29 23 7 (fun h => absurd h.2 (gz_ne rfl))
        have t34 := p29 1 17 (fun h => absurd h.2 (gz_ne rfl))
        have t35 := p29 1 18 (fun h => absurd h.2 (gz_ne rfl))
        have KLT_I28 := gc_LT_fr KLT_I8 (p29 23 5 (fun h => absurd h.2 (gz_ne rfl))) (p29 23 6 (fun h => absurd h.2 (gz_ne rfl))) (p29 23 7 (fun h => absurd h.2 (gz_ne rfl))) (fun k => p29 24 k (fun h => absurd h.1 (gz_ne rfl)))
        have KTK_I28 := gc_TK_fr KTK_I8 (p29 23 1 (fun h => absurd h.2 (gz_ne rfl))) (p29 23 5 (fun h => absurd h.2 (gz_ne rfl))) (p29 23 6 (fun h => absurd h.2 (gz_ne rfl))) (p29 23 7 (fun h => absurd h.2 (gz_ne rfl)))
        have KRW_I28 := gc_row_st KRW_I8 p29 q29 (by unfold gc_fW; exact gz_m 6 (by omega))
        have KPK_I28 := gc_PKs_fr KPK_I8 (p29 1 17 (fun h => absurd h.2 (gz_ne rfl))) (fun k => p29 20 k (fun h => absurd h.1 (gz_ne rfl)))
        have A36 := gc_AT_I e1_10 (p29 23 1 (fun h => absurd h.2 (gz_ne rfl))) (p29 23 5 (fun h => absurd h.2 (gz_ne rfl))) (p29 23 6 (fun h => absurd h.2 (gz_ne rfl))) (p29 23 7 (fun h => absurd h.2 (gz_ne rfl))) (p29 23 8 (fun h => absurd h.2 (gz_ne rfl))) (fun k => p29 24 k (fun h => absurd h.1 (gz_ne rfl)))
        show gv_X _ _ (71, [(0, .inr (.inr (some 39))), (1, .inl v1_10)], [], sh, gc_h sh I28 J9 A)
        refine gv_run 1 true hD (pc' := 72) (lv' := [(0, .inr (.inr (some 39))), (1, .inl v1_10)]) (st' := [.inl v1_10]) (h' := gc_h sh I28 J9 A) (C := (True ∧ True)) rfl ⟨trivial, trivial⟩ ?_
        refine gv_if_le (t := 79) hD rfl rfl ⟨by exact gz_m 7 (by omega), by exact gz_m 8 (by omega)⟩ (fun c37 => ?_) (fun c37 => ?_)
        · show gv_X _ _ (79, [(0, .inr (.inr (some 39))), (1, .inl v1_10)], [], sh, gc_h sh I28 J9 A)
          refine gv_run 1 true hD (pc' := 80) (lv' := [(0, .inr (.inr (some 39))), (1, .inl v1_10)]) (st' := [.inl 0]) (h' := gc_h sh I28 J9 A) (C := (True ∧ True)) rfl ⟨trivial, trivial⟩ ?_
          exact gv_zret hD rfl (by exact gz_m 9 (by omega)) ⟨I28, J9, rfl, hI28, FI28, FJ9, KLT_I28, KTK_I28, KRW_I28, ⟨_, rfl, by exact gz_m 10 (by omega), by exact gz_m 11 (by omega), by exact gz_m 12 (by omega), by exact gz_m 13 (by omega), by exact gz_m 14 (by omega), KPK_I28, (by exfalso; exact gz_m 15 (by omega))⟩⟩
        · show gv_X _ _ (75, [(0, .inr (.inr (some 39))), (1, .inl v1_10)], [], sh, gc_h sh I28 J9 A)
          refine gv_run 2 true hD (pc' := 80) (lv' := [(0, .inr (.inr (some 39))), (1, .inl v1_10)]) (st' := [.inl 1]) (h' := gc_h sh I28 J9 A) (C := ((True ∧ True) ∧ True)) rfl ⟨⟨trivial, trivial⟩, trivial⟩ ?_
          exact gv_zret hD rfl (by exact gz_m 16 (by omega)) ⟨I28, J9, rfl, hI28, FI28, FJ9, KLT_I28, KTK_I28, KRW_I28, ⟨_, rfl, by exact gz_m 17 (by omega), by exact gz_m 18 (by omega), by exact gz_m 19 (by omega), by exact gz_m 20 (by omega), by exact gz_m 21 (by omega), KPK_I28, (Or.inl ⟨by exact gz_m 22 (by omega), by rw [e2_19]; exact ⟨by exact gz_m 23 (by omega), A36, by exact gz_m 24 (by omega), (gs_ws9_mk e3_19 ⟨by exact gz_m 25 (by omega), by exact gz_m 26 (by omega)⟩ e4_19 p29 q29).1, (gs_ws9_mk e3_19 ⟨by exact gz_m 27 (by omega), by exact gz_m 28 (by omega)⟩ e4_19 p29 q29).2.1⟩⟩)⟩⟩
      refine gv_run 2 true hD (pc' := 4) (lv' := [(0, .inr (.inr (some 39))), (1, .inl v1_10)]) (st' := [.inl 3, .inl v1_10]) (h' := gc_h sh I8 J9 A) (C := ((True ∧ True) ∧ True)) rfl ⟨⟨trivial, trivial⟩, trivial⟩ ?_
      refine gv_icmp_ge (t := 64) hD rfl rfl ⟨⟨by exact gz_m 29 (by omega), by exact gz_m 30 (by omega)⟩, ⟨by exact gz_m 31 (by omega), by exact gz_m 32 (by omega)⟩⟩ (fun c38 => ?_) (fun c38 => ?_)
      · show gv_X _ _ (64, [(0, .inr (.inr (some 39))), (1, .inl v1_10)], [], sh, gc_h sh I8 J9 A)
        exact L64 (by exact gz_m 33 (by omega)) e1_10 (e2_10.trans (gs_stm_e (by exact gz_m 34 (by omega)))) e3_10 (show ¬ gs_T β η p_10 = 3 ∨ 3 ≤ v1_10 by exact gz_m 35 (by omega))
      · show gv_X _ _ (7, [(0, .inr (.inr (some 39))), (1, .inl v1_10)], [], sh, gc_h sh I8 J9 A)
        refine gv_run 1 true hD (pc' := 8) (lv' := [(0, .inr (.inr (some 39))), (1, .inl v1_10)]) (st' := [.inr (.inr (some 39))]) (h' := gc_h sh I8 J9 A) (C := (True ∧ True)) rfl ⟨trivial, trivial⟩ ?_
        refine gv_get hD rfl rfl S_39 ⟨by decide, B_39⟩ (gc_hA S_39 rfl A_39_1) ?_
        show gv_X _ _ (11, [(0, .inr (.inr (some 39))), (1, .inl v1_10)], [.inr (.inr (some 23))], sh, gc_h sh I8 J9 A)
        have f39 := (gc_b_3_7 hI8 R_23)
        refine gv_get hD rfl rfl S_23 ⟨by decide, B_23⟩ (gc_hI S_23 rfl) ?_
        show gv_X _ _ (14, [(0, .inr (.inr (some 39))), (1, .inl v1_10)], [.inl (I8 23 7)], sh, gc_h sh I8 J9 A)
        refine gv_run 1 true hD (pc' := 15) (lv' := [(0, .inr (.inr (some 39))), (1, .inl v1_10)]) (st' := [.inl 3, .inl (I8 23 7)]) (h' := gc_h sh I8 J9 A) (C := (True ∧ True)) rfl ⟨trivial, trivial⟩ ?_
        refine gv_icmp_ne (t := 64) hD rfl rfl ⟨⟨by exact gz_m 36 (by omega), by exact gz_m 37 (by omega)⟩, ⟨by exact gz_m 38 (by omega), by exact gz_m 39 (by omega)⟩⟩ (fun c40 => ?_) (fun c40 => ?_)
        · show gv_X _ _ (64, [(0, .inr (.inr (some 39))), (1, .inl v1_10)], [], sh, gc_h sh I8 J9 A)
          exact L64 (by exact gz_m 40 (by omega)) e1_10 (e2_10.trans (gs_stm_e (by exact gz_m 41 (by omega)))) e3_10 (show ¬ gs_T β η p_10 = 3 ∨ 3 ≤ v1_10 by exact gz_m 42 (by omega))
        · show gv_X _ _ (18, [(0, .inr (.inr (some 39))), (1, .inl v1_10)], [], sh, gc_h sh I8 J9 A)
          refine gv_run 1 true hD (pc' := 19) (lv' := [(0, .inr (.inr (some 39))), (1, .inl v1_10)]) (st' := [.inr (.inr (some 39))]) (h' := gc_h sh I8 J9 A) (C := (True ∧ True)) rfl ⟨trivial, trivial⟩ ?_
          refine gv_get hD rfl rfl S_39 ⟨by decide, B_39⟩ (gc_hA S_39 rfl A_39_10) ?_
          show gv_X _ _ (22, [(0, .inr (.inr (some 39))), (1, .inl v1_10)], [.inr (.inr (some 41))], sh, gc_h sh I8 J9 A)
          refine gv_run 6 true hD (pc' := 28) (lv' := [(0, .inr (.inr (some 39))), (1, .inl v1_10)]) (st' := [.inr (.inr (some 39)), .inl (5 + (2 * v1_10)), .inr (.inr (some 41))]) (h' := gc_h sh I8 J9 A) (C := ((((((True ∧ True) ∧ True) ∧ True) ∧ True) ∧ True) ∧ True)) rfl ⟨⟨⟨⟨⟨⟨trivial, trivial⟩, trivial⟩, trivial⟩, trivial⟩, trivial⟩, trivial⟩ ?_
          obtain ⟨r41, h41, E41, P41⟩ := d_X6_keepLetters_p (ws0 := ws0) (tb := tb) hws htb sh ro I8 J9 A hI8   hb    (by exact gz_m 43 (by omega)) (by exact gz_m 44 (by omega)) KLT_I8 KTK_I8
          obtain ⟨I42, J43, rfl, hI42, g41, k41, KLT_I42, KTK_I42, ⟨z41, rfl, q41⟩⟩ := P41
          have FI42 := gc_frc (W := fun q j => (q = 39 ∧ j = 3) ∨ (q = 39 ∧ j = 4) ∨ (q = 23 ∧ j = 5) ∨ (q = 23 ∧ j = 6) ∨ (q = 23 ∧ j = 7) ∨ (q = 23 ∧ j = 8) ∨ (q = 1 ∧ j = 17) ∨ (q = 1 ∧ j = 18) ∨ q = 20 ∨ (q = 41 ∧ (4 ≤ j))) (V := fun q j => (q = 1 ∧ j = 17) ∨ (q = 1 ∧ j = 18) ∨ q = 20) FI8 (fun q j h => (h.elim (fun h => (Or.inr (Or.inr (Or.inr (Or.inr (Or.inr (Or.inr (Or.inl h)))))))) (fun h => (h.elim (fun h => (Or.inr (Or.inr (Or.inr (Or.inr (Or.inr (Or.inr (Or.inr (Or.inl h))))))))) (fun h => (Or.inr (Or.inr (Or.inr (Or.inr (Or.inr (Or.inr (Or.inr (Or.inr (Or.inl h)))))))))))))) g41
          have t44 := (g41 23 1).resolve_left (fun h => h.elim (fun h => absurd h.2 (gz_ne rfl)) (fun h => h.elim (fun h => absurd h.2 (gz_ne rfl)) (fun h => absurd h (gz_ne rfl))))
          have t45 := (g41 23 5).resolve_left (fun h => h.elim (fun h => absurd h.2 (gz_ne rfl)) (fun h => h.elim (fun h => absurd h.2 (gz_ne rfl)) (fun h => absurd h (gz_ne rfl))))
          have t46 := (g41 23 6).resolve_left (fun h => h.elim (fun h => absurd h.2 (gz_ne rfl)) (fun h => h.elim (fun h => absurd h.2 (gz_ne rfl)) (fun h => absurd h (gz_ne rfl))))
          have t47 := (g41 23 7).resolve_left (fun h => h.elim (fun h => absurd h.2 (gz_ne rfl)) (fun h => h.elim (fun h => absurd h.2 (gz_ne rfl)) (fun h => absurd h (gz_ne rfl))))
          have f48 := (gc_b_22_17 hI42 R_1)
          have f49 := (gc_b_22_18 hI42 R_1)
          obtain rfl : J9 = J43 := funext fun q => funext fun j => ((k41 q j).resolve_left id).symm
          have KRW_I42 := gc_row_fr KRW_I8 (fun k => (g41 41 k).resolve_left (fun h => h.elim (fun h => absurd h.1 (gz_ne rfl)) (fun h => h.elim (fun h => absurd h.1 (gz_ne rfl)) (fun h => absurd h (gz_ne rfl)))))
          have l41 := q41.2.2.2.2.2.2.2
          have KPK_I42 := gc_PKs_tr KPK_I8 l41
          have A50 := gc_AT_I e1_10 ((g41 23 1).resolve_left (fun h => h.elim (fun h => absurd h.2 (gz_ne rfl)) (fun h => h.elim (fun h => absurd h.2 (gz_ne rfl)) (fun h => absurd h (gz_ne rfl))))) ((g41 23 5).resolve_left (fun h => h.elim (fun h => absurd h.2 (gz_ne rfl)) (fun h => h.elim (fun h => absurd h.2 (gz_ne rfl)) (fun h => absurd h (gz_ne rfl))))) ((g41 23 6).resolve_left (fun h => h.elim (fun h => absurd h.2 (gz_ne rfl)) (fun h => h.elim (fun h => absurd h.2 (gz_ne rfl)) (fun h => absurd h (gz_ne rfl))))) ((g41 23 7).resolve_left (fun h => h.elim (fun h => absurd h.2 (gz_ne rfl)) (fun h => h.elim (fun h => absurd h.2 (gz_ne rfl)) (fun h => absurd h (gz_ne rfl))))) ((g41 23 8).resolve_left (fun h => h.elim (fun h => absurd h.2 (gz_ne rfl)) (fun h => h.elim (fun h => absurd h.2 (gz_ne rfl)) (fun h => absurd h (gz_ne rfl))))) (fun k => (g41 24 k).resolve_left (fun h => h.elim (fun h => absurd h.1 (gz_ne rfl)) (fun h => h.elim (fun h => absurd h.1 (gz_ne rfl)) (fun h => absurd h (gz_ne rfl)))))
          have t51 := gc_AT_l A50
          refine gv_callV hD rfl (As := []) (st := [.inl (5 + (2 * v1_10)), .inr (.inr (some 41))]) rfl B_39 S_39 rfl (gc_lV6 hws rfl) (Nat.le_of_ble_eq_true rfl) (gz_Ev_mono (d := 2) (by decide) E41) ?_
          show gv_X _ _ (31, [(0, .inr (.inr (some 39))), (1, .inl v1_10)], [.inl z41, .inl (5 + (2 * v1_10)), .inr (.inr (some 41))], sh, gc_h sh I42 J9 A)
          refine gv_iast hD rfl S_41 ⟨by decide, B_41⟩ ⟨by exact gz_m 45 (by omega), by exact gz_m 46 (by omega)⟩ ?_
          refine gc_st hI42 S_41 rfl R_41 (lo := (-2147483648)) (hi := 2147483647) rfl rfl (by exact gz_m 47 (by omega)) (by exact gz_m 48 (by omega)) (fun I52 hI52 q53 p53 => ?_)
          have FI52 := gc_frs (W := fun q j => (q = 39 ∧ j = 3) ∨ (q = 39 ∧ j = 4) ∨ (q = 23 ∧ j = 5) ∨ (q = 23 ∧ j = 6) ∨ (q = 23 ∧ j = 7) ∨ (q = 23 ∧ j = 8) ∨ (q = 1 ∧ j = 17) ∨ (q = 1 ∧ j = 18) ∨ q = 20 ∨ (q = 41 ∧ (4 ≤ j))) FI42 (Or.inr (Or.inr (Or.inr (Or.inr (Or.inr (Or.inr (Or.inr (Or.inr (Or.inr ⟨rfl, by exact gz_m 49 (by omega)⟩))))))))) p53
          have t54 := p53 23 1 (fun h => absurd h.1 (gz_ne rfl))
          have t55 := p53 23 5 (fun h => absurd h.1 (gz_ne rfl))
          have t56 := p53 23 6 (fun h => absurd h.1 (gz_ne rfl))
          have t57 := p53 23 7 (fun h => absurd h.1 (gz_ne rfl))
          have t58 := p53 1 17 (fun h => absurd h.1 (gz_ne rfl))
          have t59 := p53 1 18 (fun h => absurd h.1 (gz_ne rfl))
          have KLT_I52 := gc_LT_fr KLT_I42 (p53 23 5 (fun h => absurd h.1 (gz_ne rfl))) (p53 23 6 (fun h => absurd h.1 (gz_ne rfl))) (p53 23 7 (fun h => absurd h.1 (gz_ne rfl))) (fun k => p53 24 k (fun h => absurd h.1 (gz_ne rfl)))
          have KTK_I52 := gc_TK_fr KTK_I42 (p53 23 1 (fun h => absurd h.1 (gz_ne rfl))) (p53 23 5 (fun h => absurd h.1 (gz_ne rfl))) (p53 23 6 (fun h => absurd h.1 (gz_ne rfl))) (p53 23 7 (fun h => absurd h.1 (gz_ne rfl)))
          have KRW_I52 := gc_row_st KRW_I42 p53 q53 (by unfold gc_fW; exact gz_m 50 (by omega))
          have KPK_I52 := gc_PKs_fr KPK_I42 (p53 1 17 (fun h => absurd h.1 (gz_ne rfl))) (fun k => p53 20 k (fun h => absurd h.1 (gz_ne rfl)))
          have A60 := gc_AT_I A50 (p53 23 1 (fun h => absurd h.1 (gz_ne rfl))) (p53 23 5 (fun h => absurd h.1 (gz_ne rfl))) (p53 23 6 (fun h => absurd h.1 (gz_ne rfl))) (p53 23 7 (fun h => absurd h.1 (gz_ne rfl))) (p53 23 8 (fun h => absurd h.1 (gz_ne rfl))) (fun k => p53 24 k (fun h => absurd h.1 (gz_ne rfl)))
          show gv_X _ _ (32, [(0, .inr (.inr (some 39))), (1, .inl v1_10)], [], sh, gc_h sh I52 J9 A)
          refine gv_run 1 true hD (pc' := 33) (lv' := [(0, .inr (.inr (some 39))), (1, .inl v1_10)]) (st' := [.inr (.inr (some 39))]) (h' := gc_h sh I52 J9 A) (C := (True ∧ True)) rfl ⟨trivial, trivial⟩ ?_
          refine gv_get hD rfl rfl S_39 ⟨by decide, B_39⟩ (gc_hA S_39 rfl A_39_10) ?_
          show gv_X _ _ (36, [(0, .inr (.inr (some 39))), (1, .inl v1_10)], [.inr (.inr (some 41))], sh, gc_h sh I52 J9 A)
          refine gv_run 7 true hD (pc' := 43) (lv' := [(0, .inr (.inr (some 39))), (1, .inl v1_10)]) (st' := [.inl ((5 + (2 * v1_10)) + 1), .inr (.inr (some 41))]) (h' := gc_h sh I52 J9 A) (C := (((((((True ∧ True) ∧ True) ∧ True) ∧ True) ∧ True) ∧ True) ∧ True)) rfl ⟨⟨⟨⟨⟨⟨⟨trivial, trivial⟩, trivial⟩, trivial⟩, trivial⟩, trivial⟩, trivial⟩, trivial⟩ ?_
          refine gv_run 1 true hD (pc' := 44) (lv' := [(0, .inr (.inr (some 39))), (1, .inl v1_10)]) (st' := [.inr (.inr (some 39)), .inl ((5 + (2 * v1_10)) + 1), .inr (.inr (some 41))]) (h' := gc_h sh I52 J9 A) (C := (True ∧ True)) rfl ⟨trivial, trivial⟩ ?_
          refine gv_get hD rfl rfl S_39 ⟨by decide, B_39⟩ (gc_hA S_39 rfl A_39_1) ?_
          show gv_X _ _ (47, [(0, .inr (.inr (some 39))), (1, .inl v1_10)], [.inr (.inr (some 23)), .inl ((5 + (2 * v1_10)) + 1), .inr (.inr (some 41))], sh, gc_h sh I52 J9 A)
          have t62 := gc_TK_l3 KTK_I52 (by exact gz_m 51 (by omega))
          obtain ⟨r61, h61, E61, P61⟩ := d_X9_lettersSize (ws0 := ws0) (tb := tb) hws htb sh ro I52 J9 A hI52 23  (gc_b23 hb)     
          obtain ⟨rfl, ⟨z61, rfl, q61⟩⟩ := P61
          refine gv_callV hD rfl (As := []) (st := [.inl ((5 + (2 * v1_10)) + 1), .inr (.inr (some 41))]) rfl B_23 S_23 rfl (gc_lV6 hws rfl) (Nat.le_of_ble_eq_true rfl) (gz_Ev_mono (d := 1) (by decide) E61) ?_
          show gv_X _ _ (50, [(0, .inr (.inr (some 39))), (1, .inl v1_10)], [.inl z61, .inl ((5 + (2 * v1_10)) + 1), .inr (.inr (some 41))], sh, gc_h sh I52 J9 A)
          refine gv_iast hD rfl S_41 ⟨by decide, B_41⟩ ⟨by exact gz_m 52 (by omega), by exact gz_m 53 (by omega)⟩ ?_
          refine gc_st hI52 S_41 rfl R_41 (lo := (-2147483648)) (hi := 2147483647) rfl rfl (by exact gz_m 54 (by omega)) (by exact gz_m 55 (by omega)) (fun I63 hI63 q64 p64 => ?_)
          have FI63 := gc_frs (W := fun q j => (q = 39 ∧ j = 3) ∨ (q = 39 ∧ j = 4) ∨ (q = 23 ∧ j = 5) ∨ (q = 23 ∧ j = 6) ∨ (q = 23 ∧ j = 7) ∨ (q = 23 ∧ j = 8) ∨ (q = 1 ∧ j = 17) ∨ (q = 1 ∧ j = 18) ∨ q = 20 ∨ (q = 41 ∧ (4 ≤ j))) FI52 (Or.inr (Or.inr (Or.inr (Or.inr (Or.inr (Or.inr (Or.inr (Or.inr (Or.inr ⟨rfl, by exact gz_m 56 (by omega)⟩))))))))) p64
          have t65 := p64 23 1 (fun h => absurd h.1 (gz_ne rfl))
          have t66 := p64 23 5 (fun h => absurd h.1 (gz_ne rfl))
          have t67 := p64 23 6 (fun h => absurd h.1 (gz_ne rfl))
          have t68 := p64 23 7 (fun h => absurd h.1 (gz_ne rfl))
          have t69 := p64 1 17 (fun h => absurd h.1 (gz_ne rfl))
          have t70 := p64 1 18 (fun h => absurd h.1 (gz_ne rfl))
          have KLT_I63 := gc_LT_fr KLT_I52 (p64 23 5 (fun h => absurd h.1 (gz_ne rfl))) (p64 23 6 (fun h => absurd h.1 (gz_ne rfl))) (p64 23 7 (fun h => absurd h.1 (gz_ne rfl))) (fun k => p64 24 k (fun h => absurd h.1 (gz_ne rfl)))
          have KTK_I63 := gc_TK_fr KTK_I52 (p64 23 1 (fun h => absurd h.1 (gz_ne rfl))) (p64 23 5 (fun h => absurd h.1 (gz_ne rfl))) (p64 23 6 (fun h => absurd h.1 (gz_ne rfl))) (p64 23 7 (fun h => absurd h.1 (gz_ne rfl)))
          have KRW_I63 := gc_row_st KRW_I52 p64 q64 (by unfold gc_fW; exact gz_m 57 (by omega))
          have KPK_I63 := gc_PKs_fr KPK_I52 (p64 1 17 (fun h => absurd h.1 (gz_ne rfl))) (fun k => p64 20 k (fun h => absurd h.1 (gz_ne rfl)))
          have A71 := gc_AT_I A60 (p64 23 1 (fun h => absurd h.1 (gz_ne rfl))) (p64 23 5 (fun h => absurd h.1 (gz_ne rfl))) (p64 23 6 (fun h => absurd h.1 (gz_ne rfl))) (p64 23 7 (fun h => absurd h.1 (gz_ne rfl))) (p64 23 8 (fun h => absurd h.1 (gz_ne rfl))) (fun k => p64 24 k (fun h => absurd h.1 (gz_ne rfl)))
          show gv_X _ _ (51, [(0, .inr (.inr (some 39))), (1, .inl v1_10)], [], sh, gc_h sh I63 J9 A)
          refine gv_run 1 true hD (pc' := 52) (lv' := [(0, .inr (.inr (some 39))), (1, .inl v1_10)]) (st' := [.inr (.inr (some 39))]) (h' := gc_h sh I63 J9 A) (C := (True ∧ True)) rfl ⟨trivial, trivial⟩ ?_
          refine gv_get hD rfl rfl S_39 ⟨by decide, B_39⟩ (gc_hA S_39 rfl A_39_1) ?_
          show gv_X _ _ (55, [(0, .inr (.inr (some 39))), (1, .inl v1_10)], [.inr (.inr (some 23))], sh, gc_h sh I63 J9 A)
          have t73 := gc_TK_nx KTK_I63 (by exact gz_m 58 (by omega))
          have t74 := gc_TK_st KTK_I63 (by exact gz_m 59 (by omega))
          obtain ⟨r72, h72, E72, P72⟩ := d_X9_advance_p (ws0 := ws0) (tb := tb) hws htb sh ro I63 J9 A hI63 23 β η  (gc_b23 hb)    (by exact gz_m 60 (by omega)) A71.1.1 A71.1.2 
          obtain ⟨I75, J76, rfl, hI75, g72, k72, ⟨rfl, V72_0, V72_1, V72_2, V72_3, V72_4, q72⟩⟩ := P72
          have FI75 := gc_frc (W := fun q j => (q = 39 ∧ j = 3) ∨ (q = 39 ∧ j = 4) ∨ (q = 23 ∧ j = 5) ∨ (q = 23 ∧ j = 6) ∨ (q = 23 ∧ j = 7) ∨ (q = 23 ∧ j = 8) ∨ (q = 1 ∧ j = 17) ∨ (q = 1 ∧ j = 18) ∨ q = 20 ∨ (q = 41 ∧ (4 ≤ j))) (V := fun q j => (q = 23 ∧ j = 5) ∨ (q = 23 ∧ j = 6) ∨ (q = 23 ∧ j = 7) ∨ (q = 23 ∧ j = 8)) FI63 (fun q j h => (h.elim (fun h => (Or.inr (Or.inr (Or.inl h)))) (fun h => (h.elim (fun h => (Or.inr (Or.inr (Or.inr (Or.inl h))))) (fun h => (h.elim (fun h => (Or.inr (Or.inr (Or.inr (Or.inr (Or.inl h)))))) (fun h => (Or.inr (Or.inr (Or.inr (Or.inr (Or.inr (Or.inl h))))))))))))) g72
          have FJ76 := gc_frc (W := fun q j => (q = 23 ∧ j = 9)) (V := fun q j => (q = 23 ∧ j = 9)) FJ9 (fun q j h => h) k72
          have t77 := (g72 23 1).resolve_left (fun h => h.elim (fun h => absurd h.2 (gz_ne rfl)) (fun h => h.elim (fun h => absurd h.2 (gz_ne rfl)) (fun h => h.elim (fun h => absurd h.2 (gz_ne rfl)) (fun h => absurd h.2 (gz_ne rfl)))))
          have t78 := (g72 1 17).resolve_left (fun h => h.elim (fun h => absurd h.2 (gz_ne rfl)) (fun h => h.elim (fun h => absurd h.2 (gz_ne rfl)) (fun h => h.elim (fun h => absurd h.2 (gz_ne rfl)) (fun h => absurd h.2 (gz_ne rfl)))))
          have t79 := (g72 1 18).resolve_left (fun h => h.elim (fun h => absurd h.2 (gz_ne rfl)) (fun h => h.elim (fun h => absurd h.2 (gz_ne rfl)) (fun h => h.elim (fun h => absurd h.2 (gz_ne rfl)) (fun h => absurd h.2 (gz_ne rfl)))))
          have f80 := (gc_b_3_5 hI75 R_23)
          have f81 := (gc_b_3_6 hI75 R_23)
          have f82 := (gc_b_3_7 hI75 R_23)
          have KLT_I75 : gc_LT I75 := q72.2.2.1
          have KRW_I75 := gc_row_fr KRW_I63 (fun k => (g72 41 k).resolve_left (fun h => h.elim (fun h => absurd h.1 (gz_ne rfl)) (fun h => h.elim (fun h => absurd h.1 (gz_ne rfl)) (fun h => h.elim (fun h => absurd h.1 (gz_ne rfl)) (fun h => absurd h.1 (gz_ne rfl))))))
          have KPK_I75 := gc_PKs_fr KPK_I63 ((g72 1 17).resolve_left (fun h => h.elim (fun h => absurd h.2 (gz_ne rfl)) (fun h => h.elim (fun h => absurd h.2 (gz_ne rfl)) (fun h => h.elim (fun h => absurd h.2 (gz_ne rfl)) (fun h => absurd h.2 (gz_ne rfl)))))) (fun k => (g72 20 k).resolve_left (fun h => h.elim (fun h => absurd h.1 (gz_ne rfl)) (fun h => h.elim (fun h => absurd h.1 (gz_ne rfl)) (fun h => h.elim (fun h => absurd h.1 (gz_ne rfl)) (fun h => absurd h.1 (gz_ne rfl))))))
          have KTK_I75 : gc_TK I75 := And.intro V72_0 (And.intro V72_1 (And.intro V72_2 (And.intro V72_3 V72_4)))
          have t83 := gc_TK_mo KTK_I75
          clear V72_0 V72_1 V72_2 V72_3 V72_4
          have A84 := gc_AT_nx A71 q72.2.2.2
          have t85 := gc_AT_l A84
          refine gv_callV hD rfl (As := []) (st := []) rfl B_23 S_23 rfl (gc_lV6 hws rfl) (Nat.le_of_ble_eq_true rfl) (gz_Ev_mono (d := 2) (by decide) E72) ?_
          show gv_X _ _ (58, [(0, .inr (.inr (some 39))), (1, .inl v1_10)], [], sh, gc_h sh I75 J76 A)
          refine gv_run 2 true hD (pc' := 2) (lv' := [(1, .inl (v1_10 + 1)), (0, .inr (.inr (some 39)))]) (st' := []) (h' := gc_h sh I75 J76 A) (C := ((True ∧ True) ∧ True)) rfl ⟨⟨trivial, trivial⟩, trivial⟩ ?_
          refine gv_pick [1, 0] rfl ?_
          exact ih2 I75 J76 (v1_10 + 1) (gs_X β η p_10) (by exact gz_m 61 (by omega)) hI75 FI75 FJ76 KLT_I75 KTK_I75 KRW_I75 KPK_I75 (by exact gz_m 62 (by omega)) A84 (e2_10.trans (gs_stm_s (by exact gz_m 63 (by omega)) (by exact gz_m 64 (by omega)))) (gs_k2_s e3_10 ⟨by exact gz_m 65 (by omega), by exact gz_m 66 (by omega)⟩ (by exact gz_m 67 (by omega)) (gc_PKs_fr (gc_PKs_fr (gc_PKs_fr (gc_PKs_tr gc_PKs_rf l41) (p53 1 17 (by exact gz_m 68 (by omega))) (fun k => (p53 20 k (by exact gz_m 69 (by omega))))) (p64 1 17 (by exact gz_m 70 (by omega))) (fun k => (p64 20 k (by exact gz_m 71 (by omega))))) ((g72 1 17).resolve_left (by exact gz_m 72 (by omega))) (fun k => ((g72 20 k).resolve_left (by exact gz_m 73 (by omega))))) (fun j h1 h2 => ((((((g72 41 j).resolve_left (by exact gz_m 74 (by omega)))).trans (p64 41 j (fun h => by have h9 := h.2; exact gz_m 75 (by omega)))).trans (p53 41 j (fun h => by have h9 := h.2; exact gz_m 76 (by omega)))).trans (((g41 41 j).resolve_left (by exact gz_m 77 (by omega)))))) (gs_lec_ix (gs_lec_kp (gs_lec_mk (f := I63 41) (c := Int.toNat (5 + 2 * v1_10)) (((p64 41 (Int.toNat (5 + 2 * v1_10)) (fun h => by have h9 := h.2; exact gz_m 78 (by omega)))).trans (q53.trans (show z41 = I8 1 17 by exact gz_m 79 (by omega)))) ((congrArg (I63 41) (show Int.toNat (5 + 2 * v1_10) + 1 = (Int.toNat (((5 + (2 * v1_10)) + 1))) by exact gz_m 80 (by omega))).trans (q64.trans (show _ = gs_X β η p_10 - gs_A β η p_10 - 2 by exact gz_m 81 (by omega)))) (by exact gz_m 82 (by omega)) (by exact gz_m 83 (by omega)) (by have k9 := q41.2.2.2.2.2.2.1; have k8 := k9.1; exact gz_m 84 (by omega)) (fun i a b => gc_kl_b e1_10 (by exact gz_m 85 (by omega)) (gc_TK_nx KTK_I8 (by exact gz_m 86 (by omega))) q41.2.2.2.2.2.2.1 (fun j => ((p64 20 j (by exact gz_m 87 (by omega))).trans (p53 20 j (by exact gz_m 88 (by omega))))) i a b)) (gc_PKs_fr gc_PKs_rf ((g72 1 17).resolve_left (by exact gz_m 89 (by omega))) (fun k => ((g72 20 k).resolve_left (by exact gz_m 90 (by omega))))) (((g72 41 _).resolve_left (by exact gz_m 91 (by omega)))) (((g72 41 _).resolve_left (by exact gz_m 92 (by omega))))) (by exact gz_m 93 (by omega))) rfl)
  refine gv_run 2 true hD (pc' := 2) (lv' := [(1, .inl 0), (0, .inr (.inr (some 39)))]) (st' := []) (h' := gc_h sh I J A) (C := ((True ∧ True) ∧ True)) rfl ⟨⟨trivial, trivial⟩, trivial⟩ ?_
  refine gv_pick [1, 0] rfl ?_
  exact L2 _ I J 0 p9 (Nat.lt_succ_self _) hI FI FJ KLT_I KTK_I KRW_I KPK_I (by exact gz_m 94 (by omega)) x1 rfl gs_k2_0
set_option maxHeartbeats 8000000 in
set_option maxRecDepth 100000 in
theorem d_X6_readHas_p {ws0 : List Cond} {tb : String → gz_T} (hws : gc_Ws ws0) (htb : gc_tbs tb) (sh : gz_Sh) (ro : Nat → Nat) (I : gr_I) (J : gr_J) (A : gc_A) (hI : gc_Inv ro I) (t : Nat) (β : Int → Int) (η : Int) (p9 : Int) (Ir : gr_I) (Jr : gr_J)  (hb : gc_Base sh ro A) (h_t : gc_isTongue sh ro A t) (G_t : 144 ≤ t)  (x0 : gc_AT β η p9 23 I J) (x1 : 0 ≤ p9) (x2 : I (t + 3) 1 = Ir 14 (Int.toNat (Ir 0 6))) (x3 : gs_NA (I (t + 3) 1) (J (t + 4)) (fun k => Jr 21 (Int.toNat (48 * Ir 0 6 + (k : Int))))) (x4 : gs_VR Ir I t) (x5 : I 39 2 = (t : Int)) (KLT_I : gc_LT I) (KTK_I : gc_TK I) : ∃ r h', gz_Ev ws0 tb 4 (yX6_readHas, cX6_readHas, 1, (some .boolean)) [.inr (.inr (some 39))] sh (gc_h sh I J A) r sh h' 0 0 ∧ (∃ (I' : gr_I) (J' : gr_J), h' = gc_h sh I' J' A ∧ gc_Inv ro I' ∧ (∀ q j : Nat, ((q = 39 ∧ j = 3) ∨ (q = 39 ∧ j = 4) ∨ (q = 23 ∧ j = 5) ∨ (q = 23 ∧ j = 6) ∨ (q = 23 ∧ j = 7) ∨ (q = 23 ∧ j = 8) ∨ (q = 39 ∧ j = 6)) ∨ I' q j = I q j) ∧ (∀ q j : Nat, ((q = 23 ∧ j = 9)) ∨ J' q j = J q j) ∧ gc_LT I' ∧ gc_TK I' ∧ (∃ z : Int, r = some (.inl z) ∧ 0 ≤ z ∧ z ≤ 1 ∧ (I' 23 1 = I 23 1) ∧ (I 23 5 ≤ I' 23 5) ∧ (gs_Or z (0 ≤ (gs_has β η Ir Jr p9) ∧ gc_AT β η (gs_has β η Ir Jr p9) 23 I' J' ∧ (∀ fi : Int, gs_wd3 β η Ir Jr fi p9 = gs_wd5 β η Ir fi (gs_has β η Ir Jr p9)) ∧ gs_PX (I' 39 6) (gs_wvl β η Ir Jr p9) ∧ gs_has β η Ir Jr p9 = gs_wve β η Ir Jr p9) ((gs_has β η Ir Jr p9) < 0 ∧ I' 39 4 = -1 - (gs_has β η Ir Jr p9) ∧ ∀ fi : Int, gs_wd3 β η Ir Jr fi p9 = gs_wd5 β η Ir fi (gs_has β η Ir Jr p9))))) := by
  have FI : ∀ q j : Nat, ((q = 39 ∧ j = 3) ∨ (q = 39 ∧ j = 4) ∨ (q = 23 ∧ j = 5) ∨ (q = 23 ∧ j = 6) ∨ (q = 23 ∧ j = 7) ∨ (q = 23 ∧ j = 8) ∨ (q = 39 ∧ j = 6)) ∨ I q j = I q j := fun _ _ => Or.inr rfl
  have FJ : ∀ q j : Nat, ((q = 23 ∧ j = 9)) ∨ J q j = J q j := fun _ _ => Or.inr rfl
  have A_39_1 : A 39 1 = some 23 := gc_bA_39_1 hb
  have B_23 : 23 < 1000000 := by decide
  have B_39 : 39 < 1000000 := by decide
  have R_23 : ro 23 = 3 := gc_bR_23 hb
  have R_39 : ro 39 = 42 := gc_bR_39 hb
  have S_23 : sh[23]? = some (false, 9, 10) := gc_bS_23 hb
  have S_39 : sh[39]? = some (false, 6, 19) := gc_bS_39 hb
  obtain ⟨S_t, R_t, B_t, A_t_0, h_t_1, A_t_1, h_t_3, A_t_2, S_t_5, R_t_5, B_t_5, A_t_3, S_t_6, R_t_6, B_t_6, A_t_4, h_t_7, A_t_5, S_t_9, R_t_9, B_t_9, A_t_7, S_t_10, R_t_10, B_t_10, A_t_8, h_t_11, A_t_9, S_t_13, R_t_13, B_t_13, A_t_10, S_t_14, R_t_14, B_t_14, A_t_12, S_t_15, R_t_15, B_t_15, A_t_14, S_t_16, R_t_16, B_t_16, A_t_15, h_t_17⟩ := id h_t
  obtain ⟨S_t_1, R_t_1, B_t_1, A_t_1_0, S_t_1_1, R_t_1_1, B_t_1_1, Q0_t_1, Q1_t_1, Q2_t_1⟩ := id h_t_1
  obtain ⟨S_t_3, R_t_3, B_t_3, A_t_3_0, S_t_3_1, R_t_3_1, B_t_3_1, Q0_t_3, Q1_t_3, Q2_t_3⟩ := id h_t_3
  obtain ⟨S_t_7, R_t_7, B_t_7, A_t_7_0, S_t_7_1, R_t_7_1, B_t_7_1, Q0_t_7, Q1_t_7, Q2_t_7⟩ := id h_t_7
  obtain ⟨S_t_11, R_t_11, B_t_11, A_t_11_0, S_t_11_1, R_t_11_1, B_t_11_1, Q0_t_11, Q1_t_11, Q2_t_11⟩ := id h_t_11
  obtain ⟨S_t_17, R_t_17, B_t_17, A_t_17_0, S_20, R_20, B_20, A_t_17_1, S_t_17_1, R_t_17_1, B_t_17_1, A_t_17_2, S_t_17_2, R_t_17_2, B_t_17_2, A_t_17_3, S_t_17_3, R_t_17_3, B_t_17_3, A_t_17_4, S_t_17_4, R_t_17_4, B_t_17_4, A_t_17_5, S_t_17_5, R_t_17_5, B_t_17_5, S_t_17_6, R_t_17_6, B_t_17_6, S_t_17_7, R_t_17_7, B_t_17_7⟩ := id h_t_17
  have hD : gv_D (gc_E6 ws0 tb 3 (yX6_readHas, cX6_readHas, 1, (some .boolean)) kX6_readHas) := gq_of oX6_readHas
  refine gc_ev6 (d := 3) (l := kX6_readHas) (Po := fun r h' => (∃ (I' : gr_I) (J' : gr_J), h' = gc_h sh I' J' A ∧ gc_Inv ro I' ∧ (∀ q j : Nat, ((q = 39 ∧ j = 3) ∨ (q = 39 ∧ j = 4) ∨ (q = 23 ∧ j = 5) ∨ (q = 23 ∧ j = 6) ∨ (q = 23 ∧ j = 7) ∨ (q = 23 ∧ j = 8) ∨ (q = 39 ∧ j = 6)) ∨ I' q j = I q j) ∧ (∀ q j : Nat, ((q = 23 ∧ j = 9)) ∨ J' q j = J q j) ∧ gc_LT I' ∧ gc_TK I' ∧ (∃ z : Int, r = some (.inl z) ∧ 0 ≤ z ∧ z ≤ 1 ∧ (I' 23 1 = I 23 1) ∧ (I 23 5 ≤ I' 23 5) ∧ (gs_Or z (0 ≤ (gs_has β η Ir Jr p9) ∧ gc_AT β η (gs_has β η Ir Jr p9) 23 I' J' ∧ (∀ fi : Int, gs_wd3 β η Ir Jr fi p9 = gs_wd5 β η Ir fi (gs_has β η Ir Jr p9)) ∧ gs_PX (I' 39 6) (gs_wvl β η Ir Jr p9) ∧ gs_has β η Ir Jr p9 = gs_wve β η Ir Jr p9) ((gs_has β η Ir Jr p9) < 0 ∧ I' 39 4 = -1 - (gs_has β η Ir Jr p9) ∧ ∀ fi : Int, gs_wd3 β η Ir Jr fi p9 = gs_wd5 β η Ir fi (gs_has β η Ir Jr p9)))))) htb rfl (Nat.le_of_ble_eq_true rfl) ?_
  have t1 := gc_TK_mo KTK_I
  have f2 := (gc_b_3_1 hI R_23)
  have f3 := (gc_b_3_5 hI R_23)
  have f4 := (gc_b_3_6 hI R_23)
  have f5 := (gc_b_3_7 hI R_23)
  have f6 := (gc_b_42_6 hI R_39)
  have f7 := (gc_b_42_2 hI R_39)
  have tAT := gc_AT_l x0
  refine gv_run 2 true hD (pc' := 2) (lv' := [(0, .inr (.inr (some 39)))]) (st' := [.inl 0, .inr (.inr (some 39))]) (h' := gc_h sh I J A) (C := ((True ∧ True) ∧ True)) rfl ⟨⟨trivial, trivial⟩, trivial⟩ ?_
  refine gv_put hD rfl rfl S_39 ⟨by decide, B_39⟩ rfl trivial ?_
  refine gc_st (k := 6) hI S_39 rfl R_39 (lo := 0) (hi := 16777215) rfl rfl (by exact gz_m 0 (by omega)) (by exact gz_m 1 (by omega)) (fun I8 hI8 q10 p10 => ?_)
  have FI8 := gc_frs (W := fun q j => (q = 39 ∧ j = 3) ∨ (q = 39 ∧ j = 4) ∨ (q = 23 ∧ j = 5) ∨ (q = 23 ∧ j = 6) ∨ (q = 23 ∧ j = 7) ∨ (q = 23 ∧ j = 8) ∨ (q = 39 ∧ j = 6)) FI (Or.inr (Or.inr (Or.inr (Or.inr (Or.inr (Or.inr ⟨rfl, rfl⟩)))))) p10
  have t11 := p10 23 1 (fun h => absurd h.2 (gz_ne rfl))
  have t12 := p10 23 5 (fun h => absurd h.2 (gz_ne rfl))
  have t13 := p10 23 6 (fun h => absurd h.1 (gz_ne rfl))
  have t14 := p10 23 7 (fun h => absurd h.2 (gz_ne rfl))
  have t15 := p10 39 2 (fun h => absurd h.2 (gz_ne rfl))
  have f16 := (gc_b_42_6 hI8 R_39)
  have KLT_I8 := gc_LT_fr KLT_I (p10 23 5 (fun h => absurd h.2 (gz_ne rfl))) (p10 23 6 (fun h => absurd h.1 (gz_ne rfl))) (p10 23 7 (fun h => absurd h.2 (gz_ne rfl))) (fun k => p10 24 k (fun h => absurd h.1 (gz_ne rfl)))
  have KTK_I8 := gc_TK_fr KTK_I (p10 23 1 (fun h => absurd h.2 (gz_ne rfl))) (p10 23 5 (fun h => absurd h.2 (gz_ne rfl))) (p10 23 6 (fun h => absurd h.1 (gz_ne rfl))) (p10 23 7 (fun h => absurd h.2 (gz_ne rfl)))
  have A17 := gc_AT_I x0 (p10 23 1 (fun h => absurd h.2 (gz_ne rfl))) (p10 23 5 (fun h => absurd h.2 (gz_ne rfl))) (p10 23 6 (fun h => absurd h.1 (gz_ne rfl))) (p10 23 7 (fun h => absurd h.2 (gz_ne rfl))) (p10 23 8 (fun h => absurd h.2 (gz_ne rfl))) (fun k => p10 24 k (fun h => absurd h.1 (gz_ne rfl)))
  show gv_X _ _ (5, [(0, .inr (.inr (some 39)))], [], sh, gc_h sh I8 J A)
  refine gv_run 2 true hD (pc' := 9) (lv' := [(0, .inr (.inr (some 39)))]) (st' := [.inr (.inl (6840691)), .inr (.inr (some 39))]) (h' := gc_h sh I8 J A) (C := ((True ∧ True) ∧ True)) rfl ⟨⟨trivial, trivial⟩, trivial⟩ ?_
  obtain ⟨r18, h18, E18, P18⟩ := d_X6_isWord_p (ws0 := ws0) (tb := tb) hws htb sh ro I8 J A hI8  β η p9 (6840691) hb    A17 (by exact gz_m 2 (by omega)) 
  obtain ⟨rfl, ⟨z18, rfl, q18⟩⟩ := P18
  have t19 : z18 = gs_kw β η p9 (gs_W 93) := q18.2.2.2.trans (gs_kwc_kw (gs_W_al 93 (by decide) (by decide)))
  refine gv_callV hD rfl (As := [.inr (.inl (6840691))]) (st := []) rfl B_39 S_39 rfl (gc_lV6 hws rfl) (Nat.le_of_ble_eq_true rfl) (gz_Ev_mono (d := 1) (by decide) E18) ?_
  show gv_X _ _ (12, [(0, .inr (.inr (some 39)))], [.inl z18], sh, gc_h sh I8 J A)
  refine gv_if_ne (t := 17) hD rfl rfl ⟨by exact gz_m 3 (by omega), by exact gz_m 4 (by omega)⟩ (fun c20 => ?_) (fun c20 => ?_)
  · show gv_X _ _ (17, [(0, .inr (.inr (some 39)))], [], sh, gc_h sh I8 J A)
    refine gv_run 1 true hD (pc' := 18) (lv' := [(0, .inr (.inr (some 39)))]) (st' := [.inr (.inr (some 39))]) (h' := gc_h sh I8 J A) (C := (True ∧ True)) rfl ⟨trivial, trivial⟩ ?_
    refine gv_get hD rfl rfl S_39 ⟨by decide, B_39⟩ (gc_hA S_39 rfl A_39_1) ?_
    show gv_X _ _ (21, [(0, .inr (.inr (some 39)))], [.inr (.inr (some 23))], sh, gc_h sh I8 J A)
    have t22 := gc_TK_nx KTK_I8 (by exact gz_m 5 (by omega))
    obtain ⟨r21, h21, E21, P21⟩ := d_X9_advance_p (ws0 := ws0) (tb := tb) hws htb sh ro I8 J A hI8 23 β η  (gc_b23 hb)    (by exact gz_m 6 (by omega)) A17.1.1 A17.1.2 
    obtain ⟨I23, J24, rfl, hI23, g21, k21, ⟨rfl, V21_0, V21_1, V21_2, V21_3, V21_4, q21⟩⟩ := P21
    have FI23 := gc_frc (W := fun q j => (q = 39 ∧ j = 3) ∨ (q = 39 ∧ j = 4) ∨ (q = 23 ∧ j = 5) ∨ (q = 23 ∧ j = 6) ∨ (q = 23 ∧ j = 7) ∨ (q = 23 ∧ j = 8) ∨ (q = 39 ∧ j = 6)) (V := fun q j => (q = 23 ∧ j = 5) ∨ (q = 23 ∧ j = 6) ∨ (q = 23 ∧ j = 7) ∨ (q = 23 ∧ j = 8)) FI8 (fun q j h => (h.elim (fun h => (Or.inr (Or.inr (Or.inl h)))) (fun h => (h.elim (fun h => (Or.inr (Or.inr (Or.inr (Or.inl h))))) (fun h => (h.elim (fun h => (Or.inr (Or.inr (Or.inr (Or.inr (Or.inl h)))))) (fun h => (Or.inr (Or.inr (Or.inr (Or.inr (Or.inr (Or.inl h))))))))))))) g21
    have FJ24 := gc_frc (W := fun q j => (q = 23 ∧ j = 9)) (V := fun q j => (q = 23 ∧ j = 9)) FJ (fun q j h => h) k21
    have t25 := (g21 23 1).resolve_left (fun h => h.elim (fun h => absurd h.2 (gz_ne rfl)) (fun h => h.elim (fun h => absurd h.2 (gz_ne rfl)) (fun h => h.elim (fun h => absurd h.2 (gz_ne rfl)) (fun h => absurd h.2 (gz_ne rfl)))))
    have t26 := (g21 39 6).resolve_left (fun h => h.elim (fun h => absurd h.2 (gz_ne rfl)) (fun h => h.elim (fun h => absurd h.1 (gz_ne rfl)) (fun h => h.elim (fun h => absurd h.2 (gz_ne rfl)) (fun h => absurd h.2 (gz_ne rfl)))))
    have t27 := (g21 39 2).resolve_left (fun h => h.elim (fun h => absurd h.2 (gz_ne rfl)) (fun h => h.elim (fun h => absurd h.2 (gz_ne rfl)) (fun h => h.elim (fun h => absurd h.2 (gz_ne rfl)) (fun h => absurd h.2 (gz_ne rfl)))))
    have f28 := (gc_b_3_5 hI23 R_23)
    have f29 := (gc_b_3_6 hI23 R_23)
    have f30 := (gc_b_3_7 hI23 R_23)
    have KLT_I23 : gc_LT I23 := q21.2.2.1
    have KTK_I23 : gc_TK I23 := And.intro V21_0 (And.intro V21_1 (And.intro V21_2 (And.intro V21_3 V21_4)))
    have t31 := gc_TK_mo KTK_I23
    clear V21_0 V21_1 V21_2 V21_3 V21_4
    have A32 := gc_AT_nx A17 q21.2.2.2
    have t33 := gc_AT_l A32
    refine gv_callV hD rfl (As := []) (st := []) rfl B_23 S_23 rfl (gc_lV6 hws rfl) (Nat.le_of_ble_eq_true rfl) (gz_Ev_mono (d := 2) (by decide) E21) ?_
    show gv_X _ _ (24, [(0, .inr (.inr (some 39)))], [], sh, gc_h sh I23 J24 A)
    refine gv_run 2 true hD (pc' := 26) (lv' := [(0, .inr (.inr (some 39)))]) (st' := [.inl 1, .inr (.inr (some 39))]) (h' := gc_h sh I23 J24 A) (C := ((True ∧ True) ∧ True)) rfl ⟨⟨trivial, trivial⟩, trivial⟩ ?_
    obtain ⟨r34, h34, E34, P34⟩ := d_X6_need_p (ws0 := ws0) (tb := tb) hws htb sh ro I23 J24 A hI23  β η (gs_X β η p9) 1 hb   ⟨by exact gz_m 7 (by omega), by exact gz_m 8 (by omega)⟩ A32 (by exact gz_m 9 (by omega)) 
    obtain ⟨I35, J36, rfl, hI35, g34, k34, ⟨z34, rfl, q34⟩⟩ := P34
    have FI35 := gc_frc (W := fun q j => (q = 39 ∧ j = 3) ∨ (q = 39 ∧ j = 4) ∨ (q = 23 ∧ j = 5) ∨ (q = 23 ∧ j = 6) ∨ (q = 23 ∧ j = 7) ∨ (q = 23 ∧ j = 8) ∨ (q = 39 ∧ j = 6)) (V := fun q j => (q = 39 ∧ j = 3) ∨ (q = 39 ∧ j = 4)) FI23 (fun q j h => (h.elim (fun h => (Or.inl h)) (fun h => (Or.inr (Or.inl h))))) g34
    have t37 := (g34 23 1).resolve_left (fun h => h.elim (fun h => absurd h.2 (gz_ne rfl)) (fun h => absurd h.2 (gz_ne rfl)))
    have t38 := (g34 23 5).resolve_left (fun h => h.elim (fun h => absurd h.2 (gz_ne rfl)) (fun h => absurd h.2 (gz_ne rfl)))
    have t39 := (g34 23 6).resolve_left (fun h => h.elim (fun h => absurd h.2 (gz_ne rfl)) (fun h => absurd h.2 (gz_ne rfl)))
    have t40 := (g34 23 7).resolve_left (fun h => h.elim (fun h => absurd h.2 (gz_ne rfl)) (fun h => absurd h.2 (gz_ne rfl)))
    have t41 := (g34 39 6).resolve_left (fun h => h.elim (fun h => absurd h.2 (gz_ne rfl)) (fun h => absurd h.2 (gz_ne rfl)))
    have t42 := (g34 39 2).resolve_left (fun h => h.elim (fun h => absurd h.2 (gz_ne rfl)) (fun h => absurd h.2 (gz_ne rfl)))
    obtain rfl : J24 = J36 := funext fun q => funext fun j => ((k34 q j).resolve_left id).symm
    have KLT_I35 := gc_LT_fr KLT_I23 ((g34 23 5).resolve_left (fun h => h.elim (fun h => absurd h.2 (gz_ne rfl)) (fun h => absurd h.2 (gz_ne rfl)))) ((g34 23 6).resolve_left (fun h => h.elim (fun h => absurd h.2 (gz_ne rfl)) (fun h => absurd h.2 (gz_ne rfl)))) ((g34 23 7).resolve_left (fun h => h.elim (fun h => absurd h.2 (gz_ne rfl)) (fun h => absurd h.2 (gz_ne rfl)))) (fun k => (g34 24 k).resolve_left (fun h => h.elim (fun h => absurd h.1 (gz_ne rfl)) (fun h => absurd h.1 (gz_ne rfl))))
    have KTK_I35 := gc_TK_fr KTK_I23 ((g34 23 1).resolve_left (fun h => h.elim (fun h => absurd h.2 (gz_ne rfl)) (fun h => absurd h.2 (gz_ne rfl)))) ((g34 23 5).resolve_left (fun h => h.elim (fun h => absurd h.2 (gz_ne rfl)) (fun h => absurd h.2 (gz_ne rfl)))) ((g34 23 6).resolve_left (fun h => h.elim (fun h => absurd h.2 (gz_ne rfl)) (fun h => absurd h.2 (gz_ne rfl)))) ((g34 23 7).resolve_left (fun h => h.elim (fun h => absurd h.2 (gz_ne rfl)) (fun h => absurd h.2 (gz_ne rfl))))
    have A43 := gc_AT_I A32 ((g34 23 1).resolve_left (fun h => h.elim (fun h => absurd h.2 (gz_ne rfl)) (fun h => absurd h.2 (gz_ne rfl)))) ((g34 23 5).resolve_left (fun h => h.elim (fun h => absurd h.2 (gz_ne rfl)) (fun h => absurd h.2 (gz_ne rfl)))) ((g34 23 6).resolve_left (fun h => h.elim (fun h => absurd h.2 (gz_ne rfl)) (fun h => absurd h.2 (gz_ne rfl)))) ((g34 23 7).resolve_left (fun h => h.elim (fun h => absurd h.2 (gz_ne rfl)) (fun h => absurd h.2 (gz_ne rfl)))) ((g34 23 8).resolve_left (fun h => h.elim (fun h => absurd h.2 (gz_ne rfl)) (fun h => absurd h.2 (gz_ne rfl)))) (fun k => (g34 24 k).resolve_left (fun h => h.elim (fun h => absurd h.1 (gz_ne rfl)) (fun h => absurd h.1 (gz_ne rfl))))
    have t44 := gc_AT_l A43
    refine gv_callV hD rfl (As := [.inl 1]) (st := []) rfl B_39 S_39 rfl (gc_lV6 hws rfl) (Nat.le_of_ble_eq_true rfl) (gz_Ev_mono (d := 2) (by decide) E34) ?_
    show gv_X _ _ (29, [(0, .inr (.inr (some 39)))], [.inl z34], sh, gc_h sh I35 J24 A)
    refine gv_if_eq (t := 44) hD rfl rfl ⟨by exact gz_m 10 (by omega), by exact gz_m 11 (by omega)⟩ (fun c45 => ?_) (fun c45 => ?_)
    · show gv_X _ _ (44, [(0, .inr (.inr (some 39)))], [], sh, gc_h sh I35 J24 A)
      have u46 := gs_or0 q34.2.2.2 (by exact gz_m 12 (by omega))
      refine gv_run 1 true hD (pc' := 45) (lv' := [(0, .inr (.inr (some 39)))]) (st' := [.inl 0]) (h' := gc_h sh I35 J24 A) (C := (True ∧ True)) rfl ⟨trivial, trivial⟩ ?_
      exact gv_zret hD rfl (by exact gz_m 13 (by omega)) ⟨I35, J24, rfl, hI35, FI35, FJ24, KLT_I35, KTK_I35, ⟨_, rfl, by exact gz_m 14 (by omega), by exact gz_m 15 (by omega), by exact gz_m 16 (by omega), by exact gz_m 17 (by omega), (Or.inr ⟨by exact gz_m 18 (by omega), by have e9 : (gs_has β η Ir Jr p9) = -1 - gs_A β η (gs_X β η p9) := (by unfold gs_has; (repeat first | rw [if_pos (by exact gz_m 19 (by omega))] | rw [if_neg (by exact gz_m 20 (by omega))])); have e8 : ∀ fi : Int, gs_wd3 β η Ir Jr fi p9 = gs_wd5 β η Ir fi (gs_has β η Ir Jr p9) := (fun fi => by rw [e9]; unfold gs_wd3 gs_wd4 gs_wd5; (repeat first | rw [if_pos (by exact gz_m 21 (by omega))] | rw [if_neg (by exact gz_m 22 (by omega))])); rw [e9] at e8 ⊢; exact ⟨by exact gz_m 23 (by omega), by exact gz_m 24 (by omega), e8⟩⟩)⟩⟩
    · show gv_X _ _ (32, [(0, .inr (.inr (some 39)))], [], sh, gc_h sh I35 J24 A)
      have u47 := gs_or1 q34.2.2.2 (by exact gz_m 25 (by omega))
      refine gv_run 2 true hD (pc' := 34) (lv' := [(0, .inr (.inr (some 39)))]) (st' := [.inl 1, .inr (.inr (some 39))]) (h' := gc_h sh I35 J24 A) (C := ((True ∧ True) ∧ True)) rfl ⟨⟨trivial, trivial⟩, trivial⟩ ?_
      obtain ⟨r48, h48, E48, P48⟩ := d_X6_readValues_p (ws0 := ws0) (tb := tb) hws htb sh ro I35 J24 A hI35  t β η (gs_X β η p9) Ir Jr 1 hb  h_t G_t  ⟨by exact gz_m 26 (by omega), by exact gz_m 27 (by omega)⟩ A43 (by exact gz_m 28 (by omega)) (by have h9 := x2; have h8 := (show I35 (t + 3) 1 = I (t + 3) 1 from ((((g34 (t + 3) 1).resolve_left (by exact gz_m 29 (by omega))).trans ((g21 (t + 3) 1).resolve_left (by exact gz_m 30 (by omega)))).trans (p10 (t + 3) 1 (by exact gz_m 31 (by omega))))); exact gz_m 32 (by omega)) (by rw [show I35 (t + 3) 1 = I (t + 3) 1 from ((((g34 (t + 3) 1).resolve_left (by exact gz_m 33 (by omega))).trans ((g21 (t + 3) 1).resolve_left (by exact gz_m 34 (by omega)))).trans (p10 (t + 3) 1 (by exact gz_m 35 (by omega)))), show J24 (t + 4) = J (t + 4) from funext fun j => ((k21 (t + 4) j).resolve_left (by exact gz_m 36 (by omega)))]; exact x3) (gs_VR_fr x4 ((((g34 (t + 3) 1).resolve_left (by exact gz_m 37 (by omega))).trans ((g21 (t + 3) 1).resolve_left (by exact gz_m 38 (by omega)))).trans (p10 (t + 3) 1 (by exact gz_m 39 (by omega)))) (fun k => ((((g34 (t + 5) k).resolve_left (by exact gz_m 40 (by omega))).trans ((g21 (t + 5) k).resolve_left (by exact gz_m 41 (by omega)))).trans (p10 (t + 5) k (by exact gz_m 42 (by omega))))) (fun k => ((((g34 (t + 6) k).resolve_left (by exact gz_m 43 (by omega))).trans ((g21 (t + 6) k).resolve_left (by exact gz_m 44 (by omega)))).trans (p10 (t + 6) k (by exact gz_m 45 (by omega)))))) (by exact gz_m 46 (by omega)) KLT_I35 KTK_I35
      obtain ⟨I49, J50, rfl, hI49, g48, k48, KLT_I49, KTK_I49, ⟨z48, rfl, q48⟩⟩ := P48
      have FI49 := gc_frc (W := fun q j => (q = 39 ∧ j = 3) ∨ (q = 39 ∧ j = 4) ∨ (q = 23 ∧ j = 5) ∨ (q = 23 ∧ j = 6) ∨ (q = 23 ∧ j = 7) ∨ (q = 23 ∧ j = 8) ∨ (q = 39 ∧ j = 6)) (V := fun q j => (q = 39 ∧ j = 3) ∨ (q = 39 ∧ j = 4) ∨ (q = 23 ∧ j = 5) ∨ (q = 23 ∧ j = 6) ∨ (q = 23 ∧ j = 7) ∨ (q = 23 ∧ j = 8) ∨ (q = 39 ∧ j = 6)) FI35 (fun q j h => (h.elim (fun h => (Or.inl h)) (fun h => (h.elim (fun h => (Or.inr (Or.inl h))) (fun h => (h.elim (fun h => (Or.inr (Or.inr (Or.inl h)))) (fun h => (h.elim (fun h => (Or.inr (Or.inr (Or.inr (Or.inl h))))) (fun h => (h.elim (fun h => (Or.inr (Or.inr (Or.inr (Or.inr (Or.inl h)))))) (fun h => (h.elim (fun h => (Or.inr (Or.inr (Or.inr (Or.inr (Or.inr (Or.inl h))))))) (fun h => (Or.inr (Or.inr (Or.inr (Or.inr (Or.inr (Or.inr h))))))))))))))))))) g48
      have FJ50 := gc_frc (W := fun q j => (q = 23 ∧ j = 9)) (V := fun q j => (q = 23 ∧ j = 9)) FJ24 (fun q j h => h) k48
      have t51 := (g48 23 1).resolve_left (fun h => h.elim (fun h => absurd h.2 (gz_ne rfl)) (fun h => h.elim (fun h => absurd h.2 (gz_ne rfl)) (fun h => h.elim (fun h => absurd h.2 (gz_ne rfl)) (fun h => h.elim (fun h => absurd h.2 (gz_ne rfl)) (fun h => h.elim (fun h => absurd h.2 (gz_ne rfl)) (fun h => h.elim (fun h => absurd h.2 (gz_ne rfl)) (fun h => absurd h.2 (gz_ne rfl))))))))
      have t52 := (g48 39 2).resolve_left (fun h => h.elim (fun h => absurd h.2 (gz_ne rfl)) (fun h => h.elim (fun h => absurd h.2 (gz_ne rfl)) (fun h => h.elim (fun h => absurd h.2 (gz_ne rfl)) (fun h => h.elim (fun h => absurd h.2 (gz_ne rfl)) (fun h => h.elim (fun h => absurd h.2 (gz_ne rfl)) (fun h => h.elim (fun h => absurd h.2 (gz_ne rfl)) (fun h => absurd h.2 (gz_ne rfl))))))))
      have f53 := (gc_b_3_5 hI49 R_23)
      have f54 := (gc_b_3_6 hI49 R_23)
      have f55 := (gc_b_3_7 hI49 R_23)
      have f56 := (gc_b_42_6 hI49 R_39)
      have t57 := gc_TK_mo KTK_I49
      refine gv_callV hD rfl (As := [.inl 1]) (st := []) rfl B_39 S_39 rfl (gc_lV6 hws rfl) (Nat.le_of_ble_eq_true rfl) (gz_Ev_mono (d := 3) (by decide) E48) ?_
      show gv_X _ _ (37, [(0, .inr (.inr (some 39)))], [.inl z48], sh, gc_h sh I49 J50 A)
      refine gv_if_eq (t := 44) hD rfl rfl ⟨by exact gz_m 47 (by omega), by exact gz_m 48 (by omega)⟩ (fun c58 => ?_) (fun c58 => ?_)
      · show gv_X _ _ (44, [(0, .inr (.inr (some 39)))], [], sh, gc_h sh I49 J50 A)
        obtain ⟨u59, u59_⟩ := gs_or0 q48.2.2.2.2 (by exact gz_m 49 (by omega))
        refine gv_run 1 true hD (pc' := 45) (lv' := [(0, .inr (.inr (some 39)))]) (st' := [.inl 0]) (h' := gc_h sh I49 J50 A) (C := (True ∧ True)) rfl ⟨trivial, trivial⟩ ?_
        exact gv_zret hD rfl (by exact gz_m 50 (by omega)) ⟨I49, J50, rfl, hI49, FI49, FJ50, KLT_I49, KTK_I49, ⟨_, rfl, by exact gz_m 51 (by omega), by exact gz_m 52 (by omega), by exact gz_m 53 (by omega), by exact gz_m 54 (by omega), (Or.inr ⟨by exact gz_m 55 (by omega), by have e8 : ∀ fi : Int, gs_wd3 β η Ir Jr fi p9 = gs_wd5 β η Ir fi (gs_has β η Ir Jr p9) := (fun fi => by unfold gs_has gs_wd3 gs_wd4; (repeat first | rw [if_pos (by exact gz_m 56 (by omega))] | rw [if_neg (by exact gz_m 57 (by omega))])); have e9 : (gs_has β η Ir Jr p9) = gs_rv β η Ir Jr 1 (gs_X β η p9) := (by unfold gs_has gs_rv; (repeat first | rw [if_pos (by exact gz_m 58 (by omega))] | rw [if_neg (by exact gz_m 59 (by omega))])); rw [e9] at e8 ⊢; exact ⟨by exact gz_m 60 (by omega), by exact gz_m 61 (by omega), e8⟩⟩)⟩⟩
      · show gv_X _ _ (40, [(0, .inr (.inr (some 39)))], [], sh, gc_h sh I49 J50 A)
        obtain ⟨u60, A60, U60⟩ := gs_or1 q48.2.2.2.2 (by exact gz_m 62 (by omega))
        have t61 := gc_AT_l A60
        refine gv_run 2 true hD (pc' := 45) (lv' := [(0, .inr (.inr (some 39)))]) (st' := [.inl 1]) (h' := gc_h sh I49 J50 A) (C := ((True ∧ True) ∧ True)) rfl ⟨⟨trivial, trivial⟩, trivial⟩ ?_
        exact gv_zret hD rfl (by exact gz_m 63 (by omega)) ⟨I49, J50, rfl, hI49, FI49, FJ50, KLT_I49, KTK_I49, ⟨_, rfl, by exact gz_m 64 (by omega), by exact gz_m 65 (by omega), by exact gz_m 66 (by omega), by exact gz_m 67 (by omega), (Or.inl ⟨by exact gz_m 68 (by omega), by have e8 : ∀ fi : Int, gs_wd3 β η Ir Jr fi p9 = gs_wd5 β η Ir fi (gs_has β η Ir Jr p9) := (fun fi => by unfold gs_has gs_wd3 gs_wd4; (repeat first | rw [if_pos (by exact gz_m 69 (by omega))] | rw [if_neg (by exact gz_m 70 (by omega))])); have e9 : (gs_has β η Ir Jr p9) = (gs_rv β η Ir Jr 1 (gs_X β η p9)) := (by unfold gs_has; (try unfold gs_rv); (repeat first | rw [if_pos (by exact gz_m 71 (by omega))] | rw [if_neg (by exact gz_m 72 (by omega))])); have e7 : gs_PX (I49 39 6) (gs_wvl β η Ir Jr p9) := (by unfold gs_wvl; rw [if_pos (by exact gz_m 73 (by omega))]; exact U60.2 (by decide)); have e6 : gs_has β η Ir Jr p9 = gs_wve β η Ir Jr p9 := (by unfold gs_has gs_wve; (repeat first | rw [if_pos (by exact gz_m 74 (by omega))] | rw [if_neg (by exact gz_m 75 (by omega))])); rw [e9] at e8 e6 ⊢; exact ⟨by exact gz_m 76 (by omega), A60, e8, e7, e6⟩⟩)⟩⟩
  · show gv_X _ _ (15, [(0, .inr (.inr (some 39)))], [], sh, gc_h sh I8 J A)
    refine gv_run 1 true hD (pc' := 16) (lv' := [(0, .inr (.inr (some 39)))]) (st' := [.inl 1]) (h' := gc_h sh I8 J A) (C := (True ∧ True)) rfl ⟨trivial, trivial⟩ ?_
    exact gv_zret hD rfl (by exact gz_m 77 (by omega)) ⟨I8, J, rfl, hI8, FI8, FJ, KLT_I8, KTK_I8, ⟨_, rfl, by exact gz_m 78 (by omega), by exact gz_m 79 (by omega), by exact gz_m 80 (by omega), by exact gz_m 81 (by omega), (Or.inl ⟨by exact gz_m 82 (by omega), by have e8 : ∀ fi : Int, gs_wd3 β η Ir Jr fi p9 = gs_wd5 β η Ir fi (gs_has β η Ir Jr p9) := (fun fi => by unfold gs_has gs_wd3 gs_wd4; (repeat first | rw [if_pos (by exact gz_m 83 (by omega))] | rw [if_neg (by exact gz_m 84 (by omega))])); have e9 : (gs_has β η Ir Jr p9) = p9 := (by unfold gs_has; (try unfold gs_rv); (repeat first | rw [if_pos (by exact gz_m 85 (by omega))] | rw [if_neg (by exact gz_m 86 (by omega))])); have e7 : gs_PX (I8 39 6) (gs_wvl β η Ir Jr p9) := (by unfold gs_wvl; rw [if_neg (by exact gz_m 87 (by omega)), show I8 39 6 = 0 from by exact gz_m 88 (by omega)]; exact ⟨0, gs_PV_0⟩); have e6 : gs_has β η Ir Jr p9 = gs_wve β η Ir Jr p9 := (by unfold gs_has gs_wve; (repeat first | rw [if_pos (by exact gz_m 89 (by omega))] | rw [if_neg (by exact gz_m 90 (by omega))])); rw [e9] at e8 e6 ⊢; exact ⟨by exact gz_m 91 (by omega), A17, e8, e7, e6⟩⟩)⟩⟩
