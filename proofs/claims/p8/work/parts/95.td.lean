/-! PARITY, the class's side: FACT -/
theorem gs_FA_fr {Ir : gr_I} {Jr : gr_J} {I I' : gr_I} {J J' : gr_J} {n m : Int} (h : gs_FA Ir Jr I J n) (hn : m ≤ n) (h18 : ∀ j, J' 18 j = J 18 j) (h19 : ∀ j, I' 19 j = I 19 j) : gs_FA Ir Jr I' J' m := fun k hk => by
  rw [h18, h19, h19]
  exact h k (by omega)
/-- what a good fact does to the class's tables; i: 1 where it was there -/
def gs_Cfact (w : Int64) (i a b : Int) (I : gr_I) (J : gr_J) (I' : gr_I) (J' : gr_J) : Prop := (i = 1 → I' 1 13 = I 1 13 ∧ (∀ j, J' 18 j = J 18 j) ∧ ∀ j, I' 19 j = I 19 j) ∧ (¬ i = 1 → (I' 1 13 = I 1 13 + 1 ∧ J' 18 (Int.toNat (I 1 13)) = w ∧ I' 19 (Int.toNat (2 * I 1 13)) = a ∧ I' 19 (Int.toNat (2 * I 1 13 + 1)) = b) ∧ (∀ j, ¬ j = Int.toNat (I 1 13) → J' 18 j = J 18 j) ∧ ∀ j, ¬ j = Int.toNat (2 * I 1 13) → ¬ j = Int.toNat (2 * I 1 13 + 1) → I' 19 j = I 19 j)
theorem gs_Cfact_mk {w : Int64} {a b : Int} {I I0 I1 I2 I3 : gr_I} {J J0 J1 : gr_J} {j a1 b1 : Nat} (e13 : I0 1 13 = I 1 13) (e18 : ∀ j, J0 18 j = J 18 j) (e19 : ∀ j, I0 19 j = I 19 j) (hj : j = Int.toNat (I 1 13)) (pj : ∀ x k, ¬ (x = 18 ∧ k = j) → J1 x k = J0 x k) (qj : J1 18 j = w) (ha : a1 = Int.toNat (2 * I 1 13)) (pa : ∀ x k, ¬ (x = 19 ∧ k = a1) → I1 x k = I0 x k) (qa : I1 19 a1 = a) (hb : b1 = Int.toNat (2 * I 1 13 + 1)) (pb : ∀ x k, ¬ (x = 19 ∧ k = b1) → I2 x k = I1 x k) (qb : I2 19 b1 = b) (pf : ∀ x k, ¬ (x = 1 ∧ k = 13) → I3 x k = I2 x k) (qf : I3 1 13 = I 1 13 + 1 ∧ 0 ≤ I 1 13) : (I3 1 13 = I 1 13 + 1 ∧ J1 18 (Int.toNat (I 1 13)) = w ∧ I3 19 (Int.toNat (2 * I 1 13)) = a ∧ I3 19 (Int.toNat (2 * I 1 13 + 1)) = b) ∧ (∀ j, ¬ j = Int.toNat (I 1 13) → J1 18 j = J 18 j) ∧ ∀ j, ¬ j = Int.toNat (2 * I 1 13) → ¬ j = Int.toNat (2 * I 1 13 + 1) → I3 19 j = I 19 j := by
  have g : ∀ k, I3 19 k = I2 19 k := fun k => pf 19 k (fun q => absurd q.1 (by decide))
  subst hj ha hb
  refine ⟨⟨qf.1, qj, ?_, ?_⟩, fun k hk => ?_, fun k h1 h2 => ?_⟩
  · rw [g, pb 19 _ (fun q => by have := q.2; omega)]
    exact qa
  · rw [g]
    exact qb
  · rw [pj 18 k (fun q => hk q.2)]
    exact e18 k
  · rw [g, pb 19 k (fun q => h2 q.2), pa 19 k (fun q => h1 q.2)]
    exact e19 k
set_option maxHeartbeats 8000000 in
set_option maxRecDepth 100000 in
theorem d_X6_readFact_p {ws0 : List Cond} {tb : String → gz_T} (hws : gc_Ws ws0) (htb : gc_tbs tb) (sh : gz_Sh) (ro : Nat → Nat) (I : gr_I) (J : gr_J) (A : gc_A) (hI : gc_Inv ro I) (β : Int → Int) (η : Int) (p9 : Int) (Ir : gr_I) (Jr : gr_J)  (hb : gc_Base sh ro A)  (x0 : gc_AT β η p9 23 I J) (x1 : 0 ≤ p9) (x2 : I 1 18 = 0) (x3 : I 1 13 = Ir 0 5) (x4 : gs_FA Ir Jr I J (I 1 13)) (x5 : I 6 1 = Ir 0 4) (x6 : gs_NA (I 6 1) (J 7) (Jr 4)) (KLT_I : gc_LT I) (KTK_I : gc_TK I) : ∃ r h', gz_Ev ws0 tb 5 (yX6_readFact, cX6_readFact, 6, (some .boolean)) [.inr (.inr (some 39))] sh (gc_h sh I J A) r sh h' 0 0 ∧ (∃ (I' : gr_I) (J' : gr_J), h' = gc_h sh I' J' A ∧ gc_Inv ro I' ∧ (∀ q j : Nat, ((q = 39 ∧ j = 3) ∨ (q = 39 ∧ j = 4) ∨ (q = 23 ∧ j = 5) ∨ (q = 23 ∧ j = 6) ∨ (q = 23 ∧ j = 7) ∨ (q = 23 ∧ j = 8) ∨ q = 19 ∨ (q = 1 ∧ j = 13)) ∨ I' q j = I q j) ∧ (∀ q j : Nat, ((q = 23 ∧ j = 9) ∨ q = 18) ∨ J' q j = J q j) ∧ gc_LT I' ∧ gc_TK I' ∧ (∃ z : Int, r = some (.inl z) ∧ 0 ≤ z ∧ z ≤ 1 ∧ (I' 23 1 = I 23 1) ∧ (I 23 5 ≤ I' 23 5) ∧ (gs_Or z (0 ≤ (gs_fact β η Ir Jr (I 39 5) p9) ∧ gc_AT β η (gs_fact β η Ir Jr (I 39 5) p9) 23 I' J' ∧ gs_Cfact (gs_M β η p9) (gs_isf Ir Jr (gs_rn β η p9) (gs_lk Ir Jr 4 4 (gs_rn β η (gs_X β η p9))) (gs_fb β η Ir Jr (gs_X β η (gs_X β η p9)))) (gs_lk Ir Jr 4 4 (gs_rn β η (gs_X β η p9))) (gs_fb β η Ir Jr (gs_X β η (gs_X β η p9))) I J I' J') ((gs_fact β η Ir Jr (I 39 5) p9) < 0 ∧ I' 39 4 = -1 - (gs_fact β η Ir Jr (I 39 5) p9) ∧ (I' 1 13 = I 1 13 ∧ (∀ j, J' 18 j = J 18 j) ∧ ∀ j, I' 19 j = I 19 j))))) := by
  have FI : ∀ q j : Nat, ((q = 39 ∧ j = 3) ∨ (q = 39 ∧ j = 4) ∨ (q = 23 ∧ j = 5) ∨ (q = 23 ∧ j = 6) ∨ (q = 23 ∧ j = 7) ∨ (q = 23 ∧ j = 8) ∨ q = 19 ∨ (q = 1 ∧ j = 13)) ∨ I q j = I q j := fun _ _ => Or.inr rfl
  have FJ : ∀ q j : Nat, ((q = 23 ∧ j = 9) ∨ q = 18) ∨ J q j = J q j := fun _ _ => Or.inr rfl
  have A_1_14 : A 1 14 = some 18 := gc_bA hb rfl
  have A_1_15 : A 1 15 = some 19 := gc_bA hb rfl
  have A_1_2 : A 1 2 = some 6 := gc_bA hb rfl
  have A_39_0 : A 39 0 = some 1 := gc_bA hb rfl
  have A_39_1 : A 39 1 = some 23 := gc_bA hb rfl
  have B_1 : 1 < 1000000 := by decide
  have B_18 : 18 < 1000000 := by decide
  have B_19 : 19 < 1000000 := by decide
  have B_23 : 23 < 1000000 := by decide
  have B_39 : 39 < 1000000 := by decide
  have B_6 : 6 < 1000000 := by decide
  have R_1 : ro 1 = 22 := gc_bR hb (by decide) rfl
  have R_19 : ro 19 = 29 := gc_bR hb (by decide) rfl
  have R_23 : ro 23 = 3 := gc_bR hb (by decide) rfl
  have R_39 : ro 39 = 42 := gc_bR hb (by decide) rfl
  have R_6 : ro 6 = 6 := gc_bR hb (by decide) rfl
  have S_1 : sh[1]? = some (false, 8, 21) := gc_bS hb rfl
  have S_18 : sh[18]? = some (true, 2, 64) := gc_bS hb rfl
  have S_19 : sh[19]? = some (true, 1, 128) := gc_bS hb rfl
  have S_23 : sh[23]? = some (false, 9, 10) := gc_bS hb rfl
  have S_39 : sh[39]? = some (false, 6, 19) := gc_bS hb rfl
  have S_6 : sh[6]? = some (false, 4, 2) := gc_bS hb rfl
  have hD : gv_D (gc_E6 ws0 tb 4 (yX6_readFact, cX6_readFact, 6, (some .boolean)) kX6_readFact) := gq_of oX6_readFact
  refine gc_ev6 (d := 4) (l := kX6_readFact) (Po := fun r h' => (∃ (I' : gr_I) (J' : gr_J), h' = gc_h sh I' J' A ∧ gc_Inv ro I' ∧ (∀ q j : Nat, ((q = 39 ∧ j = 3) ∨ (q = 39 ∧ j = 4) ∨ (q = 23 ∧ j = 5) ∨ (q = 23 ∧ j = 6) ∨ (q = 23 ∧ j = 7) ∨ (q = 23 ∧ j = 8) ∨ q = 19 ∨ (q = 1 ∧ j = 13)) ∨ I' q j = I q j) ∧ (∀ q j : Nat, ((q = 23 ∧ j = 9) ∨ q = 18) ∨ J' q j = J q j) ∧ gc_LT I' ∧ gc_TK I' ∧ (∃ z : Int, r = some (.inl z) ∧ 0 ≤ z ∧ z ≤ 1 ∧ (I' 23 1 = I 23 1) ∧ (I 23 5 ≤ I' 23 5) ∧ (gs_Or z (0 ≤ (gs_fact β η Ir Jr (I 39 5) p9) ∧ gc_AT β η (gs_fact β η Ir Jr (I 39 5) p9) 23 I' J' ∧ gs_Cfact (gs_M β η p9) (gs_isf Ir Jr (gs_rn β η p9) (gs_lk Ir Jr 4 4 (gs_rn β η (gs_X β η p9))) (gs_fb β η Ir Jr (gs_X β η (gs_X β η p9)))) (gs_lk Ir Jr 4 4 (gs_rn β η (gs_X β η p9))) (gs_fb β η Ir Jr (gs_X β η (gs_X β η p9))) I J I' J') ((gs_fact β η Ir Jr (I 39 5) p9) < 0 ∧ I' 39 4 = -1 - (gs_fact β η Ir Jr (I 39 5) p9) ∧ (I' 1 13 = I 1 13 ∧ (∀ j, J' 18 j = J 18 j) ∧ ∀ j, I' 19 j = I 19 j)))))) htb rfl (Nat.le_of_ble_eq_true rfl) ?_
  have t1 := gc_TK_mo KTK_I
  have f2 := (show 0 ≤ I 23 1 ∧ I 23 1 ≤ 1000 from gc_in hI R_23 rfl rfl)
  have f3 := (show 0 ≤ I 23 5 ∧ I 23 5 ≤ 1000 from gc_in hI R_23 rfl rfl)
  have f4 := (show 0 ≤ I 23 6 ∧ I 23 6 ≤ 1001 from gc_in hI R_23 rfl rfl)
  have f5 := (show 0 ≤ I 23 7 ∧ I 23 7 ≤ 125 from gc_in hI R_23 rfl rfl)
  have f6 := (show 0 ≤ I 1 13 ∧ I 1 13 ≤ 64 from gc_in hI R_1 rfl rfl)
  have f7 := (show 0 ≤ I 6 1 ∧ I 6 1 ≤ 8 from gc_in hI R_6 rfl rfl)
  have f8 := (show 0 ≤ I 39 5 ∧ I 39 5 ≤ 1000 from gc_in hI R_39 rfl rfl)
  have f9 := (show 0 ≤ I 1 18 ∧ I 1 18 ≤ 1 from gc_in hI R_1 rfl rfl)
  have f10 := (show 0 ≤ I 1 13 ∧ I 1 13 ≤ 64 from gc_in hI R_1 rfl rfl)
  have tAT := gc_AT_l x0
  have L122 : ∀ (I11 : gr_I) (J12 : gr_J) (v1_13 : Int64) (v3_13 : Int) (v4_13 : Int) (p_13 : Int), gc_Inv ro I11 → (∀ q j : Nat, ((q = 39 ∧ j = 3) ∨ (q = 39 ∧ j = 4) ∨ (q = 23 ∧ j = 5) ∨ (q = 23 ∧ j = 6) ∨ (q = 23 ∧ j = 7) ∨ (q = 23 ∧ j = 8) ∨ q = 19 ∨ (q = 1 ∧ j = 13)) ∨ I11 q j = I q j) → (∀ q j : Nat, ((q = 23 ∧ j = 9) ∨ q = 18) ∨ J12 q j = J q j) → gc_LT I11 → gc_TK I11 → ((0 ≤ v3_13 ∧ v3_13 ≤ 7) ∧ ((-1) ≤ v4_13 ∧ v4_13 ≤ 7) ∧ (0 ≤ p_13) ∧ (I11 23 1 = I 23 1) ∧ (I 23 5 ≤ I11 23 5)) → (gc_AT β η p_13 23 I11 J12) → (v1_13 = gs_M β η p9) → ((gs_fact β η Ir Jr (I 39 5) p9) = gs_fact3 β η Ir Jr (I 39 5) (gs_rn β η p9) v3_13 v4_13 p_13) → (v3_13 = (gs_lk Ir Jr 4 4 (gs_rn β η (gs_X β η p9)))) → (v4_13 = (gs_fb β η Ir Jr (gs_X β η (gs_X β η p9)))) → (gs_T β η p9 = 1) → ((∀ k, I11 19 k = I 19 k) ∧ (∀ k, J12 18 k = J 18 k) ∧ (I11 1 13 = I 1 13) ∧ (I11 39 5 = I 39 5) ∧ (I11 1 18 = I 1 18)) → gv_X (gc_E6 ws0 tb 4 (yX6_readFact, cX6_readFact, 6, (some .boolean)) kX6_readFact) (gv_Q cX6_readFact (some .boolean) sh (fun r h' => (∃ (I' : gr_I) (J' : gr_J), h' = gc_h sh I' J' A ∧ gc_Inv ro I' ∧ (∀ q j : Nat, ((q = 39 ∧ j = 3) ∨ (q = 39 ∧ j = 4) ∨ (q = 23 ∧ j = 5) ∨ (q = 23 ∧ j = 6) ∨ (q = 23 ∧ j = 7) ∨ (q = 23 ∧ j = 8) ∨ q = 19 ∨ (q = 1 ∧ j = 13)) ∨ I' q j = I q j) ∧ (∀ q j : Nat, ((q = 23 ∧ j = 9) ∨ q = 18) ∨ J' q j = J q j) ∧ gc_LT I' ∧ gc_TK I' ∧ (∃ z : Int, r = some (.inl z) ∧ 0 ≤ z ∧ z ≤ 1 ∧ (I' 23 1 = I 23 1) ∧ (I 23 5 ≤ I' 23 5) ∧ (gs_Or z (0 ≤ (gs_fact β η Ir Jr (I 39 5) p9) ∧ gc_AT β η (gs_fact β η Ir Jr (I 39 5) p9) 23 I' J' ∧ gs_Cfact (gs_M β η p9) (gs_isf Ir Jr (gs_rn β η p9) (gs_lk Ir Jr 4 4 (gs_rn β η (gs_X β η p9))) (gs_fb β η Ir Jr (gs_X β η (gs_X β η p9)))) (gs_lk Ir Jr 4 4 (gs_rn β η (gs_X β η p9))) (gs_fb β η Ir Jr (gs_X β η (gs_X β η p9))) I J I' J') ((gs_fact β η Ir Jr (I 39 5) p9) < 0 ∧ I' 39 4 = -1 - (gs_fact β η Ir Jr (I 39 5) p9) ∧ (I' 1 13 = I 1 13 ∧ (∀ j, J' 18 j = J 18 j) ∧ ∀ j, I' 19 j = I 19 j))))))) (122, [(0, .inr (.inr (some 39))), (1, .inr (.inl v1_13)), (3, .inl v3_13), (4, .inl v4_13)], [], sh, gc_h sh I11 J12 A) := by
    intro I11 J12 v1_13 v3_13 v4_13 p_13 hI11 FI11 FJ12 KLT_I11 KTK_I11 m_13 e1_13 e2_13 e3_13 e4_13 e5_13 e6_13 e7_13
    obtain ⟨hv3_13, hv4_13, e0_13, e8_13, e9_13⟩ := m_13
    have t14 := gc_TK_mo KTK_I11
    have f15 := (show 0 ≤ I11 23 1 ∧ I11 23 1 ≤ 1000 from gc_in hI11 R_23 rfl rfl)
    have f16 := (show 0 ≤ I11 23 5 ∧ I11 23 5 ≤ 1000 from gc_in hI11 R_23 rfl rfl)
    have f17 := (show 0 ≤ I11 23 6 ∧ I11 23 6 ≤ 1001 from gc_in hI11 R_23 rfl rfl)
    have f18 := (show 0 ≤ I11 23 7 ∧ I11 23 7 ≤ 125 from gc_in hI11 R_23 rfl rfl)
    have f19 := (show 0 ≤ I11 1 13 ∧ I11 1 13 ≤ 64 from gc_in hI11 R_1 rfl rfl)
    have f20 := (show 0 ≤ I11 6 1 ∧ I11 6 1 ≤ 8 from gc_in hI11 R_6 rfl rfl)
    have f21 := (show 0 ≤ I11 39 5 ∧ I11 39 5 ≤ 1000 from gc_in hI11 R_39 rfl rfl)
    have f22 := (show 0 ≤ I11 1 18 ∧ I11 1 18 ≤ 1 from gc_in hI11 R_1 rfl rfl)
    have f23 := (show 0 ≤ I11 1 13 ∧ I11 1 13 ≤ 64 from gc_in hI11 R_1 rfl rfl)
    have t24 := gc_AT_l e1_13
    refine gv_run 1 true hD (pc' := 123) (lv' := [(0, .inr (.inr (some 39))), (1, .inr (.inl v1_13)), (3, .inl v3_13), (4, .inl v4_13)]) (st' := [.inr (.inr (some 39))]) (h' := gc_h sh I11 J12 A) (C := (True ∧ True)) rfl ⟨trivial, trivial⟩ ?_
    refine gv_get hD rfl rfl S_39 ⟨by decide, B_39⟩ (gc_hA S_39 rfl A_39_0) ?_
    show gv_X _ _ (126, [(0, .inr (.inr (some 39))), (1, .inr (.inl v1_13)), (3, .inl v3_13), (4, .inl v4_13)], [.inr (.inr (some 1))], sh, gc_h sh I11 J12 A)
    refine gv_run 3 true hD (pc' := 130) (lv' := [(0, .inr (.inr (some 39))), (1, .inr (.inl v1_13)), (3, .inl v3_13), (4, .inl v4_13)]) (st' := [.inl v4_13, .inl v3_13, .inr (.inl v1_13), .inr (.inr (some 1))]) (h' := gc_h sh I11 J12 A) (C := (((True ∧ True) ∧ True) ∧ True)) rfl ⟨⟨⟨trivial, trivial⟩, trivial⟩, trivial⟩ ?_
    obtain ⟨r25, h25, E25, P25⟩ := d_X8_findFact_p (ws0 := ws0) (tb := tb) hws htb sh ro I11 J12 A hI11  (gs_rn β η p9) Ir Jr v1_13 v3_13 v4_13 hb   ⟨by exact gz_m 0 (by omega), by exact gz_m 1 (by omega)⟩ ⟨by exact gz_m 2 (by omega), by exact gz_m 3 (by omega)⟩ (gs_FA_fr x4 (by exact gz_m 4 (by omega)) (fun j => (e7_13.2.1 j)) (fun j => (e7_13.1 j))) (by exact gz_m 5 (by omega)) (by rw [e2_13]; exact gs_al_p e6_13) 
    obtain ⟨rfl, ⟨z25, rfl, q25⟩⟩ := P25
    refine gv_callV hD rfl (As := [.inr (.inl v1_13), .inl v3_13, .inl v4_13]) (st := []) rfl B_1 S_1 rfl (gc_lV6 hws rfl) (Nat.le_of_ble_eq_true rfl) (gz_Ev_mono (d := 1) (by decide) E25) ?_
    show gv_X _ _ (133, [(0, .inr (.inr (some 39))), (1, .inr (.inl v1_13)), (3, .inl v3_13), (4, .inl v4_13)], [.inl z25], sh, gc_h sh I11 J12 A)
    refine gv_if_ge (t := 140) hD rfl rfl ⟨by exact gz_m 6 (by omega), by exact gz_m 7 (by omega)⟩ (fun c26 => ?_) (fun c26 => ?_)
    · show gv_X _ _ (140, [(0, .inr (.inr (some 39))), (1, .inr (.inl v1_13)), (3, .inl v3_13), (4, .inl v4_13)], [], sh, gc_h sh I11 J12 A)
      refine gv_run 4 true hD (pc' := 146) (lv' := [(5, .inl 0), (0, .inr (.inr (some 39))), (1, .inr (.inl v1_13)), (3, .inl v3_13), (4, .inl v4_13)]) (st' := [.inl 0, .inr (.inr (some 39))]) (h' := gc_h sh I11 J12 A) (C := ((((True ∧ True) ∧ True) ∧ True) ∧ True)) rfl ⟨⟨⟨⟨trivial, trivial⟩, trivial⟩, trivial⟩, trivial⟩ ?_
      refine gv_if_eq (t := 165) hD rfl rfl ⟨by exact gz_m 8 (by omega), by exact gz_m 9 (by omega)⟩ (fun c27 => ?_) (fun c27 => ?_)
      · show gv_X _ _ (165, [(5, .inl 0), (0, .inr (.inr (some 39))), (1, .inr (.inl v1_13)), (3, .inl v3_13), (4, .inl v4_13)], [.inr (.inr (some 39))], sh, gc_h sh I11 J12 A)
        refine gv_run 1 true hD (pc' := 166) (lv' := [(5, .inl 0), (0, .inr (.inr (some 39))), (1, .inr (.inl v1_13)), (3, .inl v3_13), (4, .inl v4_13)]) (st' := [.inl 0, .inr (.inr (some 39))]) (h' := gc_h sh I11 J12 A) (C := (True ∧ True)) rfl ⟨trivial, trivial⟩ ?_
        obtain ⟨r28, h28, E28, P28⟩ := d_X6_closes_p (ws0 := ws0) (tb := tb) hws htb sh ro I11 J12 A hI11  β η p_13 0 hb   ⟨by exact gz_m 10 (by omega), by exact gz_m 11 (by omega)⟩ e1_13 (by exact gz_m 12 (by omega)) (by exact gz_m 13 (by omega)) KLT_I11 KTK_I11
        obtain ⟨I29, J30, rfl, hI29, g28, k28, KLT_I29, KTK_I29, ⟨z28, rfl, q28⟩⟩ := P28
        have FI29 := gc_frc (W := fun q j => (q = 39 ∧ j = 3) ∨ (q = 39 ∧ j = 4) ∨ (q = 23 ∧ j = 5) ∨ (q = 23 ∧ j = 6) ∨ (q = 23 ∧ j = 7) ∨ (q = 23 ∧ j = 8) ∨ q = 19 ∨ (q = 1 ∧ j = 13)) (V := fun q j => (q = 39 ∧ j = 3) ∨ (q = 39 ∧ j = 4) ∨ (q = 23 ∧ j = 5) ∨ (q = 23 ∧ j = 6) ∨ (q = 23 ∧ j = 7) ∨ (q = 23 ∧ j = 8)) FI11 (fun q j h => (h.elim (fun h => (Or.inl h)) (fun h => (h.elim (fun h => (Or.inr (Or.inl h))) (fun h => (h.elim (fun h => (Or.inr (Or.inr (Or.inl h)))) (fun h => (h.elim (fun h => (Or.inr (Or.inr (Or.inr (Or.inl h))))) (fun h => (h.elim (fun h => (Or.inr (Or.inr (Or.inr (Or.inr (Or.inl h)))))) (fun h => (Or.inr (Or.inr (Or.inr (Or.inr (Or.inr (Or.inl h))))))))))))))))) g28
        have FJ30 := gc_frc (W := fun q j => (q = 23 ∧ j = 9) ∨ q = 18) (V := fun q j => (q = 23 ∧ j = 9)) FJ12 (fun q j h => (Or.inl h)) k28
        have t31 := (g28 23 1).resolve_left (fun h => h.elim (fun h => absurd h.2 (by decide)) (fun h => h.elim (fun h => absurd h.2 (by decide)) (fun h => h.elim (fun h => absurd h.2 (by decide)) (fun h => h.elim (fun h => absurd h.2 (by decide)) (fun h => h.elim (fun h => absurd h.2 (by decide)) (fun h => absurd h.2 (by decide)))))))
        have t32 := (g28 1 13).resolve_left (fun h => h.elim (fun h => absurd h.2 (by decide)) (fun h => h.elim (fun h => absurd h.2 (by decide)) (fun h => h.elim (fun h => absurd h.2 (by decide)) (fun h => h.elim (fun h => absurd h.2 (by decide)) (fun h => h.elim (fun h => absurd h.2 (by decide)) (fun h => absurd h.2 (by decide)))))))
        have t33 := (g28 6 1).resolve_left (fun h => h.elim (fun h => absurd h.2 (by decide)) (fun h => h.elim (fun h => absurd h.2 (by decide)) (fun h => h.elim (fun h => absurd h.2 (by decide)) (fun h => h.elim (fun h => absurd h.2 (by decide)) (fun h => h.elim (fun h => absurd h.2 (by decide)) (fun h => absurd h.2 (by decide)))))))
        have t34 := (g28 39 5).resolve_left (fun h => h.elim (fun h => absurd h.2 (by decide)) (fun h => h.elim (fun h => absurd h.2 (by decide)) (fun h => h.elim (fun h => absurd h.1 (by decide)) (fun h => h.elim (fun h => absurd h.2 (by decide)) (fun h => h.elim (fun h => absurd h.2 (by decide)) (fun h => absurd h.2 (by decide)))))))
        have t35 := (g28 1 18).resolve_left (fun h => h.elim (fun h => absurd h.2 (by decide)) (fun h => h.elim (fun h => absurd h.2 (by decide)) (fun h => h.elim (fun h => absurd h.2 (by decide)) (fun h => h.elim (fun h => absurd h.2 (by decide)) (fun h => h.elim (fun h => absurd h.2 (by decide)) (fun h => absurd h.2 (by decide)))))))
        have t36 := (g28 1 13).resolve_left (fun h => h.elim (fun h => absurd h.2 (by decide)) (fun h => h.elim (fun h => absurd h.2 (by decide)) (fun h => h.elim (fun h => absurd h.2 (by decide)) (fun h => h.elim (fun h => absurd h.2 (by decide)) (fun h => h.elim (fun h => absurd h.2 (by decide)) (fun h => absurd h.2 (by decide)))))))
        have f37 := (show 0 ≤ I29 23 5 ∧ I29 23 5 ≤ 1000 from gc_in hI29 R_23 rfl rfl)
        have f38 := (show 0 ≤ I29 23 6 ∧ I29 23 6 ≤ 1001 from gc_in hI29 R_23 rfl rfl)
        have f39 := (show 0 ≤ I29 23 7 ∧ I29 23 7 ≤ 125 from gc_in hI29 R_23 rfl rfl)
        have t40 := gc_TK_mo KTK_I29
        refine gv_callV hD rfl (As := [.inl 0]) (st := []) rfl B_39 S_39 rfl (gc_lV6 hws rfl) (Nat.le_of_ble_eq_true rfl) (gz_Ev_mono (d := 4) (by decide) E28) ?_
        show gv_X _ _ (169, [(5, .inl 0), (0, .inr (.inr (some 39))), (1, .inr (.inl v1_13)), (3, .inl v3_13), (4, .inl v4_13)], [.inl z28], sh, gc_h sh I29 J30 A)
        refine gv_if_ne (t := 174) hD rfl rfl ⟨by exact gz_m 14 (by omega), by exact gz_m 15 (by omega)⟩ (fun c41 => ?_) (fun c41 => ?_)
        · show gv_X _ _ (174, [(5, .inl 0), (0, .inr (.inr (some 39))), (1, .inr (.inl v1_13)), (3, .inl v3_13), (4, .inl v4_13)], [], sh, gc_h sh I29 J30 A)
          have V42 := q28.2.2.2.2.2
          rw [show I11 39 5 = I 39 5 from by exact gz_m 16 (by omega)] at V42
          rw [show (if (0 : Int) = 0 then (1 : Int) else 0) = 1 from if_pos rfl] at V42
          obtain ⟨u42, A42⟩ := gs_or1 V42 (by exact gz_m 17 (by omega))
          have t43 := gc_AT_l A42
          refine gv_run 1 true hD (pc' := 176) (lv' := [(5, .inl 0), (0, .inr (.inr (some 39))), (1, .inr (.inl v1_13)), (3, .inl v3_13), (4, .inl v4_13)]) (st' := [.inl 0]) (h' := gc_h sh I29 J30 A) (C := (True ∧ True)) rfl ⟨trivial, trivial⟩ ?_
          refine gv_if_eq (t := 247) hD rfl rfl ⟨by exact gz_m 18 (by omega), by exact gz_m 19 (by omega)⟩ (fun c44 => ?_) (fun c44 => ?_)
          · show gv_X _ _ (247, [(5, .inl 0), (0, .inr (.inr (some 39))), (1, .inr (.inl v1_13)), (3, .inl v3_13), (4, .inl v4_13)], [], sh, gc_h sh I29 J30 A)
            refine gv_run 1 true hD (pc' := 248) (lv' := [(5, .inl 0), (0, .inr (.inr (some 39))), (1, .inr (.inl v1_13)), (3, .inl v3_13), (4, .inl v4_13)]) (st' := [.inl 1]) (h' := gc_h sh I29 J30 A) (C := (True ∧ True)) rfl ⟨trivial, trivial⟩ ?_
            exact gv_zret hD rfl (by exact gz_m 20 (by omega)) ⟨I29, J30, rfl, hI29, FI29, FJ30, KLT_I29, KTK_I29, ⟨_, rfl, by exact gz_m 21 (by omega), by exact gz_m 22 (by omega), by exact gz_m 23 (by omega), by exact gz_m 24 (by omega), (Or.inl ⟨by exact gz_m 25 (by omega), by have e9 : (gs_fact β η Ir Jr (I 39 5) p9) = (gs_done β η 1 (I 39 5) p_13) := (by first | (exfalso; exact gz_m 26 (by omega)) | (rw [e3_13]; unfold gs_fact3; (repeat first | rw [if_pos (by exact gz_m 27 (by omega))] | rw [if_neg (by exact gz_m 28 (by omega))]))); rw [e9]; exact ⟨by exact gz_m 29 (by omega), A42, (by rw [← e4_13, ← e5_13]; exact ⟨fun _ => ⟨(((g28 1 13).resolve_left (by exact gz_m 30 (by omega))).trans (e7_13.2.2.1)), (fun j => (((k28 18 j).resolve_left (by exact gz_m 31 (by omega))).trans (e7_13.2.1 j))), fun j => (((g28 19 j).resolve_left (by exact gz_m 32 (by omega))).trans (e7_13.1 j))⟩, fun h9 => absurd h9 (by exact gz_m 33 (by omega))⟩)⟩⟩)⟩⟩
          · exfalso; exact gz_m 34 (by omega)
        · show gv_X _ _ (172, [(5, .inl 0), (0, .inr (.inr (some 39))), (1, .inr (.inl v1_13)), (3, .inl v3_13), (4, .inl v4_13)], [], sh, gc_h sh I29 J30 A)
          have V45 := q28.2.2.2.2.2
          rw [show I11 39 5 = I 39 5 from by exact gz_m 35 (by omega)] at V45
          rw [show (if (0 : Int) = 0 then (1 : Int) else 0) = 1 from if_pos rfl] at V45
          obtain ⟨u45, u45_⟩ := gs_or0 V45 (by exact gz_m 36 (by omega))
          refine gv_run 1 true hD (pc' := 173) (lv' := [(5, .inl 0), (0, .inr (.inr (some 39))), (1, .inr (.inl v1_13)), (3, .inl v3_13), (4, .inl v4_13)]) (st' := [.inl 0]) (h' := gc_h sh I29 J30 A) (C := (True ∧ True)) rfl ⟨trivial, trivial⟩ ?_
          exact gv_zret hD rfl (by exact gz_m 37 (by omega)) ⟨I29, J30, rfl, hI29, FI29, FJ30, KLT_I29, KTK_I29, ⟨_, rfl, by exact gz_m 38 (by omega), by exact gz_m 39 (by omega), by exact gz_m 40 (by omega), by exact gz_m 41 (by omega), (Or.inr ⟨by exact gz_m 42 (by omega), by rw [e3_13]; unfold gs_fact3; (repeat first | rw [if_pos (by exact gz_m 43 (by omega))] | rw [if_neg (by exact gz_m 44 (by omega))]); exact ⟨by exact gz_m 45 (by omega), by exact gz_m 46 (by omega), (((g28 1 13).resolve_left (by exact gz_m 47 (by omega))).trans (e7_13.2.2.1)), (fun j => (((k28 18 j).resolve_left (by exact gz_m 48 (by omega))).trans (e7_13.2.1 j))), fun j => (((g28 19 j).resolve_left (by exact gz_m 49 (by omega))).trans (e7_13.1 j))⟩⟩)⟩⟩
      · exfalso; exact gz_m 50 (by omega)
    · show gv_X _ _ (136, [(0, .inr (.inr (some 39))), (1, .inr (.inl v1_13)), (3, .inl v3_13), (4, .inl v4_13)], [], sh, gc_h sh I11 J12 A)
      refine gv_run 5 true hD (pc' := 146) (lv' := [(5, .inl 1), (0, .inr (.inr (some 39))), (1, .inr (.inl v1_13)), (3, .inl v3_13), (4, .inl v4_13)]) (st' := [.inl 1, .inr (.inr (some 39))]) (h' := gc_h sh I11 J12 A) (C := (((((True ∧ True) ∧ True) ∧ True) ∧ True) ∧ True)) rfl ⟨⟨⟨⟨⟨trivial, trivial⟩, trivial⟩, trivial⟩, trivial⟩, trivial⟩ ?_
      refine gv_if_eq (t := 165) hD rfl rfl ⟨by exact gz_m 51 (by omega), by exact gz_m 52 (by omega)⟩ (fun c46 => ?_) (fun c46 => ?_)
      · exfalso; exact gz_m 53 (by omega)
      · show gv_X _ _ (149, [(5, .inl 1), (0, .inr (.inr (some 39))), (1, .inr (.inl v1_13)), (3, .inl v3_13), (4, .inl v4_13)], [.inr (.inr (some 39))], sh, gc_h sh I11 J12 A)
        refine gv_run 1 true hD (pc' := 150) (lv' := [(5, .inl 1), (0, .inr (.inr (some 39))), (1, .inr (.inl v1_13)), (3, .inl v3_13), (4, .inl v4_13)]) (st' := [.inr (.inr (some 39)), .inr (.inr (some 39))]) (h' := gc_h sh I11 J12 A) (C := (True ∧ True)) rfl ⟨trivial, trivial⟩ ?_
        refine gv_get hD rfl rfl S_39 ⟨by decide, B_39⟩ (gc_hA S_39 rfl A_39_0) ?_
        show gv_X _ _ (153, [(5, .inl 1), (0, .inr (.inr (some 39))), (1, .inr (.inl v1_13)), (3, .inl v3_13), (4, .inl v4_13)], [.inr (.inr (some 1)), .inr (.inr (some 39))], sh, gc_h sh I11 J12 A)
        have f47 := (show 0 ≤ I11 1 13 ∧ I11 1 13 ≤ 64 from gc_in hI11 R_1 rfl rfl)
        refine gv_get hD rfl rfl S_1 ⟨by decide, B_1⟩ (gc_hI S_1 rfl) ?_
        show gv_X _ _ (156, [(5, .inl 1), (0, .inr (.inr (some 39))), (1, .inr (.inl v1_13)), (3, .inl v3_13), (4, .inl v4_13)], [.inl (I11 1 13), .inr (.inr (some 39))], sh, gc_h sh I11 J12 A)
        refine gv_run 1 true hD (pc' := 158) (lv' := [(5, .inl 1), (0, .inr (.inr (some 39))), (1, .inr (.inl v1_13)), (3, .inl v3_13), (4, .inl v4_13)]) (st' := [.inl 64, .inl (I11 1 13), .inr (.inr (some 39))]) (h' := gc_h sh I11 J12 A) (C := (True ∧ True)) rfl ⟨trivial, trivial⟩ ?_
        refine gv_icmp_lt (t := 165) hD rfl rfl ⟨⟨by exact gz_m 54 (by omega), by exact gz_m 55 (by omega)⟩, ⟨by exact gz_m 56 (by omega), by exact gz_m 57 (by omega)⟩⟩ (fun c48 => ?_) (fun c48 => ?_)
        · show gv_X _ _ (165, [(5, .inl 1), (0, .inr (.inr (some 39))), (1, .inr (.inl v1_13)), (3, .inl v3_13), (4, .inl v4_13)], [.inr (.inr (some 39))], sh, gc_h sh I11 J12 A)
          refine gv_run 1 true hD (pc' := 166) (lv' := [(5, .inl 1), (0, .inr (.inr (some 39))), (1, .inr (.inl v1_13)), (3, .inl v3_13), (4, .inl v4_13)]) (st' := [.inl 0, .inr (.inr (some 39))]) (h' := gc_h sh I11 J12 A) (C := (True ∧ True)) rfl ⟨trivial, trivial⟩ ?_
          obtain ⟨r49, h49, E49, P49⟩ := d_X6_closes_p (ws0 := ws0) (tb := tb) hws htb sh ro I11 J12 A hI11  β η p_13 0 hb   ⟨by exact gz_m 58 (by omega), by exact gz_m 59 (by omega)⟩ e1_13 (by exact gz_m 60 (by omega)) (by exact gz_m 61 (by omega)) KLT_I11 KTK_I11
          obtain ⟨I50, J51, rfl, hI50, g49, k49, KLT_I50, KTK_I50, ⟨z49, rfl, q49⟩⟩ := P49
          have FI50 := gc_frc (W := fun q j => (q = 39 ∧ j = 3) ∨ (q = 39 ∧ j = 4) ∨ (q = 23 ∧ j = 5) ∨ (q = 23 ∧ j = 6) ∨ (q = 23 ∧ j = 7) ∨ (q = 23 ∧ j = 8) ∨ q = 19 ∨ (q = 1 ∧ j = 13)) (V := fun q j => (q = 39 ∧ j = 3) ∨ (q = 39 ∧ j = 4) ∨ (q = 23 ∧ j = 5) ∨ (q = 23 ∧ j = 6) ∨ (q = 23 ∧ j = 7) ∨ (q = 23 ∧ j = 8)) FI11 (fun q j h => (h.elim (fun h => (Or.inl h)) (fun h => (h.elim (fun h => (Or.inr (Or.inl h))) (fun h => (h.elim (fun h => (Or.inr (Or.inr (Or.inl h)))) (fun h => (h.elim (fun h => (Or.inr (Or.inr (Or.inr (Or.inl h))))) (fun h => (h.elim (fun h => (Or.inr (Or.inr (Or.inr (Or.inr (Or.inl h)))))) (fun h => (Or.inr (Or.inr (Or.inr (Or.inr (Or.inr (Or.inl h))))))))))))))))) g49
          have FJ51 := gc_frc (W := fun q j => (q = 23 ∧ j = 9) ∨ q = 18) (V := fun q j => (q = 23 ∧ j = 9)) FJ12 (fun q j h => (Or.inl h)) k49
          have t52 := (g49 23 1).resolve_left (fun h => h.elim (fun h => absurd h.2 (by decide)) (fun h => h.elim (fun h => absurd h.2 (by decide)) (fun h => h.elim (fun h => absurd h.2 (by decide)) (fun h => h.elim (fun h => absurd h.2 (by decide)) (fun h => h.elim (fun h => absurd h.2 (by decide)) (fun h => absurd h.2 (by decide)))))))
          have t53 := (g49 1 13).resolve_left (fun h => h.elim (fun h => absurd h.2 (by decide)) (fun h => h.elim (fun h => absurd h.2 (by decide)) (fun h => h.elim (fun h => absurd h.2 (by decide)) (fun h => h.elim (fun h => absurd h.2 (by decide)) (fun h => h.elim (fun h => absurd h.2 (by decide)) (fun h => absurd h.2 (by decide)))))))
          have t54 := (g49 6 1).resolve_left (fun h => h.elim (fun h => absurd h.2 (by decide)) (fun h => h.elim (fun h => absurd h.2 (by decide)) (fun h => h.elim (fun h => absurd h.2 (by decide)) (fun h => h.elim (fun h => absurd h.2 (by decide)) (fun h => h.elim (fun h => absurd h.2 (by decide)) (fun h => absurd h.2 (by decide)))))))
          have t55 := (g49 39 5).resolve_left (fun h => h.elim (fun h => absurd h.2 (by decide)) (fun h => h.elim (fun h => absurd h.2 (by decide)) (fun h => h.elim (fun h => absurd h.1 (by decide)) (fun h => h.elim (fun h => absurd h.2 (by decide)) (fun h => h.elim (fun h => absurd h.2 (by decide)) (fun h => absurd h.2 (by decide)))))))
          have t56 := (g49 1 18).resolve_left (fun h => h.elim (fun h => absurd h.2 (by decide)) (fun h => h.elim (fun h => absurd h.2 (by decide)) (fun h => h.elim (fun h => absurd h.2 (by decide)) (fun h => h.elim (fun h => absurd h.2 (by decide)) (fun h => h.elim (fun h => absurd h.2 (by decide)) (fun h => absurd h.2 (by decide)))))))
          have t57 := (g49 1 13).resolve_left (fun h => h.elim (fun h => absurd h.2 (by decide)) (fun h => h.elim (fun h => absurd h.2 (by decide)) (fun h => h.elim (fun h => absurd h.2 (by decide)) (fun h => h.elim (fun h => absurd h.2 (by decide)) (fun h => h.elim (fun h => absurd h.2 (by decide)) (fun h => absurd h.2 (by decide)))))))
          have f58 := (show 0 ≤ I50 23 5 ∧ I50 23 5 ≤ 1000 from gc_in hI50 R_23 rfl rfl)
          have f59 := (show 0 ≤ I50 23 6 ∧ I50 23 6 ≤ 1001 from gc_in hI50 R_23 rfl rfl)
          have f60 := (show 0 ≤ I50 23 7 ∧ I50 23 7 ≤ 125 from gc_in hI50 R_23 rfl rfl)
          have t61 := gc_TK_mo KTK_I50
          refine gv_callV hD rfl (As := [.inl 0]) (st := []) rfl B_39 S_39 rfl (gc_lV6 hws rfl) (Nat.le_of_ble_eq_true rfl) (gz_Ev_mono (d := 4) (by decide) E49) ?_
          show gv_X _ _ (169, [(5, .inl 1), (0, .inr (.inr (some 39))), (1, .inr (.inl v1_13)), (3, .inl v3_13), (4, .inl v4_13)], [.inl z49], sh, gc_h sh I50 J51 A)
          refine gv_if_ne (t := 174) hD rfl rfl ⟨by exact gz_m 62 (by omega), by exact gz_m 63 (by omega)⟩ (fun c62 => ?_) (fun c62 => ?_)
          · show gv_X _ _ (174, [(5, .inl 1), (0, .inr (.inr (some 39))), (1, .inr (.inl v1_13)), (3, .inl v3_13), (4, .inl v4_13)], [], sh, gc_h sh I50 J51 A)
            have V63 := q49.2.2.2.2.2
            rw [show I11 39 5 = I 39 5 from by exact gz_m 64 (by omega)] at V63
            rw [show (if (0 : Int) = 0 then (1 : Int) else 0) = 1 from if_pos rfl] at V63
            obtain ⟨u63, A63⟩ := gs_or1 V63 (by exact gz_m 65 (by omega))
            have t64 := gc_AT_l A63
            refine gv_run 1 true hD (pc' := 176) (lv' := [(5, .inl 1), (0, .inr (.inr (some 39))), (1, .inr (.inl v1_13)), (3, .inl v3_13), (4, .inl v4_13)]) (st' := [.inl 1]) (h' := gc_h sh I50 J51 A) (C := (True ∧ True)) rfl ⟨trivial, trivial⟩ ?_
            refine gv_if_eq (t := 247) hD rfl rfl ⟨by exact gz_m 66 (by omega), by exact gz_m 67 (by omega)⟩ (fun c65 => ?_) (fun c65 => ?_)
            · exfalso; exact gz_m 68 (by omega)
            · show gv_X _ _ (179, [(5, .inl 1), (0, .inr (.inr (some 39))), (1, .inr (.inl v1_13)), (3, .inl v3_13), (4, .inl v4_13)], [], sh, gc_h sh I50 J51 A)
              refine gv_run 1 true hD (pc' := 180) (lv' := [(5, .inl 1), (0, .inr (.inr (some 39))), (1, .inr (.inl v1_13)), (3, .inl v3_13), (4, .inl v4_13)]) (st' := [.inr (.inr (some 39))]) (h' := gc_h sh I50 J51 A) (C := (True ∧ True)) rfl ⟨trivial, trivial⟩ ?_
              refine gv_get hD rfl rfl S_39 ⟨by decide, B_39⟩ (gc_hA S_39 rfl A_39_0) ?_
              show gv_X _ _ (183, [(5, .inl 1), (0, .inr (.inr (some 39))), (1, .inr (.inl v1_13)), (3, .inl v3_13), (4, .inl v4_13)], [.inr (.inr (some 1))], sh, gc_h sh I50 J51 A)
              refine gv_get hD rfl rfl S_1 ⟨by decide, B_1⟩ (gc_hA S_1 rfl A_1_14) ?_
              show gv_X _ _ (186, [(5, .inl 1), (0, .inr (.inr (some 39))), (1, .inr (.inl v1_13)), (3, .inl v3_13), (4, .inl v4_13)], [.inr (.inr (some 18))], sh, gc_h sh I50 J51 A)
              refine gv_run 1 true hD (pc' := 187) (lv' := [(5, .inl 1), (0, .inr (.inr (some 39))), (1, .inr (.inl v1_13)), (3, .inl v3_13), (4, .inl v4_13)]) (st' := [.inr (.inr (some 39)), .inr (.inr (some 18))]) (h' := gc_h sh I50 J51 A) (C := (True ∧ True)) rfl ⟨trivial, trivial⟩ ?_
              refine gv_get hD rfl rfl S_39 ⟨by decide, B_39⟩ (gc_hA S_39 rfl A_39_0) ?_
              show gv_X _ _ (190, [(5, .inl 1), (0, .inr (.inr (some 39))), (1, .inr (.inl v1_13)), (3, .inl v3_13), (4, .inl v4_13)], [.inr (.inr (some 1)), .inr (.inr (some 18))], sh, gc_h sh I50 J51 A)
              have f66 := (show 0 ≤ I50 1 13 ∧ I50 1 13 ≤ 64 from gc_in hI50 R_1 rfl rfl)
              refine gv_get hD rfl rfl S_1 ⟨by decide, B_1⟩ (gc_hI S_1 rfl) ?_
              show gv_X _ _ (193, [(5, .inl 1), (0, .inr (.inr (some 39))), (1, .inr (.inl v1_13)), (3, .inl v3_13), (4, .inl v4_13)], [.inl (I50 1 13), .inr (.inr (some 18))], sh, gc_h sh I50 J51 A)
              refine gv_run 1 true hD (pc' := 194) (lv' := [(5, .inl 1), (0, .inr (.inr (some 39))), (1, .inr (.inl v1_13)), (3, .inl v3_13), (4, .inl v4_13)]) (st' := [.inr (.inl v1_13), .inl (I50 1 13), .inr (.inr (some 18))]) (h' := gc_h sh I50 J51 A) (C := (True ∧ True)) rfl ⟨trivial, trivial⟩ ?_
              refine gv_last hD rfl S_18 ⟨by decide, B_18⟩ ⟨by exact gz_m 69 (by omega), by exact gz_m 70 (by omega)⟩ ?_
              refine gc_stJ S_18 rfl (fun J67 q68 p68 => ?_)
              have FJ67 := gc_frs (W := fun q j => (q = 23 ∧ j = 9) ∨ q = 18) FJ51 (Or.inr rfl) p68
              have A69 := gc_AT_J A63 (p68 23 9 (fun h => absurd h.1 (by decide)))
              show gv_X _ _ (195, [(5, .inl 1), (0, .inr (.inr (some 39))), (1, .inr (.inl v1_13)), (3, .inl v3_13), (4, .inl v4_13)], [], sh, gc_h sh I50 J67 A)
              refine gv_run 1 true hD (pc' := 196) (lv' := [(5, .inl 1), (0, .inr (.inr (some 39))), (1, .inr (.inl v1_13)), (3, .inl v3_13), (4, .inl v4_13)]) (st' := [.inr (.inr (some 39))]) (h' := gc_h sh I50 J67 A) (C := (True ∧ True)) rfl ⟨trivial, trivial⟩ ?_
              refine gv_get hD rfl rfl S_39 ⟨by decide, B_39⟩ (gc_hA S_39 rfl A_39_0) ?_
              show gv_X _ _ (199, [(5, .inl 1), (0, .inr (.inr (some 39))), (1, .inr (.inl v1_13)), (3, .inl v3_13), (4, .inl v4_13)], [.inr (.inr (some 1))], sh, gc_h sh I50 J67 A)
              refine gv_get hD rfl rfl S_1 ⟨by decide, B_1⟩ (gc_hA S_1 rfl A_1_15) ?_
              show gv_X _ _ (202, [(5, .inl 1), (0, .inr (.inr (some 39))), (1, .inr (.inl v1_13)), (3, .inl v3_13), (4, .inl v4_13)], [.inr (.inr (some 19))], sh, gc_h sh I50 J67 A)
              refine gv_run 2 true hD (pc' := 204) (lv' := [(5, .inl 1), (0, .inr (.inr (some 39))), (1, .inr (.inl v1_13)), (3, .inl v3_13), (4, .inl v4_13)]) (st' := [.inr (.inr (some 39)), .inl 2, .inr (.inr (some 19))]) (h' := gc_h sh I50 J67 A) (C := ((True ∧ True) ∧ True)) rfl ⟨⟨trivial, trivial⟩, trivial⟩ ?_
              refine gv_get hD rfl rfl S_39 ⟨by decide, B_39⟩ (gc_hA S_39 rfl A_39_0) ?_
              show gv_X _ _ (207, [(5, .inl 1), (0, .inr (.inr (some 39))), (1, .inr (.inl v1_13)), (3, .inl v3_13), (4, .inl v4_13)], [.inr (.inr (some 1)), .inl 2, .inr (.inr (some 19))], sh, gc_h sh I50 J67 A)
              have f70 := (show 0 ≤ I50 1 13 ∧ I50 1 13 ≤ 64 from gc_in hI50 R_1 rfl rfl)
              refine gv_get hD rfl rfl S_1 ⟨by decide, B_1⟩ (gc_hI S_1 rfl) ?_
              show gv_X _ _ (210, [(5, .inl 1), (0, .inr (.inr (some 39))), (1, .inr (.inl v1_13)), (3, .inl v3_13), (4, .inl v4_13)], [.inl (I50 1 13), .inl 2, .inr (.inr (some 19))], sh, gc_h sh I50 J67 A)
              refine gv_run 2 true hD (pc' := 212) (lv' := [(5, .inl 1), (0, .inr (.inr (some 39))), (1, .inr (.inl v1_13)), (3, .inl v3_13), (4, .inl v4_13)]) (st' := [.inl v3_13, .inl (2 * (I50 1 13)), .inr (.inr (some 19))]) (h' := gc_h sh I50 J67 A) (C := ((True ∧ True) ∧ True)) rfl ⟨⟨trivial, trivial⟩, trivial⟩ ?_
              refine gv_iast hD rfl S_19 ⟨by decide, B_19⟩ ⟨by exact gz_m 71 (by omega), by exact gz_m 72 (by omega)⟩ ?_
              refine gc_st hI50 S_19 rfl R_19 (lo := (-1)) (hi := 7) rfl rfl (by exact gz_m 73 (by omega)) (by exact gz_m 74 (by omega)) (fun I71 hI71 q72 p72 => ?_)
              have FI71 := gc_frs (W := fun q j => (q = 39 ∧ j = 3) ∨ (q = 39 ∧ j = 4) ∨ (q = 23 ∧ j = 5) ∨ (q = 23 ∧ j = 6) ∨ (q = 23 ∧ j = 7) ∨ (q = 23 ∧ j = 8) ∨ q = 19 ∨ (q = 1 ∧ j = 13)) FI50 (Or.inr (Or.inr (Or.inr (Or.inr (Or.inr (Or.inr (Or.inl rfl))))))) p72
              have t73 := p72 23 1 (fun h => absurd h.1 (by decide))
              have t74 := p72 23 5 (fun h => absurd h.1 (by decide))
              have t75 := p72 23 6 (fun h => absurd h.1 (by decide))
              have t76 := p72 23 7 (fun h => absurd h.1 (by decide))
              have t77 := p72 1 13 (fun h => absurd h.1 (by decide))
              have t78 := p72 6 1 (fun h => absurd h.1 (by decide))
              have t79 := p72 39 5 (fun h => absurd h.1 (by decide))
              have t80 := p72 1 18 (fun h => absurd h.1 (by decide))
              have t81 := p72 1 13 (fun h => absurd h.1 (by decide))
              have KLT_I71 := gc_LT_fr KLT_I50 (p72 23 5 (fun h => absurd h.1 (by decide))) (p72 23 6 (fun h => absurd h.1 (by decide))) (p72 23 7 (fun h => absurd h.1 (by decide))) (fun k => p72 24 k (fun h => absurd h.1 (by decide)))
              have KTK_I71 := gc_TK_fr KTK_I50 (p72 23 1 (fun h => absurd h.1 (by decide))) (p72 23 5 (fun h => absurd h.1 (by decide))) (p72 23 6 (fun h => absurd h.1 (by decide))) (p72 23 7 (fun h => absurd h.1 (by decide)))
              have A82 := gc_AT_I A69 (p72 23 1 (fun h => absurd h.1 (by decide))) (p72 23 5 (fun h => absurd h.1 (by decide))) (p72 23 6 (fun h => absurd h.1 (by decide))) (p72 23 7 (fun h => absurd h.1 (by decide))) (p72 23 8 (fun h => absurd h.1 (by decide))) (fun k => p72 24 k (fun h => absurd h.1 (by decide)))
              show gv_X _ _ (213, [(5, .inl 1), (0, .inr (.inr (some 39))), (1, .inr (.inl v1_13)), (3, .inl v3_13), (4, .inl v4_13)], [], sh, gc_h sh I71 J67 A)
              refine gv_run 1 true hD (pc' := 214) (lv' := [(5, .inl 1), (0, .inr (.inr (some 39))), (1, .inr (.inl v1_13)), (3, .inl v3_13), (4, .inl v4_13)]) (st' := [.inr (.inr (some 39))]) (h' := gc_h sh I71 J67 A) (C := (True ∧ True)) rfl ⟨trivial, trivial⟩ ?_
              refine gv_get hD rfl rfl S_39 ⟨by decide, B_39⟩ (gc_hA S_39 rfl A_39_0) ?_
              show gv_X _ _ (217, [(5, .inl 1), (0, .inr (.inr (some 39))), (1, .inr (.inl v1_13)), (3, .inl v3_13), (4, .inl v4_13)], [.inr (.inr (some 1))], sh, gc_h sh I71 J67 A)
              refine gv_get hD rfl rfl S_1 ⟨by decide, B_1⟩ (gc_hA S_1 rfl A_1_15) ?_
              show gv_X _ _ (220, [(5, .inl 1), (0, .inr (.inr (some 39))), (1, .inr (.inl v1_13)), (3, .inl v3_13), (4, .inl v4_13)], [.inr (.inr (some 19))], sh, gc_h sh I71 J67 A)
              refine gv_run 2 true hD (pc' := 222) (lv' := [(5, .inl 1), (0, .inr (.inr (some 39))), (1, .inr (.inl v1_13)), (3, .inl v3_13), (4, .inl v4_13)]) (st' := [.inr (.inr (some 39)), .inl 2, .inr (.inr (some 19))]) (h' := gc_h sh I71 J67 A) (C := ((True ∧ True) ∧ True)) rfl ⟨⟨trivial, trivial⟩, trivial⟩ ?_
              refine gv_get hD rfl rfl S_39 ⟨by decide, B_39⟩ (gc_hA S_39 rfl A_39_0) ?_
              show gv_X _ _ (225, [(5, .inl 1), (0, .inr (.inr (some 39))), (1, .inr (.inl v1_13)), (3, .inl v3_13), (4, .inl v4_13)], [.inr (.inr (some 1)), .inl 2, .inr (.inr (some 19))], sh, gc_h sh I71 J67 A)
              have f83 := (show 0 ≤ I71 1 13 ∧ I71 1 13 ≤ 64 from gc_in hI71 R_1 rfl rfl)
              refine gv_get hD rfl rfl S_1 ⟨by decide, B_1⟩ (gc_hI S_1 rfl) ?_
              show gv_X _ _ (228, [(5, .inl 1), (0, .inr (.inr (some 39))), (1, .inr (.inl v1_13)), (3, .inl v3_13), (4, .inl v4_13)], [.inl (I71 1 13), .inl 2, .inr (.inr (some 19))], sh, gc_h sh I71 J67 A)
              refine gv_run 4 true hD (pc' := 233) (lv' := [(5, .inl 1), (0, .inr (.inr (some 39))), (1, .inr (.inl v1_13)), (3, .inl v3_13), (4, .inl v4_13)]) (st' := [.inl v4_13, .inl ((2 * (I71 1 13)) + 1), .inr (.inr (some 19))]) (h' := gc_h sh I71 J67 A) (C := ((((True ∧ True) ∧ True) ∧ True) ∧ True)) rfl ⟨⟨⟨⟨trivial, trivial⟩, trivial⟩, trivial⟩, trivial⟩ ?_
              refine gv_iast hD rfl S_19 ⟨by decide, B_19⟩ ⟨by exact gz_m 75 (by omega), by exact gz_m 76 (by omega)⟩ ?_
              refine gc_st hI71 S_19 rfl R_19 (lo := (-1)) (hi := 7) rfl rfl (by exact gz_m 77 (by omega)) (by exact gz_m 78 (by omega)) (fun I84 hI84 q85 p85 => ?_)
              have FI84 := gc_frs (W := fun q j => (q = 39 ∧ j = 3) ∨ (q = 39 ∧ j = 4) ∨ (q = 23 ∧ j = 5) ∨ (q = 23 ∧ j = 6) ∨ (q = 23 ∧ j = 7) ∨ (q = 23 ∧ j = 8) ∨ q = 19 ∨ (q = 1 ∧ j = 13)) FI71 (Or.inr (Or.inr (Or.inr (Or.inr (Or.inr (Or.inr (Or.inl rfl))))))) p85
              have t86 := p85 23 1 (fun h => absurd h.1 (by decide))
              have t87 := p85 23 5 (fun h => absurd h.1 (by decide))
              have t88 := p85 23 6 (fun h => absurd h.1 (by decide))
              have t89 := p85 23 7 (fun h => absurd h.1 (by decide))
              have t90 := p85 1 13 (fun h => absurd h.1 (by decide))
              have t91 := p85 6 1 (fun h => absurd h.1 (by decide))
              have t92 := p85 39 5 (fun h => absurd h.1 (by decide))
              have t93 := p85 1 18 (fun h => absurd h.1 (by decide))
              have t94 := p85 1 13 (fun h => absurd h.1 (by decide))
              have KLT_I84 := gc_LT_fr KLT_I71 (p85 23 5 (fun h => absurd h.1 (by decide))) (p85 23 6 (fun h => absurd h.1 (by decide))) (p85 23 7 (fun h => absurd h.1 (by decide))) (fun k => p85 24 k (fun h => absurd h.1 (by decide)))
              have KTK_I84 := gc_TK_fr KTK_I71 (p85 23 1 (fun h => absurd h.1 (by decide))) (p85 23 5 (fun h => absurd h.1 (by decide))) (p85 23 6 (fun h => absurd h.1 (by decide))) (p85 23 7 (fun h => absurd h.1 (by decide)))
              have A95 := gc_AT_I A82 (p85 23 1 (fun h => absurd h.1 (by decide))) (p85 23 5 (fun h => absurd h.1 (by decide))) (p85 23 6 (fun h => absurd h.1 (by decide))) (p85 23 7 (fun h => absurd h.1 (by decide))) (p85 23 8 (fun h => absurd h.1 (by decide))) (fun k => p85 24 k (fun h => absurd h.1 (by decide)))
              show gv_X _ _ (234, [(5, .inl 1), (0, .inr (.inr (some 39))), (1, .inr (.inl v1_13)), (3, .inl v3_13), (4, .inl v4_13)], [], sh, gc_h sh I84 J67 A)
              refine gv_run 1 true hD (pc' := 235) (lv' := [(5, .inl 1), (0, .inr (.inr (some 39))), (1, .inr (.inl v1_13)), (3, .inl v3_13), (4, .inl v4_13)]) (st' := [.inr (.inr (some 39))]) (h' := gc_h sh I84 J67 A) (C := (True ∧ True)) rfl ⟨trivial, trivial⟩ ?_
              refine gv_get hD rfl rfl S_39 ⟨by decide, B_39⟩ (gc_hA S_39 rfl A_39_0) ?_
              show gv_X _ _ (238, [(5, .inl 1), (0, .inr (.inr (some 39))), (1, .inr (.inl v1_13)), (3, .inl v3_13), (4, .inl v4_13)], [.inr (.inr (some 1))], sh, gc_h sh I84 J67 A)
              refine gv_run 1 true hD (pc' := 239) (lv' := [(5, .inl 1), (0, .inr (.inr (some 39))), (1, .inr (.inl v1_13)), (3, .inl v3_13), (4, .inl v4_13)]) (st' := [.inr (.inr (some 1)), .inr (.inr (some 1))]) (h' := gc_h sh I84 J67 A) (C := (True ∧ True)) rfl ⟨trivial, trivial⟩ ?_
              have f96 := (show 0 ≤ I84 1 13 ∧ I84 1 13 ≤ 64 from gc_in hI84 R_1 rfl rfl)
              refine gv_get hD rfl rfl S_1 ⟨by decide, B_1⟩ (gc_hI S_1 rfl) ?_
              show gv_X _ _ (242, [(5, .inl 1), (0, .inr (.inr (some 39))), (1, .inr (.inl v1_13)), (3, .inl v3_13), (4, .inl v4_13)], [.inl (I84 1 13), .inr (.inr (some 1))], sh, gc_h sh I84 J67 A)
              refine gv_run 2 true hD (pc' := 244) (lv' := [(5, .inl 1), (0, .inr (.inr (some 39))), (1, .inr (.inl v1_13)), (3, .inl v3_13), (4, .inl v4_13)]) (st' := [.inl ((I84 1 13) + 1), .inr (.inr (some 1))]) (h' := gc_h sh I84 J67 A) (C := ((True ∧ True) ∧ True)) rfl ⟨⟨trivial, trivial⟩, trivial⟩ ?_
              refine gv_put hD rfl rfl S_1 ⟨by decide, B_1⟩ rfl trivial ?_
              refine gc_st (k := 13) hI84 S_1 rfl R_1 (lo := 0) (hi := 64) rfl rfl (by exact gz_m 79 (by omega)) (by exact gz_m 80 (by omega)) (fun I97 hI97 q98 p98 => ?_)
              have FI97 := gc_frs (W := fun q j => (q = 39 ∧ j = 3) ∨ (q = 39 ∧ j = 4) ∨ (q = 23 ∧ j = 5) ∨ (q = 23 ∧ j = 6) ∨ (q = 23 ∧ j = 7) ∨ (q = 23 ∧ j = 8) ∨ q = 19 ∨ (q = 1 ∧ j = 13)) FI84 (Or.inr (Or.inr (Or.inr (Or.inr (Or.inr (Or.inr (Or.inr ⟨rfl, rfl⟩))))))) p98
              have t99 := p98 23 1 (fun h => absurd h.2 (by decide))
              have t100 := p98 23 5 (fun h => absurd h.2 (by decide))
              have t101 := p98 23 6 (fun h => absurd h.2 (by decide))
              have t102 := p98 23 7 (fun h => absurd h.2 (by decide))
              have t103 := p98 6 1 (fun h => absurd h.2 (by decide))
              have t104 := p98 39 5 (fun h => absurd h.2 (by decide))
              have t105 := p98 1 18 (fun h => absurd h.2 (by decide))
              have f106 := (show 0 ≤ I97 1 13 ∧ I97 1 13 ≤ 64 from gc_in hI97 R_1 rfl rfl)
              have f107 := (show 0 ≤ I97 1 13 ∧ I97 1 13 ≤ 64 from gc_in hI97 R_1 rfl rfl)
              have KLT_I97 := gc_LT_fr KLT_I84 (p98 23 5 (fun h => absurd h.2 (by decide))) (p98 23 6 (fun h => absurd h.2 (by decide))) (p98 23 7 (fun h => absurd h.2 (by decide))) (fun k => p98 24 k (fun h => absurd h.1 (by decide)))
              have KTK_I97 := gc_TK_fr KTK_I84 (p98 23 1 (fun h => absurd h.2 (by decide))) (p98 23 5 (fun h => absurd h.2 (by decide))) (p98 23 6 (fun h => absurd h.2 (by decide))) (p98 23 7 (fun h => absurd h.2 (by decide)))
              have A108 := gc_AT_I A95 (p98 23 1 (fun h => absurd h.2 (by decide))) (p98 23 5 (fun h => absurd h.2 (by decide))) (p98 23 6 (fun h => absurd h.2 (by decide))) (p98 23 7 (fun h => absurd h.2 (by decide))) (p98 23 8 (fun h => absurd h.2 (by decide))) (fun k => p98 24 k (fun h => absurd h.1 (by decide)))
              show gv_X _ _ (247, [(5, .inl 1), (0, .inr (.inr (some 39))), (1, .inr (.inl v1_13)), (3, .inl v3_13), (4, .inl v4_13)], [], sh, gc_h sh I97 J67 A)
              refine gv_run 1 true hD (pc' := 248) (lv' := [(5, .inl 1), (0, .inr (.inr (some 39))), (1, .inr (.inl v1_13)), (3, .inl v3_13), (4, .inl v4_13)]) (st' := [.inl 1]) (h' := gc_h sh I97 J67 A) (C := (True ∧ True)) rfl ⟨trivial, trivial⟩ ?_
              exact gv_zret hD rfl (by exact gz_m 81 (by omega)) ⟨I97, J67, rfl, hI97, FI97, FJ67, KLT_I97, KTK_I97, ⟨_, rfl, by exact gz_m 82 (by omega), by exact gz_m 83 (by omega), by exact gz_m 84 (by omega), by exact gz_m 85 (by omega), (Or.inl ⟨by exact gz_m 86 (by omega), by have e9 : (gs_fact β η Ir Jr (I 39 5) p9) = (gs_done β η 1 (I 39 5) p_13) := (by first | (exfalso; exact gz_m 87 (by omega)) | (rw [e3_13]; unfold gs_fact3; (repeat first | rw [if_pos (by exact gz_m 88 (by omega))] | rw [if_neg (by exact gz_m 89 (by omega))]))); rw [e9]; exact ⟨by exact gz_m 90 (by omega), A108, (by rw [← e4_13, ← e5_13]; exact ⟨fun h9 => absurd h9 (by exact gz_m 91 (by omega)), fun _ => (by have v9 : I50 1 13 = I 1 13 := (((g49 1 13).resolve_left (by exact gz_m 92 (by omega))).trans (e7_13.2.2.1)); exact gs_Cfact_mk (((g49 1 13).resolve_left (by exact gz_m 93 (by omega))).trans (e7_13.2.2.1)) (fun j => (((k49 18 j).resolve_left (by exact gz_m 94 (by omega))).trans (e7_13.2.1 j))) (fun j => (((g49 19 j).resolve_left (by exact gz_m 95 (by omega))).trans (e7_13.1 j))) (by exact gz_m 96 (by omega)) p68 (q68.trans e2_13) (by exact gz_m 97 (by omega)) p72 q72 (by exact gz_m 98 (by omega)) p85 q85 p98 (by exact gz_m 99 (by omega)))⟩)⟩⟩)⟩⟩
          · show gv_X _ _ (172, [(5, .inl 1), (0, .inr (.inr (some 39))), (1, .inr (.inl v1_13)), (3, .inl v3_13), (4, .inl v4_13)], [], sh, gc_h sh I50 J51 A)
            have V109 := q49.2.2.2.2.2
            rw [show I11 39 5 = I 39 5 from by exact gz_m 100 (by omega)] at V109
            rw [show (if (0 : Int) = 0 then (1 : Int) else 0) = 1 from if_pos rfl] at V109
            obtain ⟨u109, u109_⟩ := gs_or0 V109 (by exact gz_m 101 (by omega))
            refine gv_run 1 true hD (pc' := 173) (lv' := [(5, .inl 1), (0, .inr (.inr (some 39))), (1, .inr (.inl v1_13)), (3, .inl v3_13), (4, .inl v4_13)]) (st' := [.inl 0]) (h' := gc_h sh I50 J51 A) (C := (True ∧ True)) rfl ⟨trivial, trivial⟩ ?_
            exact gv_zret hD rfl (by exact gz_m 102 (by omega)) ⟨I50, J51, rfl, hI50, FI50, FJ51, KLT_I50, KTK_I50, ⟨_, rfl, by exact gz_m 103 (by omega), by exact gz_m 104 (by omega), by exact gz_m 105 (by omega), by exact gz_m 106 (by omega), (Or.inr ⟨by exact gz_m 107 (by omega), by rw [e3_13]; unfold gs_fact3; (repeat first | rw [if_pos (by exact gz_m 108 (by omega))] | rw [if_neg (by exact gz_m 109 (by omega))]); exact ⟨by exact gz_m 110 (by omega), by exact gz_m 111 (by omega), (((g49 1 13).resolve_left (by exact gz_m 112 (by omega))).trans (e7_13.2.2.1)), (fun j => (((k49 18 j).resolve_left (by exact gz_m 113 (by omega))).trans (e7_13.2.1 j))), fun j => (((g49 19 j).resolve_left (by exact gz_m 114 (by omega))).trans (e7_13.1 j))⟩⟩)⟩⟩
        · show gv_X _ _ (161, [(5, .inl 1), (0, .inr (.inr (some 39))), (1, .inr (.inl v1_13)), (3, .inl v3_13), (4, .inl v4_13)], [.inr (.inr (some 39))], sh, gc_h sh I11 J12 A)
          refine gv_run 2 true hD (pc' := 166) (lv' := [(5, .inl 1), (0, .inr (.inr (some 39))), (1, .inr (.inl v1_13)), (3, .inl v3_13), (4, .inl v4_13)]) (st' := [.inl 1, .inr (.inr (some 39))]) (h' := gc_h sh I11 J12 A) (C := ((True ∧ True) ∧ True)) rfl ⟨⟨trivial, trivial⟩, trivial⟩ ?_
          obtain ⟨r110, h110, E110, P110⟩ := d_X6_closes_p (ws0 := ws0) (tb := tb) hws htb sh ro I11 J12 A hI11  β η p_13 1 hb   ⟨by exact gz_m 115 (by omega), by exact gz_m 116 (by omega)⟩ e1_13 (by exact gz_m 117 (by omega)) (by exact gz_m 118 (by omega)) KLT_I11 KTK_I11
          obtain ⟨I111, J112, rfl, hI111, g110, k110, KLT_I111, KTK_I111, ⟨z110, rfl, q110⟩⟩ := P110
          have FI111 := gc_frc (W := fun q j => (q = 39 ∧ j = 3) ∨ (q = 39 ∧ j = 4) ∨ (q = 23 ∧ j = 5) ∨ (q = 23 ∧ j = 6) ∨ (q = 23 ∧ j = 7) ∨ (q = 23 ∧ j = 8) ∨ q = 19 ∨ (q = 1 ∧ j = 13)) (V := fun q j => (q = 39 ∧ j = 3) ∨ (q = 39 ∧ j = 4) ∨ (q = 23 ∧ j = 5) ∨ (q = 23 ∧ j = 6) ∨ (q = 23 ∧ j = 7) ∨ (q = 23 ∧ j = 8)) FI11 (fun q j h => (h.elim (fun h => (Or.inl h)) (fun h => (h.elim (fun h => (Or.inr (Or.inl h))) (fun h => (h.elim (fun h => (Or.inr (Or.inr (Or.inl h)))) (fun h => (h.elim (fun h => (Or.inr (Or.inr (Or.inr (Or.inl h))))) (fun h => (h.elim (fun h => (Or.inr (Or.inr (Or.inr (Or.inr (Or.inl h)))))) (fun h => (Or.inr (Or.inr (Or.inr (Or.inr (Or.inr (Or.inl h))))))))))))))))) g110
          have FJ112 := gc_frc (W := fun q j => (q = 23 ∧ j = 9) ∨ q = 18) (V := fun q j => (q = 23 ∧ j = 9)) FJ12 (fun q j h => (Or.inl h)) k110
          have t113 := (g110 23 1).resolve_left (fun h => h.elim (fun h => absurd h.2 (by decide)) (fun h => h.elim (fun h => absurd h.2 (by decide)) (fun h => h.elim (fun h => absurd h.2 (by decide)) (fun h => h.elim (fun h => absurd h.2 (by decide)) (fun h => h.elim (fun h => absurd h.2 (by decide)) (fun h => absurd h.2 (by decide)))))))
          have t114 := (g110 1 13).resolve_left (fun h => h.elim (fun h => absurd h.2 (by decide)) (fun h => h.elim (fun h => absurd h.2 (by decide)) (fun h => h.elim (fun h => absurd h.2 (by decide)) (fun h => h.elim (fun h => absurd h.2 (by decide)) (fun h => h.elim (fun h => absurd h.2 (by decide)) (fun h => absurd h.2 (by decide)))))))
          have t115 := (g110 6 1).resolve_left (fun h => h.elim (fun h => absurd h.2 (by decide)) (fun h => h.elim (fun h => absurd h.2 (by decide)) (fun h => h.elim (fun h => absurd h.2 (by decide)) (fun h => h.elim (fun h => absurd h.2 (by decide)) (fun h => h.elim (fun h => absurd h.2 (by decide)) (fun h => absurd h.2 (by decide)))))))
          have t116 := (g110 39 5).resolve_left (fun h => h.elim (fun h => absurd h.2 (by decide)) (fun h => h.elim (fun h => absurd h.2 (by decide)) (fun h => h.elim (fun h => absurd h.1 (by decide)) (fun h => h.elim (fun h => absurd h.2 (by decide)) (fun h => h.elim (fun h => absurd h.2 (by decide)) (fun h => absurd h.2 (by decide)))))))
          have t117 := (g110 1 18).resolve_left (fun h => h.elim (fun h => absurd h.2 (by decide)) (fun h => h.elim (fun h => absurd h.2 (by decide)) (fun h => h.elim (fun h => absurd h.2 (by decide)) (fun h => h.elim (fun h => absurd h.2 (by decide)) (fun h => h.elim (fun h => absurd h.2 (by decide)) (fun h => absurd h.2 (by decide)))))))
          have t118 := (g110 1 13).resolve_left (fun h => h.elim (fun h => absurd h.2 (by decide)) (fun h => h.elim (fun h => absurd h.2 (by decide)) (fun h => h.elim (fun h => absurd h.2 (by decide)) (fun h => h.elim (fun h => absurd h.2 (by decide)) (fun h => h.elim (fun h => absurd h.2 (by decide)) (fun h => absurd h.2 (by decide)))))))
          have f119 := (show 0 ≤ I111 23 5 ∧ I111 23 5 ≤ 1000 from gc_in hI111 R_23 rfl rfl)
          have f120 := (show 0 ≤ I111 23 6 ∧ I111 23 6 ≤ 1001 from gc_in hI111 R_23 rfl rfl)
          have f121 := (show 0 ≤ I111 23 7 ∧ I111 23 7 ≤ 125 from gc_in hI111 R_23 rfl rfl)
          have t122 := gc_TK_mo KTK_I111
          refine gv_callV hD rfl (As := [.inl 1]) (st := []) rfl B_39 S_39 rfl (gc_lV6 hws rfl) (Nat.le_of_ble_eq_true rfl) (gz_Ev_mono (d := 4) (by decide) E110) ?_
          show gv_X _ _ (169, [(5, .inl 1), (0, .inr (.inr (some 39))), (1, .inr (.inl v1_13)), (3, .inl v3_13), (4, .inl v4_13)], [.inl z110], sh, gc_h sh I111 J112 A)
          refine gv_if_ne (t := 174) hD rfl rfl ⟨by exact gz_m 119 (by omega), by exact gz_m 120 (by omega)⟩ (fun c123 => ?_) (fun c123 => ?_)
          · show gv_X _ _ (174, [(5, .inl 1), (0, .inr (.inr (some 39))), (1, .inr (.inl v1_13)), (3, .inl v3_13), (4, .inl v4_13)], [], sh, gc_h sh I111 J112 A)
            have V124 := q110.2.2.2.2.2
            rw [show I11 39 5 = I 39 5 from by exact gz_m 121 (by omega)] at V124
            rw [show (if (1 : Int) = 0 then (1 : Int) else 0) = 0 from if_neg (by decide)] at V124
            obtain ⟨u124, A124⟩ := gs_or1 V124 (by exact gz_m 122 (by omega))
            have t125 := gc_AT_l A124
            refine gv_run 1 true hD (pc' := 176) (lv' := [(5, .inl 1), (0, .inr (.inr (some 39))), (1, .inr (.inl v1_13)), (3, .inl v3_13), (4, .inl v4_13)]) (st' := [.inl 1]) (h' := gc_h sh I111 J112 A) (C := (True ∧ True)) rfl ⟨trivial, trivial⟩ ?_
            refine gv_if_eq (t := 247) hD rfl rfl ⟨by exact gz_m 123 (by omega), by exact gz_m 124 (by omega)⟩ (fun c126 => ?_) (fun c126 => ?_)
            · exfalso; exact gz_m 125 (by omega)
            · show gv_X _ _ (179, [(5, .inl 1), (0, .inr (.inr (some 39))), (1, .inr (.inl v1_13)), (3, .inl v3_13), (4, .inl v4_13)], [], sh, gc_h sh I111 J112 A)
              refine gv_run 1 true hD (pc' := 180) (lv' := [(5, .inl 1), (0, .inr (.inr (some 39))), (1, .inr (.inl v1_13)), (3, .inl v3_13), (4, .inl v4_13)]) (st' := [.inr (.inr (some 39))]) (h' := gc_h sh I111 J112 A) (C := (True ∧ True)) rfl ⟨trivial, trivial⟩ ?_
              refine gv_get hD rfl rfl S_39 ⟨by decide, B_39⟩ (gc_hA S_39 rfl A_39_0) ?_
              show gv_X _ _ (183, [(5, .inl 1), (0, .inr (.inr (some 39))), (1, .inr (.inl v1_13)), (3, .inl v3_13), (4, .inl v4_13)], [.inr (.inr (some 1))], sh, gc_h sh I111 J112 A)
              refine gv_get hD rfl rfl S_1 ⟨by decide, B_1⟩ (gc_hA S_1 rfl A_1_14) ?_
              show gv_X _ _ (186, [(5, .inl 1), (0, .inr (.inr (some 39))), (1, .inr (.inl v1_13)), (3, .inl v3_13), (4, .inl v4_13)], [.inr (.inr (some 18))], sh, gc_h sh I111 J112 A)
              refine gv_run 1 true hD (pc' := 187) (lv' := [(5, .inl 1), (0, .inr (.inr (some 39))), (1, .inr (.inl v1_13)), (3, .inl v3_13), (4, .inl v4_13)]) (st' := [.inr (.inr (some 39)), .inr (.inr (some 18))]) (h' := gc_h sh I111 J112 A) (C := (True ∧ True)) rfl ⟨trivial, trivial⟩ ?_
              refine gv_get hD rfl rfl S_39 ⟨by decide, B_39⟩ (gc_hA S_39 rfl A_39_0) ?_
              show gv_X _ _ (190, [(5, .inl 1), (0, .inr (.inr (some 39))), (1, .inr (.inl v1_13)), (3, .inl v3_13), (4, .inl v4_13)], [.inr (.inr (some 1)), .inr (.inr (some 18))], sh, gc_h sh I111 J112 A)
              have f127 := (show 0 ≤ I111 1 13 ∧ I111 1 13 ≤ 64 from gc_in hI111 R_1 rfl rfl)
              refine gv_get hD rfl rfl S_1 ⟨by decide, B_1⟩ (gc_hI S_1 rfl) ?_
              show gv_X _ _ (193, [(5, .inl 1), (0, .inr (.inr (some 39))), (1, .inr (.inl v1_13)), (3, .inl v3_13), (4, .inl v4_13)], [.inl (I111 1 13), .inr (.inr (some 18))], sh, gc_h sh I111 J112 A)
              refine gv_run 1 true hD (pc' := 194) (lv' := [(5, .inl 1), (0, .inr (.inr (some 39))), (1, .inr (.inl v1_13)), (3, .inl v3_13), (4, .inl v4_13)]) (st' := [.inr (.inl v1_13), .inl (I111 1 13), .inr (.inr (some 18))]) (h' := gc_h sh I111 J112 A) (C := (True ∧ True)) rfl ⟨trivial, trivial⟩ ?_
              refine gv_last hD rfl S_18 ⟨by decide, B_18⟩ ⟨by exact gz_m 126 (by omega), by exact gz_m 127 (by omega)⟩ ?_
              refine gc_stJ S_18 rfl (fun J128 q129 p129 => ?_)
              have FJ128 := gc_frs (W := fun q j => (q = 23 ∧ j = 9) ∨ q = 18) FJ112 (Or.inr rfl) p129
              have A130 := gc_AT_J A124 (p129 23 9 (fun h => absurd h.1 (by decide)))
              show gv_X _ _ (195, [(5, .inl 1), (0, .inr (.inr (some 39))), (1, .inr (.inl v1_13)), (3, .inl v3_13), (4, .inl v4_13)], [], sh, gc_h sh I111 J128 A)
              refine gv_run 1 true hD (pc' := 196) (lv' := [(5, .inl 1), (0, .inr (.inr (some 39))), (1, .inr (.inl v1_13)), (3, .inl v3_13), (4, .inl v4_13)]) (st' := [.inr (.inr (some 39))]) (h' := gc_h sh I111 J128 A) (C := (True ∧ True)) rfl ⟨trivial, trivial⟩ ?_
              refine gv_get hD rfl rfl S_39 ⟨by decide, B_39⟩ (gc_hA S_39 rfl A_39_0) ?_
              show gv_X _ _ (199, [(5, .inl 1), (0, .inr (.inr (some 39))), (1, .inr (.inl v1_13)), (3, .inl v3_13), (4, .inl v4_13)], [.inr (.inr (some 1))], sh, gc_h sh I111 J128 A)
              refine gv_get hD rfl rfl S_1 ⟨by decide, B_1⟩ (gc_hA S_1 rfl A_1_15) ?_
              show gv_X _ _ (202, [(5, .inl 1), (0, .inr (.inr (some 39))), (1, .inr (.inl v1_13)), (3, .inl v3_13), (4, .inl v4_13)], [.inr (.inr (some 19))], sh, gc_h sh I111 J128 A)
              refine gv_run 2 true hD (pc' := 204) (lv' := [(5, .inl 1), (0, .inr (.inr (some 39))), (1, .inr (.inl v1_13)), (3, .inl v3_13), (4, .inl v4_13)]) (st' := [.inr (.inr (some 39)), .inl 2, .inr (.inr (some 19))]) (h' := gc_h sh I111 J128 A) (C := ((True ∧ True) ∧ True)) rfl ⟨⟨trivial, trivial⟩, trivial⟩ ?_
              refine gv_get hD rfl rfl S_39 ⟨by decide, B_39⟩ (gc_hA S_39 rfl A_39_0) ?_
              show gv_X _ _ (207, [(5, .inl 1), (0, .inr (.inr (some 39))), (1, .inr (.inl v1_13)), (3, .inl v3_13), (4, .inl v4_13)], [.inr (.inr (some 1)), .inl 2, .inr (.inr (some 19))], sh, gc_h sh I111 J128 A)
              have f131 := (show 0 ≤ I111 1 13 ∧ I111 1 13 ≤ 64 from gc_in hI111 R_1 rfl rfl)
              refine gv_get hD rfl rfl S_1 ⟨by decide, B_1⟩ (gc_hI S_1 rfl) ?_
              show gv_X _ _ (210, [(5, .inl 1), (0, .inr (.inr (some 39))), (1, .inr (.inl v1_13)), (3, .inl v3_13), (4, .inl v4_13)], [.inl (I111 1 13), .inl 2, .inr (.inr (some 19))], sh, gc_h sh I111 J128 A)
              refine gv_run 2 true hD (pc' := 212) (lv' := [(5, .inl 1), (0, .inr (.inr (some 39))), (1, .inr (.inl v1_13)), (3, .inl v3_13), (4, .inl v4_13)]) (st' := [.inl v3_13, .inl (2 * (I111 1 13)), .inr (.inr (some 19))]) (h' := gc_h sh I111 J128 A) (C := ((True ∧ True) ∧ True)) rfl ⟨⟨trivial, trivial⟩, trivial⟩ ?_
              refine gv_iast hD rfl S_19 ⟨by decide, B_19⟩ ⟨by exact gz_m 128 (by omega), by exact gz_m 129 (by omega)⟩ ?_
              refine gc_st hI111 S_19 rfl R_19 (lo := (-1)) (hi := 7) rfl rfl (by exact gz_m 130 (by omega)) (by exact gz_m 131 (by omega)) (fun I132 hI132 q133 p133 => ?_)
              have FI132 := gc_frs (W := fun q j => (q = 39 ∧ j = 3) ∨ (q = 39 ∧ j = 4) ∨ (q = 23 ∧ j = 5) ∨ (q = 23 ∧ j = 6) ∨ (q = 23 ∧ j = 7) ∨ (q = 23 ∧ j = 8) ∨ q = 19 ∨ (q = 1 ∧ j = 13)) FI111 (Or.inr (Or.inr (Or.inr (Or.inr (Or.inr (Or.inr (Or.inl rfl))))))) p133
              have t134 := p133 23 1 (fun h => absurd h.1 (by decide))
              have t135 := p133 23 5 (fun h => absurd h.1 (by decide))
              have t136 := p133 23 6 (fun h => absurd h.1 (by decide))
              have t137 := p133 23 7 (fun h => absurd h.1 (by decide))
              have t138 := p133 1 13 (fun h => absurd h.1 (by decide))
              have t139 := p133 6 1 (fun h => absurd h.1 (by decide))
              have t140 := p133 39 5 (fun h => absurd h.1 (by decide))
              have t141 := p133 1 18 (fun h => absurd h.1 (by decide))
              have t142 := p133 1 13 (fun h => absurd h.1 (by decide))
              have KLT_I132 := gc_LT_fr KLT_I111 (p133 23 5 (fun h => absurd h.1 (by decide))) (p133 23 6 (fun h => absurd h.1 (by decide))) (p133 23 7 (fun h => absurd h.1 (by decide))) (fun k => p133 24 k (fun h => absurd h.1 (by decide)))
              have KTK_I132 := gc_TK_fr KTK_I111 (p133 23 1 (fun h => absurd h.1 (by decide))) (p133 23 5 (fun h => absurd h.1 (by decide))) (p133 23 6 (fun h => absurd h.1 (by decide))) (p133 23 7 (fun h => absurd h.1 (by decide)))
              have A143 := gc_AT_I A130 (p133 23 1 (fun h => absurd h.1 (by decide))) (p133 23 5 (fun h => absurd h.1 (by decide))) (p133 23 6 (fun h => absurd h.1 (by decide))) (p133 23 7 (fun h => absurd h.1 (by decide))) (p133 23 8 (fun h => absurd h.1 (by decide))) (fun k => p133 24 k (fun h => absurd h.1 (by decide)))
              show gv_X _ _ (213, [(5, .inl 1), (0, .inr (.inr (some 39))), (1, .inr (.inl v1_13)), (3, .inl v3_13), (4, .inl v4_13)], [], sh, gc_h sh I132 J128 A)
              refine gv_run 1 true hD (pc' := 214) (lv' := [(5, .inl 1), (0, .inr (.inr (some 39))), (1, .inr (.inl v1_13)), (3, .inl v3_13), (4, .inl v4_13)]) (st' := [.inr (.inr (some 39))]) (h' := gc_h sh I132 J128 A) (C := (True ∧ True)) rfl ⟨trivial, trivial⟩ ?_
              refine gv_get hD rfl rfl S_39 ⟨by decide, B_39⟩ (gc_hA S_39 rfl A_39_0) ?_
              show gv_X _ _ (217, [(5, .inl 1), (0, .inr (.inr (some 39))), (1, .inr (.inl v1_13)), (3, .inl v3_13), (4, .inl v4_13)], [.inr (.inr (some 1))], sh, gc_h sh I132 J128 A)
              refine gv_get hD rfl rfl S_1 ⟨by decide, B_1⟩ (gc_hA S_1 rfl A_1_15) ?_
              show gv_X _ _ (220, [(5, .inl 1), (0, .inr (.inr (some 39))), (1, .inr (.inl v1_13)), (3, .inl v3_13), (4, .inl v4_13)], [.inr (.inr (some 19))], sh, gc_h sh I132 J128 A)
              refine gv_run 2 true hD (pc' := 222) (lv' := [(5, .inl 1), (0, .inr (.inr (some 39))), (1, .inr (.inl v1_13)), (3, .inl v3_13), (4, .inl v4_13)]) (st' := [.inr (.inr (some 39)), .inl 2, .inr (.inr (some 19))]) (h' := gc_h sh I132 J128 A) (C := ((True ∧ True) ∧ True)) rfl ⟨⟨trivial, trivial⟩, trivial⟩ ?_
              refine gv_get hD rfl rfl S_39 ⟨by decide, B_39⟩ (gc_hA S_39 rfl A_39_0) ?_
              show gv_X _ _ (225, [(5, .inl 1), (0, .inr (.inr (some 39))), (1, .inr (.inl v1_13)), (3, .inl v3_13), (4, .inl v4_13)], [.inr (.inr (some 1)), .inl 2, .inr (.inr (some 19))], sh, gc_h sh I132 J128 A)
              have f144 := (show 0 ≤ I132 1 13 ∧ I132 1 13 ≤ 64 from gc_in hI132 R_1 rfl rfl)
              refine gv_get hD rfl rfl S_1 ⟨by decide, B_1⟩ (gc_hI S_1 rfl) ?_
              show gv_X _ _ (228, [(5, .inl 1), (0, .inr (.inr (some 39))), (1, .inr (.inl v1_13)), (3, .inl v3_13), (4, .inl v4_13)], [.inl (I132 1 13), .inl 2, .inr (.inr (some 19))], sh, gc_h sh I132 J128 A)
              refine gv_run 4 true hD (pc' := 233) (lv' := [(5, .inl 1), (0, .inr (.inr (some 39))), (1, .inr (.inl v1_13)), (3, .inl v3_13), (4, .inl v4_13)]) (st' := [.inl v4_13, .inl ((2 * (I132 1 13)) + 1), .inr (.inr (some 19))]) (h' := gc_h sh I132 J128 A) (C := ((((True ∧ True) ∧ True) ∧ True) ∧ True)) rfl ⟨⟨⟨⟨trivial, trivial⟩, trivial⟩, trivial⟩, trivial⟩ ?_
              refine gv_iast hD rfl S_19 ⟨by decide, B_19⟩ ⟨by exact gz_m 132 (by omega), by exact gz_m 133 (by omega)⟩ ?_
              refine gc_st hI132 S_19 rfl R_19 (lo := (-1)) (hi := 7) rfl rfl (by exact gz_m 134 (by omega)) (by exact gz_m 135 (by omega)) (fun I145 hI145 q146 p146 => ?_)
              have FI145 := gc_frs (W := fun q j => (q = 39 ∧ j = 3) ∨ (q = 39 ∧ j = 4) ∨ (q = 23 ∧ j = 5) ∨ (q = 23 ∧ j = 6) ∨ (q = 23 ∧ j = 7) ∨ (q = 23 ∧ j = 8) ∨ q = 19 ∨ (q = 1 ∧ j = 13)) FI132 (Or.inr (Or.inr (Or.inr (Or.inr (Or.inr (Or.inr (Or.inl rfl))))))) p146
              have t147 := p146 23 1 (fun h => absurd h.1 (by decide))
              have t148 := p146 23 5 (fun h => absurd h.1 (by decide))
              have t149 := p146 23 6 (fun h => absurd h.1 (by decide))
              have t150 := p146 23 7 (fun h => absurd h.1 (by decide))
              have t151 := p146 1 13 (fun h => absurd h.1 (by decide))
              have t152 := p146 6 1 (fun h => absurd h.1 (by decide))
              have t153 := p146 39 5 (fun h => absurd h.1 (by decide))
              have t154 := p146 1 18 (fun h => absurd h.1 (by decide))
              have t155 := p146 1 13 (fun h => absurd h.1 (by decide))
              have KLT_I145 := gc_LT_fr KLT_I132 (p146 23 5 (fun h => absurd h.1 (by decide))) (p146 23 6 (fun h => absurd h.1 (by decide))) (p146 23 7 (fun h => absurd h.1 (by decide))) (fun k => p146 24 k (fun h => absurd h.1 (by decide)))
              have KTK_I145 := gc_TK_fr KTK_I132 (p146 23 1 (fun h => absurd h.1 (by decide))) (p146 23 5 (fun h => absurd h.1 (by decide))) (p146 23 6 (fun h => absurd h.1 (by decide))) (p146 23 7 (fun h => absurd h.1 (by decide)))
              have A156 := gc_AT_I A143 (p146 23 1 (fun h => absurd h.1 (by decide))) (p146 23 5 (fun h => absurd h.1 (by decide))) (p146 23 6 (fun h => absurd h.1 (by decide))) (p146 23 7 (fun h => absurd h.1 (by decide))) (p146 23 8 (fun h => absurd h.1 (by decide))) (fun k => p146 24 k (fun h => absurd h.1 (by decide)))
              show gv_X _ _ (234, [(5, .inl 1), (0, .inr (.inr (some 39))), (1, .inr (.inl v1_13)), (3, .inl v3_13), (4, .inl v4_13)], [], sh, gc_h sh I145 J128 A)
              refine gv_run 1 true hD (pc' := 235) (lv' := [(5, .inl 1), (0, .inr (.inr (some 39))), (1, .inr (.inl v1_13)), (3, .inl v3_13), (4, .inl v4_13)]) (st' := [.inr (.inr (some 39))]) (h' := gc_h sh I145 J128 A) (C := (True ∧ True)) rfl ⟨trivial, trivial⟩ ?_
              refine gv_get hD rfl rfl S_39 ⟨by decide, B_39⟩ (gc_hA S_39 rfl A_39_0) ?_
              show gv_X _ _ (238, [(5, .inl 1), (0, .inr (.inr (some 39))), (1, .inr (.inl v1_13)), (3, .inl v3_13), (4, .inl v4_13)], [.inr (.inr (some 1))], sh, gc_h sh I145 J128 A)
              refine gv_run 1 true hD (pc' := 239) (lv' := [(5, .inl 1), (0, .inr (.inr (some 39))), (1, .inr (.inl v1_13)), (3, .inl v3_13), (4, .inl v4_13)]) (st' := [.inr (.inr (some 1)), .inr (.inr (some 1))]) (h' := gc_h sh I145 J128 A) (C := (True ∧ True)) rfl ⟨trivial, trivial⟩ ?_
              have f157 := (show 0 ≤ I145 1 13 ∧ I145 1 13 ≤ 64 from gc_in hI145 R_1 rfl rfl)
              refine gv_get hD rfl rfl S_1 ⟨by decide, B_1⟩ (gc_hI S_1 rfl) ?_
              show gv_X _ _ (242, [(5, .inl 1), (0, .inr (.inr (some 39))), (1, .inr (.inl v1_13)), (3, .inl v3_13), (4, .inl v4_13)], [.inl (I145 1 13), .inr (.inr (some 1))], sh, gc_h sh I145 J128 A)
              refine gv_run 2 true hD (pc' := 244) (lv' := [(5, .inl 1), (0, .inr (.inr (some 39))), (1, .inr (.inl v1_13)), (3, .inl v3_13), (4, .inl v4_13)]) (st' := [.inl ((I145 1 13) + 1), .inr (.inr (some 1))]) (h' := gc_h sh I145 J128 A) (C := ((True ∧ True) ∧ True)) rfl ⟨⟨trivial, trivial⟩, trivial⟩ ?_
              refine gv_put hD rfl rfl S_1 ⟨by decide, B_1⟩ rfl trivial ?_
              refine gc_st (k := 13) hI145 S_1 rfl R_1 (lo := 0) (hi := 64) rfl rfl (by exact gz_m 136 (by omega)) (by exact gz_m 137 (by omega)) (fun I158 hI158 q159 p159 => ?_)
              have FI158 := gc_frs (W := fun q j => (q = 39 ∧ j = 3) ∨ (q = 39 ∧ j = 4) ∨ (q = 23 ∧ j = 5) ∨ (q = 23 ∧ j = 6) ∨ (q = 23 ∧ j = 7) ∨ (q = 23 ∧ j = 8) ∨ q = 19 ∨ (q = 1 ∧ j = 13)) FI145 (Or.inr (Or.inr (Or.inr (Or.inr (Or.inr (Or.inr (Or.inr ⟨rfl, rfl⟩))))))) p159
              have t160 := p159 23 1 (fun h => absurd h.2 (by decide))
              have t161 := p159 23 5 (fun h => absurd h.2 (by decide))
              have t162 := p159 23 6 (fun h => absurd h.2 (by decide))
              have t163 := p159 23 7 (fun h => absurd h.2 (by decide))
              have t164 := p159 6 1 (fun h => absurd h.2 (by decide))
              have t165 := p159 39 5 (fun h => absurd h.2 (by decide))
              have t166 := p159 1 18 (fun h => absurd h.2 (by decide))
              have f167 := (show 0 ≤ I158 1 13 ∧ I158 1 13 ≤ 64 from gc_in hI158 R_1 rfl rfl)
              have f168 := (show 0 ≤ I158 1 13 ∧ I158 1 13 ≤ 64 from gc_in hI158 R_1 rfl rfl)
              have KLT_I158 := gc_LT_fr KLT_I145 (p159 23 5 (fun h => absurd h.2 (by decide))) (p159 23 6 (fun h => absurd h.2 (by decide))) (p159 23 7 (fun h => absurd h.2 (by decide))) (fun k => p159 24 k (fun h => absurd h.1 (by decide)))
              have KTK_I158 := gc_TK_fr KTK_I145 (p159 23 1 (fun h => absurd h.2 (by decide))) (p159 23 5 (fun h => absurd h.2 (by decide))) (p159 23 6 (fun h => absurd h.2 (by decide))) (p159 23 7 (fun h => absurd h.2 (by decide)))
              have A169 := gc_AT_I A156 (p159 23 1 (fun h => absurd h.2 (by decide))) (p159 23 5 (fun h => absurd h.2 (by decide))) (p159 23 6 (fun h => absurd h.2 (by decide))) (p159 23 7 (fun h => absurd h.2 (by decide))) (p159 23 8 (fun h => absurd h.2 (by decide))) (fun k => p159 24 k (fun h => absurd h.1 (by decide)))
              show gv_X _ _ (247, [(5, .inl 1), (0, .inr (.inr (some 39))), (1, .inr (.inl v1_13)), (3, .inl v3_13), (4, .inl v4_13)], [], sh, gc_h sh I158 J128 A)
              refine gv_run 1 true hD (pc' := 248) (lv' := [(5, .inl 1), (0, .inr (.inr (some 39))), (1, .inr (.inl v1_13)), (3, .inl v3_13), (4, .inl v4_13)]) (st' := [.inl 1]) (h' := gc_h sh I158 J128 A) (C := (True ∧ True)) rfl ⟨trivial, trivial⟩ ?_
              exact gv_zret hD rfl (by exact gz_m 138 (by omega)) ⟨I158, J128, rfl, hI158, FI158, FJ128, KLT_I158, KTK_I158, ⟨_, rfl, by exact gz_m 139 (by omega), by exact gz_m 140 (by omega), by exact gz_m 141 (by omega), by exact gz_m 142 (by omega), (Or.inl ⟨by exact gz_m 143 (by omega), by have e9 : (gs_fact β η Ir Jr (I 39 5) p9) = (gs_done β η 0 (I 39 5) p_13) := (by first | (exfalso; exact gz_m 144 (by omega)) | (rw [e3_13]; unfold gs_fact3; (repeat first | rw [if_pos (by exact gz_m 145 (by omega))] | rw [if_neg (by exact gz_m 146 (by omega))]))); rw [e9]; exact ⟨by exact gz_m 147 (by omega), A169, (by rw [← e4_13, ← e5_13]; exact ⟨fun h9 => absurd h9 (by exact gz_m 148 (by omega)), fun _ => (by have v9 : I111 1 13 = I 1 13 := (((g110 1 13).resolve_left (by exact gz_m 149 (by omega))).trans (e7_13.2.2.1)); exact gs_Cfact_mk (((g110 1 13).resolve_left (by exact gz_m 150 (by omega))).trans (e7_13.2.2.1)) (fun j => (((k110 18 j).resolve_left (by exact gz_m 151 (by omega))).trans (e7_13.2.1 j))) (fun j => (((g110 19 j).resolve_left (by exact gz_m 152 (by omega))).trans (e7_13.1 j))) (by exact gz_m 153 (by omega)) p129 (q129.trans e2_13) (by exact gz_m 154 (by omega)) p133 q133 (by exact gz_m 155 (by omega)) p146 q146 p159 (by exact gz_m 156 (by omega)))⟩)⟩⟩)⟩⟩
          · show gv_X _ _ (172, [(5, .inl 1), (0, .inr (.inr (some 39))), (1, .inr (.inl v1_13)), (3, .inl v3_13), (4, .inl v4_13)], [], sh, gc_h sh I111 J112 A)
            have V170 := q110.2.2.2.2.2
            rw [show I11 39 5 = I 39 5 from by exact gz_m 157 (by omega)] at V170
            rw [show (if (1 : Int) = 0 then (1 : Int) else 0) = 0 from if_neg (by decide)] at V170
            obtain ⟨u170, u170_⟩ := gs_or0 V170 (by exact gz_m 158 (by omega))
            refine gv_run 1 true hD (pc' := 173) (lv' := [(5, .inl 1), (0, .inr (.inr (some 39))), (1, .inr (.inl v1_13)), (3, .inl v3_13), (4, .inl v4_13)]) (st' := [.inl 0]) (h' := gc_h sh I111 J112 A) (C := (True ∧ True)) rfl ⟨trivial, trivial⟩ ?_
            exact gv_zret hD rfl (by exact gz_m 159 (by omega)) ⟨I111, J112, rfl, hI111, FI111, FJ112, KLT_I111, KTK_I111, ⟨_, rfl, by exact gz_m 160 (by omega), by exact gz_m 161 (by omega), by exact gz_m 162 (by omega), by exact gz_m 163 (by omega), (Or.inr ⟨by exact gz_m 164 (by omega), by rw [e3_13]; unfold gs_fact3; (repeat first | rw [if_pos (by exact gz_m 165 (by omega))] | rw [if_neg (by exact gz_m 166 (by omega))]); exact ⟨by exact gz_m 167 (by omega), by exact gz_m 168 (by omega), (((g110 1 13).resolve_left (by exact gz_m 169 (by omega))).trans (e7_13.2.2.1)), (fun j => (((k110 18 j).resolve_left (by exact gz_m 170 (by omega))).trans (e7_13.2.1 j))), fun j => (((g110 19 j).resolve_left (by exact gz_m 171 (by omega))).trans (e7_13.1 j))⟩⟩)⟩⟩
  refine gv_run 2 true hD (pc' := 2) (lv' := [(0, .inr (.inr (some 39)))]) (st' := [.inl 1, .inr (.inr (some 39))]) (h' := gc_h sh I J A) (C := ((True ∧ True) ∧ True)) rfl ⟨⟨trivial, trivial⟩, trivial⟩ ?_
  obtain ⟨r171, h171, E171, P171⟩ := d_X6_need_p (ws0 := ws0) (tb := tb) hws htb sh ro I J A hI  β η p9 1 hb   ⟨by exact gz_m 172 (by omega), by exact gz_m 173 (by omega)⟩ x0 (by exact gz_m 174 (by omega)) 
  obtain ⟨I172, J173, rfl, hI172, g171, k171, ⟨z171, rfl, q171⟩⟩ := P171
  have FI172 := gc_frc (W := fun q j => (q = 39 ∧ j = 3) ∨ (q = 39 ∧ j = 4) ∨ (q = 23 ∧ j = 5) ∨ (q = 23 ∧ j = 6) ∨ (q = 23 ∧ j = 7) ∨ (q = 23 ∧ j = 8) ∨ q = 19 ∨ (q = 1 ∧ j = 13)) (V := fun q j => (q = 39 ∧ j = 3) ∨ (q = 39 ∧ j = 4)) FI (fun q j h => (h.elim (fun h => (Or.inl h)) (fun h => (Or.inr (Or.inl h))))) g171
  have t174 := (g171 23 1).resolve_left (fun h => h.elim (fun h => absurd h.2 (by decide)) (fun h => absurd h.2 (by decide)))
  have t175 := (g171 23 5).resolve_left (fun h => h.elim (fun h => absurd h.2 (by decide)) (fun h => absurd h.2 (by decide)))
  have t176 := (g171 23 6).resolve_left (fun h => h.elim (fun h => absurd h.2 (by decide)) (fun h => absurd h.2 (by decide)))
  have t177 := (g171 23 7).resolve_left (fun h => h.elim (fun h => absurd h.2 (by decide)) (fun h => absurd h.2 (by decide)))
  have t178 := (g171 1 13).resolve_left (fun h => h.elim (fun h => absurd h.2 (by decide)) (fun h => absurd h.2 (by decide)))
  have t179 := (g171 6 1).resolve_left (fun h => h.elim (fun h => absurd h.2 (by decide)) (fun h => absurd h.2 (by decide)))
  have t180 := (g171 39 5).resolve_left (fun h => h.elim (fun h => absurd h.2 (by decide)) (fun h => absurd h.2 (by decide)))
  have t181 := (g171 1 18).resolve_left (fun h => h.elim (fun h => absurd h.2 (by decide)) (fun h => absurd h.2 (by decide)))
  have t182 := (g171 1 13).resolve_left (fun h => h.elim (fun h => absurd h.2 (by decide)) (fun h => absurd h.2 (by decide)))
  obtain rfl : J = J173 := funext fun q => funext fun j => ((k171 q j).resolve_left id).symm
  have KLT_I172 := gc_LT_fr KLT_I ((g171 23 5).resolve_left (fun h => h.elim (fun h => absurd h.2 (by decide)) (fun h => absurd h.2 (by decide)))) ((g171 23 6).resolve_left (fun h => h.elim (fun h => absurd h.2 (by decide)) (fun h => absurd h.2 (by decide)))) ((g171 23 7).resolve_left (fun h => h.elim (fun h => absurd h.2 (by decide)) (fun h => absurd h.2 (by decide)))) (fun k => (g171 24 k).resolve_left (fun h => h.elim (fun h => absurd h.1 (by decide)) (fun h => absurd h.1 (by decide))))
  have KTK_I172 := gc_TK_fr KTK_I ((g171 23 1).resolve_left (fun h => h.elim (fun h => absurd h.2 (by decide)) (fun h => absurd h.2 (by decide)))) ((g171 23 5).resolve_left (fun h => h.elim (fun h => absurd h.2 (by decide)) (fun h => absurd h.2 (by decide)))) ((g171 23 6).resolve_left (fun h => h.elim (fun h => absurd h.2 (by decide)) (fun h => absurd h.2 (by decide)))) ((g171 23 7).resolve_left (fun h => h.elim (fun h => absurd h.2 (by decide)) (fun h => absurd h.2 (by decide))))
  have A183 := gc_AT_I x0 ((g171 23 1).resolve_left (fun h => h.elim (fun h => absurd h.2 (by decide)) (fun h => absurd h.2 (by decide)))) ((g171 23 5).resolve_left (fun h => h.elim (fun h => absurd h.2 (by decide)) (fun h => absurd h.2 (by decide)))) ((g171 23 6).resolve_left (fun h => h.elim (fun h => absurd h.2 (by decide)) (fun h => absurd h.2 (by decide)))) ((g171 23 7).resolve_left (fun h => h.elim (fun h => absurd h.2 (by decide)) (fun h => absurd h.2 (by decide)))) ((g171 23 8).resolve_left (fun h => h.elim (fun h => absurd h.2 (by decide)) (fun h => absurd h.2 (by decide)))) (fun k => (g171 24 k).resolve_left (fun h => h.elim (fun h => absurd h.1 (by decide)) (fun h => absurd h.1 (by decide))))
  have t184 := gc_AT_l A183
  refine gv_callV hD rfl (As := [.inl 1]) (st := []) rfl B_39 S_39 rfl (gc_lV6 hws rfl) (Nat.le_of_ble_eq_true rfl) (gz_Ev_mono (d := 2) (by decide) E171) ?_
  show gv_X _ _ (5, [(0, .inr (.inr (some 39)))], [.inl z171], sh, gc_h sh I172 J A)
  refine gv_if_ne (t := 10) hD rfl rfl ⟨by exact gz_m 175 (by omega), by exact gz_m 176 (by omega)⟩ (fun c185 => ?_) (fun c185 => ?_)
  · show gv_X _ _ (10, [(0, .inr (.inr (some 39)))], [], sh, gc_h sh I172 J A)
    have u186 := gs_or1 q171.2.2.2 (by exact gz_m 177 (by omega))
    have tM := gc_AT_m A183 (by exact gz_m 178 (by omega))
    refine gv_run 1 true hD (pc' := 11) (lv' := [(0, .inr (.inr (some 39)))]) (st' := [.inr (.inr (some 39))]) (h' := gc_h sh I172 J A) (C := (True ∧ True)) rfl ⟨trivial, trivial⟩ ?_
    refine gv_get hD rfl rfl S_39 ⟨by decide, B_39⟩ (gc_hA S_39 rfl A_39_1) ?_
    show gv_X _ _ (14, [(0, .inr (.inr (some 39)))], [.inr (.inr (some 23))], sh, gc_h sh I172 J A)
    refine gv_get hD rfl rfl S_23 ⟨by decide, B_23⟩ (gc_hJ S_23 rfl) ?_
    show gv_X _ _ (17, [(0, .inr (.inr (some 39)))], [.inr (.inl (J 23 9))], sh, gc_h sh I172 J A)
    refine gv_run 2 true hD (pc' := 19) (lv' := [(1, .inr (.inl (J 23 9))), (0, .inr (.inr (some 39)))]) (st' := [.inr (.inr (some 39))]) (h' := gc_h sh I172 J A) (C := ((True ∧ True) ∧ True)) rfl ⟨⟨trivial, trivial⟩, trivial⟩ ?_
    refine gv_get hD rfl rfl S_39 ⟨by decide, B_39⟩ (gc_hA S_39 rfl A_39_1) ?_
    show gv_X _ _ (22, [(1, .inr (.inl (J 23 9))), (0, .inr (.inr (some 39)))], [.inr (.inr (some 23))], sh, gc_h sh I172 J A)
    have t188 := gc_TK_nx KTK_I172 (by exact gz_m 179 (by omega))
    obtain ⟨r187, h187, E187, P187⟩ := d_X9_advance_p (ws0 := ws0) (tb := tb) hws htb sh ro I172 J A hI172 23 β η  (gc_b23 hb)    (by exact gz_m 180 (by omega)) A183.1.1 A183.1.2 
    obtain ⟨I189, J190, rfl, hI189, g187, k187, ⟨rfl, V187_0, V187_1, V187_2, V187_3, V187_4, q187⟩⟩ := P187
    have FI189 := gc_frc (W := fun q j => (q = 39 ∧ j = 3) ∨ (q = 39 ∧ j = 4) ∨ (q = 23 ∧ j = 5) ∨ (q = 23 ∧ j = 6) ∨ (q = 23 ∧ j = 7) ∨ (q = 23 ∧ j = 8) ∨ q = 19 ∨ (q = 1 ∧ j = 13)) (V := fun q j => (q = 23 ∧ j = 5) ∨ (q = 23 ∧ j = 6) ∨ (q = 23 ∧ j = 7) ∨ (q = 23 ∧ j = 8)) FI172 (fun q j h => (h.elim (fun h => (Or.inr (Or.inr (Or.inl h)))) (fun h => (h.elim (fun h => (Or.inr (Or.inr (Or.inr (Or.inl h))))) (fun h => (h.elim (fun h => (Or.inr (Or.inr (Or.inr (Or.inr (Or.inl h)))))) (fun h => (Or.inr (Or.inr (Or.inr (Or.inr (Or.inr (Or.inl h))))))))))))) g187
    have FJ190 := gc_frc (W := fun q j => (q = 23 ∧ j = 9) ∨ q = 18) (V := fun q j => (q = 23 ∧ j = 9)) FJ (fun q j h => (Or.inl h)) k187
    have t191 := (g187 23 1).resolve_left (fun h => h.elim (fun h => absurd h.2 (by decide)) (fun h => h.elim (fun h => absurd h.2 (by decide)) (fun h => h.elim (fun h => absurd h.2 (by decide)) (fun h => absurd h.2 (by decide)))))
    have t192 := (g187 1 13).resolve_left (fun h => h.elim (fun h => absurd h.2 (by decide)) (fun h => h.elim (fun h => absurd h.2 (by decide)) (fun h => h.elim (fun h => absurd h.2 (by decide)) (fun h => absurd h.2 (by decide)))))
    have t193 := (g187 6 1).resolve_left (fun h => h.elim (fun h => absurd h.2 (by decide)) (fun h => h.elim (fun h => absurd h.2 (by decide)) (fun h => h.elim (fun h => absurd h.2 (by decide)) (fun h => absurd h.2 (by decide)))))
    have t194 := (g187 39 5).resolve_left (fun h => h.elim (fun h => absurd h.1 (by decide)) (fun h => h.elim (fun h => absurd h.2 (by decide)) (fun h => h.elim (fun h => absurd h.2 (by decide)) (fun h => absurd h.2 (by decide)))))
    have t195 := (g187 1 18).resolve_left (fun h => h.elim (fun h => absurd h.2 (by decide)) (fun h => h.elim (fun h => absurd h.2 (by decide)) (fun h => h.elim (fun h => absurd h.2 (by decide)) (fun h => absurd h.2 (by decide)))))
    have t196 := (g187 1 13).resolve_left (fun h => h.elim (fun h => absurd h.2 (by decide)) (fun h => h.elim (fun h => absurd h.2 (by decide)) (fun h => h.elim (fun h => absurd h.2 (by decide)) (fun h => absurd h.2 (by decide)))))
    have f197 := (show 0 ≤ I189 23 5 ∧ I189 23 5 ≤ 1000 from gc_in hI189 R_23 rfl rfl)
    have f198 := (show 0 ≤ I189 23 6 ∧ I189 23 6 ≤ 1001 from gc_in hI189 R_23 rfl rfl)
    have f199 := (show 0 ≤ I189 23 7 ∧ I189 23 7 ≤ 125 from gc_in hI189 R_23 rfl rfl)
    have KLT_I189 : gc_LT I189 := q187.2.2.1
    have KTK_I189 : gc_TK I189 := And.intro V187_0 (And.intro V187_1 (And.intro V187_2 (And.intro V187_3 V187_4)))
    have t200 := gc_TK_mo KTK_I189
    clear V187_0 V187_1 V187_2 V187_3 V187_4
    have A201 := gc_AT_nx A183 q187.2.2.2
    have t202 := gc_AT_l A201
    refine gv_callV hD rfl (As := []) (st := []) rfl B_23 S_23 rfl (gc_lV6 hws rfl) (Nat.le_of_ble_eq_true rfl) (gz_Ev_mono (d := 2) (by decide) E187) ?_
    show gv_X _ _ (25, [(1, .inr (.inl (J 23 9))), (0, .inr (.inr (some 39)))], [], sh, gc_h sh I189 J190 A)
    refine gv_run 2 true hD (pc' := 27) (lv' := [(1, .inr (.inl (J 23 9))), (0, .inr (.inr (some 39)))]) (st' := [.inr (.inr (some 39)), .inr (.inr (some 39))]) (h' := gc_h sh I189 J190 A) (C := ((True ∧ True) ∧ True)) rfl ⟨⟨trivial, trivial⟩, trivial⟩ ?_
    refine gv_get hD rfl rfl S_39 ⟨by decide, B_39⟩ (gc_hA S_39 rfl A_39_0) ?_
    show gv_X _ _ (30, [(1, .inr (.inl (J 23 9))), (0, .inr (.inr (some 39)))], [.inr (.inr (some 1)), .inr (.inr (some 39))], sh, gc_h sh I189 J190 A)
    refine gv_get hD rfl rfl S_1 ⟨by decide, B_1⟩ (gc_hA S_1 rfl A_1_2) ?_
    show gv_X _ _ (33, [(1, .inr (.inl (J 23 9))), (0, .inr (.inr (some 39)))], [.inr (.inr (some 6)), .inr (.inr (some 39))], sh, gc_h sh I189 J190 A)
    obtain ⟨r203, h203, E203, P203⟩ := d_X6_needKnown_p (ws0 := ws0) (tb := tb) hws htb sh ro I189 J190 A hI189  8 6 β η (gs_X β η p9) 6 hb (gc_b6 hb)   A201 (by exact gz_m 181 (by omega)) 
    obtain ⟨I204, J205, rfl, hI204, g203, k203, ⟨z203, rfl, q203⟩⟩ := P203
    have FI204 := gc_frc (W := fun q j => (q = 39 ∧ j = 3) ∨ (q = 39 ∧ j = 4) ∨ (q = 23 ∧ j = 5) ∨ (q = 23 ∧ j = 6) ∨ (q = 23 ∧ j = 7) ∨ (q = 23 ∧ j = 8) ∨ q = 19 ∨ (q = 1 ∧ j = 13)) (V := fun q j => (q = 39 ∧ j = 3) ∨ (q = 39 ∧ j = 4)) FI189 (fun q j h => (h.elim (fun h => (Or.inl h)) (fun h => (Or.inr (Or.inl h))))) g203
    have t206 := (g203 23 1).resolve_left (fun h => h.elim (fun h => absurd h.2 (by decide)) (fun h => absurd h.2 (by decide)))
    have t207 := (g203 23 5).resolve_left (fun h => h.elim (fun h => absurd h.2 (by decide)) (fun h => absurd h.2 (by decide)))
    have t208 := (g203 23 6).resolve_left (fun h => h.elim (fun h => absurd h.2 (by decide)) (fun h => absurd h.2 (by decide)))
    have t209 := (g203 23 7).resolve_left (fun h => h.elim (fun h => absurd h.2 (by decide)) (fun h => absurd h.2 (by decide)))
    have t210 := (g203 1 13).resolve_left (fun h => h.elim (fun h => absurd h.2 (by decide)) (fun h => absurd h.2 (by decide)))
    have t211 := (g203 6 1).resolve_left (fun h => h.elim (fun h => absurd h.2 (by decide)) (fun h => absurd h.2 (by decide)))
    have t212 := (g203 39 5).resolve_left (fun h => h.elim (fun h => absurd h.2 (by decide)) (fun h => absurd h.2 (by decide)))
    have t213 := (g203 1 18).resolve_left (fun h => h.elim (fun h => absurd h.2 (by decide)) (fun h => absurd h.2 (by decide)))
    have t214 := (g203 1 13).resolve_left (fun h => h.elim (fun h => absurd h.2 (by decide)) (fun h => absurd h.2 (by decide)))
    obtain rfl : J190 = J205 := funext fun q => funext fun j => ((k203 q j).resolve_left id).symm
    have KLT_I204 := gc_LT_fr KLT_I189 ((g203 23 5).resolve_left (fun h => h.elim (fun h => absurd h.2 (by decide)) (fun h => absurd h.2 (by decide)))) ((g203 23 6).resolve_left (fun h => h.elim (fun h => absurd h.2 (by decide)) (fun h => absurd h.2 (by decide)))) ((g203 23 7).resolve_left (fun h => h.elim (fun h => absurd h.2 (by decide)) (fun h => absurd h.2 (by decide)))) (fun k => (g203 24 k).resolve_left (fun h => h.elim (fun h => absurd h.1 (by decide)) (fun h => absurd h.1 (by decide))))
    have KTK_I204 := gc_TK_fr KTK_I189 ((g203 23 1).resolve_left (fun h => h.elim (fun h => absurd h.2 (by decide)) (fun h => absurd h.2 (by decide)))) ((g203 23 5).resolve_left (fun h => h.elim (fun h => absurd h.2 (by decide)) (fun h => absurd h.2 (by decide)))) ((g203 23 6).resolve_left (fun h => h.elim (fun h => absurd h.2 (by decide)) (fun h => absurd h.2 (by decide)))) ((g203 23 7).resolve_left (fun h => h.elim (fun h => absurd h.2 (by decide)) (fun h => absurd h.2 (by decide))))
    have A215 := gc_AT_I A201 ((g203 23 1).resolve_left (fun h => h.elim (fun h => absurd h.2 (by decide)) (fun h => absurd h.2 (by decide)))) ((g203 23 5).resolve_left (fun h => h.elim (fun h => absurd h.2 (by decide)) (fun h => absurd h.2 (by decide)))) ((g203 23 6).resolve_left (fun h => h.elim (fun h => absurd h.2 (by decide)) (fun h => absurd h.2 (by decide)))) ((g203 23 7).resolve_left (fun h => h.elim (fun h => absurd h.2 (by decide)) (fun h => absurd h.2 (by decide)))) ((g203 23 8).resolve_left (fun h => h.elim (fun h => absurd h.2 (by decide)) (fun h => absurd h.2 (by decide)))) (fun k => (g203 24 k).resolve_left (fun h => h.elim (fun h => absurd h.1 (by decide)) (fun h => absurd h.1 (by decide))))
    have t216 := gc_AT_l A215
    refine gv_callV hD rfl (As := [.inr (.inr (some 6))]) (st := []) rfl B_39 S_39 rfl (gc_lV6 hws rfl) (Nat.le_of_ble_eq_true rfl) (gz_Ev_mono (d := 3) (by decide) E203) ?_
    show gv_X _ _ (36, [(1, .inr (.inl (J 23 9))), (0, .inr (.inr (some 39)))], [.inl z203], sh, gc_h sh I204 J190 A)
    refine gv_if_ne (t := 41) hD rfl rfl ⟨by exact gz_m 182 (by omega), by exact gz_m 183 (by omega)⟩ (fun c217 => ?_) (fun c217 => ?_)
    · show gv_X _ _ (41, [(1, .inr (.inl (J 23 9))), (0, .inr (.inr (some 39)))], [], sh, gc_h sh I204 J190 A)
      have u218 := gs_or1 q203.2.2.2 (by exact gz_m 184 (by omega))
      have L203 : gs_T β η (gs_X β η p9) = 1 → gc_fd (J190 (6 + 1)) (gs_M β η (gs_X β η p9)) (Int.toNat (I189 6 1)) = gs_lk Ir Jr 4 4 (gs_rn β η (gs_X β η p9)) := (fun h => by rw [show I189 6 1 = I 6 1 from (((g187 6 1).resolve_left (by exact gz_m 185 (by omega))).trans ((g171 6 1).resolve_left (by exact gz_m 186 (by omega)))), show J190 (6 + 1) = J (6 + 1) from funext fun j => ((k187 7 j).resolve_left (by exact gz_m 187 (by omega)))]; exact gs_NA_lk x6 x5 h)
      have t219 := L203 (by exact gz_m 188 (by omega))
      refine gv_run 1 true hD (pc' := 42) (lv' := [(1, .inr (.inl (J 23 9))), (0, .inr (.inr (some 39)))]) (st' := [.inr (.inr (some 39))]) (h' := gc_h sh I204 J190 A) (C := (True ∧ True)) rfl ⟨trivial, trivial⟩ ?_
      refine gv_get hD rfl rfl S_39 ⟨by decide, B_39⟩ (gc_hA S_39 rfl A_39_0) ?_
      show gv_X _ _ (45, [(1, .inr (.inl (J 23 9))), (0, .inr (.inr (some 39)))], [.inr (.inr (some 1))], sh, gc_h sh I204 J190 A)
      refine gv_get hD rfl rfl S_1 ⟨by decide, B_1⟩ (gc_hA S_1 rfl A_1_2) ?_
      show gv_X _ _ (48, [(1, .inr (.inl (J 23 9))), (0, .inr (.inr (some 39)))], [.inr (.inr (some 6))], sh, gc_h sh I204 J190 A)
      refine gv_run 1 true hD (pc' := 49) (lv' := [(1, .inr (.inl (J 23 9))), (0, .inr (.inr (some 39)))]) (st' := [.inr (.inr (some 39)), .inr (.inr (some 6))]) (h' := gc_h sh I204 J190 A) (C := (True ∧ True)) rfl ⟨trivial, trivial⟩ ?_
      refine gv_get hD rfl rfl S_39 ⟨by decide, B_39⟩ (gc_hA S_39 rfl A_39_1) ?_
      show gv_X _ _ (52, [(1, .inr (.inl (J 23 9))), (0, .inr (.inr (some 39)))], [.inr (.inr (some 23)), .inr (.inr (some 6))], sh, gc_h sh I204 J190 A)
      refine gv_get hD rfl rfl S_23 ⟨by decide, B_23⟩ (gc_hJ S_23 rfl) ?_
      show gv_X _ _ (55, [(1, .inr (.inl (J 23 9))), (0, .inr (.inr (some 39)))], [.inr (.inl (J190 23 9)), .inr (.inr (some 6))], sh, gc_h sh I204 J190 A)
      obtain ⟨r220, h220, E220, P220⟩ := d_X4_find (ws0 := ws0) (tb := tb) hws htb sh ro I204 J190 A hI204 6 8 6 (J190 23 9) (gc_b6 hb)     
      obtain ⟨rfl, ⟨z220, rfl, q220⟩⟩ := P220
      have t221 : z220 = gs_lk Ir Jr 4 4 (gs_rn β η (gs_X β η p9)) := q220.2.2.2.trans (by rw [gc_AT_m A215 (by exact gz_m 189 (by omega))]; exact (show gs_T β η (gs_X β η p9) = 1 → gc_fd (J190 (6 + 1)) (gs_M β η (gs_X β η p9)) (Int.toNat (I204 6 1)) = gs_lk Ir Jr 4 4 (gs_rn β η (gs_X β η p9)) from (fun h => by rw [show I204 6 1 = I 6 1 from ((((g203 6 1).resolve_left (by exact gz_m 190 (by omega))).trans ((g187 6 1).resolve_left (by exact gz_m 191 (by omega)))).trans ((g171 6 1).resolve_left (by exact gz_m 192 (by omega)))), show J190 (6 + 1) = J (6 + 1) from funext fun j => ((k187 7 j).resolve_left (by exact gz_m 193 (by omega)))]; exact gs_NA_lk x6 x5 h)) (by exact gz_m 194 (by omega)))
      refine gv_callV hD rfl (As := [.inr (.inl (J190 23 9))]) (st := []) rfl B_6 S_6 rfl (gc_lV6 hws rfl) (Nat.le_of_ble_eq_true rfl) (gz_Ev_mono (d := 1) (by decide) E220) ?_
      show gv_X _ _ (58, [(1, .inr (.inl (J 23 9))), (0, .inr (.inr (some 39)))], [.inl z220], sh, gc_h sh I204 J190 A)
      refine gv_run 4 true hD (pc' := 63) (lv' := [(4, .inl (-1)), (3, .inl z220), (1, .inr (.inl (J 23 9))), (0, .inr (.inr (some 39)))]) (st' := [.inr (.inr (some 39))]) (h' := gc_h sh I204 J190 A) (C := ((((True ∧ True) ∧ True) ∧ True) ∧ True)) rfl ⟨⟨⟨⟨trivial, trivial⟩, trivial⟩, trivial⟩, trivial⟩ ?_
      refine gv_get hD rfl rfl S_39 ⟨by decide, B_39⟩ (gc_hA S_39 rfl A_39_1) ?_
      show gv_X _ _ (66, [(4, .inl (-1)), (3, .inl z220), (1, .inr (.inl (J 23 9))), (0, .inr (.inr (some 39)))], [.inr (.inr (some 23))], sh, gc_h sh I204 J190 A)
      have t223 := gc_TK_nx KTK_I204 (by exact gz_m 195 (by omega))
      obtain ⟨r222, h222, E222, P222⟩ := d_X9_advance_p (ws0 := ws0) (tb := tb) hws htb sh ro I204 J190 A hI204 23 β η  (gc_b23 hb)    (by exact gz_m 196 (by omega)) A215.1.1 A215.1.2 
      obtain ⟨I224, J225, rfl, hI224, g222, k222, ⟨rfl, V222_0, V222_1, V222_2, V222_3, V222_4, q222⟩⟩ := P222
      have FI224 := gc_frc (W := fun q j => (q = 39 ∧ j = 3) ∨ (q = 39 ∧ j = 4) ∨ (q = 23 ∧ j = 5) ∨ (q = 23 ∧ j = 6) ∨ (q = 23 ∧ j = 7) ∨ (q = 23 ∧ j = 8) ∨ q = 19 ∨ (q = 1 ∧ j = 13)) (V := fun q j => (q = 23 ∧ j = 5) ∨ (q = 23 ∧ j = 6) ∨ (q = 23 ∧ j = 7) ∨ (q = 23 ∧ j = 8)) FI204 (fun q j h => (h.elim (fun h => (Or.inr (Or.inr (Or.inl h)))) (fun h => (h.elim (fun h => (Or.inr (Or.inr (Or.inr (Or.inl h))))) (fun h => (h.elim (fun h => (Or.inr (Or.inr (Or.inr (Or.inr (Or.inl h)))))) (fun h => (Or.inr (Or.inr (Or.inr (Or.inr (Or.inr (Or.inl h))))))))))))) g222
      have FJ225 := gc_frc (W := fun q j => (q = 23 ∧ j = 9) ∨ q = 18) (V := fun q j => (q = 23 ∧ j = 9)) FJ190 (fun q j h => (Or.inl h)) k222
      have t226 := (g222 23 1).resolve_left (fun h => h.elim (fun h => absurd h.2 (by decide)) (fun h => h.elim (fun h => absurd h.2 (by decide)) (fun h => h.elim (fun h => absurd h.2 (by decide)) (fun h => absurd h.2 (by decide)))))
      have t227 := (g222 1 13).resolve_left (fun h => h.elim (fun h => absurd h.2 (by decide)) (fun h => h.elim (fun h => absurd h.2 (by decide)) (fun h => h.elim (fun h => absurd h.2 (by decide)) (fun h => absurd h.2 (by decide)))))
      have t228 := (g222 6 1).resolve_left (fun h => h.elim (fun h => absurd h.2 (by decide)) (fun h => h.elim (fun h => absurd h.2 (by decide)) (fun h => h.elim (fun h => absurd h.2 (by decide)) (fun h => absurd h.2 (by decide)))))
      have t229 := (g222 39 5).resolve_left (fun h => h.elim (fun h => absurd h.1 (by decide)) (fun h => h.elim (fun h => absurd h.2 (by decide)) (fun h => h.elim (fun h => absurd h.2 (by decide)) (fun h => absurd h.2 (by decide)))))
      have t230 := (g222 1 18).resolve_left (fun h => h.elim (fun h => absurd h.2 (by decide)) (fun h => h.elim (fun h => absurd h.2 (by decide)) (fun h => h.elim (fun h => absurd h.2 (by decide)) (fun h => absurd h.2 (by decide)))))
      have t231 := (g222 1 13).resolve_left (fun h => h.elim (fun h => absurd h.2 (by decide)) (fun h => h.elim (fun h => absurd h.2 (by decide)) (fun h => h.elim (fun h => absurd h.2 (by decide)) (fun h => absurd h.2 (by decide)))))
      have f232 := (show 0 ≤ I224 23 5 ∧ I224 23 5 ≤ 1000 from gc_in hI224 R_23 rfl rfl)
      have f233 := (show 0 ≤ I224 23 6 ∧ I224 23 6 ≤ 1001 from gc_in hI224 R_23 rfl rfl)
      have f234 := (show 0 ≤ I224 23 7 ∧ I224 23 7 ≤ 125 from gc_in hI224 R_23 rfl rfl)
      have KLT_I224 : gc_LT I224 := q222.2.2.1
      have KTK_I224 : gc_TK I224 := And.intro V222_0 (And.intro V222_1 (And.intro V222_2 (And.intro V222_3 V222_4)))
      have t235 := gc_TK_mo KTK_I224
      clear V222_0 V222_1 V222_2 V222_3 V222_4
      have A236 := gc_AT_nx A215 q222.2.2.2
      have t237 := gc_AT_l A236
      refine gv_callV hD rfl (As := []) (st := []) rfl B_23 S_23 rfl (gc_lV6 hws rfl) (Nat.le_of_ble_eq_true rfl) (gz_Ev_mono (d := 2) (by decide) E222) ?_
      show gv_X _ _ (69, [(4, .inl (-1)), (3, .inl z220), (1, .inr (.inl (J 23 9))), (0, .inr (.inr (some 39)))], [], sh, gc_h sh I224 J225 A)
      refine gv_run 1 true hD (pc' := 70) (lv' := [(4, .inl (-1)), (3, .inl z220), (1, .inr (.inl (J 23 9))), (0, .inr (.inr (some 39)))]) (st' := [.inr (.inr (some 39))]) (h' := gc_h sh I224 J225 A) (C := (True ∧ True)) rfl ⟨trivial, trivial⟩ ?_
      refine gv_get hD rfl rfl S_39 ⟨by decide, B_39⟩ (gc_hA S_39 rfl A_39_1) ?_
      show gv_X _ _ (73, [(4, .inl (-1)), (3, .inl z220), (1, .inr (.inl (J 23 9))), (0, .inr (.inr (some 39)))], [.inr (.inr (some 23))], sh, gc_h sh I224 J225 A)
      have f238 := (show 0 ≤ I224 23 7 ∧ I224 23 7 ≤ 125 from gc_in hI224 R_23 rfl rfl)
      refine gv_get hD rfl rfl S_23 ⟨by decide, B_23⟩ (gc_hI S_23 rfl) ?_
      show gv_X _ _ (76, [(4, .inl (-1)), (3, .inl z220), (1, .inr (.inl (J 23 9))), (0, .inr (.inr (some 39)))], [.inl (I224 23 7)], sh, gc_h sh I224 J225 A)
      refine gv_run 1 true hD (pc' := 77) (lv' := [(4, .inl (-1)), (3, .inl z220), (1, .inr (.inl (J 23 9))), (0, .inr (.inr (some 39)))]) (st' := [.inl 1, .inl (I224 23 7)]) (h' := gc_h sh I224 J225 A) (C := (True ∧ True)) rfl ⟨trivial, trivial⟩ ?_
      refine gv_icmp_ne (t := 122) hD rfl rfl ⟨⟨by exact gz_m 197 (by omega), by exact gz_m 198 (by omega)⟩, ⟨by exact gz_m 199 (by omega), by exact gz_m 200 (by omega)⟩⟩ (fun c239 => ?_) (fun c239 => ?_)
      · show gv_X _ _ (122, [(4, .inl (-1)), (3, .inl z220), (1, .inr (.inl (J 23 9))), (0, .inr (.inr (some 39)))], [], sh, gc_h sh I224 J225 A)
        refine gv_pick [3, 2, 1, 0] rfl ?_
        exact L122 I224 J225 (J 23 9) z220 (-1) ((gs_X β η (gs_X β η p9))) hI224 FI224 FJ225 KLT_I224 KTK_I224 (by exact gz_m 201 (by omega)) A236 tM (by unfold gs_fact gs_fact2; (repeat first | rw [if_pos (by exact gz_m 202 (by omega))] | rw [if_neg (by exact gz_m 203 (by omega))]); rw [show (gs_lk Ir Jr 4 4 (gs_rn β η (gs_X β η p9))) = z220 from by exact gz_m 204 (by omega)]) (by exact gz_m 205 (by omega)) (by unfold gs_fb; (repeat first | rw [if_pos (by exact gz_m 206 (by omega))] | rw [if_neg (by exact gz_m 207 (by omega))]); try exact gz_m 208 (by omega)) (by exact gz_m 209 (by omega)) ⟨(fun k => (((((g222 19 k).resolve_left (by exact gz_m 210 (by omega))).trans ((g203 19 k).resolve_left (by exact gz_m 211 (by omega)))).trans ((g187 19 k).resolve_left (by exact gz_m 212 (by omega)))).trans ((g171 19 k).resolve_left (by exact gz_m 213 (by omega))))), (fun k => (((k222 18 k).resolve_left (by exact gz_m 214 (by omega))).trans ((k187 18 k).resolve_left (by exact gz_m 215 (by omega))))), ((((((g222 1 13).resolve_left (by exact gz_m 216 (by omega))).trans ((g203 1 13).resolve_left (by exact gz_m 217 (by omega)))).trans ((g187 1 13).resolve_left (by exact gz_m 218 (by omega)))).trans ((g171 1 13).resolve_left (by exact gz_m 219 (by omega))))), ((((((g222 39 5).resolve_left (by exact gz_m 220 (by omega))).trans ((g203 39 5).resolve_left (by exact gz_m 221 (by omega)))).trans ((g187 39 5).resolve_left (by exact gz_m 222 (by omega)))).trans ((g171 39 5).resolve_left (by exact gz_m 223 (by omega))))), ((((((g222 1 18).resolve_left (by exact gz_m 224 (by omega))).trans ((g203 1 18).resolve_left (by exact gz_m 225 (by omega)))).trans ((g187 1 18).resolve_left (by exact gz_m 226 (by omega)))).trans ((g171 1 18).resolve_left (by exact gz_m 227 (by omega)))))⟩
      · show gv_X _ _ (80, [(4, .inl (-1)), (3, .inl z220), (1, .inr (.inl (J 23 9))), (0, .inr (.inr (some 39)))], [], sh, gc_h sh I224 J225 A)
        refine gv_run 2 true hD (pc' := 82) (lv' := [(4, .inl (-1)), (3, .inl z220), (1, .inr (.inl (J 23 9))), (0, .inr (.inr (some 39)))]) (st' := [.inr (.inr (some 39)), .inr (.inr (some 39))]) (h' := gc_h sh I224 J225 A) (C := ((True ∧ True) ∧ True)) rfl ⟨⟨trivial, trivial⟩, trivial⟩ ?_
        refine gv_get hD rfl rfl S_39 ⟨by decide, B_39⟩ (gc_hA S_39 rfl A_39_0) ?_
        show gv_X _ _ (85, [(4, .inl (-1)), (3, .inl z220), (1, .inr (.inl (J 23 9))), (0, .inr (.inr (some 39)))], [.inr (.inr (some 1)), .inr (.inr (some 39))], sh, gc_h sh I224 J225 A)
        refine gv_get hD rfl rfl S_1 ⟨by decide, B_1⟩ (gc_hA S_1 rfl A_1_2) ?_
        show gv_X _ _ (88, [(4, .inl (-1)), (3, .inl z220), (1, .inr (.inl (J 23 9))), (0, .inr (.inr (some 39)))], [.inr (.inr (some 6)), .inr (.inr (some 39))], sh, gc_h sh I224 J225 A)
        obtain ⟨r240, h240, E240, P240⟩ := d_X6_needKnown_p (ws0 := ws0) (tb := tb) hws htb sh ro I224 J225 A hI224  8 6 β η ((gs_X β η (gs_X β η p9))) 6 hb (gc_b6 hb)   A236 (by exact gz_m 228 (by omega)) 
        obtain ⟨I241, J242, rfl, hI241, g240, k240, ⟨z240, rfl, q240⟩⟩ := P240
        have FI241 := gc_frc (W := fun q j => (q = 39 ∧ j = 3) ∨ (q = 39 ∧ j = 4) ∨ (q = 23 ∧ j = 5) ∨ (q = 23 ∧ j = 6) ∨ (q = 23 ∧ j = 7) ∨ (q = 23 ∧ j = 8) ∨ q = 19 ∨ (q = 1 ∧ j = 13)) (V := fun q j => (q = 39 ∧ j = 3) ∨ (q = 39 ∧ j = 4)) FI224 (fun q j h => (h.elim (fun h => (Or.inl h)) (fun h => (Or.inr (Or.inl h))))) g240
        have t243 := (g240 23 1).resolve_left (fun h => h.elim (fun h => absurd h.2 (by decide)) (fun h => absurd h.2 (by decide)))
        have t244 := (g240 23 5).resolve_left (fun h => h.elim (fun h => absurd h.2 (by decide)) (fun h => absurd h.2 (by decide)))
        have t245 := (g240 23 6).resolve_left (fun h => h.elim (fun h => absurd h.2 (by decide)) (fun h => absurd h.2 (by decide)))
        have t246 := (g240 23 7).resolve_left (fun h => h.elim (fun h => absurd h.2 (by decide)) (fun h => absurd h.2 (by decide)))
        have t247 := (g240 1 13).resolve_left (fun h => h.elim (fun h => absurd h.2 (by decide)) (fun h => absurd h.2 (by decide)))
        have t248 := (g240 6 1).resolve_left (fun h => h.elim (fun h => absurd h.2 (by decide)) (fun h => absurd h.2 (by decide)))
        have t249 := (g240 39 5).resolve_left (fun h => h.elim (fun h => absurd h.2 (by decide)) (fun h => absurd h.2 (by decide)))
        have t250 := (g240 1 18).resolve_left (fun h => h.elim (fun h => absurd h.2 (by decide)) (fun h => absurd h.2 (by decide)))
        have t251 := (g240 1 13).resolve_left (fun h => h.elim (fun h => absurd h.2 (by decide)) (fun h => absurd h.2 (by decide)))
        obtain rfl : J225 = J242 := funext fun q => funext fun j => ((k240 q j).resolve_left id).symm
        have KLT_I241 := gc_LT_fr KLT_I224 ((g240 23 5).resolve_left (fun h => h.elim (fun h => absurd h.2 (by decide)) (fun h => absurd h.2 (by decide)))) ((g240 23 6).resolve_left (fun h => h.elim (fun h => absurd h.2 (by decide)) (fun h => absurd h.2 (by decide)))) ((g240 23 7).resolve_left (fun h => h.elim (fun h => absurd h.2 (by decide)) (fun h => absurd h.2 (by decide)))) (fun k => (g240 24 k).resolve_left (fun h => h.elim (fun h => absurd h.1 (by decide)) (fun h => absurd h.1 (by decide))))
        have KTK_I241 := gc_TK_fr KTK_I224 ((g240 23 1).resolve_left (fun h => h.elim (fun h => absurd h.2 (by decide)) (fun h => absurd h.2 (by decide)))) ((g240 23 5).resolve_left (fun h => h.elim (fun h => absurd h.2 (by decide)) (fun h => absurd h.2 (by decide)))) ((g240 23 6).resolve_left (fun h => h.elim (fun h => absurd h.2 (by decide)) (fun h => absurd h.2 (by decide)))) ((g240 23 7).resolve_left (fun h => h.elim (fun h => absurd h.2 (by decide)) (fun h => absurd h.2 (by decide))))
        have A252 := gc_AT_I A236 ((g240 23 1).resolve_left (fun h => h.elim (fun h => absurd h.2 (by decide)) (fun h => absurd h.2 (by decide)))) ((g240 23 5).resolve_left (fun h => h.elim (fun h => absurd h.2 (by decide)) (fun h => absurd h.2 (by decide)))) ((g240 23 6).resolve_left (fun h => h.elim (fun h => absurd h.2 (by decide)) (fun h => absurd h.2 (by decide)))) ((g240 23 7).resolve_left (fun h => h.elim (fun h => absurd h.2 (by decide)) (fun h => absurd h.2 (by decide)))) ((g240 23 8).resolve_left (fun h => h.elim (fun h => absurd h.2 (by decide)) (fun h => absurd h.2 (by decide)))) (fun k => (g240 24 k).resolve_left (fun h => h.elim (fun h => absurd h.1 (by decide)) (fun h => absurd h.1 (by decide))))
        have t253 := gc_AT_l A252
        refine gv_callV hD rfl (As := [.inr (.inr (some 6))]) (st := []) rfl B_39 S_39 rfl (gc_lV6 hws rfl) (Nat.le_of_ble_eq_true rfl) (gz_Ev_mono (d := 3) (by decide) E240) ?_
        show gv_X _ _ (91, [(4, .inl (-1)), (3, .inl z220), (1, .inr (.inl (J 23 9))), (0, .inr (.inr (some 39)))], [.inl z240], sh, gc_h sh I241 J225 A)
        refine gv_if_ne (t := 96) hD rfl rfl ⟨by exact gz_m 229 (by omega), by exact gz_m 230 (by omega)⟩ (fun c254 => ?_) (fun c254 => ?_)
        · show gv_X _ _ (96, [(4, .inl (-1)), (3, .inl z220), (1, .inr (.inl (J 23 9))), (0, .inr (.inr (some 39)))], [], sh, gc_h sh I241 J225 A)
          have u255 := gs_or1 q240.2.2.2 (by exact gz_m 231 (by omega))
          have L240 : gs_T β η (gs_X β η (gs_X β η p9)) = 1 → gc_fd (J225 (6 + 1)) (gs_M β η (gs_X β η (gs_X β η p9))) (Int.toNat (I224 6 1)) = gs_lk Ir Jr 4 4 (gs_rn β η (gs_X β η (gs_X β η p9))) := (fun h => by rw [show I224 6 1 = I 6 1 from (((((g222 6 1).resolve_left (by exact gz_m 232 (by omega))).trans ((g203 6 1).resolve_left (by exact gz_m 233 (by omega)))).trans ((g187 6 1).resolve_left (by exact gz_m 234 (by omega)))).trans ((g171 6 1).resolve_left (by exact gz_m 235 (by omega)))), show J225 (6 + 1) = J (6 + 1) from funext fun j => (((k222 7 j).resolve_left (by exact gz_m 236 (by omega))).trans ((k187 7 j).resolve_left (by exact gz_m 237 (by omega))))]; exact gs_NA_lk x6 x5 h)
          have t256 := L240 (by exact gz_m 238 (by omega))
          refine gv_run 1 true hD (pc' := 97) (lv' := [(4, .inl (-1)), (3, .inl z220), (1, .inr (.inl (J 23 9))), (0, .inr (.inr (some 39)))]) (st' := [.inr (.inr (some 39))]) (h' := gc_h sh I241 J225 A) (C := (True ∧ True)) rfl ⟨trivial, trivial⟩ ?_
          refine gv_get hD rfl rfl S_39 ⟨by decide, B_39⟩ (gc_hA S_39 rfl A_39_0) ?_
          show gv_X _ _ (100, [(4, .inl (-1)), (3, .inl z220), (1, .inr (.inl (J 23 9))), (0, .inr (.inr (some 39)))], [.inr (.inr (some 1))], sh, gc_h sh I241 J225 A)
          refine gv_get hD rfl rfl S_1 ⟨by decide, B_1⟩ (gc_hA S_1 rfl A_1_2) ?_
          show gv_X _ _ (103, [(4, .inl (-1)), (3, .inl z220), (1, .inr (.inl (J 23 9))), (0, .inr (.inr (some 39)))], [.inr (.inr (some 6))], sh, gc_h sh I241 J225 A)
          refine gv_run 1 true hD (pc' := 104) (lv' := [(4, .inl (-1)), (3, .inl z220), (1, .inr (.inl (J 23 9))), (0, .inr (.inr (some 39)))]) (st' := [.inr (.inr (some 39)), .inr (.inr (some 6))]) (h' := gc_h sh I241 J225 A) (C := (True ∧ True)) rfl ⟨trivial, trivial⟩ ?_
          refine gv_get hD rfl rfl S_39 ⟨by decide, B_39⟩ (gc_hA S_39 rfl A_39_1) ?_
          show gv_X _ _ (107, [(4, .inl (-1)), (3, .inl z220), (1, .inr (.inl (J 23 9))), (0, .inr (.inr (some 39)))], [.inr (.inr (some 23)), .inr (.inr (some 6))], sh, gc_h sh I241 J225 A)
          refine gv_get hD rfl rfl S_23 ⟨by decide, B_23⟩ (gc_hJ S_23 rfl) ?_
          show gv_X _ _ (110, [(4, .inl (-1)), (3, .inl z220), (1, .inr (.inl (J 23 9))), (0, .inr (.inr (some 39)))], [.inr (.inl (J225 23 9)), .inr (.inr (some 6))], sh, gc_h sh I241 J225 A)
          obtain ⟨r257, h257, E257, P257⟩ := d_X4_find (ws0 := ws0) (tb := tb) hws htb sh ro I241 J225 A hI241 6 8 6 (J225 23 9) (gc_b6 hb)     
          obtain ⟨rfl, ⟨z257, rfl, q257⟩⟩ := P257
          have t258 : z257 = gs_lk Ir Jr 4 4 (gs_rn β η (gs_X β η (gs_X β η p9))) := q257.2.2.2.trans (by rw [gc_AT_m A252 (by exact gz_m 239 (by omega))]; exact (show gs_T β η (gs_X β η (gs_X β η p9)) = 1 → gc_fd (J225 (6 + 1)) (gs_M β η (gs_X β η (gs_X β η p9))) (Int.toNat (I241 6 1)) = gs_lk Ir Jr 4 4 (gs_rn β η (gs_X β η (gs_X β η p9))) from (fun h => by rw [show I241 6 1 = I 6 1 from ((((((g240 6 1).resolve_left (by exact gz_m 240 (by omega))).trans ((g222 6 1).resolve_left (by exact gz_m 241 (by omega)))).trans ((g203 6 1).resolve_left (by exact gz_m 242 (by omega)))).trans ((g187 6 1).resolve_left (by exact gz_m 243 (by omega)))).trans ((g171 6 1).resolve_left (by exact gz_m 244 (by omega)))), show J225 (6 + 1) = J (6 + 1) from funext fun j => (((k222 7 j).resolve_left (by exact gz_m 245 (by omega))).trans ((k187 7 j).resolve_left (by exact gz_m 246 (by omega))))]; exact gs_NA_lk x6 x5 h)) (by exact gz_m 247 (by omega)))
          refine gv_callV hD rfl (As := [.inr (.inl (J225 23 9))]) (st := []) rfl B_6 S_6 rfl (gc_lV6 hws rfl) (Nat.le_of_ble_eq_true rfl) (gz_Ev_mono (d := 1) (by decide) E257) ?_
          show gv_X _ _ (113, [(4, .inl (-1)), (3, .inl z220), (1, .inr (.inl (J 23 9))), (0, .inr (.inr (some 39)))], [.inl z257], sh, gc_h sh I241 J225 A)
          refine gv_run 2 true hD (pc' := 116) (lv' := [(4, .inl z257), (3, .inl z220), (1, .inr (.inl (J 23 9))), (0, .inr (.inr (some 39)))]) (st' := [.inr (.inr (some 39))]) (h' := gc_h sh I241 J225 A) (C := ((True ∧ True) ∧ True)) rfl ⟨⟨trivial, trivial⟩, trivial⟩ ?_
          refine gv_get hD rfl rfl S_39 ⟨by decide, B_39⟩ (gc_hA S_39 rfl A_39_1) ?_
          show gv_X _ _ (119, [(4, .inl z257), (3, .inl z220), (1, .inr (.inl (J 23 9))), (0, .inr (.inr (some 39)))], [.inr (.inr (some 23))], sh, gc_h sh I241 J225 A)
          have t260 := gc_TK_nx KTK_I241 (by exact gz_m 248 (by omega))
          obtain ⟨r259, h259, E259, P259⟩ := d_X9_advance_p (ws0 := ws0) (tb := tb) hws htb sh ro I241 J225 A hI241 23 β η  (gc_b23 hb)    (by exact gz_m 249 (by omega)) A252.1.1 A252.1.2 
          obtain ⟨I261, J262, rfl, hI261, g259, k259, ⟨rfl, V259_0, V259_1, V259_2, V259_3, V259_4, q259⟩⟩ := P259
          have FI261 := gc_frc (W := fun q j => (q = 39 ∧ j = 3) ∨ (q = 39 ∧ j = 4) ∨ (q = 23 ∧ j = 5) ∨ (q = 23 ∧ j = 6) ∨ (q = 23 ∧ j = 7) ∨ (q = 23 ∧ j = 8) ∨ q = 19 ∨ (q = 1 ∧ j = 13)) (V := fun q j => (q = 23 ∧ j = 5) ∨ (q = 23 ∧ j = 6) ∨ (q = 23 ∧ j = 7) ∨ (q = 23 ∧ j = 8)) FI241 (fun q j h => (h.elim (fun h => (Or.inr (Or.inr (Or.inl h)))) (fun h => (h.elim (fun h => (Or.inr (Or.inr (Or.inr (Or.inl h))))) (fun h => (h.elim (fun h => (Or.inr (Or.inr (Or.inr (Or.inr (Or.inl h)))))) (fun h => (Or.inr (Or.inr (Or.inr (Or.inr (Or.inr (Or.inl h))))))))))))) g259
          have FJ262 := gc_frc (W := fun q j => (q = 23 ∧ j = 9) ∨ q = 18) (V := fun q j => (q = 23 ∧ j = 9)) FJ225 (fun q j h => (Or.inl h)) k259
          have t263 := (g259 23 1).resolve_left (fun h => h.elim (fun h => absurd h.2 (by decide)) (fun h => h.elim (fun h => absurd h.2 (by decide)) (fun h => h.elim (fun h => absurd h.2 (by decide)) (fun h => absurd h.2 (by decide)))))
          have t264 := (g259 1 13).resolve_left (fun h => h.elim (fun h => absurd h.2 (by decide)) (fun h => h.elim (fun h => absurd h.2 (by decide)) (fun h => h.elim (fun h => absurd h.2 (by decide)) (fun h => absurd h.2 (by decide)))))
          have t265 := (g259 6 1).resolve_left (fun h => h.elim (fun h => absurd h.2 (by decide)) (fun h => h.elim (fun h => absurd h.2 (by decide)) (fun h => h.elim (fun h => absurd h.2 (by decide)) (fun h => absurd h.2 (by decide)))))
          have t266 := (g259 39 5).resolve_left (fun h => h.elim (fun h => absurd h.1 (by decide)) (fun h => h.elim (fun h => absurd h.2 (by decide)) (fun h => h.elim (fun h => absurd h.2 (by decide)) (fun h => absurd h.2 (by decide)))))
          have t267 := (g259 1 18).resolve_left (fun h => h.elim (fun h => absurd h.2 (by decide)) (fun h => h.elim (fun h => absurd h.2 (by decide)) (fun h => h.elim (fun h => absurd h.2 (by decide)) (fun h => absurd h.2 (by decide)))))
          have t268 := (g259 1 13).resolve_left (fun h => h.elim (fun h => absurd h.2 (by decide)) (fun h => h.elim (fun h => absurd h.2 (by decide)) (fun h => h.elim (fun h => absurd h.2 (by decide)) (fun h => absurd h.2 (by decide)))))
          have f269 := (show 0 ≤ I261 23 5 ∧ I261 23 5 ≤ 1000 from gc_in hI261 R_23 rfl rfl)
          have f270 := (show 0 ≤ I261 23 6 ∧ I261 23 6 ≤ 1001 from gc_in hI261 R_23 rfl rfl)
          have f271 := (show 0 ≤ I261 23 7 ∧ I261 23 7 ≤ 125 from gc_in hI261 R_23 rfl rfl)
          have KLT_I261 : gc_LT I261 := q259.2.2.1
          have KTK_I261 : gc_TK I261 := And.intro V259_0 (And.intro V259_1 (And.intro V259_2 (And.intro V259_3 V259_4)))
          have t272 := gc_TK_mo KTK_I261
          clear V259_0 V259_1 V259_2 V259_3 V259_4
          have A273 := gc_AT_nx A252 q259.2.2.2
          have t274 := gc_AT_l A273
          refine gv_callV hD rfl (As := []) (st := []) rfl B_23 S_23 rfl (gc_lV6 hws rfl) (Nat.le_of_ble_eq_true rfl) (gz_Ev_mono (d := 2) (by decide) E259) ?_
          show gv_X _ _ (122, [(4, .inl z257), (3, .inl z220), (1, .inr (.inl (J 23 9))), (0, .inr (.inr (some 39)))], [], sh, gc_h sh I261 J262 A)
          refine gv_pick [3, 2, 1, 0] rfl ?_
          exact L122 I261 J262 (J 23 9) z220 z257 ((gs_X β η (gs_X β η (gs_X β η p9)))) hI261 FI261 FJ262 KLT_I261 KTK_I261 (by exact gz_m 250 (by omega)) A273 tM (by unfold gs_fact gs_fact2; (repeat first | rw [if_pos (by exact gz_m 251 (by omega))] | rw [if_neg (by exact gz_m 252 (by omega))]); rw [show (gs_lk Ir Jr 4 4 (gs_rn β η (gs_X β η p9))) = z220 from by exact gz_m 253 (by omega), show gs_lk Ir Jr 4 4 (gs_rn β η (gs_X β η (gs_X β η p9))) = z257 from by exact gz_m 254 (by omega)]) (by exact gz_m 255 (by omega)) (by unfold gs_fb; (repeat first | rw [if_pos (by exact gz_m 256 (by omega))] | rw [if_neg (by exact gz_m 257 (by omega))]); try exact gz_m 258 (by omega)) (by exact gz_m 259 (by omega)) ⟨(fun k => (((((((g259 19 k).resolve_left (by exact gz_m 260 (by omega))).trans ((g240 19 k).resolve_left (by exact gz_m 261 (by omega)))).trans ((g222 19 k).resolve_left (by exact gz_m 262 (by omega)))).trans ((g203 19 k).resolve_left (by exact gz_m 263 (by omega)))).trans ((g187 19 k).resolve_left (by exact gz_m 264 (by omega)))).trans ((g171 19 k).resolve_left (by exact gz_m 265 (by omega))))), (fun k => ((((k259 18 k).resolve_left (by exact gz_m 266 (by omega))).trans ((k222 18 k).resolve_left (by exact gz_m 267 (by omega)))).trans ((k187 18 k).resolve_left (by exact gz_m 268 (by omega))))), ((((((((g259 1 13).resolve_left (by exact gz_m 269 (by omega))).trans ((g240 1 13).resolve_left (by exact gz_m 270 (by omega)))).trans ((g222 1 13).resolve_left (by exact gz_m 271 (by omega)))).trans ((g203 1 13).resolve_left (by exact gz_m 272 (by omega)))).trans ((g187 1 13).resolve_left (by exact gz_m 273 (by omega)))).trans ((g171 1 13).resolve_left (by exact gz_m 274 (by omega))))), ((((((((g259 39 5).resolve_left (by exact gz_m 275 (by omega))).trans ((g240 39 5).resolve_left (by exact gz_m 276 (by omega)))).trans ((g222 39 5).resolve_left (by exact gz_m 277 (by omega)))).trans ((g203 39 5).resolve_left (by exact gz_m 278 (by omega)))).trans ((g187 39 5).resolve_left (by exact gz_m 279 (by omega)))).trans ((g171 39 5).resolve_left (by exact gz_m 280 (by omega))))), ((((((((g259 1 18).resolve_left (by exact gz_m 281 (by omega))).trans ((g240 1 18).resolve_left (by exact gz_m 282 (by omega)))).trans ((g222 1 18).resolve_left (by exact gz_m 283 (by omega)))).trans ((g203 1 18).resolve_left (by exact gz_m 284 (by omega)))).trans ((g187 1 18).resolve_left (by exact gz_m 285 (by omega)))).trans ((g171 1 18).resolve_left (by exact gz_m 286 (by omega)))))⟩
        · show gv_X _ _ (94, [(4, .inl (-1)), (3, .inl z220), (1, .inr (.inl (J 23 9))), (0, .inr (.inr (some 39)))], [], sh, gc_h sh I241 J225 A)
          have u275 := gs_or0 q240.2.2.2 (by exact gz_m 287 (by omega))
          have L240 : gs_T β η (gs_X β η (gs_X β η p9)) = 1 → gc_fd (J225 (6 + 1)) (gs_M β η (gs_X β η (gs_X β η p9))) (Int.toNat (I224 6 1)) = gs_lk Ir Jr 4 4 (gs_rn β η (gs_X β η (gs_X β η p9))) := (fun h => by rw [show I224 6 1 = I 6 1 from (((((g222 6 1).resolve_left (by exact gz_m 288 (by omega))).trans ((g203 6 1).resolve_left (by exact gz_m 289 (by omega)))).trans ((g187 6 1).resolve_left (by exact gz_m 290 (by omega)))).trans ((g171 6 1).resolve_left (by exact gz_m 291 (by omega)))), show J225 (6 + 1) = J (6 + 1) from funext fun j => (((k222 7 j).resolve_left (by exact gz_m 292 (by omega))).trans ((k187 7 j).resolve_left (by exact gz_m 293 (by omega))))]; exact gs_NA_lk x6 x5 h)
          refine gv_run 1 true hD (pc' := 95) (lv' := [(4, .inl (-1)), (3, .inl z220), (1, .inr (.inl (J 23 9))), (0, .inr (.inr (some 39)))]) (st' := [.inl 0]) (h' := gc_h sh I241 J225 A) (C := (True ∧ True)) rfl ⟨trivial, trivial⟩ ?_
          exact gv_zret hD rfl (by exact gz_m 294 (by omega)) ⟨I241, J225, rfl, hI241, FI241, FJ225, KLT_I241, KTK_I241, ⟨_, rfl, by exact gz_m 295 (by omega), by exact gz_m 296 (by omega), by exact gz_m 297 (by omega), by exact gz_m 298 (by omega), (Or.inr ⟨by exact gz_m 299 (by omega), by first | (exfalso; exact gz_m 300 (by omega)) | (unfold gs_fact gs_fact2; by_cases c9 : gs_T β η (gs_X β η (gs_X β η p9)) = 1; (have h9 := L240 c9; (repeat first | rw [if_pos (by exact gz_m 301 (by omega))] | rw [if_neg (by exact gz_m 302 (by omega))]); exact ⟨by exact gz_m 303 (by omega), by exact gz_m 304 (by omega), ((((((g240 1 13).resolve_left (by exact gz_m 305 (by omega))).trans ((g222 1 13).resolve_left (by exact gz_m 306 (by omega)))).trans ((g203 1 13).resolve_left (by exact gz_m 307 (by omega)))).trans ((g187 1 13).resolve_left (by exact gz_m 308 (by omega)))).trans ((g171 1 13).resolve_left (by exact gz_m 309 (by omega)))), (fun j => (((k222 18 j).resolve_left (by exact gz_m 310 (by omega))).trans ((k187 18 j).resolve_left (by exact gz_m 311 (by omega))))), fun j => ((((((g240 19 j).resolve_left (by exact gz_m 312 (by omega))).trans ((g222 19 j).resolve_left (by exact gz_m 313 (by omega)))).trans ((g203 19 j).resolve_left (by exact gz_m 314 (by omega)))).trans ((g187 19 j).resolve_left (by exact gz_m 315 (by omega)))).trans ((g171 19 j).resolve_left (by exact gz_m 316 (by omega))))⟩); (repeat first | rw [if_pos (by exact gz_m 317 (by omega))] | rw [if_neg (by exact gz_m 318 (by omega))]); exact ⟨by exact gz_m 319 (by omega), by exact gz_m 320 (by omega), ((((((g240 1 13).resolve_left (by exact gz_m 321 (by omega))).trans ((g222 1 13).resolve_left (by exact gz_m 322 (by omega)))).trans ((g203 1 13).resolve_left (by exact gz_m 323 (by omega)))).trans ((g187 1 13).resolve_left (by exact gz_m 324 (by omega)))).trans ((g171 1 13).resolve_left (by exact gz_m 325 (by omega)))), (fun j => (((k222 18 j).resolve_left (by exact gz_m 326 (by omega))).trans ((k187 18 j).resolve_left (by exact gz_m 327 (by omega))))), fun j => ((((((g240 19 j).resolve_left (by exact gz_m 328 (by omega))).trans ((g222 19 j).resolve_left (by exact gz_m 329 (by omega)))).trans ((g203 19 j).resolve_left (by exact gz_m 330 (by omega)))).trans ((g187 19 j).resolve_left (by exact gz_m 331 (by omega)))).trans ((g171 19 j).resolve_left (by exact gz_m 332 (by omega))))⟩)⟩)⟩⟩
    · show gv_X _ _ (39, [(1, .inr (.inl (J 23 9))), (0, .inr (.inr (some 39)))], [], sh, gc_h sh I204 J190 A)
      have u276 := gs_or0 q203.2.2.2 (by exact gz_m 333 (by omega))
      have L203 : gs_T β η (gs_X β η p9) = 1 → gc_fd (J190 (6 + 1)) (gs_M β η (gs_X β η p9)) (Int.toNat (I189 6 1)) = gs_lk Ir Jr 4 4 (gs_rn β η (gs_X β η p9)) := (fun h => by rw [show I189 6 1 = I 6 1 from (((g187 6 1).resolve_left (by exact gz_m 334 (by omega))).trans ((g171 6 1).resolve_left (by exact gz_m 335 (by omega)))), show J190 (6 + 1) = J (6 + 1) from funext fun j => ((k187 7 j).resolve_left (by exact gz_m 336 (by omega)))]; exact gs_NA_lk x6 x5 h)
      refine gv_run 1 true hD (pc' := 40) (lv' := [(1, .inr (.inl (J 23 9))), (0, .inr (.inr (some 39)))]) (st' := [.inl 0]) (h' := gc_h sh I204 J190 A) (C := (True ∧ True)) rfl ⟨trivial, trivial⟩ ?_
      exact gv_zret hD rfl (by exact gz_m 337 (by omega)) ⟨I204, J190, rfl, hI204, FI204, FJ190, KLT_I204, KTK_I204, ⟨_, rfl, by exact gz_m 338 (by omega), by exact gz_m 339 (by omega), by exact gz_m 340 (by omega), by exact gz_m 341 (by omega), (Or.inr ⟨by exact gz_m 342 (by omega), by first | (exfalso; exact gz_m 343 (by omega)) | (unfold gs_fact gs_fact2; by_cases c9 : gs_T β η (gs_X β η p9) = 1; (have h9 := L203 c9; (repeat first | rw [if_pos (by exact gz_m 344 (by omega))] | rw [if_neg (by exact gz_m 345 (by omega))]); exact ⟨by exact gz_m 346 (by omega), by exact gz_m 347 (by omega), ((((g203 1 13).resolve_left (by exact gz_m 348 (by omega))).trans ((g187 1 13).resolve_left (by exact gz_m 349 (by omega)))).trans ((g171 1 13).resolve_left (by exact gz_m 350 (by omega)))), (fun j => ((k187 18 j).resolve_left (by exact gz_m 351 (by omega)))), fun j => ((((g203 19 j).resolve_left (by exact gz_m 352 (by omega))).trans ((g187 19 j).resolve_left (by exact gz_m 353 (by omega)))).trans ((g171 19 j).resolve_left (by exact gz_m 354 (by omega))))⟩); (repeat first | rw [if_pos (by exact gz_m 355 (by omega))] | rw [if_neg (by exact gz_m 356 (by omega))]); exact ⟨by exact gz_m 357 (by omega), by exact gz_m 358 (by omega), ((((g203 1 13).resolve_left (by exact gz_m 359 (by omega))).trans ((g187 1 13).resolve_left (by exact gz_m 360 (by omega)))).trans ((g171 1 13).resolve_left (by exact gz_m 361 (by omega)))), (fun j => ((k187 18 j).resolve_left (by exact gz_m 362 (by omega)))), fun j => ((((g203 19 j).resolve_left (by exact gz_m 363 (by omega))).trans ((g187 19 j).resolve_left (by exact gz_m 364 (by omega)))).trans ((g171 19 j).resolve_left (by exact gz_m 365 (by omega))))⟩)⟩)⟩⟩
  · show gv_X _ _ (8, [(0, .inr (.inr (some 39)))], [], sh, gc_h sh I172 J A)
    have u277 := gs_or0 q171.2.2.2 (by exact gz_m 366 (by omega))
    refine gv_run 1 true hD (pc' := 9) (lv' := [(0, .inr (.inr (some 39)))]) (st' := [.inl 0]) (h' := gc_h sh I172 J A) (C := (True ∧ True)) rfl ⟨trivial, trivial⟩ ?_
    exact gv_zret hD rfl (by exact gz_m 367 (by omega)) ⟨I172, J, rfl, hI172, FI172, FJ, KLT_I172, KTK_I172, ⟨_, rfl, by exact gz_m 368 (by omega), by exact gz_m 369 (by omega), by exact gz_m 370 (by omega), by exact gz_m 371 (by omega), (Or.inr ⟨by exact gz_m 372 (by omega), by first | (exfalso; exact gz_m 373 (by omega)) | (unfold gs_fact gs_fact2; (repeat first | rw [if_pos (by exact gz_m 374 (by omega))] | rw [if_neg (by exact gz_m 375 (by omega))]); exact ⟨by exact gz_m 376 (by omega), by exact gz_m 377 (by omega), ((g171 1 13).resolve_left (by exact gz_m 378 (by omega))), (fun j => rfl), fun j => ((g171 19 j).resolve_left (by exact gz_m 379 (by omega)))⟩)⟩)⟩⟩
