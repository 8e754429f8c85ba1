/-! PARITY, the class's side: what stays while nothing is read; the small readers -/
theorem gc_AT_I {β : Int → Int} {N q : Int} {I I' : gr_I} {J : gr_J} (h : gc_AT β N q 23 I J) (h1 : I' 23 1 = I 23 1) (h5 : I' 23 5 = I 23 5) (h6 : I' 23 6 = I 23 6) (h7 : I' 23 7 = I 23 7) (h8 : I' 23 8 = I 23 8) (h24 : ∀ k, I' 24 k = I 24 k) : gc_AT β N q 23 I' J := by
  have e : I' (23 + 1) = I (23 + 1) := funext h24
  unfold gc_AT at h ⊢
  rw [e, h1, h5, h6, h7, h8]
  exact h
theorem gc_AT_J {β : Int → Int} {N q : Int} {I : gr_I} {J J' : gr_J} (h : gc_AT β N q 23 I J) (h9 : J' 23 9 = J 23 9) : gc_AT β N q 23 I J' := by
  unfold gc_AT at h ⊢
  rw [h9]
  exact h
theorem gc_AT_nx {β : Int → Int} {N p : Int} {I I' : gr_I} {J J' : gr_J} (h : gc_AT β N p 23 I J) (q : gc_AT β N (I 23 6) 23 I' J') : gc_AT β N (gs_X β N p) 23 I' J' := by
  rw [← h.2.2.2.1]
  exact q
theorem gc_AT_l {β : Int → Int} {N p : Int} {I : gr_I} {J : gr_J} (h : gc_AT β N p 23 I J) : I 23 7 = gs_T β N p ∧ I 23 5 = gs_A β N p ∧ I 23 6 = gs_X β N p := ⟨h.2.1, h.2.2.1, h.2.2.2.1⟩
theorem gc_AT_v {β : Int → Int} {N p : Int} {I : gr_I} {J : gr_J} (h : gc_AT β N p 23 I J) (ht : gs_T β N p = 2) : I 23 8 = gs_V β N p := h.2.2.2.2.1 ht
theorem gc_AT_m {β : Int → Int} {N p : Int} {I : gr_I} {J : gr_J} (h : gc_AT β N p 23 I J) (ht : gs_T β N p = 1) : J 23 9 = gs_M β N p := h.2.2.2.2.2 ht
/-- 1 where the token is this NAME, packed as the class packs it -/
def gs_kwc (β : Int → Int) (N p : Int) (w : Int64) : Int := if gs_T β N p = 1 ∧ gs_M β N p = w then 1 else 0
theorem gs_kwc_kw {β : Int → Int} {N p : Int} {c w : Int64} (h : gs_al c w) : gs_kwc β N p c = gs_kw β N p w := by
  unfold gs_kwc gs_kw
  by_cases t : gs_T β N p = 1
  · have e := gs_al_eq (gs_al_p t) h
    by_cases m : gs_M β N p = c
    · rw [if_pos ⟨t, m⟩, if_pos ⟨t, e.mp m⟩]
    · rw [if_neg (fun q => m q.2), if_neg (fun q => m (e.mpr q.2))]
  · rw [if_neg (fun q => t q.1), if_neg (fun q => t q.1)]
theorem gs_kwc_1 {β : Int → Int} {N p : Int} {w : Int64} (h : gs_T β N p = 1) (g : gs_M β N p = w) : gs_kwc β N p w = 1 := if_pos ⟨h, g⟩
theorem gs_kwc_0 {β : Int → Int} {N p : Int} {w : Int64} (h : ¬ gs_T β N p = 1 ∨ ¬ gs_M β N p = w) : gs_kwc β N p w = 0 := if_neg (fun q => h.elim (fun u => u q.1) (fun u => u q.2))
/-- the words of the class -/
def gs_Wc (k : Nat) : Int64 := match k with
  | 80 => 0x746F6E677565
  | 81 => 0x6B696E64
  | 82 => 0x66756E
  | 83 => 0x66656174757265
  | 84 => 0x6C657474657273
  | 85 => 0x736F756E64
  | 86 => 0x7061747465726E
  | 87 => 0x776F7264
  | 88 => 0x6C696E
  | 89 => 0x6D65616E
  | 90 => 0x7468696E67
  | 91 => 0x66616374
  | 92 => 0x636F7374
  | 93 => 0x686173
  | 94 => 0x6F66
  | 95 => 0x6167726565
  | 96 => 0x67697665
  | _ => 0
theorem gs_W_al : ∀ k : Nat, 80 ≤ k → k ≤ 96 → gs_al (gs_Wc k) (gs_W k) := fun k h1 h2 => by
  have h : k = 80 ∨ k = 81 ∨ k = 82 ∨ k = 83 ∨ k = 84 ∨ k = 85 ∨ k = 86 ∨ k = 87 ∨ k = 88 ∨ k = 89 ∨ k = 90 ∨ k = 91 ∨ k = 92 ∨ k = 93 ∨ k = 94 ∨ k = 95 ∨ k = 96 := by omega
  rcases h with h | h | h | h | h | h | h | h | h | h | h | h | h | h | h | h | h <;> subst h
  · exact ⟨6, by decide, by decide +kernel, by decide +kernel⟩
  · exact ⟨4, by decide, by decide +kernel, by decide +kernel⟩
  · exact ⟨3, by decide, by decide +kernel, by decide +kernel⟩
  · exact ⟨7, by decide, by decide +kernel, by decide +kernel⟩
  · exact ⟨7, by decide, by decide +kernel, by decide +kernel⟩
  · exact ⟨5, by decide, by decide +kernel, by decide +kernel⟩
  · exact ⟨7, by decide, by decide +kernel, by decide +kernel⟩
  · exact ⟨4, by decide, by decide +kernel, by decide +kernel⟩
  · exact ⟨3, by decide, by decide +kernel, by decide +kernel⟩
  · exact ⟨4, by decide, by decide +kernel, by decide +kernel⟩
  · exact ⟨5, by decide, by decide +kernel, by decide +kernel⟩
  · exact ⟨4, by decide, by decide +kernel, by decide +kernel⟩
  · exact ⟨4, by decide, by decide +kernel, by decide +kernel⟩
  · exact ⟨3, by decide, by decide +kernel, by decide +kernel⟩
  · exact ⟨2, by decide, by decide +kernel, by decide +kernel⟩
  · exact ⟨5, by decide, by decide +kernel, by decide +kernel⟩
  · exact ⟨4, by decide, by decide +kernel, by decide +kernel⟩
theorem gs_need_z {β : Int → Int} {N c p : Int} (h : gs_need β N c p < 0) (hx : 0 ≤ gs_X β N p) : ¬ gs_T β N p = c ∧ gs_need β N c p = -1 - gs_A β N p := by
  by_cases c9 : gs_T β N p = c
  · have e : gs_need β N c p = gs_X β N p := if_pos c9
    omega
  · exact ⟨c9, if_neg c9⟩
set_option maxHeartbeats 8000000 in
set_option maxRecDepth 100000 in
theorem d_X6_wrong_p {ws0 : List Cond} {tb : String → gz_T} (hws : gc_Ws ws0) (htb : gc_tbs tb) (sh : gz_Sh) (ro : Nat → Nat) (I : gr_I) (J : gr_J) (A : gc_A) (hI : gc_Inv ro I) (a1 : Int) (a2 : Int) (hb : gc_Base sh ro A) (ha1 : 0 ≤ a1 ∧ a1 ≤ 6) (ha2 : 0 ≤ a2 ∧ a2 ≤ 1000)  : ∃ r h', gz_Ev ws0 tb 1 (yX6_wrong, cX6_wrong, 3, (some .boolean)) [.inr (.inr (some 39)), .inl a1, .inl a2] sh (gc_h sh I J A) r sh h' 0 0 ∧ (∃ (I' : gr_I) (J' : gr_J), h' = gc_h sh I' J' A ∧ gc_Inv ro I' ∧ (∀ q j : Nat, ((q = 39 ∧ j = 3) ∨ (q = 39 ∧ j = 4)) ∨ I' q j = I q j) ∧ (∀ q j : Nat, (False) ∨ J' q j = J q j) ∧ (∃ z : Int, r = some (.inl z) ∧ 0 ≤ z ∧ z ≤ 1 ∧ (z = 0) ∧ (I' 39 4 = a2))) := by
  have FI : ∀ q j : Nat, ((q = 39 ∧ j = 3) ∨ (q = 39 ∧ j = 4)) ∨ I q j = I q j := fun _ _ => Or.inr rfl
  have FJ : ∀ q j : Nat, (False) ∨ J q j = J q j := fun _ _ => Or.inr rfl
  have B_39 : 39 < 1000000 := by decide
  have R_39 : ro 39 = 42 := gc_bR hb (by decide) rfl
  have S_39 : sh[39]? = some (false, 6, 19) := gc_bS hb rfl
  have hD : gv_D (gc_E6 ws0 tb 0 (yX6_wrong, cX6_wrong, 3, (some .boolean)) kX6_wrong) := gq_of oX6_wrong
  refine gc_ev6 (d := 0) (l := kX6_wrong) (Po := fun r h' => (∃ (I' : gr_I) (J' : gr_J), h' = gc_h sh I' J' A ∧ gc_Inv ro I' ∧ (∀ q j : Nat, ((q = 39 ∧ j = 3) ∨ (q = 39 ∧ j = 4)) ∨ I' q j = I q j) ∧ (∀ q j : Nat, (False) ∨ J' q j = J q j) ∧ (∃ z : Int, r = some (.inl z) ∧ 0 ≤ z ∧ z ≤ 1 ∧ (z = 0) ∧ (I' 39 4 = a2)))) htb rfl (Nat.le_of_ble_eq_true rfl) ?_
  refine gv_run 2 true hD (pc' := 2) (lv' := [(0, .inr (.inr (some 39))), (1, .inl a1), (2, .inl a2)]) (st' := [.inl a1, .inr (.inr (some 39))]) (h' := gc_h sh I J A) (C := ((True ∧ True) ∧ True)) rfl ⟨⟨trivial, trivial⟩, trivial⟩ ?_
  refine gv_put hD rfl rfl S_39 ⟨by decide, B_39⟩ rfl trivial ?_
  refine gc_st (k := 3) hI S_39 rfl R_39 (lo := 0) (hi := 6) rfl rfl (by exact gz_m 0 (by omega)) (by exact gz_m 1 (by omega)) (fun I1 hI1 q2 p2 => ?_)
  have FI1 := gc_frs (W := fun q j => (q = 39 ∧ j = 3) ∨ (q = 39 ∧ j = 4)) FI (Or.inl ⟨rfl, rfl⟩) p2
  show gv_X _ _ (5, [(0, .inr (.inr (some 39))), (1, .inl a1), (2, .inl a2)], [], sh, gc_h sh I1 J A)
  refine gv_run 2 true hD (pc' := 7) (lv' := [(0, .inr (.inr (some 39))), (1, .inl a1), (2, .inl a2)]) (st' := [.inl a2, .inr (.inr (some 39))]) (h' := gc_h sh I1 J A) (C := ((True ∧ True) ∧ True)) rfl ⟨⟨trivial, trivial⟩, trivial⟩ ?_
  refine gv_put hD rfl rfl S_39 ⟨by decide, B_39⟩ rfl trivial ?_
  refine gc_st (k := 4) hI1 S_39 rfl R_39 (lo := 0) (hi := 1000) rfl rfl (by exact gz_m 2 (by omega)) (by exact gz_m 3 (by omega)) (fun I3 hI3 q4 p4 => ?_)
  have FI3 := gc_frs (W := fun q j => (q = 39 ∧ j = 3) ∨ (q = 39 ∧ j = 4)) FI1 (Or.inr ⟨rfl, rfl⟩) p4
  show gv_X _ _ (10, [(0, .inr (.inr (some 39))), (1, .inl a1), (2, .inl a2)], [], sh, gc_h sh I3 J A)
  refine gv_run 1 true hD (pc' := 11) (lv' := [(0, .inr (.inr (some 39))), (1, .inl a1), (2, .inl a2)]) (st' := [.inl 0]) (h' := gc_h sh I3 J A) (C := (True ∧ True)) rfl ⟨trivial, trivial⟩ ?_
  exact gv_zret hD rfl (by exact gz_m 4 (by omega)) ⟨I3, J, rfl, hI3, FI3, FJ, ⟨_, rfl, by exact gz_m 5 (by omega)⟩⟩
set_option maxHeartbeats 8000000 in
set_option maxRecDepth 100000 in
theorem d_X6_take_p {ws0 : List Cond} {tb : String → gz_T} (hws : gc_Ws ws0) (htb : gc_tbs tb) (sh : gz_Sh) (ro : Nat → Nat) (I : gr_I) (J : gr_J) (A : gc_A) (hI : gc_Inv ro I) (β : Int → Int) (η : Int) (p9 : Int) (a1 : Int) (hb : gc_Base sh ro A) (ha1 : 0 ≤ a1 ∧ a1 ≤ 125) (x0 : ¬ a1 = 5) (x1 : gc_AT β η p9 23 I J) (x2 : 0 ≤ p9) (KLT_I : gc_LT I) (KTK_I : gc_TK I) : ∃ r h', gz_Ev ws0 tb 3 (yX6_take, cX6_take, 2, (some .boolean)) [.inr (.inr (some 39)), .inl a1] sh (gc_h sh I J A) r sh h' 0 0 ∧ (∃ (I' : gr_I) (J' : gr_J), h' = gc_h sh I' J' A ∧ gc_Inv ro I' ∧ (∀ q j : Nat, ((q = 39 ∧ j = 3) ∨ (q = 39 ∧ j = 4) ∨ (q = 23 ∧ j = 5) ∨ (q = 23 ∧ j = 6) ∨ (q = 23 ∧ j = 7) ∨ (q = 23 ∧ j = 8)) ∨ I' q j = I q j) ∧ (∀ q j : Nat, ((q = 23 ∧ j = 9)) ∨ J' q j = J q j) ∧ gc_LT I' ∧ gc_TK I' ∧ (∃ z : Int, r = some (.inl z) ∧ 0 ≤ z ∧ z ≤ 1 ∧ (I' 23 1 = I 23 1) ∧ (I 23 5 ≤ I' 23 5) ∧ (z = 0 ∨ (I 23 7 = a1 ∧ I 23 6 ≤ I' 23 5)) ∧ (gs_Or z (0 ≤ (gs_need β η a1 p9) ∧ gc_AT β η (gs_need β η a1 p9) 23 I' J') ((gs_need β η a1 p9) < 0 ∧ I' 39 4 = -1 - (gs_need β η a1 p9))))) := by
  have FI : ∀ q j : Nat, ((q = 39 ∧ j = 3) ∨ (q = 39 ∧ j = 4) ∨ (q = 23 ∧ j = 5) ∨ (q = 23 ∧ j = 6) ∨ (q = 23 ∧ j = 7) ∨ (q = 23 ∧ j = 8)) ∨ I q j = I q j := fun _ _ => Or.inr rfl
  have FJ : ∀ q j : Nat, ((q = 23 ∧ j = 9)) ∨ J q j = J q j := fun _ _ => Or.inr rfl
  have A_39_1 : A 39 1 = some 23 := gc_bA hb rfl
  have B_23 : 23 < 1000000 := by decide
  have B_39 : 39 < 1000000 := by decide
  have R_23 : ro 23 = 3 := gc_bR hb (by decide) rfl
  have S_23 : sh[23]? = some (false, 9, 10) := gc_bS hb rfl
  have S_39 : sh[39]? = some (false, 6, 19) := gc_bS hb rfl
  have hD : gv_D (gc_E6 ws0 tb 2 (yX6_take, cX6_take, 2, (some .boolean)) kX6_take) := gq_of oX6_take
  refine gc_ev6 (d := 2) (l := kX6_take) (Po := fun r h' => (∃ (I' : gr_I) (J' : gr_J), h' = gc_h sh I' J' A ∧ gc_Inv ro I' ∧ (∀ q j : Nat, ((q = 39 ∧ j = 3) ∨ (q = 39 ∧ j = 4) ∨ (q = 23 ∧ j = 5) ∨ (q = 23 ∧ j = 6) ∨ (q = 23 ∧ j = 7) ∨ (q = 23 ∧ j = 8)) ∨ I' q j = I q j) ∧ (∀ q j : Nat, ((q = 23 ∧ j = 9)) ∨ J' q j = J q j) ∧ gc_LT I' ∧ gc_TK I' ∧ (∃ z : Int, r = some (.inl z) ∧ 0 ≤ z ∧ z ≤ 1 ∧ (I' 23 1 = I 23 1) ∧ (I 23 5 ≤ I' 23 5) ∧ (z = 0 ∨ (I 23 7 = a1 ∧ I 23 6 ≤ I' 23 5)) ∧ (gs_Or z (0 ≤ (gs_need β η a1 p9) ∧ gc_AT β η (gs_need β η a1 p9) 23 I' J') ((gs_need β η a1 p9) < 0 ∧ I' 39 4 = -1 - (gs_need β η a1 p9)))))) htb rfl (Nat.le_of_ble_eq_true rfl) ?_
  have t1 := gc_TK_mo KTK_I
  have f2 := (show 0 ≤ I 23 1 ∧ I 23 1 ≤ 1000 from gc_in hI R_23 rfl rfl)
  have f3 := (show 0 ≤ I 23 5 ∧ I 23 5 ≤ 1000 from gc_in hI R_23 rfl rfl)
  have f4 := (show 0 ≤ I 23 6 ∧ I 23 6 ≤ 1001 from gc_in hI R_23 rfl rfl)
  have f5 := (show 0 ≤ I 23 7 ∧ I 23 7 ≤ 125 from gc_in hI R_23 rfl rfl)
  have tAT := gc_AT_l x1
  refine gv_run 1 true hD (pc' := 1) (lv' := [(0, .inr (.inr (some 39))), (1, .inl a1)]) (st' := [.inr (.inr (some 39))]) (h' := gc_h sh I J A) (C := (True ∧ True)) rfl ⟨trivial, trivial⟩ ?_
  refine gv_get hD rfl rfl S_39 ⟨by decide, B_39⟩ (gc_hA S_39 rfl A_39_1) ?_
  show gv_X _ _ (4, [(0, .inr (.inr (some 39))), (1, .inl a1)], [.inr (.inr (some 23))], sh, gc_h sh I J A)
  have f6 := (show 0 ≤ I 23 7 ∧ I 23 7 ≤ 125 from gc_in hI R_23 rfl rfl)
  refine gv_get hD rfl rfl S_23 ⟨by decide, B_23⟩ (gc_hI S_23 rfl) ?_
  show gv_X _ _ (7, [(0, .inr (.inr (some 39))), (1, .inl a1)], [.inl (I 23 7)], sh, gc_h sh I J A)
  refine gv_run 1 true hD (pc' := 8) (lv' := [(0, .inr (.inr (some 39))), (1, .inl a1)]) (st' := [.inl a1, .inl (I 23 7)]) (h' := gc_h sh I J A) (C := (True ∧ True)) rfl ⟨trivial, trivial⟩ ?_
  refine gv_icmp_eq (t := 24) hD rfl rfl ⟨⟨by exact gz_m 0 (by omega), by exact gz_m 1 (by omega)⟩, ⟨by exact gz_m 2 (by omega), by exact gz_m 3 (by omega)⟩⟩ (fun c7 => ?_) (fun c7 => ?_)
  · show gv_X _ _ (24, [(0, .inr (.inr (some 39))), (1, .inl a1)], [], sh, gc_h sh I J A)
    refine gv_run 1 true hD (pc' := 25) (lv' := [(0, .inr (.inr (some 39))), (1, .inl a1)]) (st' := [.inr (.inr (some 39))]) (h' := gc_h sh I J A) (C := (True ∧ True)) rfl ⟨trivial, trivial⟩ ?_
    refine gv_get hD rfl rfl S_39 ⟨by decide, B_39⟩ (gc_hA S_39 rfl A_39_1) ?_
    show gv_X _ _ (28, [(0, .inr (.inr (some 39))), (1, .inl a1)], [.inr (.inr (some 23))], sh, gc_h sh I J A)
    have t9 := gc_TK_nx KTK_I (by exact gz_m 4 (by omega))
    obtain ⟨r8, h8, E8, P8⟩ := d_X9_advance_p (ws0 := ws0) (tb := tb) hws htb sh ro I J A hI 23 β η  (gc_b23 hb)    (by exact gz_m 5 (by omega)) x1.1.1 x1.1.2 
    obtain ⟨I10, J11, rfl, hI10, g8, k8, ⟨rfl, V8_0, V8_1, V8_2, V8_3, V8_4, q8⟩⟩ := P8
    have FI10 := gc_frc (W := fun q j => (q = 39 ∧ j = 3) ∨ (q = 39 ∧ j = 4) ∨ (q = 23 ∧ j = 5) ∨ (q = 23 ∧ j = 6) ∨ (q = 23 ∧ j = 7) ∨ (q = 23 ∧ j = 8)) (V := fun q j => (q = 23 ∧ j = 5) ∨ (q = 23 ∧ j = 6) ∨ (q = 23 ∧ j = 7) ∨ (q = 23 ∧ j = 8)) FI (fun q j h => (h.elim (fun h => (Or.inr (Or.inr (Or.inl h)))) (fun h => (h.elim (fun h => (Or.inr (Or.inr (Or.inr (Or.inl h))))) (fun h => (h.elim (fun h => (Or.inr (Or.inr (Or.inr (Or.inr (Or.inl h)))))) (fun h => (Or.inr (Or.inr (Or.inr (Or.inr (Or.inr h)))))))))))) g8
    have FJ11 := gc_frc (W := fun q j => (q = 23 ∧ j = 9)) (V := fun q j => (q = 23 ∧ j = 9)) FJ (fun q j h => h) k8
    have t12 := (g8 23 1).resolve_left (fun h => h.elim (fun h => absurd h.2 (by decide)) (fun h => h.elim (fun h => absurd h.2 (by decide)) (fun h => h.elim (fun h => absurd h.2 (by decide)) (fun h => absurd h.2 (by decide)))))
    have f13 := (show 0 ≤ I10 23 5 ∧ I10 23 5 ≤ 1000 from gc_in hI10 R_23 rfl rfl)
    have f14 := (show 0 ≤ I10 23 6 ∧ I10 23 6 ≤ 1001 from gc_in hI10 R_23 rfl rfl)
    have f15 := (show 0 ≤ I10 23 7 ∧ I10 23 7 ≤ 125 from gc_in hI10 R_23 rfl rfl)
    have KLT_I10 : gc_LT I10 := q8.2.2.1
    have KTK_I10 : gc_TK I10 := And.intro V8_0 (And.intro V8_1 (And.intro V8_2 (And.intro V8_3 V8_4)))
    have t16 := gc_TK_mo KTK_I10
    clear V8_0 V8_1 V8_2 V8_3 V8_4
    have A17 := gc_AT_nx x1 q8.2.2.2
    have t18 := gc_AT_l A17
    refine gv_callV hD rfl (As := []) (st := []) rfl B_23 S_23 rfl (gc_lV6 hws rfl) (Nat.le_of_ble_eq_true rfl) (gz_Ev_mono (d := 2) (by decide) E8) ?_
    show gv_X _ _ (31, [(0, .inr (.inr (some 39))), (1, .inl a1)], [], sh, gc_h sh I10 J11 A)
    refine gv_run 1 true hD (pc' := 32) (lv' := [(0, .inr (.inr (some 39))), (1, .inl a1)]) (st' := [.inl 1]) (h' := gc_h sh I10 J11 A) (C := (True ∧ True)) rfl ⟨trivial, trivial⟩ ?_
    exact gv_zret hD rfl (by exact gz_m 6 (by omega)) ⟨I10, J11, rfl, hI10, FI10, FJ11, KLT_I10, KTK_I10, ⟨_, rfl, by exact gz_m 7 (by omega), by exact gz_m 8 (by omega), by exact gz_m 9 (by omega), by exact gz_m 10 (by omega), by exact gz_m 11 (by omega), (Or.inl ⟨by exact gz_m 12 (by omega), by have e9 : (gs_need β η a1 p9) = (gs_X β η p9) := (by unfold gs_need; (repeat first | rw [if_pos (by exact gz_m 13 (by omega))] | rw [if_neg (by exact gz_m 14 (by omega))])); rw [e9]; exact ⟨by exact gz_m 15 (by omega), A17⟩⟩)⟩⟩
  · show gv_X _ _ (11, [(0, .inr (.inr (some 39))), (1, .inl a1)], [], sh, gc_h sh I J A)
    refine gv_run 3 true hD (pc' := 14) (lv' := [(0, .inr (.inr (some 39))), (1, .inl a1)]) (st' := [.inr (.inr (some 39)), .inl 1, .inr (.inr (some 39))]) (h' := gc_h sh I J A) (C := (((True ∧ True) ∧ True) ∧ True)) rfl ⟨⟨⟨trivial, trivial⟩, trivial⟩, trivial⟩ ?_
    refine gv_get hD rfl rfl S_39 ⟨by decide, B_39⟩ (gc_hA S_39 rfl A_39_1) ?_
    show gv_X _ _ (17, [(0, .inr (.inr (some 39))), (1, .inl a1)], [.inr (.inr (some 23)), .inl 1, .inr (.inr (some 39))], sh, gc_h sh I J A)
    have f19 := (show 0 ≤ I 23 5 ∧ I 23 5 ≤ 1000 from gc_in hI R_23 rfl rfl)
    refine gv_get hD rfl rfl S_23 ⟨by decide, B_23⟩ (gc_hI S_23 rfl) ?_
    show gv_X _ _ (20, [(0, .inr (.inr (some 39))), (1, .inl a1)], [.inl (I 23 5), .inl 1, .inr (.inr (some 39))], sh, gc_h sh I J A)
    obtain ⟨r20, h20, E20, P20⟩ := d_X6_wrong_p (ws0 := ws0) (tb := tb) hws htb sh ro I J A hI  1 (I 23 5) hb   ⟨by exact gz_m 16 (by omega), by exact gz_m 17 (by omega)⟩ ⟨by exact gz_m 18 (by omega), by exact gz_m 19 (by omega)⟩  
    obtain ⟨I21, J22, rfl, hI21, g20, k20, ⟨z20, rfl, q20⟩⟩ := P20
    have FI21 := gc_frc (W := fun q j => (q = 39 ∧ j = 3) ∨ (q = 39 ∧ j = 4) ∨ (q = 23 ∧ j = 5) ∨ (q = 23 ∧ j = 6) ∨ (q = 23 ∧ j = 7) ∨ (q = 23 ∧ j = 8)) (V := fun q j => (q = 39 ∧ j = 3) ∨ (q = 39 ∧ j = 4)) FI (fun q j h => (h.elim (fun h => (Or.inl h)) (fun h => (Or.inr (Or.inl h))))) g20
    have t23 := (g20 23 1).resolve_left (fun h => h.elim (fun h => absurd h.2 (by decide)) (fun h => absurd h.2 (by decide)))
    have t24 := (g20 23 5).resolve_left (fun h => h.elim (fun h => absurd h.2 (by decide)) (fun h => absurd h.2 (by decide)))
    have t25 := (g20 23 6).resolve_left (fun h => h.elim (fun h => absurd h.2 (by decide)) (fun h => absurd h.2 (by decide)))
    have t26 := (g20 23 7).resolve_left (fun h => h.elim (fun h => absurd h.2 (by decide)) (fun h => absurd h.2 (by decide)))
    obtain rfl : J = J22 := funext fun q => funext fun j => ((k20 q j).resolve_left id).symm
    have KLT_I21 := gc_LT_fr KLT_I ((g20 23 5).resolve_left (fun h => h.elim (fun h => absurd h.2 (by decide)) (fun h => absurd h.2 (by decide)))) ((g20 23 6).resolve_left (fun h => h.elim (fun h => absurd h.2 (by decide)) (fun h => absurd h.2 (by decide)))) ((g20 23 7).resolve_left (fun h => h.elim (fun h => absurd h.2 (by decide)) (fun h => absurd h.2 (by decide)))) (fun k => (g20 24 k).resolve_left (fun h => h.elim (fun h => absurd h.1 (by decide)) (fun h => absurd h.1 (by decide))))
    have KTK_I21 := gc_TK_fr KTK_I ((g20 23 1).resolve_left (fun h => h.elim (fun h => absurd h.2 (by decide)) (fun h => absurd h.2 (by decide)))) ((g20 23 5).resolve_left (fun h => h.elim (fun h => absurd h.2 (by decide)) (fun h => absurd h.2 (by decide)))) ((g20 23 6).resolve_left (fun h => h.elim (fun h => absurd h.2 (by decide)) (fun h => absurd h.2 (by decide)))) ((g20 23 7).resolve_left (fun h => h.elim (fun h => absurd h.2 (by decide)) (fun h => absurd h.2 (by decide))))
    have A27 := gc_AT_I x1 ((g20 23 1).resolve_left (fun h => h.elim (fun h => absurd h.2 (by decide)) (fun h => absurd h.2 (by decide)))) ((g20 23 5).resolve_left (fun h => h.elim (fun h => absurd h.2 (by decide)) (fun h => absurd h.2 (by decide)))) ((g20 23 6).resolve_left (fun h => h.elim (fun h => absurd h.2 (by decide)) (fun h => absurd h.2 (by decide)))) ((g20 23 7).resolve_left (fun h => h.elim (fun h => absurd h.2 (by decide)) (fun h => absurd h.2 (by decide)))) ((g20 23 8).resolve_left (fun h => h.elim (fun h => absurd h.2 (by decide)) (fun h => absurd h.2 (by decide)))) (fun k => (g20 24 k).resolve_left (fun h => h.elim (fun h => absurd h.1 (by decide)) (fun h => absurd h.1 (by decide))))
    have t28 := gc_AT_l A27
    refine gv_callV hD rfl (As := [.inl 1, .inl (I 23 5)]) (st := []) rfl B_39 S_39 rfl (gc_lV6 hws rfl) (Nat.le_of_ble_eq_true rfl) (gz_Ev_mono (d := 1) (by decide) E20) ?_
    show gv_X _ _ (23, [(0, .inr (.inr (some 39))), (1, .inl a1)], [.inl z20], sh, gc_h sh I21 J A)
    exact gv_zret hD rfl (by exact gz_m 20 (by omega)) ⟨I21, J, rfl, hI21, FI21, FJ, KLT_I21, KTK_I21, ⟨_, rfl, by exact gz_m 21 (by omega), by exact gz_m 22 (by omega), by exact gz_m 23 (by omega), by exact gz_m 24 (by omega), by exact gz_m 25 (by omega), (Or.inr ⟨by exact gz_m 26 (by omega), by unfold gs_need; (repeat first | rw [if_pos (by exact gz_m 27 (by omega))] | rw [if_neg (by exact gz_m 28 (by omega))]); exact ⟨by exact gz_m 29 (by omega), by exact gz_m 30 (by omega)⟩⟩)⟩⟩
set_option maxHeartbeats 8000000 in
set_option maxRecDepth 100000 in
theorem d_X6_need_p {ws0 : List Cond} {tb : String → gz_T} (hws : gc_Ws ws0) (htb : gc_tbs tb) (sh : gz_Sh) (ro : Nat → Nat) (I : gr_I) (J : gr_J) (A : gc_A) (hI : gc_Inv ro I) (β : Int → Int) (η : Int) (p9 : Int) (a1 : Int) (hb : gc_Base sh ro A) (ha1 : 0 ≤ a1 ∧ a1 ≤ 125) (x0 : gc_AT β η p9 23 I J) (x1 : 0 ≤ p9) : ∃ r h', gz_Ev ws0 tb 2 (yX6_need, cX6_need, 2, (some .boolean)) [.inr (.inr (some 39)), .inl a1] sh (gc_h sh I J A) r sh h' 0 0 ∧ (∃ (I' : gr_I) (J' : gr_J), h' = gc_h sh I' J' A ∧ gc_Inv ro I' ∧ (∀ q j : Nat, ((q = 39 ∧ j = 3) ∨ (q = 39 ∧ j = 4)) ∨ I' q j = I q j) ∧ (∀ q j : Nat, (False) ∨ J' q j = J q j) ∧ (∃ z : Int, r = some (.inl z) ∧ 0 ≤ z ∧ z ≤ 1 ∧ (z = 0 ∨ I 23 7 = a1) ∧ (gs_Or z (gs_T β η p9 = a1) (¬ gs_T β η p9 = a1 ∧ I' 39 4 = gs_A β η p9)))) := by
  have FI : ∀ q j : Nat, ((q = 39 ∧ j = 3) ∨ (q = 39 ∧ j = 4)) ∨ I q j = I q j := fun _ _ => Or.inr rfl
  have FJ : ∀ q j : Nat, (False) ∨ J q j = J q j := fun _ _ => Or.inr rfl
  have A_39_1 : A 39 1 = some 23 := gc_bA hb rfl
  have B_23 : 23 < 1000000 := by decide
  have B_39 : 39 < 1000000 := by decide
  have R_23 : ro 23 = 3 := gc_bR hb (by decide) rfl
  have S_23 : sh[23]? = some (false, 9, 10) := gc_bS hb rfl
  have S_39 : sh[39]? = some (false, 6, 19) := gc_bS hb rfl
  have hD : gv_D (gc_E6 ws0 tb 1 (yX6_need, cX6_need, 2, (some .boolean)) kX6_need) := gq_of oX6_need
  refine gc_ev6 (d := 1) (l := kX6_need) (Po := fun r h' => (∃ (I' : gr_I) (J' : gr_J), h' = gc_h sh I' J' A ∧ gc_Inv ro I' ∧ (∀ q j : Nat, ((q = 39 ∧ j = 3) ∨ (q = 39 ∧ j = 4)) ∨ I' q j = I q j) ∧ (∀ q j : Nat, (False) ∨ J' q j = J q j) ∧ (∃ z : Int, r = some (.inl z) ∧ 0 ≤ z ∧ z ≤ 1 ∧ (z = 0 ∨ I 23 7 = a1) ∧ (gs_Or z (gs_T β η p9 = a1) (¬ gs_T β η p9 = a1 ∧ I' 39 4 = gs_A β η p9))))) htb rfl (Nat.le_of_ble_eq_true rfl) ?_
  have f1 := (show 0 ≤ I 23 7 ∧ I 23 7 ≤ 125 from gc_in hI R_23 rfl rfl)
  have f2 := (show 0 ≤ I 23 5 ∧ I 23 5 ≤ 1000 from gc_in hI R_23 rfl rfl)
  have tAT := gc_AT_l x0
  refine gv_run 1 true hD (pc' := 1) (lv' := [(0, .inr (.inr (some 39))), (1, .inl a1)]) (st' := [.inr (.inr (some 39))]) (h' := gc_h sh I J A) (C := (True ∧ True)) rfl ⟨trivial, trivial⟩ ?_
  refine gv_get hD rfl rfl S_39 ⟨by decide, B_39⟩ (gc_hA S_39 rfl A_39_1) ?_
  show gv_X _ _ (4, [(0, .inr (.inr (some 39))), (1, .inl a1)], [.inr (.inr (some 23))], sh, gc_h sh I J A)
  have f3 := (show 0 ≤ I 23 7 ∧ I 23 7 ≤ 125 from gc_in hI R_23 rfl rfl)
  refine gv_get hD rfl rfl S_23 ⟨by decide, B_23⟩ (gc_hI S_23 rfl) ?_
  show gv_X _ _ (7, [(0, .inr (.inr (some 39))), (1, .inl a1)], [.inl (I 23 7)], sh, gc_h sh I J A)
  refine gv_run 1 true hD (pc' := 8) (lv' := [(0, .inr (.inr (some 39))), (1, .inl a1)]) (st' := [.inl a1, .inl (I 23 7)]) (h' := gc_h sh I J A) (C := (True ∧ True)) rfl ⟨trivial, trivial⟩ ?_
  refine gv_icmp_eq (t := 26) hD rfl rfl ⟨⟨by exact gz_m 0 (by omega), by exact gz_m 1 (by omega)⟩, ⟨by exact gz_m 2 (by omega), by exact gz_m 3 (by omega)⟩⟩ (fun c4 => ?_) (fun c4 => ?_)
  · show gv_X _ _ (26, [(0, .inr (.inr (some 39))), (1, .inl a1)], [], sh, gc_h sh I J A)
    refine gv_run 2 true hD (pc' := 31) (lv' := [(0, .inr (.inr (some 39))), (1, .inl a1)]) (st' := [.inl 1]) (h' := gc_h sh I J A) (C := ((True ∧ True) ∧ True)) rfl ⟨⟨trivial, trivial⟩, trivial⟩ ?_
    exact gv_zret hD rfl (by exact gz_m 4 (by omega)) ⟨I, J, rfl, hI, FI, FJ, ⟨_, rfl, by exact gz_m 5 (by omega), by exact gz_m 6 (by omega), by exact gz_m 7 (by omega), (Or.inl ⟨by exact gz_m 8 (by omega), by exact gz_m 9 (by omega)⟩)⟩⟩
  · show gv_X _ _ (11, [(0, .inr (.inr (some 39))), (1, .inl a1)], [], sh, gc_h sh I J A)
    refine gv_run 3 true hD (pc' := 14) (lv' := [(0, .inr (.inr (some 39))), (1, .inl a1)]) (st' := [.inr (.inr (some 39)), .inl 1, .inr (.inr (some 39))]) (h' := gc_h sh I J A) (C := (((True ∧ True) ∧ True) ∧ True)) rfl ⟨⟨⟨trivial, trivial⟩, trivial⟩, trivial⟩ ?_
    refine gv_get hD rfl rfl S_39 ⟨by decide, B_39⟩ (gc_hA S_39 rfl A_39_1) ?_
    show gv_X _ _ (17, [(0, .inr (.inr (some 39))), (1, .inl a1)], [.inr (.inr (some 23)), .inl 1, .inr (.inr (some 39))], sh, gc_h sh I J A)
    have f5 := (show 0 ≤ I 23 5 ∧ I 23 5 ≤ 1000 from gc_in hI R_23 rfl rfl)
    refine gv_get hD rfl rfl S_23 ⟨by decide, B_23⟩ (gc_hI S_23 rfl) ?_
    show gv_X _ _ (20, [(0, .inr (.inr (some 39))), (1, .inl a1)], [.inl (I 23 5), .inl 1, .inr (.inr (some 39))], sh, gc_h sh I J A)
    obtain ⟨r6, h6, E6, P6⟩ := d_X6_wrong_p (ws0 := ws0) (tb := tb) hws htb sh ro I J A hI  1 (I 23 5) hb   ⟨by exact gz_m 10 (by omega), by exact gz_m 11 (by omega)⟩ ⟨by exact gz_m 12 (by omega), by exact gz_m 13 (by omega)⟩  
    obtain ⟨I7, J8, rfl, hI7, g6, k6, ⟨z6, rfl, q6⟩⟩ := P6
    have FI7 := gc_frc (W := fun q j => (q = 39 ∧ j = 3) ∨ (q = 39 ∧ j = 4)) (V := fun q j => (q = 39 ∧ j = 3) ∨ (q = 39 ∧ j = 4)) FI (fun q j h => (h.elim (fun h => (Or.inl h)) (fun h => (Or.inr h)))) g6
    have t9 := (g6 23 7).resolve_left (fun h => h.elim (fun h => absurd h.2 (by decide)) (fun h => absurd h.2 (by decide)))
    have t10 := (g6 23 5).resolve_left (fun h => h.elim (fun h => absurd h.2 (by decide)) (fun h => absurd h.2 (by decide)))
    obtain rfl : J = J8 := funext fun q => funext fun j => ((k6 q j).resolve_left id).symm
    have A11 := gc_AT_I x0 ((g6 23 1).resolve_left (fun h => h.elim (fun h => absurd h.2 (by decide)) (fun h => absurd h.2 (by decide)))) ((g6 23 5).resolve_left (fun h => h.elim (fun h => absurd h.2 (by decide)) (fun h => absurd h.2 (by decide)))) ((g6 23 6).resolve_left (fun h => h.elim (fun h => absurd h.2 (by decide)) (fun h => absurd h.2 (by decide)))) ((g6 23 7).resolve_left (fun h => h.elim (fun h => absurd h.2 (by decide)) (fun h => absurd h.2 (by decide)))) ((g6 23 8).resolve_left (fun h => h.elim (fun h => absurd h.2 (by decide)) (fun h => absurd h.2 (by decide)))) (fun k => (g6 24 k).resolve_left (fun h => h.elim (fun h => absurd h.1 (by decide)) (fun h => absurd h.1 (by decide))))
    have t12 := gc_AT_l A11
    refine gv_callV hD rfl (As := [.inl 1, .inl (I 23 5)]) (st := []) rfl B_39 S_39 rfl (gc_lV6 hws rfl) (Nat.le_of_ble_eq_true rfl) (gz_Ev_mono (d := 1) (by decide) E6) ?_
    show gv_X _ _ (23, [(0, .inr (.inr (some 39))), (1, .inl a1)], [.inl z6], sh, gc_h sh I7 J A)
    refine gv_if_eq (t := 30) hD rfl rfl ⟨by exact gz_m 14 (by omega), by exact gz_m 15 (by omega)⟩ (fun c13 => ?_) (fun c13 => ?_)
    · show gv_X _ _ (30, [(0, .inr (.inr (some 39))), (1, .inl a1)], [], sh, gc_h sh I7 J A)
      refine gv_run 1 true hD (pc' := 31) (lv' := [(0, .inr (.inr (some 39))), (1, .inl a1)]) (st' := [.inl 0]) (h' := gc_h sh I7 J A) (C := (True ∧ True)) rfl ⟨trivial, trivial⟩ ?_
      exact gv_zret hD rfl (by exact gz_m 16 (by omega)) ⟨I7, J, rfl, hI7, FI7, FJ, ⟨_, rfl, by exact gz_m 17 (by omega), by exact gz_m 18 (by omega), by exact gz_m 19 (by omega), (Or.inr ⟨by exact gz_m 20 (by omega), by exact gz_m 21 (by omega), by exact gz_m 22 (by omega)⟩)⟩⟩
    · show gv_X _ _ (26, [(0, .inr (.inr (some 39))), (1, .inl a1)], [], sh, gc_h sh I7 J A)
      refine gv_run 2 true hD (pc' := 31) (lv' := [(0, .inr (.inr (some 39))), (1, .inl a1)]) (st' := [.inl 1]) (h' := gc_h sh I7 J A) (C := ((True ∧ True) ∧ True)) rfl ⟨⟨trivial, trivial⟩, trivial⟩ ?_
      exact gv_zret hD rfl (by exact gz_m 23 (by omega)) ⟨I7, J, rfl, hI7, FI7, FJ, ⟨_, rfl, by exact gz_m 24 (by omega), by exact gz_m 25 (by omega), by exact gz_m 26 (by omega), (Or.inl ⟨by exact gz_m 27 (by omega), by exact gz_m 28 (by omega)⟩)⟩⟩
set_option maxHeartbeats 8000000 in
set_option maxRecDepth 100000 in
theorem d_X6_isWord_p {ws0 : List Cond} {tb : String → gz_T} (hws : gc_Ws ws0) (htb : gc_tbs tb) (sh : gz_Sh) (ro : Nat → Nat) (I : gr_I) (J : gr_J) (A : gc_A) (hI : gc_Inv ro I) (β : Int → Int) (η : Int) (p9 : Int) (a1 : Int64) (hb : gc_Base sh ro A)  (x0 : gc_AT β η p9 23 I J) (x1 : 0 ≤ p9) : ∃ r h', gz_Ev ws0 tb 1 (yX6_isWord, cX6_isWord, 3, (some .boolean)) [.inr (.inr (some 39)), .inr (.inl a1)] sh (gc_h sh I J A) r sh h' 0 0 ∧ (h' = gc_h sh I J A ∧ (∃ z : Int, r = some (.inl z) ∧ 0 ≤ z ∧ z ≤ 1 ∧ (z = 0 ∨ I 23 7 = 1) ∧ (z = gs_kwc β η p9 a1))) := by
  have A_39_1 : A 39 1 = some 23 := gc_bA hb rfl
  have B_23 : 23 < 1000000 := by decide
  have B_39 : 39 < 1000000 := by decide
  have R_23 : ro 23 = 3 := gc_bR hb (by decide) rfl
  have S_23 : sh[23]? = some (false, 9, 10) := gc_bS hb rfl
  have S_39 : sh[39]? = some (false, 6, 19) := gc_bS hb rfl
  have hD : gv_D (gc_E6 ws0 tb 0 (yX6_isWord, cX6_isWord, 3, (some .boolean)) kX6_isWord) := gq_of oX6_isWord
  refine gc_ev6 (d := 0) (l := kX6_isWord) (Po := fun r h' => (h' = gc_h sh I J A ∧ (∃ z : Int, r = some (.inl z) ∧ 0 ≤ z ∧ z ≤ 1 ∧ (z = 0 ∨ I 23 7 = 1) ∧ (z = gs_kwc β η p9 a1)))) htb rfl (Nat.le_of_ble_eq_true rfl) ?_
  have f1 := (show 0 ≤ I 23 7 ∧ I 23 7 ≤ 125 from gc_in hI R_23 rfl rfl)
  have tAT := gc_AT_l x0
  refine gv_run 1 true hD (pc' := 1) (lv' := [(0, .inr (.inr (some 39))), (1, .inr (.inl a1))]) (st' := [.inr (.inr (some 39))]) (h' := gc_h sh I J A) (C := (True ∧ True)) rfl ⟨trivial, trivial⟩ ?_
  refine gv_get hD rfl rfl S_39 ⟨by decide, B_39⟩ (gc_hA S_39 rfl A_39_1) ?_
  show gv_X _ _ (4, [(0, .inr (.inr (some 39))), (1, .inr (.inl a1))], [.inr (.inr (some 23))], sh, gc_h sh I J A)
  have f2 := (show 0 ≤ I 23 7 ∧ I 23 7 ≤ 125 from gc_in hI R_23 rfl rfl)
  refine gv_get hD rfl rfl S_23 ⟨by decide, B_23⟩ (gc_hI S_23 rfl) ?_
  show gv_X _ _ (7, [(0, .inr (.inr (some 39))), (1, .inr (.inl a1))], [.inl (I 23 7)], sh, gc_h sh I J A)
  refine gv_run 1 true hD (pc' := 8) (lv' := [(0, .inr (.inr (some 39))), (1, .inr (.inl a1))]) (st' := [.inl 1, .inl (I 23 7)]) (h' := gc_h sh I J A) (C := (True ∧ True)) rfl ⟨trivial, trivial⟩ ?_
  refine gv_icmp_ne (t := 27) hD rfl rfl ⟨⟨by exact gz_m 0 (by omega), by exact gz_m 1 (by omega)⟩, ⟨by exact gz_m 2 (by omega), by exact gz_m 3 (by omega)⟩⟩ (fun c3 => ?_) (fun c3 => ?_)
  · show gv_X _ _ (27, [(0, .inr (.inr (some 39))), (1, .inr (.inl a1))], [], sh, gc_h sh I J A)
    refine gv_run 1 true hD (pc' := 28) (lv' := [(0, .inr (.inr (some 39))), (1, .inr (.inl a1))]) (st' := [.inl 0]) (h' := gc_h sh I J A) (C := (True ∧ True)) rfl ⟨trivial, trivial⟩ ?_
    exact gv_zret hD rfl (by exact gz_m 4 (by omega)) ⟨rfl, ⟨_, rfl, by exact gz_m 5 (by omega), by exact gz_m 6 (by omega), by exact gz_m 7 (by omega), (gs_kwc_0 (Or.inl (by exact gz_m 8 (by omega)))).symm⟩⟩
  · show gv_X _ _ (11, [(0, .inr (.inr (some 39))), (1, .inr (.inl a1))], [], sh, gc_h sh I J A)
    refine gv_run 1 true hD (pc' := 12) (lv' := [(0, .inr (.inr (some 39))), (1, .inr (.inl a1))]) (st' := [.inr (.inr (some 39))]) (h' := gc_h sh I J A) (C := (True ∧ True)) rfl ⟨trivial, trivial⟩ ?_
    refine gv_get hD rfl rfl S_39 ⟨by decide, B_39⟩ (gc_hA S_39 rfl A_39_1) ?_
    show gv_X _ _ (15, [(0, .inr (.inr (some 39))), (1, .inr (.inl a1))], [.inr (.inr (some 23))], sh, gc_h sh I J A)
    refine gv_get hD rfl rfl S_23 ⟨by decide, B_23⟩ (gc_hJ S_23 rfl) ?_
    show gv_X _ _ (18, [(0, .inr (.inr (some 39))), (1, .inr (.inl a1))], [.inr (.inl (J 23 9))], sh, gc_h sh I J A)
    have f4 := gw_cmp ((J 23 9)) (a1)
    refine gv_run 2 true hD (pc' := 20) (lv' := [(0, .inr (.inr (some 39))), (1, .inr (.inl a1))]) (st' := [.inl ((lg_cmp ((J 23 9)) (a1)).toInt)]) (h' := gc_h sh I J A) (C := ((True ∧ True) ∧ True)) rfl ⟨⟨trivial, trivial⟩, trivial⟩ ?_
    refine gv_if_ne (t := 27) hD rfl rfl ⟨by exact gz_m 9 (by omega), by exact gz_m 10 (by omega)⟩ (fun c5 => ?_) (fun c5 => ?_)
    · show gv_X _ _ (27, [(0, .inr (.inr (some 39))), (1, .inr (.inl a1))], [], sh, gc_h sh I J A)
      have j5 := gs_cmpn (a := (J 23 9)) (b := a1) (by exact gz_m 11 (by omega))
      refine gv_run 1 true hD (pc' := 28) (lv' := [(0, .inr (.inr (some 39))), (1, .inr (.inl a1))]) (st' := [.inl 0]) (h' := gc_h sh I J A) (C := (True ∧ True)) rfl ⟨trivial, trivial⟩ ?_
      exact gv_zret hD rfl (by exact gz_m 12 (by omega)) ⟨rfl, ⟨_, rfl, by exact gz_m 13 (by omega), by exact gz_m 14 (by omega), by exact gz_m 15 (by omega), (gs_kwc_0 (Or.inr (by rw [← gc_AT_m x0 (by exact gz_m 16 (by omega))]; exact j5))).symm⟩⟩
    · show gv_X _ _ (23, [(0, .inr (.inr (some 39))), (1, .inr (.inl a1))], [], sh, gc_h sh I J A)
      have j5 := gs_cmp0 (a := (J 23 9)) (b := a1) (by exact gz_m 17 (by omega))
      refine gv_run 2 true hD (pc' := 28) (lv' := [(0, .inr (.inr (some 39))), (1, .inr (.inl a1))]) (st' := [.inl 1]) (h' := gc_h sh I J A) (C := ((True ∧ True) ∧ True)) rfl ⟨⟨trivial, trivial⟩, trivial⟩ ?_
      exact gv_zret hD rfl (by exact gz_m 18 (by omega)) ⟨rfl, ⟨_, rfl, by exact gz_m 19 (by omega), by exact gz_m 20 (by omega), by exact gz_m 21 (by omega), (gs_kwc_1 (by exact gz_m 22 (by omega)) (by rw [← gc_AT_m x0 (by exact gz_m 23 (by omega))]; exact j5)).symm⟩⟩
set_option maxHeartbeats 8000000 in
set_option maxRecDepth 100000 in
theorem d_X6_needNew_p {ws0 : List Cond} {tb : String → gz_T} (hws : gc_Ws ws0) (htb : gc_tbs tb) (sh : gz_Sh) (ro : Nat → Nat) (I : gr_I) (J : gr_J) (A : gc_A) (hI : gc_Inv ro I) (n ρ : Nat) (β : Int → Int) (η : Int) (p9 : Int) (a1 : Nat) (hb : gc_Base sh ro A) (h_a1 : gc_isNames sh ro A a1 n ρ)  (x0 : gc_AT β η p9 23 I J) (x1 : 0 ≤ p9) : ∃ r h', gz_Ev ws0 tb 3 (yX6_needNew, cX6_needNew, 2, (some .boolean)) [.inr (.inr (some 39)), .inr (.inr (some a1))] sh (gc_h sh I J A) r sh h' 0 0 ∧ (∃ (I' : gr_I) (J' : gr_J), h' = gc_h sh I' J' A ∧ gc_Inv ro I' ∧ (∀ q j : Nat, ((q = 39 ∧ j = 3) ∨ (q = 39 ∧ j = 4)) ∨ I' q j = I q j) ∧ (∀ q j : Nat, (False) ∨ J' q j = J q j) ∧ (∃ z : Int, r = some (.inl z) ∧ 0 ≤ z ∧ z ≤ 1 ∧ (z = 0 ∨ I 23 7 = 1) ∧ (gs_Or z (gs_T β η p9 = 1 ∧ gc_fd (J (a1 + 1)) (gs_M β η p9) (Int.toNat (I a1 1)) < 0) ((¬ gs_T β η p9 = 1 ∨ 0 ≤ gc_fd (J (a1 + 1)) (gs_M β η p9) (Int.toNat (I a1 1))) ∧ I' 39 4 = gs_A β η p9)))) := by
  have FI : ∀ q j : Nat, ((q = 39 ∧ j = 3) ∨ (q = 39 ∧ j = 4)) ∨ I q j = I q j := fun _ _ => Or.inr rfl
  have FJ : ∀ q j : Nat, (False) ∨ J q j = J q j := fun _ _ => Or.inr rfl
  have A_39_1 : A 39 1 = some 23 := gc_bA hb rfl
  have B_23 : 23 < 1000000 := by decide
  have B_39 : 39 < 1000000 := by decide
  have R_23 : ro 23 = 3 := gc_bR hb (by decide) rfl
  have S_23 : sh[23]? = some (false, 9, 10) := gc_bS hb rfl
  have S_39 : sh[39]? = some (false, 6, 19) := gc_bS hb rfl
  obtain ⟨S_a1, R_a1, B_a1, A_a1_0, S_a1_1, R_a1_1, B_a1_1, Q_lo, Q_hi, Q_n⟩ := id h_a1
  have hD : gv_D (gc_E6 ws0 tb 2 (yX6_needNew, cX6_needNew, 2, (some .boolean)) kX6_needNew) := gq_of oX6_needNew
  refine gc_ev6 (d := 2) (l := kX6_needNew) (Po := fun r h' => (∃ (I' : gr_I) (J' : gr_J), h' = gc_h sh I' J' A ∧ gc_Inv ro I' ∧ (∀ q j : Nat, ((q = 39 ∧ j = 3) ∨ (q = 39 ∧ j = 4)) ∨ I' q j = I q j) ∧ (∀ q j : Nat, (False) ∨ J' q j = J q j) ∧ (∃ z : Int, r = some (.inl z) ∧ 0 ≤ z ∧ z ≤ 1 ∧ (z = 0 ∨ I 23 7 = 1) ∧ (gs_Or z (gs_T β η p9 = 1 ∧ gc_fd (J (a1 + 1)) (gs_M β η p9) (Int.toNat (I a1 1)) < 0) ((¬ gs_T β η p9 = 1 ∨ 0 ≤ gc_fd (J (a1 + 1)) (gs_M β η p9) (Int.toNat (I a1 1))) ∧ I' 39 4 = gs_A β η p9))))) htb rfl (Nat.le_of_ble_eq_true rfl) ?_
  have f1 := (show 0 ≤ I 23 7 ∧ I 23 7 ≤ 125 from gc_in hI R_23 rfl rfl)
  have f2 := (show 0 ≤ I 23 5 ∧ I 23 5 ≤ 1000 from gc_in hI R_23 rfl rfl)
  have tAT := gc_AT_l x0
  refine gv_run 2 true hD (pc' := 2) (lv' := [(0, .inr (.inr (some 39))), (1, .inr (.inr (some a1)))]) (st' := [.inl 1, .inr (.inr (some 39))]) (h' := gc_h sh I J A) (C := ((True ∧ True) ∧ True)) rfl ⟨⟨trivial, trivial⟩, trivial⟩ ?_
  obtain ⟨r3, h3, E3, P3⟩ := d_X6_need_p (ws0 := ws0) (tb := tb) hws htb sh ro I J A hI  β η p9 1 hb   ⟨by exact gz_m 0 (by omega), by exact gz_m 1 (by omega)⟩ x0 (by exact gz_m 2 (by omega)) 
  obtain ⟨I4, J5, rfl, hI4, g3, k3, ⟨z3, rfl, q3⟩⟩ := P3
  have FI4 := gc_frc (W := fun q j => (q = 39 ∧ j = 3) ∨ (q = 39 ∧ j = 4)) (V := fun q j => (q = 39 ∧ j = 3) ∨ (q = 39 ∧ j = 4)) FI (fun q j h => (h.elim (fun h => (Or.inl h)) (fun h => (Or.inr h)))) g3
  have t6 := (g3 23 7).resolve_left (fun h => h.elim (fun h => absurd h.2 (by decide)) (fun h => absurd h.2 (by decide)))
  have t7 := (g3 23 5).resolve_left (fun h => h.elim (fun h => absurd h.2 (by decide)) (fun h => absurd h.2 (by decide)))
  obtain rfl : J = J5 := funext fun q => funext fun j => ((k3 q j).resolve_left id).symm
  have A8 := gc_AT_I x0 ((g3 23 1).resolve_left (fun h => h.elim (fun h => absurd h.2 (by decide)) (fun h => absurd h.2 (by decide)))) ((g3 23 5).resolve_left (fun h => h.elim (fun h => absurd h.2 (by decide)) (fun h => absurd h.2 (by decide)))) ((g3 23 6).resolve_left (fun h => h.elim (fun h => absurd h.2 (by decide)) (fun h => absurd h.2 (by decide)))) ((g3 23 7).resolve_left (fun h => h.elim (fun h => absurd h.2 (by decide)) (fun h => absurd h.2 (by decide)))) ((g3 23 8).resolve_left (fun h => h.elim (fun h => absurd h.2 (by decide)) (fun h => absurd h.2 (by decide)))) (fun k => (g3 24 k).resolve_left (fun h => h.elim (fun h => absurd h.1 (by decide)) (fun h => absurd h.1 (by decide))))
  have t9 := gc_AT_l A8
  refine gv_callV hD rfl (As := [.inl 1]) (st := []) rfl B_39 S_39 rfl (gc_lV6 hws rfl) (Nat.le_of_ble_eq_true rfl) (gz_Ev_mono (d := 2) (by decide) E3) ?_
  show gv_X _ _ (5, [(0, .inr (.inr (some 39))), (1, .inr (.inr (some a1)))], [.inl z3], sh, gc_h sh I4 J A)
  refine gv_if_eq (t := 41) hD rfl rfl ⟨by exact gz_m 3 (by omega), by exact gz_m 4 (by omega)⟩ (fun c10 => ?_) (fun c10 => ?_)
  · show gv_X _ _ (41, [(0, .inr (.inr (some 39))), (1, .inr (.inr (some a1)))], [], sh, gc_h sh I4 J A)
    have u11 := gs_or0 q3.2.2.2 (by exact gz_m 5 (by omega))
    refine gv_run 1 true hD (pc' := 42) (lv' := [(0, .inr (.inr (some 39))), (1, .inr (.inr (some a1)))]) (st' := [.inl 0]) (h' := gc_h sh I4 J A) (C := (True ∧ True)) rfl ⟨trivial, trivial⟩ ?_
    exact gv_zret hD rfl (by exact gz_m 6 (by omega)) ⟨I4, J, rfl, hI4, FI4, FJ, ⟨_, rfl, by exact gz_m 7 (by omega), by exact gz_m 8 (by omega), by exact gz_m 9 (by omega), (Or.inr ⟨by exact gz_m 10 (by omega), (Or.inl u11.1), by exact gz_m 11 (by omega)⟩)⟩⟩
  · show gv_X _ _ (8, [(0, .inr (.inr (some 39))), (1, .inr (.inr (some a1)))], [], sh, gc_h sh I4 J A)
    have u12 := gs_or1 q3.2.2.2 (by exact gz_m 12 (by omega))
    refine gv_run 2 true hD (pc' := 10) (lv' := [(0, .inr (.inr (some 39))), (1, .inr (.inr (some a1)))]) (st' := [.inr (.inr (some 39)), .inr (.inr (some a1))]) (h' := gc_h sh I4 J A) (C := ((True ∧ True) ∧ True)) rfl ⟨⟨trivial, trivial⟩, trivial⟩ ?_
    refine gv_get hD rfl rfl S_39 ⟨by decide, B_39⟩ (gc_hA S_39 rfl A_39_1) ?_
    show gv_X _ _ (13, [(0, .inr (.inr (some 39))), (1, .inr (.inr (some a1)))], [.inr (.inr (some 23)), .inr (.inr (some a1))], sh, gc_h sh I4 J A)
    refine gv_get hD rfl rfl S_23 ⟨by decide, B_23⟩ (gc_hJ S_23 rfl) ?_
    show gv_X _ _ (16, [(0, .inr (.inr (some 39))), (1, .inr (.inr (some a1)))], [.inr (.inl (J 23 9)), .inr (.inr (some a1))], sh, gc_h sh I4 J A)
    obtain ⟨r13, h13, E13, P13⟩ := d_X4_find (ws0 := ws0) (tb := tb) hws htb sh ro I4 J A hI4 a1 n ρ (J 23 9) h_a1     
    obtain ⟨rfl, ⟨z13, rfl, q13⟩⟩ := P13
    have t14 : z13 = gc_fd (J (a1 + 1)) (gs_M β η p9) (Int.toNat (I a1 1)) := q13.2.2.2.trans (by rw [gc_AT_m A8 (by exact gz_m 13 (by omega)), show I4 a1 1 = I a1 1 from (FI4 a1 1).resolve_left (by exact gz_m 14 (by omega))])
    refine gv_callV hD rfl (As := [.inr (.inl (J 23 9))]) (st := []) rfl B_a1 S_a1 rfl (gc_lV6 hws rfl) (Nat.le_of_ble_eq_true rfl) (gz_Ev_mono (d := 1) (by decide) E13) ?_
    show gv_X _ _ (19, [(0, .inr (.inr (some 39))), (1, .inr (.inr (some a1)))], [.inl z13], sh, gc_h sh I4 J A)
    refine gv_if_lt (t := 37) hD rfl rfl ⟨by exact gz_m 15 (by omega), by exact gz_m 16 (by omega)⟩ (fun c15 => ?_) (fun c15 => ?_)
    · show gv_X _ _ (37, [(0, .inr (.inr (some 39))), (1, .inr (.inr (some a1)))], [], sh, gc_h sh I4 J A)
      refine gv_run 2 true hD (pc' := 42) (lv' := [(0, .inr (.inr (some 39))), (1, .inr (.inr (some a1)))]) (st' := [.inl 1]) (h' := gc_h sh I4 J A) (C := ((True ∧ True) ∧ True)) rfl ⟨⟨trivial, trivial⟩, trivial⟩ ?_
      exact gv_zret hD rfl (by exact gz_m 17 (by omega)) ⟨I4, J, rfl, hI4, FI4, FJ, ⟨_, rfl, by exact gz_m 18 (by omega), by exact gz_m 19 (by omega), by exact gz_m 20 (by omega), (Or.inl ⟨by exact gz_m 21 (by omega), by exact gz_m 22 (by omega), by exact gz_m 23 (by omega)⟩)⟩⟩
    · show gv_X _ _ (22, [(0, .inr (.inr (some 39))), (1, .inr (.inr (some a1)))], [], sh, gc_h sh I4 J A)
      refine gv_run 3 true hD (pc' := 25) (lv' := [(0, .inr (.inr (some 39))), (1, .inr (.inr (some a1)))]) (st' := [.inr (.inr (some 39)), .inl 4, .inr (.inr (some 39))]) (h' := gc_h sh I4 J A) (C := (((True ∧ True) ∧ True) ∧ True)) rfl ⟨⟨⟨trivial, trivial⟩, trivial⟩, trivial⟩ ?_
      refine gv_get hD rfl rfl S_39 ⟨by decide, B_39⟩ (gc_hA S_39 rfl A_39_1) ?_
      show gv_X _ _ (28, [(0, .inr (.inr (some 39))), (1, .inr (.inr (some a1)))], [.inr (.inr (some 23)), .inl 4, .inr (.inr (some 39))], sh, gc_h sh I4 J A)
      have f16 := (show 0 ≤ I4 23 5 ∧ I4 23 5 ≤ 1000 from gc_in hI4 R_23 rfl rfl)
      refine gv_get hD rfl rfl S_23 ⟨by decide, B_23⟩ (gc_hI S_23 rfl) ?_
      show gv_X _ _ (31, [(0, .inr (.inr (some 39))), (1, .inr (.inr (some a1)))], [.inl (I4 23 5), .inl 4, .inr (.inr (some 39))], sh, gc_h sh I4 J A)
      obtain ⟨r17, h17, E17, P17⟩ := d_X6_wrong_p (ws0 := ws0) (tb := tb) hws htb sh ro I4 J A hI4  4 (I4 23 5) hb   ⟨by exact gz_m 24 (by omega), by exact gz_m 25 (by omega)⟩ ⟨by exact gz_m 26 (by omega), by exact gz_m 27 (by omega)⟩  
      obtain ⟨I18, J19, rfl, hI18, g17, k17, ⟨z17, rfl, q17⟩⟩ := P17
      have FI18 := gc_frc (W := fun q j => (q = 39 ∧ j = 3) ∨ (q = 39 ∧ j = 4)) (V := fun q j => (q = 39 ∧ j = 3) ∨ (q = 39 ∧ j = 4)) FI4 (fun q j h => (h.elim (fun h => (Or.inl h)) (fun h => (Or.inr h)))) g17
      have t20 := (g17 23 7).resolve_left (fun h => h.elim (fun h => absurd h.2 (by decide)) (fun h => absurd h.2 (by decide)))
      have t21 := (g17 23 5).resolve_left (fun h => h.elim (fun h => absurd h.2 (by decide)) (fun h => absurd h.2 (by decide)))
      obtain rfl : J = J19 := funext fun q => funext fun j => ((k17 q j).resolve_left id).symm
      have A22 := gc_AT_I A8 ((g17 23 1).resolve_left (fun h => h.elim (fun h => absurd h.2 (by decide)) (fun h => absurd h.2 (by decide)))) ((g17 23 5).resolve_left (fun h => h.elim (fun h => absurd h.2 (by decide)) (fun h => absurd h.2 (by decide)))) ((g17 23 6).resolve_left (fun h => h.elim (fun h => absurd h.2 (by decide)) (fun h => absurd h.2 (by decide)))) ((g17 23 7).resolve_left (fun h => h.elim (fun h => absurd h.2 (by decide)) (fun h => absurd h.2 (by decide)))) ((g17 23 8).resolve_left (fun h => h.elim (fun h => absurd h.2 (by decide)) (fun h => absurd h.2 (by decide)))) (fun k => (g17 24 k).resolve_left (fun h => h.elim (fun h => absurd h.1 (by decide)) (fun h => absurd h.1 (by decide))))
      have t23 := gc_AT_l A22
      refine gv_callV hD rfl (As := [.inl 4, .inl (I4 23 5)]) (st := []) rfl B_39 S_39 rfl (gc_lV6 hws rfl) (Nat.le_of_ble_eq_true rfl) (gz_Ev_mono (d := 1) (by decide) E17) ?_
      show gv_X _ _ (34, [(0, .inr (.inr (some 39))), (1, .inr (.inr (some a1)))], [.inl z17], sh, gc_h sh I18 J A)
      refine gv_if_eq (t := 41) hD rfl rfl ⟨by exact gz_m 28 (by omega), by exact gz_m 29 (by omega)⟩ (fun c24 => ?_) (fun c24 => ?_)
      · show gv_X _ _ (41, [(0, .inr (.inr (some 39))), (1, .inr (.inr (some a1)))], [], sh, gc_h sh I18 J A)
        refine gv_run 1 true hD (pc' := 42) (lv' := [(0, .inr (.inr (some 39))), (1, .inr (.inr (some a1)))]) (st' := [.inl 0]) (h' := gc_h sh I18 J A) (C := (True ∧ True)) rfl ⟨trivial, trivial⟩ ?_
        exact gv_zret hD rfl (by exact gz_m 30 (by omega)) ⟨I18, J, rfl, hI18, FI18, FJ, ⟨_, rfl, by exact gz_m 31 (by omega), by exact gz_m 32 (by omega), by exact gz_m 33 (by omega), (Or.inr ⟨by exact gz_m 34 (by omega), (Or.inr (by exact gz_m 35 (by omega))), by exact gz_m 36 (by omega)⟩)⟩⟩
      · show gv_X _ _ (37, [(0, .inr (.inr (some 39))), (1, .inr (.inr (some a1)))], [], sh, gc_h sh I18 J A)
        refine gv_run 2 true hD (pc' := 42) (lv' := [(0, .inr (.inr (some 39))), (1, .inr (.inr (some a1)))]) (st' := [.inl 1]) (h' := gc_h sh I18 J A) (C := ((True ∧ True) ∧ True)) rfl ⟨⟨trivial, trivial⟩, trivial⟩ ?_
        exact gv_zret hD rfl (by exact gz_m 37 (by omega)) ⟨I18, J, rfl, hI18, FI18, FJ, ⟨_, rfl, by exact gz_m 38 (by omega), by exact gz_m 39 (by omega), by exact gz_m 40 (by omega), (Or.inl ⟨by exact gz_m 41 (by omega), by exact gz_m 42 (by omega), by exact gz_m 43 (by omega)⟩)⟩⟩
set_option maxHeartbeats 8000000 in
set_option maxRecDepth 100000 in
theorem d_X6_needKnown_p {ws0 : List Cond} {tb : String → gz_T} (hws : gc_Ws ws0) (htb : gc_tbs tb) (sh : gz_Sh) (ro : Nat → Nat) (I : gr_I) (J : gr_J) (A : gc_A) (hI : gc_Inv ro I) (n ρ : Nat) (β : Int → Int) (η : Int) (p9 : Int) (a1 : Nat) (hb : gc_Base sh ro A) (h_a1 : gc_isNames sh ro A a1 n ρ)  (x0 : gc_AT β η p9 23 I J) (x1 : 0 ≤ p9) : ∃ r h', gz_Ev ws0 tb 3 (yX6_needKnown, cX6_needKnown, 2, (some .boolean)) [.inr (.inr (some 39)), .inr (.inr (some a1))] sh (gc_h sh I J A) r sh h' 0 0 ∧ (∃ (I' : gr_I) (J' : gr_J), h' = gc_h sh I' J' A ∧ gc_Inv ro I' ∧ (∀ q j : Nat, ((q = 39 ∧ j = 3) ∨ (q = 39 ∧ j = 4)) ∨ I' q j = I q j) ∧ (∀ q j : Nat, (False) ∨ J' q j = J q j) ∧ (∃ z : Int, r = some (.inl z) ∧ 0 ≤ z ∧ z ≤ 1 ∧ (z = 0 ∨ (I 23 7 = 1 ∧ 0 ≤ gc_fd (J (a1 + 1)) (J 23 9) (Int.toNat (I' a1 1)))) ∧ (gs_Or z (gs_T β η p9 = 1 ∧ 0 ≤ gc_fd (J (a1 + 1)) (gs_M β η p9) (Int.toNat (I a1 1))) ((¬ gs_T β η p9 = 1 ∨ gc_fd (J (a1 + 1)) (gs_M β η p9) (Int.toNat (I a1 1)) < 0) ∧ I' 39 4 = gs_A β η p9)))) := by
  have FI : ∀ q j : Nat, ((q = 39 ∧ j = 3) ∨ (q = 39 ∧ j = 4)) ∨ I q j = I q j := fun _ _ => Or.inr rfl
  have FJ : ∀ q j : Nat, (False) ∨ J q j = J q j := fun _ _ => Or.inr rfl
  have A_39_1 : A 39 1 = some 23 := gc_bA hb rfl
  have B_23 : 23 < 1000000 := by decide
  have B_39 : 39 < 1000000 := by decide
  have R_23 : ro 23 = 3 := gc_bR hb (by decide) rfl
  have S_23 : sh[23]? = some (false, 9, 10) := gc_bS hb rfl
  have S_39 : sh[39]? = some (false, 6, 19) := gc_bS hb rfl
  obtain ⟨S_a1, R_a1, B_a1, A_a1_0, S_a1_1, R_a1_1, B_a1_1, Q_lo, Q_hi, Q_n⟩ := id h_a1
  have hD : gv_D (gc_E6 ws0 tb 2 (yX6_needKnown, cX6_needKnown, 2, (some .boolean)) kX6_needKnown) := gq_of oX6_needKnown
  refine gc_ev6 (d := 2) (l := kX6_needKnown) (Po := fun r h' => (∃ (I' : gr_I) (J' : gr_J), h' = gc_h sh I' J' A ∧ gc_Inv ro I' ∧ (∀ q j : Nat, ((q = 39 ∧ j = 3) ∨ (q = 39 ∧ j = 4)) ∨ I' q j = I q j) ∧ (∀ q j : Nat, (False) ∨ J' q j = J q j) ∧ (∃ z : Int, r = some (.inl z) ∧ 0 ≤ z ∧ z ≤ 1 ∧ (z = 0 ∨ (I 23 7 = 1 ∧ 0 ≤ gc_fd (J (a1 + 1)) (J 23 9) (Int.toNat (I' a1 1)))) ∧ (gs_Or z (gs_T β η p9 = 1 ∧ 0 ≤ gc_fd (J (a1 + 1)) (gs_M β η p9) (Int.toNat (I a1 1))) ((¬ gs_T β η p9 = 1 ∨ gc_fd (J (a1 + 1)) (gs_M β η p9) (Int.toNat (I a1 1)) < 0) ∧ I' 39 4 = gs_A β η p9))))) htb rfl (Nat.le_of_ble_eq_true rfl) ?_
  have f1 := (show 0 ≤ I 23 7 ∧ I 23 7 ≤ 125 from gc_in hI R_23 rfl rfl)
  have f2 := (show 0 ≤ I 23 5 ∧ I 23 5 ≤ 1000 from gc_in hI R_23 rfl rfl)
  have f3 := (show 0 ≤ I a1 1 ∧ I a1 1 ≤ ((n : Nat) : Int) from gc_in hI R_a1 Q_lo Q_hi)
  have tAT := gc_AT_l x0
  refine gv_run 2 true hD (pc' := 2) (lv' := [(0, .inr (.inr (some 39))), (1, .inr (.inr (some a1)))]) (st' := [.inl 1, .inr (.inr (some 39))]) (h' := gc_h sh I J A) (C := ((True ∧ True) ∧ True)) rfl ⟨⟨trivial, trivial⟩, trivial⟩ ?_
  obtain ⟨r4, h4, E4, P4⟩ := d_X6_need_p (ws0 := ws0) (tb := tb) hws htb sh ro I J A hI  β η p9 1 hb   ⟨by exact gz_m 0 (by omega), by exact gz_m 1 (by omega)⟩ x0 (by exact gz_m 2 (by omega)) 
  obtain ⟨I5, J6, rfl, hI5, g4, k4, ⟨z4, rfl, q4⟩⟩ := P4
  have FI5 := gc_frc (W := fun q j => (q = 39 ∧ j = 3) ∨ (q = 39 ∧ j = 4)) (V := fun q j => (q = 39 ∧ j = 3) ∨ (q = 39 ∧ j = 4)) FI (fun q j h => (h.elim (fun h => (Or.inl h)) (fun h => (Or.inr h)))) g4
  have t7 := (g4 23 7).resolve_left (fun h => h.elim (fun h => absurd h.2 (by decide)) (fun h => absurd h.2 (by decide)))
  have t8 := (g4 23 5).resolve_left (fun h => h.elim (fun h => absurd h.2 (by decide)) (fun h => absurd h.2 (by decide)))
  have t9 := (g4 a1 1).resolve_left (fun h => h.elim (fun h => absurd h.2 (by decide)) (fun h => absurd h.2 (by decide)))
  obtain rfl : J = J6 := funext fun q => funext fun j => ((k4 q j).resolve_left id).symm
  have A10 := gc_AT_I x0 ((g4 23 1).resolve_left (fun h => h.elim (fun h => absurd h.2 (by decide)) (fun h => absurd h.2 (by decide)))) ((g4 23 5).resolve_left (fun h => h.elim (fun h => absurd h.2 (by decide)) (fun h => absurd h.2 (by decide)))) ((g4 23 6).resolve_left (fun h => h.elim (fun h => absurd h.2 (by decide)) (fun h => absurd h.2 (by decide)))) ((g4 23 7).resolve_left (fun h => h.elim (fun h => absurd h.2 (by decide)) (fun h => absurd h.2 (by decide)))) ((g4 23 8).resolve_left (fun h => h.elim (fun h => absurd h.2 (by decide)) (fun h => absurd h.2 (by decide)))) (fun k => (g4 24 k).resolve_left (fun h => h.elim (fun h => absurd h.1 (by decide)) (fun h => absurd h.1 (by decide))))
  have t11 := gc_AT_l A10
  refine gv_callV hD rfl (As := [.inl 1]) (st := []) rfl B_39 S_39 rfl (gc_lV6 hws rfl) (Nat.le_of_ble_eq_true rfl) (gz_Ev_mono (d := 2) (by decide) E4) ?_
  show gv_X _ _ (5, [(0, .inr (.inr (some 39))), (1, .inr (.inr (some a1)))], [.inl z4], sh, gc_h sh I5 J A)
  refine gv_if_eq (t := 41) hD rfl rfl ⟨by exact gz_m 3 (by omega), by exact gz_m 4 (by omega)⟩ (fun c12 => ?_) (fun c12 => ?_)
  · show gv_X _ _ (41, [(0, .inr (.inr (some 39))), (1, .inr (.inr (some a1)))], [], sh, gc_h sh I5 J A)
    have u13 := gs_or0 q4.2.2.2 (by exact gz_m 5 (by omega))
    refine gv_run 1 true hD (pc' := 42) (lv' := [(0, .inr (.inr (some 39))), (1, .inr (.inr (some a1)))]) (st' := [.inl 0]) (h' := gc_h sh I5 J A) (C := (True ∧ True)) rfl ⟨trivial, trivial⟩ ?_
    exact gv_zret hD rfl (by exact gz_m 6 (by omega)) ⟨I5, J, rfl, hI5, FI5, FJ, ⟨_, rfl, by exact gz_m 7 (by omega), by exact gz_m 8 (by omega), by exact gz_m 9 (by omega), (Or.inr ⟨by exact gz_m 10 (by omega), (Or.inl u13.1), by exact gz_m 11 (by omega)⟩)⟩⟩
  · show gv_X _ _ (8, [(0, .inr (.inr (some 39))), (1, .inr (.inr (some a1)))], [], sh, gc_h sh I5 J A)
    have u14 := gs_or1 q4.2.2.2 (by exact gz_m 12 (by omega))
    refine gv_run 2 true hD (pc' := 10) (lv' := [(0, .inr (.inr (some 39))), (1, .inr (.inr (some a1)))]) (st' := [.inr (.inr (some 39)), .inr (.inr (some a1))]) (h' := gc_h sh I5 J A) (C := ((True ∧ True) ∧ True)) rfl ⟨⟨trivial, trivial⟩, trivial⟩ ?_
    refine gv_get hD rfl rfl S_39 ⟨by decide, B_39⟩ (gc_hA S_39 rfl A_39_1) ?_
    show gv_X _ _ (13, [(0, .inr (.inr (some 39))), (1, .inr (.inr (some a1)))], [.inr (.inr (some 23)), .inr (.inr (some a1))], sh, gc_h sh I5 J A)
    refine gv_get hD rfl rfl S_23 ⟨by decide, B_23⟩ (gc_hJ S_23 rfl) ?_
    show gv_X _ _ (16, [(0, .inr (.inr (some 39))), (1, .inr (.inr (some a1)))], [.inr (.inl (J 23 9)), .inr (.inr (some a1))], sh, gc_h sh I5 J A)
    obtain ⟨r15, h15, E15, P15⟩ := d_X4_find (ws0 := ws0) (tb := tb) hws htb sh ro I5 J A hI5 a1 n ρ (J 23 9) h_a1     
    obtain ⟨rfl, ⟨z15, rfl, q15⟩⟩ := P15
    have t16 : z15 = gc_fd (J (a1 + 1)) (gs_M β η p9) (Int.toNat (I a1 1)) := q15.2.2.2.trans (by rw [gc_AT_m A10 (by exact gz_m 13 (by omega)), show I5 a1 1 = I a1 1 from (FI5 a1 1).resolve_left (by exact gz_m 14 (by omega))])
    refine gv_callV hD rfl (As := [.inr (.inl (J 23 9))]) (st := []) rfl B_a1 S_a1 rfl (gc_lV6 hws rfl) (Nat.le_of_ble_eq_true rfl) (gz_Ev_mono (d := 1) (by decide) E15) ?_
    show gv_X _ _ (19, [(0, .inr (.inr (some 39))), (1, .inr (.inr (some a1)))], [.inl z15], sh, gc_h sh I5 J A)
    refine gv_if_ge (t := 37) hD rfl rfl ⟨by exact gz_m 15 (by omega), by exact gz_m 16 (by omega)⟩ (fun c17 => ?_) (fun c17 => ?_)
    · show gv_X _ _ (37, [(0, .inr (.inr (some 39))), (1, .inr (.inr (some a1)))], [], sh, gc_h sh I5 J A)
      refine gv_run 2 true hD (pc' := 42) (lv' := [(0, .inr (.inr (some 39))), (1, .inr (.inr (some a1)))]) (st' := [.inl 1]) (h' := gc_h sh I5 J A) (C := ((True ∧ True) ∧ True)) rfl ⟨⟨trivial, trivial⟩, trivial⟩ ?_
      exact gv_zret hD rfl (by exact gz_m 17 (by omega)) ⟨I5, J, rfl, hI5, FI5, FJ, ⟨_, rfl, by exact gz_m 18 (by omega), by exact gz_m 19 (by omega), by exact gz_m 20 (by omega), (Or.inl ⟨by exact gz_m 21 (by omega), by exact gz_m 22 (by omega), by exact gz_m 23 (by omega)⟩)⟩⟩
    · show gv_X _ _ (22, [(0, .inr (.inr (some 39))), (1, .inr (.inr (some a1)))], [], sh, gc_h sh I5 J A)
      refine gv_run 3 true hD (pc' := 25) (lv' := [(0, .inr (.inr (some 39))), (1, .inr (.inr (some a1)))]) (st' := [.inr (.inr (some 39)), .inl 5, .inr (.inr (some 39))]) (h' := gc_h sh I5 J A) (C := (((True ∧ True) ∧ True) ∧ True)) rfl ⟨⟨⟨trivial, trivial⟩, trivial⟩, trivial⟩ ?_
      refine gv_get hD rfl rfl S_39 ⟨by decide, B_39⟩ (gc_hA S_39 rfl A_39_1) ?_
      show gv_X _ _ (28, [(0, .inr (.inr (some 39))), (1, .inr (.inr (some a1)))], [.inr (.inr (some 23)), .inl 5, .inr (.inr (some 39))], sh, gc_h sh I5 J A)
      have f18 := (show 0 ≤ I5 23 5 ∧ I5 23 5 ≤ 1000 from gc_in hI5 R_23 rfl rfl)
      refine gv_get hD rfl rfl S_23 ⟨by decide, B_23⟩ (gc_hI S_23 rfl) ?_
      show gv_X _ _ (31, [(0, .inr (.inr (some 39))), (1, .inr (.inr (some a1)))], [.inl (I5 23 5), .inl 5, .inr (.inr (some 39))], sh, gc_h sh I5 J A)
      obtain ⟨r19, h19, E19, P19⟩ := d_X6_wrong_p (ws0 := ws0) (tb := tb) hws htb sh ro I5 J A hI5  5 (I5 23 5) hb   ⟨by exact gz_m 24 (by omega), by exact gz_m 25 (by omega)⟩ ⟨by exact gz_m 26 (by omega), by exact gz_m 27 (by omega)⟩  
      obtain ⟨I20, J21, rfl, hI20, g19, k19, ⟨z19, rfl, q19⟩⟩ := P19
      have FI20 := gc_frc (W := fun q j => (q = 39 ∧ j = 3) ∨ (q = 39 ∧ j = 4)) (V := fun q j => (q = 39 ∧ j = 3) ∨ (q = 39 ∧ j = 4)) FI5 (fun q j h => (h.elim (fun h => (Or.inl h)) (fun h => (Or.inr h)))) g19
      have t22 := (g19 23 7).resolve_left (fun h => h.elim (fun h => absurd h.2 (by decide)) (fun h => absurd h.2 (by decide)))
      have t23 := (g19 23 5).resolve_left (fun h => h.elim (fun h => absurd h.2 (by decide)) (fun h => absurd h.2 (by decide)))
      have t24 := (g19 a1 1).resolve_left (fun h => h.elim (fun h => absurd h.2 (by decide)) (fun h => absurd h.2 (by decide)))
      obtain rfl : J = J21 := funext fun q => funext fun j => ((k19 q j).resolve_left id).symm
      have A25 := gc_AT_I A10 ((g19 23 1).resolve_left (fun h => h.elim (fun h => absurd h.2 (by decide)) (fun h => absurd h.2 (by decide)))) ((g19 23 5).resolve_left (fun h => h.elim (fun h => absurd h.2 (by decide)) (fun h => absurd h.2 (by decide)))) ((g19 23 6).resolve_left (fun h => h.elim (fun h => absurd h.2 (by decide)) (fun h => absurd h.2 (by decide)))) ((g19 23 7).resolve_left (fun h => h.elim (fun h => absurd h.2 (by decide)) (fun h => absurd h.2 (by decide)))) ((g19 23 8).resolve_left (fun h => h.elim (fun h => absurd h.2 (by decide)) (fun h => absurd h.2 (by decide)))) (fun k => (g19 24 k).resolve_left (fun h => h.elim (fun h => absurd h.1 (by decide)) (fun h => absurd h.1 (by decide))))
      have t26 := gc_AT_l A25
      refine gv_callV hD rfl (As := [.inl 5, .inl (I5 23 5)]) (st := []) rfl B_39 S_39 rfl (gc_lV6 hws rfl) (Nat.le_of_ble_eq_true rfl) (gz_Ev_mono (d := 1) (by decide) E19) ?_
      show gv_X _ _ (34, [(0, .inr (.inr (some 39))), (1, .inr (.inr (some a1)))], [.inl z19], sh, gc_h sh I20 J A)
      refine gv_if_eq (t := 41) hD rfl rfl ⟨by exact gz_m 28 (by omega), by exact gz_m 29 (by omega)⟩ (fun c27 => ?_) (fun c27 => ?_)
      · show gv_X _ _ (41, [(0, .inr (.inr (some 39))), (1, .inr (.inr (some a1)))], [], sh, gc_h sh I20 J A)
        refine gv_run 1 true hD (pc' := 42) (lv' := [(0, .inr (.inr (some 39))), (1, .inr (.inr (some a1)))]) (st' := [.inl 0]) (h' := gc_h sh I20 J A) (C := (True ∧ True)) rfl ⟨trivial, trivial⟩ ?_
        exact gv_zret hD rfl (by exact gz_m 30 (by omega)) ⟨I20, J, rfl, hI20, FI20, FJ, ⟨_, rfl, by exact gz_m 31 (by omega), by exact gz_m 32 (by omega), by exact gz_m 33 (by omega), (Or.inr ⟨by exact gz_m 34 (by omega), (Or.inr (by exact gz_m 35 (by omega))), by exact gz_m 36 (by omega)⟩)⟩⟩
      · show gv_X _ _ (37, [(0, .inr (.inr (some 39))), (1, .inr (.inr (some a1)))], [], sh, gc_h sh I20 J A)
        refine gv_run 2 true hD (pc' := 42) (lv' := [(0, .inr (.inr (some 39))), (1, .inr (.inr (some a1)))]) (st' := [.inl 1]) (h' := gc_h sh I20 J A) (C := ((True ∧ True) ∧ True)) rfl ⟨⟨trivial, trivial⟩, trivial⟩ ?_
        exact gv_zret hD rfl (by exact gz_m 37 (by omega)) ⟨I20, J, rfl, hI20, FI20, FJ, ⟨_, rfl, by exact gz_m 38 (by omega), by exact gz_m 39 (by omega), by exact gz_m 40 (by omega), (Or.inl ⟨by exact gz_m 41 (by omega), by exact gz_m 42 (by omega), by exact gz_m 43 (by omega)⟩)⟩⟩
set_option maxHeartbeats 8000000 in
set_option maxRecDepth 100000 in
theorem d_X6_closes_p {ws0 : List Cond} {tb : String → gz_T} (hws : gc_Ws ws0) (htb : gc_tbs tb) (sh : gz_Sh) (ro : Nat → Nat) (I : gr_I) (J : gr_J) (A : gc_A) (hI : gc_Inv ro I) (β : Int → Int) (η : Int) (p9 : Int) (a1 : Int) (hb : gc_Base sh ro A) (ha1 : 0 ≤ a1 ∧ a1 ≤ 1) (x0 : gc_AT β η p9 23 I J) (x1 : 0 ≤ p9) (x2 : I 1 18 = 0) (KLT_I : gc_LT I) (KTK_I : gc_TK I) : ∃ r h', gz_Ev ws0 tb 4 (yX6_closes, cX6_closes, 2, (some .boolean)) [.inr (.inr (some 39)), .inl a1] sh (gc_h sh I J A) r sh h' 0 0 ∧ (∃ (I' : gr_I) (J' : gr_J), h' = gc_h sh I' J' A ∧ gc_Inv ro I' ∧ (∀ q j : Nat, ((q = 39 ∧ j = 3) ∨ (q = 39 ∧ j = 4) ∨ (q = 23 ∧ j = 5) ∨ (q = 23 ∧ j = 6) ∨ (q = 23 ∧ j = 7) ∨ (q = 23 ∧ j = 8)) ∨ I' q j = I q j) ∧ (∀ q j : Nat, ((q = 23 ∧ j = 9)) ∨ J' q j = J q j) ∧ gc_LT I' ∧ gc_TK I' ∧ (∃ z : Int, r = some (.inl z) ∧ 0 ≤ z ∧ z ≤ 1 ∧ (I' 23 1 = I 23 1) ∧ (I 23 5 ≤ I' 23 5) ∧ (z = 0 ∨ (a1 = 0 ∧ I 23 7 = 59 ∧ I 23 6 ≤ I' 23 5)) ∧ (gs_Or z (0 ≤ (gs_done β η (if a1 = 0 then 1 else 0) (I 39 5) p9) ∧ gc_AT β η (gs_done β η (if a1 = 0 then 1 else 0) (I 39 5) p9) 23 I' J') ((gs_done β η (if a1 = 0 then 1 else 0) (I 39 5) p9) < 0 ∧ I' 39 4 = -1 - (gs_done β η (if a1 = 0 then 1 else 0) (I 39 5) p9))))) := by
  have FI : ∀ q j : Nat, ((q = 39 ∧ j = 3) ∨ (q = 39 ∧ j = 4) ∨ (q = 23 ∧ j = 5) ∨ (q = 23 ∧ j = 6) ∨ (q = 23 ∧ j = 7) ∨ (q = 23 ∧ j = 8)) ∨ I q j = I q j := fun _ _ => Or.inr rfl
  have FJ : ∀ q j : Nat, ((q = 23 ∧ j = 9)) ∨ J q j = J q j := fun _ _ => Or.inr rfl
  have A_39_0 : A 39 0 = some 1 := gc_bA hb rfl
  have B_1 : 1 < 1000000 := by decide
  have B_39 : 39 < 1000000 := by decide
  have R_1 : ro 1 = 22 := gc_bR hb (by decide) rfl
  have R_23 : ro 23 = 3 := gc_bR hb (by decide) rfl
  have R_39 : ro 39 = 42 := gc_bR hb (by decide) rfl
  have S_1 : sh[1]? = some (false, 8, 21) := gc_bS hb rfl
  have S_39 : sh[39]? = some (false, 6, 19) := gc_bS hb rfl
  have hD : gv_D (gc_E6 ws0 tb 3 (yX6_closes, cX6_closes, 2, (some .boolean)) kX6_closes) := gq_of oX6_closes
  refine gc_ev6 (d := 3) (l := kX6_closes) (Po := fun r h' => (∃ (I' : gr_I) (J' : gr_J), h' = gc_h sh I' J' A ∧ gc_Inv ro I' ∧ (∀ q j : Nat, ((q = 39 ∧ j = 3) ∨ (q = 39 ∧ j = 4) ∨ (q = 23 ∧ j = 5) ∨ (q = 23 ∧ j = 6) ∨ (q = 23 ∧ j = 7) ∨ (q = 23 ∧ j = 8)) ∨ I' q j = I q j) ∧ (∀ q j : Nat, ((q = 23 ∧ j = 9)) ∨ J' q j = J q j) ∧ gc_LT I' ∧ gc_TK I' ∧ (∃ z : Int, r = some (.inl z) ∧ 0 ≤ z ∧ z ≤ 1 ∧ (I' 23 1 = I 23 1) ∧ (I 23 5 ≤ I' 23 5) ∧ (z = 0 ∨ (a1 = 0 ∧ I 23 7 = 59 ∧ I 23 6 ≤ I' 23 5)) ∧ (gs_Or z (0 ≤ (gs_done β η (if a1 = 0 then 1 else 0) (I 39 5) p9) ∧ gc_AT β η (gs_done β η (if a1 = 0 then 1 else 0) (I 39 5) p9) 23 I' J') ((gs_done β η (if a1 = 0 then 1 else 0) (I 39 5) p9) < 0 ∧ I' 39 4 = -1 - (gs_done β η (if a1 = 0 then 1 else 0) (I 39 5) p9)))))) htb rfl (Nat.le_of_ble_eq_true rfl) ?_
  have t1 := gc_TK_mo KTK_I
  have f2 := (show 0 ≤ I 23 1 ∧ I 23 1 ≤ 1000 from gc_in hI R_23 rfl rfl)
  have f3 := (show 0 ≤ I 23 5 ∧ I 23 5 ≤ 1000 from gc_in hI R_23 rfl rfl)
  have f4 := (show 0 ≤ I 23 6 ∧ I 23 6 ≤ 1001 from gc_in hI R_23 rfl rfl)
  have f5 := (show 0 ≤ I 23 7 ∧ I 23 7 ≤ 125 from gc_in hI R_23 rfl rfl)
  have f6 := (show 0 ≤ I 39 5 ∧ I 39 5 ≤ 1000 from gc_in hI R_39 rfl rfl)
  have f7 := (show 0 ≤ I 1 18 ∧ I 1 18 ≤ 1 from gc_in hI R_1 rfl rfl)
  have tAT := gc_AT_l x0
  refine gv_run 2 true hD (pc' := 3) (lv' := [(0, .inr (.inr (some 39))), (1, .inl a1)]) (st' := [.inl 59, .inr (.inr (some 39))]) (h' := gc_h sh I J A) (C := ((True ∧ True) ∧ True)) rfl ⟨⟨trivial, trivial⟩, trivial⟩ ?_
  obtain ⟨r8, h8, E8, P8⟩ := d_X6_take_p (ws0 := ws0) (tb := tb) hws htb sh ro I J A hI  β η p9 59 hb   ⟨by exact gz_m 0 (by omega), by exact gz_m 1 (by omega)⟩ (by exact gz_m 2 (by omega)) x0 (by exact gz_m 3 (by omega)) KLT_I KTK_I
  obtain ⟨I9, J10, rfl, hI9, g8, k8, KLT_I9, KTK_I9, ⟨z8, rfl, q8⟩⟩ := P8
  have FI9 := gc_frc (W := fun q j => (q = 39 ∧ j = 3) ∨ (q = 39 ∧ j = 4) ∨ (q = 23 ∧ j = 5) ∨ (q = 23 ∧ j = 6) ∨ (q = 23 ∧ j = 7) ∨ (q = 23 ∧ j = 8)) (V := fun q j => (q = 39 ∧ j = 3) ∨ (q = 39 ∧ j = 4) ∨ (q = 23 ∧ j = 5) ∨ (q = 23 ∧ j = 6) ∨ (q = 23 ∧ j = 7) ∨ (q = 23 ∧ j = 8)) FI (fun q j h => (h.elim (fun h => (Or.inl h)) (fun h => (h.elim (fun h => (Or.inr (Or.inl h))) (fun h => (h.elim (fun h => (Or.inr (Or.inr (Or.inl h)))) (fun h => (h.elim (fun h => (Or.inr (Or.inr (Or.inr (Or.inl h))))) (fun h => (h.elim (fun h => (Or.inr (Or.inr (Or.inr (Or.inr (Or.inl h)))))) (fun h => (Or.inr (Or.inr (Or.inr (Or.inr (Or.inr h)))))))))))))))) g8
  have FJ10 := gc_frc (W := fun q j => (q = 23 ∧ j = 9)) (V := fun q j => (q = 23 ∧ j = 9)) FJ (fun q j h => h) k8
  have t11 := (g8 23 1).resolve_left (fun h => h.elim (fun h => absurd h.2 (by decide)) (fun h => h.elim (fun h => absurd h.2 (by decide)) (fun h => h.elim (fun h => absurd h.2 (by decide)) (fun h => h.elim (fun h => absurd h.2 (by decide)) (fun h => h.elim (fun h => absurd h.2 (by decide)) (fun h => absurd h.2 (by decide)))))))
  have t12 := (g8 39 5).resolve_left (fun h => h.elim (fun h => absurd h.2 (by decide)) (fun h => h.elim (fun h => absurd h.2 (by decide)) (fun h => h.elim (fun h => absurd h.1 (by decide)) (fun h => h.elim (fun h => absurd h.2 (by decide)) (fun h => h.elim (fun h => absurd h.2 (by decide)) (fun h => absurd h.2 (by decide)))))))
  have t13 := (g8 1 18).resolve_left (fun h => h.elim (fun h => absurd h.2 (by decide)) (fun h => h.elim (fun h => absurd h.2 (by decide)) (fun h => h.elim (fun h => absurd h.2 (by decide)) (fun h => h.elim (fun h => absurd h.2 (by decide)) (fun h => h.elim (fun h => absurd h.2 (by decide)) (fun h => absurd h.2 (by decide)))))))
  have f14 := (show 0 ≤ I9 23 5 ∧ I9 23 5 ≤ 1000 from gc_in hI9 R_23 rfl rfl)
  have f15 := (show 0 ≤ I9 23 6 ∧ I9 23 6 ≤ 1001 from gc_in hI9 R_23 rfl rfl)
  have f16 := (show 0 ≤ I9 23 7 ∧ I9 23 7 ≤ 125 from gc_in hI9 R_23 rfl rfl)
  have t17 := gc_TK_mo KTK_I9
  refine gv_callV hD rfl (As := [.inl 59]) (st := []) rfl B_39 S_39 rfl (gc_lV6 hws rfl) (Nat.le_of_ble_eq_true rfl) (gz_Ev_mono (d := 3) (by decide) E8) ?_
  show gv_X _ _ (6, [(0, .inr (.inr (some 39))), (1, .inl a1)], [.inl z8], sh, gc_h sh I9 J10 A)
  refine gv_if_ne (t := 11) hD rfl rfl ⟨by exact gz_m 4 (by omega), by exact gz_m 5 (by omega)⟩ (fun c18 => ?_) (fun c18 => ?_)
  · show gv_X _ _ (11, [(0, .inr (.inr (some 39))), (1, .inl a1)], [], sh, gc_h sh I9 J10 A)
    obtain ⟨u19, A19⟩ := gs_or1 q8.2.2.2.2.2 (by exact gz_m 6 (by omega))
    have t20 := gc_AT_l A19
    refine gv_run 1 true hD (pc' := 12) (lv' := [(0, .inr (.inr (some 39))), (1, .inl a1)]) (st' := [.inl a1]) (h' := gc_h sh I9 J10 A) (C := (True ∧ True)) rfl ⟨trivial, trivial⟩ ?_
    refine gv_if_ne (t := 25) hD rfl rfl ⟨by exact gz_m 7 (by omega), by exact gz_m 8 (by omega)⟩ (fun c21 => ?_) (fun c21 => ?_)
    · show gv_X _ _ (25, [(0, .inr (.inr (some 39))), (1, .inl a1)], [], sh, gc_h sh I9 J10 A)
      refine gv_run 3 true hD (pc' := 28) (lv' := [(0, .inr (.inr (some 39))), (1, .inl a1)]) (st' := [.inr (.inr (some 39)), .inl 2, .inr (.inr (some 39))]) (h' := gc_h sh I9 J10 A) (C := (((True ∧ True) ∧ True) ∧ True)) rfl ⟨⟨⟨trivial, trivial⟩, trivial⟩, trivial⟩ ?_
      have f22 := (show 0 ≤ I9 39 5 ∧ I9 39 5 ≤ 1000 from gc_in hI9 R_39 rfl rfl)
      refine gv_get hD rfl rfl S_39 ⟨by decide, B_39⟩ (gc_hI S_39 rfl) ?_
      show gv_X _ _ (31, [(0, .inr (.inr (some 39))), (1, .inl a1)], [.inl (I9 39 5), .inl 2, .inr (.inr (some 39))], sh, gc_h sh I9 J10 A)
      obtain ⟨r23, h23, E23, P23⟩ := d_X6_wrong_p (ws0 := ws0) (tb := tb) hws htb sh ro I9 J10 A hI9  2 (I9 39 5) hb   ⟨by exact gz_m 9 (by omega), by exact gz_m 10 (by omega)⟩ ⟨by exact gz_m 11 (by omega), by exact gz_m 12 (by omega)⟩  
      obtain ⟨I24, J25, rfl, hI24, g23, k23, ⟨z23, rfl, q23⟩⟩ := P23
      have FI24 := gc_frc (W := fun q j => (q = 39 ∧ j = 3) ∨ (q = 39 ∧ j = 4) ∨ (q = 23 ∧ j = 5) ∨ (q = 23 ∧ j = 6) ∨ (q = 23 ∧ j = 7) ∨ (q = 23 ∧ j = 8)) (V := fun q j => (q = 39 ∧ j = 3) ∨ (q = 39 ∧ j = 4)) FI9 (fun q j h => (h.elim (fun h => (Or.inl h)) (fun h => (Or.inr (Or.inl h))))) g23
      have t26 := (g23 23 1).resolve_left (fun h => h.elim (fun h => absurd h.2 (by decide)) (fun h => absurd h.2 (by decide)))
      have t27 := (g23 23 5).resolve_left (fun h => h.elim (fun h => absurd h.2 (by decide)) (fun h => absurd h.2 (by decide)))
      have t28 := (g23 23 6).resolve_left (fun h => h.elim (fun h => absurd h.2 (by decide)) (fun h => absurd h.2 (by decide)))
      have t29 := (g23 23 7).resolve_left (fun h => h.elim (fun h => absurd h.2 (by decide)) (fun h => absurd h.2 (by decide)))
      have t30 := (g23 39 5).resolve_left (fun h => h.elim (fun h => absurd h.2 (by decide)) (fun h => absurd h.2 (by decide)))
      have t31 := (g23 1 18).resolve_left (fun h => h.elim (fun h => absurd h.2 (by decide)) (fun h => absurd h.2 (by decide)))
      obtain rfl : J10 = J25 := funext fun q => funext fun j => ((k23 q j).resolve_left id).symm
      have KLT_I24 := gc_LT_fr KLT_I9 ((g23 23 5).resolve_left (fun h => h.elim (fun h => absurd h.2 (by decide)) (fun h => absurd h.2 (by decide)))) ((g23 23 6).resolve_left (fun h => h.elim (fun h => absurd h.2 (by decide)) (fun h => absurd h.2 (by decide)))) ((g23 23 7).resolve_left (fun h => h.elim (fun h => absurd h.2 (by decide)) (fun h => absurd h.2 (by decide)))) (fun k => (g23 24 k).resolve_left (fun h => h.elim (fun h => absurd h.1 (by decide)) (fun h => absurd h.1 (by decide))))
      have KTK_I24 := gc_TK_fr KTK_I9 ((g23 23 1).resolve_left (fun h => h.elim (fun h => absurd h.2 (by decide)) (fun h => absurd h.2 (by decide)))) ((g23 23 5).resolve_left (fun h => h.elim (fun h => absurd h.2 (by decide)) (fun h => absurd h.2 (by decide)))) ((g23 23 6).resolve_left (fun h => h.elim (fun h => absurd h.2 (by decide)) (fun h => absurd h.2 (by decide)))) ((g23 23 7).resolve_left (fun h => h.elim (fun h => absurd h.2 (by decide)) (fun h => absurd h.2 (by decide))))
      have A32 := gc_AT_I A19 ((g23 23 1).resolve_left (fun h => h.elim (fun h => absurd h.2 (by decide)) (fun h => absurd h.2 (by decide)))) ((g23 23 5).resolve_left (fun h => h.elim (fun h => absurd h.2 (by decide)) (fun h => absurd h.2 (by decide)))) ((g23 23 6).resolve_left (fun h => h.elim (fun h => absurd h.2 (by decide)) (fun h => absurd h.2 (by decide)))) ((g23 23 7).resolve_left (fun h => h.elim (fun h => absurd h.2 (by decide)) (fun h => absurd h.2 (by decide)))) ((g23 23 8).resolve_left (fun h => h.elim (fun h => absurd h.2 (by decide)) (fun h => absurd h.2 (by decide)))) (fun k => (g23 24 k).resolve_left (fun h => h.elim (fun h => absurd h.1 (by decide)) (fun h => absurd h.1 (by decide))))
      have t33 := gc_AT_l A32
      refine gv_callV hD rfl (As := [.inl 2, .inl (I9 39 5)]) (st := []) rfl B_39 S_39 rfl (gc_lV6 hws rfl) (Nat.le_of_ble_eq_true rfl) (gz_Ev_mono (d := 1) (by decide) E23) ?_
      show gv_X _ _ (34, [(0, .inr (.inr (some 39))), (1, .inl a1)], [.inl z23], sh, gc_h sh I24 J10 A)
      refine gv_if_eq (t := 41) hD rfl rfl ⟨by exact gz_m 13 (by omega), by exact gz_m 14 (by omega)⟩ (fun c34 => ?_) (fun c34 => ?_)
      · show gv_X _ _ (41, [(0, .inr (.inr (some 39))), (1, .inl a1)], [], sh, gc_h sh I24 J10 A)
        refine gv_run 1 true hD (pc' := 42) (lv' := [(0, .inr (.inr (some 39))), (1, .inl a1)]) (st' := [.inl 0]) (h' := gc_h sh I24 J10 A) (C := (True ∧ True)) rfl ⟨trivial, trivial⟩ ?_
        exact gv_zret hD rfl (by exact gz_m 15 (by omega)) ⟨I24, J10, rfl, hI24, FI24, FJ10, KLT_I24, KTK_I24, ⟨_, rfl, by exact gz_m 16 (by omega), by exact gz_m 17 (by omega), by exact gz_m 18 (by omega), by exact gz_m 19 (by omega), by exact gz_m 20 (by omega), (Or.inr ⟨by exact gz_m 21 (by omega), by first | (exfalso; exact gz_m 22 (by omega)) | (unfold gs_done; (repeat first | rw [if_pos (by exact gz_m 23 (by omega))] | rw [if_neg (by exact gz_m 24 (by omega))]); exact ⟨by exact gz_m 25 (by omega), by exact gz_m 26 (by omega)⟩) | (have h9 := gs_need_z (β := β) (N := η) (c := 59) (p := p9) (by exact gz_m 27 (by omega)) (by exact gz_m 28 (by omega)); unfold gs_done; (repeat first | rw [if_pos (by exact gz_m 29 (by omega))] | rw [if_neg (by exact gz_m 30 (by omega))]); exact ⟨by exact gz_m 31 (by omega), by exact gz_m 32 (by omega)⟩)⟩)⟩⟩
      · show gv_X _ _ (37, [(0, .inr (.inr (some 39))), (1, .inl a1)], [], sh, gc_h sh I24 J10 A)
        refine gv_run 2 true hD (pc' := 42) (lv' := [(0, .inr (.inr (some 39))), (1, .inl a1)]) (st' := [.inl 1]) (h' := gc_h sh I24 J10 A) (C := ((True ∧ True) ∧ True)) rfl ⟨⟨trivial, trivial⟩, trivial⟩ ?_
        exact gv_zret hD rfl (by exact gz_m 33 (by omega)) ⟨I24, J10, rfl, hI24, FI24, FJ10, KLT_I24, KTK_I24, ⟨_, rfl, by exact gz_m 34 (by omega), by exact gz_m 35 (by omega), by exact gz_m 36 (by omega), by exact gz_m 37 (by omega), by exact gz_m 38 (by omega), (Or.inl ⟨by exact gz_m 39 (by omega), by first | (exfalso; exact gz_m 40 (by omega)) | (have e9 : (gs_done β η (if a1 = 0 then 1 else 0) (I 39 5) p9) = (gs_need β η 59 p9) := (by unfold gs_done gs_need; (repeat first | rw [if_pos (by exact gz_m 41 (by omega))] | rw [if_neg (by exact gz_m 42 (by omega))])); rw [e9]; exact ⟨by exact gz_m 43 (by omega), A32⟩)⟩)⟩⟩
    · show gv_X _ _ (15, [(0, .inr (.inr (some 39))), (1, .inl a1)], [], sh, gc_h sh I9 J10 A)
      refine gv_run 1 true hD (pc' := 16) (lv' := [(0, .inr (.inr (some 39))), (1, .inl a1)]) (st' := [.inr (.inr (some 39))]) (h' := gc_h sh I9 J10 A) (C := (True ∧ True)) rfl ⟨trivial, trivial⟩ ?_
      refine gv_get hD rfl rfl S_39 ⟨by decide, B_39⟩ (gc_hA S_39 rfl A_39_0) ?_
      show gv_X _ _ (19, [(0, .inr (.inr (some 39))), (1, .inl a1)], [.inr (.inr (some 1))], sh, gc_h sh I9 J10 A)
      have f35 := (show 0 ≤ I9 1 18 ∧ I9 1 18 ≤ 1 from gc_in hI9 R_1 rfl rfl)
      refine gv_get hD rfl rfl S_1 ⟨by decide, B_1⟩ (gc_hI S_1 rfl) ?_
      show gv_X _ _ (22, [(0, .inr (.inr (some 39))), (1, .inl a1)], [.inl (I9 1 18)], sh, gc_h sh I9 J10 A)
      refine gv_if_eq (t := 37) hD rfl rfl ⟨by exact gz_m 44 (by omega), by exact gz_m 45 (by omega)⟩ (fun c36 => ?_) (fun c36 => ?_)
      · show gv_X _ _ (37, [(0, .inr (.inr (some 39))), (1, .inl a1)], [], sh, gc_h sh I9 J10 A)
        refine gv_run 2 true hD (pc' := 42) (lv' := [(0, .inr (.inr (some 39))), (1, .inl a1)]) (st' := [.inl 1]) (h' := gc_h sh I9 J10 A) (C := ((True ∧ True) ∧ True)) rfl ⟨⟨trivial, trivial⟩, trivial⟩ ?_
        exact gv_zret hD rfl (by exact gz_m 46 (by omega)) ⟨I9, J10, rfl, hI9, FI9, FJ10, KLT_I9, KTK_I9, ⟨_, rfl, by exact gz_m 47 (by omega), by exact gz_m 48 (by omega), by exact gz_m 49 (by omega), by exact gz_m 50 (by omega), by exact gz_m 51 (by omega), (Or.inl ⟨by exact gz_m 52 (by omega), by first | (exfalso; exact gz_m 53 (by omega)) | (have e9 : (gs_done β η (if a1 = 0 then 1 else 0) (I 39 5) p9) = (gs_need β η 59 p9) := (by unfold gs_done gs_need; (repeat first | rw [if_pos (by exact gz_m 54 (by omega))] | rw [if_neg (by exact gz_m 55 (by omega))])); rw [e9]; exact ⟨by exact gz_m 56 (by omega), A19⟩)⟩)⟩⟩
      · show gv_X _ _ (25, [(0, .inr (.inr (some 39))), (1, .inl a1)], [], sh, gc_h sh I9 J10 A)
        refine gv_run 3 true hD (pc' := 28) (lv' := [(0, .inr (.inr (some 39))), (1, .inl a1)]) (st' := [.inr (.inr (some 39)), .inl 2, .inr (.inr (some 39))]) (h' := gc_h sh I9 J10 A) (C := (((True ∧ True) ∧ True) ∧ True)) rfl ⟨⟨⟨trivial, trivial⟩, trivial⟩, trivial⟩ ?_
        have f37 := (show 0 ≤ I9 39 5 ∧ I9 39 5 ≤ 1000 from gc_in hI9 R_39 rfl rfl)
        refine gv_get hD rfl rfl S_39 ⟨by decide, B_39⟩ (gc_hI S_39 rfl) ?_
        show gv_X _ _ (31, [(0, .inr (.inr (some 39))), (1, .inl a1)], [.inl (I9 39 5), .inl 2, .inr (.inr (some 39))], sh, gc_h sh I9 J10 A)
        obtain ⟨r38, h38, E38, P38⟩ := d_X6_wrong_p (ws0 := ws0) (tb := tb) hws htb sh ro I9 J10 A hI9  2 (I9 39 5) hb   ⟨by exact gz_m 57 (by omega), by exact gz_m 58 (by omega)⟩ ⟨by exact gz_m 59 (by omega), by exact gz_m 60 (by omega)⟩  
        obtain ⟨I39, J40, rfl, hI39, g38, k38, ⟨z38, rfl, q38⟩⟩ := P38
        have FI39 := gc_frc (W := fun q j => (q = 39 ∧ j = 3) ∨ (q = 39 ∧ j = 4) ∨ (q = 23 ∧ j = 5) ∨ (q = 23 ∧ j = 6) ∨ (q = 23 ∧ j = 7) ∨ (q = 23 ∧ j = 8)) (V := fun q j => (q = 39 ∧ j = 3) ∨ (q = 39 ∧ j = 4)) FI9 (fun q j h => (h.elim (fun h => (Or.inl h)) (fun h => (Or.inr (Or.inl h))))) g38
        have t41 := (g38 23 1).resolve_left (fun h => h.elim (fun h => absurd h.2 (by decide)) (fun h => absurd h.2 (by decide)))
        have t42 := (g38 23 5).resolve_left (fun h => h.elim (fun h => absurd h.2 (by decide)) (fun h => absurd h.2 (by decide)))
        have t43 := (g38 23 6).resolve_left (fun h => h.elim (fun h => absurd h.2 (by decide)) (fun h => absurd h.2 (by decide)))
        have t44 := (g38 23 7).resolve_left (fun h => h.elim (fun h => absurd h.2 (by decide)) (fun h => absurd h.2 (by decide)))
        have t45 := (g38 39 5).resolve_left (fun h => h.elim (fun h => absurd h.2 (by decide)) (fun h => absurd h.2 (by decide)))
        have t46 := (g38 1 18).resolve_left (fun h => h.elim (fun h => absurd h.2 (by decide)) (fun h => absurd h.2 (by decide)))
        obtain rfl : J10 = J40 := funext fun q => funext fun j => ((k38 q j).resolve_left id).symm
        have KLT_I39 := gc_LT_fr KLT_I9 ((g38 23 5).resolve_left (fun h => h.elim (fun h => absurd h.2 (by decide)) (fun h => absurd h.2 (by decide)))) ((g38 23 6).resolve_left (fun h => h.elim (fun h => absurd h.2 (by decide)) (fun h => absurd h.2 (by decide)))) ((g38 23 7).resolve_left (fun h => h.elim (fun h => absurd h.2 (by decide)) (fun h => absurd h.2 (by decide)))) (fun k => (g38 24 k).resolve_left (fun h => h.elim (fun h => absurd h.1 (by decide)) (fun h => absurd h.1 (by decide))))
        have KTK_I39 := gc_TK_fr KTK_I9 ((g38 23 1).resolve_left (fun h => h.elim (fun h => absurd h.2 (by decide)) (fun h => absurd h.2 (by decide)))) ((g38 23 5).resolve_left (fun h => h.elim (fun h => absurd h.2 (by decide)) (fun h => absurd h.2 (by decide)))) ((g38 23 6).resolve_left (fun h => h.elim (fun h => absurd h.2 (by decide)) (fun h => absurd h.2 (by decide)))) ((g38 23 7).resolve_left (fun h => h.elim (fun h => absurd h.2 (by decide)) (fun h => absurd h.2 (by decide))))
        have A47 := gc_AT_I A19 ((g38 23 1).resolve_left (fun h => h.elim (fun h => absurd h.2 (by decide)) (fun h => absurd h.2 (by decide)))) ((g38 23 5).resolve_left (fun h => h.elim (fun h => absurd h.2 (by decide)) (fun h => absurd h.2 (by decide)))) ((g38 23 6).resolve_left (fun h => h.elim (fun h => absurd h.2 (by decide)) (fun h => absurd h.2 (by decide)))) ((g38 23 7).resolve_left (fun h => h.elim (fun h => absurd h.2 (by decide)) (fun h => absurd h.2 (by decide)))) ((g38 23 8).resolve_left (fun h => h.elim (fun h => absurd h.2 (by decide)) (fun h => absurd h.2 (by decide)))) (fun k => (g38 24 k).resolve_left (fun h => h.elim (fun h => absurd h.1 (by decide)) (fun h => absurd h.1 (by decide))))
        have t48 := gc_AT_l A47
        refine gv_callV hD rfl (As := [.inl 2, .inl (I9 39 5)]) (st := []) rfl B_39 S_39 rfl (gc_lV6 hws rfl) (Nat.le_of_ble_eq_true rfl) (gz_Ev_mono (d := 1) (by decide) E38) ?_
        show gv_X _ _ (34, [(0, .inr (.inr (some 39))), (1, .inl a1)], [.inl z38], sh, gc_h sh I39 J10 A)
        refine gv_if_eq (t := 41) hD rfl rfl ⟨by exact gz_m 61 (by omega), by exact gz_m 62 (by omega)⟩ (fun c49 => ?_) (fun c49 => ?_)
        · show gv_X _ _ (41, [(0, .inr (.inr (some 39))), (1, .inl a1)], [], sh, gc_h sh I39 J10 A)
          refine gv_run 1 true hD (pc' := 42) (lv' := [(0, .inr (.inr (some 39))), (1, .inl a1)]) (st' := [.inl 0]) (h' := gc_h sh I39 J10 A) (C := (True ∧ True)) rfl ⟨trivial, trivial⟩ ?_
          exact gv_zret hD rfl (by exact gz_m 63 (by omega)) ⟨I39, J10, rfl, hI39, FI39, FJ10, KLT_I39, KTK_I39, ⟨_, rfl, by exact gz_m 64 (by omega), by exact gz_m 65 (by omega), by exact gz_m 66 (by omega), by exact gz_m 67 (by omega), by exact gz_m 68 (by omega), (Or.inr ⟨by exact gz_m 69 (by omega), by first | (exfalso; exact gz_m 70 (by omega)) | (unfold gs_done; (repeat first | rw [if_pos (by exact gz_m 71 (by omega))] | rw [if_neg (by exact gz_m 72 (by omega))]); exact ⟨by exact gz_m 73 (by omega), by exact gz_m 74 (by omega)⟩) | (have h9 := gs_need_z (β := β) (N := η) (c := 59) (p := p9) (by exact gz_m 75 (by omega)) (by exact gz_m 76 (by omega)); unfold gs_done; (repeat first | rw [if_pos (by exact gz_m 77 (by omega))] | rw [if_neg (by exact gz_m 78 (by omega))]); exact ⟨by exact gz_m 79 (by omega), by exact gz_m 80 (by omega)⟩)⟩)⟩⟩
        · show gv_X _ _ (37, [(0, .inr (.inr (some 39))), (1, .inl a1)], [], sh, gc_h sh I39 J10 A)
          refine gv_run 2 true hD (pc' := 42) (lv' := [(0, .inr (.inr (some 39))), (1, .inl a1)]) (st' := [.inl 1]) (h' := gc_h sh I39 J10 A) (C := ((True ∧ True) ∧ True)) rfl ⟨⟨trivial, trivial⟩, trivial⟩ ?_
          exact gv_zret hD rfl (by exact gz_m 81 (by omega)) ⟨I39, J10, rfl, hI39, FI39, FJ10, KLT_I39, KTK_I39, ⟨_, rfl, by exact gz_m 82 (by omega), by exact gz_m 83 (by omega), by exact gz_m 84 (by omega), by exact gz_m 85 (by omega), by exact gz_m 86 (by omega), (Or.inl ⟨by exact gz_m 87 (by omega), by first | (exfalso; exact gz_m 88 (by omega)) | (have e9 : (gs_done β η (if a1 = 0 then 1 else 0) (I 39 5) p9) = (gs_need β η 59 p9) := (by unfold gs_done gs_need; (repeat first | rw [if_pos (by exact gz_m 89 (by omega))] | rw [if_neg (by exact gz_m 90 (by omega))])); rw [e9]; exact ⟨by exact gz_m 91 (by omega), A47⟩)⟩)⟩⟩
  · show gv_X _ _ (9, [(0, .inr (.inr (some 39))), (1, .inl a1)], [], sh, gc_h sh I9 J10 A)
    obtain ⟨u50, u50_⟩ := gs_or0 q8.2.2.2.2.2 (by exact gz_m 92 (by omega))
    refine gv_run 1 true hD (pc' := 10) (lv' := [(0, .inr (.inr (some 39))), (1, .inl a1)]) (st' := [.inl 0]) (h' := gc_h sh I9 J10 A) (C := (True ∧ True)) rfl ⟨trivial, trivial⟩ ?_
    exact gv_zret hD rfl (by exact gz_m 93 (by omega)) ⟨I9, J10, rfl, hI9, FI9, FJ10, KLT_I9, KTK_I9, ⟨_, rfl, by exact gz_m 94 (by omega), by exact gz_m 95 (by omega), by exact gz_m 96 (by omega), by exact gz_m 97 (by omega), by exact gz_m 98 (by omega), (Or.inr ⟨by exact gz_m 99 (by omega), by first | (exfalso; exact gz_m 100 (by omega)) | (unfold gs_done; (repeat first | rw [if_pos (by exact gz_m 101 (by omega))] | rw [if_neg (by exact gz_m 102 (by omega))]); exact ⟨by exact gz_m 103 (by omega), by exact gz_m 104 (by omega)⟩) | (have h9 := gs_need_z (β := β) (N := η) (c := 59) (p := p9) (by exact gz_m 105 (by omega)) (by exact gz_m 106 (by omega)); unfold gs_done; (repeat first | rw [if_pos (by exact gz_m 107 (by omega))] | rw [if_neg (by exact gz_m 108 (by omega))]); exact ⟨by exact gz_m 109 (by omega), by exact gz_m 110 (by omega)⟩)⟩)⟩⟩
set_option maxHeartbeats 8000000 in
set_option maxRecDepth 100000 in
theorem d_X6_readCost_p {ws0 : List Cond} {tb : String → gz_T} (hws : gc_Ws ws0) (htb : gc_tbs tb) (sh : gz_Sh) (ro : Nat → Nat) (I : gr_I) (J : gr_J) (A : gc_A) (hI : gc_Inv ro I) (β : Int → Int) (η : Int) (p9 : Int)  (hb : gc_Base sh ro A)  (x0 : gc_AT β η p9 23 I J) (x1 : 0 ≤ p9) (KLT_I : gc_LT I) (KTK_I : gc_TK I) : ∃ r h', gz_Ev ws0 tb 3 (yX6_readCost, cX6_readCost, 1, (some .boolean)) [.inr (.inr (some 39))] sh (gc_h sh I J A) r sh h' 0 0 ∧ (∃ (I' : gr_I) (J' : gr_J), h' = gc_h sh I' J' A ∧ gc_Inv ro I' ∧ (∀ q j : Nat, ((q = 39 ∧ j = 3) ∨ (q = 39 ∧ j = 4) ∨ (q = 23 ∧ j = 5) ∨ (q = 23 ∧ j = 6) ∨ (q = 23 ∧ j = 7) ∨ (q = 23 ∧ j = 8) ∨ (q = 39 ∧ j = 7)) ∨ I' q j = I q j) ∧ (∀ q j : Nat, ((q = 23 ∧ j = 9)) ∨ J' q j = J q j) ∧ gc_LT I' ∧ gc_TK I' ∧ (∃ z : Int, r = some (.inl z) ∧ 0 ≤ z ∧ z ≤ 1 ∧ (I' 23 1 = I 23 1) ∧ (I 23 5 ≤ I' 23 5) ∧ (gs_Or z (0 ≤ (gs_cost β η p9) ∧ gc_AT β η (gs_cost β η p9) 23 I' J' ∧ I' 39 7 = gs_prc β η p9) ((gs_cost β η p9) < 0 ∧ I' 39 4 = -1 - (gs_cost β η p9))))) := by
  have FI : ∀ q j : Nat, ((q = 39 ∧ j = 3) ∨ (q = 39 ∧ j = 4) ∨ (q = 23 ∧ j = 5) ∨ (q = 23 ∧ j = 6) ∨ (q = 23 ∧ j = 7) ∨ (q = 23 ∧ j = 8) ∨ (q = 39 ∧ j = 7)) ∨ I q j = I q j := fun _ _ => Or.inr rfl
  have FJ : ∀ q j : Nat, ((q = 23 ∧ j = 9)) ∨ J q j = J q j := fun _ _ => Or.inr rfl
  have A_39_1 : A 39 1 = some 23 := gc_bA hb rfl
  have B_23 : 23 < 1000000 := by decide
  have B_39 : 39 < 1000000 := by decide
  have R_23 : ro 23 = 3 := gc_bR hb (by decide) rfl
  have R_39 : ro 39 = 42 := gc_bR hb (by decide) rfl
  have S_23 : sh[23]? = some (false, 9, 10) := gc_bS hb rfl
  have S_39 : sh[39]? = some (false, 6, 19) := gc_bS hb rfl
  have hD : gv_D (gc_E6 ws0 tb 2 (yX6_readCost, cX6_readCost, 1, (some .boolean)) kX6_readCost) := gq_of oX6_readCost
  refine gc_ev6 (d := 2) (l := kX6_readCost) (Po := fun r h' => (∃ (I' : gr_I) (J' : gr_J), h' = gc_h sh I' J' A ∧ gc_Inv ro I' ∧ (∀ q j : Nat, ((q = 39 ∧ j = 3) ∨ (q = 39 ∧ j = 4) ∨ (q = 23 ∧ j = 5) ∨ (q = 23 ∧ j = 6) ∨ (q = 23 ∧ j = 7) ∨ (q = 23 ∧ j = 8) ∨ (q = 39 ∧ j = 7)) ∨ I' q j = I q j) ∧ (∀ q j : Nat, ((q = 23 ∧ j = 9)) ∨ J' q j = J q j) ∧ gc_LT I' ∧ gc_TK I' ∧ (∃ z : Int, r = some (.inl z) ∧ 0 ≤ z ∧ z ≤ 1 ∧ (I' 23 1 = I 23 1) ∧ (I 23 5 ≤ I' 23 5) ∧ (gs_Or z (0 ≤ (gs_cost β η p9) ∧ gc_AT β η (gs_cost β η p9) 23 I' J' ∧ I' 39 7 = gs_prc β η p9) ((gs_cost β η p9) < 0 ∧ I' 39 4 = -1 - (gs_cost β η p9)))))) htb rfl (Nat.le_of_ble_eq_true rfl) ?_
  have t1 := gc_TK_mo KTK_I
  have f2 := (show 0 ≤ I 23 1 ∧ I 23 1 ≤ 1000 from gc_in hI R_23 rfl rfl)
  have f3 := (show 0 ≤ I 23 5 ∧ I 23 5 ≤ 1000 from gc_in hI R_23 rfl rfl)
  have f4 := (show 0 ≤ I 23 6 ∧ I 23 6 ≤ 1001 from gc_in hI R_23 rfl rfl)
  have f5 := (show 0 ≤ I 23 7 ∧ I 23 7 ≤ 125 from gc_in hI R_23 rfl rfl)
  have f6 := (show 0 ≤ I 39 7 ∧ I 39 7 ≤ 10000 from gc_in hI R_39 rfl rfl)
  have tAT := gc_AT_l x0
  refine gv_run 2 true hD (pc' := 2) (lv' := [(0, .inr (.inr (some 39)))]) (st' := [.inl 0, .inr (.inr (some 39))]) (h' := gc_h sh I J A) (C := ((True ∧ True) ∧ True)) rfl ⟨⟨trivial, trivial⟩, trivial⟩ ?_
  refine gv_put hD rfl rfl S_39 ⟨by decide, B_39⟩ rfl trivial ?_
  refine gc_st (k := 7) hI S_39 rfl R_39 (lo := 0) (hi := 10000) rfl rfl (by exact gz_m 0 (by omega)) (by exact gz_m 1 (by omega)) (fun I7 hI7 q8 p8 => ?_)
  have FI7 := gc_frs (W := fun q j => (q = 39 ∧ j = 3) ∨ (q = 39 ∧ j = 4) ∨ (q = 23 ∧ j = 5) ∨ (q = 23 ∧ j = 6) ∨ (q = 23 ∧ j = 7) ∨ (q = 23 ∧ j = 8) ∨ (q = 39 ∧ j = 7)) FI (Or.inr (Or.inr (Or.inr (Or.inr (Or.inr (Or.inr ⟨rfl, rfl⟩)))))) p8
  have t9 := p8 23 1 (fun h => absurd h.2 (by decide))
  have t10 := p8 23 5 (fun h => absurd h.2 (by decide))
  have t11 := p8 23 6 (fun h => absurd h.2 (by decide))
  have t12 := p8 23 7 (fun h => absurd h.1 (by decide))
  have f13 := (show 0 ≤ I7 39 7 ∧ I7 39 7 ≤ 10000 from gc_in hI7 R_39 rfl rfl)
  have KLT_I7 := gc_LT_fr KLT_I (p8 23 5 (fun h => absurd h.2 (by decide))) (p8 23 6 (fun h => absurd h.2 (by decide))) (p8 23 7 (fun h => absurd h.1 (by decide))) (fun k => p8 24 k (fun h => absurd h.1 (by decide)))
  have KTK_I7 := gc_TK_fr KTK_I (p8 23 1 (fun h => absurd h.2 (by decide))) (p8 23 5 (fun h => absurd h.2 (by decide))) (p8 23 6 (fun h => absurd h.2 (by decide))) (p8 23 7 (fun h => absurd h.1 (by decide)))
  have A14 := gc_AT_I x0 (p8 23 1 (fun h => absurd h.2 (by decide))) (p8 23 5 (fun h => absurd h.2 (by decide))) (p8 23 6 (fun h => absurd h.2 (by decide))) (p8 23 7 (fun h => absurd h.1 (by decide))) (p8 23 8 (fun h => absurd h.2 (by decide))) (fun k => p8 24 k (fun h => absurd h.1 (by decide)))
  show gv_X _ _ (5, [(0, .inr (.inr (some 39)))], [], sh, gc_h sh I7 J A)
  refine gv_run 2 true hD (pc' := 9) (lv' := [(0, .inr (.inr (some 39)))]) (st' := [.inr (.inl (1668248436)), .inr (.inr (some 39))]) (h' := gc_h sh I7 J A) (C := ((True ∧ True) ∧ True)) rfl ⟨⟨trivial, trivial⟩, trivial⟩ ?_
  obtain ⟨r15, h15, E15, P15⟩ := d_X6_isWord_p (ws0 := ws0) (tb := tb) hws htb sh ro I7 J A hI7  β η p9 (1668248436) hb    A14 (by exact gz_m 2 (by omega)) 
  obtain ⟨rfl, ⟨z15, rfl, q15⟩⟩ := P15
  have t16 : z15 = gs_kw β η p9 (gs_W 92) := q15.2.2.2.trans (gs_kwc_kw (gs_W_al 92 (by decide) (by decide)))
  refine gv_callV hD rfl (As := [.inr (.inl (1668248436))]) (st := []) rfl B_39 S_39 rfl (gc_lV6 hws rfl) (Nat.le_of_ble_eq_true rfl) (gz_Ev_mono (d := 1) (by decide) E15) ?_
  show gv_X _ _ (12, [(0, .inr (.inr (some 39)))], [.inl z15], sh, gc_h sh I7 J A)
  refine gv_if_ne (t := 17) hD rfl rfl ⟨by exact gz_m 3 (by omega), by exact gz_m 4 (by omega)⟩ (fun c17 => ?_) (fun c17 => ?_)
  · show gv_X _ _ (17, [(0, .inr (.inr (some 39)))], [], sh, gc_h sh I7 J A)
    refine gv_run 1 true hD (pc' := 18) (lv' := [(0, .inr (.inr (some 39)))]) (st' := [.inr (.inr (some 39))]) (h' := gc_h sh I7 J A) (C := (True ∧ True)) rfl ⟨trivial, trivial⟩ ?_
    refine gv_get hD rfl rfl S_39 ⟨by decide, B_39⟩ (gc_hA S_39 rfl A_39_1) ?_
    show gv_X _ _ (21, [(0, .inr (.inr (some 39)))], [.inr (.inr (some 23))], sh, gc_h sh I7 J A)
    have t19 := gc_TK_nx KTK_I7 (by exact gz_m 5 (by omega))
    obtain ⟨r18, h18, E18, P18⟩ := d_X9_advance_p (ws0 := ws0) (tb := tb) hws htb sh ro I7 J A hI7 23 β η  (gc_b23 hb)    (by exact gz_m 6 (by omega)) A14.1.1 A14.1.2 
    obtain ⟨I20, J21, rfl, hI20, g18, k18, ⟨rfl, V18_0, V18_1, V18_2, V18_3, V18_4, q18⟩⟩ := P18
    have FI20 := gc_frc (W := fun q j => (q = 39 ∧ j = 3) ∨ (q = 39 ∧ j = 4) ∨ (q = 23 ∧ j = 5) ∨ (q = 23 ∧ j = 6) ∨ (q = 23 ∧ j = 7) ∨ (q = 23 ∧ j = 8) ∨ (q = 39 ∧ j = 7)) (V := fun q j => (q = 23 ∧ j = 5) ∨ (q = 23 ∧ j = 6) ∨ (q = 23 ∧ j = 7) ∨ (q = 23 ∧ j = 8)) FI7 (fun q j h => (h.elim (fun h => (Or.inr (Or.inr (Or.inl h)))) (fun h => (h.elim (fun h => (Or.inr (Or.inr (Or.inr (Or.inl h))))) (fun h => (h.elim (fun h => (Or.inr (Or.inr (Or.inr (Or.inr (Or.inl h)))))) (fun h => (Or.inr (Or.inr (Or.inr (Or.inr (Or.inr (Or.inl h))))))))))))) g18
    have FJ21 := gc_frc (W := fun q j => (q = 23 ∧ j = 9)) (V := fun q j => (q = 23 ∧ j = 9)) FJ (fun q j h => h) k18
    have t22 := (g18 23 1).resolve_left (fun h => h.elim (fun h => absurd h.2 (by decide)) (fun h => h.elim (fun h => absurd h.2 (by decide)) (fun h => h.elim (fun h => absurd h.2 (by decide)) (fun h => absurd h.2 (by decide)))))
    have t23 := (g18 39 7).resolve_left (fun h => h.elim (fun h => absurd h.2 (by decide)) (fun h => h.elim (fun h => absurd h.2 (by decide)) (fun h => h.elim (fun h => absurd h.1 (by decide)) (fun h => absurd h.2 (by decide)))))
    have f24 := (show 0 ≤ I20 23 5 ∧ I20 23 5 ≤ 1000 from gc_in hI20 R_23 rfl rfl)
    have f25 := (show 0 ≤ I20 23 6 ∧ I20 23 6 ≤ 1001 from gc_in hI20 R_23 rfl rfl)
    have f26 := (show 0 ≤ I20 23 7 ∧ I20 23 7 ≤ 125 from gc_in hI20 R_23 rfl rfl)
    have KLT_I20 : gc_LT I20 := q18.2.2.1
    have KTK_I20 : gc_TK I20 := And.intro V18_0 (And.intro V18_1 (And.intro V18_2 (And.intro V18_3 V18_4)))
    have t27 := gc_TK_mo KTK_I20
    clear V18_0 V18_1 V18_2 V18_3 V18_4
    have A28 := gc_AT_nx A14 q18.2.2.2
    have t29 := gc_AT_l A28
    refine gv_callV hD rfl (As := []) (st := []) rfl B_23 S_23 rfl (gc_lV6 hws rfl) (Nat.le_of_ble_eq_true rfl) (gz_Ev_mono (d := 2) (by decide) E18) ?_
    show gv_X _ _ (24, [(0, .inr (.inr (some 39)))], [], sh, gc_h sh I20 J21 A)
    refine gv_run 2 true hD (pc' := 26) (lv' := [(0, .inr (.inr (some 39)))]) (st' := [.inl 2, .inr (.inr (some 39))]) (h' := gc_h sh I20 J21 A) (C := ((True ∧ True) ∧ True)) rfl ⟨⟨trivial, trivial⟩, trivial⟩ ?_
    obtain ⟨r30, h30, E30, P30⟩ := d_X6_need_p (ws0 := ws0) (tb := tb) hws htb sh ro I20 J21 A hI20  β η (gs_X β η p9) 2 hb   ⟨by exact gz_m 7 (by omega), by exact gz_m 8 (by omega)⟩ A28 (by exact gz_m 9 (by omega)) 
    obtain ⟨I31, J32, rfl, hI31, g30, k30, ⟨z30, rfl, q30⟩⟩ := P30
    have FI31 := gc_frc (W := fun q j => (q = 39 ∧ j = 3) ∨ (q = 39 ∧ j = 4) ∨ (q = 23 ∧ j = 5) ∨ (q = 23 ∧ j = 6) ∨ (q = 23 ∧ j = 7) ∨ (q = 23 ∧ j = 8) ∨ (q = 39 ∧ j = 7)) (V := fun q j => (q = 39 ∧ j = 3) ∨ (q = 39 ∧ j = 4)) FI20 (fun q j h => (h.elim (fun h => (Or.inl h)) (fun h => (Or.inr (Or.inl h))))) g30
    have t33 := (g30 23 1).resolve_left (fun h => h.elim (fun h => absurd h.2 (by decide)) (fun h => absurd h.2 (by decide)))
    have t34 := (g30 23 5).resolve_left (fun h => h.elim (fun h => absurd h.2 (by decide)) (fun h => absurd h.2 (by decide)))
    have t35 := (g30 23 6).resolve_left (fun h => h.elim (fun h => absurd h.2 (by decide)) (fun h => absurd h.2 (by decide)))
    have t36 := (g30 23 7).resolve_left (fun h => h.elim (fun h => absurd h.2 (by decide)) (fun h => absurd h.2 (by decide)))
    have t37 := (g30 39 7).resolve_left (fun h => h.elim (fun h => absurd h.2 (by decide)) (fun h => absurd h.2 (by decide)))
    obtain rfl : J21 = J32 := funext fun q => funext fun j => ((k30 q j).resolve_left id).symm
    have KLT_I31 := gc_LT_fr KLT_I20 ((g30 23 5).resolve_left (fun h => h.elim (fun h => absurd h.2 (by decide)) (fun h => absurd h.2 (by decide)))) ((g30 23 6).resolve_left (fun h => h.elim (fun h => absurd h.2 (by decide)) (fun h => absurd h.2 (by decide)))) ((g30 23 7).resolve_left (fun h => h.elim (fun h => absurd h.2 (by decide)) (fun h => absurd h.2 (by decide)))) (fun k => (g30 24 k).resolve_left (fun h => h.elim (fun h => absurd h.1 (by decide)) (fun h => absurd h.1 (by decide))))
    have KTK_I31 := gc_TK_fr KTK_I20 ((g30 23 1).resolve_left (fun h => h.elim (fun h => absurd h.2 (by decide)) (fun h => absurd h.2 (by decide)))) ((g30 23 5).resolve_left (fun h => h.elim (fun h => absurd h.2 (by decide)) (fun h => absurd h.2 (by decide)))) ((g30 23 6).resolve_left (fun h => h.elim (fun h => absurd h.2 (by decide)) (fun h => absurd h.2 (by decide)))) ((g30 23 7).resolve_left (fun h => h.elim (fun h => absurd h.2 (by decide)) (fun h => absurd h.2 (by decide))))
    have A38 := gc_AT_I A28 ((g30 23 1).resolve_left (fun h => h.elim (fun h => absurd h.2 (by decide)) (fun h => absurd h.2 (by decide)))) ((g30 23 5).resolve_left (fun h => h.elim (fun h => absurd h.2 (by decide)) (fun h => absurd h.2 (by decide)))) ((g30 23 6).resolve_left (fun h => h.elim (fun h => absurd h.2 (by decide)) (fun h => absurd h.2 (by decide)))) ((g30 23 7).resolve_left (fun h => h.elim (fun h => absurd h.2 (by decide)) (fun h => absurd h.2 (by decide)))) ((g30 23 8).resolve_left (fun h => h.elim (fun h => absurd h.2 (by decide)) (fun h => absurd h.2 (by decide)))) (fun k => (g30 24 k).resolve_left (fun h => h.elim (fun h => absurd h.1 (by decide)) (fun h => absurd h.1 (by decide))))
    have t39 := gc_AT_l A38
    refine gv_callV hD rfl (As := [.inl 2]) (st := []) rfl B_39 S_39 rfl (gc_lV6 hws rfl) (Nat.le_of_ble_eq_true rfl) (gz_Ev_mono (d := 2) (by decide) E30) ?_
    show gv_X _ _ (29, [(0, .inr (.inr (some 39)))], [.inl z30], sh, gc_h sh I31 J21 A)
    refine gv_if_ne (t := 34) hD rfl rfl ⟨by exact gz_m 10 (by omega), by exact gz_m 11 (by omega)⟩ (fun c40 => ?_) (fun c40 => ?_)
    · show gv_X _ _ (34, [(0, .inr (.inr (some 39)))], [], sh, gc_h sh I31 J21 A)
      have u41 := gs_or1 q30.2.2.2 (by exact gz_m 12 (by omega))
      refine gv_run 1 true hD (pc' := 35) (lv' := [(0, .inr (.inr (some 39)))]) (st' := [.inr (.inr (some 39))]) (h' := gc_h sh I31 J21 A) (C := (True ∧ True)) rfl ⟨trivial, trivial⟩ ?_
      refine gv_get hD rfl rfl S_39 ⟨by decide, B_39⟩ (gc_hA S_39 rfl A_39_1) ?_
      show gv_X _ _ (38, [(0, .inr (.inr (some 39)))], [.inr (.inr (some 23))], sh, gc_h sh I31 J21 A)
      have f42 := (show 0 ≤ I31 23 8 ∧ I31 23 8 ≤ 999999 from gc_in hI31 R_23 rfl rfl)
      refine gv_get hD rfl rfl S_23 ⟨by decide, B_23⟩ (gc_hI S_23 rfl) ?_
      show gv_X _ _ (41, [(0, .inr (.inr (some 39)))], [.inl (I31 23 8)], sh, gc_h sh I31 J21 A)
      refine gv_run 1 true hD (pc' := 44) (lv' := [(0, .inr (.inr (some 39)))]) (st' := [.inl 10000, .inl (I31 23 8)]) (h' := gc_h sh I31 J21 A) (C := (True ∧ True)) rfl ⟨trivial, trivial⟩ ?_
      have t43 := (gc_AT_v A38 (by exact gz_m 13 (by omega)))
      refine gv_icmp_le (t := 60) hD rfl rfl ⟨⟨by exact gz_m 14 (by omega), by exact gz_m 15 (by omega)⟩, ⟨by exact gz_m 16 (by omega), by exact gz_m 17 (by omega)⟩⟩ (fun c44 => ?_) (fun c44 => ?_)
      · show gv_X _ _ (60, [(0, .inr (.inr (some 39)))], [], sh, gc_h sh I31 J21 A)
        refine gv_run 2 true hD (pc' := 62) (lv' := [(0, .inr (.inr (some 39)))]) (st' := [.inr (.inr (some 39)), .inr (.inr (some 39))]) (h' := gc_h sh I31 J21 A) (C := ((True ∧ True) ∧ True)) rfl ⟨⟨trivial, trivial⟩, trivial⟩ ?_
        refine gv_get hD rfl rfl S_39 ⟨by decide, B_39⟩ (gc_hA S_39 rfl A_39_1) ?_
        show gv_X _ _ (65, [(0, .inr (.inr (some 39)))], [.inr (.inr (some 23)), .inr (.inr (some 39))], sh, gc_h sh I31 J21 A)
        have f45 := (show 0 ≤ I31 23 8 ∧ I31 23 8 ≤ 999999 from gc_in hI31 R_23 rfl rfl)
        refine gv_get hD rfl rfl S_23 ⟨by decide, B_23⟩ (gc_hI S_23 rfl) ?_
        show gv_X _ _ (68, [(0, .inr (.inr (some 39)))], [.inl (I31 23 8), .inr (.inr (some 39))], sh, gc_h sh I31 J21 A)
        refine gv_put hD rfl rfl S_39 ⟨by decide, B_39⟩ rfl trivial ?_
        refine gc_st (k := 7) hI31 S_39 rfl R_39 (lo := 0) (hi := 10000) rfl rfl (by exact gz_m 18 (by omega)) (by exact gz_m 19 (by omega)) (fun I46 hI46 q47 p47 => ?_)
        have FI46 := gc_frs (W := fun q j => (q = 39 ∧ j = 3) ∨ (q = 39 ∧ j = 4) ∨ (q = 23 ∧ j = 5) ∨ (q = 23 ∧ j = 6) ∨ (q = 23 ∧ j = 7) ∨ (q = 23 ∧ j = 8) ∨ (q = 39 ∧ j = 7)) FI31 (Or.inr (Or.inr (Or.inr (Or.inr (Or.inr (Or.inr ⟨rfl, rfl⟩)))))) p47
        have t48 := p47 23 1 (fun h => absurd h.2 (by decide))
        have t49 := p47 23 5 (fun h => absurd h.2 (by decide))
        have t50 := p47 23 6 (fun h => absurd h.2 (by decide))
        have t51 := p47 23 7 (fun h => absurd h.1 (by decide))
        have f52 := (show 0 ≤ I46 39 7 ∧ I46 39 7 ≤ 10000 from gc_in hI46 R_39 rfl rfl)
        have KLT_I46 := gc_LT_fr KLT_I31 (p47 23 5 (fun h => absurd h.2 (by decide))) (p47 23 6 (fun h => absurd h.2 (by decide))) (p47 23 7 (fun h => absurd h.1 (by decide))) (fun k => p47 24 k (fun h => absurd h.1 (by decide)))
        have KTK_I46 := gc_TK_fr KTK_I31 (p47 23 1 (fun h => absurd h.2 (by decide))) (p47 23 5 (fun h => absurd h.2 (by decide))) (p47 23 6 (fun h => absurd h.2 (by decide))) (p47 23 7 (fun h => absurd h.1 (by decide)))
        have A53 := gc_AT_I A38 (p47 23 1 (fun h => absurd h.2 (by decide))) (p47 23 5 (fun h => absurd h.2 (by decide))) (p47 23 6 (fun h => absurd h.2 (by decide))) (p47 23 7 (fun h => absurd h.1 (by decide))) (p47 23 8 (fun h => absurd h.2 (by decide))) (fun k => p47 24 k (fun h => absurd h.1 (by decide)))
        show gv_X _ _ (71, [(0, .inr (.inr (some 39)))], [], sh, gc_h sh I46 J21 A)
        refine gv_run 1 true hD (pc' := 72) (lv' := [(0, .inr (.inr (some 39)))]) (st' := [.inr (.inr (some 39))]) (h' := gc_h sh I46 J21 A) (C := (True ∧ True)) rfl ⟨trivial, trivial⟩ ?_
        refine gv_get hD rfl rfl S_39 ⟨by decide, B_39⟩ (gc_hA S_39 rfl A_39_1) ?_
        show gv_X _ _ (75, [(0, .inr (.inr (some 39)))], [.inr (.inr (some 23))], sh, gc_h sh I46 J21 A)
        have t55 := gc_TK_nx KTK_I46 (by exact gz_m 20 (by omega))
        obtain ⟨r54, h54, E54, P54⟩ := d_X9_advance_p (ws0 := ws0) (tb := tb) hws htb sh ro I46 J21 A hI46 23 β η  (gc_b23 hb)    (by exact gz_m 21 (by omega)) A53.1.1 A53.1.2 
        obtain ⟨I56, J57, rfl, hI56, g54, k54, ⟨rfl, V54_0, V54_1, V54_2, V54_3, V54_4, q54⟩⟩ := P54
        have FI56 := gc_frc (W := fun q j => (q = 39 ∧ j = 3) ∨ (q = 39 ∧ j = 4) ∨ (q = 23 ∧ j = 5) ∨ (q = 23 ∧ j = 6) ∨ (q = 23 ∧ j = 7) ∨ (q = 23 ∧ j = 8) ∨ (q = 39 ∧ j = 7)) (V := fun q j => (q = 23 ∧ j = 5) ∨ (q = 23 ∧ j = 6) ∨ (q = 23 ∧ j = 7) ∨ (q = 23 ∧ j = 8)) FI46 (fun q j h => (h.elim (fun h => (Or.inr (Or.inr (Or.inl h)))) (fun h => (h.elim (fun h => (Or.inr (Or.inr (Or.inr (Or.inl h))))) (fun h => (h.elim (fun h => (Or.inr (Or.inr (Or.inr (Or.inr (Or.inl h)))))) (fun h => (Or.inr (Or.inr (Or.inr (Or.inr (Or.inr (Or.inl h))))))))))))) g54
        have FJ57 := gc_frc (W := fun q j => (q = 23 ∧ j = 9)) (V := fun q j => (q = 23 ∧ j = 9)) FJ21 (fun q j h => h) k54
        have t58 := (g54 23 1).resolve_left (fun h => h.elim (fun h => absurd h.2 (by decide)) (fun h => h.elim (fun h => absurd h.2 (by decide)) (fun h => h.elim (fun h => absurd h.2 (by decide)) (fun h => absurd h.2 (by decide)))))
        have t59 := (g54 39 7).resolve_left (fun h => h.elim (fun h => absurd h.2 (by decide)) (fun h => h.elim (fun h => absurd h.2 (by decide)) (fun h => h.elim (fun h => absurd h.1 (by decide)) (fun h => absurd h.2 (by decide)))))
        have f60 := (show 0 ≤ I56 23 5 ∧ I56 23 5 ≤ 1000 from gc_in hI56 R_23 rfl rfl)
        have f61 := (show 0 ≤ I56 23 6 ∧ I56 23 6 ≤ 1001 from gc_in hI56 R_23 rfl rfl)
        have f62 := (show 0 ≤ I56 23 7 ∧ I56 23 7 ≤ 125 from gc_in hI56 R_23 rfl rfl)
        have KLT_I56 : gc_LT I56 := q54.2.2.1
        have KTK_I56 : gc_TK I56 := And.intro V54_0 (And.intro V54_1 (And.intro V54_2 (And.intro V54_3 V54_4)))
        have t63 := gc_TK_mo KTK_I56
        clear V54_0 V54_1 V54_2 V54_3 V54_4
        have A64 := gc_AT_nx A53 q54.2.2.2
        have t65 := gc_AT_l A64
        refine gv_callV hD rfl (As := []) (st := []) rfl B_23 S_23 rfl (gc_lV6 hws rfl) (Nat.le_of_ble_eq_true rfl) (gz_Ev_mono (d := 2) (by decide) E54) ?_
        show gv_X _ _ (78, [(0, .inr (.inr (some 39)))], [], sh, gc_h sh I56 J57 A)
        refine gv_run 1 true hD (pc' := 79) (lv' := [(0, .inr (.inr (some 39)))]) (st' := [.inl 1]) (h' := gc_h sh I56 J57 A) (C := (True ∧ True)) rfl ⟨trivial, trivial⟩ ?_
        exact gv_zret hD rfl (by exact gz_m 22 (by omega)) ⟨I56, J57, rfl, hI56, FI56, FJ57, KLT_I56, KTK_I56, ⟨_, rfl, by exact gz_m 23 (by omega), by exact gz_m 24 (by omega), by exact gz_m 25 (by omega), by exact gz_m 26 (by omega), (Or.inl ⟨by exact gz_m 27 (by omega), by have e9 : (gs_cost β η p9) = (gs_X β η (gs_X β η p9)) := (by unfold gs_cost; (repeat first | rw [if_pos (by exact gz_m 28 (by omega))] | rw [if_neg (by exact gz_m 29 (by omega))])); have e8 : I56 39 7 = gs_prc β η p9 := (by unfold gs_prc; (repeat first | rw [if_pos (by exact gz_m 30 (by omega))] | rw [if_neg (by exact gz_m 31 (by omega))]); exact gz_m 32 (by omega)); rw [e9]; exact ⟨by exact gz_m 33 (by omega), A64, e8⟩⟩)⟩⟩
      · show gv_X _ _ (47, [(0, .inr (.inr (some 39)))], [], sh, gc_h sh I31 J21 A)
        refine gv_run 3 true hD (pc' := 50) (lv' := [(0, .inr (.inr (some 39)))]) (st' := [.inr (.inr (some 39)), .inl 5, .inr (.inr (some 39))]) (h' := gc_h sh I31 J21 A) (C := (((True ∧ True) ∧ True) ∧ True)) rfl ⟨⟨⟨trivial, trivial⟩, trivial⟩, trivial⟩ ?_
        refine gv_get hD rfl rfl S_39 ⟨by decide, B_39⟩ (gc_hA S_39 rfl A_39_1) ?_
        show gv_X _ _ (53, [(0, .inr (.inr (some 39)))], [.inr (.inr (some 23)), .inl 5, .inr (.inr (some 39))], sh, gc_h sh I31 J21 A)
        have f66 := (show 0 ≤ I31 23 5 ∧ I31 23 5 ≤ 1000 from gc_in hI31 R_23 rfl rfl)
        refine gv_get hD rfl rfl S_23 ⟨by decide, B_23⟩ (gc_hI S_23 rfl) ?_
        show gv_X _ _ (56, [(0, .inr (.inr (some 39)))], [.inl (I31 23 5), .inl 5, .inr (.inr (some 39))], sh, gc_h sh I31 J21 A)
        obtain ⟨r67, h67, E67, P67⟩ := d_X6_wrong_p (ws0 := ws0) (tb := tb) hws htb sh ro I31 J21 A hI31  5 (I31 23 5) hb   ⟨by exact gz_m 34 (by omega), by exact gz_m 35 (by omega)⟩ ⟨by exact gz_m 36 (by omega), by exact gz_m 37 (by omega)⟩  
        obtain ⟨I68, J69, rfl, hI68, g67, k67, ⟨z67, rfl, q67⟩⟩ := P67
        have FI68 := gc_frc (W := fun q j => (q = 39 ∧ j = 3) ∨ (q = 39 ∧ j = 4) ∨ (q = 23 ∧ j = 5) ∨ (q = 23 ∧ j = 6) ∨ (q = 23 ∧ j = 7) ∨ (q = 23 ∧ j = 8) ∨ (q = 39 ∧ j = 7)) (V := fun q j => (q = 39 ∧ j = 3) ∨ (q = 39 ∧ j = 4)) FI31 (fun q j h => (h.elim (fun h => (Or.inl h)) (fun h => (Or.inr (Or.inl h))))) g67
        have t70 := (g67 23 1).resolve_left (fun h => h.elim (fun h => absurd h.2 (by decide)) (fun h => absurd h.2 (by decide)))
        have t71 := (g67 23 5).resolve_left (fun h => h.elim (fun h => absurd h.2 (by decide)) (fun h => absurd h.2 (by decide)))
        have t72 := (g67 23 6).resolve_left (fun h => h.elim (fun h => absurd h.2 (by decide)) (fun h => absurd h.2 (by decide)))
        have t73 := (g67 23 7).resolve_left (fun h => h.elim (fun h => absurd h.2 (by decide)) (fun h => absurd h.2 (by decide)))
        have t74 := (g67 39 7).resolve_left (fun h => h.elim (fun h => absurd h.2 (by decide)) (fun h => absurd h.2 (by decide)))
        obtain rfl : J21 = J69 := funext fun q => funext fun j => ((k67 q j).resolve_left id).symm
        have KLT_I68 := gc_LT_fr KLT_I31 ((g67 23 5).resolve_left (fun h => h.elim (fun h => absurd h.2 (by decide)) (fun h => absurd h.2 (by decide)))) ((g67 23 6).resolve_left (fun h => h.elim (fun h => absurd h.2 (by decide)) (fun h => absurd h.2 (by decide)))) ((g67 23 7).resolve_left (fun h => h.elim (fun h => absurd h.2 (by decide)) (fun h => absurd h.2 (by decide)))) (fun k => (g67 24 k).resolve_left (fun h => h.elim (fun h => absurd h.1 (by decide)) (fun h => absurd h.1 (by decide))))
        have KTK_I68 := gc_TK_fr KTK_I31 ((g67 23 1).resolve_left (fun h => h.elim (fun h => absurd h.2 (by decide)) (fun h => absurd h.2 (by decide)))) ((g67 23 5).resolve_left (fun h => h.elim (fun h => absurd h.2 (by decide)) (fun h => absurd h.2 (by decide)))) ((g67 23 6).resolve_left (fun h => h.elim (fun h => absurd h.2 (by decide)) (fun h => absurd h.2 (by decide)))) ((g67 23 7).resolve_left (fun h => h.elim (fun h => absurd h.2 (by decide)) (fun h => absurd h.2 (by decide))))
        have A75 := gc_AT_I A38 ((g67 23 1).resolve_left (fun h => h.elim (fun h => absurd h.2 (by decide)) (fun h => absurd h.2 (by decide)))) ((g67 23 5).resolve_left (fun h => h.elim (fun h => absurd h.2 (by decide)) (fun h => absurd h.2 (by decide)))) ((g67 23 6).resolve_left (fun h => h.elim (fun h => absurd h.2 (by decide)) (fun h => absurd h.2 (by decide)))) ((g67 23 7).resolve_left (fun h => h.elim (fun h => absurd h.2 (by decide)) (fun h => absurd h.2 (by decide)))) ((g67 23 8).resolve_left (fun h => h.elim (fun h => absurd h.2 (by decide)) (fun h => absurd h.2 (by decide)))) (fun k => (g67 24 k).resolve_left (fun h => h.elim (fun h => absurd h.1 (by decide)) (fun h => absurd h.1 (by decide))))
        have t76 := gc_AT_l A75
        refine gv_callV hD rfl (As := [.inl 5, .inl (I31 23 5)]) (st := []) rfl B_39 S_39 rfl (gc_lV6 hws rfl) (Nat.le_of_ble_eq_true rfl) (gz_Ev_mono (d := 1) (by decide) E67) ?_
        show gv_X _ _ (59, [(0, .inr (.inr (some 39)))], [.inl z67], sh, gc_h sh I68 J21 A)
        exact gv_zret hD rfl (by exact gz_m 38 (by omega)) ⟨I68, J21, rfl, hI68, FI68, FJ21, KLT_I68, KTK_I68, ⟨_, rfl, by exact gz_m 39 (by omega), by exact gz_m 40 (by omega), by exact gz_m 41 (by omega), by exact gz_m 42 (by omega), (Or.inr ⟨by exact gz_m 43 (by omega), by unfold gs_cost; (repeat first | rw [if_pos (by exact gz_m 44 (by omega))] | rw [if_neg (by exact gz_m 45 (by omega))]); exact ⟨by exact gz_m 46 (by omega), by exact gz_m 47 (by omega)⟩⟩)⟩⟩
    · show gv_X _ _ (32, [(0, .inr (.inr (some 39)))], [], sh, gc_h sh I31 J21 A)
      have u77 := gs_or0 q30.2.2.2 (by exact gz_m 48 (by omega))
      refine gv_run 1 true hD (pc' := 33) (lv' := [(0, .inr (.inr (some 39)))]) (st' := [.inl 0]) (h' := gc_h sh I31 J21 A) (C := (True ∧ True)) rfl ⟨trivial, trivial⟩ ?_
      exact gv_zret hD rfl (by exact gz_m 49 (by omega)) ⟨I31, J21, rfl, hI31, FI31, FJ21, KLT_I31, KTK_I31, ⟨_, rfl, by exact gz_m 50 (by omega), by exact gz_m 51 (by omega), by exact gz_m 52 (by omega), by exact gz_m 53 (by omega), (Or.inr ⟨by exact gz_m 54 (by omega), by unfold gs_cost; (repeat first | rw [if_pos (by exact gz_m 55 (by omega))] | rw [if_neg (by exact gz_m 56 (by omega))]); exact ⟨by exact gz_m 57 (by omega), by exact gz_m 58 (by omega)⟩⟩)⟩⟩
  · show gv_X _ _ (15, [(0, .inr (.inr (some 39)))], [], sh, gc_h sh I7 J A)
    refine gv_run 1 true hD (pc' := 16) (lv' := [(0, .inr (.inr (some 39)))]) (st' := [.inl 1]) (h' := gc_h sh I7 J A) (C := (True ∧ True)) rfl ⟨trivial, trivial⟩ ?_
    exact gv_zret hD rfl (by exact gz_m 59 (by omega)) ⟨I7, J, rfl, hI7, FI7, FJ, KLT_I7, KTK_I7, ⟨_, rfl, by exact gz_m 60 (by omega), by exact gz_m 61 (by omega), by exact gz_m 62 (by omega), by exact gz_m 63 (by omega), (Or.inl ⟨by exact gz_m 64 (by omega), by have e9 : (gs_cost β η p9) = p9 := (by unfold gs_cost; (repeat first | rw [if_pos (by exact gz_m 65 (by omega))] | rw [if_neg (by exact gz_m 66 (by omega))])); have e8 : I7 39 7 = gs_prc β η p9 := (by unfold gs_prc; (repeat first | rw [if_pos (by exact gz_m 67 (by omega))] | rw [if_neg (by exact gz_m 68 (by omega))]); exact gz_m 69 (by omega)); rw [e9]; exact ⟨by exact gz_m 70 (by omega), A14, e8⟩⟩)⟩⟩
