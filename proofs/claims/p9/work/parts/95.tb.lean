/-! PARITY, the class's side: what stays while nothing is read; the small readers -/
theorem gc_AT_I {β : Int → Int} {N q : Int} {I Iₚ : gr_I} {J : gr_J} (h : gc_AT β N q 23 I J) (h1 : Iₚ 23 1 = I 23 1) (h5 : Iₚ 23 5 = I 23 5) (h6 : Iₚ 23 6 = I 23 6) (h7 : Iₚ 23 7 = I 23 7) (h8 : Iₚ 23 8 = I 23 8) (h24 : ∀ k, Iₚ 24 k = I 24 k) : gc_AT β N q 23 Iₚ J := by
  have e : Iₚ (23 + 1) = I (23 + 1) := funext h24
  unfold gc_AT at h ⊢
  rw [e, h1, h5, h6, h7, h8]
  exact h
theorem gc_AT_J {β : Int → Int} {N q : Int} {I : gr_I} {J Jₚ : gr_J} (h : gc_AT β N q 23 I J) (h9 : Jₚ 23 9 = J 23 9) : gc_AT β N q 23 I Jₚ := by
  unfold gc_AT at h ⊢
  rw [h9]
  exact h
theorem gc_AT_nx {β : Int → Int} {N p : Int} {I Iₚ : gr_I} {J Jₚ : gr_J} (h : gc_AT β N p 23 I J) (q : gc_AT β N (I 23 6) 23 Iₚ Jₚ) : gc_AT β N (gs_X β N p) 23 Iₚ Jₚ := by
  rw [← h.2.2.2.1]
  exact q
theorem gc_AT_l {β : Int → Int} {N p : Int} {I : gr_I} {J : gr_J} (h : gc_AT β N p 23 I J) : I 23 7 = gs_T β N p ∧ I 23 5 = gs_A β N p ∧ I 23 6 = gs_X β N p := ⟨h.2.1, h.2.2.1, h.2.2.2.1⟩
theorem gc_AT_v {β : Int → Int} {N p : Int} {I : gr_I} {J : gr_J} (h : gc_AT β N p 23 I J) (ht : gs_T β N p = 2) : I 23 8 = gs_V β N p := h.2.2.2.2.1 ht
theorem gc_AT_m {β : Int → Int} {N p : Int} {I : gr_I} {J : gr_J} (h : gc_AT β N p 23 I J) (ht : gs_T β N p = 1) : J 23 9 = gs_M β N p := h.2.2.2.2.2 ht
/-- 1 where the token is this NAME, packed as the class packs it -/
def gs_kwc (β : Int → Int) (N p : Int) (w : Int64) : Int := if gs_T β N p = 1 ∧ gs_M β N p = w then 1 else 0
theorem gs_kwc_kw {β : Int → Int} {N p : Int} {c w : Int64} (h : gs_al c w) : gs_kwc β N p c = gs_kw β N p w := by
  unfold gs_kwc gs_kw
  by_cases t : gs_T β N p = 1
  · have e := gs_al_eq (gs_al_p t) h
    by_cases m : gs_M β N p = c
    · rw [if_pos ⟨t, m⟩, if_pos ⟨t, e.mp m⟩]
    · rw [if_neg (fun q => m q.2), if_neg (fun q => m (e.mpr q.2))]
  · rw [if_neg (fun q => t q.1), if_neg (fun q => t q.1)]
theorem gs_kwc_1 {β : Int → Int} {N p : Int} {w : Int64} (h : gs_T β N p = 1) (g : gs_M β N p = w) : gs_kwc β N p w = 1 := if_pos ⟨h, g⟩
theorem gs_kwc_0 {β : Int → Int} {N p : Int} {w : Int64} (h : ¬ gs_T β N p = 1 ∨ ¬ gs_M β N p = w) : gs_kwc β N p w = 0 := if_neg (fun q => h.elim (fun u => u q.1) (fun u => u q.2))
/-- the words of the class -/
def gs_Wc (k : Nat) : Int64 := match k with
  | 80 => 0x746F6E677565
  | 81 => 0x6B696E64
  | 82 => 0x66756E
  | 83 => 0x66656174757265
  | 84 => 0x6C657474657273
  | 85 => 0x736F756E64
  | 86 => 0x7061747465726E
  | 87 => 0x776F7264
  | 88 => 0x6C696E
  | 89 => 0x6D65616E
  | 90 => 0x7468696E67
  | 91 => 0x66616374
  | 92 => 0x636F7374
  | 93 => 0x686173
  | 94 => 0x6F66
  | 95 => 0x6167726565
  | 96 => 0x67697665
  | _ => 0
theorem gs_W_al : ∀ k : Nat, 80 ≤ k → k ≤ 96 → gs_al (gs_Wc k) (gs_W k) := fun k h1 h2 => by
  have h : k = 80 ∨ k = 81 ∨ k = 82 ∨ k = 83 ∨ k = 84 ∨ k = 85 ∨ k = 86 ∨ k = 87 ∨ k = 88 ∨ k = 89 ∨ k = 90 ∨ k = 91 ∨ k = 92 ∨ k = 93 ∨ k = 94 ∨ k = 95 ∨ k = 96 := by omega
  rcases h with h | h | h | h | h | h | h | h | h | h | h | h | h | h | h | h | h <;> subst h
  · exact ⟨6, by decide, by decide +kernel, by decide +kernel⟩
  · exact ⟨4, by decide, by decide +kernel, by decide +kernel⟩
  · exact ⟨3, by decide, by decide +kernel, by decide +kernel⟩
  · exact ⟨7, by decide, by decide +kernel, by decide +kernel⟩
  · exact ⟨7, by decide, by decide +kernel, by decide +kernel⟩
  · exact ⟨5, by decide, by decide +kernel, by decide +kernel⟩
  · exact ⟨7, by decide, by decide +kernel, by decide +kernel⟩
  · exact ⟨4, by decide, by decide +kernel, by decide +kernel⟩
  · exact ⟨3, by decide, by decide +kernel, by decide +kernel⟩
  · exact ⟨4, by decide, by decide +kernel, by decide +kernel⟩
  · exact ⟨5, by decide, by decide +kernel, by decide +kernel⟩
  · exact ⟨4, by decide, by decide +kernel, by decide +kernel⟩
  · exact ⟨4, by decide, by decide +kernel, by decide +kernel⟩
  · exact ⟨3, by decide, by decide +kernel, by decide +kernel⟩
  · exact ⟨2, by decide, by decide +kernel, by decide +kernel⟩
  · exact ⟨5, by decide, by decide +kernel, by decide +kernel⟩
  · exact ⟨4, by decide, by decide +kernel, by decide +kernel⟩
theorem gs_need_z {β : Int → Int} {N c p : Int} (h : gs_need β N c p < 0) (hx : 0 ≤ gs_X β N p) : ¬ gs_T β N p = c ∧ gs_need β N c p = -1 - gs_A β N p := by
  by_cases c9 : gs_T β N p = c
  · have e : gs_need β N c p = gs_X β N p := if_pos c9
    omega
  · exact ⟨c9, if_neg c9⟩
set_option maxHeartbeats 8000000 in
set_option maxRecDepth 100000 in
theorem d_X6_wrong_p {ws0 : List Cond} {tb : String → gz_T} (hws : gc_Ws ws0) (htb : gc_tbs tb) (sh : gz_Sh) (ro : Nat → Nat) (I : gr_I) (J : gr_J) (A : gc_A) (hI : gc_Inv ro I) (a1 : Int) (a2 : Int) (hb : gc_Base sh ro A) (ha1 : 0 ≤ a1 ∧ a1 ≤ 6) (ha2 : 0 ≤ a2 ∧ a2 ≤ 1000)  : ∃ r hₚ, gz_Ev ws0 tb 1 (yX6_wrong, cX6_wrong, 3, (some .boolean)) [.inr (.inr (some 39)), .inl a1, .inl a2] sh (gc_h sh I J A) r sh hₚ 0 0 ∧ (∃ (Iₚ : gr_I) (Jₚ : gr_J), hₚ = gc_h sh Iₚ Jₚ A ∧ gc_Inv ro Iₚ ∧ (∀ q j : Nat, ((q = 39 ∧ j = 3) ∨ (q = 39 ∧ j = 4)) ∨ Iₚ q j = I q j) ∧ (∀ q j : Nat, (False) ∨ Jₚ q j = J q j) ∧ (∃ z : Int, r = some (.inl z) ∧ 0 ≤ z ∧ z ≤ 1 ∧ (z = 0) ∧ (Iₚ 39 4 = a2))) := by
  have FI : ∀ q j : Nat, ((q = 39 ∧ j = 3) ∨ (q = 39 ∧ j = 4)) ∨ I q j = I q j := fun _ _ => Or.inr rfl
  have FJ : ∀ q j : Nat, (False) ∨ J q j = J q j := fun _ _ => Or.inr rfl
  have B_39 := gz_hi (show 39 < 1000000 from by decide)
  have R_39 := gz_hi (show ro 39 = 42 from gc_bR_39 hb)
  have S_39 : sh[39]? = some (false, 6, 19) := gc_bS_39 hb
  have hD : gv_D (gc_E6 ws0 tb 0 (yX6_wrong, cX6_wrong, 3, (some .boolean)) kX6_wrong) := gq_of oX6_wrong
  refine gc_ev6 (d := 0) (l := kX6_wrong) (Po := fun r hₚ => (∃ (Iₚ : gr_I) (Jₚ : gr_J), hₚ = gc_h sh Iₚ Jₚ A ∧ gc_Inv ro Iₚ ∧ (∀ q j : Nat, ((q = 39 ∧ j = 3) ∨ (q = 39 ∧ j = 4)) ∨ Iₚ q j = I q j) ∧ (∀ q j : Nat, (False) ∨ Jₚ q j = J q j) ∧ (∃ z : Int, r = some (.inl z) ∧ 0 ≤ z ∧ z ≤ 1 ∧ (z = 0) ∧ (Iₚ 39 4 = a2)))) htb rfl (Nat.le_of_ble_eq_true rfl) ?_
  refine gv_run 2 true hD (pcₚ := 2) (lvₚ := [(0, .inr (.inr (some 39))), (1, .inl a1), (2, .inl a2)]) (stₚ := [.inl a1, .inr (.inr (some 39))]) (hₚ := gc_h sh I J A) (C := ((True ∧ True) ∧ True)) rfl ⟨⟨trivial, trivial⟩, trivial⟩ ?_
  refine gv_put hD rfl rfl S_39 ⟨by decide, (gz_sh B_39)⟩ rfl trivial ?_
  refine gc_st (k := 3) hI S_39 rfl (gz_sh R_39) (lo := 0) (hi := 6) rfl rfl (by (/-0-/first | omega | (simp only [gz_hd] at *; omega))) (by (/-1-/first | omega | (simp only [gz_hd] at *; omega))) (fun I1 hI1 q2 p2 => ?_)
  have FI1 := gc_frs (W := fun q j => (q = 39 ∧ j = 3) ∨ (q = 39 ∧ j = 4)) FI (Or.inl ⟨rfl, rfl⟩) p2
  show gv_X _ _ (5, [(0, .inr (.inr (some 39))), (1, .inl a1), (2, .inl a2)], [], sh, gc_h sh I1 J A)
  refine gv_run 2 true hD (pcₚ := 7) (lvₚ := [(0, .inr (.inr (some 39))), (1, .inl a1), (2, .inl a2)]) (stₚ := [.inl a2, .inr (.inr (some 39))]) (hₚ := gc_h sh I1 J A) (C := ((True ∧ True) ∧ True)) rfl ⟨⟨trivial, trivial⟩, trivial⟩ ?_
  refine gv_put hD rfl rfl S_39 ⟨by decide, (gz_sh B_39)⟩ rfl trivial ?_
  refine gc_st (k := 4) hI1 S_39 rfl (gz_sh R_39) (lo := 0) (hi := 1000) rfl rfl (by (/-2-/first | omega | (simp only [gz_hd] at *; omega))) (by (/-3-/first | omega | (simp only [gz_hd] at *; omega))) (fun I3 hI3 q4 p4 => ?_)
  have FI3 := gc_frs (W := fun q j => (q = 39 ∧ j = 3) ∨ (q = 39 ∧ j = 4)) FI1 (Or.inr ⟨rfl, rfl⟩) p4
  show gv_X _ _ (10, [(0, .inr (.inr (some 39))), (1, .inl a1), (2, .inl a2)], [], sh, gc_h sh I3 J A)
  refine gv_run 1 true hD (pcₚ := 11) (lvₚ := [(0, .inr (.inr (some 39))), (1, .inl a1), (2, .inl a2)]) (stₚ := [.inl 0]) (hₚ := gc_h sh I3 J A) (C := (True ∧ True)) rfl ⟨trivial, trivial⟩ ?_
  exact gv_zret hD rfl (by (/-4-/first | omega | (simp only [gz_hd] at *; omega))) ⟨I3, J, rfl, hI3, FI3, FJ, ⟨_, rfl, by (/-5-/first | (and_intros <;> omega) | (simp only [gz_hd] at *; omega))⟩⟩
set_option maxHeartbeats 8000000 in
set_option maxRecDepth 100000 in
theorem d_X6_take_p {ws0 : List Cond} {tb : String → gz_T} (hws : gc_Ws ws0) (htb : gc_tbs tb) (sh : gz_Sh) (ro : Nat → Nat) (I : gr_I) (J : gr_J) (A : gc_A) (hI : gc_Inv ro I) (β : Int → Int) (η : Int) (p9 : Int) (a1 : Int) (hb : gc_Base sh ro A) (ha1 : 0 ≤ a1 ∧ a1 ≤ 125) (x0 : ¬ a1 = 5) (x1 : gc_AT β η p9 23 I J) (x2 : 0 ≤ p9) (KLT_I : gc_LT I) (KTK_I : gc_TK I) : ∃ r hₚ, gz_Ev ws0 tb 3 (yX6_take, cX6_take, 2, (some .boolean)) [.inr (.inr (some 39)), .inl a1] sh (gc_h sh I J A) r sh hₚ 0 0 ∧ (∃ (Iₚ : gr_I) (Jₚ : gr_J), hₚ = gc_h sh Iₚ Jₚ A ∧ gc_Inv ro Iₚ ∧ (∀ q j : Nat, ((q = 39 ∧ j = 3) ∨ (q = 39 ∧ j = 4) ∨ (q = 23 ∧ j = 5) ∨ (q = 23 ∧ j = 6) ∨ (q = 23 ∧ j = 7) ∨ (q = 23 ∧ j = 8)) ∨ Iₚ q j = I q j) ∧ (∀ q j : Nat, ((q = 23 ∧ j = 9)) ∨ Jₚ q j = J q j) ∧ gc_LT Iₚ ∧ gc_TK Iₚ ∧ (∃ z : Int, r = some (.inl z) ∧ 0 ≤ z ∧ z ≤ 1 ∧ (Iₚ 23 1 = I 23 1) ∧ (I 23 5 ≤ Iₚ 23 5) ∧ (z = 0 ∨ (I 23 7 = a1 ∧ I 23 6 ≤ Iₚ 23 5)) ∧ (gs_Or z (0 ≤ (gs_need β η a1 p9) ∧ gc_AT β η (gs_need β η a1 p9) 23 Iₚ Jₚ) ((gs_need β η a1 p9) < 0 ∧ Iₚ 39 4 = -1 - (gs_need β η a1 p9))))) := by
  have FI : ∀ q j : Nat, ((q = 39 ∧ j = 3) ∨ (q = 39 ∧ j = 4) ∨ (q = 23 ∧ j = 5) ∨ (q = 23 ∧ j = 6) ∨ (q = 23 ∧ j = 7) ∨ (q = 23 ∧ j = 8)) ∨ I q j = I q j := fun _ _ => Or.inr rfl
  have FJ : ∀ q j : Nat, ((q = 23 ∧ j = 9)) ∨ J q j = J q j := fun _ _ => Or.inr rfl
  have A_39_1 : A 39 1 = some 23 := gc_bA_39_1 hb
  have B_23 := gz_hi (show 23 < 1000000 from by decide)
  have B_39 := gz_hi (show 39 < 1000000 from by decide)
  have R_23 := gz_hi (show ro 23 = 3 from gc_bR_23 hb)
  have S_23 : sh[23]? = some (false, 9, 10) := gc_bS_23 hb
  have S_39 : sh[39]? = some (false, 6, 19) := gc_bS_39 hb
  have hD : gv_D (gc_E6 ws0 tb 2 (yX6_take, cX6_take, 2, (some .boolean)) kX6_take) := gq_of oX6_take
  refine gc_ev6 (d := 2) (l := kX6_take) (Po := fun r hₚ => (∃ (Iₚ : gr_I) (Jₚ : gr_J), hₚ = gc_h sh Iₚ Jₚ A ∧ gc_Inv ro Iₚ ∧ (∀ q j : Nat, ((q = 39 ∧ j = 3) ∨ (q = 39 ∧ j = 4) ∨ (q = 23 ∧ j = 5) ∨ (q = 23 ∧ j = 6) ∨ (q = 23 ∧ j = 7) ∨ (q = 23 ∧ j = 8)) ∨ Iₚ q j = I q j) ∧ (∀ q j : Nat, ((q = 23 ∧ j = 9)) ∨ Jₚ q j = J q j) ∧ gc_LT Iₚ ∧ gc_TK Iₚ ∧ (∃ z : Int, r = some (.inl z) ∧ 0 ≤ z ∧ z ≤ 1 ∧ (Iₚ 23 1 = I 23 1) ∧ (I 23 5 ≤ Iₚ 23 5) ∧ (z = 0 ∨ (I 23 7 = a1 ∧ I 23 6 ≤ Iₚ 23 5)) ∧ (gs_Or z (0 ≤ (gs_need β η a1 p9) ∧ gc_AT β η (gs_need β η a1 p9) 23 Iₚ Jₚ) ((gs_need β η a1 p9) < 0 ∧ Iₚ 39 4 = -1 - (gs_need β η a1 p9)))))) htb rfl (Nat.le_of_ble_eq_true rfl) ?_
  have t1 := gz_hi (gc_TK_mo KTK_I)
  have f3 := gz_hi ((gc_b_3_5 hI (gz_sh R_23)))
  have f4 := gz_hi ((gc_b_3_6 hI (gz_sh R_23)))
  have f5 := gz_hi ((gc_b_3_7 hI (gz_sh R_23)))
  have tAT := gc_AT_l x1
  refine gv_run 1 true hD (pcₚ := 1) (lvₚ := [(0, .inr (.inr (some 39))), (1, .inl a1)]) (stₚ := [.inr (.inr (some 39))]) (hₚ := gc_h sh I J A) (C := (True ∧ True)) rfl ⟨trivial, trivial⟩ ?_
  refine gv_get hD rfl rfl S_39 ⟨by decide, (gz_sh B_39)⟩ (gc_hA S_39 rfl A_39_1) ?_
  show gv_X _ _ (4, [(0, .inr (.inr (some 39))), (1, .inl a1)], [.inr (.inr (some 23))], sh, gc_h sh I J A)
  refine gv_get hD rfl rfl S_23 ⟨by decide, (gz_sh B_23)⟩ (gc_hI S_23 rfl) ?_
  show gv_X _ _ (7, [(0, .inr (.inr (some 39))), (1, .inl a1)], [.inl (I 23 7)], sh, gc_h sh I J A)
  refine gv_run 1 true hD (pcₚ := 8) (lvₚ := [(0, .inr (.inr (some 39))), (1, .inl a1)]) (stₚ := [.inl a1, .inl (I 23 7)]) (hₚ := gc_h sh I J A) (C := (True ∧ True)) rfl ⟨trivial, trivial⟩ ?_
  refine gv_icmp_eq (t := 24) hD rfl rfl ⟨⟨by (/-0-/first | (have o1 := gz_sh f5; omega) | (simp only [gz_hd] at *; omega)), by (/-1-/first | (have o1 := gz_sh f5; omega) | (simp only [gz_hd] at *; omega))⟩, ⟨by (/-2-/first | omega | (simp only [gz_hd] at *; omega)), by (/-3-/first | omega | (simp only [gz_hd] at *; omega))⟩⟩ (fun c7 => ?_) (fun c7 => ?_)
  · show gv_X _ _ (24, [(0, .inr (.inr (some 39))), (1, .inl a1)], [], sh, gc_h sh I J A)
    refine gv_run 1 true hD (pcₚ := 25) (lvₚ := [(0, .inr (.inr (some 39))), (1, .inl a1)]) (stₚ := [.inr (.inr (some 39))]) (hₚ := gc_h sh I J A) (C := (True ∧ True)) rfl ⟨trivial, trivial⟩ ?_
    refine gv_get hD rfl rfl S_39 ⟨by decide, (gz_sh B_39)⟩ (gc_hA S_39 rfl A_39_1) ?_
    show gv_X _ _ (28, [(0, .inr (.inr (some 39))), (1, .inl a1)], [.inr (.inr (some 23))], sh, gc_h sh I J A)
    have t9 := gz_hi (gc_TK_nx KTK_I (by (/-4-/first | omega | (simp only [gz_hd] at *; omega))))
    obtain ⟨r8, h8, E8, P8⟩ := d_X9_advance_p (ws0 := ws0) (tb := tb) hws htb sh ro I J A hI 23 β η  (gc_b23 hb)    (by (/-5-/first | (have o1 := gz_sh t9; omega) | (simp only [gz_hd] at *; omega))) x1.1.1 x1.1.2 
    obtain ⟨I10, J11, rfl, hI10, g8, k8, ⟨rfl, V8_0, V8_1, V8_2, V8_3, V8_4, q8⟩⟩ := P8
    replace q8 := gz_hi q8
    have FI10 := gc_frc (W := fun q j => (q = 39 ∧ j = 3) ∨ (q = 39 ∧ j = 4) ∨ (q = 23 ∧ j = 5) ∨ (q = 23 ∧ j = 6) ∨ (q = 23 ∧ j = 7) ∨ (q = 23 ∧ j = 8)) (V := fun q j => (q = 23 ∧ j = 5) ∨ (q = 23 ∧ j = 6) ∨ (q = 23 ∧ j = 7) ∨ (q = 23 ∧ j = 8)) FI (fun q j h => (h.elim (fun h => (Or.inr (Or.inr (Or.inl h)))) (fun h => (h.elim (fun h => (Or.inr (Or.inr (Or.inr (Or.inl h))))) (fun h => (h.elim (fun h => (Or.inr (Or.inr (Or.inr (Or.inr (Or.inl h)))))) (fun h => (Or.inr (Or.inr (Or.inr (Or.inr (Or.inr h)))))))))))) g8
    have FJ11 := gc_frc (W := fun q j => (q = 23 ∧ j = 9)) (V := fun q j => (q = 23 ∧ j = 9)) FJ (fun q j h => h) k8
    have t12 := gz_hi ((g8 23 1).resolve_left (fun h => h.elim (fun h => absurd h.2 (by first | exact gz_ne rfl | decide)) (fun h => h.elim (fun h => absurd h.2 (by first | exact gz_ne rfl | decide)) (fun h => h.elim (fun h => absurd h.2 (by first | exact gz_ne rfl | decide)) (fun h => absurd h.2 (by first | exact gz_ne rfl | decide))))))
    have KLT_I10 : gc_LT I10 := (gz_sh q8).2.2.1
    have KTK_I10 : gc_TK I10 := And.intro V8_0 (And.intro V8_1 (And.intro V8_2 (And.intro V8_3 V8_4)))
    clear V8_0 V8_1 V8_2 V8_3 V8_4
    have A17 := gc_AT_nx x1 (gz_sh q8).2.2.2
    have t18 := gz_hi (gc_AT_l A17)
    refine gv_callV hD rfl (As := []) (st := []) rfl (gz_sh B_23) S_23 rfl (gc_lV6 hws rfl) (Nat.le_of_ble_eq_true rfl) (gz_Ev_mono (d := 2) (by decide) E8) ?_
    show gv_X _ _ (31, [(0, .inr (.inr (some 39))), (1, .inl a1)], [], sh, gc_h sh I10 J11 A)
    refine gv_run 1 true hD (pcₚ := 32) (lvₚ := [(0, .inr (.inr (some 39))), (1, .inl a1)]) (stₚ := [.inl 1]) (hₚ := gc_h sh I10 J11 A) (C := (True ∧ True)) rfl ⟨trivial, trivial⟩ ?_
    exact gv_zret hD rfl (by (/-6-/first | omega | (simp only [gz_hd] at *; omega))) ⟨I10, J11, rfl, hI10, FI10, FJ11, KLT_I10, KTK_I10, ⟨_, rfl, by (/-7-/first | omega | (simp only [gz_hd] at *; omega)), by (/-8-/first | omega | (simp only [gz_hd] at *; omega)), by (/-9-/first | (have o1 := gz_sh t12; omega) | (simp only [gz_hd] at *; omega)), by (/-10-/first | (have o1 := gz_sh q8; have o2 := gz_sh t1; omega) | (simp only [gz_hd] at *; omega)), by (/-11-/first | (have o1 := gz_sh q8; omega) | (simp only [gz_hd] at *; omega)), (Or.inl ⟨by (/-12-/first | omega | (simp only [gz_hd] at *; omega)), by have e9 : (gs_need β η a1 p9) = (gs_X β η p9) := (by unfold gs_need; (repeat first | rw [if_pos (by (/-13-/first | omega | (simp only [gz_hd] at *; omega)))] | rw [if_neg (by (/-14-/first | omega | (simp only [gz_hd] at *; omega)))])); rw [e9]; exact ⟨by (/-15-/first | (have o1 := gz_sh f4; omega) | (simp only [gz_hd] at *; omega)), A17⟩⟩)⟩⟩
  · show gv_X _ _ (11, [(0, .inr (.inr (some 39))), (1, .inl a1)], [], sh, gc_h sh I J A)
    refine gv_run 3 true hD (pcₚ := 14) (lvₚ := [(0, .inr (.inr (some 39))), (1, .inl a1)]) (stₚ := [.inr (.inr (some 39)), .inl 1, .inr (.inr (some 39))]) (hₚ := gc_h sh I J A) (C := (((True ∧ True) ∧ True) ∧ True)) rfl ⟨⟨⟨trivial, trivial⟩, trivial⟩, trivial⟩ ?_
    refine gv_get hD rfl rfl S_39 ⟨by decide, (gz_sh B_39)⟩ (gc_hA S_39 rfl A_39_1) ?_
    show gv_X _ _ (17, [(0, .inr (.inr (some 39))), (1, .inl a1)], [.inr (.inr (some 23)), .inl 1, .inr (.inr (some 39))], sh, gc_h sh I J A)
    refine gv_get hD rfl rfl S_23 ⟨by decide, (gz_sh B_23)⟩ (gc_hI S_23 rfl) ?_
    show gv_X _ _ (20, [(0, .inr (.inr (some 39))), (1, .inl a1)], [.inl (I 23 5), .inl 1, .inr (.inr (some 39))], sh, gc_h sh I J A)
    obtain ⟨r20, h20, E20, P20⟩ := d_X6_wrong_p (ws0 := ws0) (tb := tb) hws htb sh ro I J A hI  1 (I 23 5) hb   ⟨by (/-16-/first | omega | (simp only [gz_hd] at *; omega)), by (/-17-/first | omega | (simp only [gz_hd] at *; omega))⟩ ⟨by (/-18-/first | (have o1 := gz_sh f3; omega) | (simp only [gz_hd] at *; omega)), by (/-19-/first | (have o1 := gz_sh f3; omega) | (simp only [gz_hd] at *; omega))⟩  
    obtain ⟨I21, J22, rfl, hI21, g20, k20, ⟨z20, rfl, q20⟩⟩ := P20
    replace q20 := gz_hi q20
    have FI21 := gc_frc (W := fun q j => (q = 39 ∧ j = 3) ∨ (q = 39 ∧ j = 4) ∨ (q = 23 ∧ j = 5) ∨ (q = 23 ∧ j = 6) ∨ (q = 23 ∧ j = 7) ∨ (q = 23 ∧ j = 8)) (V := fun q j => (q = 39 ∧ j = 3) ∨ (q = 39 ∧ j = 4)) FI (fun q j h => (h.elim (fun h => (Or.inl h)) (fun h => (Or.inr (Or.inl h))))) g20
    have t23 := gz_hi ((g20 23 1).resolve_left (fun h => h.elim (fun h => absurd h.2 (by first | exact gz_ne rfl | decide)) (fun h => absurd h.2 (by first | exact gz_ne rfl | decide))))
    have t24 := gz_hi ((g20 23 5).resolve_left (fun h => h.elim (fun h => absurd h.2 (by first | exact gz_ne rfl | decide)) (fun h => absurd h.2 (by first | exact gz_ne rfl | decide))))
    have t26 := gz_hi ((g20 23 7).resolve_left (fun h => h.elim (fun h => absurd h.2 (by first | exact gz_ne rfl | decide)) (fun h => absurd h.2 (by first | exact gz_ne rfl | decide))))
    obtain rfl : J = J22 := funext fun q => funext fun j => ((k20 q j).resolve_left id).symm
    have KLT_I21 := gc_LT_fr KLT_I ((g20 23 5).resolve_left (fun h => h.elim (fun h => absurd h.2 (by first | exact gz_ne rfl | decide)) (fun h => absurd h.2 (by first | exact gz_ne rfl | decide)))) ((g20 23 6).resolve_left (fun h => h.elim (fun h => absurd h.2 (by first | exact gz_ne rfl | decide)) (fun h => absurd h.2 (by first | exact gz_ne rfl | decide)))) ((g20 23 7).resolve_left (fun h => h.elim (fun h => absurd h.2 (by first | exact gz_ne rfl | decide)) (fun h => absurd h.2 (by first | exact gz_ne rfl | decide)))) (fun k => (g20 24 k).resolve_left (fun h => h.elim (fun h => absurd h.1 (by first | exact gz_ne rfl | decide)) (fun h => absurd h.1 (by first | exact gz_ne rfl | decide))))
    have KTK_I21 := gc_TK_fr KTK_I ((g20 23 1).resolve_left (fun h => h.elim (fun h => absurd h.2 (by first | exact gz_ne rfl | decide)) (fun h => absurd h.2 (by first | exact gz_ne rfl | decide)))) ((g20 23 5).resolve_left (fun h => h.elim (fun h => absurd h.2 (by first | exact gz_ne rfl | decide)) (fun h => absurd h.2 (by first | exact gz_ne rfl | decide)))) ((g20 23 6).resolve_left (fun h => h.elim (fun h => absurd h.2 (by first | exact gz_ne rfl | decide)) (fun h => absurd h.2 (by first | exact gz_ne rfl | decide)))) ((g20 23 7).resolve_left (fun h => h.elim (fun h => absurd h.2 (by first | exact gz_ne rfl | decide)) (fun h => absurd h.2 (by first | exact gz_ne rfl | decide))))
    have A27 := gc_AT_I x1 ((g20 23 1).resolve_left (fun h => h.elim (fun h => absurd h.2 (by first | exact gz_ne rfl | decide)) (fun h => absurd h.2 (by first | exact gz_ne rfl | decide)))) ((g20 23 5).resolve_left (fun h => h.elim (fun h => absurd h.2 (by first | exact gz_ne rfl | decide)) (fun h => absurd h.2 (by first | exact gz_ne rfl | decide)))) ((g20 23 6).resolve_left (fun h => h.elim (fun h => absurd h.2 (by first | exact gz_ne rfl | decide)) (fun h => absurd h.2 (by first | exact gz_ne rfl | decide)))) ((g20 23 7).resolve_left (fun h => h.elim (fun h => absurd h.2 (by first | exact gz_ne rfl | decide)) (fun h => absurd h.2 (by first | exact gz_ne rfl | decide)))) ((g20 23 8).resolve_left (fun h => h.elim (fun h => absurd h.2 (by first | exact gz_ne rfl | decide)) (fun h => absurd h.2 (by first | exact gz_ne rfl | decide)))) (fun k => (g20 24 k).resolve_left (fun h => h.elim (fun h => absurd h.1 (by first | exact gz_ne rfl | decide)) (fun h => absurd h.1 (by first | exact gz_ne rfl | decide))))
    refine gv_callV hD rfl (As := [.inl 1, .inl (I 23 5)]) (st := []) rfl (gz_sh B_39) S_39 rfl (gc_lV6 hws rfl) (Nat.le_of_ble_eq_true rfl) (gz_Ev_mono (d := 1) (by decide) E20) ?_
    show gv_X _ _ (23, [(0, .inr (.inr (some 39))), (1, .inl a1)], [.inl z20], sh, gc_h sh I21 J A)
    exact gv_zret hD rfl (by (/-20-/first | (have o1 := gz_sh q20; omega) | (simp only [gz_hd] at *; omega))) ⟨I21, J, rfl, hI21, FI21, FJ, KLT_I21, KTK_I21, ⟨_, rfl, by (/-21-/first | (have o1 := gz_sh q20; omega) | (simp only [gz_hd] at *; omega)), by (/-22-/first | (have o1 := gz_sh q20; omega) | (simp only [gz_hd] at *; omega)), by (/-23-/first | (have o1 := gz_sh t23; omega) | (simp only [gz_hd] at *; omega)), by (/-24-/first | (have o1 := gz_sh t24; omega) | (simp only [gz_hd] at *; omega)), by (/-25-/first | (have o1 := gz_sh q20; omega) | (simp only [gz_hd] at *; omega)), (Or.inr ⟨by (/-26-/first | (have o1 := gz_sh q20; omega) | (simp only [gz_hd] at *; omega)), by unfold gs_need; (repeat first | rw [if_pos (by (/-27-/first | omega | (simp only [gz_hd] at *; omega)))] | rw [if_neg (by (/-28-/first | (have o1 := gz_sh t26; omega) | (simp only [gz_hd] at *; omega)))]); exact ⟨by (/-29-/first | (have o1 := gz_sh f3; omega) | (simp only [gz_hd] at *; omega)), by (/-30-/first | (have o1 := gz_sh q20; omega) | (simp only [gz_hd] at *; omega))⟩⟩)⟩⟩
set_option maxHeartbeats 8000000 in
set_option maxRecDepth 100000 in
theorem d_X6_need_p {ws0 : List Cond} {tb : String → gz_T} (hws : gc_Ws ws0) (htb : gc_tbs tb) (sh : gz_Sh) (ro : Nat → Nat) (I : gr_I) (J : gr_J) (A : gc_A) (hI : gc_Inv ro I) (β : Int → Int) (η : Int) (p9 : Int) (a1 : Int) (hb : gc_Base sh ro A) (ha1 : 0 ≤ a1 ∧ a1 ≤ 125) (x0 : gc_AT β η p9 23 I J) (x1 : 0 ≤ p9) : ∃ r hₚ, gz_Ev ws0 tb 2 (yX6_need, cX6_need, 2, (some .boolean)) [.inr (.inr (some 39)), .inl a1] sh (gc_h sh I J A) r sh hₚ 0 0 ∧ (∃ (Iₚ : gr_I) (Jₚ : gr_J), hₚ = gc_h sh Iₚ Jₚ A ∧ gc_Inv ro Iₚ ∧ (∀ q j : Nat, ((q = 39 ∧ j = 3) ∨ (q = 39 ∧ j = 4)) ∨ Iₚ q j = I q j) ∧ (∀ q j : Nat, (False) ∨ Jₚ q j = J q j) ∧ (∃ z : Int, r = some (.inl z) ∧ 0 ≤ z ∧ z ≤ 1 ∧ (z = 0 ∨ I 23 7 = a1) ∧ (gs_Or z (gs_T β η p9 = a1) (¬ gs_T β η p9 = a1 ∧ Iₚ 39 4 = gs_A β η p9)))) := by
  have FI : ∀ q j : Nat, ((q = 39 ∧ j = 3) ∨ (q = 39 ∧ j = 4)) ∨ I q j = I q j := fun _ _ => Or.inr rfl
  have FJ : ∀ q j : Nat, (False) ∨ J q j = J q j := fun _ _ => Or.inr rfl
  have A_39_1 : A 39 1 = some 23 := gc_bA_39_1 hb
  have B_23 := gz_hi (show 23 < 1000000 from by decide)
  have B_39 := gz_hi (show 39 < 1000000 from by decide)
  have R_23 := gz_hi (show ro 23 = 3 from gc_bR_23 hb)
  have S_23 : sh[23]? = some (false, 9, 10) := gc_bS_23 hb
  have S_39 : sh[39]? = some (false, 6, 19) := gc_bS_39 hb
  have hD : gv_D (gc_E6 ws0 tb 1 (yX6_need, cX6_need, 2, (some .boolean)) kX6_need) := gq_of oX6_need
  refine gc_ev6 (d := 1) (l := kX6_need) (Po := fun r hₚ => (∃ (Iₚ : gr_I) (Jₚ : gr_J), hₚ = gc_h sh Iₚ Jₚ A ∧ gc_Inv ro Iₚ ∧ (∀ q j : Nat, ((q = 39 ∧ j = 3) ∨ (q = 39 ∧ j = 4)) ∨ Iₚ q j = I q j) ∧ (∀ q j : Nat, (False) ∨ Jₚ q j = J q j) ∧ (∃ z : Int, r = some (.inl z) ∧ 0 ≤ z ∧ z ≤ 1 ∧ (z = 0 ∨ I 23 7 = a1) ∧ (gs_Or z (gs_T β η p9 = a1) (¬ gs_T β η p9 = a1 ∧ Iₚ 39 4 = gs_A β η p9))))) htb rfl (Nat.le_of_ble_eq_true rfl) ?_
  have f1 := gz_hi ((gc_b_3_7 hI (gz_sh R_23)))
  have f2 := gz_hi ((gc_b_3_5 hI (gz_sh R_23)))
  have tAT := gc_AT_l x0
  refine gv_run 1 true hD (pcₚ := 1) (lvₚ := [(0, .inr (.inr (some 39))), (1, .inl a1)]) (stₚ := [.inr (.inr (some 39))]) (hₚ := gc_h sh I J A) (C := (True ∧ True)) rfl ⟨trivial, trivial⟩ ?_
  refine gv_get hD rfl rfl S_39 ⟨by decide, (gz_sh B_39)⟩ (gc_hA S_39 rfl A_39_1) ?_
  show gv_X _ _ (4, [(0, .inr (.inr (some 39))), (1, .inl a1)], [.inr (.inr (some 23))], sh, gc_h sh I J A)
  refine gv_get hD rfl rfl S_23 ⟨by decide, (gz_sh B_23)⟩ (gc_hI S_23 rfl) ?_
  show gv_X _ _ (7, [(0, .inr (.inr (some 39))), (1, .inl a1)], [.inl (I 23 7)], sh, gc_h sh I J A)
  refine gv_run 1 true hD (pcₚ := 8) (lvₚ := [(0, .inr (.inr (some 39))), (1, .inl a1)]) (stₚ := [.inl a1, .inl (I 23 7)]) (hₚ := gc_h sh I J A) (C := (True ∧ True)) rfl ⟨trivial, trivial⟩ ?_
  refine gv_icmp_eq (t := 26) hD rfl rfl ⟨⟨by (/-0-/first | (have o1 := gz_sh f1; omega) | (simp only [gz_hd] at *; omega)), by (/-1-/first | (have o1 := gz_sh f1; omega) | (simp only [gz_hd] at *; omega))⟩, ⟨by (/-2-/first | omega | (simp only [gz_hd] at *; omega)), by (/-3-/first | omega | (simp only [gz_hd] at *; omega))⟩⟩ (fun c4 => ?_) (fun c4 => ?_)
  · show gv_X _ _ (26, [(0, .inr (.inr (some 39))), (1, .inl a1)], [], sh, gc_h sh I J A)
    refine gv_run 2 true hD (pcₚ := 31) (lvₚ := [(0, .inr (.inr (some 39))), (1, .inl a1)]) (stₚ := [.inl 1]) (hₚ := gc_h sh I J A) (C := ((True ∧ True) ∧ True)) rfl ⟨⟨trivial, trivial⟩, trivial⟩ ?_
    exact gv_zret hD rfl (by (/-4-/first | omega | (simp only [gz_hd] at *; omega))) ⟨I, J, rfl, hI, FI, FJ, ⟨_, rfl, by (/-5-/first | omega | (simp only [gz_hd] at *; omega)), by (/-6-/first | omega | (simp only [gz_hd] at *; omega)), by (/-7-/first | omega | (simp only [gz_hd] at *; omega)), (Or.inl ⟨by (/-8-/first | omega | (simp only [gz_hd] at *; omega)), by (/-9-/first | omega | (simp only [gz_hd] at *; omega))⟩)⟩⟩
  · show gv_X _ _ (11, [(0, .inr (.inr (some 39))), (1, .inl a1)], [], sh, gc_h sh I J A)
    refine gv_run 3 true hD (pcₚ := 14) (lvₚ := [(0, .inr (.inr (some 39))), (1, .inl a1)]) (stₚ := [.inr (.inr (some 39)), .inl 1, .inr (.inr (some 39))]) (hₚ := gc_h sh I J A) (C := (((True ∧ True) ∧ True) ∧ True)) rfl ⟨⟨⟨trivial, trivial⟩, trivial⟩, trivial⟩ ?_
    refine gv_get hD rfl rfl S_39 ⟨by decide, (gz_sh B_39)⟩ (gc_hA S_39 rfl A_39_1) ?_
    show gv_X _ _ (17, [(0, .inr (.inr (some 39))), (1, .inl a1)], [.inr (.inr (some 23)), .inl 1, .inr (.inr (some 39))], sh, gc_h sh I J A)
    refine gv_get hD rfl rfl S_23 ⟨by decide, (gz_sh B_23)⟩ (gc_hI S_23 rfl) ?_
    show gv_X _ _ (20, [(0, .inr (.inr (some 39))), (1, .inl a1)], [.inl (I 23 5), .inl 1, .inr (.inr (some 39))], sh, gc_h sh I J A)
    obtain ⟨r6, h6, E6, P6⟩ := d_X6_wrong_p (ws0 := ws0) (tb := tb) hws htb sh ro I J A hI  1 (I 23 5) hb   ⟨by (/-10-/first | omega | (simp only [gz_hd] at *; omega)), by (/-11-/first | omega | (simp only [gz_hd] at *; omega))⟩ ⟨by (/-12-/first | (have o1 := gz_sh f2; omega) | (simp only [gz_hd] at *; omega)), by (/-13-/first | (have o1 := gz_sh f2; omega) | (simp only [gz_hd] at *; omega))⟩  
    obtain ⟨I7, J8, rfl, hI7, g6, k6, ⟨z6, rfl, q6⟩⟩ := P6
    replace q6 := gz_hi q6
    have FI7 := gc_frc (W := fun q j => (q = 39 ∧ j = 3) ∨ (q = 39 ∧ j = 4)) (V := fun q j => (q = 39 ∧ j = 3) ∨ (q = 39 ∧ j = 4)) FI (fun q j h => (h.elim (fun h => (Or.inl h)) (fun h => (Or.inr h)))) g6
    have t9 := gz_hi ((g6 23 7).resolve_left (fun h => h.elim (fun h => absurd h.2 (by first | exact gz_ne rfl | decide)) (fun h => absurd h.2 (by first | exact gz_ne rfl | decide))))
    obtain rfl : J = J8 := funext fun q => funext fun j => ((k6 q j).resolve_left id).symm
    have A11 := gc_AT_I x0 ((g6 23 1).resolve_left (fun h => h.elim (fun h => absurd h.2 (by first | exact gz_ne rfl | decide)) (fun h => absurd h.2 (by first | exact gz_ne rfl | decide)))) ((g6 23 5).resolve_left (fun h => h.elim (fun h => absurd h.2 (by first | exact gz_ne rfl | decide)) (fun h => absurd h.2 (by first | exact gz_ne rfl | decide)))) ((g6 23 6).resolve_left (fun h => h.elim (fun h => absurd h.2 (by first | exact gz_ne rfl | decide)) (fun h => absurd h.2 (by first | exact gz_ne rfl | decide)))) ((g6 23 7).resolve_left (fun h => h.elim (fun h => absurd h.2 (by first | exact gz_ne rfl | decide)) (fun h => absurd h.2 (by first | exact gz_ne rfl | decide)))) ((g6 23 8).resolve_left (fun h => h.elim (fun h => absurd h.2 (by first | exact gz_ne rfl | decide)) (fun h => absurd h.2 (by first | exact gz_ne rfl | decide)))) (fun k => (g6 24 k).resolve_left (fun h => h.elim (fun h => absurd h.1 (by first | exact gz_ne rfl | decide)) (fun h => absurd h.1 (by first | exact gz_ne rfl | decide))))
    refine gv_callV hD rfl (As := [.inl 1, .inl (I 23 5)]) (st := []) rfl (gz_sh B_39) S_39 rfl (gc_lV6 hws rfl) (Nat.le_of_ble_eq_true rfl) (gz_Ev_mono (d := 1) (by decide) E6) ?_
    show gv_X _ _ (23, [(0, .inr (.inr (some 39))), (1, .inl a1)], [.inl z6], sh, gc_h sh I7 J A)
    refine gv_if_eq (t := 30) hD rfl rfl ⟨by (/-14-/first | (have o1 := gz_sh q6; omega) | (simp only [gz_hd] at *; omega)), by (/-15-/first | (have o1 := gz_sh q6; omega) | (simp only [gz_hd] at *; omega))⟩ (fun c13 => ?_) (fun c13 => ?_)
    · show gv_X _ _ (30, [(0, .inr (.inr (some 39))), (1, .inl a1)], [], sh, gc_h sh I7 J A)
      refine gv_run 1 true hD (pcₚ := 31) (lvₚ := [(0, .inr (.inr (some 39))), (1, .inl a1)]) (stₚ := [.inl 0]) (hₚ := gc_h sh I7 J A) (C := (True ∧ True)) rfl ⟨trivial, trivial⟩ ?_
      exact gv_zret hD rfl (by (/-16-/first | omega | (simp only [gz_hd] at *; omega))) ⟨I7, J, rfl, hI7, FI7, FJ, ⟨_, rfl, by (/-17-/first | omega | (simp only [gz_hd] at *; omega)), by (/-18-/first | omega | (simp only [gz_hd] at *; omega)), by (/-19-/first | omega | (simp only [gz_hd] at *; omega)), (Or.inr ⟨by (/-20-/first | omega | (simp only [gz_hd] at *; omega)), by (/-21-/first | (have o1 := gz_sh t9; omega) | (simp only [gz_hd] at *; omega)), by (/-22-/first | (have o1 := gz_sh q6; omega) | (simp only [gz_hd] at *; omega))⟩)⟩⟩
    · show gv_X _ _ (26, [(0, .inr (.inr (some 39))), (1, .inl a1)], [], sh, gc_h sh I7 J A)
      refine gv_run 2 true hD (pcₚ := 31) (lvₚ := [(0, .inr (.inr (some 39))), (1, .inl a1)]) (stₚ := [.inl 1]) (hₚ := gc_h sh I7 J A) (C := ((True ∧ True) ∧ True)) rfl ⟨⟨trivial, trivial⟩, trivial⟩ ?_
      exact gv_zret hD rfl (by (/-23-/first | omega | (simp only [gz_hd] at *; omega))) ⟨I7, J, rfl, hI7, FI7, FJ, ⟨_, rfl, by (/-24-/first | omega | (simp only [gz_hd] at *; omega)), by (/-25-/first | omega | (simp only [gz_hd] at *; omega)), by (/-26-/first | (have o1 := gz_sh q6; omega) | (simp only [gz_hd] at *; omega)), (Or.inl ⟨by (/-27-/first | omega | (simp only [gz_hd] at *; omega)), by (/-28-/first | (have o1 := gz_sh q6; omega) | (simp only [gz_hd] at *; omega))⟩)⟩⟩
set_option maxHeartbeats 8000000 in
set_option maxRecDepth 100000 in
theorem d_X6_isWord_p {ws0 : List Cond} {tb : String → gz_T} (hws : gc_Ws ws0) (htb : gc_tbs tb) (sh : gz_Sh) (ro : Nat → Nat) (I : gr_I) (J : gr_J) (A : gc_A) (hI : gc_Inv ro I) (β : Int → Int) (η : Int) (p9 : Int) (a1 : Int64) (hb : gc_Base sh ro A)  (x0 : gc_AT β η p9 23 I J) (x1 : 0 ≤ p9) : ∃ r hₚ, gz_Ev ws0 tb 1 (yX6_isWord, cX6_isWord, 3, (some .boolean)) [.inr (.inr (some 39)), .inr (.inl a1)] sh (gc_h sh I J A) r sh hₚ 0 0 ∧ (hₚ = gc_h sh I J A ∧ (∃ z : Int, r = some (.inl z) ∧ 0 ≤ z ∧ z ≤ 1 ∧ (z = 0 ∨ I 23 7 = 1) ∧ (z = gs_kwc β η p9 a1))) := by
  have A_39_1 : A 39 1 = some 23 := gc_bA_39_1 hb
  have B_23 := gz_hi (show 23 < 1000000 from by decide)
  have B_39 := gz_hi (show 39 < 1000000 from by decide)
  have R_23 := gz_hi (show ro 23 = 3 from gc_bR_23 hb)
  have S_23 : sh[23]? = some (false, 9, 10) := gc_bS_23 hb
  have S_39 : sh[39]? = some (false, 6, 19) := gc_bS_39 hb
  have hD : gv_D (gc_E6 ws0 tb 0 (yX6_isWord, cX6_isWord, 3, (some .boolean)) kX6_isWord) := gq_of oX6_isWord
  refine gc_ev6 (d := 0) (l := kX6_isWord) (Po := fun r hₚ => (hₚ = gc_h sh I J A ∧ (∃ z : Int, r = some (.inl z) ∧ 0 ≤ z ∧ z ≤ 1 ∧ (z = 0 ∨ I 23 7 = 1) ∧ (z = gs_kwc β η p9 a1)))) htb rfl (Nat.le_of_ble_eq_true rfl) ?_
  have f1 := gz_hi ((gc_b_3_7 hI (gz_sh R_23)))
  have tAT := gc_AT_l x0
  refine gv_run 1 true hD (pcₚ := 1) (lvₚ := [(0, .inr (.inr (some 39))), (1, .inr (.inl a1))]) (stₚ := [.inr (.inr (some 39))]) (hₚ := gc_h sh I J A) (C := (True ∧ True)) rfl ⟨trivial, trivial⟩ ?_
  refine gv_get hD rfl rfl S_39 ⟨by decide, (gz_sh B_39)⟩ (gc_hA S_39 rfl A_39_1) ?_
  show gv_X _ _ (4, [(0, .inr (.inr (some 39))), (1, .inr (.inl a1))], [.inr (.inr (some 23))], sh, gc_h sh I J A)
  refine gv_get hD rfl rfl S_23 ⟨by decide, (gz_sh B_23)⟩ (gc_hI S_23 rfl) ?_
  show gv_X _ _ (7, [(0, .inr (.inr (some 39))), (1, .inr (.inl a1))], [.inl (I 23 7)], sh, gc_h sh I J A)
  refine gv_run 1 true hD (pcₚ := 8) (lvₚ := [(0, .inr (.inr (some 39))), (1, .inr (.inl a1))]) (stₚ := [.inl 1, .inl (I 23 7)]) (hₚ := gc_h sh I J A) (C := (True ∧ True)) rfl ⟨trivial, trivial⟩ ?_
  refine gv_icmp_ne (t := 27) hD rfl rfl ⟨⟨by (/-0-/first | (have o1 := gz_sh f1; omega) | (simp only [gz_hd] at *; omega)), by (/-1-/first | (have o1 := gz_sh f1; omega) | (simp only [gz_hd] at *; omega))⟩, ⟨by (/-2-/first | omega | (simp only [gz_hd] at *; omega)), by (/-3-/first | omega | (simp only [gz_hd] at *; omega))⟩⟩ (fun c3 => ?_) (fun c3 => ?_)
  · show gv_X _ _ (27, [(0, .inr (.inr (some 39))), (1, .inr (.inl a1))], [], sh, gc_h sh I J A)
    refine gv_run 1 true hD (pcₚ := 28) (lvₚ := [(0, .inr (.inr (some 39))), (1, .inr (.inl a1))]) (stₚ := [.inl 0]) (hₚ := gc_h sh I J A) (C := (True ∧ True)) rfl ⟨trivial, trivial⟩ ?_
    exact gv_zret hD rfl (by (/-4-/first | omega | (simp only [gz_hd] at *; omega))) ⟨rfl, ⟨_, rfl, by (/-5-/first | omega | (simp only [gz_hd] at *; omega)), by (/-6-/first | omega | (simp only [gz_hd] at *; omega)), by (/-7-/first | omega | (simp only [gz_hd] at *; omega)), (gs_kwc_0 (Or.inl (by (/-8-/first | omega | (simp only [gz_hd] at *; omega))))).symm⟩⟩
  · show gv_X _ _ (11, [(0, .inr (.inr (some 39))), (1, .inr (.inl a1))], [], sh, gc_h sh I J A)
    refine gv_run 1 true hD (pcₚ := 12) (lvₚ := [(0, .inr (.inr (some 39))), (1, .inr (.inl a1))]) (stₚ := [.inr (.inr (some 39))]) (hₚ := gc_h sh I J A) (C := (True ∧ True)) rfl ⟨trivial, trivial⟩ ?_
    refine gv_get hD rfl rfl S_39 ⟨by decide, (gz_sh B_39)⟩ (gc_hA S_39 rfl A_39_1) ?_
    show gv_X _ _ (15, [(0, .inr (.inr (some 39))), (1, .inr (.inl a1))], [.inr (.inr (some 23))], sh, gc_h sh I J A)
    refine gv_get hD rfl rfl S_23 ⟨by decide, (gz_sh B_23)⟩ (gc_hJ S_23 rfl) ?_
    show gv_X _ _ (18, [(0, .inr (.inr (some 39))), (1, .inr (.inl a1))], [.inr (.inl (J 23 9))], sh, gc_h sh I J A)
    have f4 := gz_hi (gw_cmp ((J 23 9)) (a1))
    refine gv_run 2 true hD (pcₚ := 20) (lvₚ := [(0, .inr (.inr (some 39))), (1, .inr (.inl a1))]) (stₚ := [.inl ((lg_cmp ((J 23 9)) (a1)).toInt)]) (hₚ := gc_h sh I J A) (C := ((True ∧ True) ∧ True)) rfl ⟨⟨trivial, trivial⟩, trivial⟩ ?_
    refine gv_if_ne (t := 27) hD rfl rfl ⟨by (/-9-/first | (have o1 := gz_sh f4; omega) | (simp only [gz_hd] at *; omega)), by (/-10-/first | (have o1 := gz_sh f4; omega) | (simp only [gz_hd] at *; omega))⟩ (fun c5 => ?_) (fun c5 => ?_)
    · show gv_X _ _ (27, [(0, .inr (.inr (some 39))), (1, .inr (.inl a1))], [], sh, gc_h sh I J A)
      have j5 := gs_cmpn (a := (J 23 9)) (b := a1) (by (/-11-/first | omega | (simp only [gz_hd] at *; omega)))
      refine gv_run 1 true hD (pcₚ := 28) (lvₚ := [(0, .inr (.inr (some 39))), (1, .inr (.inl a1))]) (stₚ := [.inl 0]) (hₚ := gc_h sh I J A) (C := (True ∧ True)) rfl ⟨trivial, trivial⟩ ?_
      exact gv_zret hD rfl (by (/-12-/first | omega | (simp only [gz_hd] at *; omega))) ⟨rfl, ⟨_, rfl, by (/-13-/first | omega | (simp only [gz_hd] at *; omega)), by (/-14-/first | omega | (simp only [gz_hd] at *; omega)), by (/-15-/first | omega | (simp only [gz_hd] at *; omega)), (gs_kwc_0 (Or.inr (by rw [← gc_AT_m x0 (by (/-16-/first | omega | (simp only [gz_hd] at *; omega)))]; exact j5))).symm⟩⟩
    · show gv_X _ _ (23, [(0, .inr (.inr (some 39))), (1, .inr (.inl a1))], [], sh, gc_h sh I J A)
      have j5 := gs_cmp0 (a := (J 23 9)) (b := a1) (by (/-17-/first | omega | (simp only [gz_hd] at *; omega)))
      refine gv_run 2 true hD (pcₚ := 28) (lvₚ := [(0, .inr (.inr (some 39))), (1, .inr (.inl a1))]) (stₚ := [.inl 1]) (hₚ := gc_h sh I J A) (C := ((True ∧ True) ∧ True)) rfl ⟨⟨trivial, trivial⟩, trivial⟩ ?_
      exact gv_zret hD rfl (by (/-18-/first | omega | (simp only [gz_hd] at *; omega))) ⟨rfl, ⟨_, rfl, by (/-19-/first | omega | (simp only [gz_hd] at *; omega)), by (/-20-/first | omega | (simp only [gz_hd] at *; omega)), by (/-21-/first | omega | (simp only [gz_hd] at *; omega)), (gs_kwc_1 (by (/-22-/first | omega | (simp only [gz_hd] at *; omega))) (by rw [← gc_AT_m x0 (by (/-23-/first | omega | (simp only [gz_hd] at *; omega)))]; exact j5)).symm⟩⟩
set_option maxHeartbeats 8000000 in
set_option maxRecDepth 100000 in
theorem d_X6_needNew_p {ws0 : List Cond} {tb : String → gz_T} (hws : gc_Ws ws0) (htb : gc_tbs tb) (sh : gz_Sh) (ro : Nat → Nat) (I : gr_I) (J : gr_J) (A : gc_A) (hI : gc_Inv ro I) (n ρ : Nat) (β : Int → Int) (η : Int) (p9 : Int) (a1 : Nat) (hb : gc_Base sh ro A) (h_a1 : gc_isNames sh ro A a1 n ρ)  (x0 : gc_AT β η p9 23 I J) (x1 : 0 ≤ p9) : ∃ r hₚ, gz_Ev ws0 tb 3 (yX6_needNew, cX6_needNew, 2, (some .boolean)) [.inr (.inr (some 39)), .inr (.inr (some a1))] sh (gc_h sh I J A) r sh hₚ 0 0 ∧ (∃ (Iₚ : gr_I) (Jₚ : gr_J), hₚ = gc_h sh Iₚ Jₚ A ∧ gc_Inv ro Iₚ ∧ (∀ q j : Nat, ((q = 39 ∧ j = 3) ∨ (q = 39 ∧ j = 4)) ∨ Iₚ q j = I q j) ∧ (∀ q j : Nat, (False) ∨ Jₚ q j = J q j) ∧ (∃ z : Int, r = some (.inl z) ∧ 0 ≤ z ∧ z ≤ 1 ∧ (z = 0 ∨ I 23 7 = 1) ∧ (gs_Or z (gs_T β η p9 = 1 ∧ gc_fd (J (a1 + 1)) (gs_M β η p9) (Int.toNat (I a1 1)) < 0) ((¬ gs_T β η p9 = 1 ∨ 0 ≤ gc_fd (J (a1 + 1)) (gs_M β η p9) (Int.toNat (I a1 1))) ∧ Iₚ 39 4 = gs_A β η p9)))) := by
  have FI : ∀ q j : Nat, ((q = 39 ∧ j = 3) ∨ (q = 39 ∧ j = 4)) ∨ I q j = I q j := fun _ _ => Or.inr rfl
  have FJ : ∀ q j : Nat, (False) ∨ J q j = J q j := fun _ _ => Or.inr rfl
  have A_39_1 : A 39 1 = some 23 := gc_bA_39_1 hb
  have B_23 := gz_hi (show 23 < 1000000 from by decide)
  have B_39 := gz_hi (show 39 < 1000000 from by decide)
  have R_23 := gz_hi (show ro 23 = 3 from gc_bR_23 hb)
  have S_23 : sh[23]? = some (false, 9, 10) := gc_bS_23 hb
  have S_39 : sh[39]? = some (false, 6, 19) := gc_bS_39 hb
  obtain ⟨S_a1, R_a1, B_a1, A_a1_0, S_a1_1, R_a1_1, B_a1_1, Q_lo, Q_hi, Q_n⟩ := id h_a1
  replace R_a1 := gz_hi R_a1
  replace B_a1 := gz_hi B_a1
  replace R_a1_1 := gz_hi R_a1_1
  replace B_a1_1 := gz_hi B_a1_1
  have hD : gv_D (gc_E6 ws0 tb 2 (yX6_needNew, cX6_needNew, 2, (some .boolean)) kX6_needNew) := gq_of oX6_needNew
  refine gc_ev6 (d := 2) (l := kX6_needNew) (Po := fun r hₚ => (∃ (Iₚ : gr_I) (Jₚ : gr_J), hₚ = gc_h sh Iₚ Jₚ A ∧ gc_Inv ro Iₚ ∧ (∀ q j : Nat, ((q = 39 ∧ j = 3) ∨ (q = 39 ∧ j = 4)) ∨ Iₚ q j = I q j) ∧ (∀ q j : Nat, (False) ∨ Jₚ q j = J q j) ∧ (∃ z : Int, r = some (.inl z) ∧ 0 ≤ z ∧ z ≤ 1 ∧ (z = 0 ∨ I 23 7 = 1) ∧ (gs_Or z (gs_T β η p9 = 1 ∧ gc_fd (J (a1 + 1)) (gs_M β η p9) (Int.toNat (I a1 1)) < 0) ((¬ gs_T β η p9 = 1 ∨ 0 ≤ gc_fd (J (a1 + 1)) (gs_M β η p9) (Int.toNat (I a1 1))) ∧ Iₚ 39 4 = gs_A β η p9))))) htb rfl (Nat.le_of_ble_eq_true rfl) ?_
  have f2 := gz_hi ((gc_b_3_5 hI (gz_sh R_23)))
  have tAT := gc_AT_l x0
  refine gv_run 2 true hD (pcₚ := 2) (lvₚ := [(0, .inr (.inr (some 39))), (1, .inr (.inr (some a1)))]) (stₚ := [.inl 1, .inr (.inr (some 39))]) (hₚ := gc_h sh I J A) (C := ((True ∧ True) ∧ True)) rfl ⟨⟨trivial, trivial⟩, trivial⟩ ?_
  obtain ⟨r3, h3, E3, P3⟩ := d_X6_need_p (ws0 := ws0) (tb := tb) hws htb sh ro I J A hI  β η p9 1 hb   ⟨by (/-0-/first | omega | (simp only [gz_hd] at *; omega)), by (/-1-/first | omega | (simp only [gz_hd] at *; omega))⟩ x0 (by (/-2-/first | omega | (simp only [gz_hd] at *; omega))) 
  obtain ⟨I4, J5, rfl, hI4, g3, k3, ⟨z3, rfl, q3⟩⟩ := P3
  replace q3 := gz_hi q3
  have FI4 := gc_frc (W := fun q j => (q = 39 ∧ j = 3) ∨ (q = 39 ∧ j = 4)) (V := fun q j => (q = 39 ∧ j = 3) ∨ (q = 39 ∧ j = 4)) FI (fun q j h => (h.elim (fun h => (Or.inl h)) (fun h => (Or.inr h)))) g3
  have t6 := gz_hi ((g3 23 7).resolve_left (fun h => h.elim (fun h => absurd h.2 (by first | exact gz_ne rfl | decide)) (fun h => absurd h.2 (by first | exact gz_ne rfl | decide))))
  have t7 := gz_hi ((g3 23 5).resolve_left (fun h => h.elim (fun h => absurd h.2 (by first | exact gz_ne rfl | decide)) (fun h => absurd h.2 (by first | exact gz_ne rfl | decide))))
  obtain rfl : J = J5 := funext fun q => funext fun j => ((k3 q j).resolve_left id).symm
  have A8 := gc_AT_I x0 ((g3 23 1).resolve_left (fun h => h.elim (fun h => absurd h.2 (by first | exact gz_ne rfl | decide)) (fun h => absurd h.2 (by first | exact gz_ne rfl | decide)))) ((g3 23 5).resolve_left (fun h => h.elim (fun h => absurd h.2 (by first | exact gz_ne rfl | decide)) (fun h => absurd h.2 (by first | exact gz_ne rfl | decide)))) ((g3 23 6).resolve_left (fun h => h.elim (fun h => absurd h.2 (by first | exact gz_ne rfl | decide)) (fun h => absurd h.2 (by first | exact gz_ne rfl | decide)))) ((g3 23 7).resolve_left (fun h => h.elim (fun h => absurd h.2 (by first | exact gz_ne rfl | decide)) (fun h => absurd h.2 (by first | exact gz_ne rfl | decide)))) ((g3 23 8).resolve_left (fun h => h.elim (fun h => absurd h.2 (by first | exact gz_ne rfl | decide)) (fun h => absurd h.2 (by first | exact gz_ne rfl | decide)))) (fun k => (g3 24 k).resolve_left (fun h => h.elim (fun h => absurd h.1 (by first | exact gz_ne rfl | decide)) (fun h => absurd h.1 (by first | exact gz_ne rfl | decide))))
  refine gv_callV hD rfl (As := [.inl 1]) (st := []) rfl (gz_sh B_39) S_39 rfl (gc_lV6 hws rfl) (Nat.le_of_ble_eq_true rfl) (gz_Ev_mono (d := 2) (by decide) E3) ?_
  show gv_X _ _ (5, [(0, .inr (.inr (some 39))), (1, .inr (.inr (some a1)))], [.inl z3], sh, gc_h sh I4 J A)
  refine gv_if_eq (t := 41) hD rfl rfl ⟨by (/-3-/first | (have o1 := gz_sh q3; omega) | (simp only [gz_hd] at *; omega)), by (/-4-/first | (have o1 := gz_sh q3; omega) | (simp only [gz_hd] at *; omega))⟩ (fun c10 => ?_) (fun c10 => ?_)
  · show gv_X _ _ (41, [(0, .inr (.inr (some 39))), (1, .inr (.inr (some a1)))], [], sh, gc_h sh I4 J A)
    have u11 := gs_or0 (gz_sh q3).2.2.2 (by (/-5-/first | omega | (simp only [gz_hd] at *; omega)))
    refine gv_run 1 true hD (pcₚ := 42) (lvₚ := [(0, .inr (.inr (some 39))), (1, .inr (.inr (some a1)))]) (stₚ := [.inl 0]) (hₚ := gc_h sh I4 J A) (C := (True ∧ True)) rfl ⟨trivial, trivial⟩ ?_
    exact gv_zret hD rfl (by (/-6-/first | omega | (simp only [gz_hd] at *; omega))) ⟨I4, J, rfl, hI4, FI4, FJ, ⟨_, rfl, by (/-7-/first | omega | (simp only [gz_hd] at *; omega)), by (/-8-/first | omega | (simp only [gz_hd] at *; omega)), by (/-9-/first | omega | (simp only [gz_hd] at *; omega)), (Or.inr ⟨by (/-10-/first | omega | (simp only [gz_hd] at *; omega)), (Or.inl u11.1), by (/-11-/first | omega | (simp only [gz_hd] at *; omega))⟩)⟩⟩
  · show gv_X _ _ (8, [(0, .inr (.inr (some 39))), (1, .inr (.inr (some a1)))], [], sh, gc_h sh I4 J A)
    have u12 := gs_or1 (gz_sh q3).2.2.2 (by (/-12-/first | omega | (simp only [gz_hd] at *; omega)))
    refine gv_run 2 true hD (pcₚ := 10) (lvₚ := [(0, .inr (.inr (some 39))), (1, .inr (.inr (some a1)))]) (stₚ := [.inr (.inr (some 39)), .inr (.inr (some a1))]) (hₚ := gc_h sh I4 J A) (C := ((True ∧ True) ∧ True)) rfl ⟨⟨trivial, trivial⟩, trivial⟩ ?_
    refine gv_get hD rfl rfl S_39 ⟨by decide, (gz_sh B_39)⟩ (gc_hA S_39 rfl A_39_1) ?_
    show gv_X _ _ (13, [(0, .inr (.inr (some 39))), (1, .inr (.inr (some a1)))], [.inr (.inr (some 23)), .inr (.inr (some a1))], sh, gc_h sh I4 J A)
    refine gv_get hD rfl rfl S_23 ⟨by decide, (gz_sh B_23)⟩ (gc_hJ S_23 rfl) ?_
    show gv_X _ _ (16, [(0, .inr (.inr (some 39))), (1, .inr (.inr (some a1)))], [.inr (.inl (J 23 9)), .inr (.inr (some a1))], sh, gc_h sh I4 J A)
    obtain ⟨r13, h13, E13, P13⟩ := d_X4_find (ws0 := ws0) (tb := tb) hws htb sh ro I4 J A hI4 a1 n ρ (J 23 9) h_a1     
    obtain ⟨rfl, ⟨z13, rfl, q13⟩⟩ := P13
    replace q13 := gz_hi q13
    have t14 : z13 = gc_fd (J (a1 + 1)) (gs_M β η p9) (Int.toNat (I a1 1)) := (gz_sh q13).2.2.2.trans (by rw [gc_AT_m A8 (by (/-13-/first | omega | (simp only [gz_hd] at *; omega))), show I4 a1 1 = I a1 1 from (FI4 a1 1).resolve_left (by (/-14-/first | omega | (simp only [gz_hd] at *; omega)))])
    refine gv_callV hD rfl (As := [.inr (.inl (J 23 9))]) (st := []) rfl (gz_sh B_a1) S_a1 rfl (gc_lV6 hws rfl) (Nat.le_of_ble_eq_true rfl) (gz_Ev_mono (d := 1) (by decide) E13) ?_
    show gv_X _ _ (19, [(0, .inr (.inr (some 39))), (1, .inr (.inr (some a1)))], [.inl z13], sh, gc_h sh I4 J A)
    refine gv_if_lt (t := 37) hD rfl rfl ⟨by (/-15-/first | (have o1 := gz_sh q13; omega) | (simp only [gz_hd] at *; omega)), by (/-16-/first | (have o1 := gz_sh q13; omega) | (simp only [gz_hd] at *; omega))⟩ (fun c15 => ?_) (fun c15 => ?_)
    · show gv_X _ _ (37, [(0, .inr (.inr (some 39))), (1, .inr (.inr (some a1)))], [], sh, gc_h sh I4 J A)
      refine gv_run 2 true hD (pcₚ := 42) (lvₚ := [(0, .inr (.inr (some 39))), (1, .inr (.inr (some a1)))]) (stₚ := [.inl 1]) (hₚ := gc_h sh I4 J A) (C := ((True ∧ True) ∧ True)) rfl ⟨⟨trivial, trivial⟩, trivial⟩ ?_
      exact gv_zret hD rfl (by (/-17-/first | omega | (simp only [gz_hd] at *; omega))) ⟨I4, J, rfl, hI4, FI4, FJ, ⟨_, rfl, by (/-18-/first | omega | (simp only [gz_hd] at *; omega)), by (/-19-/first | omega | (simp only [gz_hd] at *; omega)), by (/-20-/first | omega | (simp only [gz_hd] at *; omega)), (Or.inl ⟨by (/-21-/first | omega | (simp only [gz_hd] at *; omega)), by (/-22-/first | omega | (simp only [gz_hd] at *; omega)), by (/-23-/first | omega | (simp only [gz_hd] at *; omega))⟩)⟩⟩
    · show gv_X _ _ (22, [(0, .inr (.inr (some 39))), (1, .inr (.inr (some a1)))], [], sh, gc_h sh I4 J A)
      refine gv_run 3 true hD (pcₚ := 25) (lvₚ := [(0, .inr (.inr (some 39))), (1, .inr (.inr (some a1)))]) (stₚ := [.inr (.inr (some 39)), .inl 4, .inr (.inr (some 39))]) (hₚ := gc_h sh I4 J A) (C := (((True ∧ True) ∧ True) ∧ True)) rfl ⟨⟨⟨trivial, trivial⟩, trivial⟩, trivial⟩ ?_
      refine gv_get hD rfl rfl S_39 ⟨by decide, (gz_sh B_39)⟩ (gc_hA S_39 rfl A_39_1) ?_
      show gv_X _ _ (28, [(0, .inr (.inr (some 39))), (1, .inr (.inr (some a1)))], [.inr (.inr (some 23)), .inl 4, .inr (.inr (some 39))], sh, gc_h sh I4 J A)
      refine gv_get hD rfl rfl S_23 ⟨by decide, (gz_sh B_23)⟩ (gc_hI S_23 rfl) ?_
      show gv_X _ _ (31, [(0, .inr (.inr (some 39))), (1, .inr (.inr (some a1)))], [.inl (I4 23 5), .inl 4, .inr (.inr (some 39))], sh, gc_h sh I4 J A)
      obtain ⟨r17, h17, E17, P17⟩ := d_X6_wrong_p (ws0 := ws0) (tb := tb) hws htb sh ro I4 J A hI4  4 (I4 23 5) hb   ⟨by (/-24-/first | omega | (simp only [gz_hd] at *; omega)), by (/-25-/first | omega | (simp only [gz_hd] at *; omega))⟩ ⟨by (/-26-/first | (have o1 := gz_sh f2; have o2 := gz_sh t7; omega) | (simp only [gz_hd] at *; omega)), by (/-27-/first | (have o1 := gz_sh f2; have o2 := gz_sh t7; omega) | (simp only [gz_hd] at *; omega))⟩  
      obtain ⟨I18, J19, rfl, hI18, g17, k17, ⟨z17, rfl, q17⟩⟩ := P17
      replace q17 := gz_hi q17
      have FI18 := gc_frc (W := fun q j => (q = 39 ∧ j = 3) ∨ (q = 39 ∧ j = 4)) (V := fun q j => (q = 39 ∧ j = 3) ∨ (q = 39 ∧ j = 4)) FI4 (fun q j h => (h.elim (fun h => (Or.inl h)) (fun h => (Or.inr h)))) g17
      obtain rfl : J = J19 := funext fun q => funext fun j => ((k17 q j).resolve_left id).symm
      have A22 := gc_AT_I A8 ((g17 23 1).resolve_left (fun h => h.elim (fun h => absurd h.2 (by first | exact gz_ne rfl | decide)) (fun h => absurd h.2 (by first | exact gz_ne rfl | decide)))) ((g17 23 5).resolve_left (fun h => h.elim (fun h => absurd h.2 (by first | exact gz_ne rfl | decide)) (fun h => absurd h.2 (by first | exact gz_ne rfl | decide)))) ((g17 23 6).resolve_left (fun h => h.elim (fun h => absurd h.2 (by first | exact gz_ne rfl | decide)) (fun h => absurd h.2 (by first | exact gz_ne rfl | decide)))) ((g17 23 7).resolve_left (fun h => h.elim (fun h => absurd h.2 (by first | exact gz_ne rfl | decide)) (fun h => absurd h.2 (by first | exact gz_ne rfl | decide)))) ((g17 23 8).resolve_left (fun h => h.elim (fun h => absurd h.2 (by first | exact gz_ne rfl | decide)) (fun h => absurd h.2 (by first | exact gz_ne rfl | decide)))) (fun k => (g17 24 k).resolve_left (fun h => h.elim (fun h => absurd h.1 (by first | exact gz_ne rfl | decide)) (fun h => absurd h.1 (by first | exact gz_ne rfl | decide))))
      refine gv_callV hD rfl (As := [.inl 4, .inl (I4 23 5)]) (st := []) rfl (gz_sh B_39) S_39 rfl (gc_lV6 hws rfl) (Nat.le_of_ble_eq_true rfl) (gz_Ev_mono (d := 1) (by decide) E17) ?_
      show gv_X _ _ (34, [(0, .inr (.inr (some 39))), (1, .inr (.inr (some a1)))], [.inl z17], sh, gc_h sh I18 J A)
      refine gv_if_eq (t := 41) hD rfl rfl ⟨by (/-28-/first | (have o1 := gz_sh q17; omega) | (simp only [gz_hd] at *; omega)), by (/-29-/first | (have o1 := gz_sh q17; omega) | (simp only [gz_hd] at *; omega))⟩ (fun c24 => ?_) (fun c24 => ?_)
      · show gv_X _ _ (41, [(0, .inr (.inr (some 39))), (1, .inr (.inr (some a1)))], [], sh, gc_h sh I18 J A)
        refine gv_run 1 true hD (pcₚ := 42) (lvₚ := [(0, .inr (.inr (some 39))), (1, .inr (.inr (some a1)))]) (stₚ := [.inl 0]) (hₚ := gc_h sh I18 J A) (C := (True ∧ True)) rfl ⟨trivial, trivial⟩ ?_
        exact gv_zret hD rfl (by (/-30-/first | omega | (simp only [gz_hd] at *; omega))) ⟨I18, J, rfl, hI18, FI18, FJ, ⟨_, rfl, by (/-31-/first | omega | (simp only [gz_hd] at *; omega)), by (/-32-/first | omega | (simp only [gz_hd] at *; omega)), by (/-33-/first | omega | (simp only [gz_hd] at *; omega)), (Or.inr ⟨by (/-34-/first | omega | (simp only [gz_hd] at *; omega)), (Or.inr (by (/-35-/first | omega | (simp only [gz_hd] at *; omega)))), by (/-36-/first | (have o1 := gz_sh q17; have o2 := gz_sh t7; omega) | (simp only [gz_hd] at *; omega))⟩)⟩⟩
      · show gv_X _ _ (37, [(0, .inr (.inr (some 39))), (1, .inr (.inr (some a1)))], [], sh, gc_h sh I18 J A)
        refine gv_run 2 true hD (pcₚ := 42) (lvₚ := [(0, .inr (.inr (some 39))), (1, .inr (.inr (some a1)))]) (stₚ := [.inl 1]) (hₚ := gc_h sh I18 J A) (C := ((True ∧ True) ∧ True)) rfl ⟨⟨trivial, trivial⟩, trivial⟩ ?_
        exact gv_zret hD rfl (by (/-37-/first | omega | (simp only [gz_hd] at *; omega))) ⟨I18, J, rfl, hI18, FI18, FJ, ⟨_, rfl, by (/-38-/first | omega | (simp only [gz_hd] at *; omega)), by (/-39-/first | omega | (simp only [gz_hd] at *; omega)), by (/-40-/first | omega | (simp only [gz_hd] at *; omega)), (Or.inl ⟨by (/-41-/first | omega | (simp only [gz_hd] at *; omega)), by (/-42-/first | omega | (simp only [gz_hd] at *; omega)), by (/-43-/first | (have o1 := gz_sh q17; omega) | (simp only [gz_hd] at *; omega))⟩)⟩⟩
set_option maxHeartbeats 8000000 in
set_option maxRecDepth 100000 in
theorem d_X6_needKnown_p {ws0 : List Cond} {tb : String → gz_T} (hws : gc_Ws ws0) (htb : gc_tbs tb) (sh : gz_Sh) (ro : Nat → Nat) (I : gr_I) (J : gr_J) (A : gc_A) (hI : gc_Inv ro I) (n ρ : Nat) (β : Int → Int) (η : Int) (p9 : Int) (a1 : Nat) (hb : gc_Base sh ro A) (h_a1 : gc_isNames sh ro A a1 n ρ)  (x0 : gc_AT β η p9 23 I J) (x1 : 0 ≤ p9) : ∃ r hₚ, gz_Ev ws0 tb 3 (yX6_needKnown, cX6_needKnown, 2, (some .boolean)) [.inr (.inr (some 39)), .inr (.inr (some a1))] sh (gc_h sh I J A) r sh hₚ 0 0 ∧ (∃ (Iₚ : gr_I) (Jₚ : gr_J), hₚ = gc_h sh Iₚ Jₚ A ∧ gc_Inv ro Iₚ ∧ (∀ q j : Nat, ((q = 39 ∧ j = 3) ∨ (q = 39 ∧ j = 4)) ∨ Iₚ q j = I q j) ∧ (∀ q j : Nat, (False) ∨ Jₚ q j = J q j) ∧ (∃ z : Int, r = some (.inl z) ∧ 0 ≤ z ∧ z ≤ 1 ∧ (z = 0 ∨ (I 23 7 = 1 ∧ 0 ≤ gc_fd (J (a1 + 1)) (J 23 9) (Int.toNat (Iₚ a1 1)))) ∧ (gs_Or z (gs_T β η p9 = 1 ∧ 0 ≤ gc_fd (J (a1 + 1)) (gs_M β η p9) (Int.toNat (I a1 1))) ((¬ gs_T β η p9 = 1 ∨ gc_fd (J (a1 + 1)) (gs_M β η p9) (Int.toNat (I a1 1)) < 0) ∧ Iₚ 39 4 = gs_A β η p9)))) := by
  have FI : ∀ q j : Nat, ((q = 39 ∧ j = 3) ∨ (q = 39 ∧ j = 4)) ∨ I q j = I q j := fun _ _ => Or.inr rfl
  have FJ : ∀ q j : Nat, (False) ∨ J q j = J q j := fun _ _ => Or.inr rfl
  have A_39_1 : A 39 1 = some 23 := gc_bA_39_1 hb
  have B_23 := gz_hi (show 23 < 1000000 from by decide)
  have B_39 := gz_hi (show 39 < 1000000 from by decide)
  have R_23 := gz_hi (show ro 23 = 3 from gc_bR_23 hb)
  have S_23 : sh[23]? = some (false, 9, 10) := gc_bS_23 hb
  have S_39 : sh[39]? = some (false, 6, 19) := gc_bS_39 hb
  obtain ⟨S_a1, R_a1, B_a1, A_a1_0, S_a1_1, R_a1_1, B_a1_1, Q_lo, Q_hi, Q_n⟩ := id h_a1
  replace R_a1 := gz_hi R_a1
  replace B_a1 := gz_hi B_a1
  replace R_a1_1 := gz_hi R_a1_1
  replace B_a1_1 := gz_hi B_a1_1
  have hD : gv_D (gc_E6 ws0 tb 2 (yX6_needKnown, cX6_needKnown, 2, (some .boolean)) kX6_needKnown) := gq_of oX6_needKnown
  refine gc_ev6 (d := 2) (l := kX6_needKnown) (Po := fun r hₚ => (∃ (Iₚ : gr_I) (Jₚ : gr_J), hₚ = gc_h sh Iₚ Jₚ A ∧ gc_Inv ro Iₚ ∧ (∀ q j : Nat, ((q = 39 ∧ j = 3) ∨ (q = 39 ∧ j = 4)) ∨ Iₚ q j = I q j) ∧ (∀ q j : Nat, (False) ∨ Jₚ q j = J q j) ∧ (∃ z : Int, r = some (.inl z) ∧ 0 ≤ z ∧ z ≤ 1 ∧ (z = 0 ∨ (I 23 7 = 1 ∧ 0 ≤ gc_fd (J (a1 + 1)) (J 23 9) (Int.toNat (Iₚ a1 1)))) ∧ (gs_Or z (gs_T β η p9 = 1 ∧ 0 ≤ gc_fd (J (a1 + 1)) (gs_M β η p9) (Int.toNat (I a1 1))) ((¬ gs_T β η p9 = 1 ∨ gc_fd (J (a1 + 1)) (gs_M β η p9) (Int.toNat (I a1 1)) < 0) ∧ Iₚ 39 4 = gs_A β η p9))))) htb rfl (Nat.le_of_ble_eq_true rfl) ?_
  have f2 := gz_hi ((gc_b_3_5 hI (gz_sh R_23)))
  have tAT := gc_AT_l x0
  refine gv_run 2 true hD (pcₚ := 2) (lvₚ := [(0, .inr (.inr (some 39))), (1, .inr (.inr (some a1)))]) (stₚ := [.inl 1, .inr (.inr (some 39))]) (hₚ := gc_h sh I J A) (C := ((True ∧ True) ∧ True)) rfl ⟨⟨trivial, trivial⟩, trivial⟩ ?_
  obtain ⟨r4, h4, E4, P4⟩ := d_X6_need_p (ws0 := ws0) (tb := tb) hws htb sh ro I J A hI  β η p9 1 hb   ⟨by (/-0-/first | omega | (simp only [gz_hd] at *; omega)), by (/-1-/first | omega | (simp only [gz_hd] at *; omega))⟩ x0 (by (/-2-/first | omega | (simp only [gz_hd] at *; omega))) 
  obtain ⟨I5, J6, rfl, hI5, g4, k4, ⟨z4, rfl, q4⟩⟩ := P4
  replace q4 := gz_hi q4
  have FI5 := gc_frc (W := fun q j => (q = 39 ∧ j = 3) ∨ (q = 39 ∧ j = 4)) (V := fun q j => (q = 39 ∧ j = 3) ∨ (q = 39 ∧ j = 4)) FI (fun q j h => (h.elim (fun h => (Or.inl h)) (fun h => (Or.inr h)))) g4
  have t7 := gz_hi ((g4 23 7).resolve_left (fun h => h.elim (fun h => absurd h.2 (by first | exact gz_ne rfl | decide)) (fun h => absurd h.2 (by first | exact gz_ne rfl | decide))))
  have t8 := gz_hi ((g4 23 5).resolve_left (fun h => h.elim (fun h => absurd h.2 (by first | exact gz_ne rfl | decide)) (fun h => absurd h.2 (by first | exact gz_ne rfl | decide))))
  obtain rfl : J = J6 := funext fun q => funext fun j => ((k4 q j).resolve_left id).symm
  have A10 := gc_AT_I x0 ((g4 23 1).resolve_left (fun h => h.elim (fun h => absurd h.2 (by first | exact gz_ne rfl | decide)) (fun h => absurd h.2 (by first | exact gz_ne rfl | decide)))) ((g4 23 5).resolve_left (fun h => h.elim (fun h => absurd h.2 (by first | exact gz_ne rfl | decide)) (fun h => absurd h.2 (by first | exact gz_ne rfl | decide)))) ((g4 23 6).resolve_left (fun h => h.elim (fun h => absurd h.2 (by first | exact gz_ne rfl | decide)) (fun h => absurd h.2 (by first | exact gz_ne rfl | decide)))) ((g4 23 7).resolve_left (fun h => h.elim (fun h => absurd h.2 (by first | exact gz_ne rfl | decide)) (fun h => absurd h.2 (by first | exact gz_ne rfl | decide)))) ((g4 23 8).resolve_left (fun h => h.elim (fun h => absurd h.2 (by first | exact gz_ne rfl | decide)) (fun h => absurd h.2 (by first | exact gz_ne rfl | decide)))) (fun k => (g4 24 k).resolve_left (fun h => h.elim (fun h => absurd h.1 (by first | exact gz_ne rfl | decide)) (fun h => absurd h.1 (by first | exact gz_ne rfl | decide))))
  refine gv_callV hD rfl (As := [.inl 1]) (st := []) rfl (gz_sh B_39) S_39 rfl (gc_lV6 hws rfl) (Nat.le_of_ble_eq_true rfl) (gz_Ev_mono (d := 2) (by decide) E4) ?_
  show gv_X _ _ (5, [(0, .inr (.inr (some 39))), (1, .inr (.inr (some a1)))], [.inl z4], sh, gc_h sh I5 J A)
  refine gv_if_eq (t := 41) hD rfl rfl ⟨by (/-3-/first | (have o1 := gz_sh q4; omega) | (simp only [gz_hd] at *; omega)), by (/-4-/first | (have o1 := gz_sh q4; omega) | (simp only [gz_hd] at *; omega))⟩ (fun c12 => ?_) (fun c12 => ?_)
  · show gv_X _ _ (41, [(0, .inr (.inr (some 39))), (1, .inr (.inr (some a1)))], [], sh, gc_h sh I5 J A)
    have u13 := gs_or0 (gz_sh q4).2.2.2 (by (/-5-/first | omega | (simp only [gz_hd] at *; omega)))
    refine gv_run 1 true hD (pcₚ := 42) (lvₚ := [(0, .inr (.inr (some 39))), (1, .inr (.inr (some a1)))]) (stₚ := [.inl 0]) (hₚ := gc_h sh I5 J A) (C := (True ∧ True)) rfl ⟨trivial, trivial⟩ ?_
    exact gv_zret hD rfl (by (/-6-/first | omega | (simp only [gz_hd] at *; omega))) ⟨I5, J, rfl, hI5, FI5, FJ, ⟨_, rfl, by (/-7-/first | omega | (simp only [gz_hd] at *; omega)), by (/-8-/first | omega | (simp only [gz_hd] at *; omega)), by (/-9-/first | omega | (simp only [gz_hd] at *; omega)), (Or.inr ⟨by (/-10-/first | omega | (simp only [gz_hd] at *; omega)), (Or.inl u13.1), by (/-11-/first | omega | (simp only [gz_hd] at *; omega))⟩)⟩⟩
  · show gv_X _ _ (8, [(0, .inr (.inr (some 39))), (1, .inr (.inr (some a1)))], [], sh, gc_h sh I5 J A)
    have u14 := gs_or1 (gz_sh q4).2.2.2 (by (/-12-/first | omega | (simp only [gz_hd] at *; omega)))
    refine gv_run 2 true hD (pcₚ := 10) (lvₚ := [(0, .inr (.inr (some 39))), (1, .inr (.inr (some a1)))]) (stₚ := [.inr (.inr (some 39)), .inr (.inr (some a1))]) (hₚ := gc_h sh I5 J A) (C := ((True ∧ True) ∧ True)) rfl ⟨⟨trivial, trivial⟩, trivial⟩ ?_
    refine gv_get hD rfl rfl S_39 ⟨by decide, (gz_sh B_39)⟩ (gc_hA S_39 rfl A_39_1) ?_
    show gv_X _ _ (13, [(0, .inr (.inr (some 39))), (1, .inr (.inr (some a1)))], [.inr (.inr (some 23)), .inr (.inr (some a1))], sh, gc_h sh I5 J A)
    refine gv_get hD rfl rfl S_23 ⟨by decide, (gz_sh B_23)⟩ (gc_hJ S_23 rfl) ?_
    show gv_X _ _ (16, [(0, .inr (.inr (some 39))), (1, .inr (.inr (some a1)))], [.inr (.inl (J 23 9)), .inr (.inr (some a1))], sh, gc_h sh I5 J A)
    obtain ⟨r15, h15, E15, P15⟩ := d_X4_find (ws0 := ws0) (tb := tb) hws htb sh ro I5 J A hI5 a1 n ρ (J 23 9) h_a1     
    obtain ⟨rfl, ⟨z15, rfl, q15⟩⟩ := P15
    replace q15 := gz_hi q15
    have t16 : z15 = gc_fd (J (a1 + 1)) (gs_M β η p9) (Int.toNat (I a1 1)) := (gz_sh q15).2.2.2.trans (by rw [gc_AT_m A10 (by (/-13-/first | omega | (simp only [gz_hd] at *; omega))), show I5 a1 1 = I a1 1 from (FI5 a1 1).resolve_left (by (/-14-/first | omega | (simp only [gz_hd] at *; omega)))])
    refine gv_callV hD rfl (As := [.inr (.inl (J 23 9))]) (st := []) rfl (gz_sh B_a1) S_a1 rfl (gc_lV6 hws rfl) (Nat.le_of_ble_eq_true rfl) (gz_Ev_mono (d := 1) (by decide) E15) ?_
    show gv_X _ _ (19, [(0, .inr (.inr (some 39))), (1, .inr (.inr (some a1)))], [.inl z15], sh, gc_h sh I5 J A)
    refine gv_if_ge (t := 37) hD rfl rfl ⟨by (/-15-/first | (have o1 := gz_sh q15; omega) | (simp only [gz_hd] at *; omega)), by (/-16-/first | (have o1 := gz_sh q15; omega) | (simp only [gz_hd] at *; omega))⟩ (fun c17 => ?_) (fun c17 => ?_)
    · show gv_X _ _ (37, [(0, .inr (.inr (some 39))), (1, .inr (.inr (some a1)))], [], sh, gc_h sh I5 J A)
      refine gv_run 2 true hD (pcₚ := 42) (lvₚ := [(0, .inr (.inr (some 39))), (1, .inr (.inr (some a1)))]) (stₚ := [.inl 1]) (hₚ := gc_h sh I5 J A) (C := ((True ∧ True) ∧ True)) rfl ⟨⟨trivial, trivial⟩, trivial⟩ ?_
      exact gv_zret hD rfl (by (/-17-/first | omega | (simp only [gz_hd] at *; omega))) ⟨I5, J, rfl, hI5, FI5, FJ, ⟨_, rfl, by (/-18-/first | omega | (simp only [gz_hd] at *; omega)), by (/-19-/first | omega | (simp only [gz_hd] at *; omega)), by (/-20-/first | (have o1 := gz_sh q15; omega) | (simp only [gz_hd] at *; omega)), (Or.inl ⟨by (/-21-/first | omega | (simp only [gz_hd] at *; omega)), by (/-22-/first | omega | (simp only [gz_hd] at *; omega)), by (/-23-/first | omega | (simp only [gz_hd] at *; omega))⟩)⟩⟩
    · show gv_X _ _ (22, [(0, .inr (.inr (some 39))), (1, .inr (.inr (some a1)))], [], sh, gc_h sh I5 J A)
      refine gv_run 3 true hD (pcₚ := 25) (lvₚ := [(0, .inr (.inr (some 39))), (1, .inr (.inr (some a1)))]) (stₚ := [.inr (.inr (some 39)), .inl 5, .inr (.inr (some 39))]) (hₚ := gc_h sh I5 J A) (C := (((True ∧ True) ∧ True) ∧ True)) rfl ⟨⟨⟨trivial, trivial⟩, trivial⟩, trivial⟩ ?_
      refine gv_get hD rfl rfl S_39 ⟨by decide, (gz_sh B_39)⟩ (gc_hA S_39 rfl A_39_1) ?_
      show gv_X _ _ (28, [(0, .inr (.inr (some 39))), (1, .inr (.inr (some a1)))], [.inr (.inr (some 23)), .inl 5, .inr (.inr (some 39))], sh, gc_h sh I5 J A)
      refine gv_get hD rfl rfl S_23 ⟨by decide, (gz_sh B_23)⟩ (gc_hI S_23 rfl) ?_
      show gv_X _ _ (31, [(0, .inr (.inr (some 39))), (1, .inr (.inr (some a1)))], [.inl (I5 23 5), .inl 5, .inr (.inr (some 39))], sh, gc_h sh I5 J A)
      obtain ⟨r19, h19, E19, P19⟩ := d_X6_wrong_p (ws0 := ws0) (tb := tb) hws htb sh ro I5 J A hI5  5 (I5 23 5) hb   ⟨by (/-24-/first | omega | (simp only [gz_hd] at *; omega)), by (/-25-/first | omega | (simp only [gz_hd] at *; omega))⟩ ⟨by (/-26-/first | (have o1 := gz_sh f2; have o2 := gz_sh t8; omega) | (simp only [gz_hd] at *; omega)), by (/-27-/first | (have o1 := gz_sh f2; have o2 := gz_sh t8; omega) | (simp only [gz_hd] at *; omega))⟩  
      obtain ⟨I20, J21, rfl, hI20, g19, k19, ⟨z19, rfl, q19⟩⟩ := P19
      replace q19 := gz_hi q19
      have FI20 := gc_frc (W := fun q j => (q = 39 ∧ j = 3) ∨ (q = 39 ∧ j = 4)) (V := fun q j => (q = 39 ∧ j = 3) ∨ (q = 39 ∧ j = 4)) FI5 (fun q j h => (h.elim (fun h => (Or.inl h)) (fun h => (Or.inr h)))) g19
      obtain rfl : J = J21 := funext fun q => funext fun j => ((k19 q j).resolve_left id).symm
      have A25 := gc_AT_I A10 ((g19 23 1).resolve_left (fun h => h.elim (fun h => absurd h.2 (by first | exact gz_ne rfl | decide)) (fun h => absurd h.2 (by first | exact gz_ne rfl | decide)))) ((g19 23 5).resolve_left (fun h => h.elim (fun h => absurd h.2 (by first | exact gz_ne rfl | decide)) (fun h => absurd h.2 (by first | exact gz_ne rfl | decide)))) ((g19 23 6).resolve_left (fun h => h.elim (fun h => absurd h.2 (by first | exact gz_ne rfl | decide)) (fun h => absurd h.2 (by first | exact gz_ne rfl | decide)))) ((g19 23 7).resolve_left (fun h => h.elim (fun h => absurd h.2 (by first | exact gz_ne rfl | decide)) (fun h => absurd h.2 (by first | exact gz_ne rfl | decide)))) ((g19 23 8).resolve_left (fun h => h.elim (fun h => absurd h.2 (by first | exact gz_ne rfl | decide)) (fun h => absurd h.2 (by first | exact gz_ne rfl | decide)))) (fun k => (g19 24 k).resolve_left (fun h => h.elim (fun h => absurd h.1 (by first | exact gz_ne rfl | decide)) (fun h => absurd h.1 (by first | exact gz_ne rfl | decide))))
      refine gv_callV hD rfl (As := [.inl 5, .inl (I5 23 5)]) (st := []) rfl (gz_sh B_39) S_39 rfl (gc_lV6 hws rfl) (Nat.le_of_ble_eq_true rfl) (gz_Ev_mono (d := 1) (by decide) E19) ?_
      show gv_X _ _ (34, [(0, .inr (.inr (some 39))), (1, .inr (.inr (some a1)))], [.inl z19], sh, gc_h sh I20 J A)
      refine gv_if_eq (t := 41) hD rfl rfl ⟨by (/-28-/first | (have o1 := gz_sh q19; omega) | (simp only [gz_hd] at *; omega)), by (/-29-/first | (have o1 := gz_sh q19; omega) | (simp only [gz_hd] at *; omega))⟩ (fun c27 => ?_) (fun c27 => ?_)
      · show gv_X _ _ (41, [(0, .inr (.inr (some 39))), (1, .inr (.inr (some a1)))], [], sh, gc_h sh I20 J A)
        refine gv_run 1 true hD (pcₚ := 42) (lvₚ := [(0, .inr (.inr (some 39))), (1, .inr (.inr (some a1)))]) (stₚ := [.inl 0]) (hₚ := gc_h sh I20 J A) (C := (True ∧ True)) rfl ⟨trivial, trivial⟩ ?_
        exact gv_zret hD rfl (by (/-30-/first | omega | (simp only [gz_hd] at *; omega))) ⟨I20, J, rfl, hI20, FI20, FJ, ⟨_, rfl, by (/-31-/first | omega | (simp only [gz_hd] at *; omega)), by (/-32-/first | omega | (simp only [gz_hd] at *; omega)), by (/-33-/first | omega | (simp only [gz_hd] at *; omega)), (Or.inr ⟨by (/-34-/first | omega | (simp only [gz_hd] at *; omega)), (Or.inr (by (/-35-/first | omega | (simp only [gz_hd] at *; omega)))), by (/-36-/first | (have o1 := gz_sh q19; have o2 := gz_sh t8; omega) | (simp only [gz_hd] at *; omega))⟩)⟩⟩
      · show gv_X _ _ (37, [(0, .inr (.inr (some 39))), (1, .inr (.inr (some a1)))], [], sh, gc_h sh I20 J A)
        refine gv_run 2 true hD (pcₚ := 42) (lvₚ := [(0, .inr (.inr (some 39))), (1, .inr (.inr (some a1)))]) (stₚ := [.inl 1]) (hₚ := gc_h sh I20 J A) (C := ((True ∧ True) ∧ True)) rfl ⟨⟨trivial, trivial⟩, trivial⟩ ?_
        exact gv_zret hD rfl (by (/-37-/first | omega | (simp only [gz_hd] at *; omega))) ⟨I20, J, rfl, hI20, FI20, FJ, ⟨_, rfl, by (/-38-/first | omega | (simp only [gz_hd] at *; omega)), by (/-39-/first | omega | (simp only [gz_hd] at *; omega)), by (/-40-/first | (have o1 := gz_sh q19; have o2 := gz_sh t7; omega) | (simp only [gz_hd] at *; omega)), (Or.inl ⟨by (/-41-/first | omega | (simp only [gz_hd] at *; omega)), by (/-42-/first | omega | (simp only [gz_hd] at *; omega)), by (/-43-/first | (have o1 := gz_sh q19; omega) | (simp only [gz_hd] at *; omega))⟩)⟩⟩
set_option maxHeartbeats 8000000 in
set_option maxRecDepth 100000 in
theorem d_X6_closes_p {ws0 : List Cond} {tb : String → gz_T} (hws : gc_Ws ws0) (htb : gc_tbs tb) (sh : gz_Sh) (ro : Nat → Nat) (I : gr_I) (J : gr_J) (A : gc_A) (hI : gc_Inv ro I) (β : Int → Int) (η : Int) (p9 : Int) (a1 : Int) (hb : gc_Base sh ro A) (ha1 : 0 ≤ a1 ∧ a1 ≤ 1) (x0 : gc_AT β η p9 23 I J) (x1 : 0 ≤ p9) (x2 : I 1 18 = 0) (KLT_I : gc_LT I) (KTK_I : gc_TK I) : ∃ r hₚ, gz_Ev ws0 tb 4 (yX6_closes, cX6_closes, 2, (some .boolean)) [.inr (.inr (some 39)), .inl a1] sh (gc_h sh I J A) r sh hₚ 0 0 ∧ (∃ (Iₚ : gr_I) (Jₚ : gr_J), hₚ = gc_h sh Iₚ Jₚ A ∧ gc_Inv ro Iₚ ∧ (∀ q j : Nat, ((q = 39 ∧ j = 3) ∨ (q = 39 ∧ j = 4) ∨ (q = 23 ∧ j = 5) ∨ (q = 23 ∧ j = 6) ∨ (q = 23 ∧ j = 7) ∨ (q = 23 ∧ j = 8)) ∨ Iₚ q j = I q j) ∧ (∀ q j : Nat, ((q = 23 ∧ j = 9)) ∨ Jₚ q j = J q j) ∧ gc_LT Iₚ ∧ gc_TK Iₚ ∧ (∃ z : Int, r = some (.inl z) ∧ 0 ≤ z ∧ z ≤ 1 ∧ (Iₚ 23 1 = I 23 1) ∧ (I 23 5 ≤ Iₚ 23 5) ∧ (z = 0 ∨ (a1 = 0 ∧ I 23 7 = 59 ∧ I 23 6 ≤ Iₚ 23 5)) ∧ (gs_Or z (0 ≤ (gs_done β η (if a1 = 0 then 1 else 0) (I 39 5) p9) ∧ gc_AT β η (gs_done β η (if a1 = 0 then 1 else 0) (I 39 5) p9) 23 Iₚ Jₚ) ((gs_done β η (if a1 = 0 then 1 else 0) (I 39 5) p9) < 0 ∧ Iₚ 39 4 = -1 - (gs_done β η (if a1 = 0 then 1 else 0) (I 39 5) p9))))) := by
  have FI : ∀ q j : Nat, ((q = 39 ∧ j = 3) ∨ (q = 39 ∧ j = 4) ∨ (q = 23 ∧ j = 5) ∨ (q = 23 ∧ j = 6) ∨ (q = 23 ∧ j = 7) ∨ (q = 23 ∧ j = 8)) ∨ I q j = I q j := fun _ _ => Or.inr rfl
  have FJ : ∀ q j : Nat, ((q = 23 ∧ j = 9)) ∨ J q j = J q j := fun _ _ => Or.inr rfl
  have A_39_0 : A 39 0 = some 1 := gc_bA_39_0 hb
  have B_1 := gz_hi (show 1 < 1000000 from by decide)
  have B_39 := gz_hi (show 39 < 1000000 from by decide)
  have R_1 := gz_hi (show ro 1 = 22 from gc_bR_1 hb)
  have R_23 := gz_hi (show ro 23 = 3 from gc_bR_23 hb)
  have R_39 := gz_hi (show ro 39 = 42 from gc_bR_39 hb)
  have S_1 : sh[1]? = some (false, 8, 21) := gc_bS_1 hb
  have S_39 : sh[39]? = some (false, 6, 19) := gc_bS_39 hb
  have hD : gv_D (gc_E6 ws0 tb 3 (yX6_closes, cX6_closes, 2, (some .boolean)) kX6_closes) := gq_of oX6_closes
  refine gc_ev6 (d := 3) (l := kX6_closes) (Po := fun r hₚ => (∃ (Iₚ : gr_I) (Jₚ : gr_J), hₚ = gc_h sh Iₚ Jₚ A ∧ gc_Inv ro Iₚ ∧ (∀ q j : Nat, ((q = 39 ∧ j = 3) ∨ (q = 39 ∧ j = 4) ∨ (q = 23 ∧ j = 5) ∨ (q = 23 ∧ j = 6) ∨ (q = 23 ∧ j = 7) ∨ (q = 23 ∧ j = 8)) ∨ Iₚ q j = I q j) ∧ (∀ q j : Nat, ((q = 23 ∧ j = 9)) ∨ Jₚ q j = J q j) ∧ gc_LT Iₚ ∧ gc_TK Iₚ ∧ (∃ z : Int, r = some (.inl z) ∧ 0 ≤ z ∧ z ≤ 1 ∧ (Iₚ 23 1 = I 23 1) ∧ (I 23 5 ≤ Iₚ 23 5) ∧ (z = 0 ∨ (a1 = 0 ∧ I 23 7 = 59 ∧ I 23 6 ≤ Iₚ 23 5)) ∧ (gs_Or z (0 ≤ (gs_done β η (if a1 = 0 then 1 else 0) (I 39 5) p9) ∧ gc_AT β η (gs_done β η (if a1 = 0 then 1 else 0) (I 39 5) p9) 23 Iₚ Jₚ) ((gs_done β η (if a1 = 0 then 1 else 0) (I 39 5) p9) < 0 ∧ Iₚ 39 4 = -1 - (gs_done β η (if a1 = 0 then 1 else 0) (I 39 5) p9)))))) htb rfl (Nat.le_of_ble_eq_true rfl) ?_
  have f3 := gz_hi ((gc_b_3_5 hI (gz_sh R_23)))
  have f4 := gz_hi ((gc_b_3_6 hI (gz_sh R_23)))
  have f5 := gz_hi ((gc_b_3_7 hI (gz_sh R_23)))
  have f6 := gz_hi ((gc_b_42_5 hI (gz_sh R_39)))
  have tAT := gc_AT_l x0
  refine gv_run 2 true hD (pcₚ := 3) (lvₚ := [(0, .inr (.inr (some 39))), (1, .inl a1)]) (stₚ := [.inl 59, .inr (.inr (some 39))]) (hₚ := gc_h sh I J A) (C := ((True ∧ True) ∧ True)) rfl ⟨⟨trivial, trivial⟩, trivial⟩ ?_
  obtain ⟨r8, h8, E8, P8⟩ := d_X6_take_p (ws0 := ws0) (tb := tb) hws htb sh ro I J A hI  β η p9 59 hb   ⟨by (/-0-/first | omega | (simp only [gz_hd] at *; omega)), by (/-1-/first | omega | (simp only [gz_hd] at *; omega))⟩ (by (/-2-/first | omega | (simp only [gz_hd] at *; omega))) x0 (by (/-3-/first | omega | (simp only [gz_hd] at *; omega))) KLT_I KTK_I
  obtain ⟨I9, J10, rfl, hI9, g8, k8, KLT_I9, KTK_I9, ⟨z8, rfl, q8⟩⟩ := P8
  replace q8 := gz_hi q8
  have FI9 := gc_frc (W := fun q j => (q = 39 ∧ j = 3) ∨ (q = 39 ∧ j = 4) ∨ (q = 23 ∧ j = 5) ∨ (q = 23 ∧ j = 6) ∨ (q = 23 ∧ j = 7) ∨ (q = 23 ∧ j = 8)) (V := fun q j => (q = 39 ∧ j = 3) ∨ (q = 39 ∧ j = 4) ∨ (q = 23 ∧ j = 5) ∨ (q = 23 ∧ j = 6) ∨ (q = 23 ∧ j = 7) ∨ (q = 23 ∧ j = 8)) FI (fun q j h => (h.elim (fun h => (Or.inl h)) (fun h => (h.elim (fun h => (Or.inr (Or.inl h))) (fun h => (h.elim (fun h => (Or.inr (Or.inr (Or.inl h)))) (fun h => (h.elim (fun h => (Or.inr (Or.inr (Or.inr (Or.inl h))))) (fun h => (h.elim (fun h => (Or.inr (Or.inr (Or.inr (Or.inr (Or.inl h)))))) (fun h => (Or.inr (Or.inr (Or.inr (Or.inr (Or.inr h)))))))))))))))) g8
  have FJ10 := gc_frc (W := fun q j => (q = 23 ∧ j = 9)) (V := fun q j => (q = 23 ∧ j = 9)) FJ (fun q j h => h) k8
  have t11 := gz_hi ((g8 23 1).resolve_left (fun h => h.elim (fun h => absurd h.2 (by first | exact gz_ne rfl | decide)) (fun h => h.elim (fun h => absurd h.2 (by first | exact gz_ne rfl | decide)) (fun h => h.elim (fun h => absurd h.2 (by first | exact gz_ne rfl | decide)) (fun h => h.elim (fun h => absurd h.2 (by first | exact gz_ne rfl | decide)) (fun h => h.elim (fun h => absurd h.2 (by first | exact gz_ne rfl | decide)) (fun h => absurd h.2 (by first | exact gz_ne rfl | decide))))))))
  have t12 := gz_hi ((g8 39 5).resolve_left (fun h => h.elim (fun h => absurd h.2 (by first | exact gz_ne rfl | decide)) (fun h => h.elim (fun h => absurd h.2 (by first | exact gz_ne rfl | decide)) (fun h => h.elim (fun h => absurd h.1 (by first | exact gz_ne rfl | decide)) (fun h => h.elim (fun h => absurd h.2 (by first | exact gz_ne rfl | decide)) (fun h => h.elim (fun h => absurd h.2 (by first | exact gz_ne rfl | decide)) (fun h => absurd h.2 (by first | exact gz_ne rfl | decide))))))))
  have t13 := gz_hi ((g8 1 18).resolve_left (fun h => h.elim (fun h => absurd h.2 (by first | exact gz_ne rfl | decide)) (fun h => h.elim (fun h => absurd h.2 (by first | exact gz_ne rfl | decide)) (fun h => h.elim (fun h => absurd h.2 (by first | exact gz_ne rfl | decide)) (fun h => h.elim (fun h => absurd h.2 (by first | exact gz_ne rfl | decide)) (fun h => h.elim (fun h => absurd h.2 (by first | exact gz_ne rfl | decide)) (fun h => absurd h.2 (by first | exact gz_ne rfl | decide))))))))
  refine gv_callV hD rfl (As := [.inl 59]) (st := []) rfl (gz_sh B_39) S_39 rfl (gc_lV6 hws rfl) (Nat.le_of_ble_eq_true rfl) (gz_Ev_mono (d := 3) (by decide) E8) ?_
  show gv_X _ _ (6, [(0, .inr (.inr (some 39))), (1, .inl a1)], [.inl z8], sh, gc_h sh I9 J10 A)
  refine gv_if_ne (t := 11) hD rfl rfl ⟨by (/-4-/first | (have o1 := gz_sh q8; omega) | (simp only [gz_hd] at *; omega)), by (/-5-/first | (have o1 := gz_sh q8; omega) | (simp only [gz_hd] at *; omega))⟩ (fun c18 => ?_) (fun c18 => ?_)
  · show gv_X _ _ (11, [(0, .inr (.inr (some 39))), (1, .inl a1)], [], sh, gc_h sh I9 J10 A)
    obtain ⟨u19, A19⟩ := gs_or1 (gz_sh q8).2.2.2.2.2 (by (/-6-/first | omega | (simp only [gz_hd] at *; omega)))
    have t20 := gz_hi (gc_AT_l A19)
    refine gv_run 1 true hD (pcₚ := 12) (lvₚ := [(0, .inr (.inr (some 39))), (1, .inl a1)]) (stₚ := [.inl a1]) (hₚ := gc_h sh I9 J10 A) (C := (True ∧ True)) rfl ⟨trivial, trivial⟩ ?_
    refine gv_if_ne (t := 25) hD rfl rfl ⟨by (/-7-/first | omega | (simp only [gz_hd] at *; omega)), by (/-8-/first | omega | (simp only [gz_hd] at *; omega))⟩ (fun c21 => ?_) (fun c21 => ?_)
    · show gv_X _ _ (25, [(0, .inr (.inr (some 39))), (1, .inl a1)], [], sh, gc_h sh I9 J10 A)
      refine gv_run 3 true hD (pcₚ := 28) (lvₚ := [(0, .inr (.inr (some 39))), (1, .inl a1)]) (stₚ := [.inr (.inr (some 39)), .inl 2, .inr (.inr (some 39))]) (hₚ := gc_h sh I9 J10 A) (C := (((True ∧ True) ∧ True) ∧ True)) rfl ⟨⟨⟨trivial, trivial⟩, trivial⟩, trivial⟩ ?_
      refine gv_get hD rfl rfl S_39 ⟨by decide, (gz_sh B_39)⟩ (gc_hI S_39 rfl) ?_
      show gv_X _ _ (31, [(0, .inr (.inr (some 39))), (1, .inl a1)], [.inl (I9 39 5), .inl 2, .inr (.inr (some 39))], sh, gc_h sh I9 J10 A)
      obtain ⟨r23, h23, E23, P23⟩ := d_X6_wrong_p (ws0 := ws0) (tb := tb) hws htb sh ro I9 J10 A hI9  2 (I9 39 5) hb   ⟨by (/-9-/first | omega | (simp only [gz_hd] at *; omega)), by (/-10-/first | omega | (simp only [gz_hd] at *; omega))⟩ ⟨by (/-11-/first | (have o1 := gz_sh f6; have o2 := gz_sh t12; omega) | (simp only [gz_hd] at *; omega)), by (/-12-/first | (have o1 := gz_sh f6; have o2 := gz_sh t12; omega) | (simp only [gz_hd] at *; omega))⟩  
      obtain ⟨I24, J25, rfl, hI24, g23, k23, ⟨z23, rfl, q23⟩⟩ := P23
      replace q23 := gz_hi q23
      have FI24 := gc_frc (W := fun q j => (q = 39 ∧ j = 3) ∨ (q = 39 ∧ j = 4) ∨ (q = 23 ∧ j = 5) ∨ (q = 23 ∧ j = 6) ∨ (q = 23 ∧ j = 7) ∨ (q = 23 ∧ j = 8)) (V := fun q j => (q = 39 ∧ j = 3) ∨ (q = 39 ∧ j = 4)) FI9 (fun q j h => (h.elim (fun h => (Or.inl h)) (fun h => (Or.inr (Or.inl h))))) g23
      have t26 := gz_hi ((g23 23 1).resolve_left (fun h => h.elim (fun h => absurd h.2 (by first | exact gz_ne rfl | decide)) (fun h => absurd h.2 (by first | exact gz_ne rfl | decide))))
      have t27 := gz_hi ((g23 23 5).resolve_left (fun h => h.elim (fun h => absurd h.2 (by first | exact gz_ne rfl | decide)) (fun h => absurd h.2 (by first | exact gz_ne rfl | decide))))
      have t30 := gz_hi ((g23 39 5).resolve_left (fun h => h.elim (fun h => absurd h.2 (by first | exact gz_ne rfl | decide)) (fun h => absurd h.2 (by first | exact gz_ne rfl | decide))))
      obtain rfl : J10 = J25 := funext fun q => funext fun j => ((k23 q j).resolve_left id).symm
      have KLT_I24 := gc_LT_fr KLT_I9 ((g23 23 5).resolve_left (fun h => h.elim (fun h => absurd h.2 (by first | exact gz_ne rfl | decide)) (fun h => absurd h.2 (by first | exact gz_ne rfl | decide)))) ((g23 23 6).resolve_left (fun h => h.elim (fun h => absurd h.2 (by first | exact gz_ne rfl | decide)) (fun h => absurd h.2 (by first | exact gz_ne rfl | decide)))) ((g23 23 7).resolve_left (fun h => h.elim (fun h => absurd h.2 (by first | exact gz_ne rfl | decide)) (fun h => absurd h.2 (by first | exact gz_ne rfl | decide)))) (fun k => (g23 24 k).resolve_left (fun h => h.elim (fun h => absurd h.1 (by first | exact gz_ne rfl | decide)) (fun h => absurd h.1 (by first | exact gz_ne rfl | decide))))
      have KTK_I24 := gc_TK_fr KTK_I9 ((g23 23 1).resolve_left (fun h => h.elim (fun h => absurd h.2 (by first | exact gz_ne rfl | decide)) (fun h => absurd h.2 (by first | exact gz_ne rfl | decide)))) ((g23 23 5).resolve_left (fun h => h.elim (fun h => absurd h.2 (by first | exact gz_ne rfl | decide)) (fun h => absurd h.2 (by first | exact gz_ne rfl | decide)))) ((g23 23 6).resolve_left (fun h => h.elim (fun h => absurd h.2 (by first | exact gz_ne rfl | decide)) (fun h => absurd h.2 (by first | exact gz_ne rfl | decide)))) ((g23 23 7).resolve_left (fun h => h.elim (fun h => absurd h.2 (by first | exact gz_ne rfl | decide)) (fun h => absurd h.2 (by first | exact gz_ne rfl | decide))))
      have A32 := gc_AT_I A19 ((g23 23 1).resolve_left (fun h => h.elim (fun h => absurd h.2 (by first | exact gz_ne rfl | decide)) (fun h => absurd h.2 (by first | exact gz_ne rfl | decide)))) ((g23 23 5).resolve_left (fun h => h.elim (fun h => absurd h.2 (by first | exact gz_ne rfl | decide)) (fun h => absurd h.2 (by first | exact gz_ne rfl | decide)))) ((g23 23 6).resolve_left (fun h => h.elim (fun h => absurd h.2 (by first | exact gz_ne rfl | decide)) (fun h => absurd h.2 (by first | exact gz_ne rfl | decide)))) ((g23 23 7).resolve_left (fun h => h.elim (fun h => absurd h.2 (by first | exact gz_ne rfl | decide)) (fun h => absurd h.2 (by first | exact gz_ne rfl | decide)))) ((g23 23 8).resolve_left (fun h => h.elim (fun h => absurd h.2 (by first | exact gz_ne rfl | decide)) (fun h => absurd h.2 (by first | exact gz_ne rfl | decide)))) (fun k => (g23 24 k).resolve_left (fun h => h.elim (fun h => absurd h.1 (by first | exact gz_ne rfl | decide)) (fun h => absurd h.1 (by first | exact gz_ne rfl | decide))))
      refine gv_callV hD rfl (As := [.inl 2, .inl (I9 39 5)]) (st := []) rfl (gz_sh B_39) S_39 rfl (gc_lV6 hws rfl) (Nat.le_of_ble_eq_true rfl) (gz_Ev_mono (d := 1) (by decide) E23) ?_
      show gv_X _ _ (34, [(0, .inr (.inr (some 39))), (1, .inl a1)], [.inl z23], sh, gc_h sh I24 J10 A)
      refine gv_if_eq (t := 41) hD rfl rfl ⟨by (/-13-/first | (have o1 := gz_sh q23; omega) | (simp only [gz_hd] at *; omega)), by (/-14-/first | (have o1 := gz_sh q23; omega) | (simp only [gz_hd] at *; omega))⟩ (fun c34 => ?_) (fun c34 => ?_)
      · show gv_X _ _ (41, [(0, .inr (.inr (some 39))), (1, .inl a1)], [], sh, gc_h sh I24 J10 A)
        refine gv_run 1 true hD (pcₚ := 42) (lvₚ := [(0, .inr (.inr (some 39))), (1, .inl a1)]) (stₚ := [.inl 0]) (hₚ := gc_h sh I24 J10 A) (C := (True ∧ True)) rfl ⟨trivial, trivial⟩ ?_
        exact gv_zret hD rfl (by (/-15-/first | omega | (simp only [gz_hd] at *; omega))) ⟨I24, J10, rfl, hI24, FI24, FJ10, KLT_I24, KTK_I24, ⟨_, rfl, by (/-16-/first | omega | (simp only [gz_hd] at *; omega)), by (/-17-/first | omega | (simp only [gz_hd] at *; omega)), by (/-18-/first | (have o1 := gz_sh q8; have o2 := gz_sh t26; omega) | (simp only [gz_hd] at *; omega)), by (/-19-/first | (have o1 := gz_sh q8; have o2 := gz_sh t27; omega) | (simp only [gz_hd] at *; omega)), by (/-20-/first | omega | (simp only [gz_hd] at *; omega)), (Or.inr ⟨by (/-21-/first | omega | (simp only [gz_hd] at *; omega)), by first | (exfalso; (/-22-/first | omega | (simp only [gz_hd] at *; omega))) | (unfold gs_done; (repeat first | rw [if_pos (by (/-23-/first | omega | (simp only [gz_hd] at *; omega)))] | rw [if_neg (by (/-24-/first | omega | (simp only [gz_hd] at *; omega)))]); exact ⟨by (/-25-/first | (have o1 := gz_sh f6; omega) | (simp only [gz_hd] at *; omega)), by (/-26-/first | (have o1 := gz_sh q23; have o2 := gz_sh t12; omega) | (simp only [gz_hd] at *; omega))⟩) | (have h9 := gs_need_z (β := β) (N := η) (c := 59) (p := p9) (by (/-27-/first | omega | (simp only [gz_hd] at *; omega))) (by (/-28-/first | omega | (simp only [gz_hd] at *; omega))); unfold gs_done; (repeat first | rw [if_pos (by (/-29-/first | omega | (simp only [gz_hd] at *; omega)))] | rw [if_neg (by (/-30-/first | omega | (simp only [gz_hd] at *; omega)))]); exact ⟨by (/-31-/first | omega | (simp only [gz_hd] at *; omega)), by (/-32-/first | omega | (simp only [gz_hd] at *; omega))⟩)⟩)⟩⟩
      · show gv_X _ _ (37, [(0, .inr (.inr (some 39))), (1, .inl a1)], [], sh, gc_h sh I24 J10 A)
        refine gv_run 2 true hD (pcₚ := 42) (lvₚ := [(0, .inr (.inr (some 39))), (1, .inl a1)]) (stₚ := [.inl 1]) (hₚ := gc_h sh I24 J10 A) (C := ((True ∧ True) ∧ True)) rfl ⟨⟨trivial, trivial⟩, trivial⟩ ?_
        exact gv_zret hD rfl (by (/-33-/first | omega | (simp only [gz_hd] at *; omega))) ⟨I24, J10, rfl, hI24, FI24, FJ10, KLT_I24, KTK_I24, ⟨_, rfl, by (/-34-/first | omega | (simp only [gz_hd] at *; omega)), by (/-35-/first | omega | (simp only [gz_hd] at *; omega)), by (/-36-/first | (have o1 := gz_sh q8; have o2 := gz_sh t26; omega) | (simp only [gz_hd] at *; omega)), by (/-37-/first | (have o1 := gz_sh q8; have o2 := gz_sh t27; omega) | (simp only [gz_hd] at *; omega)), by (/-38-/first | (have o1 := gz_sh q23; omega) | (simp only [gz_hd] at *; omega)), (Or.inl ⟨by (/-39-/first | omega | (simp only [gz_hd] at *; omega)), by first | (exfalso; (/-40-/first | (have o1 := gz_sh q23; omega) | (simp only [gz_hd] at *; omega))) | (have e9 : (gs_done β η (if a1 = 0 then 1 else 0) (I 39 5) p9) = (gs_need β η 59 p9) := (by unfold gs_done gs_need; (repeat first | rw [if_pos (by (/-41-/first | omega | (simp only [gz_hd] at *; omega)))] | rw [if_neg (by (/-42-/first | omega | (simp only [gz_hd] at *; omega)))])); rw [e9]; exact ⟨by (/-43-/first | omega | (simp only [gz_hd] at *; omega)), A32⟩)⟩)⟩⟩
    · show gv_X _ _ (15, [(0, .inr (.inr (some 39))), (1, .inl a1)], [], sh, gc_h sh I9 J10 A)
      refine gv_run 1 true hD (pcₚ := 16) (lvₚ := [(0, .inr (.inr (some 39))), (1, .inl a1)]) (stₚ := [.inr (.inr (some 39))]) (hₚ := gc_h sh I9 J10 A) (C := (True ∧ True)) rfl ⟨trivial, trivial⟩ ?_
      refine gv_get hD rfl rfl S_39 ⟨by decide, (gz_sh B_39)⟩ (gc_hA S_39 rfl A_39_0) ?_
      show gv_X _ _ (19, [(0, .inr (.inr (some 39))), (1, .inl a1)], [.inr (.inr (some 1))], sh, gc_h sh I9 J10 A)
      refine gv_get hD rfl rfl S_1 ⟨by decide, (gz_sh B_1)⟩ (gc_hI S_1 rfl) ?_
      show gv_X _ _ (22, [(0, .inr (.inr (some 39))), (1, .inl a1)], [.inl (I9 1 18)], sh, gc_h sh I9 J10 A)
      refine gv_if_eq (t := 37) hD rfl rfl ⟨by (/-44-/first | (have o1 := gz_sh t13; omega) | (simp only [gz_hd] at *; omega)), by (/-45-/first | (have o1 := gz_sh t13; omega) | (simp only [gz_hd] at *; omega))⟩ (fun c36 => ?_) (fun c36 => ?_)
      · show gv_X _ _ (37, [(0, .inr (.inr (some 39))), (1, .inl a1)], [], sh, gc_h sh I9 J10 A)
        refine gv_run 2 true hD (pcₚ := 42) (lvₚ := [(0, .inr (.inr (some 39))), (1, .inl a1)]) (stₚ := [.inl 1]) (hₚ := gc_h sh I9 J10 A) (C := ((True ∧ True) ∧ True)) rfl ⟨⟨trivial, trivial⟩, trivial⟩ ?_
        exact gv_zret hD rfl (by (/-46-/first | omega | (simp only [gz_hd] at *; omega))) ⟨I9, J10, rfl, hI9, FI9, FJ10, KLT_I9, KTK_I9, ⟨_, rfl, by (/-47-/first | omega | (simp only [gz_hd] at *; omega)), by (/-48-/first | omega | (simp only [gz_hd] at *; omega)), by (/-49-/first | (have o1 := gz_sh t11; omega) | (simp only [gz_hd] at *; omega)), by (/-50-/first | (have o1 := gz_sh q8; omega) | (simp only [gz_hd] at *; omega)), by (/-51-/first | (have o1 := gz_sh f5; have o2 := gz_sh q8; have o3 := gz_sh t20; omega) | (simp only [gz_hd] at *; omega)), (Or.inl ⟨by (/-52-/first | omega | (simp only [gz_hd] at *; omega)), by first | (exfalso; (/-53-/first | omega | (simp only [gz_hd] at *; omega))) | (have e9 : (gs_done β η (if a1 = 0 then 1 else 0) (I 39 5) p9) = (gs_need β η 59 p9) := (by unfold gs_done gs_need; (repeat first | rw [if_pos (by (/-54-/first | (have o1 := gz_sh f5; have o2 := gz_sh q8; omega) | (simp only [gz_hd] at *; omega)))] | rw [if_neg (by (/-55-/first | omega | (simp only [gz_hd] at *; omega)))])); rw [e9]; exact ⟨by (/-56-/first | omega | (simp only [gz_hd] at *; omega)), A19⟩)⟩)⟩⟩
      · show gv_X _ _ (25, [(0, .inr (.inr (some 39))), (1, .inl a1)], [], sh, gc_h sh I9 J10 A)
        refine gv_run 3 true hD (pcₚ := 28) (lvₚ := [(0, .inr (.inr (some 39))), (1, .inl a1)]) (stₚ := [.inr (.inr (some 39)), .inl 2, .inr (.inr (some 39))]) (hₚ := gc_h sh I9 J10 A) (C := (((True ∧ True) ∧ True) ∧ True)) rfl ⟨⟨⟨trivial, trivial⟩, trivial⟩, trivial⟩ ?_
        refine gv_get hD rfl rfl S_39 ⟨by decide, (gz_sh B_39)⟩ (gc_hI S_39 rfl) ?_
        show gv_X _ _ (31, [(0, .inr (.inr (some 39))), (1, .inl a1)], [.inl (I9 39 5), .inl 2, .inr (.inr (some 39))], sh, gc_h sh I9 J10 A)
        obtain ⟨r38, h38, E38, P38⟩ := d_X6_wrong_p (ws0 := ws0) (tb := tb) hws htb sh ro I9 J10 A hI9  2 (I9 39 5) hb   ⟨by (/-57-/first | omega | (simp only [gz_hd] at *; omega)), by (/-58-/first | omega | (simp only [gz_hd] at *; omega))⟩ ⟨by (/-59-/first | (have o1 := gz_sh f6; have o2 := gz_sh t12; omega) | (simp only [gz_hd] at *; omega)), by (/-60-/first | (have o1 := gz_sh f6; have o2 := gz_sh t12; omega) | (simp only [gz_hd] at *; omega))⟩  
        obtain ⟨I39, J40, rfl, hI39, g38, k38, ⟨z38, rfl, q38⟩⟩ := P38
        replace q38 := gz_hi q38
        have FI39 := gc_frc (W := fun q j => (q = 39 ∧ j = 3) ∨ (q = 39 ∧ j = 4) ∨ (q = 23 ∧ j = 5) ∨ (q = 23 ∧ j = 6) ∨ (q = 23 ∧ j = 7) ∨ (q = 23 ∧ j = 8)) (V := fun q j => (q = 39 ∧ j = 3) ∨ (q = 39 ∧ j = 4)) FI9 (fun q j h => (h.elim (fun h => (Or.inl h)) (fun h => (Or.inr (Or.inl h))))) g38
        have t41 := gz_hi ((g38 23 1).resolve_left (fun h => h.elim (fun h => absurd h.2 (by first | exact gz_ne rfl | decide)) (fun h => absurd h.2 (by first | exact gz_ne rfl | decide))))
        have t42 := gz_hi ((g38 23 5).resolve_left (fun h => h.elim (fun h => absurd h.2 (by first | exact gz_ne rfl | decide)) (fun h => absurd h.2 (by first | exact gz_ne rfl | decide))))
        obtain rfl : J10 = J40 := funext fun q => funext fun j => ((k38 q j).resolve_left id).symm
        have KLT_I39 := gc_LT_fr KLT_I9 ((g38 23 5).resolve_left (fun h => h.elim (fun h => absurd h.2 (by first | exact gz_ne rfl | decide)) (fun h => absurd h.2 (by first | exact gz_ne rfl | decide)))) ((g38 23 6).resolve_left (fun h => h.elim (fun h => absurd h.2 (by first | exact gz_ne rfl | decide)) (fun h => absurd h.2 (by first | exact gz_ne rfl | decide)))) ((g38 23 7).resolve_left (fun h => h.elim (fun h => absurd h.2 (by first | exact gz_ne rfl | decide)) (fun h => absurd h.2 (by first | exact gz_ne rfl | decide)))) (fun k => (g38 24 k).resolve_left (fun h => h.elim (fun h => absurd h.1 (by first | exact gz_ne rfl | decide)) (fun h => absurd h.1 (by first | exact gz_ne rfl | decide))))
        have KTK_I39 := gc_TK_fr KTK_I9 ((g38 23 1).resolve_left (fun h => h.elim (fun h => absurd h.2 (by first | exact gz_ne rfl | decide)) (fun h => absurd h.2 (by first | exact gz_ne rfl | decide)))) ((g38 23 5).resolve_left (fun h => h.elim (fun h => absurd h.2 (by first | exact gz_ne rfl | decide)) (fun h => absurd h.2 (by first | exact gz_ne rfl | decide)))) ((g38 23 6).resolve_left (fun h => h.elim (fun h => absurd h.2 (by first | exact gz_ne rfl | decide)) (fun h => absurd h.2 (by first | exact gz_ne rfl | decide)))) ((g38 23 7).resolve_left (fun h => h.elim (fun h => absurd h.2 (by first | exact gz_ne rfl | decide)) (fun h => absurd h.2 (by first | exact gz_ne rfl | decide))))
        have A47 := gc_AT_I A19 ((g38 23 1).resolve_left (fun h => h.elim (fun h => absurd h.2 (by first | exact gz_ne rfl | decide)) (fun h => absurd h.2 (by first | exact gz_ne rfl | decide)))) ((g38 23 5).resolve_left (fun h => h.elim (fun h => absurd h.2 (by first | exact gz_ne rfl | decide)) (fun h => absurd h.2 (by first | exact gz_ne rfl | decide)))) ((g38 23 6).resolve_left (fun h => h.elim (fun h => absurd h.2 (by first | exact gz_ne rfl | decide)) (fun h => absurd h.2 (by first | exact gz_ne rfl | decide)))) ((g38 23 7).resolve_left (fun h => h.elim (fun h => absurd h.2 (by first | exact gz_ne rfl | decide)) (fun h => absurd h.2 (by first | exact gz_ne rfl | decide)))) ((g38 23 8).resolve_left (fun h => h.elim (fun h => absurd h.2 (by first | exact gz_ne rfl | decide)) (fun h => absurd h.2 (by first | exact gz_ne rfl | decide)))) (fun k => (g38 24 k).resolve_left (fun h => h.elim (fun h => absurd h.1 (by first | exact gz_ne rfl | decide)) (fun h => absurd h.1 (by first | exact gz_ne rfl | decide))))
        refine gv_callV hD rfl (As := [.inl 2, .inl (I9 39 5)]) (st := []) rfl (gz_sh B_39) S_39 rfl (gc_lV6 hws rfl) (Nat.le_of_ble_eq_true rfl) (gz_Ev_mono (d := 1) (by decide) E38) ?_
        show gv_X _ _ (34, [(0, .inr (.inr (some 39))), (1, .inl a1)], [.inl z38], sh, gc_h sh I39 J10 A)
        refine gv_if_eq (t := 41) hD rfl rfl ⟨by (/-61-/first | (have o1 := gz_sh q38; omega) | (simp only [gz_hd] at *; omega)), by (/-62-/first | (have o1 := gz_sh q38; omega) | (simp only [gz_hd] at *; omega))⟩ (fun c49 => ?_) (fun c49 => ?_)
        · show gv_X _ _ (41, [(0, .inr (.inr (some 39))), (1, .inl a1)], [], sh, gc_h sh I39 J10 A)
          refine gv_run 1 true hD (pcₚ := 42) (lvₚ := [(0, .inr (.inr (some 39))), (1, .inl a1)]) (stₚ := [.inl 0]) (hₚ := gc_h sh I39 J10 A) (C := (True ∧ True)) rfl ⟨trivial, trivial⟩ ?_
          exact gv_zret hD rfl (by (/-63-/first | omega | (simp only [gz_hd] at *; omega))) ⟨I39, J10, rfl, hI39, FI39, FJ10, KLT_I39, KTK_I39, ⟨_, rfl, by (/-64-/first | omega | (simp only [gz_hd] at *; omega)), by (/-65-/first | omega | (simp only [gz_hd] at *; omega)), by (/-66-/first | (have o1 := gz_sh q8; have o2 := gz_sh t41; omega) | (simp only [gz_hd] at *; omega)), by (/-67-/first | (have o1 := gz_sh q8; have o2 := gz_sh t42; omega) | (simp only [gz_hd] at *; omega)), by (/-68-/first | omega | (simp only [gz_hd] at *; omega)), (Or.inr ⟨by (/-69-/first | omega | (simp only [gz_hd] at *; omega)), by first | (exfalso; (/-70-/first | (have o1 := gz_sh t13; omega) | (simp only [gz_hd] at *; omega))) | (unfold gs_done; (repeat first | rw [if_pos (by (/-71-/first | omega | (simp only [gz_hd] at *; omega)))] | rw [if_neg (by (/-72-/first | omega | (simp only [gz_hd] at *; omega)))]); exact ⟨by (/-73-/first | omega | (simp only [gz_hd] at *; omega)), by (/-74-/first | omega | (simp only [gz_hd] at *; omega))⟩) | (have h9 := gs_need_z (β := β) (N := η) (c := 59) (p := p9) (by (/-75-/first | omega | (simp only [gz_hd] at *; omega))) (by (/-76-/first | omega | (simp only [gz_hd] at *; omega))); unfold gs_done; (repeat first | rw [if_pos (by (/-77-/first | omega | (simp only [gz_hd] at *; omega)))] | rw [if_neg (by (/-78-/first | omega | (simp only [gz_hd] at *; omega)))]); exact ⟨by (/-79-/first | omega | (simp only [gz_hd] at *; omega)), by (/-80-/first | omega | (simp only [gz_hd] at *; omega))⟩)⟩)⟩⟩
        · show gv_X _ _ (37, [(0, .inr (.inr (some 39))), (1, .inl a1)], [], sh, gc_h sh I39 J10 A)
          refine gv_run 2 true hD (pcₚ := 42) (lvₚ := [(0, .inr (.inr (some 39))), (1, .inl a1)]) (stₚ := [.inl 1]) (hₚ := gc_h sh I39 J10 A) (C := ((True ∧ True) ∧ True)) rfl ⟨⟨trivial, trivial⟩, trivial⟩ ?_
          exact gv_zret hD rfl (by (/-81-/first | omega | (simp only [gz_hd] at *; omega))) ⟨I39, J10, rfl, hI39, FI39, FJ10, KLT_I39, KTK_I39, ⟨_, rfl, by (/-82-/first | omega | (simp only [gz_hd] at *; omega)), by (/-83-/first | omega | (simp only [gz_hd] at *; omega)), by (/-84-/first | (have o1 := gz_sh q8; have o2 := gz_sh t41; omega) | (simp only [gz_hd] at *; omega)), by (/-85-/first | (have o1 := gz_sh q8; have o2 := gz_sh t42; omega) | (simp only [gz_hd] at *; omega)), by (/-86-/first | (have o1 := gz_sh q38; omega) | (simp only [gz_hd] at *; omega)), (Or.inl ⟨by (/-87-/first | omega | (simp only [gz_hd] at *; omega)), by first | (exfalso; (/-88-/first | (have o1 := gz_sh q38; omega) | (simp only [gz_hd] at *; omega))) | (have e9 : (gs_done β η (if a1 = 0 then 1 else 0) (I 39 5) p9) = (gs_need β η 59 p9) := (by unfold gs_done gs_need; (repeat first | rw [if_pos (by (/-89-/first | omega | (simp only [gz_hd] at *; omega)))] | rw [if_neg (by (/-90-/first | omega | (simp only [gz_hd] at *; omega)))])); rw [e9]; exact ⟨by (/-91-/first | omega | (simp only [gz_hd] at *; omega)), A47⟩)⟩)⟩⟩
  · show gv_X _ _ (9, [(0, .inr (.inr (some 39))), (1, .inl a1)], [], sh, gc_h sh I9 J10 A)
    obtain ⟨u50, u50_⟩ := gs_or0 (gz_sh q8).2.2.2.2.2 (by (/-92-/first | omega | (simp only [gz_hd] at *; omega)))
    refine gv_run 1 true hD (pcₚ := 10) (lvₚ := [(0, .inr (.inr (some 39))), (1, .inl a1)]) (stₚ := [.inl 0]) (hₚ := gc_h sh I9 J10 A) (C := (True ∧ True)) rfl ⟨trivial, trivial⟩ ?_
    exact gv_zret hD rfl (by (/-93-/first | omega | (simp only [gz_hd] at *; omega))) ⟨I9, J10, rfl, hI9, FI9, FJ10, KLT_I9, KTK_I9, ⟨_, rfl, by (/-94-/first | omega | (simp only [gz_hd] at *; omega)), by (/-95-/first | omega | (simp only [gz_hd] at *; omega)), by (/-96-/first | (have o1 := gz_sh t11; omega) | (simp only [gz_hd] at *; omega)), by (/-97-/first | (have o1 := gz_sh q8; omega) | (simp only [gz_hd] at *; omega)), by (/-98-/first | omega | (simp only [gz_hd] at *; omega)), (Or.inr ⟨by (/-99-/first | omega | (simp only [gz_hd] at *; omega)), by first | (exfalso; (/-100-/first | omega | (simp only [gz_hd] at *; omega))) | (unfold gs_done; (repeat first | rw [if_pos (by (/-101-/first | omega | (simp only [gz_hd] at *; omega)))] | rw [if_neg (by (/-102-/first | omega | (simp only [gz_hd] at *; omega)))]); exact ⟨by (/-103-/first | omega | (simp only [gz_hd] at *; omega)), by (/-104-/first | omega | (simp only [gz_hd] at *; omega))⟩) | (have h9 := gs_need_z (β := β) (N := η) (c := 59) (p := p9) (by (/-105-/first | omega | (simp only [gz_hd] at *; omega))) (by (/-106-/first | (have o1 := gz_sh f4; omega) | (simp only [gz_hd] at *; omega))); unfold gs_done; (repeat first | rw [if_pos (by (/-107-/first | omega | (simp only [gz_hd] at *; omega)))] | rw [if_neg (by (/-108-/first | omega | (simp only [gz_hd] at *; omega)))]); exact ⟨by (/-109-/first | (have o1 := gz_sh f3; omega) | (simp only [gz_hd] at *; omega)), by (/-110-/first | omega | (simp only [gz_hd] at *; omega))⟩)⟩)⟩⟩
set_option maxHeartbeats 8000000 in
set_option maxRecDepth 100000 in
theorem d_X6_readCost_p {ws0 : List Cond} {tb : String → gz_T} (hws : gc_Ws ws0) (htb : gc_tbs tb) (sh : gz_Sh) (ro : Nat → Nat) (I : gr_I) (J : gr_J) (A : gc_A) (hI : gc_Inv ro I) (β : Int → Int) (η : Int) (p9 : Int)  (hb : gc_Base sh ro A)  (x0 : gc_AT β η p9 23 I J) (x1 : 0 ≤ p9) (KLT_I : gc_LT I) (KTK_I : gc_TK I) : ∃ r hₚ, gz_Ev ws0 tb 3 (yX6_readCost, cX6_readCost, 1, (some .boolean)) [.inr (.inr (some 39))] sh (gc_h sh I J A) r sh hₚ 0 0 ∧ (∃ (Iₚ : gr_I) (Jₚ : gr_J), hₚ = gc_h sh Iₚ Jₚ A ∧ gc_Inv ro Iₚ ∧ (∀ q j : Nat, ((q = 39 ∧ j = 3) ∨ (q = 39 ∧ j = 4) ∨ (q = 23 ∧ j = 5) ∨ (q = 23 ∧ j = 6) ∨ (q = 23 ∧ j = 7) ∨ (q = 23 ∧ j = 8) ∨ (q = 39 ∧ j = 7)) ∨ Iₚ q j = I q j) ∧ (∀ q j : Nat, ((q = 23 ∧ j = 9)) ∨ Jₚ q j = J q j) ∧ gc_LT Iₚ ∧ gc_TK Iₚ ∧ (∃ z : Int, r = some (.inl z) ∧ 0 ≤ z ∧ z ≤ 1 ∧ (Iₚ 23 1 = I 23 1) ∧ (I 23 5 ≤ Iₚ 23 5) ∧ (gs_Or z (0 ≤ (gs_cost β η p9) ∧ gc_AT β η (gs_cost β η p9) 23 Iₚ Jₚ ∧ Iₚ 39 7 = gs_prc β η p9) ((gs_cost β η p9) < 0 ∧ Iₚ 39 4 = -1 - (gs_cost β η p9))))) := by
  have FI : ∀ q j : Nat, ((q = 39 ∧ j = 3) ∨ (q = 39 ∧ j = 4) ∨ (q = 23 ∧ j = 5) ∨ (q = 23 ∧ j = 6) ∨ (q = 23 ∧ j = 7) ∨ (q = 23 ∧ j = 8) ∨ (q = 39 ∧ j = 7)) ∨ I q j = I q j := fun _ _ => Or.inr rfl
  have FJ : ∀ q j : Nat, ((q = 23 ∧ j = 9)) ∨ J q j = J q j := fun _ _ => Or.inr rfl
  have A_39_1 : A 39 1 = some 23 := gc_bA_39_1 hb
  have B_23 := gz_hi (show 23 < 1000000 from by decide)
  have B_39 := gz_hi (show 39 < 1000000 from by decide)
  have R_23 := gz_hi (show ro 23 = 3 from gc_bR_23 hb)
  have R_39 := gz_hi (show ro 39 = 42 from gc_bR_39 hb)
  have S_23 : sh[23]? = some (false, 9, 10) := gc_bS_23 hb
  have S_39 : sh[39]? = some (false, 6, 19) := gc_bS_39 hb
  have hD : gv_D (gc_E6 ws0 tb 2 (yX6_readCost, cX6_readCost, 1, (some .boolean)) kX6_readCost) := gq_of oX6_readCost
  refine gc_ev6 (d := 2) (l := kX6_readCost) (Po := fun r hₚ => (∃ (Iₚ : gr_I) (Jₚ : gr_J), hₚ = gc_h sh Iₚ Jₚ A ∧ gc_Inv ro Iₚ ∧ (∀ q j : Nat, ((q = 39 ∧ j = 3) ∨ (q = 39 ∧ j = 4) ∨ (q = 23 ∧ j = 5) ∨ (q = 23 ∧ j = 6) ∨ (q = 23 ∧ j = 7) ∨ (q = 23 ∧ j = 8) ∨ (q = 39 ∧ j = 7)) ∨ Iₚ q j = I q j) ∧ (∀ q j : Nat, ((q = 23 ∧ j = 9)) ∨ Jₚ q j = J q j) ∧ gc_LT Iₚ ∧ gc_TK Iₚ ∧ (∃ z : Int, r = some (.inl z) ∧ 0 ≤ z ∧ z ≤ 1 ∧ (Iₚ 23 1 = I 23 1) ∧ (I 23 5 ≤ Iₚ 23 5) ∧ (gs_Or z (0 ≤ (gs_cost β η p9) ∧ gc_AT β η (gs_cost β η p9) 23 Iₚ Jₚ ∧ Iₚ 39 7 = gs_prc β η p9) ((gs_cost β η p9) < 0 ∧ Iₚ 39 4 = -1 - (gs_cost β η p9)))))) htb rfl (Nat.le_of_ble_eq_true rfl) ?_
  have t1 := gz_hi (gc_TK_mo KTK_I)
  have f4 := gz_hi ((gc_b_3_6 hI (gz_sh R_23)))
  have tAT := gc_AT_l x0
  refine gv_run 2 true hD (pcₚ := 2) (lvₚ := [(0, .inr (.inr (some 39)))]) (stₚ := [.inl 0, .inr (.inr (some 39))]) (hₚ := gc_h sh I J A) (C := ((True ∧ True) ∧ True)) rfl ⟨⟨trivial, trivial⟩, trivial⟩ ?_
  refine gv_put hD rfl rfl S_39 ⟨by decide, (gz_sh B_39)⟩ rfl trivial ?_
  refine gc_st (k := 7) hI S_39 rfl (gz_sh R_39) (lo := 0) (hi := 10000) rfl rfl (by (/-0-/first | omega | (simp only [gz_hd] at *; omega))) (by (/-1-/first | omega | (simp only [gz_hd] at *; omega))) (fun I7 hI7 q8 p8 => ?_)
  have FI7 := gc_frs (W := fun q j => (q = 39 ∧ j = 3) ∨ (q = 39 ∧ j = 4) ∨ (q = 23 ∧ j = 5) ∨ (q = 23 ∧ j = 6) ∨ (q = 23 ∧ j = 7) ∨ (q = 23 ∧ j = 8) ∨ (q = 39 ∧ j = 7)) FI (Or.inr (Or.inr (Or.inr (Or.inr (Or.inr (Or.inr ⟨rfl, rfl⟩)))))) p8
  have t9 := gz_hi (p8 23 1 (fun h => absurd h.2 (by first | exact gz_ne rfl | decide)))
  have t10 := gz_hi (p8 23 5 (fun h => absurd h.2 (by first | exact gz_ne rfl | decide)))
  have t11 := gz_hi (p8 23 6 (fun h => absurd h.2 (by first | exact gz_ne rfl | decide)))
  have KLT_I7 := gc_LT_fr KLT_I (p8 23 5 (fun h => absurd h.2 (by first | exact gz_ne rfl | decide))) (p8 23 6 (fun h => absurd h.2 (by first | exact gz_ne rfl | decide))) (p8 23 7 (fun h => absurd h.1 (by first | exact gz_ne rfl | decide))) (fun k => p8 24 k (fun h => absurd h.1 (by first | exact gz_ne rfl | decide)))
  have KTK_I7 := gc_TK_fr KTK_I (p8 23 1 (fun h => absurd h.2 (by first | exact gz_ne rfl | decide))) (p8 23 5 (fun h => absurd h.2 (by first | exact gz_ne rfl | decide))) (p8 23 6 (fun h => absurd h.2 (by first | exact gz_ne rfl | decide))) (p8 23 7 (fun h => absurd h.1 (by first | exact gz_ne rfl | decide)))
  have A14 := gc_AT_I x0 (p8 23 1 (fun h => absurd h.2 (by first | exact gz_ne rfl | decide))) (p8 23 5 (fun h => absurd h.2 (by first | exact gz_ne rfl | decide))) (p8 23 6 (fun h => absurd h.2 (by first | exact gz_ne rfl | decide))) (p8 23 7 (fun h => absurd h.1 (by first | exact gz_ne rfl | decide))) (p8 23 8 (fun h => absurd h.2 (by first | exact gz_ne rfl | decide))) (fun k => p8 24 k (fun h => absurd h.1 (by first | exact gz_ne rfl | decide)))
  show gv_X _ _ (5, [(0, .inr (.inr (some 39)))], [], sh, gc_h sh I7 J A)
  refine gv_run 2 true hD (pcₚ := 9) (lvₚ := [(0, .inr (.inr (some 39)))]) (stₚ := [.inr (.inl (1668248436)), .inr (.inr (some 39))]) (hₚ := gc_h sh I7 J A) (C := ((True ∧ True) ∧ True)) rfl ⟨⟨trivial, trivial⟩, trivial⟩ ?_
  obtain ⟨r15, h15, E15, P15⟩ := d_X6_isWord_p (ws0 := ws0) (tb := tb) hws htb sh ro I7 J A hI7  β η p9 (1668248436) hb    A14 (by (/-2-/first | omega | (simp only [gz_hd] at *; omega))) 
  obtain ⟨rfl, ⟨z15, rfl, q15⟩⟩ := P15
  replace q15 := gz_hi q15
  have t16 : z15 = gs_kw β η p9 (gs_W 92) := (gz_sh q15).2.2.2.trans (gs_kwc_kw (gs_W_al 92 (by decide) (by decide)))
  refine gv_callV hD rfl (As := [.inr (.inl (1668248436))]) (st := []) rfl (gz_sh B_39) S_39 rfl (gc_lV6 hws rfl) (Nat.le_of_ble_eq_true rfl) (gz_Ev_mono (d := 1) (by decide) E15) ?_
  show gv_X _ _ (12, [(0, .inr (.inr (some 39)))], [.inl z15], sh, gc_h sh I7 J A)
  refine gv_if_ne (t := 17) hD rfl rfl ⟨by (/-3-/first | (have o1 := gz_sh q15; omega) | (simp only [gz_hd] at *; omega)), by (/-4-/first | (have o1 := gz_sh q15; omega) | (simp only [gz_hd] at *; omega))⟩ (fun c17 => ?_) (fun c17 => ?_)
  · show gv_X _ _ (17, [(0, .inr (.inr (some 39)))], [], sh, gc_h sh I7 J A)
    refine gv_run 1 true hD (pcₚ := 18) (lvₚ := [(0, .inr (.inr (some 39)))]) (stₚ := [.inr (.inr (some 39))]) (hₚ := gc_h sh I7 J A) (C := (True ∧ True)) rfl ⟨trivial, trivial⟩ ?_
    refine gv_get hD rfl rfl S_39 ⟨by decide, (gz_sh B_39)⟩ (gc_hA S_39 rfl A_39_1) ?_
    show gv_X _ _ (21, [(0, .inr (.inr (some 39)))], [.inr (.inr (some 23))], sh, gc_h sh I7 J A)
    have t19 := gz_hi (gc_TK_nx KTK_I7 (by (/-5-/first | (have o1 := gz_sh q15; omega) | (simp only [gz_hd] at *; omega))))
    obtain ⟨r18, h18, E18, P18⟩ := d_X9_advance_p (ws0 := ws0) (tb := tb) hws htb sh ro I7 J A hI7 23 β η  (gc_b23 hb)    (by (/-6-/first | (have o1 := gz_sh t19; omega) | (simp only [gz_hd] at *; omega))) A14.1.1 A14.1.2 
    obtain ⟨I20, J21, rfl, hI20, g18, k18, ⟨rfl, V18_0, V18_1, V18_2, V18_3, V18_4, q18⟩⟩ := P18
    replace q18 := gz_hi q18
    have FI20 := gc_frc (W := fun q j => (q = 39 ∧ j = 3) ∨ (q = 39 ∧ j = 4) ∨ (q = 23 ∧ j = 5) ∨ (q = 23 ∧ j = 6) ∨ (q = 23 ∧ j = 7) ∨ (q = 23 ∧ j = 8) ∨ (q = 39 ∧ j = 7)) (V := fun q j => (q = 23 ∧ j = 5) ∨ (q = 23 ∧ j = 6) ∨ (q = 23 ∧ j = 7) ∨ (q = 23 ∧ j = 8)) FI7 (fun q j h => (h.elim (fun h => (Or.inr (Or.inr (Or.inl h)))) (fun h => (h.elim (fun h => (Or.inr (Or.inr (Or.inr (Or.inl h))))) (fun h => (h.elim (fun h => (Or.inr (Or.inr (Or.inr (Or.inr (Or.inl h)))))) (fun h => (Or.inr (Or.inr (Or.inr (Or.inr (Or.inr (Or.inl h))))))))))))) g18
    have FJ21 := gc_frc (W := fun q j => (q = 23 ∧ j = 9)) (V := fun q j => (q = 23 ∧ j = 9)) FJ (fun q j h => h) k18
    have f24 := gz_hi ((gc_b_3_5 hI20 (gz_sh R_23)))
    have f25 := gz_hi ((gc_b_3_6 hI20 (gz_sh R_23)))
    have f26 := gz_hi ((gc_b_3_7 hI20 (gz_sh R_23)))
    have KLT_I20 : gc_LT I20 := (gz_sh q18).2.2.1
    have KTK_I20 : gc_TK I20 := And.intro V18_0 (And.intro V18_1 (And.intro V18_2 (And.intro V18_3 V18_4)))
    have t27 := gz_hi (gc_TK_mo KTK_I20)
    clear V18_0 V18_1 V18_2 V18_3 V18_4
    have A28 := gc_AT_nx A14 (gz_sh q18).2.2.2
    have t29 := gz_hi (gc_AT_l A28)
    refine gv_callV hD rfl (As := []) (st := []) rfl (gz_sh B_23) S_23 rfl (gc_lV6 hws rfl) (Nat.le_of_ble_eq_true rfl) (gz_Ev_mono (d := 2) (by decide) E18) ?_
    show gv_X _ _ (24, [(0, .inr (.inr (some 39)))], [], sh, gc_h sh I20 J21 A)
    refine gv_run 2 true hD (pcₚ := 26) (lvₚ := [(0, .inr (.inr (some 39)))]) (stₚ := [.inl 2, .inr (.inr (some 39))]) (hₚ := gc_h sh I20 J21 A) (C := ((True ∧ True) ∧ True)) rfl ⟨⟨trivial, trivial⟩, trivial⟩ ?_
    obtain ⟨r30, h30, E30, P30⟩ := d_X6_need_p (ws0 := ws0) (tb := tb) hws htb sh ro I20 J21 A hI20  β η (gs_X β η p9) 2 hb   ⟨by (/-7-/first | omega | (simp only [gz_hd] at *; omega)), by (/-8-/first | omega | (simp only [gz_hd] at *; omega))⟩ A28 (by (/-9-/first | (have o1 := gz_sh f4; omega) | (simp only [gz_hd] at *; omega))) 
    obtain ⟨I31, J32, rfl, hI31, g30, k30, ⟨z30, rfl, q30⟩⟩ := P30
    replace q30 := gz_hi q30
    have FI31 := gc_frc (W := fun q j => (q = 39 ∧ j = 3) ∨ (q = 39 ∧ j = 4) ∨ (q = 23 ∧ j = 5) ∨ (q = 23 ∧ j = 6) ∨ (q = 23 ∧ j = 7) ∨ (q = 23 ∧ j = 8) ∨ (q = 39 ∧ j = 7)) (V := fun q j => (q = 39 ∧ j = 3) ∨ (q = 39 ∧ j = 4)) FI20 (fun q j h => (h.elim (fun h => (Or.inl h)) (fun h => (Or.inr (Or.inl h))))) g30
    have t33 := gz_hi ((g30 23 1).resolve_left (fun h => h.elim (fun h => absurd h.2 (by first | exact gz_ne rfl | decide)) (fun h => absurd h.2 (by first | exact gz_ne rfl | decide))))
    have t34 := gz_hi ((g30 23 5).resolve_left (fun h => h.elim (fun h => absurd h.2 (by first | exact gz_ne rfl | decide)) (fun h => absurd h.2 (by first | exact gz_ne rfl | decide))))
    have t35 := gz_hi ((g30 23 6).resolve_left (fun h => h.elim (fun h => absurd h.2 (by first | exact gz_ne rfl | decide)) (fun h => absurd h.2 (by first | exact gz_ne rfl | decide))))
    have t36 := gz_hi ((g30 23 7).resolve_left (fun h => h.elim (fun h => absurd h.2 (by first | exact gz_ne rfl | decide)) (fun h => absurd h.2 (by first | exact gz_ne rfl | decide))))
    obtain rfl : J21 = J32 := funext fun q => funext fun j => ((k30 q j).resolve_left id).symm
    have KLT_I31 := gc_LT_fr KLT_I20 ((g30 23 5).resolve_left (fun h => h.elim (fun h => absurd h.2 (by first | exact gz_ne rfl | decide)) (fun h => absurd h.2 (by first | exact gz_ne rfl | decide)))) ((g30 23 6).resolve_left (fun h => h.elim (fun h => absurd h.2 (by first | exact gz_ne rfl | decide)) (fun h => absurd h.2 (by first | exact gz_ne rfl | decide)))) ((g30 23 7).resolve_left (fun h => h.elim (fun h => absurd h.2 (by first | exact gz_ne rfl | decide)) (fun h => absurd h.2 (by first | exact gz_ne rfl | decide)))) (fun k => (g30 24 k).resolve_left (fun h => h.elim (fun h => absurd h.1 (by first | exact gz_ne rfl | decide)) (fun h => absurd h.1 (by first | exact gz_ne rfl | decide))))
    have KTK_I31 := gc_TK_fr KTK_I20 ((g30 23 1).resolve_left (fun h => h.elim (fun h => absurd h.2 (by first | exact gz_ne rfl | decide)) (fun h => absurd h.2 (by first | exact gz_ne rfl | decide)))) ((g30 23 5).resolve_left (fun h => h.elim (fun h => absurd h.2 (by first | exact gz_ne rfl | decide)) (fun h => absurd h.2 (by first | exact gz_ne rfl | decide)))) ((g30 23 6).resolve_left (fun h => h.elim (fun h => absurd h.2 (by first | exact gz_ne rfl | decide)) (fun h => absurd h.2 (by first | exact gz_ne rfl | decide)))) ((g30 23 7).resolve_left (fun h => h.elim (fun h => absurd h.2 (by first | exact gz_ne rfl | decide)) (fun h => absurd h.2 (by first | exact gz_ne rfl | decide))))
    have A38 := gc_AT_I A28 ((g30 23 1).resolve_left (fun h => h.elim (fun h => absurd h.2 (by first | exact gz_ne rfl | decide)) (fun h => absurd h.2 (by first | exact gz_ne rfl | decide)))) ((g30 23 5).resolve_left (fun h => h.elim (fun h => absurd h.2 (by first | exact gz_ne rfl | decide)) (fun h => absurd h.2 (by first | exact gz_ne rfl | decide)))) ((g30 23 6).resolve_left (fun h => h.elim (fun h => absurd h.2 (by first | exact gz_ne rfl | decide)) (fun h => absurd h.2 (by first | exact gz_ne rfl | decide)))) ((g30 23 7).resolve_left (fun h => h.elim (fun h => absurd h.2 (by first | exact gz_ne rfl | decide)) (fun h => absurd h.2 (by first | exact gz_ne rfl | decide)))) ((g30 23 8).resolve_left (fun h => h.elim (fun h => absurd h.2 (by first | exact gz_ne rfl | decide)) (fun h => absurd h.2 (by first | exact gz_ne rfl | decide)))) (fun k => (g30 24 k).resolve_left (fun h => h.elim (fun h => absurd h.1 (by first | exact gz_ne rfl | decide)) (fun h => absurd h.1 (by first | exact gz_ne rfl | decide))))
    refine gv_callV hD rfl (As := [.inl 2]) (st := []) rfl (gz_sh B_39) S_39 rfl (gc_lV6 hws rfl) (Nat.le_of_ble_eq_true rfl) (gz_Ev_mono (d := 2) (by decide) E30) ?_
    show gv_X _ _ (29, [(0, .inr (.inr (some 39)))], [.inl z30], sh, gc_h sh I31 J21 A)
    refine gv_if_ne (t := 34) hD rfl rfl ⟨by (/-10-/first | (have o1 := gz_sh q30; omega) | (simp only [gz_hd] at *; omega)), by (/-11-/first | (have o1 := gz_sh q30; omega) | (simp only [gz_hd] at *; omega))⟩ (fun c40 => ?_) (fun c40 => ?_)
    · show gv_X _ _ (34, [(0, .inr (.inr (some 39)))], [], sh, gc_h sh I31 J21 A)
      have u41 := gs_or1 (gz_sh q30).2.2.2 (by (/-12-/first | omega | (simp only [gz_hd] at *; omega)))
      refine gv_run 1 true hD (pcₚ := 35) (lvₚ := [(0, .inr (.inr (some 39)))]) (stₚ := [.inr (.inr (some 39))]) (hₚ := gc_h sh I31 J21 A) (C := (True ∧ True)) rfl ⟨trivial, trivial⟩ ?_
      refine gv_get hD rfl rfl S_39 ⟨by decide, (gz_sh B_39)⟩ (gc_hA S_39 rfl A_39_1) ?_
      show gv_X _ _ (38, [(0, .inr (.inr (some 39)))], [.inr (.inr (some 23))], sh, gc_h sh I31 J21 A)
      have f42 := gz_hi ((gc_b_3_8 hI31 (gz_sh R_23)))
      refine gv_get hD rfl rfl S_23 ⟨by decide, (gz_sh B_23)⟩ (gc_hI S_23 rfl) ?_
      show gv_X _ _ (41, [(0, .inr (.inr (some 39)))], [.inl (I31 23 8)], sh, gc_h sh I31 J21 A)
      refine gv_run 1 true hD (pcₚ := 44) (lvₚ := [(0, .inr (.inr (some 39)))]) (stₚ := [.inl 10000, .inl (I31 23 8)]) (hₚ := gc_h sh I31 J21 A) (C := (True ∧ True)) rfl ⟨trivial, trivial⟩ ?_
      have t43 := gz_hi ((gc_AT_v A38 (by (/-13-/first | omega | (simp only [gz_hd] at *; omega)))))
      refine gv_icmp_le (t := 60) hD rfl rfl ⟨⟨by (/-14-/first | (have o1 := gz_sh f42; omega) | (simp only [gz_hd] at *; omega)), by (/-15-/first | (have o1 := gz_sh f42; omega) | (simp only [gz_hd] at *; omega))⟩, ⟨by (/-16-/first | omega | (simp only [gz_hd] at *; omega)), by (/-17-/first | omega | (simp only [gz_hd] at *; omega))⟩⟩ (fun c44 => ?_) (fun c44 => ?_)
      · show gv_X _ _ (60, [(0, .inr (.inr (some 39)))], [], sh, gc_h sh I31 J21 A)
        refine gv_run 2 true hD (pcₚ := 62) (lvₚ := [(0, .inr (.inr (some 39)))]) (stₚ := [.inr (.inr (some 39)), .inr (.inr (some 39))]) (hₚ := gc_h sh I31 J21 A) (C := ((True ∧ True) ∧ True)) rfl ⟨⟨trivial, trivial⟩, trivial⟩ ?_
        refine gv_get hD rfl rfl S_39 ⟨by decide, (gz_sh B_39)⟩ (gc_hA S_39 rfl A_39_1) ?_
        show gv_X _ _ (65, [(0, .inr (.inr (some 39)))], [.inr (.inr (some 23)), .inr (.inr (some 39))], sh, gc_h sh I31 J21 A)
        refine gv_get hD rfl rfl S_23 ⟨by decide, (gz_sh B_23)⟩ (gc_hI S_23 rfl) ?_
        show gv_X _ _ (68, [(0, .inr (.inr (some 39)))], [.inl (I31 23 8), .inr (.inr (some 39))], sh, gc_h sh I31 J21 A)
        refine gv_put hD rfl rfl S_39 ⟨by decide, (gz_sh B_39)⟩ rfl trivial ?_
        refine gc_st (k := 7) hI31 S_39 rfl (gz_sh R_39) (lo := 0) (hi := 10000) rfl rfl (by (/-18-/first | (have o1 := gz_sh f42; omega) | (simp only [gz_hd] at *; omega))) (by (/-19-/first | omega | (simp only [gz_hd] at *; omega))) (fun I46 hI46 q47 p47 => ?_)
        have FI46 := gc_frs (W := fun q j => (q = 39 ∧ j = 3) ∨ (q = 39 ∧ j = 4) ∨ (q = 23 ∧ j = 5) ∨ (q = 23 ∧ j = 6) ∨ (q = 23 ∧ j = 7) ∨ (q = 23 ∧ j = 8) ∨ (q = 39 ∧ j = 7)) FI31 (Or.inr (Or.inr (Or.inr (Or.inr (Or.inr (Or.inr ⟨rfl, rfl⟩)))))) p47
        have t48 := gz_hi (p47 23 1 (fun h => absurd h.2 (by first | exact gz_ne rfl | decide)))
        have t49 := gz_hi (p47 23 5 (fun h => absurd h.2 (by first | exact gz_ne rfl | decide)))
        have t50 := gz_hi (p47 23 6 (fun h => absurd h.2 (by first | exact gz_ne rfl | decide)))
        have t51 := gz_hi (p47 23 7 (fun h => absurd h.1 (by first | exact gz_ne rfl | decide)))
        have KLT_I46 := gc_LT_fr KLT_I31 (p47 23 5 (fun h => absurd h.2 (by first | exact gz_ne rfl | decide))) (p47 23 6 (fun h => absurd h.2 (by first | exact gz_ne rfl | decide))) (p47 23 7 (fun h => absurd h.1 (by first | exact gz_ne rfl | decide))) (fun k => p47 24 k (fun h => absurd h.1 (by first | exact gz_ne rfl | decide)))
        have KTK_I46 := gc_TK_fr KTK_I31 (p47 23 1 (fun h => absurd h.2 (by first | exact gz_ne rfl | decide))) (p47 23 5 (fun h => absurd h.2 (by first | exact gz_ne rfl | decide))) (p47 23 6 (fun h => absurd h.2 (by first | exact gz_ne rfl | decide))) (p47 23 7 (fun h => absurd h.1 (by first | exact gz_ne rfl | decide)))
        have A53 := gc_AT_I A38 (p47 23 1 (fun h => absurd h.2 (by first | exact gz_ne rfl | decide))) (p47 23 5 (fun h => absurd h.2 (by first | exact gz_ne rfl | decide))) (p47 23 6 (fun h => absurd h.2 (by first | exact gz_ne rfl | decide))) (p47 23 7 (fun h => absurd h.1 (by first | exact gz_ne rfl | decide))) (p47 23 8 (fun h => absurd h.2 (by first | exact gz_ne rfl | decide))) (fun k => p47 24 k (fun h => absurd h.1 (by first | exact gz_ne rfl | decide)))
        show gv_X _ _ (71, [(0, .inr (.inr (some 39)))], [], sh, gc_h sh I46 J21 A)
        refine gv_run 1 true hD (pcₚ := 72) (lvₚ := [(0, .inr (.inr (some 39)))]) (stₚ := [.inr (.inr (some 39))]) (hₚ := gc_h sh I46 J21 A) (C := (True ∧ True)) rfl ⟨trivial, trivial⟩ ?_
        refine gv_get hD rfl rfl S_39 ⟨by decide, (gz_sh B_39)⟩ (gc_hA S_39 rfl A_39_1) ?_
        show gv_X _ _ (75, [(0, .inr (.inr (some 39)))], [.inr (.inr (some 23))], sh, gc_h sh I46 J21 A)
        have t55 := gz_hi (gc_TK_nx KTK_I46 (by (/-20-/first | (have o1 := gz_sh t29; have o2 := gz_sh t36; have o3 := gz_sh t51; omega) | (simp only [gz_hd] at *; omega))))
        obtain ⟨r54, h54, E54, P54⟩ := d_X9_advance_p (ws0 := ws0) (tb := tb) hws htb sh ro I46 J21 A hI46 23 β η  (gc_b23 hb)    (by (/-21-/first | (have o1 := gz_sh t55; omega) | (simp only [gz_hd] at *; omega))) A53.1.1 A53.1.2 
        obtain ⟨I56, J57, rfl, hI56, g54, k54, ⟨rfl, V54_0, V54_1, V54_2, V54_3, V54_4, q54⟩⟩ := P54
        replace q54 := gz_hi q54
        have FI56 := gc_frc (W := fun q j => (q = 39 ∧ j = 3) ∨ (q = 39 ∧ j = 4) ∨ (q = 23 ∧ j = 5) ∨ (q = 23 ∧ j = 6) ∨ (q = 23 ∧ j = 7) ∨ (q = 23 ∧ j = 8) ∨ (q = 39 ∧ j = 7)) (V := fun q j => (q = 23 ∧ j = 5) ∨ (q = 23 ∧ j = 6) ∨ (q = 23 ∧ j = 7) ∨ (q = 23 ∧ j = 8)) FI46 (fun q j h => (h.elim (fun h => (Or.inr (Or.inr (Or.inl h)))) (fun h => (h.elim (fun h => (Or.inr (Or.inr (Or.inr (Or.inl h))))) (fun h => (h.elim (fun h => (Or.inr (Or.inr (Or.inr (Or.inr (Or.inl h)))))) (fun h => (Or.inr (Or.inr (Or.inr (Or.inr (Or.inr (Or.inl h))))))))))))) g54
        have FJ57 := gc_frc (W := fun q j => (q = 23 ∧ j = 9)) (V := fun q j => (q = 23 ∧ j = 9)) FJ21 (fun q j h => h) k54
        have t59 := gz_hi ((g54 39 7).resolve_left (fun h => h.elim (fun h => absurd h.2 (by first | exact gz_ne rfl | decide)) (fun h => h.elim (fun h => absurd h.2 (by first | exact gz_ne rfl | decide)) (fun h => h.elim (fun h => absurd h.1 (by first | exact gz_ne rfl | decide)) (fun h => absurd h.2 (by first | exact gz_ne rfl | decide))))))
        have KLT_I56 : gc_LT I56 := (gz_sh q54).2.2.1
        have KTK_I56 : gc_TK I56 := And.intro V54_0 (And.intro V54_1 (And.intro V54_2 (And.intro V54_3 V54_4)))
        clear V54_0 V54_1 V54_2 V54_3 V54_4
        have A64 := gc_AT_nx A53 (gz_sh q54).2.2.2
        have t65 := gz_hi (gc_AT_l A64)
        refine gv_callV hD rfl (As := []) (st := []) rfl (gz_sh B_23) S_23 rfl (gc_lV6 hws rfl) (Nat.le_of_ble_eq_true rfl) (gz_Ev_mono (d := 2) (by decide) E54) ?_
        show gv_X _ _ (78, [(0, .inr (.inr (some 39)))], [], sh, gc_h sh I56 J57 A)
        refine gv_run 1 true hD (pcₚ := 79) (lvₚ := [(0, .inr (.inr (some 39)))]) (stₚ := [.inl 1]) (hₚ := gc_h sh I56 J57 A) (C := (True ∧ True)) rfl ⟨trivial, trivial⟩ ?_
        exact gv_zret hD rfl (by (/-22-/first | omega | (simp only [gz_hd] at *; omega))) ⟨I56, J57, rfl, hI56, FI56, FJ57, KLT_I56, KTK_I56, ⟨_, rfl, by (/-23-/first | omega | (simp only [gz_hd] at *; omega)), by (/-24-/first | omega | (simp only [gz_hd] at *; omega)), by (/-25-/first | (have o1 := gz_sh q18; have o2 := gz_sh q54; have o3 := gz_sh t33; have o4 := gz_sh t48; have o5 := gz_sh t9; omega) | (simp only [gz_hd] at *; omega)), by (/-26-/first | (have o1 := gz_sh q18; have o2 := gz_sh q54; have o3 := gz_sh t1; have o4 := gz_sh t11; have o5 := gz_sh t27; have o6 := gz_sh t35; have o7 := gz_sh t50; omega) | (simp only [gz_hd] at *; omega)), (Or.inl ⟨by (/-27-/first | omega | (simp only [gz_hd] at *; omega)), by have e9 : (gs_cost β η p9) = (gs_X β η (gs_X β η p9)) := (by unfold gs_cost; (repeat first | rw [if_pos (by (/-28-/first | omega | (simp only [gz_hd] at *; omega)))] | rw [if_neg (by (/-29-/first | (have o1 := gz_sh f42; have o2 := gz_sh t43; have o3 := gz_sh t59; omega) | (simp only [gz_hd] at *; omega)))])); have e8 : I56 39 7 = gs_prc β η p9 := (by unfold gs_prc; (repeat first | rw [if_pos (by (/-30-/first | (have o1 := gz_sh q15; omega) | (simp only [gz_hd] at *; omega)))] | rw [if_neg (by (/-31-/first | omega | (simp only [gz_hd] at *; omega)))]); (/-32-/first | (have o1 := gz_sh t43; have o2 := gz_sh t59; omega) | (simp only [gz_hd] at *; omega))); rw [e9]; exact ⟨by (/-33-/first | (have o1 := gz_sh f25; have o2 := gz_sh t29; omega) | (simp only [gz_hd] at *; omega)), A64, e8⟩⟩)⟩⟩
      · show gv_X _ _ (47, [(0, .inr (.inr (some 39)))], [], sh, gc_h sh I31 J21 A)
        refine gv_run 3 true hD (pcₚ := 50) (lvₚ := [(0, .inr (.inr (some 39)))]) (stₚ := [.inr (.inr (some 39)), .inl 5, .inr (.inr (some 39))]) (hₚ := gc_h sh I31 J21 A) (C := (((True ∧ True) ∧ True) ∧ True)) rfl ⟨⟨⟨trivial, trivial⟩, trivial⟩, trivial⟩ ?_
        refine gv_get hD rfl rfl S_39 ⟨by decide, (gz_sh B_39)⟩ (gc_hA S_39 rfl A_39_1) ?_
        show gv_X _ _ (53, [(0, .inr (.inr (some 39)))], [.inr (.inr (some 23)), .inl 5, .inr (.inr (some 39))], sh, gc_h sh I31 J21 A)
        refine gv_get hD rfl rfl S_23 ⟨by decide, (gz_sh B_23)⟩ (gc_hI S_23 rfl) ?_
        show gv_X _ _ (56, [(0, .inr (.inr (some 39)))], [.inl (I31 23 5), .inl 5, .inr (.inr (some 39))], sh, gc_h sh I31 J21 A)
        obtain ⟨r67, h67, E67, P67⟩ := d_X6_wrong_p (ws0 := ws0) (tb := tb) hws htb sh ro I31 J21 A hI31  5 (I31 23 5) hb   ⟨by (/-34-/first | omega | (simp only [gz_hd] at *; omega)), by (/-35-/first | omega | (simp only [gz_hd] at *; omega))⟩ ⟨by (/-36-/first | (have o1 := gz_sh f24; have o2 := gz_sh t34; omega) | (simp only [gz_hd] at *; omega)), by (/-37-/first | (have o1 := gz_sh f24; have o2 := gz_sh t34; omega) | (simp only [gz_hd] at *; omega))⟩  
        obtain ⟨I68, J69, rfl, hI68, g67, k67, ⟨z67, rfl, q67⟩⟩ := P67
        replace q67 := gz_hi q67
        have FI68 := gc_frc (W := fun q j => (q = 39 ∧ j = 3) ∨ (q = 39 ∧ j = 4) ∨ (q = 23 ∧ j = 5) ∨ (q = 23 ∧ j = 6) ∨ (q = 23 ∧ j = 7) ∨ (q = 23 ∧ j = 8) ∨ (q = 39 ∧ j = 7)) (V := fun q j => (q = 39 ∧ j = 3) ∨ (q = 39 ∧ j = 4)) FI31 (fun q j h => (h.elim (fun h => (Or.inl h)) (fun h => (Or.inr (Or.inl h))))) g67
        have t70 := gz_hi ((g67 23 1).resolve_left (fun h => h.elim (fun h => absurd h.2 (by first | exact gz_ne rfl | decide)) (fun h => absurd h.2 (by first | exact gz_ne rfl | decide))))
        have t71 := gz_hi ((g67 23 5).resolve_left (fun h => h.elim (fun h => absurd h.2 (by first | exact gz_ne rfl | decide)) (fun h => absurd h.2 (by first | exact gz_ne rfl | decide))))
        obtain rfl : J21 = J69 := funext fun q => funext fun j => ((k67 q j).resolve_left id).symm
        have KLT_I68 := gc_LT_fr KLT_I31 ((g67 23 5).resolve_left (fun h => h.elim (fun h => absurd h.2 (by first | exact gz_ne rfl | decide)) (fun h => absurd h.2 (by first | exact gz_ne rfl | decide)))) ((g67 23 6).resolve_left (fun h => h.elim (fun h => absurd h.2 (by first | exact gz_ne rfl | decide)) (fun h => absurd h.2 (by first | exact gz_ne rfl | decide)))) ((g67 23 7).resolve_left (fun h => h.elim (fun h => absurd h.2 (by first | exact gz_ne rfl | decide)) (fun h => absurd h.2 (by first | exact gz_ne rfl | decide)))) (fun k => (g67 24 k).resolve_left (fun h => h.elim (fun h => absurd h.1 (by first | exact gz_ne rfl | decide)) (fun h => absurd h.1 (by first | exact gz_ne rfl | decide))))
        have KTK_I68 := gc_TK_fr KTK_I31 ((g67 23 1).resolve_left (fun h => h.elim (fun h => absurd h.2 (by first | exact gz_ne rfl | decide)) (fun h => absurd h.2 (by first | exact gz_ne rfl | decide)))) ((g67 23 5).resolve_left (fun h => h.elim (fun h => absurd h.2 (by first | exact gz_ne rfl | decide)) (fun h => absurd h.2 (by first | exact gz_ne rfl | decide)))) ((g67 23 6).resolve_left (fun h => h.elim (fun h => absurd h.2 (by first | exact gz_ne rfl | decide)) (fun h => absurd h.2 (by first | exact gz_ne rfl | decide)))) ((g67 23 7).resolve_left (fun h => h.elim (fun h => absurd h.2 (by first | exact gz_ne rfl | decide)) (fun h => absurd h.2 (by first | exact gz_ne rfl | decide))))
        have A75 := gc_AT_I A38 ((g67 23 1).resolve_left (fun h => h.elim (fun h => absurd h.2 (by first | exact gz_ne rfl | decide)) (fun h => absurd h.2 (by first | exact gz_ne rfl | decide)))) ((g67 23 5).resolve_left (fun h => h.elim (fun h => absurd h.2 (by first | exact gz_ne rfl | decide)) (fun h => absurd h.2 (by first | exact gz_ne rfl | decide)))) ((g67 23 6).resolve_left (fun h => h.elim (fun h => absurd h.2 (by first | exact gz_ne rfl | decide)) (fun h => absurd h.2 (by first | exact gz_ne rfl | decide)))) ((g67 23 7).resolve_left (fun h => h.elim (fun h => absurd h.2 (by first | exact gz_ne rfl | decide)) (fun h => absurd h.2 (by first | exact gz_ne rfl | decide)))) ((g67 23 8).resolve_left (fun h => h.elim (fun h => absurd h.2 (by first | exact gz_ne rfl | decide)) (fun h => absurd h.2 (by first | exact gz_ne rfl | decide)))) (fun k => (g67 24 k).resolve_left (fun h => h.elim (fun h => absurd h.1 (by first | exact gz_ne rfl | decide)) (fun h => absurd h.1 (by first | exact gz_ne rfl | decide))))
        refine gv_callV hD rfl (As := [.inl 5, .inl (I31 23 5)]) (st := []) rfl (gz_sh B_39) S_39 rfl (gc_lV6 hws rfl) (Nat.le_of_ble_eq_true rfl) (gz_Ev_mono (d := 1) (by decide) E67) ?_
        show gv_X _ _ (59, [(0, .inr (.inr (some 39)))], [.inl z67], sh, gc_h sh I68 J21 A)
        exact gv_zret hD rfl (by (/-38-/first | (have o1 := gz_sh q67; omega) | (simp only [gz_hd] at *; omega))) ⟨I68, J21, rfl, hI68, FI68, FJ21, KLT_I68, KTK_I68, ⟨_, rfl, by (/-39-/first | (have o1 := gz_sh q67; omega) | (simp only [gz_hd] at *; omega)), by (/-40-/first | (have o1 := gz_sh q67; omega) | (simp only [gz_hd] at *; omega)), by (/-41-/first | (have o1 := gz_sh q18; have o2 := gz_sh t33; have o3 := gz_sh t70; have o4 := gz_sh t9; omega) | (simp only [gz_hd] at *; omega)), by (/-42-/first | (have o1 := gz_sh q18; have o2 := gz_sh t1; have o3 := gz_sh t11; have o4 := gz_sh t34; have o5 := gz_sh t71; omega) | (simp only [gz_hd] at *; omega)), (Or.inr ⟨by (/-43-/first | (have o1 := gz_sh q67; omega) | (simp only [gz_hd] at *; omega)), by unfold gs_cost; (repeat first | rw [if_pos (by (/-44-/first | (have o1 := gz_sh t43; omega) | (simp only [gz_hd] at *; omega)))] | rw [if_neg (by (/-45-/first | omega | (simp only [gz_hd] at *; omega)))]); exact ⟨by (/-46-/first | (have o1 := gz_sh f24; have o2 := gz_sh t29; omega) | (simp only [gz_hd] at *; omega)), by (/-47-/first | (have o1 := gz_sh q67; have o2 := gz_sh t29; have o3 := gz_sh t34; omega) | (simp only [gz_hd] at *; omega))⟩⟩)⟩⟩
    · show gv_X _ _ (32, [(0, .inr (.inr (some 39)))], [], sh, gc_h sh I31 J21 A)
      have u77 := gs_or0 (gz_sh q30).2.2.2 (by (/-48-/first | omega | (simp only [gz_hd] at *; omega)))
      refine gv_run 1 true hD (pcₚ := 33) (lvₚ := [(0, .inr (.inr (some 39)))]) (stₚ := [.inl 0]) (hₚ := gc_h sh I31 J21 A) (C := (True ∧ True)) rfl ⟨trivial, trivial⟩ ?_
      exact gv_zret hD rfl (by (/-49-/first | omega | (simp only [gz_hd] at *; omega))) ⟨I31, J21, rfl, hI31, FI31, FJ21, KLT_I31, KTK_I31, ⟨_, rfl, by (/-50-/first | omega | (simp only [gz_hd] at *; omega)), by (/-51-/first | omega | (simp only [gz_hd] at *; omega)), by (/-52-/first | (have o1 := gz_sh q18; have o2 := gz_sh t33; have o3 := gz_sh t9; omega) | (simp only [gz_hd] at *; omega)), by (/-53-/first | (have o1 := gz_sh q18; have o2 := gz_sh t1; have o3 := gz_sh t11; have o4 := gz_sh t34; omega) | (simp only [gz_hd] at *; omega)), (Or.inr ⟨by (/-54-/first | omega | (simp only [gz_hd] at *; omega)), by unfold gs_cost; (repeat first | rw [if_pos (by (/-55-/first | (have o1 := gz_sh q15; omega) | (simp only [gz_hd] at *; omega)))] | rw [if_neg (by (/-56-/first | (have o1 := gz_sh t29; have o2 := gz_sh t36; omega) | (simp only [gz_hd] at *; omega)))]); exact ⟨by (/-57-/first | (have o1 := gz_sh f24; have o2 := gz_sh t29; omega) | (simp only [gz_hd] at *; omega)), by (/-58-/first | omega | (simp only [gz_hd] at *; omega))⟩⟩)⟩⟩
  · show gv_X _ _ (15, [(0, .inr (.inr (some 39)))], [], sh, gc_h sh I7 J A)
    refine gv_run 1 true hD (pcₚ := 16) (lvₚ := [(0, .inr (.inr (some 39)))]) (stₚ := [.inl 1]) (hₚ := gc_h sh I7 J A) (C := (True ∧ True)) rfl ⟨trivial, trivial⟩ ?_
    exact gv_zret hD rfl (by (/-59-/first | omega | (simp only [gz_hd] at *; omega))) ⟨I7, J, rfl, hI7, FI7, FJ, KLT_I7, KTK_I7, ⟨_, rfl, by (/-60-/first | omega | (simp only [gz_hd] at *; omega)), by (/-61-/first | omega | (simp only [gz_hd] at *; omega)), by (/-62-/first | (have o1 := gz_sh t9; omega) | (simp only [gz_hd] at *; omega)), by (/-63-/first | (have o1 := gz_sh t10; omega) | (simp only [gz_hd] at *; omega)), (Or.inl ⟨by (/-64-/first | omega | (simp only [gz_hd] at *; omega)), by have e9 : (gs_cost β η p9) = p9 := (by unfold gs_cost; (repeat first | rw [if_pos (by (/-65-/first | omega | (simp only [gz_hd] at *; omega)))] | rw [if_neg (by (/-66-/first | (have o1 := gz_sh q15; omega) | (simp only [gz_hd] at *; omega)))])); have e8 : I7 39 7 = gs_prc β η p9 := (by unfold gs_prc; (repeat first | rw [if_pos (by (/-67-/first | omega | (simp only [gz_hd] at *; omega)))] | rw [if_neg (by (/-68-/first | (have o1 := gz_sh q15; omega) | (simp only [gz_hd] at *; omega)))]); (/-69-/first | omega | (simp only [gz_hd] at *; omega))); rw [e9]; exact ⟨by (/-70-/first | omega | (simp only [gz_hd] at *; omega)), A14, e8⟩⟩)⟩⟩
