/-! PARITY, the class's side: TERMS -/
/-- what a reader of TERMS tells: its code and its nodes D -/
def gs_TQc (β : Int → Int) (N : Int) (D : Int × Int) (r : Int) (I I' : gr_I) (J' : gr_J) : Prop := gs_Or r (0 ≤ D.1 ∧ gc_AT β N D.1 23 I' J' ∧ I' 39 12 = I 39 12 + D.2) (D.1 < 0 ∧ I' 39 4 = -1 - D.1)
theorem gs_TQc_y {β : Int → Int} {N c n r : Int} {D : Int × Int} {I I' : gr_I} {J' : gr_J} (hD : D = (c, n)) (h0 : 0 ≤ c) (hr : r = 1) (ha : gc_AT β N c 23 I' J') (hn : I' 39 12 = I 39 12 + n) : gs_TQc β N D r I I' J' := by
  subst hD
  exact Or.inl ⟨hr, h0, ha, hn⟩
theorem gs_TQc_n {β : Int → Int} {N c n r : Int} {D : Int × Int} {I I' : gr_I} {J' : gr_J} (hD : D = (c, n)) (h0 : c < 0) (hr : r = 0) (ha : I' 39 4 = -1 - c) : gs_TQc β N D r I I' J' := by
  subst hD
  exact Or.inr ⟨hr, h0, ha⟩
theorem gs_TQc_1 {β : Int → Int} {N r : Int} {D : Int × Int} {I I' : gr_I} {J' : gr_J} (h : gs_TQc β N D r I I' J') (hr : ¬ r = 0) : 0 ≤ D.1 ∧ gc_AT β N D.1 23 I' J' ∧ I' 39 12 = I 39 12 + D.2 := gs_or1 h hr
theorem gs_TQc_0 {β : Int → Int} {N r : Int} {D : Int × Int} {I I' : gr_I} {J' : gr_J} (h : gs_TQc β N D r I I' J') (hr : r = 0) : D.1 < 0 ∧ I' 39 4 = -1 - D.1 := gs_or0 h hr
section CT
variable {β : Int → Int} {N nf f d p k : Int} {D : Int × Int}
theorem gs_at_n (hf : 0 < f) (hT : gs_T β N p = 1) : gs_tm β N nf f 1 d p = (gs_X β N p, 1) := (gs_tm_1 hf).trans (if_pos hT)
theorem gs_at_u (hf : 0 < f) (hT : gs_T β N p = 2) (hV : ¬ (gs_V β N p < 1 ∨ nf < gs_V β N p)) : gs_tm β N nf f 1 d p = (gs_X β N p, 1) := (gs_tm_1 hf).trans ((if_neg (by omega)).trans ((if_pos hT).trans (if_neg hV)))
theorem gs_at_b (hf : 0 < f) (hT : gs_T β N p = 2) (hV : gs_V β N p < 1 ∨ nf < gs_V β N p) : gs_tm β N nf f 1 d p = (-1 - gs_A β N p, 0) := (gs_tm_1 hf).trans ((if_neg (by omega)).trans ((if_pos hT).trans (if_pos hV)))
theorem gs_at_p (hf : 0 < f) (hT : gs_T β N p = 40) : gs_tm β N nf f 1 d p = gs_bd (gs_tm β N nf (f - 1) 0 (d + 1) (gs_X β N p)) (fun q' => (gs_need β N 41 q', 0)) := (gs_tm_1 hf).trans ((if_neg (by omega)).trans ((if_neg (by omega)).trans (if_pos hT)))
theorem gs_at_z (hf : 0 < f) (h1 : ¬ gs_T β N p = 1) (h2 : ¬ gs_T β N p = 2) (h3 : ¬ gs_T β N p = 40) : gs_tm β N nf f 1 d p = (-1 - gs_A β N p, 0) := (gs_tm_1 hf).trans ((if_neg h1).trans ((if_neg h2).trans (if_neg h3)))
theorem gs_at_x (hf : 0 < f) (hT : gs_T β N p = 40) (hw : (gs_tm β N nf (f - 1) 0 (d + 1) (gs_X β N p)).1 < 0) : gs_tm β N nf f 1 d p = ((gs_tm β N nf (f - 1) 0 (d + 1) (gs_X β N p)).1, (gs_tm β N nf (f - 1) 0 (d + 1) (gs_X β N p)).2) := by
  rw [gs_at_p hf hT, gs_bd_x hw]
theorem gs_at_y (hf : 0 < f) (hT : gs_T β N p = 40) (hw : 0 ≤ (gs_tm β N nf (f - 1) 0 (d + 1) (gs_X β N p)).1) : gs_tm β N nf f 1 d p = (gs_need β N 41 (gs_tm β N nf (f - 1) 0 (d + 1) (gs_X β N p)).1, (gs_tm β N nf (f - 1) 0 (d + 1) (gs_X β N p)).2) := by
  rw [gs_at_p hf hT, gs_bd_e (by omega)]
  show (_, (gs_tm β N nf (f - 1) 0 (d + 1) (gs_X β N p)).2 + 0) = _
  rw [Int.add_zero]
theorem gs_bi (hf : 0 < f) (hd : d ≤ 40) (hT : gs_T β N p = 92) : gs_tm β N nf f 0 d p = gs_lam β N (gs_tm β N nf (f - 1) 0 (d + 1)) p := (gs_tm_0 hf).trans ((if_neg (by omega)).trans (if_pos hT))
theorem gs_bi_n (hf : 0 < f) (hd : d ≤ 40) (hT : gs_T β N p = 92) (h1 : ¬ gs_T β N (gs_X β N p) = 1) : gs_tm β N nf f 0 d p = (-1 - gs_A β N (gs_X β N p), 0) := (gs_bi hf hd hT).trans (if_neg h1)
theorem gs_bi_l (hf : 0 < f) (hd : d ≤ 40) (hT : gs_T β N p = 92) (h1 : gs_T β N (gs_X β N p) = 1) : gs_tm β N nf f 0 d p = gs_lam2 β N (gs_tm β N nf (f - 1) 0 (d + 1)) (gs_X β N p) := (gs_bi hf hd hT).trans (if_pos h1)
theorem gs_bi_d (hf : 0 < f) (hd : d ≤ 40) (hT : gs_T β N p = 92) (h1 : gs_T β N (gs_X β N p) = 1) (h2 : gs_need β N 46 (gs_X β N (gs_X β N p)) < 0) : gs_tm β N nf f 0 d p = (gs_need β N 46 (gs_X β N (gs_X β N p)), 0) := (gs_bi_l hf hd hT h1).trans (if_pos h2)
theorem gs_bi_g (hf : 0 < f) (hd : d ≤ 40) (hT : gs_T β N p = 92) (h1 : gs_T β N (gs_X β N p) = 1) (h2 : 0 ≤ gs_need β N 46 (gs_X β N (gs_X β N p))) : gs_tm β N nf f 0 d p = gs_bd (gs_tm β N nf (f - 1) 0 (d + 1) (gs_need β N 46 (gs_X β N (gs_X β N p)))) (fun q' => (q', 1)) := (gs_bi_l hf hd hT h1).trans (if_neg (by omega))
theorem gs_bi_x (hf : 0 < f) (hd : d ≤ 40) (hT : gs_T β N p = 92) (h1 : gs_T β N (gs_X β N p) = 1) (h2 : 0 ≤ gs_need β N 46 (gs_X β N (gs_X β N p))) (hw : (gs_tm β N nf (f - 1) 0 (d + 1) (gs_need β N 46 (gs_X β N (gs_X β N p)))).1 < 0) : gs_tm β N nf f 0 d p = ((gs_tm β N nf (f - 1) 0 (d + 1) (gs_need β N 46 (gs_X β N (gs_X β N p)))).1, (gs_tm β N nf (f - 1) 0 (d + 1) (gs_need β N 46 (gs_X β N (gs_X β N p)))).2) := by
  rw [gs_bi_g hf hd hT h1 h2, gs_bd_x hw]
theorem gs_bi_y (hf : 0 < f) (hd : d ≤ 40) (hT : gs_T β N p = 92) (h1 : gs_T β N (gs_X β N p) = 1) (h2 : 0 ≤ gs_need β N 46 (gs_X β N (gs_X β N p))) (hw : 0 ≤ (gs_tm β N nf (f - 1) 0 (d + 1) (gs_need β N 46 (gs_X β N (gs_X β N p)))).1) : gs_tm β N nf f 0 d p = ((gs_tm β N nf (f - 1) 0 (d + 1) (gs_need β N 46 (gs_X β N (gs_X β N p)))).1, (gs_tm β N nf (f - 1) 0 (d + 1) (gs_need β N 46 (gs_X β N (gs_X β N p)))).2 + 1) := by
  rw [gs_bi_g hf hd hT h1 h2, gs_bd_e (by omega)]
  rfl
theorem gs_tt_d (hf : 0 < f) (hd : 40 < d) : gs_tm β N nf f 0 d p = (-1 - gs_A β N p, 0) := (gs_tm_0 hf).trans (if_pos hd)
theorem gs_tt (hf : 0 < f) (hd : d ≤ 40) (hT : ¬ gs_T β N p = 92) : gs_tm β N nf f 0 d p = gs_bd (gs_tm β N nf (f - 1) 1 d p) (gs_tm β N nf (f - 1) 2 d) := (gs_tm_0 hf).trans ((if_neg (by omega)).trans (if_neg hT))
theorem gs_tt_x (hf : 0 < f) (hd : d ≤ 40) (hT : ¬ gs_T β N p = 92) (hw : (gs_tm β N nf (f - 1) 1 d p).1 < 0) : gs_tm β N nf f 0 d p = ((gs_tm β N nf (f - 1) 1 d p).1, (gs_tm β N nf (f - 1) 1 d p).2) := by
  rw [gs_tt hf hd hT, gs_bd_x hw]
set_option maxHeartbeats 8000000 in
theorem gs_tt_b (hf : 1 < f) (hA : 0 ≤ gs_A β N p) (hT : ¬ gs_T β N p = 92) (h1 : ¬ gs_T β N p = 1) (h2 : ¬ gs_T β N p = 2) (h3 : ¬ gs_T β N p = 40) : gs_tm β N nf f 0 d p = (-1 - gs_A β N p, 0) := by
  by_cases c : 40 < d
  · exact gs_tt_d (by exact gz_m 0 (by omega)) c
  · have e : gs_tm β N nf (f - 1) 1 d p = (-1 - gs_A β N p, 0) := gs_at_z (by exact gz_m 1 (by omega)) h1 h2 h3
    have w : (gs_tm β N nf (f - 1) 1 d p).1 < 0 := by
      rw [e]
      show -1 - gs_A β N p < 0
      exact gz_m 2 (by omega)
    rw [gs_tt_x (by exact gz_m 3 (by omega)) (by exact gz_m 4 (by omega)) hT w, e]
/-- at the loop's head; v: inside of the brackets -/
def gs_tmL (β : Int → Int) (N nf d : Int) (D : Int × Int) (k v p : Int) : Prop := ∃ f g : Int, 4 * (1002 - gs_A β N p) + 1 ≤ f ∧ 4 * (1002 - gs_A β N p) + 3 ≤ g ∧ ((v = 0 ∧ D = gs_shf k (gs_tm β N nf g 2 d p)) ∨ (v = 1 ∧ D = gs_shf k (gs_bd (gs_tm β N nf f 3 d p) (gs_tm β N nf g 2 d))))
/-- an argument is about to be read -/
def gs_tmI (β : Int → Int) (N nf d : Int) (D : Int × Int) (k p : Int) : Prop := ∃ f g : Int, 4 * (1002 - gs_A β N p) + 1 ≤ f ∧ 4 * (1002 - gs_A β N p) ≤ g ∧ D = gs_shf k (gs_bd (gs_tm β N nf f 3 d p) (gs_tm β N nf g 2 d))
set_option maxHeartbeats 8000000 in
theorem gs_tmL_a {q : Int} (hf : 4 * (1002 - gs_A β N p) ≤ f) (hp : gs_A β N p + 1 ≤ gs_A β N q) (hA : gs_A β N p ≤ 1000) (hd : d ≤ 40) (hT : ¬ gs_T β N p = 92) (hq : q = (gs_tm β N nf (f - 1) 1 d p).1) (h0 : 0 ≤ (gs_tm β N nf (f - 1) 1 d p).1) (hk : k = (gs_tm β N nf (f - 1) 1 d p).2) : gs_tmL β N nf d (gs_tm β N nf f 0 d p) k 0 q := by
  refine ⟨4 * (1002 - gs_A β N q) + 1, f - 1, by exact gz_m 0 (by omega), by exact gz_m 1 (by omega), Or.inl ⟨rfl, ?_⟩⟩
  rw [gs_tt (by exact gz_m 2 (by omega)) hd hT, gs_bd_e (by exact gz_m 3 (by omega)), hq, hk]
theorem gs_tmL_I {v : Int} (h : gs_tmL β N nf d D k v p) (hA : gs_A β N p ≤ 1000) (hv : ¬ v = 0 ∨ gs_T β N p = 40) : gs_tmI β N nf d D k p := by
  obtain ⟨f, g, hf, hg, ⟨h1, h2⟩ | ⟨h1, h2⟩⟩ := h
  · have t : gs_T β N p = 40 := by exact gz_m 0 (by omega)
    refine ⟨g - 1, g - 1, by exact gz_m 1 (by omega), by exact gz_m 2 (by omega), ?_⟩
    rw [h2, gs_tm_2 (by exact gz_m 3 (by omega)), if_pos t]
  · exact ⟨f, g, hf, by exact gz_m 4 (by omega), h2⟩
theorem gs_tmL_e {v : Int} (h : gs_tmL β N nf d D k v p) (hA : gs_A β N p ≤ 1000) (hv : v = 0) (hT : ¬ gs_T β N p = 40) : D = (p, k) := by
  obtain ⟨f, g, hf, hg, ⟨h1, h2⟩ | ⟨h1, h2⟩⟩ := h
  · rw [h2, gs_tm_2 (by omega), if_neg hT]
    show (p, k + 0) = (p, k)
    rw [Int.add_zero]
  · omega
set_option maxHeartbeats 8000000 in
/-- behind an argument: another -/
theorem gs_tmL_c {q k' : Int} (g : Int) (hD : D = gs_shf k (gs_bd (gs_tm β N nf f 3 d p) (gs_tm β N nf g 2 d))) (hf : 4 * (1002 - gs_A β N p) + 1 ≤ f) (hg : 4 * (1002 - gs_A β N p) ≤ g) (hA : gs_A β N p ≤ 1000) (hp : gs_A β N p + 1 ≤ gs_A β N q) (hq : q = (gs_tm β N nf (f - 1) 0 (d + 1) (gs_X β N p)).1) (h0 : 0 ≤ (gs_tm β N nf (f - 1) 0 (d + 1) (gs_X β N p)).1) (hT : gs_T β N q = 44) (hk : k' = k + (gs_tm β N nf (f - 1) 0 (d + 1) (gs_X β N p)).2 + 1) : gs_tmL β N nf d D k' 1 q := by
  refine ⟨f - 1, g, by exact gz_m 0 (by omega), by exact gz_m 1 (by omega), Or.inr ⟨rfl, ?_⟩⟩
  rw [hk, hq]
  exact gs_ar_c hD (by exact gz_m 2 (by omega)) (by exact gz_m 3 (by omega)) (by rw [← hq]; exact hT)
set_option maxHeartbeats 8000000 in
/-- behind the last argument -/
theorem gs_tmL_y {q r k' : Int} (g : Int) (hD : D = gs_shf k (gs_bd (gs_tm β N nf f 3 d p) (gs_tm β N nf g 2 d))) (hf : 4 * (1002 - gs_A β N p) + 1 ≤ f) (hg : 4 * (1002 - gs_A β N p) ≤ g) (hA : gs_A β N p ≤ 1000) (hp : gs_A β N p + 1 ≤ gs_A β N r) (hq : q = (gs_tm β N nf (f - 1) 0 (d + 1) (gs_X β N p)).1) (h0 : 0 ≤ (gs_tm β N nf (f - 1) 0 (d + 1) (gs_X β N p)).1) (hT : ¬ gs_T β N q = 44) (hr : r = gs_need β N 41 q) (hr0 : 0 ≤ gs_need β N 41 q) (hk : k' = k + (gs_tm β N nf (f - 1) 0 (d + 1) (gs_X β N p)).2 + 1) : gs_tmL β N nf d D k' 0 r := by
  refine ⟨4 * (1002 - gs_A β N r) + 1, g, by exact gz_m 0 (by omega), by exact gz_m 1 (by omega), Or.inl ⟨rfl, ?_⟩⟩
  rw [hk, hr, hq]
  rw [hq] at hT hr0
  exact gs_ar_y hD (by exact gz_m 2 (by omega)) (by exact gz_m 3 (by omega)) hT (by exact gz_m 4 (by omega))
theorem gs_tmI_x {q : Int} (g : Int) (hD : D = gs_shf k (gs_bd (gs_tm β N nf f 3 d p) (gs_tm β N nf g 2 d))) (hf : 4 * (1002 - gs_A β N p) + 1 ≤ f) (hA : gs_A β N p ≤ 1000) (hq : q = (gs_tm β N nf (f - 1) 0 (d + 1) (gs_X β N p)).1) (h0 : (gs_tm β N nf (f - 1) 0 (d + 1) (gs_X β N p)).1 < 0) : D = (q, k + (gs_tm β N nf (f - 1) 0 (d + 1) (gs_X β N p)).2) := by
  rw [hq]
  exact gs_ar_x hD (by omega) h0
theorem gs_tmI_n {q : Int} (g : Int) (hD : D = gs_shf k (gs_bd (gs_tm β N nf f 3 d p) (gs_tm β N nf g 2 d))) (hf : 4 * (1002 - gs_A β N p) + 1 ≤ f) (hA : gs_A β N p ≤ 1000) (hq : q = (gs_tm β N nf (f - 1) 0 (d + 1) (gs_X β N p)).1) (h0 : 0 ≤ (gs_tm β N nf (f - 1) 0 (d + 1) (gs_X β N p)).1) (hT : ¬ gs_T β N q = 44) (hr0 : gs_need β N 41 q < 0) : D = (gs_need β N 41 q, k + (gs_tm β N nf (f - 1) 0 (d + 1) (gs_X β N p)).2 + 1) := by
  rw [hq]
  rw [hq] at hT hr0
  exact gs_ar_n hD (by omega) (by omega) hT hr0
end CT
set_option maxHeartbeats 8000000 in
set_option maxRecDepth 100000 in
theorem d_X6_readBinder_p {ws0 : List Cond} {tb : String → gz_T} (hws : gc_Ws ws0) (htb : gc_tbs tb) (sh : gz_Sh) (ro : Nat → Nat) (A : gc_A) (b : Int) (β : Int → Int) (η : Int) (nf9 : Int)  (hb : gc_Base sh ro A) (nr : Nat) (ihR : ∀ (I : gr_I) (J : gr_J) (hI : gc_Inv ro I) (a1 : Int) (a2 : Int) (p9 : Int) (m9 : Int) (ha1 : 0 ≤ a1 ∧ a1 ≤ 95) (ha2 : 1 ≤ a2 ∧ a2 ≤ 41) (x0 : I 39 12 ≤ I 23 5) (x1 : I 39 15 ≤ a2 - 1) (x2 : b ≤ -3 - I 12 (Int.toNat a1)) (x3 : b ≤ -3) (x4 : gc_AT β η p9 23 I J) (x5 : 0 ≤ p9) (x6 : nf9 = I 12 (Int.toNat a1)) (x7 : 4 * (1002 - gs_A β η p9) ≤ m9) (KLT_I : gc_LT I) (KTK_I : gc_TK I) (KTO_I : gc_TO b I) (_ : (42 - a2).toNat < nr), ∃ r h', gz_Ev ws0 tb (6 + 2 * nr) (yX6_readTerm, cX6_readTerm, 7, (some .boolean)) [.inr (.inr (some 39)), .inl a1, .inl a2] sh (gc_h sh I J A) r sh h' 0 0 ∧ (∃ (I' : gr_I) (J' : gr_J), h' = gc_h sh I' J' A ∧ gc_Inv ro I' ∧ (∀ q j : Nat, ((q = 39 ∧ j = 3) ∨ (q = 39 ∧ j = 4) ∨ (q = 23 ∧ j = 5) ∨ (q = 23 ∧ j = 6) ∨ (q = 23 ∧ j = 7) ∨ (q = 23 ∧ j = 8) ∨ (q = 39 ∧ j = 12) ∨ (q = 39 ∧ j = 15) ∨ q = 43) ∨ I' q j = I q j) ∧ (∀ q j : Nat, ((q = 23 ∧ j = 9) ∨ q = 44 ∨ q = 45) ∨ J' q j = J q j) ∧ gc_LT I' ∧ gc_TK I' ∧ gc_TO b I' ∧ (∃ z : Int, r = some (.inl z) ∧ 0 ≤ z ∧ z ≤ 1 ∧ (I' 23 1 = I 23 1) ∧ (I 23 5 ≤ I' 23 5) ∧ (I' 39 12 ≤ I' 23 5) ∧ (z = 0 ∨ I' 39 15 = I 39 15) ∧ (I 39 12 ≤ I' 39 12) ∧ (gc_TE z I I') ∧ (gs_TQc β η (gs_tm β η nf9 m9 0 a2 p9) z I I' J')))) (I : gr_I) (J : gr_J) (hI : gc_Inv ro I) (a1 : Int) (a2 : Int) (p9 : Int) (m9 : Int) (ha1 : 0 ≤ a1 ∧ a1 ≤ 95) (ha2 : 1 ≤ a2 ∧ a2 ≤ 40) (x0 : I 39 12 ≤ I 23 5) (x1 : I 39 15 ≤ a2 - 1) (x2 : b ≤ -3 - I 12 (Int.toNat a1)) (x3 : b ≤ -3) (x4 : I 23 7 = 92) (x5 : gc_AT β η p9 23 I J) (x6 : 0 ≤ p9) (x7 : nf9 = I 12 (Int.toNat a1)) (x8 : 4 * (1002 - gs_A β η p9) ≤ m9) (KLT_I : gc_LT I) (KTK_I : gc_TK I) (KTO_I : gc_TO b I) (hnr : (41 - a2).toNat < nr) : ∃ r h', gz_Ev ws0 tb (6 + 2 * nr + 1) (yX6_readBinder, cX6_readBinder, 3, (some .boolean)) [.inr (.inr (some 39)), .inl a1, .inl a2] sh (gc_h sh I J A) r sh h' 0 0 ∧ (∃ (I' : gr_I) (J' : gr_J), h' = gc_h sh I' J' A ∧ gc_Inv ro I' ∧ (∀ q j : Nat, ((q = 39 ∧ j = 3) ∨ (q = 39 ∧ j = 4) ∨ (q = 23 ∧ j = 5) ∨ (q = 23 ∧ j = 6) ∨ (q = 23 ∧ j = 7) ∨ (q = 23 ∧ j = 8) ∨ (q = 39 ∧ j = 12) ∨ (q = 39 ∧ j = 15) ∨ q = 43) ∨ I' q j = I q j) ∧ (∀ q j : Nat, ((q = 23 ∧ j = 9) ∨ q = 44 ∨ q = 45) ∨ J' q j = J q j) ∧ gc_LT I' ∧ gc_TK I' ∧ gc_TO b I' ∧ (∃ z : Int, r = some (.inl z) ∧ 0 ≤ z ∧ z ≤ 1 ∧ (I' 23 1 = I 23 1) ∧ (I 23 5 ≤ I' 23 5) ∧ (I' 39 12 ≤ I' 23 5) ∧ (z = 0 ∨ I' 39 15 = I 39 15) ∧ (I 39 12 ≤ I' 39 12) ∧ (gc_TE z I I') ∧ (gs_TQc β η (gs_tm β η nf9 m9 0 a2 p9) z I I' J'))) := by
  have FI : ∀ q j : Nat, ((q = 39 ∧ j = 3) ∨ (q = 39 ∧ j = 4) ∨ (q = 23 ∧ j = 5) ∨ (q = 23 ∧ j = 6) ∨ (q = 23 ∧ j = 7) ∨ (q = 23 ∧ j = 8) ∨ (q = 39 ∧ j = 12) ∨ (q = 39 ∧ j = 15) ∨ q = 43) ∨ I q j = I q j := fun _ _ => Or.inr rfl
  have FJ : ∀ q j : Nat, ((q = 23 ∧ j = 9) ∨ q = 44 ∨ q = 45) ∨ J q j = J q j := fun _ _ => Or.inr rfl
  have A_39_1 : A 39 1 = some 23 := gc_bA_39_1 hb
  have A_39_16 : A 39 16 = some 45 := gc_bA_39_16 hb
  have B_23 : 23 < 1000000 := by decide
  have B_39 : 39 < 1000000 := by decide
  have B_45 : 45 < 1000000 := by decide
  have R_23 : ro 23 = 3 := gc_bR_23 hb
  have R_39 : ro 39 = 42 := gc_bR_39 hb
  have S_23 : sh[23]? = some (false, 9, 10) := gc_bS_23 hb
  have S_39 : sh[39]? = some (false, 6, 19) := gc_bS_39 hb
  have S_45 : sh[45]? = some (true, 2, 41) := gc_bS_45 hb
  have hD : gv_D (gc_E6 ws0 tb (6 + 2 * nr) (yX6_readBinder, cX6_readBinder, 3, (some .boolean)) kX6_readBinder) := gq_of oX6_readBinder
  refine gc_ev6 (d := (6 + 2 * nr)) (l := kX6_readBinder) (Po := fun r h' => (∃ (I' : gr_I) (J' : gr_J), h' = gc_h sh I' J' A ∧ gc_Inv ro I' ∧ (∀ q j : Nat, ((q = 39 ∧ j = 3) ∨ (q = 39 ∧ j = 4) ∨ (q = 23 ∧ j = 5) ∨ (q = 23 ∧ j = 6) ∨ (q = 23 ∧ j = 7) ∨ (q = 23 ∧ j = 8) ∨ (q = 39 ∧ j = 12) ∨ (q = 39 ∧ j = 15) ∨ q = 43) ∨ I' q j = I q j) ∧ (∀ q j : Nat, ((q = 23 ∧ j = 9) ∨ q = 44 ∨ q = 45) ∨ J' q j = J q j) ∧ gc_LT I' ∧ gc_TK I' ∧ gc_TO b I' ∧ (∃ z : Int, r = some (.inl z) ∧ 0 ≤ z ∧ z ≤ 1 ∧ (I' 23 1 = I 23 1) ∧ (I 23 5 ≤ I' 23 5) ∧ (I' 39 12 ≤ I' 23 5) ∧ (z = 0 ∨ I' 39 15 = I 39 15) ∧ (I 39 12 ≤ I' 39 12) ∧ (gc_TE z I I') ∧ (gs_TQc β η (gs_tm β η nf9 m9 0 a2 p9) z I I' J')))) htb rfl (Nat.le_of_ble_eq_true rfl) ?_
  have t1 := gc_TK_mo KTK_I
  have f2 := (gc_b_3_1 hI R_23)
  have f3 := (gc_b_3_5 hI R_23)
  have f4 := (gc_b_3_6 hI R_23)
  have f5 := (gc_b_3_7 hI R_23)
  have f6 := (gc_b_42_12 hI R_39)
  have f7 := (gc_b_42_15 hI R_39)
  have tAT := gc_AT_l x5
  refine gv_run 1 true hD (pc' := 1) (lv' := [(0, .inr (.inr (some 39))), (1, .inl a1), (2, .inl a2)]) (st' := [.inr (.inr (some 39))]) (h' := gc_h sh I J A) (C := (True ∧ True)) rfl ⟨trivial, trivial⟩ ?_
  refine gv_get hD rfl rfl S_39 ⟨by decide, B_39⟩ (gc_hA S_39 rfl A_39_1) ?_
  show gv_X _ _ (4, [(0, .inr (.inr (some 39))), (1, .inl a1), (2, .inl a2)], [.inr (.inr (some 23))], sh, gc_h sh I J A)
  have t9 := gc_TK_nx KTK_I (by exact gz_m 0 (by omega))
  have t10 := gc_TK_st KTK_I (by exact gz_m 1 (by omega))
  obtain ⟨r8, h8, E8, P8⟩ := d_X9_advance_p (ws0 := ws0) (tb := tb) hws htb sh ro I J A hI 23 β η  (gc_b23 hb)    (by exact gz_m 2 (by omega)) x5.1.1 x5.1.2 
  obtain ⟨I11, J12, rfl, hI11, g8, k8, ⟨rfl, V8_0, V8_1, V8_2, V8_3, V8_4, q8⟩⟩ := P8
  have FI11 := gc_frc (W := fun q j => (q = 39 ∧ j = 3) ∨ (q = 39 ∧ j = 4) ∨ (q = 23 ∧ j = 5) ∨ (q = 23 ∧ j = 6) ∨ (q = 23 ∧ j = 7) ∨ (q = 23 ∧ j = 8) ∨ (q = 39 ∧ j = 12) ∨ (q = 39 ∧ j = 15) ∨ q = 43) (V := fun q j => (q = 23 ∧ j = 5) ∨ (q = 23 ∧ j = 6) ∨ (q = 23 ∧ j = 7) ∨ (q = 23 ∧ j = 8)) FI (fun q j h => (h.elim (fun h => (Or.inr (Or.inr (Or.inl h)))) (fun h => (h.elim (fun h => (Or.inr (Or.inr (Or.inr (Or.inl h))))) (fun h => (h.elim (fun h => (Or.inr (Or.inr (Or.inr (Or.inr (Or.inl h)))))) (fun h => (Or.inr (Or.inr (Or.inr (Or.inr (Or.inr (Or.inl h))))))))))))) g8
  have FJ12 := gc_frc (W := fun q j => (q = 23 ∧ j = 9) ∨ q = 44 ∨ q = 45) (V := fun q j => (q = 23 ∧ j = 9)) FJ (fun q j h => (Or.inl h)) k8
  have t13 := (g8 23 1).resolve_left (fun h => h.elim (fun h => absurd h.2 (by first | exact gz_ne rfl | decide)) (fun h => h.elim (fun h => absurd h.2 (by first | exact gz_ne rfl | decide)) (fun h => h.elim (fun h => absurd h.2 (by first | exact gz_ne rfl | decide)) (fun h => absurd h.2 (by first | exact gz_ne rfl | decide)))))
  have t14 := (g8 39 12).resolve_left (fun h => h.elim (fun h => absurd h.2 (by first | exact gz_ne rfl | decide)) (fun h => h.elim (fun h => absurd h.2 (by first | exact gz_ne rfl | decide)) (fun h => h.elim (fun h => absurd h.2 (by first | exact gz_ne rfl | decide)) (fun h => absurd h.2 (by first | exact gz_ne rfl | decide)))))
  have t15 := (g8 39 15).resolve_left (fun h => h.elim (fun h => absurd h.2 (by first | exact gz_ne rfl | decide)) (fun h => h.elim (fun h => absurd h.2 (by first | exact gz_ne rfl | decide)) (fun h => h.elim (fun h => absurd h.2 (by first | exact gz_ne rfl | decide)) (fun h => absurd h.2 (by first | exact gz_ne rfl | decide)))))
  have t16 := (g8 12 (Int.toNat a1)).resolve_left (fun h => h.elim (fun h => absurd h.1 (by first | exact gz_ne rfl | decide)) (fun h => h.elim (fun h => absurd h.1 (by first | exact gz_ne rfl | decide)) (fun h => h.elim (fun h => absurd h.1 (by first | exact gz_ne rfl | decide)) (fun h => absurd h.1 (by first | exact gz_ne rfl | decide)))))
  have f17 := (gc_b_3_5 hI11 R_23)
  have f18 := (gc_b_3_6 hI11 R_23)
  have f19 := (gc_b_3_7 hI11 R_23)
  have KLT_I11 : gc_LT I11 := q8.2.2.1
  have KTO_I11 := gc_TO_fr KTO_I ((g8 39 12).resolve_left (fun h => h.elim (fun h => absurd h.2 (by first | exact gz_ne rfl | decide)) (fun h => h.elim (fun h => absurd h.2 (by first | exact gz_ne rfl | decide)) (fun h => h.elim (fun h => absurd h.2 (by first | exact gz_ne rfl | decide)) (fun h => absurd h.2 (by first | exact gz_ne rfl | decide)))))) (fun k => (g8 43 k).resolve_left (fun h => h.elim (fun h => absurd h.1 (by first | exact gz_ne rfl | decide)) (fun h => h.elim (fun h => absurd h.1 (by first | exact gz_ne rfl | decide)) (fun h => h.elim (fun h => absurd h.1 (by first | exact gz_ne rfl | decide)) (fun h => absurd h.1 (by first | exact gz_ne rfl | decide))))))
  have KTK_I11 : gc_TK I11 := And.intro V8_0 (And.intro V8_1 (And.intro V8_2 (And.intro V8_3 V8_4)))
  have t20 := gc_TK_mo KTK_I11
  clear V8_0 V8_1 V8_2 V8_3 V8_4
  have A21 := gc_AT_nx x5 q8.2.2.2
  have t22 := gc_AT_l A21
  refine gv_callV hD rfl (As := []) (st := []) rfl B_23 S_23 rfl (gc_lV6 hws rfl) (Nat.le_of_ble_eq_true rfl) (gz_Ev_mono (d := 2) (by exact gz_m 3 (by omega)) E8) ?_
  show gv_X _ _ (7, [(0, .inr (.inr (some 39))), (1, .inl a1), (2, .inl a2)], [], sh, gc_h sh I11 J12 A)
  refine gv_run 2 true hD (pc' := 9) (lv' := [(0, .inr (.inr (some 39))), (1, .inl a1), (2, .inl a2)]) (st' := [.inl 1, .inr (.inr (some 39))]) (h' := gc_h sh I11 J12 A) (C := ((True ∧ True) ∧ True)) rfl ⟨⟨trivial, trivial⟩, trivial⟩ ?_
  obtain ⟨r23, h23, E23, P23⟩ := d_X6_need_p (ws0 := ws0) (tb := tb) hws htb sh ro I11 J12 A hI11  β η (gs_X β η p9) 1 hb   ⟨by exact gz_m 4 (by omega), by exact gz_m 5 (by omega)⟩ A21 (by exact gz_m 6 (by omega)) 
  obtain ⟨I24, J25, rfl, hI24, g23, k23, ⟨z23, rfl, q23⟩⟩ := P23
  have FI24 := gc_frc (W := fun q j => (q = 39 ∧ j = 3) ∨ (q = 39 ∧ j = 4) ∨ (q = 23 ∧ j = 5) ∨ (q = 23 ∧ j = 6) ∨ (q = 23 ∧ j = 7) ∨ (q = 23 ∧ j = 8) ∨ (q = 39 ∧ j = 12) ∨ (q = 39 ∧ j = 15) ∨ q = 43) (V := fun q j => (q = 39 ∧ j = 3) ∨ (q = 39 ∧ j = 4)) FI11 (fun q j h => (h.elim (fun h => (Or.inl h)) (fun h => (Or.inr (Or.inl h))))) g23
  have t26 := (g23 23 1).resolve_left (fun h => h.elim (fun h => absurd h.2 (by first | exact gz_ne rfl | decide)) (fun h => absurd h.2 (by first | exact gz_ne rfl | decide)))
  have t27 := (g23 23 5).resolve_left (fun h => h.elim (fun h => absurd h.2 (by first | exact gz_ne rfl | decide)) (fun h => absurd h.2 (by first | exact gz_ne rfl | decide)))
  have t28 := (g23 23 6).resolve_left (fun h => h.elim (fun h => absurd h.2 (by first | exact gz_ne rfl | decide)) (fun h => absurd h.2 (by first | exact gz_ne rfl | decide)))
  have t29 := (g23 23 7).resolve_left (fun h => h.elim (fun h => absurd h.2 (by first | exact gz_ne rfl | decide)) (fun h => absurd h.2 (by first | exact gz_ne rfl | decide)))
  have t30 := (g23 39 12).resolve_left (fun h => h.elim (fun h => absurd h.2 (by first | exact gz_ne rfl | decide)) (fun h => absurd h.2 (by first | exact gz_ne rfl | decide)))
  have t31 := (g23 39 15).resolve_left (fun h => h.elim (fun h => absurd h.2 (by first | exact gz_ne rfl | decide)) (fun h => absurd h.2 (by first | exact gz_ne rfl | decide)))
  have t32 := (g23 12 (Int.toNat a1)).resolve_left (fun h => h.elim (fun h => absurd h.1 (by first | exact gz_ne rfl | decide)) (fun h => absurd h.1 (by first | exact gz_ne rfl | decide)))
  obtain rfl : J12 = J25 := funext fun q => funext fun j => ((k23 q j).resolve_left id).symm
  have KLT_I24 := gc_LT_fr KLT_I11 ((g23 23 5).resolve_left (fun h => h.elim (fun h => absurd h.2 (by first | exact gz_ne rfl | decide)) (fun h => absurd h.2 (by first | exact gz_ne rfl | decide)))) ((g23 23 6).resolve_left (fun h => h.elim (fun h => absurd h.2 (by first | exact gz_ne rfl | decide)) (fun h => absurd h.2 (by first | exact gz_ne rfl | decide)))) ((g23 23 7).resolve_left (fun h => h.elim (fun h => absurd h.2 (by first | exact gz_ne rfl | decide)) (fun h => absurd h.2 (by first | exact gz_ne rfl | decide)))) (fun k => (g23 24 k).resolve_left (fun h => h.elim (fun h => absurd h.1 (by first | exact gz_ne rfl | decide)) (fun h => absurd h.1 (by first | exact gz_ne rfl | decide))))
  have KTK_I24 := gc_TK_fr KTK_I11 ((g23 23 1).resolve_left (fun h => h.elim (fun h => absurd h.2 (by first | exact gz_ne rfl | decide)) (fun h => absurd h.2 (by first | exact gz_ne rfl | decide)))) ((g23 23 5).resolve_left (fun h => h.elim (fun h => absurd h.2 (by first | exact gz_ne rfl | decide)) (fun h => absurd h.2 (by first | exact gz_ne rfl | decide)))) ((g23 23 6).resolve_left (fun h => h.elim (fun h => absurd h.2 (by first | exact gz_ne rfl | decide)) (fun h => absurd h.2 (by first | exact gz_ne rfl | decide)))) ((g23 23 7).resolve_left (fun h => h.elim (fun h => absurd h.2 (by first | exact gz_ne rfl | decide)) (fun h => absurd h.2 (by first | exact gz_ne rfl | decide))))
  have KTO_I24 := gc_TO_fr KTO_I11 ((g23 39 12).resolve_left (fun h => h.elim (fun h => absurd h.2 (by first | exact gz_ne rfl | decide)) (fun h => absurd h.2 (by first | exact gz_ne rfl | decide)))) (fun k => (g23 43 k).resolve_left (fun h => h.elim (fun h => absurd h.1 (by first | exact gz_ne rfl | decide)) (fun h => absurd h.1 (by first | exact gz_ne rfl | decide))))
  have A33 := gc_AT_I A21 ((g23 23 1).resolve_left (fun h => h.elim (fun h => absurd h.2 (by first | exact gz_ne rfl | decide)) (fun h => absurd h.2 (by first | exact gz_ne rfl | decide)))) ((g23 23 5).resolve_left (fun h => h.elim (fun h => absurd h.2 (by first | exact gz_ne rfl | decide)) (fun h => absurd h.2 (by first | exact gz_ne rfl | decide)))) ((g23 23 6).resolve_left (fun h => h.elim (fun h => absurd h.2 (by first | exact gz_ne rfl | decide)) (fun h => absurd h.2 (by first | exact gz_ne rfl | decide)))) ((g23 23 7).resolve_left (fun h => h.elim (fun h => absurd h.2 (by first | exact gz_ne rfl | decide)) (fun h => absurd h.2 (by first | exact gz_ne rfl | decide)))) ((g23 23 8).resolve_left (fun h => h.elim (fun h => absurd h.2 (by first | exact gz_ne rfl | decide)) (fun h => absurd h.2 (by first | exact gz_ne rfl | decide)))) (fun k => (g23 24 k).resolve_left (fun h => h.elim (fun h => absurd h.1 (by first | exact gz_ne rfl | decide)) (fun h => absurd h.1 (by first | exact gz_ne rfl | decide))))
  have t34 := gc_AT_l A33
  refine gv_callV hD rfl (As := [.inl 1]) (st := []) rfl B_39 S_39 rfl (gc_lV6 hws rfl) (Nat.le_of_ble_eq_true rfl) (gz_Ev_mono (d := 2) (by exact gz_m 7 (by omega)) E23) ?_
  show gv_X _ _ (12, [(0, .inr (.inr (some 39))), (1, .inl a1), (2, .inl a2)], [.inl z23], sh, gc_h sh I24 J12 A)
  refine gv_if_ne (t := 17) hD rfl rfl ⟨by exact gz_m 8 (by omega), by exact gz_m 9 (by omega)⟩ (fun c35 => ?_) (fun c35 => ?_)
  · show gv_X _ _ (17, [(0, .inr (.inr (some 39))), (1, .inl a1), (2, .inl a2)], [], sh, gc_h sh I24 J12 A)
    have u36 := gs_or1 q23.2.2.2 (by exact gz_m 10 (by omega))
    refine gv_run 1 true hD (pc' := 18) (lv' := [(0, .inr (.inr (some 39))), (1, .inl a1), (2, .inl a2)]) (st' := [.inr (.inr (some 39))]) (h' := gc_h sh I24 J12 A) (C := (True ∧ True)) rfl ⟨trivial, trivial⟩ ?_
    refine gv_get hD rfl rfl S_39 ⟨by decide, B_39⟩ (gc_hA S_39 rfl A_39_16) ?_
    show gv_X _ _ (21, [(0, .inr (.inr (some 39))), (1, .inl a1), (2, .inl a2)], [.inr (.inr (some 45))], sh, gc_h sh I24 J12 A)
    refine gv_run 2 true hD (pc' := 23) (lv' := [(0, .inr (.inr (some 39))), (1, .inl a1), (2, .inl a2)]) (st' := [.inr (.inr (some 39)), .inr (.inr (some 39)), .inr (.inr (some 45))]) (h' := gc_h sh I24 J12 A) (C := ((True ∧ True) ∧ True)) rfl ⟨⟨trivial, trivial⟩, trivial⟩ ?_
    have f37 := (gc_b_42_15 hI24 R_39)
    refine gv_get hD rfl rfl S_39 ⟨by decide, B_39⟩ (gc_hI S_39 rfl) ?_
    show gv_X _ _ (26, [(0, .inr (.inr (some 39))), (1, .inl a1), (2, .inl a2)], [.inl (I24 39 15), .inr (.inr (some 39)), .inr (.inr (some 45))], sh, gc_h sh I24 J12 A)
    refine gv_run 3 true hD (pc' := 29) (lv' := [(0, .inr (.inr (some 39))), (1, .inl a1), (2, .inl a2)]) (st' := [.inl ((I24 39 15) + 1), .inr (.inr (some 39)), .inl (I24 39 15), .inr (.inr (some 45))]) (h' := gc_h sh I24 J12 A) (C := (((True ∧ True) ∧ True) ∧ True)) rfl ⟨⟨⟨trivial, trivial⟩, trivial⟩, trivial⟩ ?_
    refine gv_put hD rfl rfl S_39 ⟨by decide, B_39⟩ rfl trivial ?_
    refine gc_st (k := 15) hI24 S_39 rfl R_39 (lo := 0) (hi := 41) rfl rfl (by exact gz_m 11 (by omega)) (by exact gz_m 12 (by omega)) (fun I38 hI38 q39 p39 => ?_)
    have FI38 := gc_frs (W := fun q j => (q = 39 ∧ j = 3) ∨ (q = 39 ∧ j = 4) ∨ (q = 23 ∧ j = 5) ∨ (q = 23 ∧ j = 6) ∨ (q = 23 ∧ j = 7) ∨ (q = 23 ∧ j = 8) ∨ (q = 39 ∧ j = 12) ∨ (q = 39 ∧ j = 15) ∨ q = 43) FI24 (Or.inr (Or.inr (Or.inr (Or.inr (Or.inr (Or.inr (Or.inr (Or.inl ⟨rfl, rfl⟩)))))))) p39
    have t40 := p39 23 1 (fun h => absurd h.2 (by first | exact gz_ne rfl | decide))
    have t41 := p39 23 5 (fun h => absurd h.2 (by first | exact gz_ne rfl | decide))
    have t42 := p39 23 6 (fun h => absurd h.2 (by first | exact gz_ne rfl | decide))
    have t43 := p39 23 7 (fun h => absurd h.2 (by first | exact gz_ne rfl | decide))
    have t44 := p39 39 12 (fun h => absurd h.2 (by first | exact gz_ne rfl | decide))
    have t45 := p39 12 (Int.toNat a1) (fun h => absurd h.1 (by first | exact gz_ne rfl | decide))
    have f46 := (gc_b_42_15 hI38 R_39)
    have KLT_I38 := gc_LT_fr KLT_I24 (p39 23 5 (fun h => absurd h.2 (by first | exact gz_ne rfl | decide))) (p39 23 6 (fun h => absurd h.2 (by first | exact gz_ne rfl | decide))) (p39 23 7 (fun h => absurd h.2 (by first | exact gz_ne rfl | decide))) (fun k => p39 24 k (fun h => absurd h.1 (by first | exact gz_ne rfl | decide)))
    have KTK_I38 := gc_TK_fr KTK_I24 (p39 23 1 (fun h => absurd h.2 (by first | exact gz_ne rfl | decide))) (p39 23 5 (fun h => absurd h.2 (by first | exact gz_ne rfl | decide))) (p39 23 6 (fun h => absurd h.2 (by first | exact gz_ne rfl | decide))) (p39 23 7 (fun h => absurd h.2 (by first | exact gz_ne rfl | decide)))
    have KTO_I38 := gc_TO_fr KTO_I24 (p39 39 12 (fun h => absurd h.2 (by first | exact gz_ne rfl | decide))) (fun k => p39 43 k (fun h => absurd h.1 (by first | exact gz_ne rfl | decide)))
    have A47 := gc_AT_I A33 (p39 23 1 (fun h => absurd h.2 (by first | exact gz_ne rfl | decide))) (p39 23 5 (fun h => absurd h.2 (by first | exact gz_ne rfl | decide))) (p39 23 6 (fun h => absurd h.2 (by first | exact gz_ne rfl | decide))) (p39 23 7 (fun h => absurd h.2 (by first | exact gz_ne rfl | decide))) (p39 23 8 (fun h => absurd h.2 (by first | exact gz_ne rfl | decide))) (fun k => p39 24 k (fun h => absurd h.1 (by first | exact gz_ne rfl | decide)))
    show gv_X _ _ (32, [(0, .inr (.inr (some 39))), (1, .inl a1), (2, .inl a2)], [.inl (I24 39 15), .inr (.inr (some 45))], sh, gc_h sh I38 J12 A)
    refine gv_run 1 true hD (pc' := 33) (lv' := [(0, .inr (.inr (some 39))), (1, .inl a1), (2, .inl a2)]) (st' := [.inr (.inr (some 39)), .inl (I24 39 15), .inr (.inr (some 45))]) (h' := gc_h sh I38 J12 A) (C := (True ∧ True)) rfl ⟨trivial, trivial⟩ ?_
    refine gv_get hD rfl rfl S_39 ⟨by decide, B_39⟩ (gc_hA S_39 rfl A_39_1) ?_
    show gv_X _ _ (36, [(0, .inr (.inr (some 39))), (1, .inl a1), (2, .inl a2)], [.inr (.inr (some 23)), .inl (I24 39 15), .inr (.inr (some 45))], sh, gc_h sh I38 J12 A)
    refine gv_get hD rfl rfl S_23 ⟨by decide, B_23⟩ (gc_hJ S_23 rfl) ?_
    show gv_X _ _ (39, [(0, .inr (.inr (some 39))), (1, .inl a1), (2, .inl a2)], [.inr (.inl (J12 23 9)), .inl (I24 39 15), .inr (.inr (some 45))], sh, gc_h sh I38 J12 A)
    refine gv_last hD rfl S_45 ⟨by decide, B_45⟩ ⟨by exact gz_m 13 (by omega), by exact gz_m 14 (by omega)⟩ ?_
    refine gc_stJ S_45 rfl (fun J48 q49 p49 => ?_)
    have FJ48 := gc_frs (W := fun q j => (q = 23 ∧ j = 9) ∨ q = 44 ∨ q = 45) FJ12 (Or.inr (Or.inr rfl)) p49
    have A50 := gc_AT_J A47 (p49 23 9 (fun h => absurd h.1 (by first | exact gz_ne rfl | decide)))
    show gv_X _ _ (40, [(0, .inr (.inr (some 39))), (1, .inl a1), (2, .inl a2)], [], sh, gc_h sh I38 J48 A)
    refine gv_run 2 true hD (pc' := 42) (lv' := [(0, .inr (.inr (some 39))), (1, .inl a1), (2, .inl a2)]) (st' := [.inr (.inr (some 39)), .inr (.inr (some 39))]) (h' := gc_h sh I38 J48 A) (C := ((True ∧ True) ∧ True)) rfl ⟨⟨trivial, trivial⟩, trivial⟩ ?_
    have f51 := (gc_b_42_12 hI38 R_39)
    refine gv_get hD rfl rfl S_39 ⟨by decide, B_39⟩ (gc_hI S_39 rfl) ?_
    show gv_X _ _ (45, [(0, .inr (.inr (some 39))), (1, .inl a1), (2, .inl a2)], [.inl (I38 39 12), .inr (.inr (some 39))], sh, gc_h sh I38 J48 A)
    refine gv_run 2 true hD (pc' := 48) (lv' := [(0, .inr (.inr (some 39))), (1, .inl a1), (2, .inl a2)]) (st' := [.inr (.inl (Int64.ofNat 0)), .inl (-2), .inl (I38 39 12), .inr (.inr (some 39))]) (h' := gc_h sh I38 J48 A) (C := ((True ∧ True) ∧ True)) rfl ⟨⟨trivial, trivial⟩, trivial⟩ ?_
    obtain ⟨r52, h52, E52, P52⟩ := d_X6_putNode (ws0 := ws0) (tb := tb) hws htb sh ro I38 J48 A hI38  b (I38 39 12) (-2) (Int64.ofNat 0) hb   ⟨by exact gz_m 15 (by omega), by exact gz_m 16 (by omega)⟩ ⟨by exact gz_m 17 (by omega), by exact gz_m 18 (by omega)⟩ (by exact gz_m 19 (by omega)) (by exact gz_m 20 (by omega)) (by exact gz_m 21 (by omega)) KTO_I38
    obtain ⟨I53, J54, rfl, hI53, g52, k52, KTO_I53, ⟨rfl, q52⟩⟩ := P52
    have FI53 := gc_frc (W := fun q j => (q = 39 ∧ j = 3) ∨ (q = 39 ∧ j = 4) ∨ (q = 23 ∧ j = 5) ∨ (q = 23 ∧ j = 6) ∨ (q = 23 ∧ j = 7) ∨ (q = 23 ∧ j = 8) ∨ (q = 39 ∧ j = 12) ∨ (q = 39 ∧ j = 15) ∨ q = 43) (V := fun q j => (q = 39 ∧ j = 12) ∨ q = 43) FI38 (fun q j h => (h.elim (fun h => (Or.inr (Or.inr (Or.inr (Or.inr (Or.inr (Or.inr (Or.inl h)))))))) (fun h => (Or.inr (Or.inr (Or.inr (Or.inr (Or.inr (Or.inr (Or.inr (Or.inr h))))))))))) g52
    have FJ54 := gc_frc (W := fun q j => (q = 23 ∧ j = 9) ∨ q = 44 ∨ q = 45) (V := fun q j => q = 44) FJ48 (fun q j h => (Or.inr (Or.inl h))) k52
    have t55 := (g52 23 1).resolve_left (fun h => h.elim (fun h => absurd h.2 (by first | exact gz_ne rfl | decide)) (fun h => absurd h (by first | exact gz_ne rfl | decide)))
    have t56 := (g52 23 5).resolve_left (fun h => h.elim (fun h => absurd h.2 (by first | exact gz_ne rfl | decide)) (fun h => absurd h (by first | exact gz_ne rfl | decide)))
    have t57 := (g52 23 6).resolve_left (fun h => h.elim (fun h => absurd h.2 (by first | exact gz_ne rfl | decide)) (fun h => absurd h (by first | exact gz_ne rfl | decide)))
    have t58 := (g52 23 7).resolve_left (fun h => h.elim (fun h => absurd h.2 (by first | exact gz_ne rfl | decide)) (fun h => absurd h (by first | exact gz_ne rfl | decide)))
    have t59 := (g52 39 15).resolve_left (fun h => h.elim (fun h => absurd h.2 (by first | exact gz_ne rfl | decide)) (fun h => absurd h (by first | exact gz_ne rfl | decide)))
    have t60 := (g52 12 (Int.toNat a1)).resolve_left (fun h => h.elim (fun h => absurd h.1 (by first | exact gz_ne rfl | decide)) (fun h => absurd h (by first | exact gz_ne rfl | decide)))
    have f61 := (gc_b_42_12 hI53 R_39)
    have KLT_I53 := gc_LT_fr KLT_I38 ((g52 23 5).resolve_left (fun h => h.elim (fun h => absurd h.2 (by first | exact gz_ne rfl | decide)) (fun h => absurd h (by first | exact gz_ne rfl | decide)))) ((g52 23 6).resolve_left (fun h => h.elim (fun h => absurd h.2 (by first | exact gz_ne rfl | decide)) (fun h => absurd h (by first | exact gz_ne rfl | decide)))) ((g52 23 7).resolve_left (fun h => h.elim (fun h => absurd h.2 (by first | exact gz_ne rfl | decide)) (fun h => absurd h (by first | exact gz_ne rfl | decide)))) (fun k => (g52 24 k).resolve_left (fun h => h.elim (fun h => absurd h.1 (by first | exact gz_ne rfl | decide)) (fun h => absurd h (by first | exact gz_ne rfl | decide))))
    have KTK_I53 := gc_TK_fr KTK_I38 ((g52 23 1).resolve_left (fun h => h.elim (fun h => absurd h.2 (by first | exact gz_ne rfl | decide)) (fun h => absurd h (by first | exact gz_ne rfl | decide)))) ((g52 23 5).resolve_left (fun h => h.elim (fun h => absurd h.2 (by first | exact gz_ne rfl | decide)) (fun h => absurd h (by first | exact gz_ne rfl | decide)))) ((g52 23 6).resolve_left (fun h => h.elim (fun h => absurd h.2 (by first | exact gz_ne rfl | decide)) (fun h => absurd h (by first | exact gz_ne rfl | decide)))) ((g52 23 7).resolve_left (fun h => h.elim (fun h => absurd h.2 (by first | exact gz_ne rfl | decide)) (fun h => absurd h (by first | exact gz_ne rfl | decide))))
    have A62 := gc_AT_I A50 ((g52 23 1).resolve_left (fun h => h.elim (fun h => absurd h.2 (by first | exact gz_ne rfl | decide)) (fun h => absurd h (by first | exact gz_ne rfl | decide)))) ((g52 23 5).resolve_left (fun h => h.elim (fun h => absurd h.2 (by first | exact gz_ne rfl | decide)) (fun h => absurd h (by first | exact gz_ne rfl | decide)))) ((g52 23 6).resolve_left (fun h => h.elim (fun h => absurd h.2 (by first | exact gz_ne rfl | decide)) (fun h => absurd h (by first | exact gz_ne rfl | decide)))) ((g52 23 7).resolve_left (fun h => h.elim (fun h => absurd h.2 (by first | exact gz_ne rfl | decide)) (fun h => absurd h (by first | exact gz_ne rfl | decide)))) ((g52 23 8).resolve_left (fun h => h.elim (fun h => absurd h.2 (by first | exact gz_ne rfl | decide)) (fun h => absurd h (by first | exact gz_ne rfl | decide)))) (fun k => (g52 24 k).resolve_left (fun h => h.elim (fun h => absurd h.1 (by first | exact gz_ne rfl | decide)) (fun h => absurd h (by first | exact gz_ne rfl | decide))))
    have A63 := gc_AT_J A62 ((k52 23 9).resolve_left (fun h => absurd h (by first | exact gz_ne rfl | decide)))
    have t64 := gc_AT_l A63
    refine gv_callV hD rfl (As := [.inl (I38 39 12), .inl (-2), .inr (.inl (Int64.ofNat 0))]) (st := []) rfl B_39 S_39 rfl (gc_lV6 hws rfl) (Nat.le_of_ble_eq_true rfl) (gz_Ev_mono (d := 1) (by exact gz_m 22 (by omega)) E52) ?_
    show gv_X _ _ (51, [(0, .inr (.inr (some 39))), (1, .inl a1), (2, .inl a2)], [], sh, gc_h sh I53 J54 A)
    refine gv_run 1 true hD (pc' := 52) (lv' := [(0, .inr (.inr (some 39))), (1, .inl a1), (2, .inl a2)]) (st' := [.inr (.inr (some 39))]) (h' := gc_h sh I53 J54 A) (C := (True ∧ True)) rfl ⟨trivial, trivial⟩ ?_
    refine gv_get hD rfl rfl S_39 ⟨by decide, B_39⟩ (gc_hA S_39 rfl A_39_1) ?_
    show gv_X _ _ (55, [(0, .inr (.inr (some 39))), (1, .inl a1), (2, .inl a2)], [.inr (.inr (some 23))], sh, gc_h sh I53 J54 A)
    have t66 := gc_TK_nx KTK_I53 (by exact gz_m 23 (by omega))
    have t67 := gc_TK_st KTK_I53 (by exact gz_m 24 (by omega))
    obtain ⟨r65, h65, E65, P65⟩ := d_X9_advance_p (ws0 := ws0) (tb := tb) hws htb sh ro I53 J54 A hI53 23 β η  (gc_b23 hb)    (by exact gz_m 25 (by omega)) A63.1.1 A63.1.2 
    obtain ⟨I68, J69, rfl, hI68, g65, k65, ⟨rfl, V65_0, V65_1, V65_2, V65_3, V65_4, q65⟩⟩ := P65
    have FI68 := gc_frc (W := fun q j => (q = 39 ∧ j = 3) ∨ (q = 39 ∧ j = 4) ∨ (q = 23 ∧ j = 5) ∨ (q = 23 ∧ j = 6) ∨ (q = 23 ∧ j = 7) ∨ (q = 23 ∧ j = 8) ∨ (q = 39 ∧ j = 12) ∨ (q = 39 ∧ j = 15) ∨ q = 43) (V := fun q j => (q = 23 ∧ j = 5) ∨ (q = 23 ∧ j = 6) ∨ (q = 23 ∧ j = 7) ∨ (q = 23 ∧ j = 8)) FI53 (fun q j h => (h.elim (fun h => (Or.inr (Or.inr (Or.inl h)))) (fun h => (h.elim (fun h => (Or.inr (Or.inr (Or.inr (Or.inl h))))) (fun h => (h.elim (fun h => (Or.inr (Or.inr (Or.inr (Or.inr (Or.inl h)))))) (fun h => (Or.inr (Or.inr (Or.inr (Or.inr (Or.inr (Or.inl h))))))))))))) g65
    have FJ69 := gc_frc (W := fun q j => (q = 23 ∧ j = 9) ∨ q = 44 ∨ q = 45) (V := fun q j => (q = 23 ∧ j = 9)) FJ54 (fun q j h => (Or.inl h)) k65
    have t70 := (g65 23 1).resolve_left (fun h => h.elim (fun h => absurd h.2 (by first | exact gz_ne rfl | decide)) (fun h => h.elim (fun h => absurd h.2 (by first | exact gz_ne rfl | decide)) (fun h => h.elim (fun h => absurd h.2 (by first | exact gz_ne rfl | decide)) (fun h => absurd h.2 (by first | exact gz_ne rfl | decide)))))
    have t71 := (g65 39 12).resolve_left (fun h => h.elim (fun h => absurd h.2 (by first | exact gz_ne rfl | decide)) (fun h => h.elim (fun h => absurd h.2 (by first | exact gz_ne rfl | decide)) (fun h => h.elim (fun h => absurd h.2 (by first | exact gz_ne rfl | decide)) (fun h => absurd h.2 (by first | exact gz_ne rfl | decide)))))
    have t72 := (g65 39 15).resolve_left (fun h => h.elim (fun h => absurd h.2 (by first | exact gz_ne rfl | decide)) (fun h => h.elim (fun h => absurd h.2 (by first | exact gz_ne rfl | decide)) (fun h => h.elim (fun h => absurd h.2 (by first | exact gz_ne rfl | decide)) (fun h => absurd h.2 (by first | exact gz_ne rfl | decide)))))
    have t73 := (g65 12 (Int.toNat a1)).resolve_left (fun h => h.elim (fun h => absurd h.1 (by first | exact gz_ne rfl | decide)) (fun h => h.elim (fun h => absurd h.1 (by first | exact gz_ne rfl | decide)) (fun h => h.elim (fun h => absurd h.1 (by first | exact gz_ne rfl | decide)) (fun h => absurd h.1 (by first | exact gz_ne rfl | decide)))))
    have f74 := (gc_b_3_5 hI68 R_23)
    have f75 := (gc_b_3_6 hI68 R_23)
    have f76 := (gc_b_3_7 hI68 R_23)
    have KLT_I68 : gc_LT I68 := q65.2.2.1
    have KTO_I68 := gc_TO_fr KTO_I53 ((g65 39 12).resolve_left (fun h => h.elim (fun h => absurd h.2 (by first | exact gz_ne rfl | decide)) (fun h => h.elim (fun h => absurd h.2 (by first | exact gz_ne rfl | decide)) (fun h => h.elim (fun h => absurd h.2 (by first | exact gz_ne rfl | decide)) (fun h => absurd h.2 (by first | exact gz_ne rfl | decide)))))) (fun k => (g65 43 k).resolve_left (fun h => h.elim (fun h => absurd h.1 (by first | exact gz_ne rfl | decide)) (fun h => h.elim (fun h => absurd h.1 (by first | exact gz_ne rfl | decide)) (fun h => h.elim (fun h => absurd h.1 (by first | exact gz_ne rfl | decide)) (fun h => absurd h.1 (by first | exact gz_ne rfl | decide))))))
    have KTK_I68 : gc_TK I68 := And.intro V65_0 (And.intro V65_1 (And.intro V65_2 (And.intro V65_3 V65_4)))
    have t77 := gc_TK_mo KTK_I68
    clear V65_0 V65_1 V65_2 V65_3 V65_4
    have A78 := gc_AT_nx A63 q65.2.2.2
    have t79 := gc_AT_l A78
    refine gv_callV hD rfl (As := []) (st := []) rfl B_23 S_23 rfl (gc_lV6 hws rfl) (Nat.le_of_ble_eq_true rfl) (gz_Ev_mono (d := 2) (by exact gz_m 26 (by omega)) E65) ?_
    show gv_X _ _ (58, [(0, .inr (.inr (some 39))), (1, .inl a1), (2, .inl a2)], [], sh, gc_h sh I68 J69 A)
    refine gv_run 2 true hD (pc' := 61) (lv' := [(0, .inr (.inr (some 39))), (1, .inl a1), (2, .inl a2)]) (st' := [.inl 46, .inr (.inr (some 39))]) (h' := gc_h sh I68 J69 A) (C := ((True ∧ True) ∧ True)) rfl ⟨⟨trivial, trivial⟩, trivial⟩ ?_
    obtain ⟨r80, h80, E80, P80⟩ := d_X6_take_p (ws0 := ws0) (tb := tb) hws htb sh ro I68 J69 A hI68  β η ((gs_X β η (gs_X β η p9))) 46 hb   ⟨by exact gz_m 27 (by omega), by exact gz_m 28 (by omega)⟩ (by exact gz_m 29 (by omega)) A78 (by exact gz_m 30 (by omega)) KLT_I68 KTK_I68
    obtain ⟨I81, J82, rfl, hI81, g80, k80, KLT_I81, KTK_I81, ⟨z80, rfl, q80⟩⟩ := P80
    have FI81 := gc_frc (W := fun q j => (q = 39 ∧ j = 3) ∨ (q = 39 ∧ j = 4) ∨ (q = 23 ∧ j = 5) ∨ (q = 23 ∧ j = 6) ∨ (q = 23 ∧ j = 7) ∨ (q = 23 ∧ j = 8) ∨ (q = 39 ∧ j = 12) ∨ (q = 39 ∧ j = 15) ∨ q = 43) (V := fun q j => (q = 39 ∧ j = 3) ∨ (q = 39 ∧ j = 4) ∨ (q = 23 ∧ j = 5) ∨ (q = 23 ∧ j = 6) ∨ (q = 23 ∧ j = 7) ∨ (q = 23 ∧ j = 8)) FI68 (fun q j h => (h.elim (fun h => (Or.inl h)) (fun h => (h.elim (fun h => (Or.inr (Or.inl h))) (fun h => (h.elim (fun h => (Or.inr (Or.inr (Or.inl h)))) (fun h => (h.elim (fun h => (Or.inr (Or.inr (Or.inr (Or.inl h))))) (fun h => (h.elim (fun h => (Or.inr (Or.inr (Or.inr (Or.inr (Or.inl h)))))) (fun h => (Or.inr (Or.inr (Or.inr (Or.inr (Or.inr (Or.inl h))))))))))))))))) g80
    have FJ82 := gc_frc (W := fun q j => (q = 23 ∧ j = 9) ∨ q = 44 ∨ q = 45) (V := fun q j => (q = 23 ∧ j = 9)) FJ69 (fun q j h => (Or.inl h)) k80
    have t83 := (g80 23 1).resolve_left (fun h => h.elim (fun h => absurd h.2 (by first | exact gz_ne rfl | decide)) (fun h => h.elim (fun h => absurd h.2 (by first | exact gz_ne rfl | decide)) (fun h => h.elim (fun h => absurd h.2 (by first | exact gz_ne rfl | decide)) (fun h => h.elim (fun h => absurd h.2 (by first | exact gz_ne rfl | decide)) (fun h => h.elim (fun h => absurd h.2 (by first | exact gz_ne rfl | decide)) (fun h => absurd h.2 (by first | exact gz_ne rfl | decide)))))))
    have t84 := (g80 39 12).resolve_left (fun h => h.elim (fun h => absurd h.2 (by first | exact gz_ne rfl | decide)) (fun h => h.elim (fun h => absurd h.2 (by first | exact gz_ne rfl | decide)) (fun h => h.elim (fun h => absurd h.2 (by first | exact gz_ne rfl | decide)) (fun h => h.elim (fun h => absurd h.2 (by first | exact gz_ne rfl | decide)) (fun h => h.elim (fun h => absurd h.2 (by first | exact gz_ne rfl | decide)) (fun h => absurd h.2 (by first | exact gz_ne rfl | decide)))))))
    have t85 := (g80 39 15).resolve_left (fun h => h.elim (fun h => absurd h.2 (by first | exact gz_ne rfl | decide)) (fun h => h.elim (fun h => absurd h.2 (by first | exact gz_ne rfl | decide)) (fun h => h.elim (fun h => absurd h.2 (by first | exact gz_ne rfl | decide)) (fun h => h.elim (fun h => absurd h.2 (by first | exact gz_ne rfl | decide)) (fun h => h.elim (fun h => absurd h.2 (by first | exact gz_ne rfl | decide)) (fun h => absurd h.2 (by first | exact gz_ne rfl | decide)))))))
    have t86 := (g80 12 (Int.toNat a1)).resolve_left (fun h => h.elim (fun h => absurd h.1 (by first | exact gz_ne rfl | decide)) (fun h => h.elim (fun h => absurd h.1 (by first | exact gz_ne rfl | decide)) (fun h => h.elim (fun h => absurd h.1 (by first | exact gz_ne rfl | decide)) (fun h => h.elim (fun h => absurd h.1 (by first | exact gz_ne rfl | decide)) (fun h => h.elim (fun h => absurd h.1 (by first | exact gz_ne rfl | decide)) (fun h => absurd h.1 (by first | exact gz_ne rfl | decide)))))))
    have f87 := (gc_b_3_5 hI81 R_23)
    have f88 := (gc_b_3_6 hI81 R_23)
    have f89 := (gc_b_3_7 hI81 R_23)
    have t90 := gc_TK_mo KTK_I81
    have KTO_I81 := gc_TO_fr KTO_I68 ((g80 39 12).resolve_left (fun h => h.elim (fun h => absurd h.2 (by first | exact gz_ne rfl | decide)) (fun h => h.elim (fun h => absurd h.2 (by first | exact gz_ne rfl | decide)) (fun h => h.elim (fun h => absurd h.2 (by first | exact gz_ne rfl | decide)) (fun h => h.elim (fun h => absurd h.2 (by first | exact gz_ne rfl | decide)) (fun h => h.elim (fun h => absurd h.2 (by first | exact gz_ne rfl | decide)) (fun h => absurd h.2 (by first | exact gz_ne rfl | decide)))))))) (fun k => (g80 43 k).resolve_left (fun h => h.elim (fun h => absurd h.1 (by first | exact gz_ne rfl | decide)) (fun h => h.elim (fun h => absurd h.1 (by first | exact gz_ne rfl | decide)) (fun h => h.elim (fun h => absurd h.1 (by first | exact gz_ne rfl | decide)) (fun h => h.elim (fun h => absurd h.1 (by first | exact gz_ne rfl | decide)) (fun h => h.elim (fun h => absurd h.1 (by first | exact gz_ne rfl | decide)) (fun h => absurd h.1 (by first | exact gz_ne rfl | decide))))))))
    refine gv_callV hD rfl (As := [.inl 46]) (st := []) rfl B_39 S_39 rfl (gc_lV6 hws rfl) (Nat.le_of_ble_eq_true rfl) (gz_Ev_mono (d := 3) (by exact gz_m 31 (by omega)) E80) ?_
    show gv_X _ _ (64, [(0, .inr (.inr (some 39))), (1, .inl a1), (2, .inl a2)], [.inl z80], sh, gc_h sh I81 J82 A)
    refine gv_if_eq (t := 78) hD rfl rfl ⟨by exact gz_m 32 (by omega), by exact gz_m 33 (by omega)⟩ (fun c91 => ?_) (fun c91 => ?_)
    · show gv_X _ _ (78, [(0, .inr (.inr (some 39))), (1, .inl a1), (2, .inl a2)], [], sh, gc_h sh I81 J82 A)
      obtain ⟨u92, u92_⟩ := gs_or0 q80.2.2.2.2.2 (by exact gz_m 34 (by omega))
      refine gv_run 1 true hD (pc' := 79) (lv' := [(0, .inr (.inr (some 39))), (1, .inl a1), (2, .inl a2)]) (st' := [.inl 0]) (h' := gc_h sh I81 J82 A) (C := (True ∧ True)) rfl ⟨trivial, trivial⟩ ?_
      exact gv_zret hD rfl (by exact gz_m 35 (by omega)) ⟨I81, J82, rfl, hI81, FI81, FJ82, KLT_I81, KTK_I81, KTO_I81, ⟨_, rfl, by exact gz_m 36 (by omega), by exact gz_m 37 (by omega), by exact gz_m 38 (by omega), by exact gz_m 39 (by omega), by exact gz_m 40 (by omega), by exact gz_m 41 (by omega), by exact gz_m 42 (by omega), (Or.inl (by exact gz_m 43 (by omega))), (gs_TQc_n (gs_bi_d (by exact gz_m 44 (by omega)) (by exact gz_m 45 (by omega)) (by exact gz_m 46 (by omega)) (by exact gz_m 47 (by omega)) (by exact gz_m 48 (by omega))) (by exact gz_m 49 (by omega)) (by exact gz_m 50 (by omega)) (by exact gz_m 51 (by omega)))⟩⟩
    · show gv_X _ _ (67, [(0, .inr (.inr (some 39))), (1, .inl a1), (2, .inl a2)], [], sh, gc_h sh I81 J82 A)
      obtain ⟨u93, A93⟩ := gs_or1 q80.2.2.2.2.2 (by exact gz_m 52 (by omega))
      have t94 := gc_AT_l A93
      refine gv_run 5 true hD (pc' := 72) (lv' := [(0, .inr (.inr (some 39))), (1, .inl a1), (2, .inl a2)]) (st' := [.inl (a2 + 1), .inl a1, .inr (.inr (some 39))]) (h' := gc_h sh I81 J82 A) (C := (((((True ∧ True) ∧ True) ∧ True) ∧ True) ∧ True)) rfl ⟨⟨⟨⟨⟨trivial, trivial⟩, trivial⟩, trivial⟩, trivial⟩, trivial⟩ ?_
      obtain ⟨r95, h95, E95, P95⟩ := ihR I81 J82 hI81 a1 (a2 + 1) ((gs_need β η 46 (gs_X β η (gs_X β η p9)))) (m9 - 1) ⟨by exact gz_m 53 (by omega), by exact gz_m 54 (by omega)⟩ ⟨by exact gz_m 55 (by omega), by exact gz_m 56 (by omega)⟩ (by exact gz_m 57 (by omega)) (by exact gz_m 58 (by omega)) (by exact gz_m 59 (by omega)) (by exact gz_m 60 (by omega)) A93 (by exact gz_m 61 (by omega)) (by exact gz_m 62 (by omega)) (by exact gz_m 63 (by omega)) KLT_I81 KTK_I81 KTO_I81 (by exact gz_m 64 (by omega))
      obtain ⟨I96, J97, rfl, hI96, g95, k95, KLT_I96, KTK_I96, KTO_I96, ⟨z95, rfl, q95⟩⟩ := P95
      have FI96 := gc_frc (W := fun q j => (q = 39 ∧ j = 3) ∨ (q = 39 ∧ j = 4) ∨ (q = 23 ∧ j = 5) ∨ (q = 23 ∧ j = 6) ∨ (q = 23 ∧ j = 7) ∨ (q = 23 ∧ j = 8) ∨ (q = 39 ∧ j = 12) ∨ (q = 39 ∧ j = 15) ∨ q = 43) (V := fun q j => (q = 39 ∧ j = 3) ∨ (q = 39 ∧ j = 4) ∨ (q = 23 ∧ j = 5) ∨ (q = 23 ∧ j = 6) ∨ (q = 23 ∧ j = 7) ∨ (q = 23 ∧ j = 8) ∨ (q = 39 ∧ j = 12) ∨ (q = 39 ∧ j = 15) ∨ q = 43) FI81 (fun q j h => (h.elim (fun h => (Or.inl h)) (fun h => (h.elim (fun h => (Or.inr (Or.inl h))) (fun h => (h.elim (fun h => (Or.inr (Or.inr (Or.inl h)))) (fun h => (h.elim (fun h => (Or.inr (Or.inr (Or.inr (Or.inl h))))) (fun h => (h.elim (fun h => (Or.inr (Or.inr (Or.inr (Or.inr (Or.inl h)))))) (fun h => (h.elim (fun h => (Or.inr (Or.inr (Or.inr (Or.inr (Or.inr (Or.inl h))))))) (fun h => (h.elim (fun h => (Or.inr (Or.inr (Or.inr (Or.inr (Or.inr (Or.inr (Or.inl h)))))))) (fun h => (h.elim (fun h => (Or.inr (Or.inr (Or.inr (Or.inr (Or.inr (Or.inr (Or.inr (Or.inl h))))))))) (fun h => (Or.inr (Or.inr (Or.inr (Or.inr (Or.inr (Or.inr (Or.inr (Or.inr h))))))))))))))))))))))))) g95
      have FJ97 := gc_frc (W := fun q j => (q = 23 ∧ j = 9) ∨ q = 44 ∨ q = 45) (V := fun q j => (q = 23 ∧ j = 9) ∨ q = 44 ∨ q = 45) FJ82 (fun q j h => (h.elim (fun h => (Or.inl h)) (fun h => (h.elim (fun h => (Or.inr (Or.inl h))) (fun h => (Or.inr (Or.inr h))))))) k95
      have t98 := (g95 23 1).resolve_left (fun h => h.elim (fun h => absurd h.2 (by first | exact gz_ne rfl | decide)) (fun h => h.elim (fun h => absurd h.2 (by first | exact gz_ne rfl | decide)) (fun h => h.elim (fun h => absurd h.2 (by first | exact gz_ne rfl | decide)) (fun h => h.elim (fun h => absurd h.2 (by first | exact gz_ne rfl | decide)) (fun h => h.elim (fun h => absurd h.2 (by first | exact gz_ne rfl | decide)) (fun h => h.elim (fun h => absurd h.2 (by first | exact gz_ne rfl | decide)) (fun h => h.elim (fun h => absurd h.2 (by first | exact gz_ne rfl | decide)) (fun h => h.elim (fun h => absurd h.2 (by first | exact gz_ne rfl | decide)) (fun h => absurd h (by first | exact gz_ne rfl | decide))))))))))
      have t99 := (g95 12 (Int.toNat a1)).resolve_left (fun h => h.elim (fun h => absurd h.1 (by first | exact gz_ne rfl | decide)) (fun h => h.elim (fun h => absurd h.1 (by first | exact gz_ne rfl | decide)) (fun h => h.elim (fun h => absurd h.1 (by first | exact gz_ne rfl | decide)) (fun h => h.elim (fun h => absurd h.1 (by first | exact gz_ne rfl | decide)) (fun h => h.elim (fun h => absurd h.1 (by first | exact gz_ne rfl | decide)) (fun h => h.elim (fun h => absurd h.1 (by first | exact gz_ne rfl | decide)) (fun h => h.elim (fun h => absurd h.1 (by first | exact gz_ne rfl | decide)) (fun h => h.elim (fun h => absurd h.1 (by first | exact gz_ne rfl | decide)) (fun h => absurd h (by first | exact gz_ne rfl | decide))))))))))
      have f100 := (gc_b_3_5 hI96 R_23)
      have f101 := (gc_b_3_6 hI96 R_23)
      have f102 := (gc_b_3_7 hI96 R_23)
      have f103 := (gc_b_42_12 hI96 R_39)
      have f104 := (gc_b_42_15 hI96 R_39)
      have t105 := gc_TK_mo KTK_I96
      refine gv_callV hD rfl (As := [.inl a1, .inl (a2 + 1)]) (st := []) rfl B_39 S_39 rfl (gc_lV6 hws rfl) (Nat.le_of_ble_eq_true rfl) (gz_Ev_mono (d := (6 + 2 * nr)) (Nat.le_refl _) E95) ?_
      show gv_X _ _ (75, [(0, .inr (.inr (some 39))), (1, .inl a1), (2, .inl a2)], [.inl z95], sh, gc_h sh I96 J97 A)
      refine gv_if_ne (t := 80) hD rfl rfl ⟨by exact gz_m 65 (by omega), by exact gz_m 66 (by omega)⟩ (fun c106 => ?_) (fun c106 => ?_)
      · show gv_X _ _ (80, [(0, .inr (.inr (some 39))), (1, .inl a1), (2, .inl a2)], [], sh, gc_h sh I96 J97 A)
        obtain ⟨u107, A107, U107⟩ := gs_TQc_1 q95.2.2.2.2.2.2.2.2 (by exact gz_m 67 (by omega))
        have t108 := gc_AT_l A107
        refine gv_run 2 true hD (pc' := 82) (lv' := [(0, .inr (.inr (some 39))), (1, .inl a1), (2, .inl a2)]) (st' := [.inr (.inr (some 39)), .inr (.inr (some 39))]) (h' := gc_h sh I96 J97 A) (C := ((True ∧ True) ∧ True)) rfl ⟨⟨trivial, trivial⟩, trivial⟩ ?_
        have f109 := (gc_b_42_15 hI96 R_39)
        refine gv_get hD rfl rfl S_39 ⟨by decide, B_39⟩ (gc_hI S_39 rfl) ?_
        show gv_X _ _ (85, [(0, .inr (.inr (some 39))), (1, .inl a1), (2, .inl a2)], [.inl (I96 39 15), .inr (.inr (some 39))], sh, gc_h sh I96 J97 A)
        refine gv_run 2 true hD (pc' := 87) (lv' := [(0, .inr (.inr (some 39))), (1, .inl a1), (2, .inl a2)]) (st' := [.inl ((I96 39 15) - 1), .inr (.inr (some 39))]) (h' := gc_h sh I96 J97 A) (C := ((True ∧ True) ∧ True)) rfl ⟨⟨trivial, trivial⟩, trivial⟩ ?_
        refine gv_put hD rfl rfl S_39 ⟨by decide, B_39⟩ rfl trivial ?_
        refine gc_st (k := 15) hI96 S_39 rfl R_39 (lo := 0) (hi := 41) rfl rfl (by exact gz_m 68 (by omega)) (by exact gz_m 69 (by omega)) (fun I110 hI110 q111 p111 => ?_)
        have FI110 := gc_frs (W := fun q j => (q = 39 ∧ j = 3) ∨ (q = 39 ∧ j = 4) ∨ (q = 23 ∧ j = 5) ∨ (q = 23 ∧ j = 6) ∨ (q = 23 ∧ j = 7) ∨ (q = 23 ∧ j = 8) ∨ (q = 39 ∧ j = 12) ∨ (q = 39 ∧ j = 15) ∨ q = 43) FI96 (Or.inr (Or.inr (Or.inr (Or.inr (Or.inr (Or.inr (Or.inr (Or.inl ⟨rfl, rfl⟩)))))))) p111
        have t112 := p111 23 1 (fun h => absurd h.2 (by first | exact gz_ne rfl | decide))
        have t113 := p111 23 5 (fun h => absurd h.2 (by first | exact gz_ne rfl | decide))
        have t114 := p111 23 6 (fun h => absurd h.2 (by first | exact gz_ne rfl | decide))
        have t115 := p111 23 7 (fun h => absurd h.2 (by first | exact gz_ne rfl | decide))
        have t116 := p111 39 12 (fun h => absurd h.2 (by first | exact gz_ne rfl | decide))
        have t117 := p111 12 (Int.toNat a1) (fun h => absurd h.1 (by first | exact gz_ne rfl | decide))
        have f118 := (gc_b_42_15 hI110 R_39)
        have KLT_I110 := gc_LT_fr KLT_I96 (p111 23 5 (fun h => absurd h.2 (by first | exact gz_ne rfl | decide))) (p111 23 6 (fun h => absurd h.2 (by first | exact gz_ne rfl | decide))) (p111 23 7 (fun h => absurd h.2 (by first | exact gz_ne rfl | decide))) (fun k => p111 24 k (fun h => absurd h.1 (by first | exact gz_ne rfl | decide)))
        have KTK_I110 := gc_TK_fr KTK_I96 (p111 23 1 (fun h => absurd h.2 (by first | exact gz_ne rfl | decide))) (p111 23 5 (fun h => absurd h.2 (by first | exact gz_ne rfl | decide))) (p111 23 6 (fun h => absurd h.2 (by first | exact gz_ne rfl | decide))) (p111 23 7 (fun h => absurd h.2 (by first | exact gz_ne rfl | decide)))
        have KTO_I110 := gc_TO_fr KTO_I96 (p111 39 12 (fun h => absurd h.2 (by first | exact gz_ne rfl | decide))) (fun k => p111 43 k (fun h => absurd h.1 (by first | exact gz_ne rfl | decide)))
        have A119 := gc_AT_I A107 (p111 23 1 (fun h => absurd h.2 (by first | exact gz_ne rfl | decide))) (p111 23 5 (fun h => absurd h.2 (by first | exact gz_ne rfl | decide))) (p111 23 6 (fun h => absurd h.2 (by first | exact gz_ne rfl | decide))) (p111 23 7 (fun h => absurd h.2 (by first | exact gz_ne rfl | decide))) (p111 23 8 (fun h => absurd h.2 (by first | exact gz_ne rfl | decide))) (fun k => p111 24 k (fun h => absurd h.1 (by first | exact gz_ne rfl | decide)))
        show gv_X _ _ (90, [(0, .inr (.inr (some 39))), (1, .inl a1), (2, .inl a2)], [], sh, gc_h sh I110 J97 A)
        refine gv_run 1 true hD (pc' := 91) (lv' := [(0, .inr (.inr (some 39))), (1, .inl a1), (2, .inl a2)]) (st' := [.inl 1]) (h' := gc_h sh I110 J97 A) (C := (True ∧ True)) rfl ⟨trivial, trivial⟩ ?_
        exact gv_zret hD rfl (by exact gz_m 70 (by omega)) ⟨I110, J97, rfl, hI110, FI110, FJ97, KLT_I110, KTK_I110, KTO_I110, ⟨_, rfl, by exact gz_m 71 (by omega), by exact gz_m 72 (by omega), by exact gz_m 73 (by omega), by exact gz_m 74 (by omega), by exact gz_m 75 (by omega), by exact gz_m 76 (by omega), by exact gz_m 77 (by omega), (Or.inr (gc_TD_bind (gc_IN_fr q52.2 (by exact gz_m 78 (by omega)) (fun k => ((((p39 43 k (fun h => absurd h.1 (by first | exact gz_ne rfl | decide))).trans ((g23 43 k).resolve_left (fun h => h.elim (fun h => absurd h.1 (by first | exact gz_ne rfl | decide)) (fun h => absurd h.1 (by first | exact gz_ne rfl | decide))))).trans ((g8 43 k).resolve_left (fun h => h.elim (fun h => absurd h.1 (by first | exact gz_ne rfl | decide)) (fun h => h.elim (fun h => absurd h.1 (by first | exact gz_ne rfl | decide)) (fun h => h.elim (fun h => absurd h.1 (by first | exact gz_ne rfl | decide)) (fun h => absurd h.1 (by first | exact gz_ne rfl | decide)))))))).symm) (fun _ => rfl)) (by exact gz_m 79 (by omega)) (by exact gz_m 80 (by omega)) (by exact gz_m 81 (by omega)) (gc_TD_fr (q95.2.2.2.2.2.2.2.1.resolve_left (by exact gz_m 82 (by omega))) (by exact gz_m 83 (by omega)) (fun k => ((((g80 43 k).resolve_left (fun h => h.elim (fun h => absurd h.1 (by first | exact gz_ne rfl | decide)) (fun h => h.elim (fun h => absurd h.1 (by first | exact gz_ne rfl | decide)) (fun h => h.elim (fun h => absurd h.1 (by first | exact gz_ne rfl | decide)) (fun h => h.elim (fun h => absurd h.1 (by first | exact gz_ne rfl | decide)) (fun h => h.elim (fun h => absurd h.1 (by first | exact gz_ne rfl | decide)) (fun h => absurd h.1 (by first | exact gz_ne rfl | decide)))))))).trans ((g65 43 k).resolve_left (fun h => h.elim (fun h => absurd h.1 (by first | exact gz_ne rfl | decide)) (fun h => h.elim (fun h => absurd h.1 (by first | exact gz_ne rfl | decide)) (fun h => h.elim (fun h => absurd h.1 (by first | exact gz_ne rfl | decide)) (fun h => absurd h.1 (by first | exact gz_ne rfl | decide)))))))).symm) (by exact gz_m 84 (by omega)) (fun k => (p111 43 k (fun h => absurd h.1 (by first | exact gz_ne rfl | decide))))) (by exact gz_m 85 (by omega)))), (gs_TQc_y (gs_bi_y (by exact gz_m 86 (by omega)) (by exact gz_m 87 (by omega)) (by exact gz_m 88 (by omega)) (by exact gz_m 89 (by omega)) (by exact gz_m 90 (by omega)) (by exact gz_m 91 (by omega))) (by exact gz_m 92 (by omega)) (by exact gz_m 93 (by omega)) A119 (by exact gz_m 94 (by omega)))⟩⟩
      · show gv_X _ _ (78, [(0, .inr (.inr (some 39))), (1, .inl a1), (2, .inl a2)], [], sh, gc_h sh I96 J97 A)
        obtain ⟨u120, U120⟩ := gs_TQc_0 q95.2.2.2.2.2.2.2.2 (by exact gz_m 95 (by omega))
        refine gv_run 1 true hD (pc' := 79) (lv' := [(0, .inr (.inr (some 39))), (1, .inl a1), (2, .inl a2)]) (st' := [.inl 0]) (h' := gc_h sh I96 J97 A) (C := (True ∧ True)) rfl ⟨trivial, trivial⟩ ?_
        exact gv_zret hD rfl (by exact gz_m 96 (by omega)) ⟨I96, J97, rfl, hI96, FI96, FJ97, KLT_I96, KTK_I96, KTO_I96, ⟨_, rfl, by exact gz_m 97 (by omega), by exact gz_m 98 (by omega), by exact gz_m 99 (by omega), by exact gz_m 100 (by omega), by exact gz_m 101 (by omega), by exact gz_m 102 (by omega), by exact gz_m 103 (by omega), (Or.inl (by exact gz_m 104 (by omega))), (gs_TQc_n (gs_bi_x (by exact gz_m 105 (by omega)) (by exact gz_m 106 (by omega)) (by exact gz_m 107 (by omega)) (by exact gz_m 108 (by omega)) (by exact gz_m 109 (by omega)) (by exact gz_m 110 (by omega))) (by exact gz_m 111 (by omega)) (by exact gz_m 112 (by omega)) (by exact gz_m 113 (by omega)))⟩⟩
  · show gv_X _ _ (15, [(0, .inr (.inr (some 39))), (1, .inl a1), (2, .inl a2)], [], sh, gc_h sh I24 J12 A)
    have u121 := gs_or0 q23.2.2.2 (by exact gz_m 114 (by omega))
    refine gv_run 1 true hD (pc' := 16) (lv' := [(0, .inr (.inr (some 39))), (1, .inl a1), (2, .inl a2)]) (st' := [.inl 0]) (h' := gc_h sh I24 J12 A) (C := (True ∧ True)) rfl ⟨trivial, trivial⟩ ?_
    exact gv_zret hD rfl (by exact gz_m 115 (by omega)) ⟨I24, J12, rfl, hI24, FI24, FJ12, KLT_I24, KTK_I24, KTO_I24, ⟨_, rfl, by exact gz_m 116 (by omega), by exact gz_m 117 (by omega), by exact gz_m 118 (by omega), by exact gz_m 119 (by omega), by exact gz_m 120 (by omega), by exact gz_m 121 (by omega), by exact gz_m 122 (by omega), (Or.inl (by exact gz_m 123 (by omega))), (gs_TQc_n (gs_bi_n (by exact gz_m 124 (by omega)) (by exact gz_m 125 (by omega)) (by exact gz_m 126 (by omega)) u121.1) (by exact gz_m 127 (by omega)) (by exact gz_m 128 (by omega)) (by exact gz_m 129 (by omega)))⟩⟩
