/-! PARITY: TERMS. The code, and how many nodes are made. What is read: 0 a term, 1 an atom, 2 what is behind it, 3 arguments in brackets -/
def gs_bd (w : Int × Int) (g : Int → Int × Int) : Int × Int := if w.1 < 0 then w else ((g w.1).1, w.2 + (g w.1).2)
def gs_shf (k : Int) (w : Int × Int) : Int × Int := (w.1, k + w.2)
theorem gs_bd_x {w : Int × Int} {g : Int → Int × Int} (h : w.1 < 0) : gs_bd w g = w := if_pos h
theorem gs_bd_e {w : Int × Int} {g : Int → Int × Int} (h : ¬ w.1 < 0) : gs_bd w g = gs_shf w.2 (g w.1) := if_neg h
theorem gs_sf_sf {j k : Int} {w : Int × Int} : gs_shf j (gs_shf k w) = gs_shf (j + k) w := by
  unfold gs_shf
  rw [Int.add_assoc]
def gs_lam2 (β : Int → Int) (N : Int) (g : Int → Int × Int) (q : Int) : Int × Int := if gs_need β N 46 (gs_X β N q) < 0 then (gs_need β N 46 (gs_X β N q), 0) else gs_bd (g (gs_need β N 46 (gs_X β N q))) (fun q' => (q', 1))
def gs_lam (β : Int → Int) (N : Int) (g : Int → Int × Int) (q : Int) : Int × Int := if gs_T β N (gs_X β N q) = 1 then gs_lam2 β N g (gs_X β N q) else (-1 - gs_A β N (gs_X β N q), 0)
def gs_atm (β : Int → Int) (N nf : Int) (g : Int → Int × Int) (q : Int) : Int × Int := if gs_T β N q = 1 then (gs_X β N q, 1) else if gs_T β N q = 2 then (if gs_V β N q < 1 ∨ nf < gs_V β N q then (-1 - gs_A β N q, 0) else (gs_X β N q, 1)) else if gs_T β N q = 40 then gs_bd (g (gs_X β N q)) (fun q' => (gs_need β N 41 q', 0)) else (-1 - gs_A β N q, 0)
def gs_ar (β : Int → Int) (N : Int) (g : Int → Int × Int) (q : Int) : Int × Int := if gs_T β N q = 44 then gs_shf 1 (g q) else (gs_need β N 41 q, 1)
def gs_tmN (β : Int → Int) (N nf : Int) : Nat → Nat → Int → Int → Int × Int
  | 0, _, _, q => (q, 0)
  | m + 1, 0, d, q => if 40 < d then (-1 - gs_A β N q, 0) else if gs_T β N q = 92 then gs_lam β N (gs_tmN β N nf m 0 (d + 1)) q else gs_bd (gs_tmN β N nf m 1 d q) (gs_tmN β N nf m 2 d)
  | m + 1, 1, d, q => gs_atm β N nf (gs_tmN β N nf m 0 (d + 1)) q
  | m + 1, 2, d, q => if gs_T β N q = 40 then gs_bd (gs_tmN β N nf m 3 d q) (gs_tmN β N nf m 2 d) else (q, 0)
  | m + 1, _, d, q => gs_bd (gs_tmN β N nf m 0 (d + 1) (gs_X β N q)) (gs_ar β N (gs_tmN β N nf m 3 d))
def gs_tm (β : Int → Int) (N nf f : Int) (k : Nat) (d q : Int) : Int × Int := gs_tmN β N nf (Int.toNat f) k d q
theorem gs_tm_0 {β : Int → Int} {N nf f d q : Int} (h : 0 < f) : gs_tm β N nf f 0 d q = (if 40 < d then (-1 - gs_A β N q, 0) else if gs_T β N q = 92 then gs_lam β N (gs_tm β N nf (f - 1) 0 (d + 1)) q else gs_bd (gs_tm β N nf (f - 1) 1 d q) (gs_tm β N nf (f - 1) 2 d)) := by
  unfold gs_tm
  rw [show Int.toNat f = Int.toNat (f - 1) + 1 from by omega]
  rfl
theorem gs_tm_1 {β : Int → Int} {N nf f d q : Int} (h : 0 < f) : gs_tm β N nf f 1 d q = gs_atm β N nf (gs_tm β N nf (f - 1) 0 (d + 1)) q := by
  unfold gs_tm
  rw [show Int.toNat f = Int.toNat (f - 1) + 1 from by omega]
  rfl
theorem gs_tm_2 {β : Int → Int} {N nf f d q : Int} (h : 0 < f) : gs_tm β N nf f 2 d q = (if gs_T β N q = 40 then gs_bd (gs_tm β N nf (f - 1) 3 d q) (gs_tm β N nf (f - 1) 2 d) else (q, 0)) := by
  unfold gs_tm
  rw [show Int.toNat f = Int.toNat (f - 1) + 1 from by omega]
  rfl
theorem gs_tm_3 {β : Int → Int} {N nf f d q : Int} (h : 0 < f) : gs_tm β N nf f 3 d q = gs_bd (gs_tm β N nf (f - 1) 0 (d + 1) (gs_X β N q)) (gs_ar β N (gs_tm β N nf (f - 1) 3 d)) := by
  unfold gs_tm
  rw [show Int.toNat f = Int.toNat (f - 1) + 1 from by omega]
  rfl
def gs_O9 (r : Int) (S F : Prop) : Prop := (0 ≤ r ∧ S) ∨ (r < 0 ∧ F)
theorem gs_O9_1 {r : Int} {S F : Prop} (h : gs_O9 r S F) (hr : 0 ≤ r) : S := by
  rcases h with h | h
  · exact h.2
  · omega
theorem gs_O9_0 {r : Int} {S F : Prop} (h : gs_O9 r S F) (hr : r < 0) : F := by
  rcases h with h | h
  · omega
  · exact h.2
/-- what a term tells: its code and its nodes D, from the state I to Iₚ -/
def gs_TQ (β : Int → Int) (N : Int) (D : Int × Int) (r : Int) (I : gr_I) (Iₚ : gr_I) (Jₚ : gr_J) : Prop := gs_O9 r (0 ≤ D.1 ∧ gr_ATp β N D.1 Iₚ Jₚ ∧ Iₚ 0 64 = I 0 64 + D.2) (D.1 < 0 ∧ Iₚ 0 77 = -1 - D.1)
theorem gs_TQ_y {β : Int → Int} {N c n r : Int} {D : Int × Int} {I : gr_I} {Iₚ : gr_I} {Jₚ : gr_J} (hD : D = (c, n)) (h0 : 0 ≤ c) (hr : 0 ≤ r) (ha : gr_ATp β N c Iₚ Jₚ) (hn : Iₚ 0 64 = I 0 64 + n) : gs_TQ β N D r I Iₚ Jₚ := by
  subst hD
  exact Or.inl ⟨hr, h0, ha, hn⟩
theorem gs_TQ_n {β : Int → Int} {N c n r : Int} {D : Int × Int} {I : gr_I} {Iₚ : gr_I} {Jₚ : gr_J} (hD : D = (c, n)) (h0 : c < 0) (hr : r < 0) (ha : Iₚ 0 77 = -1 - c) : gs_TQ β N D r I Iₚ Jₚ := by
  subst hD
  exact Or.inr ⟨hr, h0, ha⟩
theorem gs_pr {w : Int × Int} : w = (w.1, w.2) := rfl
theorem gs_bd_sf {j : Int} {w : Int × Int} {g : Int → Int × Int} : gs_bd (gs_shf j w) g = gs_shf j (gs_bd w g) := by
  unfold gs_bd gs_shf
  by_cases c : w.1 < 0
  · rw [if_pos (show (w.1, j + w.2).1 < 0 from c), if_pos c]
  · rw [if_neg (show ¬ (w.1, j + w.2).1 < 0 from c), if_neg c]
    show ((g w.1).1, j + w.2 + (g w.1).2) = ((g w.1).1, j + (w.2 + (g w.1).2))
    rw [Int.add_assoc]
section TM
variable {β : Int → Int} {N nf f d p k : Int} {D : Int × Int} {G : Int → Int × Int}
theorem gs_ar_x (hD : D = gs_shf k (gs_bd (gs_tm β N nf f 3 d p) G)) (hf : 0 < f) (hw : (gs_tm β N nf (f - 1) 0 (d + 1) (gs_X β N p)).1 < 0) : D = ((gs_tm β N nf (f - 1) 0 (d + 1) (gs_X β N p)).1, k + (gs_tm β N nf (f - 1) 0 (d + 1) (gs_X β N p)).2) := by
  rw [hD, gs_tm_3 hf, gs_bd_x hw, gs_bd_x hw]
  rfl
theorem gs_ar_e (hD : D = gs_shf k (gs_bd (gs_tm β N nf f 3 d p) G)) (hf : 0 < f) (hw : ¬ (gs_tm β N nf (f - 1) 0 (d + 1) (gs_X β N p)).1 < 0) : D = gs_shf (k + (gs_tm β N nf (f - 1) 0 (d + 1) (gs_X β N p)).2) (gs_bd (gs_ar β N (gs_tm β N nf (f - 1) 3 d) (gs_tm β N nf (f - 1) 0 (d + 1) (gs_X β N p)).1) G) := by
  rw [hD, gs_tm_3 hf, gs_bd_e hw, gs_bd_sf, gs_sf_sf]
theorem gs_ar_c (hD : D = gs_shf k (gs_bd (gs_tm β N nf f 3 d p) G)) (hf : 0 < f) (hw : ¬ (gs_tm β N nf (f - 1) 0 (d + 1) (gs_X β N p)).1 < 0) (hT : gs_T β N (gs_tm β N nf (f - 1) 0 (d + 1) (gs_X β N p)).1 = 44) : D = gs_shf (k + (gs_tm β N nf (f - 1) 0 (d + 1) (gs_X β N p)).2 + 1) (gs_bd (gs_tm β N nf (f - 1) 3 d (gs_tm β N nf (f - 1) 0 (d + 1) (gs_X β N p)).1) G) := by
  rw [gs_ar_e hD hf hw]
  unfold gs_ar
  rw [if_pos hT, gs_bd_sf, gs_sf_sf]
theorem gs_ar_n (hD : D = gs_shf k (gs_bd (gs_tm β N nf f 3 d p) G)) (hf : 0 < f) (hw : ¬ (gs_tm β N nf (f - 1) 0 (d + 1) (gs_X β N p)).1 < 0) (hT : ¬ gs_T β N (gs_tm β N nf (f - 1) 0 (d + 1) (gs_X β N p)).1 = 44) (hn : gs_need β N 41 (gs_tm β N nf (f - 1) 0 (d + 1) (gs_X β N p)).1 < 0) : D = (gs_need β N 41 (gs_tm β N nf (f - 1) 0 (d + 1) (gs_X β N p)).1, k + (gs_tm β N nf (f - 1) 0 (d + 1) (gs_X β N p)).2 + 1) := by
  rw [gs_ar_e hD hf hw]
  unfold gs_ar
  rw [if_neg hT, gs_bd_x hn]
  rfl
theorem gs_ar_y (hD : D = gs_shf k (gs_bd (gs_tm β N nf f 3 d p) G)) (hf : 0 < f) (hw : ¬ (gs_tm β N nf (f - 1) 0 (d + 1) (gs_X β N p)).1 < 0) (hT : ¬ gs_T β N (gs_tm β N nf (f - 1) 0 (d + 1) (gs_X β N p)).1 = 44) (hn : ¬ gs_need β N 41 (gs_tm β N nf (f - 1) 0 (d + 1) (gs_X β N p)).1 < 0) : D = gs_shf (k + (gs_tm β N nf (f - 1) 0 (d + 1) (gs_X β N p)).2 + 1) (G (gs_need β N 41 (gs_tm β N nf (f - 1) 0 (d + 1) (gs_X β N p)).1)) := by
  rw [gs_ar_e hD hf hw]
  unfold gs_ar
  rw [if_neg hT, gs_bd_e hn, gs_sf_sf]
/-- behind the atom -/
theorem gs_tq_at {r : Int} {I : gr_I} {Iₚ : gr_I} {Jₚ : gr_J} {D1 : Int × Int} (h : gs_TQ β N D1 r I Iₚ Jₚ) (hD : D = gs_bd D1 (gs_tm β N nf f 2 d)) (hf : gr_ATp β N D1.1 Iₚ Jₚ → 0 ≤ r → 4 * (1001 - gs_A β N D1.1) + 2 ≤ f) : gs_O9 r (0 ≤ D1.1 ∧ gr_ATp β N D1.1 Iₚ Jₚ ∧ 4 * (1001 - gs_A β N D1.1) + 2 ≤ f ∧ D = gs_shf (Iₚ 0 64 - I 0 64) (gs_tm β N nf f 2 d D1.1)) (D.1 < 0 ∧ Iₚ 0 77 = -1 - D.1) := by
  rcases h with ⟨h0, h1, h2, h3⟩ | ⟨h0, h1, h2⟩
  · refine Or.inl ⟨h0, h1, h2, hf h2 h0, ?_⟩
    rw [hD, gs_bd_e (by omega), show Iₚ 0 64 - I 0 64 = D1.2 from by omega]
  · refine Or.inr ⟨h0, ?_⟩
    rw [hD, gs_bd_x h1]
    exact ⟨h1, h2⟩
end TM
