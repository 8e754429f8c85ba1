/-! PARITY, FUN: what fun reads, as a function -/
def gs_nx (β : Int → Int) (N : Int) : Nat → Int → Int
  | 0, q => q
  | m + 1, q => gs_X β N (gs_nx β N m q)
/-- the list of KINDS, at most m of them -/
def gs_fl (β : Int → Int) (N : Int) (I : gr_I) (J : gr_J) : Nat → Int → Int
  | 0, q => if gs_T β N q = 1 then -1 - gs_A β N q else q
  | m + 1, q => if gs_T β N q = 1 then (if gs_lk I J 2 2 (gs_rn β N q) < 0 then -1 - gs_A β N q else gs_fl β N I J m (gs_X β N q)) else q
def gs_cn (β : Int → Int) (N : Int) : Nat → Int → Int
  | 0, _ => 0
  | m + 1, q => if gs_T β N q = 1 then 1 + gs_cn β N m (gs_X β N q) else 0
theorem gs_fl_s {β : Int → Int} {N : Int} {I : gr_I} {J : gr_J} {n q : Int} (hn : n < 4) (h : gs_T β N q = 1) (hl : ¬ gs_lk I J 2 2 (gs_rn β N q) < 0) : gs_fl β N I J (Int.toNat (4 - n)) q = gs_fl β N I J (Int.toNat (4 - (n + 1))) (gs_X β N q) := by
  rw [show Int.toNat (4 - n) = Int.toNat (4 - (n + 1)) + 1 from by omega]
  show (if _ then _ else _) = _
  rw [if_pos h, if_neg hl]
theorem gs_fl_e {β : Int → Int} {N : Int} {I : gr_I} {J : gr_J} {m : Nat} {q : Int} (h : ¬ gs_T β N q = 1) : gs_fl β N I J m q = q := by
  cases m with
  | zero => exact if_neg h
  | succ m => exact if_neg h
theorem gs_fl_x {β : Int → Int} {N : Int} {I : gr_I} {J : gr_J} {n q : Int} (h : gs_T β N q = 1) (hl : gs_lk I J 2 2 (gs_rn β N q) < 0 ∨ 4 ≤ n) : gs_fl β N I J (Int.toNat (4 - n)) q = -1 - gs_A β N q := by
  by_cases c : 4 ≤ n
  · rw [show Int.toNat (4 - n) = 0 from by omega]
    exact if_pos h
  · rw [show Int.toNat (4 - n) = Int.toNat (4 - (n + 1)) + 1 from by omega]
    show (if _ then _ else _) = _
    rw [if_pos h, if_pos (hl.resolve_right c)]
theorem gs_cn_s {β : Int → Int} {N : Int} {n q : Int} (hn : n < 5) (h : gs_T β N q = 1) : n + gs_cn β N (Int.toNat (5 - n)) q = n + 1 + gs_cn β N (Int.toNat (5 - (n + 1))) (gs_X β N q) := by
  rw [show Int.toNat (5 - n) = Int.toNat (5 - (n + 1)) + 1 from by omega]
  show n + (if _ then _ else _) = _
  rw [if_pos h]
  omega
theorem gs_cn_e {β : Int → Int} {N : Int} {m : Nat} {q : Int} (h : ¬ gs_T β N q = 1) : gs_cn β N m q = 0 := by
  cases m with
  | zero => rfl
  | succ m => exact if_neg h
def gs_fun3 (β : Int → Int) (N : Int) (I : gr_I) (first q : Int) : Int := if gs_cost β N q < 0 then gs_cost β N q else gs_done β N (if I 0 3 < 96 then 1 else 0) first (gs_cost β N q)
def gs_fun2 (β : Int → Int) (N : Int) (I : gr_I) (J : gr_J) (first a : Int) : Int := if a < 0 then a else if gs_T β N a = 1 then (if gs_lk I J 2 2 (gs_rn β N a) < 0 then -1 - gs_A β N a else gs_fun3 β N I first (gs_X β N a)) else -1 - gs_A β N a
def gs_fun1 (β : Int → Int) (N : Int) (I : gr_I) (J : gr_J) (first q : Int) : Int := if q < 0 then q else gs_fun2 β N I J first (gs_need β N 62 q)
def gs_fun0 (β : Int → Int) (N : Int) (I : gr_I) (J : gr_J) (first q : Int) : Int := if q < 0 then q else gs_fun1 β N I J first (gs_fl β N I J 4 q)
def gs_fun (β : Int → Int) (N : Int) (I : gr_I) (J : gr_J) (first p : Int) : Int :=
  if gs_T β N p = 1 then (if 0 ≤ gs_lk I J 3 3 (gs_rn β N p) then -1 - gs_A β N p else gs_fun0 β N I J first (gs_need β N 58 (gs_X β N p))) else -1 - gs_A β N p
/-- nothing was told of functions -/
def gs_Sfun (I : gr_I) (J : gr_J) (Iₚ : gr_I) (Jₚ : gr_J) : Prop := Iₚ 0 3 = I 0 3 ∧ ∀ j, Jₚ 3 j = J 3 j ∧ Iₚ 6 j = I 6 j ∧ Iₚ 7 j = I 7 j ∧ Iₚ 8 j = I 8 j ∧ Iₚ 10 j = I 10 j ∧ Iₚ 9 j = I 9 j
/-- a function has come -/
def gs_Ufun (w : Int64) (n : Int) (ks : Nat → Int) (k : Int) (I : gr_I) (J : gr_J) (Iₚ : gr_I) (Jₚ : gr_J) : Prop := Iₚ 0 3 = I 0 3 + 1 ∧ (Jₚ 3 (Int.toNat (I 0 3)) = w ∧ Iₚ 6 (Int.toNat (I 0 3)) = n ∧ Iₚ 8 (Int.toNat (I 0 3)) = k ∧ Iₚ 10 (Int.toNat (I 0 3)) = -1) ∧ (∀ i : Nat, i < Int.toNat n → Iₚ 7 (4 * Int.toNat (I 0 3) + i) = ks i) ∧ (∀ j, ¬ j = Int.toNat (I 0 3) → Jₚ 3 j = J 3 j ∧ Iₚ 6 j = I 6 j ∧ Iₚ 8 j = I 8 j ∧ Iₚ 10 j = I 10 j) ∧ (∀ j, ¬ (4 * Int.toNat (I 0 3) ≤ j ∧ j < 4 * Int.toNat (I 0 3) + Int.toNat n) → Iₚ 7 j = I 7 j)
/-- the same, half done: m arguments are laid -/
def gs_Ufl (w : Int64) (n : Int) (ks : Nat → Int) (m : Nat) (I : gr_I) (J : gr_J) (Iₚ : gr_I) (Jₚ : gr_J) : Prop := Iₚ 0 3 = I 0 3 ∧ (Jₚ 3 (Int.toNat (I 0 3)) = w ∧ Iₚ 6 (Int.toNat (I 0 3)) = n) ∧ (∀ i : Nat, i < m → Iₚ 7 (4 * Int.toNat (I 0 3) + i) = ks i) ∧ (∀ j, ¬ j = Int.toNat (I 0 3) → Jₚ 3 j = J 3 j ∧ Iₚ 6 j = I 6 j) ∧ (∀ j, Iₚ 8 j = I 8 j ∧ Iₚ 10 j = I 10 j) ∧ (∀ j, ¬ (4 * Int.toNat (I 0 3) ≤ j ∧ j < 4 * Int.toNat (I 0 3) + m) → Iₚ 7 j = I 7 j) ∧ ∀ i : Nat, i < Int.toNat n → Iₚ 61 i = ks i
theorem gs_Ufl_0 {w : Int64} {n : Int} {ks : Nat → Int} {I I0 I1 : gr_I} {J J0 J1 : gr_J} {k1 k2 : Nat} (s : gs_Sfun I J I0 J0) (d : ∀ i : Nat, i < Int.toNat n → I0 61 i = ks i) (e1 : k1 = Int.toNat (I 0 3)) (p1 : ∀ b j, ¬ (b = 3 ∧ j = k1) → J1 b j = J0 b j) (q1 : J1 3 k1 = w) (e2 : k2 = Int.toNat (I 0 3)) (p2 : ∀ b j, ¬ (b = 6 ∧ j = k2) → I1 b j = I0 b j) (q2 : I1 6 k2 = n) : gs_Ufl w n ks 0 I J I1 J1 := by
  subst e1
  subst e2
  refine ⟨(p2 0 3 (fun h => absurd h.1 (by first | exact gz_ne rfl | decide))).trans s.1, ⟨q1, q2⟩, fun i h => absurd h (by omega), fun j hj => ⟨(p1 3 j (fun h => hj h.2)).trans (s.2 j).1, (p2 6 j (fun h => hj h.2)).trans (s.2 j).2.1⟩, fun j => ⟨(p2 8 j (fun h => absurd h.1 (by first | exact gz_ne rfl | decide))).trans (s.2 j).2.2.2.1, (p2 10 j (fun h => absurd h.1 (by first | exact gz_ne rfl | decide))).trans (s.2 j).2.2.2.2.1⟩, fun j _ => (p2 7 j (fun h => absurd h.1 (by first | exact gz_ne rfl | decide))).trans (s.2 j).2.2.1, fun i hi => (p2 61 i (fun h => absurd h.1 (by first | exact gz_ne rfl | decide))).trans (d i hi)⟩
theorem gs_Ufl_s {w : Int64} {n : Int} {ks : Nat → Int} {I I1 I2 : gr_I} {J J1 : gr_J} {m i9 k : Nat} (h : gs_Ufl w n ks m I J I1 J1) (hm : m < Int.toNat n) (e : k = 4 * Int.toNat (I 0 3) + m) (ei : i9 = m) (p : ∀ b j, ¬ (b = 7 ∧ j = k) → I2 b j = I1 b j) (q : I2 7 k = I1 61 i9) : gs_Ufl w n ks (m + 1) I J I2 J1 := by
  subst e
  subst ei
  obtain ⟨h1, h2, h3, h4, h5, h6, h7⟩ := h
  refine ⟨(p 0 3 (fun h => absurd h.1 (by first | exact gz_ne rfl | decide))).trans h1, ⟨h2.1, (p 6 _ (fun h => absurd h.1 (by first | exact gz_ne rfl | decide))).trans h2.2⟩, fun i hi => ?_, fun j hj => ⟨(h4 j hj).1, (p 6 j (fun h => absurd h.1 (by first | exact gz_ne rfl | decide))).trans (h4 j hj).2⟩, fun j => ⟨(p 8 j (fun h => absurd h.1 (by first | exact gz_ne rfl | decide))).trans (h5 j).1, (p 10 j (fun h => absurd h.1 (by first | exact gz_ne rfl | decide))).trans (h5 j).2⟩, fun j hj => (p 7 j (fun h => hj (by have := h.2; omega))).trans (h6 j (fun h => hj (by omega))), fun i hi => (p 61 i (fun h => absurd h.1 (by first | exact gz_ne rfl | decide))).trans (h7 i hi)⟩
  by_cases c : i = i9
  · rw [c]
    exact q.trans (h7 i9 hm)
  · exact (p 7 _ (fun h => c (by have := h.2; omega))).trans (h3 i (by omega))
theorem gs_Ufl_e {w : Int64} {n kk : Int} {ks : Nat → Int} {I I1 I2 I3 I4 I5 : gr_I} {J J1 : gr_J} {m k1 k2 k5 : Nat} (h : gs_Ufl w n ks m I J I1 J1) (hm : m = Int.toNat n) (e1 : k1 = Int.toNat (I 0 3)) (p1 : ∀ b j, ¬ (b = 8 ∧ j = k1) → I2 b j = I1 b j) (q1 : I2 8 k1 = kk) (p2 : ∀ b j, ¬ (b = 9 ∧ j = k2) → I3 b j = I2 b j) (p3 : ∀ b j, ¬ (b = 0 ∧ j = 3) → I4 b j = I3 b j) (q3 : I4 0 3 = I 0 3 + 1) (e5 : k5 = Int.toNat (I 0 3)) (p5 : ∀ b j, ¬ (b = 10 ∧ j = k5) → I5 b j = I4 b j) (q5 : I5 10 k5 = -1) : gs_Ufun w n ks kk I J I5 J1 := by
  subst hm
  subst e1
  subst e5
  obtain ⟨h1, h2, h3, h4, h5, h6, h7⟩ := h
  have f : ∀ b j, ¬ b = 8 → ¬ b = 9 → ¬ b = 0 → ¬ b = 10 → I5 b j = I1 b j := fun b j c1 c2 c3 c4 => (p5 b j (fun h => c4 h.1)).trans ((p3 b j (fun h => c3 h.1)).trans ((p2 b j (fun h => c2 h.1)).trans (p1 b j (fun h => c1 h.1))))
  refine ⟨(p5 0 3 (fun h => absurd h.1 (by first | exact gz_ne rfl | decide))).trans q3, ⟨h2.1, (f 6 _ (by decide) (by decide) (by decide) (by decide)).trans h2.2, ((p5 8 _ (fun h => absurd h.1 (by first | exact gz_ne rfl | decide))).trans ((p3 8 _ (fun h => absurd h.1 (by first | exact gz_ne rfl | decide))).trans (p2 8 _ (fun h => absurd h.1 (by first | exact gz_ne rfl | decide))))).trans q1, q5⟩, fun i hi => (f 7 _ (by decide) (by decide) (by decide) (by decide)).trans (h3 i hi), fun j hj => ⟨(h4 j hj).1, (f 6 _ (by decide) (by decide) (by decide) (by decide)).trans (h4 j hj).2, ((p5 8 j (fun h => absurd h.1 (by first | exact gz_ne rfl | decide))).trans ((p3 8 j (fun h => absurd h.1 (by first | exact gz_ne rfl | decide))).trans ((p2 8 j (fun h => absurd h.1 (by first | exact gz_ne rfl | decide))).trans (p1 8 j (fun h => hj h.2))))).trans (h5 j).1, ((p5 10 j (fun h => hj h.2)).trans ((p3 10 j (fun h => absurd h.1 (by first | exact gz_ne rfl | decide))).trans ((p2 10 j (fun h => absurd h.1 (by first | exact gz_ne rfl | decide))).trans (p1 10 j (fun h => absurd h.1 (by first | exact gz_ne rfl | decide)))))).trans (h5 j).2⟩, fun j hj => (f 7 _ (by decide) (by decide) (by decide) (by decide)).trans (h6 j hj)⟩
/-- what it costs -/
def gs_Ufc (c : Int) (I Iₚ : gr_I) : Prop := Iₚ 9 (Int.toNat (I 0 3)) = c ∧ ∀ j, ¬ j = Int.toNat (I 0 3) → Iₚ 9 j = I 9 j
theorem gs_Ufc_mk {c v : Int} {I I1 I2 I3 I4 I5 : gr_I} {k1 k2 k5 : Nat} (h : ∀ j, I1 9 j = I 9 j) (e2 : k2 = Int.toNat (I 0 3)) (p1 : ∀ b j, ¬ (b = 8 ∧ j = k1) → I2 b j = I1 b j) (p2 : ∀ b j, ¬ (b = 9 ∧ j = k2) → I3 b j = I2 b j) (q2 : I3 9 k2 = v) (hv : v = c) (p3 : ∀ b j, ¬ (b = 0 ∧ j = 3) → I4 b j = I3 b j) (p5 : ∀ b j, ¬ (b = 10 ∧ j = k5) → I5 b j = I4 b j) : gs_Ufc c I I5 := by
  subst e2
  have f : ∀ j, I5 9 j = I3 9 j := fun j => (p5 9 j (fun h => absurd h.1 (by first | exact gz_ne rfl | decide))).trans (p3 9 j (fun h => absurd h.1 (by first | exact gz_ne rfl | decide)))
  exact ⟨(f _).trans (q2.trans hv), fun j hj => (f j).trans ((p2 9 j (fun h => hj h.2)).trans ((p1 9 j (fun h => absurd h.1 (by first | exact gz_ne rfl | decide))).trans (h j)))⟩
