/-! FORMS of CELLS and WORDS of the class (p9 to p13): bytes of the pool (20; 1 17 of them) -/
def fo_kx (P : Nat → Int) (a m : Int) : fo_c := if m < 0 then none else some (m, so_cut m (fun i => P (Int.toNat (a + i))))
def fo_okk (n a m : Int) : Prop := m < 0 ∨ (0 ≤ a ∧ a + m ≤ n)
section C9
variable {β : Int → Int} {N p q : Int} {I0 I I1 I2 I3 Iₚ Ir : gr_I} {J Jₚ Jr : gr_J} {t : Nat} {n n' k x a m b : Int} {P P' : Nat → Int} {V : List fo_e}
theorem fo_kx_kp (h : fo_okk n a m) (l : ∀ j : Nat, (j : Int) < n → P' j = P j) : fo_kx P' a m = fo_kx P a m := by
  unfold fo_kx
  by_cases c : m < 0
  · rw [if_pos c, if_pos c]
  · rw [if_neg c, if_neg c]
    have o := h.resolve_left c
    exact congrArg (fun f => some (m, f)) (so_cut_eq (fun i a b => l _ (by omega)))
theorem fo_okk_kp (h : fo_okk n a m) (hn : n ≤ n') : fo_okk n' a m := by
  rcases h with h | h
  · exact Or.inl h
  · exact Or.inr ⟨h.1, by omega⟩
/-- a part of a FORM came to the pool -/
def gc_pb (β : Int → Int) (N q : Int) (I Iₚ : gr_I) : Prop := (0 ≤ (gs_tb β N q).1 ∧ Iₚ 1 17 = I 1 17 + (gs_tb β N q).1) ∧ ∀ i : Int, 0 ≤ i → i < (gs_tb β N q).1 → Iₚ 20 (Int.toNat (I 1 17 + i)) = (gs_tb β N q).2 i
theorem gc_pb_n {v : Int} (hT : gs_T β N q = 2) (hv : v = gs_V β N q) (h : gc_kb I2 I1 v) (e2 : I2 1 17 = I 1 17) (e17 : Iₚ 1 17 = I1 1 17) (e20 : ∀ j, Iₚ 20 j = I1 20 j) : gc_pb β N q I Iₚ := by
  have e : gs_tb β N q = (1, fun _ => gs_V β N q) := if_pos hT
  unfold gc_pb
  rw [e]
  refine ⟨⟨(show (0 : Int) ≤ 1 by decide), e17.trans (h.1.trans (by rw [e2]))⟩, fun i a b => ?_⟩
  have b1 : i < 1 := b
  rw [e20, show I 1 17 + i = I2 1 17 from by omega, h.2]
  exact hv
theorem gc_pb_l (A0 : gc_AT β N q 23 I J) (hT : gs_T β N q = 3) (h5 : 0 ≤ I 23 5) (h6 : I 23 6 ≤ I 23 1) (hr : 2 ≤ I 23 6 - I 23 5) (h : gc_kl I I1) (eX : I 23 6 - I 23 5 = gs_X β N q - gs_A β N q) (e17 : Iₚ 1 17 = I1 1 17) (e20 : ∀ j, Iₚ 20 j = I1 20 j) : gc_pb β N q I Iₚ := by
  have e : gs_tb β N q = gs_tl β N q := if_neg (by omega)
  unfold gc_pb
  rw [e]
  refine ⟨⟨by show 0 ≤ gs_X β N q - gs_A β N q - 2; omega, by show Iₚ 1 17 = I 1 17 + (gs_X β N q - gs_A β N q - 2); rw [e17, h.1]; omega⟩, fun i a b => ?_⟩
  have b1 : i < gs_X β N q - gs_A β N q - 2 := b
  rw [gc_kl_b A0 h5 h6 h e20 i a b1]
  exact (so_cut_i (n := gs_X β N q - gs_A β N q - 2) (r := fun i => β (gs_A β N q + 1 + i)) a b1).symm
/-- k parts came to the pool from b on -/
def gs_g2 (β : Int → Int) (N b p : Int) (I1 : gr_I) (k : Nat) : Prop := (0 ≤ (gs_fe β N p k).1 ∧ I1 1 17 = b + (gs_fe β N p k).1) ∧ (∀ i : Int, 0 ≤ i → i < (gs_fe β N p k).1 → I1 20 (Int.toNat (b + i)) = (gs_fe β N p k).2 i) ∧ ∀ i : Int, ¬ (0 ≤ i ∧ i < (gs_fe β N p k).1) → (gs_fe β N p k).2 i = 0
theorem gs_g2_0 (h : I1 1 17 = b) : gs_g2 β N b p I1 0 := ⟨⟨Int.le_refl 0, by show I1 1 17 = b + 0; omega⟩, fun i a c => absurd c (show ¬ i < (0 : Int) by omega), fun _ _ => rfl⟩
theorem gs_g2_s {k : Nat} (h : gs_g2 β N b p I1 k) (l : gc_PKs I1 I2) (c : gc_pb β N q I1 I2) (hq : q = gs_sp β N (2 * k) p) (h0 : 0 ≤ b) : gs_g2 β N b p I2 (k + 1) := by
  subst hq
  obtain ⟨⟨h1, h2⟩, h3, h4⟩ := h
  obtain ⟨⟨c1, c2⟩, c3⟩ := c
  have e1 : (gs_fe β N p (k + 1)).1 = (gs_fe β N p k).1 + (gs_tb β N (gs_sp β N (2 * k) p)).1 := rfl
  have e2 : (gs_fe β N p (k + 1)).2 = so_app (gs_fe β N p k).2 (gs_fe β N p k).1 (gs_tb β N (gs_sp β N (2 * k) p)).1 (gs_tb β N (gs_sp β N (2 * k) p)).2 := rfl
  refine ⟨⟨by omega, by omega⟩, fun i i0 i1 => ?_, fun i hi => ?_⟩
  · rw [e2]
    unfold so_app
    by_cases d : (gs_fe β N p k).1 ≤ i ∧ i < (gs_fe β N p k).1 + (gs_tb β N (gs_sp β N (2 * k) p)).1
    · rw [if_pos d, ← c3 _ (by omega) (by omega), show I1 1 17 + (i - (gs_fe β N p k).1) = b + i from by omega]
    · rw [if_neg d, ← h3 i i0 (by omega)]
      exact l.2 _ (by omega)
  · rw [e2]
    unfold so_app
    rw [if_neg (by omega)]
    exact h4 i (by omega)
theorem gs_g2_kp {k : Nat} (h : gs_g2 β N b p I1 k) (e17 : I2 1 17 = I1 1 17) (e20 : ∀ j, I2 20 j = I1 20 j) : gs_g2 β N b p I2 k := ⟨⟨h.1.1, e17.trans h.1.2⟩, fun i a c => (e20 _).trans (h.2.1 i a c), h.2.2⟩
theorem gs_g2_e {k : Nat} (h : gs_g2 β N b p I1 k) (h0 : 0 ≤ b) (hm : m = I1 1 17 - b) : fo_kx (I1 20) b m = some (gs_fe β N p k) ∧ fo_okk (I1 1 17) b m := by
  obtain ⟨⟨h1, h2⟩, h3, h4⟩ := h
  have em : m = (gs_fe β N p k).1 := by omega
  subst em
  refine ⟨?_, Or.inr ⟨h0, by omega⟩⟩
  unfold fo_kx
  rw [if_neg (show ¬ (gs_fe β N p k).1 < 0 by omega)]
  refine congrArg (fun f => some ((gs_fe β N p k).1, f)) (funext fun i => ?_)
  unfold so_cut
  by_cases c : 0 ≤ i ∧ i < (gs_fe β N p k).1
  · rw [if_pos c]
    exact h3 i c.1 c.2
  · rw [if_neg c]
    exact (h4 i c).symm
/-- where the FORM of a CELL stands -/
def gs_fpl (β : Int → Int) (N : Int) (Ir : gr_I) (Jr : gr_J) (p : Int) : Int := gs_need β N 61 (gs_rv β N Ir Jr 0 p)
/-- what readCell() leaves in the row: its FORM -/
def gs_cc9 (β : Int → Int) (N : Int) (Ir : gr_I) (Jr : gr_J) (p : Int) (Iₚ : gr_I) : Prop := fo_kx (Iₚ 20) (Iₚ 41 1) (Iₚ 41 2) = gs_fxc β N (gs_fpl β N Ir Jr p) ∧ fo_okk (Iₚ 1 17) (Iₚ 41 1) (Iₚ 41 2)
theorem gs_cc9_n (hT : gs_T β N (gs_fpl β N Ir Jr p) = 45) (h : Iₚ 41 2 = -1) : gs_cc9 β N Ir Jr p Iₚ := by
  unfold gs_cc9 fo_kx gs_fxc
  rw [h, if_pos (show (-1 : Int) < 0 by decide), if_pos hT]
  exact ⟨rfl, Or.inl (by decide)⟩
theorem gs_cc9_f {k : Nat} (hT : ¬ gs_T β N (gs_fpl β N Ir Jr p) = 45) (h : gs_g2 β N b (gs_fpl β N Ir Jr p) I1 k) (hk : gs_fc β N 1002 (gs_fpl β N Ir Jr p) = k) (h0 : 0 ≤ b) (h1 : Iₚ 41 1 = b) (h2 : Iₚ 41 2 = I1 1 17 - b) (e17 : Iₚ 1 17 = I1 1 17) (e20 : ∀ j, Iₚ 20 j = I1 20 j) : gs_cc9 β N Ir Jr p Iₚ := by
  obtain ⟨a, c⟩ := gs_g2_e (m := I1 1 17 - b) h h0 rfl
  have f20 : Iₚ 20 = I1 20 := funext e20
  unfold gs_cc9 gs_fxc gs_frm
  rw [h1, h2, f20, e17, if_neg hT, hk]
  exact ⟨a, c⟩
/-- the CELLS at hand, on both sides, with their FORMS -/
def gs_CM (I : gr_I) (V : List fo_e) : Prop := ((V.length : Nat) : Int) = I 39 8 ∧ ∀ j : Nat, j < V.length → gs_PX (I 40 (3 * j)) (V.getD j fo_d0).1 ∧ fo_kx (I 20) (I 40 (3 * j + 1)) (I 40 (3 * j + 2)) = (V.getD j fo_d0).2 ∧ fo_okk (I 1 17) (I 40 (3 * j + 1)) (I 40 (3 * j + 2))
/-- the CELL at hand -/
def gs_cr9 (I : gr_I) (x : fo_e) : Prop := gs_PX (I 41 0) x.1 ∧ fo_kx (I 20) (I 41 1) (I 41 2) = x.2 ∧ fo_okk (I 1 17) (I 41 1) (I 41 2)
theorem gs_CM_fresh {x : fo_e} {v : Int} (h : gs_CM I V) (hx : gs_cr9 I x) (h0 : ∀ j : Nat, (j : Int) < v → ¬ I 40 (3 * j) = I 41 0) (hv : I 39 8 ≤ v) : ∀ j : Nat, j < V.length → ¬ (V.getD j fo_d0).1 = x.1 := fun j hj e => by
  have a := (h.2 j hj).1
  rw [e] at a
  exact h0 j (by have := h.1; omega) ((gs_PX_eq a hx.1).mpr rfl)
theorem gs_CM_full {x : fo_e} {v : Int} (h : gs_CM I V) (hx : gs_cr9 I x) (h0 : ∀ j : Nat, (j : Int) < v → ¬ I 40 (3 * j) = I 41 0) (hv : I 39 8 ≤ v) (h24 : 24 ≤ I 39 8) : 25 ≤ (((gs_inc V x).length : Nat) : Int) := by
  rw [gs_inc_new (gs_CM_fresh h hx h0 hv), List.length_append]
  have := h.1
  show 25 ≤ ((V.length + 1 : Nat) : Int)
  omega
theorem gs_CM_put {x : fo_e} {v : Int} (h : gs_CM I V) (hx : gs_cr9 I x) (h0 : ∀ j : Nat, (j : Int) < v → ¬ I 40 (3 * j) = I 41 0) (hv : 0 ≤ v) (hc : (v < I 39 8 ∧ I 40 (Int.toNat (v * 3)) = I 41 0 ∧ Iₚ 39 8 = I 39 8) ∨ (v = I 39 8 ∧ Iₚ 39 8 = v + 1)) (hr : ∀ d : Nat, d < 3 → Iₚ 40 (3 * Int.toNat v + d) = I 41 d) (ho : ∀ j : Nat, ¬ (j : Int) = v → ∀ d : Nat, d < 3 → Iₚ 40 (3 * j + d) = I 40 (3 * j + d)) (e17 : Iₚ 1 17 = I 1 17) (e20 : ∀ j, Iₚ 20 j = I 20 j) : gs_CM Iₚ (gs_inc V x) := by
  have l := h.1
  have f20 : Iₚ 20 = I 20 := funext e20
  have nw : gs_PX (Iₚ 40 (3 * Int.toNat v)) x.1 ∧ fo_kx (Iₚ 20) (Iₚ 40 (3 * Int.toNat v + 1)) (Iₚ 40 (3 * Int.toNat v + 2)) = x.2 ∧ fo_okk (Iₚ 1 17) (Iₚ 40 (3 * Int.toNat v + 1)) (Iₚ 40 (3 * Int.toNat v + 2)) := by
    have r0 : Iₚ 40 (3 * Int.toNat v) = I 41 0 := hr 0 (by decide)
    rw [r0, hr 1 (by decide), hr 2 (by decide), f20, e17]
    exact hx
  have od : ∀ j : Nat, ¬ (j : Int) = v → j < V.length → gs_PX (Iₚ 40 (3 * j)) (V.getD j fo_d0).1 ∧ fo_kx (Iₚ 20) (Iₚ 40 (3 * j + 1)) (Iₚ 40 (3 * j + 2)) = (V.getD j fo_d0).2 ∧ fo_okk (Iₚ 1 17) (Iₚ 40 (3 * j + 1)) (Iₚ 40 (3 * j + 2)) := fun j hj hl => by
    have r0 : Iₚ 40 (3 * j) = I 40 (3 * j) := ho j hj 0 (by decide)
    rw [r0, ho j hj 1 (by decide), ho j hj 2 (by decide), f20, e17]
    exact h.2 j hl
  rw [show Int.toNat (v * 3) = 3 * Int.toNat v from by omega] at hc
  rcases hc with ⟨c1, c2, c3⟩ | ⟨c1, c2⟩
  · have hl : Int.toNat v < V.length := by omega
    have e : (V.getD (Int.toNat v) fo_d0).1 = x.1 := (gs_PX_eq (h.2 (Int.toNat v) hl).1 hx.1).mp c2
    have i : gs_inc V x = V.set (Int.toNat v) x := gs_inc_old hl (fun j hj e9 => by
      have a := (h.2 j (by omega)).1
      rw [e9] at a
      exact h0 j (by omega) ((gs_PX_eq a hx.1).mpr rfl)) e
    rw [i]
    refine ⟨by rw [List.length_set]; omega, fun j hj => ?_⟩
    rw [List.length_set] at hj
    by_cases d : (j : Int) = v
    · rw [show j = Int.toNat v from by omega, show (V.set (Int.toNat v) x).getD (Int.toNat v) fo_d0 = x from by rw [List.getD_eq_getElem?_getD, List.getElem?_set, if_pos rfl, if_pos hl]; rfl]
      exact nw
    · rw [show (V.set (Int.toNat v) x).getD j fo_d0 = V.getD j fo_d0 from by rw [List.getD_eq_getElem?_getD, List.getD_eq_getElem?_getD, List.getElem?_set, if_neg (by omega)]]
      exact od j d hj
  · have i : gs_inc V x = V ++ [x] := gs_inc_new (gs_CM_fresh h hx h0 (by omega))
    rw [i]
    have ll : (V ++ [x]).length = V.length + 1 := List.length_append
    refine ⟨by rw [ll]; omega, fun j hj => ?_⟩
    rw [ll] at hj
    by_cases d : (j : Int) = v
    · rw [show j = Int.toNat v from by omega, show (V ++ [x]).getD (Int.toNat v) fo_d0 = x from by rw [List.getD_eq_getElem?_getD, List.getElem?_append_right (by omega), show Int.toNat v - V.length = 0 from by omega]; rfl]
      exact nw
    · rw [show (V ++ [x]).getD j fo_d0 = V.getD j fo_d0 from by rw [List.getD_eq_getElem?_getD, List.getD_eq_getElem?_getD, List.getElem?_append_left (by omega)]]
      exact od j d (by omega)
theorem gs_CM_0 (h : I 39 8 = 0) : gs_CM I [] := ⟨h.symm, fun j hj => absurd hj (Nat.not_lt_zero j)⟩
theorem gs_CM_kp (h : gs_CM I V) (h8 : Iₚ 39 8 = I 39 8) (h40 : ∀ j, Iₚ 40 j = I 40 j) (l : gc_PKs I Iₚ) : gs_CM Iₚ V := ⟨by rw [h8]; exact h.1, fun j hj => by
  obtain ⟨a, b, c⟩ := h.2 j hj
  rw [h40, h40, h40]
  exact ⟨a, (fo_kx_kp c l.2).trans b, fo_okk_kp c l.1⟩⟩
theorem gs_cr9_mk (h : gs_PX (I 41 0) x) (c : gs_cc9 β N Ir Jr p I) : gs_cr9 I (x, gs_fxc β N (gs_fpl β N Ir Jr p)) := ⟨h, c.1, c.2⟩
/-- the CELLS of all PATTERNS of a TONGUE, on both sides -/
def gs_PM (Ir I : gr_I) (t : Nat) : Prop := ∀ f : Int, 0 ≤ f → f < I (t + 11) 1 → ∀ j : Nat, (j : Int) < I (t + 13) (Int.toNat f) → fo_kx (I 20) (I (t + 14) (Int.toNat (72 * f) + 3 * j + 1)) (I (t + 14) (Int.toNat (72 * f) + 3 * j + 2)) = (gs_de9 Ir (24 * (24 * Ir 0 6 + f)) j).2 ∧ fo_okk (I 1 17) (I (t + 14) (Int.toNat (72 * f) + 3 * j + 1)) (I (t + 14) (Int.toNat (72 * f) + 3 * j + 2))
theorem gs_PM_fr (h : gs_PM Ir I t) (h1 : Iₚ (t + 11) 1 = I (t + 11) 1) (h13 : ∀ k, Iₚ (t + 13) k = I (t + 13) k) (h14 : ∀ k, Iₚ (t + 14) k = I (t + 14) k) (l : gc_PKs I Iₚ) : gs_PM Ir Iₚ t := fun f a b j hj => by
  rw [h13] at hj
  obtain ⟨x, y⟩ := h f a (by omega) j hj
  rw [h14, h14]
  exact ⟨(fo_kx_kp y l.2).trans x, fo_okk_kp y l.1⟩
theorem gs_CM_par {f : Int} (hP : gs_PT Ir I t) (h : gs_PM Ir I t) (f0 : 0 ≤ f) (f1 : f < I (t + 11) 1) (n0 : 0 ≤ I (t + 13) (Int.toNat f)) (h8 : Iₚ 39 8 = I (t + 13) (Int.toNat f)) (hc : ∀ k : Nat, (k : Int) < 3 * I (t + 13) (Int.toNat f) → Iₚ 40 k = I (t + 14) (Int.toNat (72 * f) + k)) (l : gc_PKs I Iₚ) : gs_CM Iₚ (gs_dl Ir (Ir 0 6) f) := by
  obtain ⟨a, b⟩ := hP f f0 f1
  have ln : (((gs_dl Ir (Ir 0 6) f).length : Nat) : Int) = I (t + 13) (Int.toNat f) := by
    unfold gs_dl
    rw [fo_ll_len (by omega), a]
  refine ⟨by rw [ln, h8], fun j hj => ?_⟩
  have hj2 : (j : Int) < I (t + 13) (Int.toNat f) := by omega
  have e : (gs_dl Ir (Ir 0 6) f).getD j fo_d0 = gs_de9 Ir (24 * (24 * Ir 0 6 + f)) j := by
    unfold gs_dl
    exact fo_ll_getD (by omega)
  obtain ⟨x, y⟩ := h f f0 f1 j hj2
  rw [e, hc (3 * j) (by omega), hc (3 * j + 1) (by omega), hc (3 * j + 2) (by omega)]
  rw [Nat.add_assoc, Nat.add_assoc] at x y
  exact ⟨b j hj2, (fo_kx_kp y l.2).trans x, fo_okk_kp y l.1⟩
/-- a PATTERN has come, with FORMS -/
def gs_Cct (V : List fo_e) (t : Nat) (I Iₚ : gr_I) : Prop := ∀ j : Nat, j < V.length → fo_kx (Iₚ 20) (Iₚ (t + 14) (72 * Int.toNat (I (t + 11) 1) + 3 * j + 1)) (Iₚ (t + 14) (72 * Int.toNat (I (t + 11) 1) + 3 * j + 2)) = (V.getD j fo_d0).2 ∧ fo_okk (Iₚ 1 17) (Iₚ (t + 14) (72 * Int.toNat (I (t + 11) 1) + 3 * j + 1)) (Iₚ (t + 14) (72 * Int.toNat (I (t + 11) 1) + 3 * j + 2))
theorem gs_CM_CL (h : gs_CM I V) : gs_CL I (V.map Prod.fst) := ⟨by rw [List.length_map]; exact h.1, fun j hj => by
  rw [List.length_map] at hj
  rw [show (V.map Prod.fst).getD j 0 = (V.getD j fo_d0).1 from by rw [List.getD_eq_getElem?_getD, List.getD_eq_getElem?_getD, List.getElem?_map, List.getElem?_eq_getElem hj]; rfl]
  exact (h.2 j hj).1⟩
theorem gs_Cct_mk {k1 o o0 n : Nat} {I3 : gr_I} (h : gs_CM I1 V) (e1 : k1 = Int.toNat (I (t + 11) 1)) (p1 : ∀ b j, ¬ (b = t + 13 ∧ j = k1) → I2 b j = I1 b j) (p2 : ∀ b j, ¬ (b = t + 14 ∧ o ≤ j ∧ j < o + n) → I3 b j = I2 b j) (q2 : ∀ j, j < n → I3 (t + 14) (o + j) = I2 40 (o0 + j)) (ho : o = 72 * k1 ∧ o0 = 0) (hn : n = Int.toNat (3 * I1 39 8)) (ht : 144 ≤ t) (l : gc_PKs I3 Iₚ) (e14 : ∀ j, Iₚ (t + 14) j = I3 (t + 14) j) : gs_Cct V t I Iₚ := by
  obtain ⟨rfl, rfl⟩ := ho
  subst e1
  have ln := h.1
  intro j hj
  obtain ⟨a, b, c⟩ := h.2 j hj
  have r : ∀ d : Nat, d < 3 → Iₚ (t + 14) (72 * Int.toNat (I (t + 11) 1) + 3 * j + d) = I1 40 (3 * j + d) := fun d hd => by
    rw [e14, Nat.add_assoc, q2 (3 * j + d) (by omega), show 0 + (3 * j + d) = 3 * j + d from by omega, p1 40 _ (by omega)]
  have l1 : gc_PKs I1 Iₚ := gc_PKs_tr (gc_PKs_fr gc_PKs_rf ((p2 1 17 (by omega)).trans (p1 1 17 (by omega))) (fun k => (p2 20 k (by omega)).trans (p1 20 k (by omega)))) l
  rw [r 1 (by decide), r 2 (by decide)]
  exact ⟨(fo_kx_kp c l1.2).trans b, fo_okk_kp c l1.1⟩
end C9
theorem gs_o2_1 {v : Int} {A B : Prop} (h : gs_o2 (v = 0 ∧ A) (v = 1 ∧ B)) (hv : ¬ v = 0) : B := by
  rcases h with h | h
  · exact absurd h.1 hv
  · exact h.2
theorem gs_o2_0 {v : Int} {A B : Prop} (h : gs_o2 (v = 0 ∧ A) (v = 1 ∧ B)) (hv : v = 0) : A := by
  rcases h with h | h
  · exact h.2
  · exact absurd hv (by have := h.1; omega)
theorem gs_part_x {β : Int → Int} {N p : Int} (hA : 0 ≤ gs_A β N p) (h : 0 ≤ gs_part β N p) : gs_part β N p = gs_X β N p := by
  by_cases c : (gs_T β N p = 2 ∧ ¬ (gs_V β N p < 1 ∨ 3 < gs_V β N p)) ∨ gs_T β N p = 3
  · exact if_pos c
  · have e : gs_part β N p = -1 - gs_A β N p := if_neg c
    omega
