/-! PARITY: PATTERN. The values of its cells, as a list -/
def gs_ll (f : Nat → Int) (n : Int) : List Int := (List.range (Int.toNat n)).map f
theorem gs_ll_eq {f g : Nat → Int} {n : Int} (h : ∀ j : Nat, (j : Int) < n → f j = g j) : gs_ll f n = gs_ll g n := List.map_congr_left (fun j hj => h j (by have := List.mem_range.mp hj; omega))
theorem gs_ll_len {f : Nat → Int} {n : Int} (hn : 0 ≤ n) : ((gs_ll f n).length : Int) = n := by
  unfold gs_ll
  rw [List.length_map, List.length_range]
  omega
def gs_ins (V : List Int) (x : Int) : List Int := if x ∈ V then V else V ++ [x]
/-- VALUES one after the other -/
def gs_ws (β : Int → Int) (N : Int) (I : gr_I) (J : gr_J) : Nat → Int → Int → Int × Int
  | 0, k, q => (q, k)
  | m + 1, k, q => if gs_T β N q = 1 then (if gs_ov β N I J k q < 0 then (gs_ov β N I J k q, k) else gs_ws β N I J m (gs_ovk β N I J k q) (gs_ov β N I J k q)) else (q, k)
theorem gs_ws_s {β : Int → Int} {N : Int} {I : gr_I} {J : gr_J} {m : Nat} {k q : Int} (h : gs_T β N q = 1) (u : ¬ gs_ov β N I J k q < 0) : gs_ws β N I J (m + 1) k q = gs_ws β N I J m (gs_ovk β N I J k q) (gs_ov β N I J k q) := by
  show (if _ then _ else _) = _
  rw [if_pos h, if_neg u]
theorem gs_ws_x {β : Int → Int} {N : Int} {I : gr_I} {J : gr_J} {m : Nat} {k q : Int} (h : gs_T β N q = 1) (u : gs_ov β N I J k q < 0) : gs_ws β N I J (m + 1) k q = (gs_ov β N I J k q, k) := by
  show (if _ then _ else _) = _
  rw [if_pos h, if_pos u]
theorem gs_ws_e {β : Int → Int} {N : Int} {I : gr_I} {J : gr_J} {m : Nat} {k q : Int} (h : ¬ gs_T β N q = 1) : gs_ws β N I J m k q = (q, k) := by
  cases m with
  | zero => rfl
  | succ m => exact if_neg h
def gs_pf (β : Int → Int) (N : Int) (e : Int) : Int := if gs_T β N e = 45 then gs_X β N e else gs_fm β N 1002 e
def gs_pcC (β : Int → Int) (N : Int) (rec : List Int → Int → Int × List Int) (V : List Int) (f : Int) : Int × List Int := if f < 0 then (f, []) else if gs_T β N f = 44 then rec V (gs_X β N f) else (f, V)
def gs_pcB (β : Int → Int) (N : Int) (rec : List Int → Int → Int × List Int) (V : List Int) (e : Int) : Int × List Int := gs_pcC β N rec V (gs_pf β N e)
def gs_pcA (β : Int → Int) (N : Int) (rec : List Int → Int → Int × List Int) (V : List Int) (w : Int × Int) : Int × List Int := if w.1 < 0 then (w.1, []) else if gs_need β N 61 w.1 < 0 then (gs_need β N 61 w.1, []) else gs_pcB β N rec (gs_ins V w.2) (gs_need β N 61 w.1)
/-- cells, each with its VALUES and its FORM -/
def gs_pc (β : Int → Int) (N : Int) (I : gr_I) (J : gr_J) : Nat → List Int → Int → Int × List Int
  | 0, V, q => (q, V)
  | m + 1, V, q => gs_pcA β N (gs_pc β N I J m) V (gs_ws β N I J 1002 0 q)
/-- the cells of a PATTERN -/
def gs_cl (I : gr_I) (t f : Int) : List Int := gs_ll (fun k => I 32 (Int.toNat (24 * (24 * t + f) + k))) (I 31 (Int.toNat (24 * t + f)))
def gs_pt2 (β : Int → Int) (N : Int) (I : gr_I) (J : gr_J) (V : List Int) (q : Int) : Int × List Int := if gs_need β N 123 q < 0 then (gs_need β N 123 q, []) else gs_pc β N I J 1002 V (gs_need β N 123 q)
def gs_ptP (β : Int → Int) (N : Int) (I : gr_I) (J : gr_J) (f q : Int) : Int × List Int := if f < 0 then (-1 - gs_A β N q, []) else gs_pt2 β N I J (gs_cl I (I 0 6) f) (gs_X β N q)
def gs_ptO (β : Int → Int) (N : Int) (I : gr_I) (J : gr_J) (q : Int) : Int × List Int := if gs_T β N q = 1 then gs_ptP β N I J (gs_lt J 23 (24 * I 0 6) (I 17 (Int.toNat (I 0 6))) (gs_rn β N q)) q else (-1 - gs_A β N q, [])
def gs_pt1 (β : Int → Int) (N : Int) (I : gr_I) (J : gr_J) (q : Int) : Int × List Int := if gs_kw β N q (gs_W 94) = 1 then gs_ptO β N I J (gs_X β N q) else gs_pt2 β N I J [] q
def gs_ptw (β : Int → Int) (N : Int) (I : gr_I) (J : gr_J) (p : Int) : Int × List Int := if gs_T β N p = 1 then (if 0 ≤ gs_lt J 23 (24 * I 0 6) (I 17 (Int.toNat (I 0 6))) (gs_rn β N p) then (-1 - gs_A β N p, []) else gs_pt1 β N I J (gs_X β N p)) else (-1 - gs_A β N p, [])
def gs_pt4 (β : Int → Int) (N : Int) (I : gr_I) (first n q : Int) : Int := if q < 0 then q else gs_done β N (if n ≤ 24 ∧ I 17 (Int.toNat (I 0 6)) < 24 then 1 else 0) first q
def gs_pt3 (β : Int → Int) (N : Int) (I : gr_I) (first : Int) (w : Int × List Int) : Int := if w.1 < 0 then w.1 else gs_pt4 β N I first (w.2.length : Int) (gs_need β N 125 w.1)
/-- PATTERN -/
def gs_pat (β : Int → Int) (N : Int) (I : gr_I) (J : gr_J) (first p : Int) : Int := gs_pt3 β N I first (gs_ptw β N I J p)
theorem gs_pat_x {β : Int → Int} {N : Int} {I : gr_I} {J : gr_J} {first p c : Int} {V : List Int} (h : gs_ptw β N I J p = (c, V)) (hc : c < 0) : gs_pat β N I J first p = c := by
  unfold gs_pat
  rw [h]
  exact if_pos hc
theorem gs_pat_e {β : Int → Int} {N : Int} {I : gr_I} {J : gr_J} {first p c n : Int} {V : List Int} (h : gs_ptw β N I J p = (c, V)) (hc : ¬ c < 0) (hn : (V.length : Int) = n) : gs_pat β N I J first p = gs_pt4 β N I first n (gs_need β N 125 c) := by
  unfold gs_pat
  rw [h, ← hn]
  exact if_neg hc
def gs_Pn (I : gr_I) : Nat := Int.toNat (24 * I 0 6 + I 17 (Int.toNat (I 0 6)))
def gs_Spt (I : gr_I) (J : gr_J) (Iₚ : gr_I) (Jₚ : gr_J) : Prop := ∀ j, Iₚ 17 j = I 17 j ∧ Jₚ 23 j = J 23 j ∧ Iₚ 31 j = I 31 j ∧ Iₚ 32 j = I 32 j
/-- its name, its number of cells and m of its cells have come -/
def gs_Upm (w : Int64) (n : Int) (m : Nat) (I : gr_I) (J : gr_J) (Iₚ : gr_I) (Jₚ : gr_J) : Prop :=
  Iₚ 17 (Int.toNat (I 0 6)) = I 17 (Int.toNat (I 0 6)) + 1 ∧ (∀ j, ¬ j = Int.toNat (I 0 6) → Iₚ 17 j = I 17 j) ∧ Jₚ 23 (gs_Pn I) = w ∧ (∀ j, ¬ j = gs_Pn I → Jₚ 23 j = J 23 j) ∧ Iₚ 31 (gs_Pn I) = n ∧ (∀ j, ¬ j = gs_Pn I → Iₚ 31 j = I 31 j) ∧
  (∀ j : Nat, j < m → Iₚ 32 (24 * gs_Pn I + j) = Iₚ 64 j) ∧ ∀ j : Nat, (j < 24 * gs_Pn I ∨ 24 * gs_Pn I + m ≤ j) → Iₚ 32 j = I 32 j
def gs_Upat (w : Int64) (V : List Int) (I : gr_I) (J : gr_J) (Iₚ : gr_I) (Jₚ : gr_J) : Prop :=
  Iₚ 17 (Int.toNat (I 0 6)) = I 17 (Int.toNat (I 0 6)) + 1 ∧ (∀ j, ¬ j = Int.toNat (I 0 6) → Iₚ 17 j = I 17 j) ∧ Jₚ 23 (gs_Pn I) = w ∧ (∀ j, ¬ j = gs_Pn I → Jₚ 23 j = J 23 j) ∧ Iₚ 31 (gs_Pn I) = (V.length : Int) ∧ (∀ j, ¬ j = gs_Pn I → Iₚ 31 j = I 31 j) ∧
  gs_ll (fun k => Iₚ 32 (24 * gs_Pn I + k)) (Iₚ 31 (gs_Pn I)) = V ∧ ∀ j : Nat, (j < 24 * gs_Pn I ∨ 24 * gs_Pn I + 24 ≤ j) → Iₚ 32 j = I 32 j
theorem gs_Upat_mk {w : Int64} {n : Int} {m : Nat} {V : List Int} {I : gr_I} {J : gr_J} {Iₚ : gr_I} {Jₚ : gr_J} (h : gs_Upm w n m I J Iₚ Jₚ) (hm : (m : Int) = n) (h24 : n ≤ 24) (hV : V = gs_ll (Iₚ 64) n) : gs_Upat w V I J Iₚ Jₚ := by
  obtain ⟨a, b, c, d, e, f, g, k⟩ := h
  refine ⟨a, b, c, d, ?_, f, ?_, fun j hj => k j (by omega)⟩
  · rw [hV, gs_ll_len (by omega)]
    exact e
  · rw [hV, e]
    exact gs_ll_eq (fun j hj => g j (by omega))
theorem gs_Upm_0 {w : Int64} {n : Int} {I I1 I2 I3 I4 : gr_I} {J J1 J2 : gr_J} {a b c : Nat} (h : gs_Spt I J I1 J1) (ha : a = Int.toNat (I 0 6)) (pa : ∀ x j, ¬ (x = 17 ∧ j = a) → I2 x j = I1 x j) (qa : I2 17 a = I 17 (Int.toNat (I 0 6)) + 1)
  (hb : b = gs_Pn I) (pb : ∀ x j, ¬ (x = 23 ∧ j = b) → J2 x j = J1 x j) (qb : J2 23 b = w) (hc : c = gs_Pn I) (pc : ∀ x j, ¬ (x = 31 ∧ j = c) → I3 x j = I2 x j) (qc : I3 31 c = n) (h4 : I4 = I3) : gs_Upm w n 0 I J I4 J2 := by
  subst h4 ha hb hc
  refine ⟨?_, fun j hj => ?_, qb, fun j hj => ?_, qc, fun j hj => ?_, fun j hj => absurd hj (by omega), fun j _ => ?_⟩
  · rw [pc 17 _ (fun q => absurd q.1 (by first | exact gz_ne rfl | decide))]
    exact qa
  · rw [pc 17 _ (fun q => absurd q.1 (by first | exact gz_ne rfl | decide)), pa 17 _ (fun q => hj q.2)]
    exact (h j).1
  · rw [pb 23 _ (fun q => hj q.2)]
    exact (h j).2.1
  · rw [pc 31 _ (fun q => hj q.2), pa 31 _ (fun q => absurd q.1 (by first | exact gz_ne rfl | decide))]
    exact (h j).2.2.1
  · rw [pc 32 _ (fun q => absurd q.1 (by first | exact gz_ne rfl | decide)), pa 32 _ (fun q => absurd q.1 (by first | exact gz_ne rfl | decide))]
    exact (h j).2.2.2
theorem gs_Upm_s {w : Int64} {n : Int} {m : Nat} {I Iₚ I2 I3 I4 : gr_I} {J Jₚ : gr_J} {a b c : Nat} (h : gs_Upm w n m I J Iₚ Jₚ) (ha : a = 24 * gs_Pn I + m) (pa : ∀ x j, ¬ (x = 32 ∧ j = a) → I2 x j = Iₚ x j) (qa : I2 32 a = Iₚ 64 m) (pb : ∀ x j, ¬ (x = 33 ∧ j = b) → I3 x j = I2 x j) (pc : ∀ x j, ¬ (x = 34 ∧ j = c) → I4 x j = I3 x j) : gs_Upm w n (m + 1) I J I4 Jₚ := by
  have e : ∀ x j, ¬ x = 32 → ¬ x = 33 → ¬ x = 34 → I4 x j = Iₚ x j := fun x j h1 h2 h3 => by
    rw [pc x j (fun q => h3 q.1), pb x j (fun q => h2 q.1), pa x j (fun q => h1 q.1)]
  have e2 : ∀ j, I4 32 j = I2 32 j := fun j => by
    rw [pc 32 j (fun q => absurd q.1 (by first | exact gz_ne rfl | decide)), pb 32 j (fun q => absurd q.1 (by first | exact gz_ne rfl | decide))]
  obtain ⟨h1, h2, h3, h4, h5, h6, h7, h8⟩ := h
  refine ⟨?_, fun j hj => ?_, h3, h4, ?_, fun j hj => ?_, fun j hj => ?_, fun j hj => ?_⟩
  · rw [e 17 _ (by decide) (by decide) (by decide)]
    exact h1
  · rw [e 17 _ (by decide) (by decide) (by decide)]
    exact h2 j hj
  · rw [e 31 _ (by decide) (by decide) (by decide)]
    exact h5
  · rw [e 31 _ (by decide) (by decide) (by decide)]
    exact h6 j hj
  · rw [e 64 _ (by decide) (by decide) (by decide), e2]
    by_cases c9 : j = m
    · rw [c9, ← ha]
      exact qa
    · rw [pa 32 _ (fun q => c9 (by have := q.2; omega))]
      exact h7 j (by omega)
  · rw [e2, pa 32 _ (fun q => by have := q.2; omega)]
    exact h8 j (by omega)
