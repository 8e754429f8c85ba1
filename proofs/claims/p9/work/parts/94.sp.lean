/-! PARITY: WORD -/
theorem gs_ov_eq {β : Int → Int} {N : Int} {I Iₚ : gr_I} {J Jₚ : gr_J} {k p : Int} (h6 : Iₚ 0 6 = I 0 6) (h14 : ∀ k, Iₚ 14 k = I 14 k) (h24 : ∀ k, Iₚ 24 k = I 24 k) (h25 : ∀ k, Iₚ 25 k = I 25 k) (h21 : ∀ k, Jₚ 21 k = J 21 k) : gs_ov β N Iₚ Jₚ k p = gs_ov β N I J k p ∧ gs_ovk β N Iₚ Jₚ k p = gs_ovk β N I J k p := by
  have e : gs_vl9 β N Iₚ Jₚ p = gs_vl9 β N I J p := by
    unfold gs_vl9
    rw [h14, h6]
    exact gs_lt_eq h21 rfl rfl rfl
  unfold gs_ov gs_ovk
  rw [e]
  unfold gs_ov2 gs_ovk2
  rw [h6, h24, h25]
  exact ⟨rfl, rfl⟩
def gs_stm (β : Int → Int) (N : Int) : Nat → Int → Int
  | 0, q => q
  | m + 1, q => if gs_T β N q = 3 then gs_stm β N m (gs_X β N q) else q
theorem gs_stm_s {β : Int → Int} {N n q : Int} (hn : n < 3) (h : gs_T β N q = 3) : gs_stm β N (Int.toNat (3 - n)) q = gs_stm β N (Int.toNat (3 - (n + 1))) (gs_X β N q) := by
  rw [show Int.toNat (3 - n) = Int.toNat (3 - (n + 1)) + 1 from by omega]
  show (if _ then _ else _) = _
  rw [if_pos h]
theorem gs_stm_e {β : Int → Int} {N n q : Int} (h : ¬ gs_T β N q = 3 ∨ 3 ≤ n) : gs_stm β N (Int.toNat (3 - n)) q = q := by
  by_cases c : 3 ≤ n
  · rw [show Int.toNat (3 - n) = 0 from by omega]
    rfl
  · rw [show Int.toNat (3 - n) = Int.toNat (3 - (n + 1)) + 1 from by omega]
    show (if _ then _ else _) = _
    rw [if_neg (h.resolve_right c)]
/-- the VALUES of a WORD; fi: the first is still to come -/
def gs_hv (β : Int → Int) (N : Int) (I : gr_I) (J : gr_J) : Nat → Int → Int → Int → Int
  | 0, _, _, q => q
  | m + 1, fi, k, q => if gs_T β N q = 1 ∧ (¬ fi = 0 ∨ ¬ gs_rn β N q = gs_W 92) then (if gs_ov β N I J k q < 0 then gs_ov β N I J k q else gs_hv β N I J m 0 (gs_ovk β N I J k q) (gs_ov β N I J k q)) else q
theorem gs_hv_s {β : Int → Int} {N : Int} {I : gr_I} {J : gr_J} {m : Nat} {fi k q : Int} (h : gs_T β N q = 1) (g : ¬ fi = 0 ∨ ¬ gs_rn β N q = gs_W 92) (u : ¬ gs_ov β N I J k q < 0) : gs_hv β N I J (m + 1) fi k q = gs_hv β N I J m 0 (gs_ovk β N I J k q) (gs_ov β N I J k q) := by
  show (if _ then _ else _) = _
  rw [if_pos ⟨h, g⟩, if_neg u]
theorem gs_hv_x {β : Int → Int} {N : Int} {I : gr_I} {J : gr_J} {m : Nat} {fi k q : Int} (h : gs_T β N q = 1) (g : ¬ fi = 0 ∨ ¬ gs_rn β N q = gs_W 92) (u : gs_ov β N I J k q < 0) : gs_hv β N I J (m + 1) fi k q = gs_ov β N I J k q := by
  show (if _ then _ else _) = _
  rw [if_pos ⟨h, g⟩, if_pos u]
theorem gs_hv_e {β : Int → Int} {N : Int} {I : gr_I} {J : gr_J} {m : Nat} {fi k q : Int} (h : ¬ gs_T β N q = 1 ∨ (fi = 0 ∧ gs_rn β N q = gs_W 92)) : gs_hv β N I J m fi k q = q := by
  cases m with
  | zero => rfl
  | succ m =>
    show (if _ then _ else _) = _
    rw [if_neg (fun c => h.elim (fun a => a c.1) (fun a => c.2.elim (fun b => b a.1) (fun b => b a.2)))]
def gs_wd6 (β : Int → Int) (N : Int) (I : gr_I) (first q : Int) : Int := gs_done β N (if I 18 (Int.toNat (I 0 6)) < 64 then 1 else 0) first q
def gs_wd5 (β : Int → Int) (N : Int) (I : gr_I) (first q : Int) : Int := if q < 0 then q else if gs_cost β N q < 0 then gs_cost β N q else gs_wd6 β N I first (gs_cost β N q)
def gs_wd4 (β : Int → Int) (N : Int) (I : gr_I) (J : gr_J) (first q : Int) : Int := if gs_T β N q = 1 then gs_wd5 β N I first (gs_hv β N I J 1002 1 0 q) else -1 - gs_A β N q
def gs_wd3 (β : Int → Int) (N : Int) (I : gr_I) (J : gr_J) (first q : Int) : Int := if gs_kw β N q (gs_W 93) = 1 then gs_wd4 β N I J first (gs_X β N q) else gs_wd5 β N I first q
def gs_wd2 (β : Int → Int) (N : Int) (I : gr_I) (J : gr_J) (first q : Int) : Int := if gs_T β N q = 3 then gs_wd3 β N I J first (gs_stm β N 3 q) else -1 - gs_A β N q
def gs_wd1 (β : Int → Int) (N : Int) (I : gr_I) (J : gr_J) (first q : Int) : Int := if gs_T β N q = 1 then (if gs_lt J 23 (24 * I 0 6) (I 17 (Int.toNat (I 0 6))) (gs_rn β N q) < 0 then -1 - gs_A β N q else gs_wd2 β N I J first (gs_X β N q)) else -1 - gs_A β N q
def gs_wd0 (β : Int → Int) (N : Int) (I : gr_I) (J : gr_J) (first f p : Int) : Int := if f < 0 ∨ 0 < I 6 (Int.toNat f) then -1 - gs_A β N p else gs_wd1 β N I J first (gs_X β N p)
/-- WORD: its function by name, its PATTERN, stems, VALUES, cost -/
def gs_wd (β : Int → Int) (N : Int) (I : gr_I) (J : gr_J) (first p : Int) : Int := if gs_T β N p = 1 then gs_wd0 β N I J first (gs_lk I J 3 3 (gs_rn β N p)) p else -1 - gs_A β N p
