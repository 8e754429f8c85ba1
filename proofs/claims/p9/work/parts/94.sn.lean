/-! PARITY: SOUND -/
def gs_ctx (β : Int → Int) (N : Int) (I : gr_I) (J : gr_J) (b p : Int) : Int :=
  if gs_T β N p = 3 then gs_X β N p else if gs_T β N p = 1 then (if gs_lt J 22 (16 * I 0 6) (I 15 (Int.toNat (I 0 6))) (gs_rn β N p) < 0 then -1 - gs_A β N p else gs_X β N p) else if b = 0 then -1 - gs_A β N p else if gs_T β N p = 35 then gs_X β N p else -1 - gs_A β N p
theorem gs_ctx_eq {β : Int → Int} {N : Int} {I Iₚ : gr_I} {J Jₚ : gr_J} {b p : Int} (h6 : Iₚ 0 6 = I 0 6) (h15 : ∀ k, Iₚ 15 k = I 15 k) (h22 : ∀ k, Jₚ 22 k = J 22 k) : gs_ctx β N Iₚ Jₚ b p = gs_ctx β N I J b p := by
  unfold gs_ctx
  rw [show gs_lt Jₚ 22 (16 * Iₚ 0 6) (Iₚ 15 (Int.toNat (Iₚ 0 6))) (gs_rn β N p) = gs_lt J 22 (16 * I 0 6) (I 15 (Int.toNat (I 0 6))) (gs_rn β N p) from by
    rw [h15, h6]
    exact gs_lt_eq h22 rfl rfl rfl]
/-- at most m further signs of a side -/
def gs_sd (β : Int → Int) (N : Int) (I : gr_I) (J : gr_J) : Nat → Int → Int
  | 0, q => if gs_T β N q = 3 ∨ gs_T β N q = 1 ∨ gs_T β N q = 35 then -1 - gs_A β N q else q
  | m + 1, q => if gs_T β N q = 3 ∨ gs_T β N q = 1 ∨ gs_T β N q = 35 then (if gs_ctx β N I J 1 q < 0 then gs_ctx β N I J 1 q else gs_sd β N I J m (gs_ctx β N I J 1 q)) else q
theorem gs_sd_s {β : Int → Int} {N : Int} {I : gr_I} {J : gr_J} {n q : Int} (hn : n < 3) (h : gs_T β N q = 3 ∨ gs_T β N q = 1 ∨ gs_T β N q = 35) (hc : ¬ gs_ctx β N I J 1 q < 0) : gs_sd β N I J (Int.toNat (3 - n)) q = gs_sd β N I J (Int.toNat (3 - (n + 1))) (gs_ctx β N I J 1 q) := by
  rw [show Int.toNat (3 - n) = Int.toNat (3 - (n + 1)) + 1 from by omega]
  show (if _ then _ else _) = _
  rw [if_pos h, if_neg hc]
theorem gs_sd_c {β : Int → Int} {N : Int} {I : gr_I} {J : gr_J} {n q : Int} (hn : n < 3) (h : gs_T β N q = 3 ∨ gs_T β N q = 1 ∨ gs_T β N q = 35) (hc : gs_ctx β N I J 1 q < 0) : gs_sd β N I J (Int.toNat (3 - n)) q = gs_ctx β N I J 1 q := by
  rw [show Int.toNat (3 - n) = Int.toNat (3 - (n + 1)) + 1 from by omega]
  show (if _ then _ else _) = _
  rw [if_pos h, if_pos hc]
theorem gs_sd_x {β : Int → Int} {N : Int} {I : gr_I} {J : gr_J} {n q : Int} (hn : 3 ≤ n) (h : gs_T β N q = 3 ∨ gs_T β N q = 1 ∨ gs_T β N q = 35) : gs_sd β N I J (Int.toNat (3 - n)) q = -1 - gs_A β N q := by
  rw [show Int.toNat (3 - n) = 0 from by omega]
  exact if_pos h
theorem gs_sd_e {β : Int → Int} {N : Int} {I : gr_I} {J : gr_J} {m : Nat} {q : Int} (h : ¬ (gs_T β N q = 3 ∨ gs_T β N q = 1 ∨ gs_T β N q = 35)) : gs_sd β N I J m q = q := by
  cases m with
  | zero => exact if_neg h
  | succ m => exact if_neg h
theorem gs_sd_eq {β : Int → Int} {N : Int} {I Iₚ : gr_I} {J Jₚ : gr_J} (h6 : Iₚ 0 6 = I 0 6) (h15 : ∀ k, Iₚ 15 k = I 15 k) (h22 : ∀ k, Jₚ 22 k = J 22 k) : ∀ (m : Nat) (q : Int), gs_sd β N Iₚ Jₚ m q = gs_sd β N I J m q
  | 0, _ => rfl
  | m + 1, q => by
    show (if _ then (if gs_ctx β N Iₚ Jₚ 1 q < 0 then gs_ctx β N Iₚ Jₚ 1 q else gs_sd β N Iₚ Jₚ m (gs_ctx β N Iₚ Jₚ 1 q)) else q) = _
    rw [gs_ctx_eq h6 h15 h22, gs_sd_eq h6 h15 h22 m]
    rfl
def gs_snd6 (β : Int → Int) (N : Int) (I : gr_I) (first f : Int) : Int := if f < 0 then f else gs_done β N (if I 16 (Int.toNat (I 0 6)) < 24 then 1 else 0) first f
def gs_snd5 (β : Int → Int) (N : Int) (I : gr_I) (J : gr_J) (first e : Int) : Int := if e < 0 then e else gs_snd6 β N I first (gs_sd β N I J 3 e)
def gs_snd4 (β : Int → Int) (N : Int) (I : gr_I) (J : gr_J) (first d : Int) : Int := if d < 0 then d else gs_snd5 β N I J first (gs_need β N 95 d)
def gs_snd3 (β : Int → Int) (N : Int) (I : gr_I) (J : gr_J) (first c : Int) : Int := if gs_T β N c = 47 then gs_snd4 β N I J first (gs_sd β N I J 3 (gs_X β N c)) else gs_snd6 β N I first c
def gs_snd2 (β : Int → Int) (N : Int) (I : gr_I) (J : gr_J) (first b : Int) : Int := if b < 0 then b else if gs_T β N b = 3 then gs_snd3 β N I J first (gs_X β N b) else -1 - gs_A β N b
def gs_snd1 (β : Int → Int) (N : Int) (I : gr_I) (J : gr_J) (first a : Int) : Int := if a < 0 then a else gs_snd2 β N I J first (gs_need β N 62 a)
def gs_snd (β : Int → Int) (N : Int) (I : gr_I) (J : gr_J) (first p : Int) : Int := if gs_T β N p = 3 ∧ (gs_X β N p - gs_A β N p - 2 < 1 ∨ 3 < gs_X β N p - gs_A β N p - 2) then -1 - gs_A β N p else gs_snd1 β N I J first (gs_ctx β N I J 0 p)
