/-! PARITY: MEAN -/
def gs_mn2 (β : Int → Int) (N first : Int) (w : Int × Int) : Int := if w.1 < 0 then w.1 else gs_done β N (if w.2 ≤ 40 then 1 else 0) first w.1
def gs_mn1 (β : Int → Int) (N : Int) (I : gr_I) (first f q : Int) : Int := if q < 0 then q else gs_mn2 β N first (gs_tm β N (I 6 (Int.toNat f)) 4100 0 1 q)
def gs_mn0 (β : Int → Int) (N : Int) (I : gr_I) (first f p : Int) : Int := if f < 0 then -1 - gs_A β N p else if 0 ≤ I 10 (Int.toNat f) then -1 - gs_A β N p else gs_mn1 β N I first f (gs_need β N 61 (gs_X β N p))
def gs_mn (β : Int → Int) (N : Int) (I : gr_I) (J : gr_J) (first p : Int) : Int := if gs_T β N p = 1 then gs_mn0 β N I first (gs_lk I J 3 3 (gs_rn β N p)) p else -1 - gs_A β N p
def gs_Umn (f : Int) (I Iₚ : gr_I) : Prop := 0 ≤ Iₚ 10 (Int.toNat f) ∧ (∀ j, ¬ j = Int.toNat f → Iₚ 10 j = I 10 j) ∧ Iₚ 0 99 = I 0 99 + 1 ∧ Iₚ 60 (Int.toNat (I 0 99)) = f ∧ ∀ j, ¬ j = Int.toNat (I 0 99) → Iₚ 60 j = I 60 j
def gs_Smn (I Iₚ : gr_I) : Prop := Iₚ 0 99 = I 0 99 ∧ ∀ j, Iₚ 10 j = I 10 j ∧ Iₚ 60 j = I 60 j
theorem gs_Umn_mk {f z : Int} {I I1 I2 I3 I4 : gr_I} {a b : Nat} (h : gs_Smn I I1) (ha : a = Int.toNat f) (pa : ∀ x j, ¬ (x = 10 ∧ j = a) → I2 x j = I1 x j) (qa : I2 10 a = z) (hz : 0 ≤ z) (pm : ∀ x j, ¬ (x = 0 ∧ j = 99) → I3 x j = I2 x j) (qm : I3 0 99 = I 0 99 + 1) (hb : b = Int.toNat (I 0 99)) (pb : ∀ x j, ¬ (x = 60 ∧ j = b) → I4 x j = I3 x j) (qb : I4 60 b = f) : gs_Umn f I I4 := by
  subst ha hb
  refine ⟨?_, fun j hj => ?_, ?_, qb, fun j hj => ?_⟩
  · rw [pb 10 _ (fun q => absurd q.1 (by first | exact gz_ne rfl | decide)), pm 10 _ (fun q => absurd q.1 (by first | exact gz_ne rfl | decide)), qa]
    exact hz
  · rw [pb 10 _ (fun q => absurd q.1 (by first | exact gz_ne rfl | decide)), pm 10 _ (fun q => absurd q.1 (by first | exact gz_ne rfl | decide)), pa 10 _ (fun q => hj q.2)]
    exact (h.2 j).1
  · rw [pb 0 99 (fun q => absurd q.1 (by first | exact gz_ne rfl | decide))]
    exact qm
  · rw [pb 60 _ (fun q => hj q.2), pm 60 _ (fun q => absurd q.1 (by first | exact gz_ne rfl | decide)), pa 60 _ (fun q => absurd q.1 (by first | exact gz_ne rfl | decide))]
    exact (h.2 j).2
/-! PARITY: A STATEMENT. What is told of the tables stays, but for a mask: 100 + a field, a row, 1000 + a row of longs -/
def gs_TsX (m : List Nat) (I : gr_I) (J : gr_J) (Iₚ : gr_I) (Jₚ : gr_J) : Prop :=
  (∀ f : Nat, [1, 2, 3, 4, 5, 6, 99].elem f = true → m.elem (100 + f) = false → Iₚ 0 f = I 0 f) ∧ (∀ a : Nat, [6, 7, 8, 9, 10, 11, 12, 13, 14, 15, 16, 17, 18, 19, 24, 25, 26, 27, 28, 29, 30, 31, 32, 33, 34, 36, 37, 38, 39, 40, 41, 60].elem a = true → m.elem a = false → ∀ j, Iₚ a j = I a j) ∧ ∀ a : Nat, [1, 2, 3, 4, 5, 20, 21, 22, 23].elem a = true → m.elem (1000 + a) = false → ∀ j, Jₚ a j = J a j
def gs_chk (fs as fj aj m : List Nat) : Bool := [1, 2, 3, 4, 5, 6, 99].all (fun f => m.elem (100 + f) || !(fs.elem f)) && ([6, 7, 8, 9, 10, 11, 12, 13, 14, 15, 16, 17, 18, 19, 24, 25, 26, 27, 28, 29, 30, 31, 32, 33, 34, 36, 37, 38, 39, 40, 41, 60].all (fun a => m.elem a || !(as.elem a)) && [1, 2, 3, 4, 5, 20, 21, 22, 23].all (fun a => m.elem (1000 + a) || !(aj.elem a)))
theorem gs_TsX_fr {fs as fj aj m : List Nat} {I Iₚ : gr_I} {J Jₚ : gr_J} (g : gr_fr fs as I Iₚ) (k : gr_fj fj aj J Jₚ) (c : gs_chk fs as fj aj m = true) : gs_TsX m I J Iₚ Jₚ := by
  unfold gs_chk at c
  rw [Bool.and_eq_true, Bool.and_eq_true] at c
  obtain ⟨c1, c2, c3⟩ := c
  refine ⟨fun f hf hm => ?_, fun a ha hm j => ?_, fun a ha hm j => ?_⟩
  · have h := List.all_eq_true.mp c1 f (List.elem_iff.mp hf)
    rw [hm, Bool.false_or, Bool.not_eq_true'] at h
    exact g 0 f h
  · have h := List.all_eq_true.mp c2 a (List.elem_iff.mp ha)
    rw [hm, Bool.false_or, Bool.not_eq_true'] at h
    refine g a j ?_
    cases a with
    | zero => exact absurd ha (by decide)
    | succ a => exact h
  · have h := List.all_eq_true.mp c3 a (List.elem_iff.mp ha)
    rw [hm, Bool.false_or, Bool.not_eq_true'] at h
    refine k a j ?_
    cases a with
    | zero => exact absurd ha (by decide)
    | succ a => exact h
theorem gs_cons_ne {x y : Nat} {m : List Nat} (h : m.elem x = false) (hn : ¬ x = y) : (y :: m).elem x = false := by
  rw [List.elem_cons, show (x == y) = false from by simpa using hn]
  exact h
theorem gs_TsX_rf {f : Nat} {m : List Nat} {I Iₚ : gr_I} {J Jₚ : gr_J} (h : gs_TsX ((100 + f) :: m) I J Iₚ Jₚ) (hf : f < 100) (e : Iₚ 0 f = I 0 f) : gs_TsX m I J Iₚ Jₚ := by
  refine ⟨fun f' hf' hm => ?_, fun a ha hm j => ?_, fun a ha hm j => ?_⟩
  · by_cases c : f' = f
    · rw [c]
      exact e
    · exact h.1 f' hf' (gs_cons_ne hm (by omega))
  · have : a ≤ 60 := (show ∀ x ∈ [6, 7, 8, 9, 10, 11, 12, 13, 14, 15, 16, 17, 18, 19, 24, 25, 26, 27, 28, 29, 30, 31, 32, 33, 34, 36, 37, 38, 39, 40, 41, 60], x ≤ 60 by decide) a (List.elem_iff.mp ha)
    exact h.2.1 a ha (gs_cons_ne hm (by omega)) j
  · exact h.2.2 a ha (gs_cons_ne hm (by omega)) j
theorem gs_TsX_ri {b : Nat} {m : List Nat} {I Iₚ : gr_I} {J Jₚ : gr_J} (h : gs_TsX (b :: m) I J Iₚ Jₚ) (hb : b < 100) (e : ∀ j, Iₚ b j = I b j) : gs_TsX m I J Iₚ Jₚ := by
  refine ⟨fun f' hf' hm => ?_, fun a ha hm j => ?_, fun a ha hm j => ?_⟩
  · exact h.1 f' hf' (gs_cons_ne hm (by omega))
  · by_cases c : a = b
    · rw [c]
      exact e j
    · exact h.2.1 a ha (gs_cons_ne hm c) j
  · exact h.2.2 a ha (gs_cons_ne hm (by omega)) j
theorem gs_TsX_rj {b : Nat} {m : List Nat} {I Iₚ : gr_I} {J Jₚ : gr_J} (h : gs_TsX ((1000 + b) :: m) I J Iₚ Jₚ) (e : ∀ j, Jₚ b j = J b j) : gs_TsX m I J Iₚ Jₚ := by
  refine ⟨fun f' hf' hm => ?_, fun a ha hm j => ?_, fun a ha hm j => ?_⟩
  · have : f' ≤ 99 := (show ∀ x ∈ [1, 2, 3, 4, 5, 6, 99], x ≤ 99 by decide) f' (List.elem_iff.mp hf')
    exact h.1 f' hf' (gs_cons_ne hm (by omega))
  · have : a ≤ 60 := (show ∀ x ∈ [6, 7, 8, 9, 10, 11, 12, 13, 14, 15, 16, 17, 18, 19, 24, 25, 26, 27, 28, 29, 30, 31, 32, 33, 34, 36, 37, 38, 39, 40, 41, 60], x ≤ 60 by decide) a (List.elem_iff.mp ha)
    exact h.2.1 a ha (gs_cons_ne hm (by omega)) j
  · by_cases c : a = b
    · rw [c]
      exact e j
    · exact h.2.2 a ha (gs_cons_ne hm (by omega)) j
theorem gs_Ts_tr {m : List Nat} {I I1 I2 : gr_I} {J J1 J2 : gr_J} (h : gs_TsX m I J I1 J1) (g : gs_TsX m I1 J1 I2 J2) : gs_TsX m I J I2 J2 := ⟨fun f a b => (g.1 f a b).trans (h.1 f a b), fun r a b j => (g.2.1 r a b j).trans (h.2.1 r a b j), fun r a b j => (g.2.2 r a b j).trans (h.2.2 r a b j)⟩
def gs_K6 (w : Int64) : Prop := w = gs_W 83 ∨ w = gs_W 84 ∨ w = gs_W 85 ∨ w = gs_W 86 ∨ w = gs_W 87 ∨ w = gs_W 88
def gs_O6 (w : Int64) : Prop := w = gs_W 80 ∨ w = gs_W 81 ∨ w = gs_W 82 ∨ w = gs_W 89 ∨ w = gs_W 90 ∨ w = gs_W 91
theorem gs_K6_n {w : Int64} (a : ¬ w = gs_W 83) (b : ¬ w = gs_W 84) (c : ¬ w = gs_W 85) (d : ¬ w = gs_W 86) (e : ¬ w = gs_W 87) (f : ¬ w = gs_W 88) : ¬ gs_K6 w := fun h => by
  rcases h with h | h | h | h | h | h <;> contradiction
theorem gs_O6_n {w : Int64} (a : ¬ w = gs_W 80) (b : ¬ w = gs_W 81) (c : ¬ w = gs_W 82) (d : ¬ w = gs_W 89) (e : ¬ w = gs_W 90) (f : ¬ w = gs_W 91) : ¬ gs_O6 w := fun h => by
  rcases h with h | h | h | h | h | h <;> contradiction
def gs_o2 (A B : Prop) : Prop := A ∨ B
/-- the statement that a word begins -/
def gs_stk (β : Int → Int) (N : Int) (I : gr_I) (J : gr_J) (w : Int64) (first q : Int) : Int :=
  if w = gs_W 80 then gs_tong β N I J first q else if w = gs_W 81 then gs_new β N I J 2 2 32 first q else if w = gs_W 82 then gs_fun β N I J first q else if w = gs_W 89 then gs_mn β N I J first q else if w = gs_W 90 then gs_new β N I J 4 4 8 first q else if w = gs_W 91 then gs_fact β N I J first q else
  if I 0 6 < 0 then -1 - first else if w = gs_W 83 then gs_fea β N I J first q else if w = gs_W 84 then gs_let β N I J first q else if w = gs_W 85 then gs_snd β N I J first q else if w = gs_W 86 then gs_pat β N I J first q else if w = gs_W 87 then gs_wd β N I J first q else if w = gs_W 88 then gs_lin β N I J first q else -1 - first
def gs_stc (β : Int → Int) (N : Int) (I : gr_I) (J : gr_J) (p : Int) : Int := if gs_T β N p = 1 then gs_stk β N I J (gs_rn β N p) (gs_A β N p) (gs_X β N p) else -1 - gs_A β N p
theorem gs_stk_n {β : Int → Int} {N : Int} {I : gr_I} {J : gr_J} {w : Int64} {first q : Int} (h : ¬ gs_O6 w) (g : ¬ gs_K6 w ∨ I 0 6 < 0) : gs_stk β N I J w first q = -1 - first := by
  unfold gs_stk
  rw [if_neg (fun e => h (Or.inl e)), if_neg (fun e => h (Or.inr (Or.inl e))), if_neg (fun e => h (Or.inr (Or.inr (Or.inl e)))), if_neg (fun e => h (Or.inr (Or.inr (Or.inr (Or.inl e))))), if_neg (fun e => h (Or.inr (Or.inr (Or.inr (Or.inr (Or.inl e)))))), if_neg (fun e => h (Or.inr (Or.inr (Or.inr (Or.inr (Or.inr e))))))]
  by_cases c : I 0 6 < 0
  · rw [if_pos c]
  · have k := g.resolve_right c
    rw [if_neg c, if_neg (fun e => k (Or.inl e)), if_neg (fun e => k (Or.inr (Or.inl e))), if_neg (fun e => k (Or.inr (Or.inr (Or.inl e)))), if_neg (fun e => k (Or.inr (Or.inr (Or.inr (Or.inl e))))), if_neg (fun e => k (Or.inr (Or.inr (Or.inr (Or.inr (Or.inl e)))))), if_neg (fun e => k (Or.inr (Or.inr (Or.inr (Or.inr (Or.inr e))))))]
theorem gs_KO {w : Int64} (h : gs_K6 w) : ¬ gs_O6 w := by
  rcases h with h | h | h | h | h | h <;> (subst h; unfold gs_O6; decide)
theorem gs_stk_80 {β : Int → Int} {N : Int} {I : gr_I} {J : gr_J} {w : Int64} {first q : Int} (h : w = gs_W 80) : gs_stk β N I J w first q = gs_tong β N I J first q := by
  subst h
  unfold gs_stk
  rw [if_pos rfl]
theorem gs_stk_81 {β : Int → Int} {N : Int} {I : gr_I} {J : gr_J} {w : Int64} {first q : Int} (h : w = gs_W 81) : gs_stk β N I J w first q = gs_new β N I J 2 2 32 first q := by
  subst h
  unfold gs_stk
  rw [if_neg (by decide), if_pos rfl]
theorem gs_stk_82 {β : Int → Int} {N : Int} {I : gr_I} {J : gr_J} {w : Int64} {first q : Int} (h : w = gs_W 82) : gs_stk β N I J w first q = gs_fun β N I J first q := by
  subst h
  unfold gs_stk
  rw [if_neg (by decide), if_neg (by decide), if_pos rfl]
theorem gs_stk_83 {β : Int → Int} {N : Int} {I : gr_I} {J : gr_J} {w : Int64} {first q : Int} (h : w = gs_W 83) (hc : ¬ I 0 6 < 0) : gs_stk β N I J w first q = gs_fea β N I J first q := by
  subst h
  unfold gs_stk
  rw [if_neg (by decide), if_neg (by decide), if_neg (by decide), if_neg (by decide), if_neg (by decide), if_neg (by decide), if_neg hc, if_pos rfl]
theorem gs_stk_84 {β : Int → Int} {N : Int} {I : gr_I} {J : gr_J} {w : Int64} {first q : Int} (h : w = gs_W 84) (hc : ¬ I 0 6 < 0) : gs_stk β N I J w first q = gs_let β N I J first q := by
  subst h
  unfold gs_stk
  rw [if_neg (by decide), if_neg (by decide), if_neg (by decide), if_neg (by decide), if_neg (by decide), if_neg (by decide), if_neg hc, if_neg (by decide), if_pos rfl]
theorem gs_stk_85 {β : Int → Int} {N : Int} {I : gr_I} {J : gr_J} {w : Int64} {first q : Int} (h : w = gs_W 85) (hc : ¬ I 0 6 < 0) : gs_stk β N I J w first q = gs_snd β N I J first q := by
  subst h
  unfold gs_stk
  rw [if_neg (by decide), if_neg (by decide), if_neg (by decide), if_neg (by decide), if_neg (by decide), if_neg (by decide), if_neg hc, if_neg (by decide), if_neg (by decide), if_pos rfl]
theorem gs_stk_86 {β : Int → Int} {N : Int} {I : gr_I} {J : gr_J} {w : Int64} {first q : Int} (h : w = gs_W 86) (hc : ¬ I 0 6 < 0) : gs_stk β N I J w first q = gs_pat β N I J first q := by
  subst h
  unfold gs_stk
  rw [if_neg (by decide), if_neg (by decide), if_neg (by decide), if_neg (by decide), if_neg (by decide), if_neg (by decide), if_neg hc, if_neg (by decide), if_neg (by decide), if_neg (by decide), if_pos rfl]
theorem gs_stk_87 {β : Int → Int} {N : Int} {I : gr_I} {J : gr_J} {w : Int64} {first q : Int} (h : w = gs_W 87) (hc : ¬ I 0 6 < 0) : gs_stk β N I J w first q = gs_wd β N I J first q := by
  subst h
  unfold gs_stk
  rw [if_neg (by decide), if_neg (by decide), if_neg (by decide), if_neg (by decide), if_neg (by decide), if_neg (by decide), if_neg hc, if_neg (by decide), if_neg (by decide), if_neg (by decide), if_neg (by decide), if_pos rfl]
theorem gs_stk_88 {β : Int → Int} {N : Int} {I : gr_I} {J : gr_J} {w : Int64} {first q : Int} (h : w = gs_W 88) (hc : ¬ I 0 6 < 0) : gs_stk β N I J w first q = gs_lin β N I J first q := by
  subst h
  unfold gs_stk
  rw [if_neg (by decide), if_neg (by decide), if_neg (by decide), if_neg (by decide), if_neg (by decide), if_neg (by decide), if_neg hc, if_neg (by decide), if_neg (by decide), if_neg (by decide), if_neg (by decide), if_neg (by decide), if_pos rfl]
theorem gs_stk_89 {β : Int → Int} {N : Int} {I : gr_I} {J : gr_J} {w : Int64} {first q : Int} (h : w = gs_W 89) : gs_stk β N I J w first q = gs_mn β N I J first q := by
  subst h
  unfold gs_stk
  rw [if_neg (by decide), if_neg (by decide), if_neg (by decide), if_pos rfl]
theorem gs_stk_90 {β : Int → Int} {N : Int} {I : gr_I} {J : gr_J} {w : Int64} {first q : Int} (h : w = gs_W 90) : gs_stk β N I J w first q = gs_new β N I J 4 4 8 first q := by
  subst h
  unfold gs_stk
  rw [if_neg (by decide), if_neg (by decide), if_neg (by decide), if_neg (by decide), if_pos rfl]
theorem gs_stk_91 {β : Int → Int} {N : Int} {I : gr_I} {J : gr_J} {w : Int64} {first q : Int} (h : w = gs_W 91) : gs_stk β N I J w first q = gs_fact β N I J first q := by
  subst h
  unfold gs_stk
  rw [if_neg (by decide), if_neg (by decide), if_neg (by decide), if_neg (by decide), if_neg (by decide), if_pos rfl]
/-- what a good statement does to the tables -/
def gs_UK (β : Int → Int) (N : Int) (I : gr_I) (J : gr_J) (k : Nat) (q : Int) (Iₚ : gr_I) (Jₚ : gr_J) : Prop := match k with
  | 80 => ((gs_lk I J 1 1 (gs_rn β N q) < 0 → gs_put 1 1 (gs_rn β N q) I J Iₚ Jₚ ∧ Iₚ 0 6 = I 0 1) ∧ (0 ≤ gs_lk I J 1 1 (gs_rn β N q) → gs_same 1 1 I J Iₚ Jₚ ∧ Iₚ 0 6 = gs_lk I J 1 1 (gs_rn β N q))) ∧ gs_TsX [101, 106, 1001] I J Iₚ Jₚ
  | 81 => gs_put 2 2 (gs_rn β N q) I J Iₚ Jₚ ∧ gs_TsX [102, 1002] I J Iₚ Jₚ
  | 82 => (gs_Ufun (gs_rn β N q) (gs_cn β N 5 (gs_need β N 58 (gs_X β N q))) (fun i => gs_lk I J 2 2 (gs_rn β N (gs_nx β N i (gs_need β N 58 (gs_X β N q))))) (gs_lk I J 2 2 (gs_rn β N (gs_need β N 62 (gs_fl β N I J 4 (gs_need β N 58 (gs_X β N q)))))) I J Iₚ Jₚ ∧ gs_Ufc (gs_prc β N (gs_X β N (gs_need β N 62 (gs_fl β N I J 4 (gs_need β N 58 (gs_X β N q)))))) I Iₚ) ∧ gs_TsX [103, 1003, 6, 7, 8, 10, 9] I J Iₚ Jₚ
  | 83 => gs_Ufe (gs_rn β N q) (fun i => gs_rn β N (gs_nx β N i (gs_need β N 61 (gs_X β N q)))) (Int.toNat (gs_cn β N 7 (gs_need β N 61 (gs_X β N q)))) I J Iₚ Jₚ ∧ gs_TsX [13, 14, 24, 25, 1020, 1021] I J Iₚ Jₚ
  | 84 => (gs_putT 22 15 16 (gs_rn β N q) I J Iₚ Jₚ ∧ gs_Uml β N I q Iₚ) ∧ gs_TsX [15, 1022, 26] I J Iₚ Jₚ
  | 85 => ((Iₚ 16 (Int.toNat (I 0 6)) = I 16 (Int.toNat (I 0 6)) + 1 ∧ ∀ j, ¬ j = Int.toNat (I 0 6) → Iₚ 16 j = I 16 j) ∧ gs_Usn β N I J q Iₚ (24 * I 0 6 + I 16 (Int.toNat (I 0 6)))) ∧ gs_TsX [16, 27, 28, 29, 30] I J Iₚ Jₚ
  | 86 => (gs_Upat (gs_rn β N q) (gs_ptw β N I J q).2 I J Iₚ Jₚ ∧ gs_Uct β N I J q Iₚ) ∧ gs_TsX [17, 1023, 31, 32, 33, 34] I J Iₚ Jₚ
  | 87 => ((Iₚ 18 (Int.toNat (I 0 6)) = I 18 (Int.toNat (I 0 6)) + 1 ∧ ∀ j, ¬ j = Int.toNat (I 0 6) → Iₚ 18 j = I 18 j) ∧ gs_Uwd β N I J q Iₚ) ∧ gs_TsX [18, 36, 37, 38, 39, 40] I J Iₚ Jₚ
  | 88 => gs_Uln (gs_lk I J 3 3 (gs_rn β N q)) I Iₚ ∧ gs_TsX [19, 41] I J Iₚ Jₚ
  | 89 => gs_Umn (gs_lk I J 3 3 (gs_rn β N q)) I Iₚ ∧ gs_TsX [199, 10, 60] I J Iₚ Jₚ
  | 90 => gs_put 4 4 (gs_rn β N q) I J Iₚ Jₚ ∧ gs_TsX [104, 1004] I J Iₚ Jₚ
  | 91 => gs_Ufact (gs_rn β N q) (gs_lk I J 4 4 (gs_rn β N (gs_X β N q))) (gs_fb β N I J (gs_X β N (gs_X β N q))) I J Iₚ Jₚ ∧ gs_TsX [105, 1005, 11, 12] I J Iₚ Jₚ
  | _ => False
def gs_STU (β : Int → Int) (N p : Int) (I : gr_I) (J : gr_J) (Iₚ : gr_I) (Jₚ : gr_J) : Prop := ∃ k : Nat, gs_rn β N p = gs_W k ∧ gs_UK β N I J k (gs_X β N p) Iₚ Jₚ
/-- a good statement from p on, and a wrong one -/
def gs_SS (β : Int → Int) (N p : Int) (I : gr_I) (J : gr_J) (Iₚ : gr_I) (Jₚ : gr_J) (q : Int) : Prop := ∃ (I1 : gr_I) (J1 : gr_J), gs_TsX [] I J I1 J1 ∧ gs_stc β N I1 J1 p = q ∧ 0 ≤ q ∧ gr_ATp β N q Iₚ Jₚ ∧ gs_STU β N p I1 J1 Iₚ Jₚ ∧ gr_LV I I1 ∧ gr_LV I1 Iₚ
def gs_SF (β : Int → Int) (N p : Int) (I : gr_I) (J : gr_J) (Iₚ : gr_I) (Jₚ : gr_J) : Prop := ∃ (I1 : gr_I) (J1 : gr_J), gs_TsX [] I J I1 J1 ∧ gs_stc β N I1 J1 p < 0 ∧ Iₚ 0 77 = -1 - gs_stc β N I1 J1 p ∧ gs_TsX [] I J Iₚ Jₚ ∧ gr_LV I I1 ∧ gr_LV I Iₚ
theorem gs_or_map {r : Int} {A B S F : Prop} (h : gs_Or r A B) (f : A → S) (g : B → F) : gs_Or r S F := by
  rcases h with h | h
  · exact Or.inl ⟨h.1, f h.2⟩
  · exact Or.inr ⟨h.1, g h.2⟩
theorem gs_Ts_rf {m : List Nat} {I : gr_I} {J : gr_J} : gs_TsX m I J I J := ⟨fun _ _ _ => rfl, fun _ _ _ _ => rfl, fun _ _ _ _ => rfl⟩
theorem gs_TsX_st {m : List Nat} {k : Nat} {I Iₚ : gr_I} {J : gr_J} (p : ∀ b j, ¬ (b = 0 ∧ j = k) → Iₚ b j = I b j) (hk : [1, 2, 3, 4, 5, 6, 99].elem k = false) : gs_TsX m I J Iₚ J := by
  refine ⟨fun f hf _ => p 0 f (fun q => ?_), fun a ha _ j => p a j (fun q => ?_), fun _ _ _ _ => rfl⟩
  · rw [q.2, hk] at hf
    cases hf
  · rw [q.1] at ha
    exact absurd ha (by decide)
def gs_NK (ks : List Nat) (w : Int64) : Prop := ∀ k ∈ ks, ¬ w = gs_W k
theorem gs_NK_c {k : Nat} {ks : List Nat} {w : Int64} (h : gs_NK ks w) (n : ¬ w = gs_W k) : gs_NK (k :: ks) w := fun j hj => by
  rcases List.mem_cons.mp hj with e | e
  · rw [e]
    exact n
  · exact h j e
theorem gs_last {w : Int64} (h : gs_o2 (gs_K6 w) (gs_O6 w)) (n : gs_NK [90, 89, 88, 87, 86, 85, 84, 83, 82, 81, 80] w) : w = gs_W 91 := by
  rcases h with h | h
  · rcases h with h | h | h | h | h | h <;> exact absurd h (n _ (by decide))
  · rcases h with h | h | h | h | h | h
    · exact absurd h (n _ (by decide))
    · exact absurd h (n _ (by decide))
    · exact absurd h (n _ (by decide))
    · exact absurd h (n _ (by decide))
    · exact absurd h (n _ (by decide))
    · exact h
theorem gs_o2_e {a b : Int} {B : Prop} (h : gs_o2 (0 ≤ a) B) (e : b = a) : gs_o2 (0 ≤ b) B := by
  rw [e]
  exact h
