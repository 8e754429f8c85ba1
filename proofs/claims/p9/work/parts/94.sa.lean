/-! TOKENS, as functions of a text alone (β: its bytes, 0 outside; N: how many) and of the place p from which one is sought. -/
def gs_sk (β : Int → Int) (N : Int) : Nat → Int → Int
  | 0, k => k
  | f + 1, k => if k < N ∧ β k = 32 then gs_sk β N f (k + 1) else k
def gs_S (β : Int → Int) (N p : Int) : Int := gs_sk β N (Int.toNat (1001 - p)) p
theorem gs_S_s {β : Int → Int} {N k : Int} (hk : k < N) (hN : N ≤ 1000) (hb : β k = 32) : gs_S β N k = gs_S β N (k + 1) := by
  unfold gs_S
  rw [show Int.toNat (1001 - k) = Int.toNat (1001 - (k + 1)) + 1 from by omega]
  show (if k < N ∧ β k = 32 then _ else _) = _
  rw [if_pos ⟨hk, hb⟩]
theorem gs_S_e {β : Int → Int} {N k : Int} (h : ¬ (k < N ∧ β k = 32)) : gs_S β N k = k := by
  unfold gs_S
  cases Int.toNat (1001 - k) with
  | zero => rfl
  | succ f =>
    show (if k < N ∧ β k = 32 then _ else _) = _
    rw [if_neg h]
def gs_ne (β : Int → Int) : Nat → Int → Int
  | 0, k => k
  | f + 1, k => if (97 ≤ β k ∧ β k ≤ 122) ∨ (48 ≤ β k ∧ β k ≤ 57) then gs_ne β f (k + 1) else k
def gs_w8 (w : Int64) (c : Int) : Int64 := (w <<< ((Int32.ofInt 8).toInt64 &&& 63)) ||| (Int32.ofInt c).toInt64
def gs_nv (β : Int → Int) : Nat → Int → Int64 → Int64
  | 0, _, w => w
  | f + 1, k, w => if (97 ≤ β k ∧ β k ≤ 122) ∨ (48 ≤ β k ∧ β k ≤ 57) then gs_nv β f (k + 1) (gs_w8 w (β k)) else w
def gs_de (β : Int → Int) : Nat → Int → Int
  | 0, k => k
  | f + 1, k => if 48 ≤ β k ∧ β k ≤ 57 then gs_de β f (k + 1) else k
def gs_dv (β : Int → Int) : Nat → Int → Int → Int
  | 0, _, v => v
  | f + 1, k, v => if 48 ≤ β k ∧ β k ≤ 57 then gs_dv β f (k + 1) (10 * v + β k - 48) else v
def gs_le (β : Int → Int) : Nat → Int → Int
  | 0, k => k
  | f + 1, k => if 97 ≤ β k ∧ β k ≤ 122 then gs_le β f (k + 1) else k
/-- with a the token's beginning: at most m characters from there on -/
theorem gs_ne_s {β : Int → Int} {m : Nat} {a k : Int} (hk : k < a + m) (hb : (97 ≤ β k ∧ β k ≤ 122) ∨ (48 ≤ β k ∧ β k ≤ 57)) : gs_ne β (Int.toNat (a + m - k)) k = gs_ne β (Int.toNat (a + m - (k + 1))) (k + 1) := by
  rw [show Int.toNat (a + m - k) = Int.toNat (a + m - (k + 1)) + 1 from by omega]
  show (if _ then _ else _) = _
  rw [if_pos hb]
theorem gs_ne_e {β : Int → Int} {f : Nat} {k : Int} (h : f = 0 ∨ ¬ ((97 ≤ β k ∧ β k ≤ 122) ∨ (48 ≤ β k ∧ β k ≤ 57))) : gs_ne β f k = k := by
  cases f with
  | zero => rfl
  | succ f =>
    show (if _ then _ else _) = _
    rw [if_neg (by omega)]
theorem gs_nv_s {β : Int → Int} {m : Nat} {a k : Int} {w : Int64} (hk : k < a + m) (hb : (97 ≤ β k ∧ β k ≤ 122) ∨ (48 ≤ β k ∧ β k ≤ 57)) : gs_nv β (Int.toNat (a + m - k)) k w = gs_nv β (Int.toNat (a + m - (k + 1))) (k + 1) (gs_w8 w (β k)) := by
  rw [show Int.toNat (a + m - k) = Int.toNat (a + m - (k + 1)) + 1 from by omega]
  show (if _ then _ else _) = _
  rw [if_pos hb]
theorem gs_nv_e {β : Int → Int} {f : Nat} {k : Int} {w : Int64} (h : f = 0 ∨ ¬ ((97 ≤ β k ∧ β k ≤ 122) ∨ (48 ≤ β k ∧ β k ≤ 57))) : gs_nv β f k w = w := by
  cases f with
  | zero => rfl
  | succ f =>
    show (if _ then _ else _) = _
    rw [if_neg (by omega)]
theorem gs_de_s {β : Int → Int} {m : Nat} {a k : Int} (hk : k < a + m) (hb : 48 ≤ β k ∧ β k ≤ 57) : gs_de β (Int.toNat (a + m - k)) k = gs_de β (Int.toNat (a + m - (k + 1))) (k + 1) := by
  rw [show Int.toNat (a + m - k) = Int.toNat (a + m - (k + 1)) + 1 from by omega]
  show (if _ then _ else _) = _
  rw [if_pos hb]
theorem gs_de_e {β : Int → Int} {f : Nat} {k : Int} (h : f = 0 ∨ ¬ (48 ≤ β k ∧ β k ≤ 57)) : gs_de β f k = k := by
  cases f with
  | zero => rfl
  | succ f =>
    show (if _ then _ else _) = _
    rw [if_neg (by omega)]
theorem gs_dv_s {β : Int → Int} {m : Nat} {a k v : Int} (hk : k < a + m) (hb : 48 ≤ β k ∧ β k ≤ 57) : gs_dv β (Int.toNat (a + m - k)) k v = gs_dv β (Int.toNat (a + m - (k + 1))) (k + 1) (10 * v + β k - 48) := by
  rw [show Int.toNat (a + m - k) = Int.toNat (a + m - (k + 1)) + 1 from by omega]
  show (if _ then _ else _) = _
  rw [if_pos hb]
theorem gs_dv_e {β : Int → Int} {f : Nat} {k v : Int} (h : f = 0 ∨ ¬ (48 ≤ β k ∧ β k ≤ 57)) : gs_dv β f k v = v := by
  cases f with
  | zero => rfl
  | succ f =>
    show (if _ then _ else _) = _
    rw [if_neg (by omega)]
theorem gs_le_s {β : Int → Int} {m : Nat} {a k : Int} (hk : k < a + m) (hb : 97 ≤ β k ∧ β k ≤ 122) : gs_le β (Int.toNat (a + m - k)) k = gs_le β (Int.toNat (a + m - (k + 1))) (k + 1) := by
  rw [show Int.toNat (a + m - k) = Int.toNat (a + m - (k + 1)) + 1 from by omega]
  show (if _ then _ else _) = _
  rw [if_pos hb]
theorem gs_le_e {β : Int → Int} {f : Nat} {k : Int} (h : f = 0 ∨ ¬ (97 ≤ β k ∧ β k ≤ 122)) : gs_le β f k = k := by
  cases f with
  | zero => rfl
  | succ f =>
    show (if _ then _ else _) = _
    rw [if_neg (by omega)]
/-- a token's type as the class tells it: 1 a NAME, 2 a NUMBER, 3 LETTERS, 4 the end, 5 none; else the sign itself -/
def gs_T (β : Int → Int) (N p : Int) : Int :=
  if N ≤ gs_S β N p then 4 else if 97 ≤ β (gs_S β N p) ∧ β (gs_S β N p) ≤ 122 then 1 else if 48 ≤ β (gs_S β N p) ∧ β (gs_S β N p) ≤ 57 then 2 else
  if β (gs_S β N p) = 39 then (if β (gs_le β 12 (gs_S β N p + 1)) = 39 then 3 else 5) else if 0 ≤ gz_ixf (β (gs_S β N p)) then β (gs_S β N p) else 5
def gs_X (β : Int → Int) (N p : Int) : Int :=
  if N ≤ gs_S β N p then N else if 97 ≤ β (gs_S β N p) ∧ β (gs_S β N p) ≤ 122 then gs_ne β 8 (gs_S β N p) else if 48 ≤ β (gs_S β N p) ∧ β (gs_S β N p) ≤ 57 then gs_de β 6 (gs_S β N p) else
  if β (gs_S β N p) = 39 then gs_le β 12 (gs_S β N p + 1) + 1 else gs_S β N p + 1
def gs_A (β : Int → Int) (N p : Int) : Int := if N ≤ gs_S β N p then N else gs_S β N p
def gs_M (β : Int → Int) (N p : Int) : Int64 := gs_nv β 8 (gs_S β N p) (Int64.ofNat 0)
def gs_V (β : Int → Int) (N p : Int) : Int := gs_dv β 6 (gs_S β N p) 0
/-- the text of a row -/
def gs_TX (β : Int → Int) (N : Int) (r : Nat → Int) : Prop := ∀ k : Int, (0 ≤ k → k < N → β k = r (Int.toNat k)) ∧ (¬ (0 ≤ k ∧ k < N) → β k = 0)
theorem gs_TX_i {β : Int → Int} {N : Int} {r : Nat → Int} (h : gs_TX β N r) {k : Int} (h0 : 0 ≤ k) (h1 : k < N) : β k = r (Int.toNat k) := (h k).1 h0 h1
theorem gs_TX_o {β : Int → Int} {N : Int} {r : Nat → Int} (h : gs_TX β N r) {k : Int} (h1 : ¬ k < N) : β k = 0 := (h k).2 (fun q => h1 q.2)
/-- the reference's kind of token, out of the class's type -/
def gs_k (t : Int) : Int := if t = 4 then 0 else if 6 ≤ t then 4 else t
def gs_rn (β : Int → Int) (N p : Int) : Int64 := if gs_T β N p = 1 then (gs_M β N p) <<< ((Int32.ofInt (8 * (8 - gs_X β N p + gs_A β N p))).toInt64 &&& 63) else 0
theorem gs_end {β : Int → Int} {N p s : Int} (hs : gs_S β N p = s) (h : N ≤ s) : gs_T β N p = 4 ∧ gs_X β N p = N ∧ gs_A β N p = N := by
  unfold gs_T gs_X gs_A
  rw [hs, if_pos h, if_pos h, if_pos h]
  exact ⟨rfl, rfl, rfl⟩
theorem gs_name {β : Int → Int} {N p s : Int} (hs : gs_S β N p = s) (h : ¬ N ≤ s) (hc : 97 ≤ β s ∧ β s ≤ 122) : gs_T β N p = 1 ∧ gs_X β N p = gs_ne β 8 s ∧ gs_A β N p = s := by
  unfold gs_T gs_X gs_A
  rw [hs, if_neg h, if_neg h, if_neg h, if_pos hc, if_pos hc]
  exact ⟨rfl, rfl, rfl⟩
theorem gs_numb {β : Int → Int} {N p s : Int} (hs : gs_S β N p = s) (h : ¬ N ≤ s) (hc : 48 ≤ β s ∧ β s ≤ 57) : gs_T β N p = 2 ∧ gs_X β N p = gs_de β 6 s ∧ gs_A β N p = s := by
  unfold gs_T gs_X gs_A
  rw [hs, if_neg h, if_neg h, if_neg h, if_neg (show ¬ (97 ≤ β s ∧ β s ≤ 122) by omega), if_neg (show ¬ (97 ≤ β s ∧ β s ≤ 122) by omega), if_pos hc, if_pos hc]
  exact ⟨rfl, rfl, rfl⟩
theorem gs_lets {β : Int → Int} {N p s k : Int} (hs : gs_S β N p = s) (h : ¬ N ≤ s) (hc : β s = 39) (hk : gs_le β 12 (s + 1) = k) : gs_T β N p = (if β k = 39 then 3 else 5) ∧ gs_X β N p = k + 1 ∧ gs_A β N p = s := by
  unfold gs_T gs_X gs_A
  rw [hs, hk, if_neg h, if_neg h, if_neg h, if_neg (show ¬ (97 ≤ β s ∧ β s ≤ 122) by omega), if_neg (show ¬ (97 ≤ β s ∧ β s ≤ 122) by omega), if_neg (show ¬ (48 ≤ β s ∧ β s ≤ 57) by omega), if_neg (show ¬ (48 ≤ β s ∧ β s ≤ 57) by omega), if_pos hc, if_pos hc]
  exact ⟨rfl, rfl, rfl⟩
theorem gs_sign {β : Int → Int} {N p s : Int} (hs : gs_S β N p = s) (h : ¬ N ≤ s) (h1 : ¬ (97 ≤ β s ∧ β s ≤ 122)) (h2 : ¬ (48 ≤ β s ∧ β s ≤ 57)) (h3 : ¬ β s = 39) : gs_T β N p = (if 0 ≤ gz_ixf (β s) then β s else 5) ∧ gs_X β N p = s + 1 ∧ gs_A β N p = s := by
  unfold gs_T gs_X gs_A
  rw [hs, if_neg h, if_neg h, if_neg h, if_neg h1, if_neg h1, if_neg h2, if_neg h2, if_neg h3, if_neg h3]
  exact ⟨rfl, rfl, rfl⟩
/-- which signs there are -/
theorem gs_ix {c : Int} (h : 0 ≤ gz_ixf c) : (35 ≤ c ∧ c ≤ 47 ∧ ¬ c = 39) ∨ (58 ≤ c ∧ c ≤ 62) ∨ (91 ≤ c ∧ c ≤ 95) ∨ (123 ≤ c ∧ c ≤ 125) := by
  unfold gz_ixf at h
  split at h
  · rename_i k hk
    obtain ⟨h1, h2, _⟩ := List.findIdx?_eq_some_iff_getElem.mp hk
    have h3 : gz_sl[k] = c := by
      have := h2
      simpa using this
    have h4 : c ∈ gz_sl := h3 ▸ List.getElem_mem h1
    have h5 : ∀ x ∈ gz_sl, (35 ≤ x ∧ x ≤ 47 ∧ ¬ x = 39) ∨ (58 ≤ x ∧ x ≤ 62) ∨ (91 ≤ x ∧ x ≤ 95) ∨ (123 ≤ x ∧ x ≤ 125) := by decide
    exact h5 c h4
  · omega
section SA
variable {E : gv_E} {Q : gz_S → Prop} {pc a k : Nat} {lv : List (Nat × gz_V)} {st : List gz_V} {sh : gz_Sh} {I : gr_I} {J : gr_J}
theorem gr_stJq {fs as : List Nat} {J0 : gr_J} {z : Int64} (hF : gr_fj fs as J0 J) (ht : gr_ty a k = 1) (hm : gr_in fs as a k = true) (kk : ∀ Jₚ : gr_J, gr_fj fs as J0 Jₚ → Jₚ a k = z → (∀ b j, ¬ (b = a ∧ j = k) → Jₚ b j = J b j) → gv_X E Q (pc, lv, st, sh, gr_h I Jₚ)) : gv_X E Q (pc, lv, st, sh, gz_up (gr_h I J) a k (.inr (.inl z))) := by
  rw [gr_vp ht]
  refine kk _ (fun b j hb => ?_) ?_ (fun b j hb => ?_)
  · unfold gr_v
    by_cases h1 : b = a
    · by_cases h2 : j = k
      · subst h1 h2
        rw [hm] at hb
        cases hb
      · rw [if_pos h1, if_neg h2]
        exact hF b j hb
    · rw [if_neg h1]
      exact hF b j hb
  · unfold gr_v
    rw [if_pos rfl, if_pos rfl]
  · unfold gr_v
    by_cases h1 : b = a
    · rw [if_pos h1, if_neg (fun h2 => hb ⟨h1, h2⟩)]
    · rw [if_neg h1]
end SA
/-- the reference stands at the token from p on -/
def gr_AT9 (β : Int → Int) (N p : Int) (I : gr_I) (J : gr_J) (e : Int) : Prop := I 0 71 = gs_k (gs_T β N p) ∧ I 0 72 = gs_A β N p ∧ e = gs_X β N p ∧ (gs_T β N p = 2 → I 0 74 = gs_V β N p) ∧ J 0 75 = gs_rn β N p
def gr_ATp (β : Int → Int) (N p : Int) (I : gr_I) (J : gr_J) : Prop := (gs_TX β N (I 57) ∧ N = I 0 69) ∧ gr_AT9 β N p I J (I 0 73)
theorem gs_rn_0 {β : Int → Int} {N p : Int} (h : ¬ gs_T β N p = 1) : gs_rn β N p = 0 := by
  unfold gs_rn
  rw [if_neg h]
theorem gr_A9_end {β : Int → Int} {N p : Int} {I : gr_I} {J : gr_J} {e : Int} (hs : gs_S β N p = e) (h : N ≤ e) (hN : e = N) (h1 : I 0 71 = 0) (h2 : I 0 72 = e) (h5 : J 0 75 = 0) : gr_AT9 β N p I J e := by
  obtain ⟨a, b, c⟩ := gs_end hs h
  unfold gr_AT9
  rw [gs_rn_0 (by omega), a, b, c]
  exact ⟨h1, by omega, hN, fun q => by omega, h5⟩
theorem gr_A9_nm {β : Int → Int} {N p s : Int} {I : gr_I} {J J1 : gr_J} {e : Int} (hs : gs_S β N p = s) (h : ¬ N ≤ s) (hc : 97 ≤ β s ∧ β s ≤ 122) (he : gs_ne β 8 s = e) (hv : gs_nv β 8 s (Int64.ofNat 0) = J1 0 75) (h1 : I 0 71 = 1) (h2 : I 0 72 = s) (h5 : J 0 75 = J1 0 75 <<< ((Int32.ofInt (8 * (8 - e + I 0 72))).toInt64 &&& 63)) : gr_AT9 β N p I J e := by
  obtain ⟨a, b, c⟩ := gs_name hs h hc
  unfold gr_AT9 gs_rn gs_M
  rw [if_pos a, a, b, c, hs, hv, h5, he, h2]
  exact ⟨h1, rfl, rfl, fun q => by omega, rfl⟩
theorem gr_A9_nu {β : Int → Int} {N p s : Int} {I : gr_I} {J : gr_J} {e : Int} (hs : gs_S β N p = s) (h : ¬ N ≤ s) (hc : 48 ≤ β s ∧ β s ≤ 57) (he : gs_de β 6 s = e) (hv : gs_dv β 6 s 0 = I 0 74) (h1 : I 0 71 = 2) (h2 : I 0 72 = s) (h5 : J 0 75 = 0) : gr_AT9 β N p I J e := by
  obtain ⟨a, b, c⟩ := gs_numb hs h hc
  unfold gr_AT9 gs_V
  rw [gs_rn_0 (by omega), a, b, c, hs, hv]
  exact ⟨h1, h2, he.symm, fun _ => rfl, h5⟩
theorem gr_A9_lt {β : Int → Int} {N p s k : Int} {I : gr_I} {J : gr_J} {e : Int} (hs : gs_S β N p = s) (h : ¬ N ≤ s) (hc : β s = 39) (hk : gs_le β 12 (s + 1) = k) (he : e = k + 1) (h1 : (I 0 71 = 3 ∧ β k = 39) ∨ (I 0 71 = 5 ∧ ¬ β k = 39)) (h2 : I 0 72 = s) (h5 : J 0 75 = 0) : gr_AT9 β N p I J e := by
  obtain ⟨a, b, c⟩ := gs_lets hs h hc hk
  have a9 : gs_T β N p = I 0 71 := by
    rcases h1 with ⟨u, v⟩ | ⟨u, v⟩
    · rw [a, if_pos v, u]
    · rw [a, if_neg v, u]
  unfold gr_AT9
  rw [gs_rn_0 (by omega), a9, b, c]
  refine ⟨?_, h2, he, fun q => by omega, h5⟩
  unfold gs_k
  rw [if_neg (by omega), if_neg (by omega)]
theorem gr_A9_sg {β : Int → Int} {N p s : Int} {I : gr_I} {J : gr_J} {e : Int} (hs : gs_S β N p = s) (h : ¬ N ≤ s) (g1 : ¬ (97 ≤ β s ∧ β s ≤ 122)) (g2 : ¬ (48 ≤ β s ∧ β s ≤ 57)) (g3 : ¬ β s = 39) (he : e = s + 1) (h1 : (I 0 71 = 4 ∧ 0 ≤ gz_ixf (β s)) ∨ (I 0 71 = 5 ∧ ¬ 0 ≤ gz_ixf (β s))) (h2 : I 0 72 = s) (h5 : J 0 75 = 0) : gr_AT9 β N p I J e := by
  obtain ⟨a, b, c⟩ := gs_sign hs h g1 g2 g3
  unfold gr_AT9
  rcases h1 with ⟨u, v⟩ | ⟨u, v⟩
  · rw [if_pos v] at a
    have r := gs_ix v
    rw [gs_rn_0 (by omega), a, b, c]
    refine ⟨?_, h2, he, fun q => by omega, h5⟩
    unfold gs_k
    rw [if_neg (by omega), if_pos (by omega)]
    exact u
  · rw [if_neg v] at a
    rw [gs_rn_0 (by omega), a, b, c]
    refine ⟨?_, h2, he, fun q => by omega, h5⟩
    rw [u]
    rfl
