/-! READERS: the small ones, as functions. An answer q, 0 or more: it is well, and the token from q on is at hand; -1 - w: the byte w is wrong. -/
def gs_need (β : Int → Int) (N c p : Int) : Int := if gs_T β N p = c then gs_X β N p else -1 - gs_A β N p
def gs_done (β : Int → Int) (N room first p : Int) : Int := if gs_T β N p = 59 then (if room = 0 then -1 - first else gs_X β N p) else -1 - gs_A β N p
/-- 1 where the token is this NAME, else 0 -/
def gs_kw (β : Int → Int) (N p : Int) (w : Int64) : Int := if gs_T β N p = 1 ∧ gs_rn β N p = w then 1 else 0
theorem gs_kw_1 {β : Int → Int} {N p : Int} {w : Int64} (h : gs_T β N p = 1) (g : gs_rn β N p = w) : gs_kw β N p w = 1 := if_pos ⟨h, g⟩
theorem gs_kw_0 {β : Int → Int} {N p : Int} {w : Int64} (h : ¬ gs_T β N p = 1 ∨ ¬ gs_rn β N p = w) : gs_kw β N p w = 0 := if_neg (fun q => h.elim (fun u => u q.1) (fun u => u q.2))
/-- the words that statements begin with, packed to the left -/
def gs_W (k : Nat) : Int64 := match k with
  | 80 => 0x746F6E6775650000
  | 81 => 0x6B696E6400000000
  | 82 => 0x66756E0000000000
  | 83 => 0x6665617475726500
  | 84 => 0x6C65747465727300
  | 85 => 0x736F756E64000000
  | 86 => 0x7061747465726E00
  | 87 => 0x776F726400000000
  | 88 => 0x6C696E0000000000
  | 89 => 0x6D65616E00000000
  | 90 => 0x7468696E67000000
  | 91 => 0x6661637400000000
  | 92 => 0x636F737400000000
  | 93 => 0x6861730000000000
  | 94 => 0x6F66000000000000
  | 95 => 0x6167726565000000
  | 96 => 0x6769766500000000
  | _ => 0
def gr_KW (J : gr_J) : Prop := ∀ k : Nat, 80 ≤ k → k ≤ 96 → J 0 k = gs_W k
/-- cost and a NUMBER, or nothing -/
def gs_cost (β : Int → Int) (N p : Int) : Int :=
  if gs_kw β N p (gs_W 92) = 1 then (if gs_T β N (gs_X β N p) = 2 then (if 10000 < gs_V β N (gs_X β N p) then -1 - gs_A β N (gs_X β N p) else gs_X β N (gs_X β N p)) else -1 - gs_A β N (gs_X β N p)) else p
/-- the first place of a name -/
def gs_fd (f : Int → Int64) (w : Int64) : Nat → Int → Int
  | 0, _ => -1
  | m + 1, i => if f i = w then i else gs_fd f w m (i + 1)
def gs_find (f : Int → Int64) (n : Int) (w : Int64) : Int := gs_fd f w (Int.toNat n) 0
theorem gs_fd_s {f : Int → Int64} {w : Int64} {n i : Int} (hi : i < n) (h : ¬ f i = w) : gs_fd f w (Int.toNat (n - i)) i = gs_fd f w (Int.toNat (n - (i + 1))) (i + 1) := by
  rw [show Int.toNat (n - i) = Int.toNat (n - (i + 1)) + 1 from by omega]
  show (if f i = w then _ else _) = _
  rw [if_neg h]
theorem gs_fd_f {f : Int → Int64} {w : Int64} {n i : Int} (hi : i < n) (h : f i = w) : gs_fd f w (Int.toNat (n - i)) i = i := by
  rw [show Int.toNat (n - i) = Int.toNat (n - (i + 1)) + 1 from by omega]
  show (if f i = w then _ else _) = _
  rw [if_pos h]
theorem gs_fd_e {f : Int → Int64} {w : Int64} {n i : Int} (hi : n ≤ i) : gs_fd f w (Int.toNat (n - i)) i = -1 := by
  rw [show Int.toNat (n - i) = 0 from by omega]
  rfl
set_option maxHeartbeats 8000000 in
theorem gs_fd_eq {f g : Int → Int64} {w v : Int64} : ∀ (m : Nat) (i : Int), (∀ j : Int, i ≤ j → j < i + m → (f j = w ↔ g j = v)) → gs_fd f w m i = gs_fd g v m i
  | 0, _, _ => rfl
  | m + 1, i, h => by
    show (if f i = w then i else gs_fd f w m (i + 1)) = (if g i = v then i else gs_fd g v m (i + 1))
    rw [gs_fd_eq m (i + 1) (fun j h1 h2 => h j (by exact gz_m 0 (by omega)) (by exact gz_m 1 (by omega)))]
    have e := h i (by exact gz_m 2 (by omega)) (by exact gz_m 3 (by omega))
    by_cases c : f i = w
    · rw [if_pos c, if_pos (e.mp c)]
    · rw [if_neg c, if_neg (fun q => c (e.mpr q))]
theorem gs_find_eq {f g : Int → Int64} {w v : Int64} {n : Int} (h : ∀ j : Int, 0 ≤ j → j < n → (f j = w ↔ g j = v)) : gs_find f n w = gs_find g n v := gs_fd_eq _ _ (fun j h1 h2 => h j h1 (by omega))
theorem gs_cmp0 {a b : Int64} (h : (lg_cmp a b).toInt = 0) : a = b := by
  unfold lg_cmp at h
  by_cases c1 : a > b
  · rw [if_pos c1] at h
    exact absurd h (by decide)
  · rw [if_neg c1] at h
    by_cases c2 : a = b
    · exact c2
    · rw [if_neg c2] at h
      exact absurd h (by decide)
theorem gs_cmpn {a b : Int64} (h : ¬ (lg_cmp a b).toInt = 0) : ¬ a = b := fun q => h (by
  unfold lg_cmp
  have c1 : ¬ a > b := by
    rw [q]
    exact Int64.lt_irrefl
  rw [if_neg c1, if_pos q]
  rfl)
def gs_Or (r : Int) (S F : Prop) : Prop := (r = 1 ∧ S) ∨ (r = 0 ∧ F)
theorem gs_or1 {r : Int} {S F : Prop} (h : gs_Or r S F) (hr : ¬ r = 0) : S := by
  rcases h with h | h
  · exact h.2
  · exact absurd h.1 hr
theorem gs_or0 {r : Int} {S F : Prop} (h : gs_Or r S F) (hr : r = 0) : F := by
  rcases h with h | h
  · exact absurd (h.1.symm.trans hr) (by decide)
  · exact h.2
/-- what stays while nothing is read -/
theorem gr_ATp_sf {β : Int → Int} {N p : Int} {I Iₚ : gr_I} {J : gr_J} {k : Nat} (h : gr_ATp β N p I J) (hp : ∀ b j, ¬ (b = 0 ∧ j = k) → Iₚ b j = I b j) (hk : (k == 69 || k == 71 || k == 72 || k == 73 || k == 74) = false) : gr_ATp β N p Iₚ J := by
  have e : ∀ j : Nat, (j == 69 || j == 71 || j == 72 || j == 73 || j == 74) = true → Iₚ 0 j = I 0 j := fun j hj => hp 0 j (fun q => by rw [q.2] at hj; rw [hj] at hk; cases hk)
  have e57 : Iₚ 57 = I 57 := funext fun j => hp 57 j (fun q => absurd q.1 (by first | exact gz_ne rfl | decide))
  unfold gr_ATp gr_AT9 at h ⊢
  rw [e57, e 69 rfl, e 71 rfl, e 72 rfl, e 73 rfl, e 74 rfl]
  exact h
theorem gr_ATp_sr {β : Int → Int} {N p : Int} {I Iₚ : gr_I} {J : gr_J} {a k : Nat} (h : gr_ATp β N p I J) (hp : ∀ b j, ¬ (b = a ∧ j = k) → Iₚ b j = I b j) (ha : (a == 0 || a == 57) = false) : gr_ATp β N p Iₚ J := by
  have e : ∀ j : Nat, Iₚ 0 j = I 0 j := fun j => hp 0 j (fun q => by rw [← q.1] at ha; cases ha)
  have e57 : Iₚ 57 = I 57 := funext fun j => hp 57 j (fun q => by rw [← q.1] at ha; cases ha)
  unfold gr_ATp gr_AT9 at h ⊢
  rw [e57, e, e, e, e, e]
  exact h
theorem gr_ATp_sj' {β : Int → Int} {N p : Int} {I : gr_I} {J Jₚ : gr_J} {a k : Nat} (h : gr_ATp β N p I J) (hp : ∀ b j, ¬ (b = a ∧ j = k) → Jₚ b j = J b j) (ha : (a == 0) = false) : gr_ATp β N p I Jₚ := by
  have e : Jₚ 0 75 = J 0 75 := hp 0 75 (fun q => by rw [← q.1] at ha; cases ha)
  unfold gr_ATp gr_AT9 at h ⊢
  rw [e]
  exact h
theorem gr_ATp_F {β : Int → Int} {N p : Int} {I Iₚ : gr_I} {J Jₚ : gr_J} {fs as fs' as' : List Nat} (h : gr_ATp β N p I J) (F : gr_fr fs as I Iₚ) (G : gr_fj fs' as' J Jₚ) (hr : (!(fs.elem 69) && !(fs.elem 71) && !(fs.elem 72) && !(fs.elem 73) && !(fs.elem 74) && !(as.elem 57) && !(fs'.elem 75)) = true) : gr_ATp β N p Iₚ Jₚ := by
  simp only [Bool.and_eq_true, Bool.not_eq_true'] at hr
  obtain ⟨⟨⟨⟨⟨⟨a1, a2⟩, a3⟩, a4⟩, a5⟩, a6⟩, a7⟩ := hr
  have e57 : Iₚ 57 = I 57 := funext fun j => F 57 j a6
  unfold gr_ATp gr_AT9 at h ⊢
  rw [e57, F 0 69 a1, F 0 71 a2, F 0 72 a3, F 0 73 a4, F 0 74 a5, G 0 75 a7]
  exact h
theorem gr_ATp_nx {β : Int → Int} {N p : Int} {I Iₚ : gr_I} {J Jₚ : gr_J} (h : gr_ATp β N p I J) (q : gr_ATp β N (I 0 73) Iₚ Jₚ) : gr_ATp β N (gs_X β N p) Iₚ Jₚ := by
  rw [← h.2.2.2.1]
  exact q
/-- what the reference's fields tell of the token -/
theorem gr_ATp_l {β : Int → Int} {N p : Int} {I : gr_I} {J : gr_J} (h : gr_ATp β N p I J) : I 0 72 = gs_A β N p ∧ I 0 73 = gs_X β N p := ⟨h.2.2.1, h.2.2.2.1⟩
theorem gr_ATp_k {β : Int → Int} {N p : Int} {I : gr_I} {J : gr_J} (h : gr_ATp β N p I J) {c : Int} (hc : 1 ≤ c ∧ c ≤ 3) : I 0 71 = c ↔ gs_T β N p = c := by
  rw [h.2.1]
  unfold gs_k
  by_cases c1 : gs_T β N p = 4
  · rw [if_pos c1]
    omega
  · rw [if_neg c1]
    by_cases c2 : 6 ≤ gs_T β N p
    · rw [if_pos c2]
      omega
    · rw [if_neg c2]
theorem gr_ATp_0 {β : Int → Int} {N p : Int} {I : gr_I} {J : gr_J} (h : gr_ATp β N p I J) : I 0 71 = 0 ↔ gs_T β N p = 4 := by
  rw [h.2.1]
  have h0 : 1 ≤ gs_T β N p := by
    unfold gs_T
    split
    · omega
    · split
      · omega
      · split
        · omega
        · split
          · split
            · omega
            · omega
          · split
            · rename_i q
              have := gs_ix q
              omega
            · omega
  unfold gs_k
  by_cases c1 : gs_T β N p = 4
  · rw [if_pos c1]
    omega
  · rw [if_neg c1]
    by_cases c2 : 6 ≤ gs_T β N p
    · rw [if_pos c2]
      omega
    · rw [if_neg c2]
      omega
theorem gs_T_sg {β : Int → Int} {N p : Int} (h : 6 ≤ gs_T β N p) : gs_T β N p = β (gs_A β N p) ∧ gs_A β N p < N := by
  unfold gs_T gs_A at *
  split
  · rw [if_pos (by assumption)] at h
    omega
  · rw [if_neg (by assumption)] at h
    split
    · rw [if_pos (by assumption)] at h
      omega
    · rw [if_neg (by assumption)] at h
      split
      · rw [if_pos (by assumption)] at h
        omega
      · rw [if_neg (by assumption)] at h
        split
        · rw [if_pos (by assumption)] at h
          split at h
          · omega
          · omega
        · rw [if_neg (by assumption)] at h
          split
          · exact ⟨rfl, by omega⟩
          · rw [if_neg (by assumption)] at h
            omega
theorem gr_ATp_s {β : Int → Int} {N p : Int} {I : gr_I} {J : gr_J} (h : gr_ATp β N p I J) (h0 : 0 ≤ I 0 72) {c : Int} (hc : 6 ≤ c) : (I 0 71 = 4 ∧ I 57 (Int.toNat (I 0 72)) = c) ↔ gs_T β N p = c := by
  have hk : I 0 71 = 4 ↔ 6 ≤ gs_T β N p := by
    rw [h.2.1]
    unfold gs_k
    by_cases c1 : gs_T β N p = 4
    · rw [if_pos c1]
      omega
    · rw [if_neg c1]
      by_cases c2 : 6 ≤ gs_T β N p
      · rw [if_pos c2]
        omega
      · rw [if_neg c2]
        omega
  have hb : 6 ≤ gs_T β N p → gs_T β N p = I 57 (Int.toNat (I 0 72)) := fun q => by
    obtain ⟨a, b⟩ := gs_T_sg q
    rw [h.2.2.1] at h0 ⊢
    rw [a]
    exact gs_TX_i h.1.1 h0 b
  constructor
  · intro q
    have := hk.mp q.1
    rw [hb this]
    exact q.2
  · intro q
    have q6 : 6 ≤ gs_T β N p := by omega
    exact ⟨hk.mpr q6, by rw [← hb q6]; exact q⟩
theorem gr_ATp_n {β : Int → Int} {N p : Int} {I : gr_I} {J : gr_J} (h : gr_ATp β N p I J) (hk : gs_T β N p = 2) : I 0 74 = gs_V β N p := h.2.2.2.2.1 hk
theorem gr_ATp_w {β : Int → Int} {N p : Int} {I : gr_I} {J : gr_J} (h : gr_ATp β N p I J) : J 0 75 = gs_rn β N p := h.2.2.2.2.2
theorem gs_kwF {fs as : List Nat} {k : Nat} (h1 : 80 ≤ k) (h2 : k ≤ 96) (h : fs.all (fun x => x < 80 || 96 < x) = true) : gr_in fs as 0 k = false := by
  cases hb : gr_in fs as 0 k with
  | false => rfl
  | true =>
    have := List.all_eq_true.mp h k (List.elem_iff.mp hb)
    simp only [Bool.or_eq_true, decide_eq_true_eq] at this
    omega
theorem gs_T4 {β : Int → Int} {N p : Int} : gs_T β N p = 4 → gs_A β N p = N := fun h => by
  unfold gs_T at h
  unfold gs_A
  by_cases c1 : N ≤ gs_S β N p
  · rw [if_pos c1]
  · rw [if_neg c1] at h
    exfalso
    by_cases c2 : 97 ≤ β (gs_S β N p) ∧ β (gs_S β N p) ≤ 122
    · rw [if_pos c2] at h
      omega
    · rw [if_neg c2] at h
      by_cases c3 : 48 ≤ β (gs_S β N p) ∧ β (gs_S β N p) ≤ 57
      · rw [if_pos c3] at h
        omega
      · rw [if_neg c3] at h
        by_cases c4 : β (gs_S β N p) = 39
        · rw [if_pos c4] at h
          by_cases c5 : β (gs_le β 12 (gs_S β N p + 1)) = 39
          · rw [if_pos c5] at h
            omega
          · rw [if_neg c5] at h
            omega
        · rw [if_neg c4] at h
          by_cases c5 : 0 ≤ gz_ixf (β (gs_S β N p))
          · rw [if_pos c5] at h
            have := gs_ix c5
            omega
          · rw [if_neg c5] at h
            omega
/-- a NAME among those of one of the reference's rows -/
def gs_lk (I : gr_I) (J : gr_J) (row f : Nat) (w : Int64) : Int := gs_find (fun i => J row (Int.toNat (0 + i))) (I 0 f) w
def gs_lt (J : gr_J) (row : Nat) (o n : Int) (w : Int64) : Int := gs_find (fun i => J row (Int.toNat (o + i))) n w
theorem gs_lk_eq {I Iₚ : gr_I} {J Jₚ : gr_J} {row f : Nat} {w w' : Int64} (h1 : ∀ k, Jₚ row k = J row k) (h2 : Iₚ 0 f = I 0 f) (h3 : w' = w) : gs_find (fun i => Jₚ row (Int.toNat (0 + i))) (Iₚ 0 f) w' = gs_lk I J row f w := by
  unfold gs_lk
  rw [h2, h3, show (fun i : Int => Jₚ row (Int.toNat (0 + i))) = fun i => J row (Int.toNat (0 + i)) from funext fun i => h1 _]
theorem gs_lt_eq {J Jₚ : gr_J} {row : Nat} {o o' n n' : Int} {w w' : Int64} (h1 : ∀ k, Jₚ row k = J row k) (h0 : o' = o) (h2 : n' = n) (h3 : w' = w) : gs_find (fun i => Jₚ row (Int.toNat (o' + i))) n' w' = gs_lt J row o n w := by
  unfold gs_lt
  rw [h0, h2, h3, show (fun i : Int => Jₚ row (Int.toNat (o + i))) = fun i => J row (Int.toNat (o + i)) from funext fun i => h1 _]
/-- kind and thing: a NAME that is not there yet -/
def gs_new (β : Int → Int) (N : Int) (I : gr_I) (J : gr_J) (row f : Nat) (cap first p : Int) : Int :=
  if gs_T β N p = 1 then (if 0 ≤ gs_lk I J row f (gs_rn β N p) then -1 - gs_A β N p else gs_done β N (if I 0 f < cap then 1 else 0) first (gs_X β N p)) else -1 - gs_A β N p
def gs_tong (β : Int → Int) (N : Int) (I : gr_I) (J : gr_J) (first p : Int) : Int :=
  if gs_T β N p = 1 then gs_done β N (if 0 ≤ gs_lk I J 1 1 (gs_rn β N p) then 1 else if I 0 1 < 8 then 1 else 0) first (gs_X β N p) else -1 - gs_A β N p
/-- a name has come to the end of a row -/
def gs_put (row f : Nat) (w : Int64) (I : gr_I) (J : gr_J) (Iₚ : gr_I) (Jₚ : gr_J) : Prop := Iₚ 0 f = I 0 f + 1 ∧ Jₚ row (Int.toNat (I 0 f)) = w ∧ ∀ j, ¬ j = Int.toNat (I 0 f) → Jₚ row j = J row j
def gs_same (row f : Nat) (I : gr_I) (J : gr_J) (Iₚ : gr_I) (Jₚ : gr_J) : Prop := Iₚ 0 f = I 0 f ∧ ∀ j, Jₚ row j = J row j
