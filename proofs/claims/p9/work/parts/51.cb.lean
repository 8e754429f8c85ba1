/-! CELLS OF THE CLASS: what a slot holds goes by the shape of its cell, its range by the role of its cell. -/
def gc_ts : List (List Nat) := [[2, 2, 2, 0, 2, 2, 0, 2, 2, 2, 0, 0, 0, 5, 5, 2, 2, 0, 0, 2, 2, 2], [2, 0, 0, 2, 0, 2, 2, 0, 0, 0, 2, 2, 2, 2, 0, 2, 2, 0, 2], [2, 2, 2, 2, 2, 2, 16, 16, 0, 0], [0, 0, 0, 0, 0, 2, 2, 2, 0, 2, 2, 2, 0, 2, 0, 2], [2, 0], [2, 2, 5, 0, 0, 2, 2, 2, 0, 14, 14, 2, 2, 2, 2, 0, 2, 2, 2], [2, 2, 5, 0, 0, 0, 0, 0, 0, 2, 2, 2, 0, 2, 2, 0, 2, 2, 2], [2, 5, 2, 2, 2, 2, 2, 2, 2, 0, 2, 2, 2, 2], [2, 2, 2, 2, 2, 0, 2, 2, 2, 2, 2, 2, 2, 0, 2, 2, 2, 0, 0, 2, 2], [2, 0, 2, 2, 0, 0, 0, 0, 0, 1], [2, 0, 1011, 1012, 1011, 1012, 2, 2, 2, 0, 2, 2, 2, 2, 2, 2, 0, 0, 0], [2, 2, 2, 2, 2, 2, 0, 2, 2, 2, 2, 0, 2, 0, 2, 2], [2, 2, 2, 2, 2, 2, 2, 2, 2, 2, 2, 2, 2, 2, 2, 0, 2]]
def gc_nl : List (List Nat) → Nat → List Nat
  | [], _ => []
  | x :: _, 0 => x
  | _ :: l, n + 1 => gc_nl l n
def gc_tx (x : Bool × Nat × Nat) (k : Nat) : Nat := match x with
  | (true, t, _) => cond (Nat.beq t 2) 1 (cond (Nat.ble t 3) 0 2)
  | (false, ci, _) => gr_nth (gc_nl gc_ts ci) k
def gc_ty (sh : gz_Sh) (p k : Nat) : Nat := match sh[p]? with
  | some x => gc_tx x k
  | none => 0
abbrev gc_A : Type := Nat → Nat → Option Nat
def gc_h (sh : gz_Sh) (I : gr_I) (J : gr_J) (A : gc_A) : gz_H := fun p k => match gc_ty sh p k with
  | 0 => .inl (I p k)
  | 1 => .inr (.inl (J p k))
  | 2 => .inr (.inr (A p k))
  | 5 => .inr (.inr (if I p k < 0 then none else some (Int.toNat (I p k))))
  | n + 10 => .inr (.inr (some (p + n % 1000 + (n / 1000 + 1) * Int.toNat (I p k))))
  | _ => .inl 0
def gc_u (A : gc_A) (a k : Nat) (z : Option Nat) : gc_A := fun b j => if b = a then (if j = k then z else A b j) else A b j
section GC
variable {sh : gz_Sh} {I : gr_I} {J : gr_J} {A : gc_A} {p k : Nat} {x : Bool × Nat × Nat}
theorem gc_tyx (hs : sh[p]? = some x) : gc_ty sh p k = gc_tx x k := by
  unfold gc_ty
  rw [hs]
theorem gc_hI (hs : sh[p]? = some x) (ht : gc_tx x k = 0) : gc_h sh I J A p k = .inl (I p k) := by
  unfold gc_h
  rw [gc_tyx hs, ht]
  first | done | rfl
theorem gc_hJ (hs : sh[p]? = some x) (ht : gc_tx x k = 1) : gc_h sh I J A p k = .inr (.inl (J p k)) := by
  unfold gc_h
  rw [gc_tyx hs, ht]
  first | done | rfl
theorem gc_hA (hs : sh[p]? = some x) (ht : gc_tx x k = 2) {v : Option Nat} (hv : A p k = v) : gc_h sh I J A p k = .inr (.inr v) := by
  unfold gc_h
  rw [gc_tyx hs, ht, ← hv]
  first | done | rfl
theorem gc_h5 (hs : sh[p]? = some x) (ht : gc_tx x k = 5) {t : Nat} (hv : I p k = (t : Int)) : gc_h sh I J A p k = .inr (.inr (some t)) := by
  unfold gc_h
  rw [gc_tyx hs, ht]
  show Sum.inr (Sum.inr (if I p k < 0 then none else some (Int.toNat (I p k)))) = _
  rw [hv, if_neg (by omega), Int.toNat_natCast]
theorem gc_hS (hs : sh[p]? = some x) {n q : Nat} (ht : gc_tx x k = n + 10) (hq : p + n % 1000 + (n / 1000 + 1) * Int.toNat (I p k) = q) : gc_h sh I J A p k = .inr (.inr (some q)) := by
  unfold gc_h
  rw [gc_tyx hs, ht, ← hq]
  first | done | rfl
theorem gc_iI (hs : sh[p]? = some x) (ht : gc_tx x k = 0) : gz_I (gc_h sh I J A p k) = I p k := by rw [gc_hI hs ht]; rfl
theorem gc_jJ (hs : sh[p]? = some x) (ht : gc_tx x k = 1) : gz_J (gc_h sh I J A p k) = J p k := by rw [gc_hJ hs ht]; rfl
theorem gc_aA (hs : sh[p]? = some x) (ht : gc_tx x k = 2) : gz_A (gc_h sh I J A p k) = A p k := by rw [gc_hA hs ht rfl]; rfl
theorem gc_up {z : Int} (hs : sh[p]? = some x) (ht : gc_tx x k = 0) : gz_up (gc_h sh I J A) p k (.inl z) = gc_h sh (gr_u I p k z) J A := by
  have h : gc_ty sh p k = 0 := (gc_tyx hs).trans ht
  funext b j
  unfold gz_up gr_u gc_h
  by_cases hb : b = p
  · subst hb
    by_cases hj : j = k
    · subst hj
      simp [h]
    · simp [hj]
  · simp [hb]
theorem gc_p5 {t : Nat} (hs : sh[p]? = some x) (ht : gc_tx x k = 5) : gz_up (gc_h sh I J A) p k (.inr (.inr (some t))) = gc_h sh (gr_u I p k (t : Int)) J A := by
  have h : gc_ty sh p k = 5 := (gc_tyx hs).trans ht
  funext b j
  unfold gz_up gc_h
  by_cases hb : b = p
  · subst hb
    by_cases hj : j = k
    · subst hj
      rw [if_pos rfl, if_pos rfl, h]
      show _ = Sum.inr (Sum.inr (if gr_u I b j (t : Int) b j < 0 then none else some (Int.toNat (gr_u I b j (t : Int) b j))))
      rw [gr_u_eq, if_neg (by omega), Int.toNat_natCast]
    · rw [if_pos rfl, if_neg hj, gr_u_ne I _ (fun q => hj q.2)]
  · rw [if_neg hb, gr_u_ne I _ (fun q => hb q.1)]
theorem gc_p5n (hs : sh[p]? = some x) (ht : gc_tx x k = 5) : gz_up (gc_h sh I J A) p k (.inr (.inr none)) = gc_h sh (gr_u I p k (-1)) J A := by
  have h : gc_ty sh p k = 5 := (gc_tyx hs).trans ht
  funext b j
  unfold gz_up gc_h
  by_cases hb : b = p
  · subst hb
    by_cases hj : j = k
    · subst hj
      rw [if_pos rfl, if_pos rfl, h]
      show _ = Sum.inr (Sum.inr (if gr_u I b j (-1) b j < 0 then none else some (Int.toNat (gr_u I b j (-1) b j))))
      rw [gr_u_eq, if_pos (by omega)]
    · rw [if_pos rfl, if_neg hj, gr_u_ne I _ (fun q => hj q.2)]
  · rw [if_neg hb, gr_u_ne I _ (fun q => hb q.1)]
theorem gc_pS {n q b0 : Nat} (hs : sh[p]? = some x) (ht : gc_tx x k = n + 10) (hq : p + n % 1000 + (n / 1000 + 1) * b0 = q) : gz_up (gc_h sh I J A) p k (.inr (.inr (some q))) = gc_h sh (gr_u I p k (b0 : Int)) J A := by
  have h : gc_ty sh p k = n + 10 := (gc_tyx hs).trans ht
  funext b j
  unfold gz_up gc_h
  by_cases hb : b = p
  · subst hb
    by_cases hj : j = k
    · subst hj
      rw [if_pos rfl, if_pos rfl, h]
      show _ = Sum.inr (Sum.inr (some (b + n % 1000 + (n / 1000 + 1) * Int.toNat (gr_u I b j (b0 : Int) b j))))
      rw [gr_u_eq, Int.toNat_natCast, hq]
    · rw [if_pos rfl, if_neg hj, gr_u_ne I _ (fun q => hj q.2)]
  · rw [if_neg hb, gr_u_ne I _ (fun q => hb q.1)]
theorem gc_vp {z : Int64} (hs : sh[p]? = some x) (ht : gc_tx x k = 1) : gz_up (gc_h sh I J A) p k (.inr (.inl z)) = gc_h sh I (gr_v J p k z) A := by
  have h : gc_ty sh p k = 1 := (gc_tyx hs).trans ht
  funext b j
  unfold gz_up gr_v gc_h
  by_cases hb : b = p
  · subst hb
    by_cases hj : j = k
    · subst hj
      simp [h]
    · simp [hj]
  · simp [hb]
theorem gc_h_congr {Iₚ : gr_I} (h : Iₚ p k = I p k) : gc_h sh Iₚ J A p k = gc_h sh I J A p k := by
  unfold gc_h
  rw [h]
theorem gc_h_congrJ {Jₚ : gr_J} (h : Jₚ p k = J p k) : gc_h sh I Jₚ A p k = gc_h sh I J A p k := by
  unfold gc_h
  rw [h]
end GC
def gc_bs : gz_Sh := [(false, 12, 17), (false, 8, 21), (false, 4, 2), (true, 2, 32), (false, 4, 2), (true, 2, 96), (false, 4, 2), (true, 2, 8), (false, 4, 2), (true, 2, 8), (true, 5, 8), (true, 1, 96), (true, 1, 96), (true, 1, 384), (true, 1, 96), (true, 1, 96), (true, 1, 3840), (true, 2, 3840), (true, 2, 64), (true, 1, 128), (true, 0, 12000), (true, 1, 159), (true, 1, 60), (false, 9, 10), (true, 0, 1000), (true, 1, 24), (true, 1, 24), (false, 9, 10), (true, 0, 1000), (true, 1, 24), (true, 1, 24), (false, 9, 10), (true, 0, 1000), (true, 1, 24), (true, 1, 24), (false, 9, 10), (true, 0, 1000), (true, 1, 24), (true, 1, 24), (false, 6, 19), (true, 1, 72), (true, 1, 25), (true, 2, 6), (true, 1, 40), (true, 2, 40), (true, 2, 41), (true, 1, 60), (true, 1, 60), (false, 0, 22), (true, 1, 18432), (true, 1, 18432), (true, 1, 3000), (true, 1, 3000), (true, 1, 9000), (true, 1, 9000), (true, 1, 36000), (true, 1, 33), (true, 1, 384), (true, 1, 4), (true, 1, 4), (true, 1, 4), (false, 5, 19), (true, 3, 96), (true, 2, 3000), (true, 3, 3000), (true, 1, 9000), (true, 1, 9000), (true, 1, 3000), (true, 1, 48000), (true, 1, 48000), (true, 1, 48000), (true, 1, 16), (true, 1, 16), (true, 1, 244), (false, 7, 14), (true, 1, 240), (true, 1, 60), (true, 1, 1440), (true, 1, 1440), (true, 1, 1440), (true, 1, 1440), (true, 1, 1440), (true, 1, 4), (true, 1, 4), (true, 1, 60), (true, 1, 60), (false, 10, 19), (true, 1, 300), (true, 2, 300), (true, 1, 300), (true, 2, 300), (true, 1, 240), (true, 1, 300), (true, 1, 300), (true, 2, 300), (true, 1, 300), (true, 1, 300), (true, 1, 300), (true, 1, 300), (true, 1, 301), (false, 1, 19), (true, 1, 1536), (true, 1, 24), (true, 1, 24), (true, 6, 100), (true, 1, 100), (false, 9, 10), (true, 0, 1000), (true, 1, 24), (true, 1, 24), (true, 1, 24), (true, 1, 2400), (true, 1, 2400), (true, 1, 24), (true, 7, 9), (true, 1, 60), (true, 1, 60), (true, 1, 60), (true, 1, 60), (true, 1, 60), (true, 1, 60), (true, 1, 60), (true, 1, 60), (true, 1, 60), (true, 1, 9), (true, 6, 16), (true, 0, 200), (true, 0, 200), (true, 0, 200), (true, 0, 200), (true, 0, 200), (true, 0, 200), (true, 0, 200), (true, 0, 200), (true, 0, 200), (true, 0, 200), (true, 0, 200), (true, 0, 200), (true, 0, 200), (true, 0, 200), (true, 0, 200), (true, 0, 200), (true, 1, 16), (true, 1, 1000)]
def gc_brl : List Nat := [76, 22, 9, 0, 11, 0, 6, 0, 6, 0, 0, 25, 26, 25, 27, 28, 50, 0, 0, 29, 36, 70, 38, 3, 1, 4, 5, 3, 1, 4, 5, 3, 1, 4, 5, 3, 1, 4, 5, 42, 39, 0, 0, 50, 0, 0, 37, 0, 49, 43, 43, 45, 13, 44, 46, 44, 47, 48, 44, 13, 13, 72, 2, 0, 2, 51, 51, 52, 0, 51, 53, 0, 54, 54, 73, 38, 45, 0, 13, 55, 46, 56, 57, 13, 58, 59, 74, 77, 0, 77, 0, 38, 60, 60, 0, 61, 62, 78, 63, 64, 75, 35, 65, 66, 0, 59, 3, 1, 4, 5, 0, 67, 65, 71, 0, 37, 37, 37, 37, 37, 37, 37, 37, 37, 68, 0, 1, 1, 1, 1, 1, 1, 1, 1, 1, 1, 1, 1, 1, 1, 1, 1, 69, 0]
def gc_rfl : List (Nat × Nat × Nat) := [(0, 0, 1), (0, 1, 23), (0, 2, 27), (0, 3, 31), (0, 4, 35), (0, 5, 39), (0, 6, 48), (0, 7, 61), (0, 8, 74), (0, 9, 86), (0, 10, 100), (0, 11, 114), (0, 12, 124), (0, 13, 125), (0, 14, 142), (0, 16, 143), (1, 0, 2), (1, 1, 4), (1, 2, 6), (1, 3, 8), (1, 4, 10), (1, 6, 11), (1, 7, 12), (1, 8, 13), (1, 9, 14), (1, 10, 15), (1, 11, 16), (1, 12, 17), (1, 14, 18), (1, 15, 19), (1, 16, 20), (1, 19, 21), (1, 20, 22), (2, 0, 3), (4, 0, 5), (6, 0, 7), (8, 0, 9), (23, 0, 24), (23, 2, 25), (23, 3, 26), (27, 0, 28), (27, 2, 29), (27, 3, 30), (31, 0, 32), (31, 2, 33), (31, 3, 34), (35, 0, 36), (35, 2, 37), (35, 3, 38), (39, 0, 1), (39, 1, 23), (39, 9, 40), (39, 10, 41), (39, 11, 42), (39, 13, 43), (39, 14, 44), (39, 16, 45), (39, 17, 46), (39, 18, 47), (48, 0, 1), (48, 1, 49), (48, 2, 50), (48, 4, 51), (48, 5, 52), (48, 7, 53), (48, 8, 54), (48, 9, 55), (48, 15, 56), (48, 16, 57), (48, 19, 58), (48, 20, 59), (48, 21, 60), (61, 0, 1), (61, 1, 48), (61, 5, 62), (61, 6, 63), (61, 7, 64), (61, 11, 67), (61, 12, 68), (61, 13, 69), (61, 14, 70), (61, 16, 71), (61, 17, 72), (61, 18, 73), (74, 0, 1), (74, 2, 75), (74, 3, 76), (74, 4, 77), (74, 5, 78), (74, 6, 79), (74, 7, 80), (74, 8, 81), (74, 10, 82), (74, 11, 83), (74, 12, 84), (74, 13, 85), (86, 0, 1), (86, 6, 91), (86, 7, 92), (86, 8, 93), (86, 10, 94), (86, 11, 95), (86, 12, 96), (86, 13, 97), (86, 14, 98), (86, 15, 99), (100, 0, 1), (100, 3, 101), (100, 5, 102), (100, 6, 103), (100, 10, 104), (100, 11, 105), (100, 12, 106), (100, 13, 110), (100, 15, 111), (100, 16, 112), (100, 18, 113), (106, 0, 107), (106, 2, 108), (106, 3, 109), (114, 0, 115), (114, 1, 116), (114, 2, 117), (114, 3, 118), (114, 4, 119), (114, 5, 120), (114, 6, 121), (114, 7, 122), (114, 8, 123), (125, 0, 126), (125, 1, 127), (125, 2, 128), (125, 3, 129), (125, 4, 130), (125, 5, 131), (125, 6, 132), (125, 7, 133), (125, 8, 134), (125, 9, 135), (125, 10, 136), (125, 11, 137), (125, 12, 138), (125, 13, 139), (125, 14, 140), (125, 15, 141)]
def gc_rf : List (Nat × Nat × Nat) → Nat → Nat → Option Nat
  | [], _, _ => none
  | x :: l, p, k => cond (Nat.beq x.1 p && Nat.beq x.2.1 k) (some x.2.2) (gc_rf l p k)
/-- the cells that the constructor made: they stand at the first places, and what they hold of each other stays -/
def gc_Base (sh : gz_Sh) (ro : Nat → Nat) (A : gc_A) : Prop := (∃ ext, sh = gc_bs ++ ext) ∧ (∀ p, p < 144 → ro p = gr_nth gc_brl p) ∧ ∀ p k q, gc_rf gc_rfl p k = some q → A p k = some q
theorem gc_bS {sh : gz_Sh} {ro : Nat → Nat} {A : gc_A} (h : gc_Base sh ro A) {p : Nat} {x : Bool × Nat × Nat} (hx : gc_bs[p]? = some x) : sh[p]? = some x := by
  obtain ⟨⟨ext, rfl⟩, -⟩ := h
  rw [List.getElem?_append_left (List.getElem?_eq_some_iff.mp hx).1]
  exact hx
theorem gc_bR {sh : gz_Sh} {ro : Nat → Nat} {A : gc_A} (h : gc_Base sh ro A) {p r : Nat} (hp : p < 144) (hr : gr_nth gc_brl p = r) : ro p = r := (h.2.1 p hp).trans hr
theorem gc_bA {sh : gz_Sh} {ro : Nat → Nat} {A : gc_A} (h : gc_Base sh ro A) {p k q : Nat} (hq : gc_rf gc_rfl p k = some q) : A p k = some q := h.2.2 p k q hq
def gc_rl : List (Nat × List Int × Int) := [(0, [], -2147483648), (0, [], -128), (0, [], 0), (0, [-2147483648, 0, -2147483648, -2147483648, 0, 0, 0, 0, 0, -2147483648], -2147483648), (0, [], 0), (0, [], 0), (0, [-2147483648, 0], -2147483648), (0, [-2147483648, 0], -2147483648), (0, [-2147483648, 0], -2147483648), (0, [-2147483648, 0], -2147483648), (0, [-2147483648, 0], -2147483648), (0, [-2147483648, 0], -2147483648), (0, [-2147483648, 0], -2147483648), (0, [], 0), (0, [0, 0, 0, 0, 0, -2147483648, -2147483648, -2147483648, 0, -2147483648, -2147483648, -2147483648, 0, -2147483648, 0, -2147483648], -2147483648), (0, [], -1), (0, [], 0), (0, [], 0), (0, [], 0), (0, [], -1), (3, [0, 0, 0], 0), (3, [-1, 0, 0], 0), (0, [-2147483648, -2147483648, -2147483648, -2147483648, -2147483648, -1, -2147483648, -2147483648, -2147483648, -2147483648, -2147483648, -2147483648, -2147483648, 0, -2147483648, -2147483648, -2147483648, 0, 0, -2147483648, -2147483648], -2147483648), (0, [-2147483648, -2147483648, -2147483648, -2147483648, -2147483648, -2147483648, 0, -2147483648, -2147483648, -2147483648, -2147483648, 0, -2147483648, 0, -2147483648, -2147483648], -2147483648), (0, [-2147483648, -2147483648, -2147483648, -2147483648, -2147483648, -2147483648, 0, 0, 0, 0], -2147483648), (0, [], 0), (0, [], 0), (0, [], 0), (0, [], 0), (0, [], -1), (0, [], 0), (0, [], 0), (0, [], 0), (0, [], -1), (0, [], -1), (0, [], 0), (0, [], 0), (0, [], 0), (0, [], 0), (3, [0, 0, -1], 0), (11, [0, 0, 0, 0, 0, 0, 0, 0, 0, 0, 0], 0), (25, [0, 0, 0, 0, 0, 0, 0, 0, 0, 0, 0, 0, 0, 0, 0, 0, 0, 0, 0, 0, 0, 0, 0, 0, 0], 0), (0, [-2147483648, -2147483648, -1, 0, 0, 0, 0, 0, 0, -2147483648, -2147483648, -2147483648, 0, -2147483648, -2147483648, 0, -2147483648, -2147483648, -2147483648], -2147483648), (0, [], 0), (0, [], 0), (0, [], 0), (0, [], -384), (0, [], 0), (0, [], 0), (0, [-2147483648, -2147483648, -2147483648, 0, -2147483648, -2147483648, 0, -2147483648, -2147483648, -2147483648, 0, 0, 0, -1, -1, -2147483648, -2147483648, 0, 0, -2147483648, -2147483648, -2147483648], -2147483648), (0, [], -7), (0, [], 0), (0, [], 0), (0, [], 0), (0, [], 0), (0, [], 0), (0, [], 0), (0, [], -1), (0, [], 0), (0, [], 0), (0, [], 0), (0, [], -1), (0, [], 0), (0, [], 0), (0, [], 0), (0, [], 0), (0, [], 0), (0, [], 0), (0, [], 0), (0, [], 0), (0, [], -1), (3, [0, 0, -2147483648], 0), (0, [-2147483648, -2147483648, -1, 0, 0, -2147483648, -2147483648, -2147483648, 0, 0, 0, -2147483648, -2147483648, -2147483648, -2147483648, 0, -2147483648, -2147483648, -2147483648], -2147483648), (0, [-2147483648, -1, -2147483648, -2147483648, -2147483648, -2147483648, -2147483648, -2147483648, -2147483648, -1, -2147483648, -2147483648, -2147483648, -2147483648], -2147483648), (0, [-2147483648, 0, 0, 0, 0, 0, -2147483648, -2147483648, -2147483648, 0, -2147483648, -2147483648, -2147483648, -2147483648, -2147483648, -2147483648, -1, 0, 0], -2147483648), (0, [-2147483648, 0, 0, -2147483648, 0, -2147483648, -2147483648, 0, 0, 0, -2147483648, -2147483648, -2147483648, -2147483648, 0, -2147483648, -2147483648, 0, -2147483648], -2147483648), (0, [-2147483648, -2147483648, -2147483648, -2147483648, -2147483648, -2147483648, -2147483648, -2147483648, -2147483648, -2147483648, -2147483648, -2147483648, -2147483648, -2147483648, -2147483648, 0, -2147483648], -2147483648), (0, [], -3), (0, [], 0)]
def gc_rh : List (Nat × List Int × Int) := [(0, [], 2147483647), (0, [], 127), (0, [], 1), (0, [2147483647, 1000, 2147483647, 2147483647, 24, 1000, 1001, 125, 999999, 2147483647], 2147483647), (0, [], 1000), (0, [], 24), (0, [2147483647, 8], 2147483647), (0, [2147483647, 16], 2147483647), (0, [2147483647, 24], 2147483647), (0, [2147483647, 32], 2147483647), (0, [2147483647, 48], 2147483647), (0, [2147483647, 96], 2147483647), (0, [2147483647, 384], 2147483647), (0, [], 16777215), (0, [384, 95, 384, 10000, 6, 2147483647, 2147483647, 2147483647, 4, 2147483647, 2147483647, 2147483647, 6, 2147483647, 6, 2147483647], 2147483647), (0, [], 3), (0, [], 2000), (0, [], 24), (0, [], 3), (0, [], 3), (3, [3, 3, 21], 0), (3, [3, 21, 7], 0), (0, [2147483647, 2147483647, 2147483647, 2147483647, 2147483647, 7, 2147483647, 2147483647, 2147483647, 2147483647, 2147483647, 2147483647, 2147483647, 64, 2147483647, 2147483647, 2147483647, 12000, 1, 2147483647, 2147483647], 2147483647), (0, [2147483647, 2147483647, 2147483647, 2147483647, 2147483647, 2147483647, 24, 2147483647, 2147483647, 2147483647, 2147483647, 64, 2147483647, 384, 2147483647, 2147483647], 2147483647), (0, [2147483647, 2147483647, 2147483647, 2147483647, 2147483647, 2147483647, 1, 1, 64, 24], 2147483647), (0, [], 31), (0, [], 4), (0, [], 10000), (0, [], 40), (0, [], 7), (0, [], 7), (0, [], 6), (0, [], 24), (0, [], 24), (0, [], 1535), (0, [], 1535), (0, [], 127), (0, [], 95), (0, [], 59), (3, [16777215, 2000, 2000], 0), (11, [95, 23, 16777215, 10000, 3, 2000, 12, 2000, 12, 2000, 12], 0), (25, [2, 2000, 12, 2000, 12, 3, 3, 2, 2000, 12, 2, 2000, 12, 2, 2000, 12, 2, 2000, 12, 2, 2000, 12, 2, 2000, 12], 0), (0, [2147483647, 2147483647, 999999, 6, 1000, 1000, 16777215, 10000, 24, 2147483647, 2147483647, 2147483647, 2000, 2147483647, 2147483647, 41, 2147483647, 2147483647, 2147483647], 2147483647), (0, [], 3000), (0, [], 2999), (0, [], 24), (0, [], 1535), (0, [], 384), (0, [], 383), (0, [2147483647, 2147483647, 2147483647, 3000, 2147483647, 2147483647, 9000, 2147483647, 2147483647, 2147483647, 18431, 1000000, 1, 999999, 999999, 2147483647, 2147483647, 3000, 24, 2147483647, 2147483647, 2147483647], 2147483647), (0, [], 41), (0, [], 8999), (0, [], 16), (0, [], 65535), (0, [], 47999), (0, [], 1000), (0, [], 1048575), (0, [], 16777215), (0, [], 1439), (0, [], 7), (0, [], 400), (0, [], 300), (0, [], 9), (0, [], 300), (0, [], 8), (0, [], 23), (0, [], 1536), (0, [], 99), (0, [], 60), (0, [], 200), (0, [], 12000), (3, [125, 1001, 2147483647], 0), (0, [2147483647, 2147483647, 999999, 1, 1, 2147483647, 2147483647, 2147483647, 9000, 1, 1, 2147483647, 2147483647, 2147483647, 2147483647, 16, 2147483647, 2147483647, 2147483647], 2147483647), (0, [2147483647, 999999, 2147483647, 2147483647, 2147483647, 2147483647, 2147483647, 2147483647, 2147483647, 59, 2147483647, 2147483647, 2147483647, 2147483647], 2147483647), (0, [2147483647, 300, 1, 1, 1, 1, 2147483647, 2147483647, 2147483647, 300, 2147483647, 2147483647, 2147483647, 2147483647, 2147483647, 2147483647, 301, 300, 1], 2147483647), (0, [2147483647, 7, 1536, 2147483647, 24, 2147483647, 2147483647, 1536, 4, 100, 2147483647, 2147483647, 2147483647, 2147483647, 2400, 2147483647, 2147483647, 8, 2147483647], 2147483647), (0, [2147483647, 2147483647, 2147483647, 2147483647, 2147483647, 2147483647, 2147483647, 2147483647, 2147483647, 2147483647, 2147483647, 2147483647, 2147483647, 2147483647, 2147483647, 16, 2147483647], 2147483647), (0, [], 1000000), (0, [], 1)]
def gc_np : List (Nat × List Int × Int) → Nat → Nat × List Int × Int
  | [], _ => (0, [], 0)
  | x :: _, 0 => x
  | _ :: l, n + 1 => gc_np l n
def gc_nd : List Int → Int → Nat → Int
  | [], d, _ => d
  | x :: _, _, 0 => x
  | _ :: l, d, n + 1 => gc_nd l d n
def gc_at (x : Nat × List Int × Int) (k : Nat) : Int := match x with
  | (0, l, d) => gc_nd l d k
  | (m + 1, l, d) => gc_nd l d (k % (m + 1))
def gc_lo (r k : Nat) : Int := gc_at (gc_np gc_rl r) k
def gc_hi (r k : Nat) : Int := gc_at (gc_np gc_rh r) k
theorem gc_at_mod {x : Nat × List Int × Int} {m k c : Nat} (hm : x.1 = m + 1) (hk : k % (m + 1) = c) : gc_at x k = gc_at x c := by
  obtain ⟨a, l, d⟩ := x
  dsimp only at hm
  subst hm
  show gc_nd l d (k % (m + 1)) = gc_nd l d (c % (m + 1))
  rw [← hk, Nat.mod_mod]
def gc_Inv (ro : Nat → Nat) (I : gr_I) : Prop := ∀ p k, gc_lo (ro p) k ≤ I p k ∧ I p k ≤ gc_hi (ro p) k
theorem gc_in {ro : Nat → Nat} {I : gr_I} {p k r : Nat} {lo hi : Int} (hI : gc_Inv ro I) (hr : ro p = r) (hl : gc_lo r k = lo) (hh : gc_hi r k = hi) : lo ≤ I p k ∧ I p k ≤ hi := by
  have h := hI p k
  rw [hr, hl, hh] at h
  exact h
theorem gv_look {E : gv_E} {Q : gz_S → Prop} {pc : Nat} {lv : List (Nat × gz_V)} {st : List gz_V} {sh : gz_Sh} {h : gz_H} (hD : gv_D E) {dflt x : Int} {ps : Array (Int × Int)} {t : Nat} (hi : E.2.2.2.2.2.2 pc = some (.lookupswitch dflt ps)) (hR : gz_R x) (hso : (ps.toList.zip (ps.toList.drop 1)).all (fun (a, next) => a.1 < next.1) = true) (off : Int) (ho : Op.lookupswitch.offset ps.toList dflt x = off) (ht : gx_t pc off = some t) (kk : gv_X E Q (t, lv, st, sh, h)) : gv_X E Q (pc, lv, .inl x :: st, sh, h) := by
  obtain ⟨n, v, h1, h2⟩ := kk
  exact ⟨n + 1, v, ⟨(t, lv, st, sh, h), 0, 0, 0, 0, Or.inr (Or.inr (Or.inr (Or.inr (Or.inr (Or.inl ⟨dflt, ps, x, t, hD pc _ hi, rfl, hR, hso, by rw [ho]; exact ht, rfl, rfl, rfl, rfl, rfl⟩))))), h1, rfl, rfl⟩, h2⟩
theorem gc_inm {ro : Nat → Nat} {I : gr_I} {p k r m c : Nat} {lo hi : Int} (hI : gc_Inv ro I) (hr : ro p = r) (hm : (gc_np gc_rl r).1 = m + 1) (hn : (gc_np gc_rh r).1 = m + 1) (hk : k % (m + 1) = c) (hl : gc_lo r c = lo) (hh : gc_hi r c = hi) : lo ≤ I p k ∧ I p k ≤ hi := by
  have h := hI p k
  rw [hr] at h
  unfold gc_lo gc_hi at h
  unfold gc_lo at hl
  unfold gc_hi at hh
  rw [gc_at_mod hm hk, gc_at_mod hn hk] at h
  rw [← hl, ← hh]
  exact h
theorem gc_lom {r k m c : Nat} {lo : Int} (hm : (gc_np gc_rl r).1 = m + 1) (hk : k % (m + 1) = c) (hl : gc_lo r c = lo) : gc_lo r k = lo := by
  unfold gc_lo at hl ⊢
  rw [gc_at_mod hm hk]
  exact hl
theorem gc_him {r k m c : Nat} {hi : Int} (hm : (gc_np gc_rh r).1 = m + 1) (hk : k % (m + 1) = c) (hl : gc_hi r c = hi) : gc_hi r k = hi := by
  unfold gc_hi at hl ⊢
  rw [gc_at_mod hm hk]
  exact hl
section GCS
variable {E : gv_E} {Q : gz_S → Prop} {pc : Nat} {lv : List (Nat × gz_V)} {st : List gz_V} {sh : gz_Sh} {I : gr_I} {J : gr_J} {A : gc_A} {p k r : Nat} {x : Bool × Nat × Nat} {ro : Nat → Nat}
theorem gc_st {z lo hi : Int} (hI : gc_Inv ro I) (hs : sh[p]? = some x) (ht : gc_tx x k = 0) (hr : ro p = r) (hl : gc_lo r k = lo) (hh : gc_hi r k = hi) (h1 : lo ≤ z) (h2 : z ≤ hi) (kk : ∀ Iₚ : gr_I, gc_Inv ro Iₚ → Iₚ p k = z → (∀ q j, ¬ (q = p ∧ j = k) → Iₚ q j = I q j) → gv_X E Q (pc, lv, st, sh, gc_h sh Iₚ J A)) : gv_X E Q (pc, lv, st, sh, gz_up (gc_h sh I J A) p k (.inl z)) := by
  rw [gc_up hs ht]
  refine kk _ (fun q j => ?_) (gr_u_eq I p k z) (fun q j h => gr_u_ne I z h)
  by_cases h : q = p ∧ j = k
  · obtain ⟨rfl, rfl⟩ := h
    rw [gr_u_eq, hr, hl, hh]
    exact ⟨h1, h2⟩
  · rw [gr_u_ne I z h]
    exact hI q j
theorem gc_stJ {z : Int64} (hs : sh[p]? = some x) (ht : gc_tx x k = 1) (kk : ∀ Jₚ : gr_J, Jₚ p k = z → (∀ q j, ¬ (q = p ∧ j = k) → Jₚ q j = J q j) → gv_X E Q (pc, lv, st, sh, gc_h sh I Jₚ A)) : gv_X E Q (pc, lv, st, sh, gz_up (gc_h sh I J A) p k (.inr (.inl z))) := by
  rw [gc_vp hs ht]
  refine kk _ (by simp [gr_v]) (fun q j h => ?_)
  unfold gr_v
  by_cases hb : q = p
  · rw [if_pos hb, if_neg (fun z => h ⟨hb, z⟩)]
  · rw [if_neg hb]
theorem gc_stS {n q b0 : Nat} {lo hi : Int} (hI : gc_Inv ro I) (hs : sh[p]? = some x) (ht : gc_tx x k = n + 10) (hq : p + n % 1000 + (n / 1000 + 1) * b0 = q) (hr : ro p = r) (hl : gc_lo r k = lo) (hh : gc_hi r k = hi) (h1 : lo ≤ (b0 : Int)) (h2 : (b0 : Int) ≤ hi) (kk : ∀ Iₚ : gr_I, gc_Inv ro Iₚ → Iₚ p k = (b0 : Int) → (∀ q j, ¬ (q = p ∧ j = k) → Iₚ q j = I q j) → gv_X E Q (pc, lv, st, sh, gc_h sh Iₚ J A)) : gv_X E Q (pc, lv, st, sh, gz_up (gc_h sh I J A) p k (.inr (.inr (some q)))) := by
  rw [gc_pS hs ht hq]
  refine kk _ (fun q j => ?_) (gr_u_eq I p k _) (fun q j h => gr_u_ne I _ h)
  by_cases h : q = p ∧ j = k
  · obtain ⟨rfl, rfl⟩ := h
    rw [gr_u_eq, hr, hl, hh]
    exact ⟨h1, h2⟩
  · rw [gr_u_ne I _ h]
    exact hI q j
theorem gc_st5 {t : Nat} {lo hi : Int} (hI : gc_Inv ro I) (hs : sh[p]? = some x) (ht : gc_tx x k = 5) (hr : ro p = r) (hl : gc_lo r k = lo) (hh : gc_hi r k = hi) (h1 : lo ≤ (t : Int)) (h2 : (t : Int) ≤ hi) (kk : ∀ Iₚ : gr_I, gc_Inv ro Iₚ → Iₚ p k = (t : Int) → (∀ q j, ¬ (q = p ∧ j = k) → Iₚ q j = I q j) → gv_X E Q (pc, lv, st, sh, gc_h sh Iₚ J A)) : gv_X E Q (pc, lv, st, sh, gz_up (gc_h sh I J A) p k (.inr (.inr (some t)))) := by
  rw [gc_p5 hs ht]
  refine kk _ (fun q j => ?_) (gr_u_eq I p k _) (fun q j h => gr_u_ne I _ h)
  by_cases h : q = p ∧ j = k
  · obtain ⟨rfl, rfl⟩ := h
    rw [gr_u_eq, hr, hl, hh]
    exact ⟨h1, h2⟩
  · rw [gr_u_ne I _ h]
    exact hI q j
end GCS
/-- one of two rows, as a slot says -/
theorem gc_sw {sh : gz_Sh} {ro : Nat → Nat} {p d s r : Nat} {z : Int} {x : Bool × Nat × Nat} (hz : 0 ≤ z ∧ z ≤ 1) (S1 : sh[p + d]? = some x) (R1 : ro (p + d) = r) (B1 : p + d < 1000000) (S2 : sh[p + d + s]? = some x) (R2 : ro (p + d + s) = r) (B2 : p + d + s < 1000000) : ∃ f, p + d + s * Int.toNat z = f ∧ sh[f]? = some x ∧ ro f = r ∧ f < 1000000 ∧ (f = p + d ∨ f = p + d + s) := by
  have h : z = 0 ∨ z = 1 := by omega
  rcases h with rfl | rfl
  · exact ⟨p + d, rfl, S1, R1, B1, Or.inl rfl⟩
  · exact ⟨p + d + s, by rw [show Int.toNat 1 = 1 from rfl, Nat.mul_one], S2, R2, B2, Or.inr rfl⟩
theorem gc_frs {α : Type} {W : Nat → Nat → Prop} {I0 I Iₚ : Nat → Nat → α} {p k : Nat} (hF : ∀ q j, W q j ∨ I q j = I0 q j) (hw : W p k) (hp : ∀ q j, ¬ (q = p ∧ j = k) → Iₚ q j = I q j) : ∀ q j, W q j ∨ Iₚ q j = I0 q j := fun q j => by
  by_cases h : q = p ∧ j = k
  · obtain ⟨rfl, rfl⟩ := h
    exact Or.inl hw
  · rw [hp q j h]
    exact hF q j
theorem gc_frp {α : Type} {W V : Nat → Nat → Prop} {I0 I Iₚ : Nat → Nat → α} (hF : ∀ q j, W q j ∨ I q j = I0 q j) (hV : ∀ q j, V q j → W q j) (hp : ∀ q j, ¬ V q j → Iₚ q j = I q j) : ∀ q j, W q j ∨ Iₚ q j = I0 q j := fun q j => by
  by_cases h : V q j
  · exact Or.inl (hV q j h)
  · rw [hp q j h]
    exact hF q j
theorem gc_i2b {x : Int} (h : -128 ≤ x ∧ x ≤ 127) : (Int32.ofInt x).toInt8.toInt32.toInt = x := by
  have h1 : (Int32.ofInt x).toInt8 = Int8.ofInt x := by rw [Int32.toInt8_ofInt]
  rw [h1, Int8.toInt_toInt32, Int8.toInt_ofInt_of_le (by omega) (by omega)]
theorem gc_divv {x y : Int} (hx : 0 ≤ x ∧ x ≤ 2147483647) (hy : 0 < y ∧ y ≤ 2147483647) : 0 ≤ (Int32.ofInt x / Int32.ofInt y).toInt ∧ (Int32.ofInt x / Int32.ofInt y).toInt ≤ x := by
  rw [gw_div hx hy]
  exact ⟨Int.ediv_nonneg hx.1 (by omega), Int.ediv_le_self y hx.1⟩
theorem gc_dne {y : Int} (hy : 0 < y ∧ y ≤ 2147483647) : Int32.ofInt y ≠ -1 := fun q => by
  have hY : (Int32.ofInt y).toInt = y := gz_toInt ⟨by omega, by omega⟩
  have h9 : (Int32.ofInt y).toInt = (-1 : Int32).toInt := congrArg _ q
  have h8 : (-1 : Int32).toInt = -1 := by decide
  rw [hY, h8] at h9
  omega
theorem gc_divm {x y : Int} (hx : -2147483648 ≤ x ∧ x ≤ 0) (hy : 0 < y ∧ y ≤ 2147483647) : (Int32.ofInt x / Int32.ofInt y).toInt = -((-x) / y) := by
  have hX : (Int32.ofInt x).toInt = x := gz_toInt ⟨by omega, by omega⟩
  have hY : (Int32.ofInt y).toInt = y := gz_toInt ⟨by omega, by omega⟩
  rw [Int32.toInt_div_of_ne_right _ _ (gc_dne hy), hX, hY, ← Int.tdiv_eq_ediv_of_nonneg (show 0 ≤ -x by omega), Int.neg_tdiv, Int.neg_neg]
theorem gc_divn {x y : Int} (hx : -2147483648 ≤ x ∧ x ≤ 2147483647) (hy : 0 < y ∧ y ≤ 2147483647) : (0 ≤ x → 0 ≤ (Int32.ofInt x / Int32.ofInt y).toInt ∧ (Int32.ofInt x / Int32.ofInt y).toInt ≤ x) ∧ (x ≤ 0 → x ≤ (Int32.ofInt x / Int32.ofInt y).toInt ∧ (Int32.ofInt x / Int32.ofInt y).toInt ≤ 0) := by
  refine ⟨fun h => gc_divv ⟨h, hx.2⟩ hy, fun h => ?_⟩
  rw [gc_divm ⟨hx.1, h⟩ hy]
  have h2 := Int.ediv_nonneg (show 0 ≤ -x by omega) (show 0 ≤ y by omega)
  have h3 := Int.ediv_le_self y (show 0 ≤ -x by omega)
  omega
theorem gc_remn {x y : Int} (hx : -2147483648 ≤ x ∧ x ≤ 2147483647) (hy : 0 < y ∧ y ≤ 2147483647) : -y < (Int32.ofInt x - Int32.ofInt x / Int32.ofInt y * Int32.ofInt y).toInt ∧ (Int32.ofInt x - Int32.ofInt x / Int32.ofInt y * Int32.ofInt y).toInt < y := by
  by_cases h : 0 ≤ x
  · have := gw_rem (x := x) (y := y) ⟨h, hx.2⟩ hy
    omega
  · have h1 : Int32.ofInt x / Int32.ofInt y = Int32.ofInt (-((-x) / y)) := by rw [← gc_divm (x := x) (y := y) ⟨hx.1, by omega⟩ hy, gz_back]
    have h2 : x - -((-x) / y) * y = -((-x) % y) := by
      rw [Int.emod_def, Int.neg_mul, Int.mul_comm ((-x) / y) y]
      omega
    have h3 := Int.emod_nonneg (-x) (show y ≠ 0 by omega)
    have h4 := Int.emod_lt_of_pos (-x) hy.1
    rw [h1, ← Int32.ofInt_mul, ← Int32.ofInt_sub, h2, gz_toInt ⟨by omega, by omega⟩]
    omega
theorem gc_ltS {sh : gz_Sh} {x : Nat} {y : Bool × Nat × Nat} (h : sh[x]? = some y) : x < sh.length := (List.getElem?_eq_some_iff.mp h).1
theorem gv_acmp_eq {E : gv_E} {Q : gz_S → Prop} {pc : Nat} {lv : List (Nat × gz_V)} {st : List gz_V} {sh : gz_Sh} {h : gz_H} (hD : gv_D E) {off : Int} {t x y : Nat} (hi : E.2.2.2.2.2.2 pc = some (.if_acmp .eq off)) (ht : gx_t pc off = some t) (hx : x < sh.length ∧ x < 1000000) (hy : y < sh.length ∧ y < 1000000) (kt : x = y → gv_X E Q (t, lv, st, sh, h)) (kf : ¬ x = y → gv_X E Q (pc + 3, lv, st, sh, h)) : gv_X E Q (pc, lv, .inr (.inr (some y)) :: .inr (.inr (some x)) :: st, sh, h) := by
  have hd : gz_do E.1 E.2.1 E.2.2.1 E.2.2.2.1 E.2.2.2.2.1 E.2.2.2.2.2.1 (pc, lv, .inr (.inr (some y)) :: .inr (.inr (some x)) :: st, sh, h) (cond (decide (x = y) == true) t (pc + 3), lv, st, sh, h) 0 0 := Or.inr (Or.inr (Or.inr (Or.inr (Or.inr (Or.inr (Or.inr (Or.inr (Or.inl (Or.inr (Or.inr (Or.inr (Or.inr (Or.inr (Or.inr (Or.inr (Or.inr ⟨true, off, x, y, t, st, hD pc _ hi, rfl, hx.1, hy.1, hx.2, hy.2, ht, rfl, rfl, rfl⟩))))))))))))))))
  have h1 : gv_X E Q (cond (decide (x = y) == true) t (pc + 3), lv, st, sh, h) := by
    by_cases e : x = y
    · rw [decide_eq_true e]
      exact kt e
    · rw [decide_eq_false e]
      exact kf e
  obtain ⟨n, v, g1, g2⟩ := h1
  exact ⟨n + 1, v, ⟨_, 0, 0, 0, 0, hd, g1, rfl, rfl⟩, g2⟩
theorem gc_or1 {x y : Int} (hx : 0 ≤ x ∧ x ≤ 1) (hy : 0 ≤ y ∧ y ≤ 1) : 0 ≤ (Int32.ofInt x ||| Int32.ofInt y).toInt ∧ (Int32.ofInt x ||| Int32.ofInt y).toInt ≤ 1 := by
  rcases (show x = 0 ∨ x = 1 by omega) with rfl | rfl <;> rcases (show y = 0 ∨ y = 1 by omega) with rfl | rfl <;> decide
theorem gc_nar {x : Int} (h : -128 ≤ x ∧ x ≤ 127) : (vp_nar .byte (Int32.ofInt x)).toInt = x := gc_i2b h
theorem gc_frc {α : Type} {W V : Nat → Nat → Prop} {I0 I Iₚ : Nat → Nat → α} (hF : ∀ q j, W q j ∨ I q j = I0 q j) (hV : ∀ q j, V q j → W q j) (hp : ∀ q j, V q j ∨ Iₚ q j = I q j) : ∀ q j, W q j ∨ Iₚ q j = I0 q j := fun q j => by
  rcases hp q j with h | h
  · exact Or.inl (hV q j h)
  · rw [h]
    exact hF q j
/-- Arrays.fill over a row of ints -/
theorem gj_fill {ws0 : List Cond} {tb : String → gz_T} (sh : gz_Sh) (ro : Nat → Nat) (I : gr_I) (J : gr_J) (A : gc_A) (hI : gc_Inv ro I) (a1 m : Nat) (a2 : Int) (S_a1 : sh[a1]? = some (true, 1, m)) (B_a1 : a1 < 1000000) (M_a1 : m < 2147483648) (ha2 : gz_R a2) (hr : ∀ k, gc_lo (ro a1) k ≤ a2 ∧ a2 ≤ gc_hi (ro a1) k) : ∃ Iₚ : gr_I, gz_Ev ws0 tb 1 gj_Mf [.inr (.inr (some a1)), .inl a2] sh (gc_h sh I J A) none sh (gc_h sh Iₚ J A) 0 0 ∧ gc_Inv ro Iₚ ∧ (∀ q j : Nat, q = a1 ∨ Iₚ q j = I q j) ∧ (∀ j : Nat, j < m → Iₚ a1 j = a2) := by
  have hD : gv_D (ws0, gj_Mf.1.cls, tb gj_Mf.1.cls, gj_Mf.2.1, gj_Mf.2.2.1, gz_Ev ws0 tb 0, kJ7_fill_53178) := gq_of oJ7_fill_53178
  have key : ∀ (n : Nat) (i : Int) (I1 : gr_I), ((m : Int) - i).toNat < n → 0 ≤ i → i ≤ (m : Int) → gc_Inv ro I1 → (∀ q j : Nat, q = a1 ∨ I1 q j = I q j) → (∀ j : Nat, (j : Int) < i → I1 a1 j = a2) → gv_X (ws0, gj_Mf.1.cls, tb gj_Mf.1.cls, gj_Mf.2.1, gj_Mf.2.2.1, gz_Ev ws0 tb 0, kJ7_fill_53178) (gv_Q gj_Mf.2.1 gj_Mf.2.2.2 sh (fun r hₚ => ∃ Iₚ : gr_I, r = none ∧ hₚ = gc_h sh Iₚ J A ∧ gc_Inv ro Iₚ ∧ (∀ q j : Nat, q = a1 ∨ Iₚ q j = I q j) ∧ (∀ j : Nat, j < m → Iₚ a1 j = a2))) (5, [(2, .inl i), (3, .inl (m : Int)), (0, .inr (.inr (some a1))), (1, .inl a2)], [], sh, gc_h sh I1 J A) := by
    intro n
    induction n with
    | zero => intro i I1 hn; omega
    | succ n ih =>
      intro i I1 hn h0 hm hI1 hF hA
      refine gv_run 2 true hD (pcₚ := 7) (lvₚ := [(2, .inl i), (3, .inl (m : Int)), (0, .inr (.inr (some a1))), (1, .inl a2)]) (stₚ := [.inl (m : Int), .inl i]) (hₚ := gc_h sh I1 J A) (C := ((True ∧ True) ∧ True)) rfl ⟨⟨trivial, trivial⟩, trivial⟩ ?_
      refine gv_icmp_ge (t := 20) hD rfl rfl ⟨⟨by omega, by omega⟩, ⟨by omega, by omega⟩⟩ (fun c => ?_) (fun c => ?_)
      · exact gv_vret hD rfl ⟨I1, rfl, rfl, hI1, hF, fun j hj => hA j (by omega)⟩
      · refine gv_run 3 true hD (pcₚ := 13) (lvₚ := [(2, .inl i), (3, .inl (m : Int)), (0, .inr (.inr (some a1))), (1, .inl a2)]) (stₚ := [.inl a2, .inl i, .inr (.inr (some a1))]) (hₚ := gc_h sh I1 J A) (C := (((True ∧ True) ∧ True) ∧ True)) rfl ⟨⟨⟨trivial, trivial⟩, trivial⟩, trivial⟩ ?_
        refine gv_iast hD rfl S_a1 ⟨M_a1, B_a1⟩ ⟨by omega, by omega⟩ ?_
        refine gc_st hI1 S_a1 rfl rfl rfl rfl (hr _).1 (hr _).2 (fun I2 hI2 q2 p2 => ?_)
        refine gv_run 2 true hD (pcₚ := 5) (lvₚ := [(2, .inl (i + 1)), (3, .inl (m : Int)), (0, .inr (.inr (some a1))), (1, .inl a2)]) (stₚ := []) (hₚ := gc_h sh I2 J A) (C := ((True ∧ True) ∧ True)) rfl ⟨⟨trivial, trivial⟩, trivial⟩ ?_
        refine ih (i + 1) I2 (by omega) (by omega) (by omega) hI2 (gc_frs (W := fun q _ => q = a1) hF rfl p2) (fun j hj => ?_)
        by_cases hji : j = Int.toNat i
        · rw [hji]
          exact q2
        · rw [p2 a1 j (fun h => hji h.2)]
          exact hA j (by omega)
  obtain ⟨r, hₚ, E, Iₚ, rfl, rfl, h1⟩ := gv_ev (ws0 := ws0) (tb := tb) (d := 0) (M := gj_Mf) (code := kJ7_fill_53178) (av := [.inr (.inr (some a1)), .inl a2]) (sh := sh) (h := gc_h sh I J A) (Po := fun r hₚ => ∃ Iₚ : gr_I, r = none ∧ hₚ = gc_h sh Iₚ J A ∧ gc_Inv ro Iₚ ∧ (∀ q j : Nat, q = a1 ∨ Iₚ q j = I q j) ∧ (∀ j : Nat, j < m → Iₚ a1 j = a2)) (Nat.le_of_ble_eq_true rfl) (by
    refine gv_run 3 true hD (pcₚ := 3) (lvₚ := [(2, .inl 0), (0, .inr (.inr (some a1))), (1, .inl a2)]) (stₚ := [.inr (.inr (some a1))]) (hₚ := gc_h sh I J A) (C := (((True ∧ True) ∧ True) ∧ True)) rfl ⟨⟨⟨trivial, trivial⟩, trivial⟩, trivial⟩ ?_
    refine gv_len hD rfl S_a1 ⟨by decide, B_a1⟩ ?_
    refine gv_run 1 true hD (pcₚ := 5) (lvₚ := [(3, .inl (m : Int)), (2, .inl 0), (0, .inr (.inr (some a1))), (1, .inl a2)]) (stₚ := []) (hₚ := gc_h sh I J A) (C := (True ∧ True)) rfl ⟨trivial, trivial⟩ ?_
    refine gv_pick [1, 0, 2, 3] rfl ?_
    exact key _ 0 I (Nat.lt_succ_self _) (by omega) (by omega) hI (fun _ _ => Or.inr rfl) (fun j hj => by omega))
  exact ⟨Iₚ, E, h1⟩
/-- System.arraycopy -/
theorem gv_copy {E : gv_E} {Q : gz_S → Prop} {pc : Nat} {lv : List (Nat × gz_V)} {st : List gz_V} {sh : gz_Sh} {h : gz_H} (hD : gv_D E) {ix i i1 t n0 n1 : Nat} {x y z : Int} (hi : E.2.2.2.2.2.2 pc = some (.invokestatic ix)) (hl : gz_lC E.1 E.2.1 ix) (h8 : (st.map gz_c).sum ≤ 8) (hb : i < 1000000 ∧ i1 < 1000000) (hs : sh[i]? = some (true, t, n0)) (hs1 : sh[i1]? = some (true, t, n1)) (ht : t ≤ 2) (hn : n0 < 2147483648 ∧ n1 < 2147483648) (h0 : 0 ≤ x ∧ 0 ≤ y ∧ 0 ≤ z) (h1 : x + z ≤ (n0 : Int)) (h2 : y + z ≤ (n1 : Int)) (hf : t = 0 → ∀ k, k < z.toNat → -128 ≤ gz_I (h i (x.toNat + k)) ∧ gz_I (h i (x.toNat + k)) ≤ 127) (kk : gv_X E Q (pc + 3, lv, st, sh, gz_cp h i i1 x.toNat y.toNat z.toNat)) : gv_X E Q (pc, lv, .inl z :: .inl y :: .inr (.inr (some i1)) :: .inl x :: .inr (.inr (some i)) :: st, sh, h) := by
  obtain ⟨n, v, k1, k2⟩ := kk
  have ex : ((x.toNat : Nat) : Int) = x := Int.toNat_of_nonneg h0.1
  have ey : ((y.toNat : Nat) : Int) = y := Int.toNat_of_nonneg h0.2.1
  have ez : ((z.toNat : Nat) : Int) = z := Int.toNat_of_nonneg h0.2.2
  refine ⟨n + 1, v, ⟨(pc + 3, lv, st, sh, gz_cp h i i1 x.toNat y.toNat z.toNat), 0, 0, 0, 0, ?_, k1, rfl, rfl⟩, k2⟩
  refine Or.inr (Or.inr (Or.inr (Or.inr (Or.inr (Or.inr (Or.inr (Or.inr (Or.inl (Or.inr (Or.inr (Or.inr (Or.inr (Or.inl ⟨ix, i, i1, t, n0, n1, x.toNat, y.toNat, z.toNat, st, hD pc _ hi, hl, ?_, h8, hb.1, hb.2, hs, hs1, ht, hn.1, hn.2, by omega, by omega, hf, rfl, rfl, rfl⟩)))))))))))))
  rw [ex, ey, ez]
section GCC
variable {E : gv_E} {Q : gz_S → Prop} {pc : Nat} {lv : List (Nat × gz_V)} {st : List gz_V} {sh : gz_Sh} {I : gr_I} {J : gr_J} {A : gc_A} {i i1 t n0 n1 sp dp n : Nat} {ro : Nat → Nat}
theorem gc_cp (hI : gc_Inv ro I) (hs : sh[i]? = some (true, t, n0)) (hs1 : sh[i1]? = some (true, t, n1)) (ht : t ≤ 1) (hr : ∀ j, j < n → gc_lo (ro i1) (dp + j) ≤ I i (sp + j) ∧ I i (sp + j) ≤ gc_hi (ro i1) (dp + j)) (kk : ∀ Iₚ : gr_I, gc_Inv ro Iₚ → (∀ q j, ¬ (q = i1 ∧ dp ≤ j ∧ j < dp + n) → Iₚ q j = I q j) → (∀ j, j < n → Iₚ i1 (dp + j) = I i (sp + j)) → gv_X E Q (pc, lv, st, sh, gc_h sh Iₚ J A)) : gv_X E Q (pc, lv, st, sh, gz_cp (gc_h sh I J A) i i1 sp dp n) := by
  have hx : ∀ k, gc_tx (true, t, n0) k = 0 := fun k => by
    have : t = 0 ∨ t = 1 := by omega
    rcases this with rfl | rfl <;> rfl
  have hx1 : ∀ k, gc_tx (true, t, n1) k = 0 := fun k => by
    have : t = 0 ∨ t = 1 := by omega
    rcases this with rfl | rfl <;> rfl
  have e : gz_cp (gc_h sh I J A) i i1 sp dp n = gc_h sh (fun q k => if q = i1 ∧ dp ≤ k ∧ k < dp + n then I i (sp + (k - dp)) else I q k) J A := by
    funext q k
    unfold gz_cp
    by_cases hq : q = i1
    · subst hq
      rw [if_pos rfl]
      by_cases hk : dp ≤ k ∧ k < dp + n
      · rw [if_pos hk, gc_hI hs (hx _), gc_hI hs1 (hx1 _), if_pos ⟨rfl, hk⟩]
      · rw [if_neg hk, gc_hI hs1 (hx1 _), gc_hI hs1 (hx1 _), if_neg (fun h => hk h.2)]
    · rw [if_neg hq]
      exact (gc_h_congr (if_neg (fun h => hq h.1))).symm
  rw [e]
  refine kk _ (fun q k => ?_) (fun q j h => if_neg h) (fun j hj => ?_)
  · by_cases h : q = i1 ∧ dp ≤ k ∧ k < dp + n
    · rw [if_pos h]
      obtain ⟨rfl, h1, h2⟩ := h
      have h3 := hr (k - dp) (by omega)
      rw [Nat.add_sub_of_le h1] at h3
      exact h3
    · rw [if_neg h]
      exact hI q k
  · show (if i1 = i1 ∧ dp ≤ dp + j ∧ dp + j < dp + n then I i (sp + (dp + j - dp)) else I i1 (dp + j)) = _
    rw [if_pos ⟨rfl, by omega, by omega⟩, Nat.add_sub_cancel_left]
theorem gc_cpJ (hs : sh[i]? = some (true, 2, n0)) (hs1 : sh[i1]? = some (true, 2, n1)) (kk : ∀ Jₚ : gr_J, (∀ q j, ¬ (q = i1 ∧ dp ≤ j ∧ j < dp + n) → Jₚ q j = J q j) → (∀ j, j < n → Jₚ i1 (dp + j) = J i (sp + j)) → gv_X E Q (pc, lv, st, sh, gc_h sh I Jₚ A)) : gv_X E Q (pc, lv, st, sh, gz_cp (gc_h sh I J A) i i1 sp dp n) := by
  have e : gz_cp (gc_h sh I J A) i i1 sp dp n = gc_h sh I (fun q k => if q = i1 ∧ dp ≤ k ∧ k < dp + n then J i (sp + (k - dp)) else J q k) A := by
    funext q k
    unfold gz_cp
    by_cases hq : q = i1
    · subst hq
      rw [if_pos rfl]
      by_cases hk : dp ≤ k ∧ k < dp + n
      · rw [if_pos hk, gc_hJ hs rfl, gc_hJ hs1 rfl, if_pos ⟨rfl, hk⟩]
      · rw [if_neg hk, gc_hJ hs1 rfl, gc_hJ hs1 rfl, if_neg (fun h => hk h.2)]
    · rw [if_neg hq]
      exact (gc_h_congrJ (if_neg (fun h => hq h.1))).symm
  rw [e]
  refine kk _ (fun q j h => if_neg h) (fun j hj => ?_)
  show (if i1 = i1 ∧ dp ≤ dp + j ∧ dp + j < dp + n then J i (sp + (dp + j - dp)) else J i1 (dp + j)) = _
  rw [if_pos ⟨rfl, by omega, by omega⟩, Nat.add_sub_cancel_left]
end GCC
