/-! CELLS OF THE CLASS: what a slot holds goes by the shape of its cell, its range by the role of its cell. -/
def gc_ts : List (List Nat) := [[2, 2, 2, 0, 2, 2, 0, 2, 2, 2, 0, 0, 0, 2, 2, 2, 2, 0, 0, 2, 2, 2], [2, 0, 0, 2, 0, 2, 2, 0, 0, 0, 2, 2, 2, 2, 0, 2, 2, 0, 2], [2, 2, 2, 2, 2, 2, 2, 2, 0, 0], [0, 0, 0, 0, 0, 2, 2, 2, 0, 2, 2, 2, 0, 2, 0, 2], [2, 0], [2, 2, 2, 0, 0, 2, 2, 2, 0, 2, 2, 2, 2, 2, 2, 0, 2, 2, 2], [2, 2, 2, 0, 0, 0, 0, 0, 0, 2, 2, 2, 0, 2, 2, 0, 2, 2, 2], [2, 2, 2, 2, 2, 2, 2, 2, 2, 0, 2, 2, 2, 2], [2, 2, 2, 2, 2, 0, 2, 2, 2, 2, 2, 2, 2, 0, 2, 2, 2, 0, 0, 2, 2], [2, 0, 2, 2, 0, 0, 0, 0, 0, 1], [2, 0, 2, 2, 2, 2, 2, 2, 2, 0, 2, 2, 2, 2, 2, 2, 0, 0, 0], [2, 2, 2, 2, 2, 2, 0, 2, 2, 2, 2, 0, 2, 0, 2, 2], [2, 2, 2, 2, 2, 2, 2, 2, 2, 2, 2, 2, 2, 2, 2, 0, 2]]
def gc_nl : List (List Nat) → Nat → List Nat
  | [], _ => []
  | x :: _, 0 => x
  | _ :: l, n + 1 => gc_nl l n
def gc_tx (x : Bool × Nat × Nat) (k : Nat) : Nat := match x with
  | (true, t, _) => cond (Nat.beq t 2) 1 (cond (Nat.ble t 3) 0 2)
  | (false, ci, _) => gr_nth (gc_nl gc_ts ci) k
def gc_ty (sh : gz_Sh) (p k : Nat) : Nat := match sh[p]? with
  | some x => gc_tx x k
  | none => 0
abbrev gc_A : Type := Nat → Nat → Option Nat
def gc_h (sh : gz_Sh) (I : gr_I) (J : gr_J) (A : gc_A) : gz_H := fun p k => match gc_ty sh p k with
  | 0 => .inl (I p k)
  | 1 => .inr (.inl (J p k))
  | _ => .inr (.inr (A p k))
def gc_u (A : gc_A) (a k : Nat) (z : Option Nat) : gc_A := fun b j => if b = a then (if j = k then z else A b j) else A b j
section GC
variable {sh : gz_Sh} {I : gr_I} {J : gr_J} {A : gc_A} {p k : Nat} {x : Bool × Nat × Nat}
theorem gc_tyx (hs : sh[p]? = some x) : gc_ty sh p k = gc_tx x k := by
  unfold gc_ty
  rw [hs]
theorem gc_hI (hs : sh[p]? = some x) (ht : gc_tx x k = 0) : gc_h sh I J A p k = .inl (I p k) := by
  unfold gc_h
  rw [gc_tyx hs, ht]
  rfl
theorem gc_hJ (hs : sh[p]? = some x) (ht : gc_tx x k = 1) : gc_h sh I J A p k = .inr (.inl (J p k)) := by
  unfold gc_h
  rw [gc_tyx hs, ht]
  rfl
theorem gc_hA (hs : sh[p]? = some x) (ht : gc_tx x k = 2) {v : Option Nat} (hv : A p k = v) : gc_h sh I J A p k = .inr (.inr v) := by
  unfold gc_h
  rw [gc_tyx hs, ht, ← hv]
  rfl
theorem gc_iI (hs : sh[p]? = some x) (ht : gc_tx x k = 0) : gz_I (gc_h sh I J A p k) = I p k := by rw [gc_hI hs ht]; rfl
theorem gc_jJ (hs : sh[p]? = some x) (ht : gc_tx x k = 1) : gz_J (gc_h sh I J A p k) = J p k := by rw [gc_hJ hs ht]; rfl
theorem gc_aA (hs : sh[p]? = some x) (ht : gc_tx x k = 2) : gz_A (gc_h sh I J A p k) = A p k := by rw [gc_hA hs ht rfl]; rfl
theorem gc_up {z : Int} (hs : sh[p]? = some x) (ht : gc_tx x k = 0) : gz_up (gc_h sh I J A) p k (.inl z) = gc_h sh (gr_u I p k z) J A := by
  have h : gc_ty sh p k = 0 := (gc_tyx hs).trans ht
  funext b j
  unfold gz_up gr_u gc_h
  by_cases hb : b = p
  · subst hb
    by_cases hj : j = k
    · subst hj
      simp [h]
    · simp [hj]
  · simp [hb]
theorem gc_vp {z : Int64} (hs : sh[p]? = some x) (ht : gc_tx x k = 1) : gz_up (gc_h sh I J A) p k (.inr (.inl z)) = gc_h sh I (gr_v J p k z) A := by
  have h : gc_ty sh p k = 1 := (gc_tyx hs).trans ht
  funext b j
  unfold gz_up gr_v gc_h
  by_cases hb : b = p
  · subst hb
    by_cases hj : j = k
    · subst hj
      simp [h]
    · simp [hj]
  · simp [hb]
theorem gc_ap {z : Option Nat} (hs : sh[p]? = some x) (ht : gc_tx x k = 2) : gz_up (gc_h sh I J A) p k (.inr (.inr z)) = gc_h sh I J (gc_u A p k z) := by
  have h : gc_ty sh p k = 2 := (gc_tyx hs).trans ht
  funext b j
  unfold gz_up gc_u gc_h
  by_cases hb : b = p
  · subst hb
    by_cases hj : j = k
    · subst hj
      simp [h]
    · simp [hj]
  · simp [hb]
end GC
def gc_rl : List (List Int × Int) := [([], -2147483648), ([], -128), ([], 0), ([-2147483648, 0, -2147483648, -2147483648, 0, 0, 0, 0, 0, -2147483648], -2147483648), ([], 0), ([], 0), ([-2147483648, 0], -2147483648), ([-2147483648, 0], -2147483648), ([-2147483648, 0], -2147483648), ([-2147483648, 0], -2147483648), ([-2147483648, 0], -2147483648), ([-2147483648, 0], -2147483648), ([-2147483648, 0], -2147483648)]
def gc_rh : List (List Int × Int) := [([], 2147483647), ([], 127), ([], 1), ([2147483647, 1000, 2147483647, 2147483647, 24, 1000, 1001, 125, 999999, 2147483647], 2147483647), ([], 1000), ([], 24), ([2147483647, 8], 2147483647), ([2147483647, 16], 2147483647), ([2147483647, 24], 2147483647), ([2147483647, 32], 2147483647), ([2147483647, 48], 2147483647), ([2147483647, 96], 2147483647), ([2147483647, 384], 2147483647)]
def gc_np : List (List Int × Int) → Nat → List Int × Int
  | [], _ => ([], 0)
  | x :: _, 0 => x
  | _ :: l, n + 1 => gc_np l n
def gc_nd : List Int → Int → Nat → Int
  | [], d, _ => d
  | x :: _, _, 0 => x
  | _ :: l, d, n + 1 => gc_nd l d n
def gc_lo (r k : Nat) : Int := gc_nd (gc_np gc_rl r).1 (gc_np gc_rl r).2 k
def gc_hi (r k : Nat) : Int := gc_nd (gc_np gc_rh r).1 (gc_np gc_rh r).2 k
def gc_Inv (ro : Nat → Nat) (I : gr_I) : Prop := ∀ p k, gc_lo (ro p) k ≤ I p k ∧ I p k ≤ gc_hi (ro p) k
theorem gc_in {ro : Nat → Nat} {I : gr_I} {p k r : Nat} {lo hi : Int} (hI : gc_Inv ro I) (hr : ro p = r) (hl : gc_lo r k = lo) (hh : gc_hi r k = hi) : lo ≤ I p k ∧ I p k ≤ hi := by
  have h := hI p k
  rw [hr, hl, hh] at h
  exact h
theorem gv_look {E : gv_E} {Q : gz_S → Prop} {pc : Nat} {lv : List (Nat × gz_V)} {st : List gz_V} {sh : gz_Sh} {h : gz_H} (hD : gv_D E) {dflt x : Int} {ps : Array (Int × Int)} {t : Nat} (hi : E.2.2.2.2.2.2 pc = some (.lookupswitch dflt ps)) (hR : gz_R x) (hso : (ps.toList.zip (ps.toList.drop 1)).all (fun (a, next) => a.1 < next.1) = true) (off : Int) (ho : Op.lookupswitch.offset ps.toList dflt x = off) (ht : gx_t pc off = some t) (kk : gv_X E Q (t, lv, st, sh, h)) : gv_X E Q (pc, lv, .inl x :: st, sh, h) := by
  obtain ⟨n, v, h1, h2⟩ := kk
  exact ⟨n + 1, v, ⟨(t, lv, st, sh, h), 0, 0, 0, 0, Or.inr (Or.inr (Or.inr (Or.inr (Or.inr (Or.inl ⟨dflt, ps, x, t, hD pc _ hi, rfl, hR, hso, by rw [ho]; exact ht, rfl, rfl, rfl, rfl, rfl⟩))))), h1, rfl, rfl⟩, h2⟩
section GCS
variable {E : gv_E} {Q : gz_S → Prop} {pc : Nat} {lv : List (Nat × gz_V)} {st : List gz_V} {sh : gz_Sh} {I : gr_I} {J : gr_J} {A : gc_A} {p k r : Nat} {x : Bool × Nat × Nat} {ro : Nat → Nat}
theorem gc_st {z lo hi : Int} (hI : gc_Inv ro I) (hs : sh[p]? = some x) (ht : gc_tx x k = 0) (hr : ro p = r) (hl : gc_lo r k = lo) (hh : gc_hi r k = hi) (h1 : lo ≤ z) (h2 : z ≤ hi) (kk : ∀ I' : gr_I, gc_Inv ro I' → I' p k = z → (∀ q j, ¬ (q = p ∧ j = k) → I' q j = I q j) → gv_X E Q (pc, lv, st, sh, gc_h sh I' J A)) : gv_X E Q (pc, lv, st, sh, gz_up (gc_h sh I J A) p k (.inl z)) := by
  rw [gc_up hs ht]
  refine kk _ (fun q j => ?_) (gr_u_eq I p k z) (fun q j h => gr_u_ne I z h)
  by_cases h : q = p ∧ j = k
  · obtain ⟨rfl, rfl⟩ := h
    rw [gr_u_eq, hr, hl, hh]
    exact ⟨h1, h2⟩
  · rw [gr_u_ne I z h]
    exact hI q j
theorem gc_stJ {z : Int64} (hs : sh[p]? = some x) (ht : gc_tx x k = 1) (kk : ∀ J' : gr_J, J' p k = z → (∀ q j, ¬ (q = p ∧ j = k) → J' q j = J q j) → gv_X E Q (pc, lv, st, sh, gc_h sh I J' A)) : gv_X E Q (pc, lv, st, sh, gz_up (gc_h sh I J A) p k (.inr (.inl z))) := by
  rw [gc_vp hs ht]
  refine kk _ (by simp [gr_v]) (fun q j h => ?_)
  unfold gr_v
  by_cases hb : q = p
  · rw [if_pos hb, if_neg (fun z => h ⟨hb, z⟩)]
  · rw [if_neg hb]
end GCS
theorem gc_frs {α : Type} {W : Nat → Nat → Prop} {I0 I I' : Nat → Nat → α} {p k : Nat} (hF : ∀ q j, W q j ∨ I q j = I0 q j) (hw : W p k) (hp : ∀ q j, ¬ (q = p ∧ j = k) → I' q j = I q j) : ∀ q j, W q j ∨ I' q j = I0 q j := fun q j => by
  by_cases h : q = p ∧ j = k
  · obtain ⟨rfl, rfl⟩ := h
    exact Or.inl hw
  · rw [hp q j h]
    exact hF q j
theorem gc_frc {α : Type} {W V : Nat → Nat → Prop} {I0 I I' : Nat → Nat → α} (hF : ∀ q j, W q j ∨ I q j = I0 q j) (hV : ∀ q j, V q j → W q j) (hp : ∀ q j, V q j ∨ I' q j = I q j) : ∀ q j, W q j ∨ I' q j = I0 q j := fun q j => by
  rcases hp q j with h | h
  · exact Or.inl (hV q j h)
  · rw [h]
    exact hF q j
