/-! GOAL FIRST, over numbers and places: from a state the method comes to its end, with Post. Nothing new is made. -/
def gv_Q (cc : ByteArray) (ret : Option FieldType) (sh : gz_Sh) (Po : Option gz_V → gz_H → Prop) (v : gz_S) : Prop := ∃ r, gz_fin cc ret v r ∧ v.2.2.2.1 = sh ∧ Po r v.2.2.2.2
/-- a method's fixed things: its words, its class's tables, its bytes, its locals, its callees -/
abbrev gv_E : Type := List Cond × String × gz_T × ByteArray × Nat × gz_K × (Nat → Option Instr)
def gv_D (E : gv_E) : Prop := ∀ pc i, E.2.2.2.2.2.2 pc = some i → gx_dec E.2.2.2.1 pc i
def gv_X (E : gv_E) (Q : gz_S → Prop) (u : gz_S) : Prop := ∃ (n : Nat) (v : gz_S), gz_to (gz_do E.1 E.2.1 E.2.2.1 E.2.2.2.1 E.2.2.2.2.1 E.2.2.2.2.2.1) n u v 0 0 ∧ Q v
/-- n steps; b says which way branches go -/
def gv_go (E : gv_E) (sh : gz_Sh) : Nat → Bool → gz_O → Option gz_O
  | 0, _, u => some u
  | n + 1, b, u => match E.2.2.2.2.2.2 u.1 with
    | none => none
    | some i => match gz_step E.2.2.1 sh E.2.2.2.2.1 b u.1 u.2.1 u.2.2.1 u.2.2.2.1 i with
      | none => none
      | some v => gv_go E sh n b (v.1, v.2.1, v.2.2.1, v.2.2.2.1, u.2.2.2.2 ∧ v.2.2.2.2)
section GV
variable {E : gv_E} {Q : gz_S → Prop} {pc pcₚ n : Nat} {lv lvₚ : List (Nat × gz_V)} {st stₚ : List gz_V} {sh : gz_Sh} {h hₚ : gz_H} {C : Prop} {b : Bool} {i : Instr}
theorem gv_end (hq : Q (pc, lv, st, sh, h)) : gv_X E Q (pc, lv, st, sh, h) := ⟨0, _, ⟨rfl, rfl, rfl⟩, hq⟩
theorem gv_step (hD : gv_D E) (hi : E.2.2.2.2.2.2 pc = some i) (hs : gz_step E.2.2.1 sh E.2.2.2.2.1 b pc lv st h i = some (pcₚ, lvₚ, stₚ, hₚ, C)) (hC : C) (k : gv_X E Q (pcₚ, lvₚ, stₚ, sh, hₚ)) : gv_X E Q (pc, lv, st, sh, h) := by
  obtain ⟨n, v, h1, h2⟩ := k
  exact ⟨n + 1, v, ⟨(pcₚ, lvₚ, stₚ, sh, hₚ), 0, 0, 0, 0, Or.inl ⟨b, i, C, hD pc i hi, hs, hC, rfl, rfl, rfl⟩, h1, rfl, rfl⟩, h2⟩
theorem gv_runs (hD : gv_D E) : ∀ (n : Nat) {pc : Nat} {lv : List (Nat × gz_V)} {st : List gz_V} {h : gz_H} {C0 : Prop}, gv_go E sh n b (pc, lv, st, h, C0) = some (pcₚ, lvₚ, stₚ, hₚ, C) → C → C0 ∧ (gv_X E Q (pcₚ, lvₚ, stₚ, sh, hₚ) → gv_X E Q (pc, lv, st, sh, h))
  | 0, pc, lv, st, h, C0, hs, hC => by
    cases hs
    exact ⟨hC, fun k => k⟩
  | n + 1, pc, lv, st, h, C0, hs, hC => by
    unfold gv_go at hs
    split at hs
    · cases hs
    · rename_i i hi
      split at hs
      · cases hs
      · rename_i v hv
        obtain ⟨h1, h2⟩ := gv_runs hD n hs hC
        exact ⟨h1.1, fun k => gv_step hD hi (pcₚ := v.1) (lvₚ := v.2.1) (stₚ := v.2.2.1) (hₚ := v.2.2.2.1) (C := v.2.2.2.2) hv h1.2 (h2 k)⟩
theorem gv_run (n : Nat) (b : Bool) (hD : gv_D E) (hs : gv_go E sh n b (pc, lv, st, h, True) = some (pcₚ, lvₚ, stₚ, hₚ, C)) (hC : C) (k : gv_X E Q (pcₚ, lvₚ, stₚ, sh, hₚ)) : gv_X E Q (pc, lv, st, sh, h) := (gv_runs hD n hs hC).2 k
theorem gv_sub (hs : ∀ q ∈ lvₚ, q ∈ lv) (k : gv_X E Q (pc, lvₚ, st, sh, h)) : gv_X E Q (pc, lv, st, sh, h) := by
  obtain ⟨n, v, h1, h2⟩ := k
  exact ⟨n + 1, v, ⟨(pc, lvₚ, st, sh, h), 0, 0, 0, 0, Or.inr (Or.inl ⟨hs, rfl, Or.inl rfl, rfl, rfl⟩), h1, rfl, rfl⟩, h2⟩
theorem gv_wr {z : Int} (k : gv_X E Q (pc, lv, .inl (Int32.ofInt z).toInt :: st, sh, h)) : gv_X E Q (pc, lv, .inl z :: st, sh, h) := by
  obtain ⟨n, v, h1, h2⟩ := k
  exact ⟨n + 1, v, ⟨(pc, lv, .inl (Int32.ofInt z).toInt :: st, sh, h), 0, 0, 0, 0, Or.inr (Or.inl ⟨fun q hq => hq, rfl, Or.inr ⟨z, st, rfl, rfl⟩, rfl, rfl⟩), h1, rfl, rfl⟩, h2⟩
theorem gv_get (hD : gv_D E) {ix ci k t a m : Nat} {v : gz_V} (hi : E.2.2.2.2.2.2 pc = some (.getfield ix)) (hT : E.2.2.1.1 ix = some (ci, k, t)) (hs : sh[a]? = some (false, ci, m)) (hk : k < m ∧ a < 1000000) (hv : h a k = v) (kk : gv_X E Q (pc + 3, lv, v :: st, sh, h)) : gv_X E Q (pc, lv, .inr (.inr (some a)) :: st, sh, h) := by
  subst hv
  refine gv_step (b := true) hD hi (C := True) ?_ trivial kk
  show gz_get _ _ _ _ _ _ _ = _
  simp only [gz_get, hT, hs]
  rw [if_pos ⟨trivial, hk.1, hk.2⟩]
theorem gv_put (hD : gv_D E) {ix ci k t a m : Nat} {v : gz_V} {C : Prop} (hi : E.2.2.2.2.2.2 pc = some (.putfield ix)) (hT : E.2.2.1.1 ix = some (ci, k, t)) (hs : sh[a]? = some (false, ci, m)) (hk : k < m ∧ a < 1000000) (hf : gz_fit t v = some C) (hC : C) (kk : gv_X E Q (pc + 3, lv, st, sh, gz_up h a k v)) : gv_X E Q (pc, lv, v :: .inr (.inr (some a)) :: st, sh, h) := by
  refine gv_step (b := true) hD hi (C := C) ?_ hC kk
  show gz_put _ _ _ _ _ _ _ = _
  simp only [gz_put, hT, hs, hf]
  rw [if_pos ⟨trivial, hk.1, hk.2⟩]
theorem gv_iald (hD : gv_D E) {a m t0 : Nat} {j : Int} {z : Int} (hi : E.2.2.2.2.2.2 pc = some .iaload) (hs : sh[a]? = some (true, t0, m)) (ht : t0 = 1) (hk : m < 2147483648 ∧ a < 1000000) (hj : 0 ≤ j ∧ j < (m : Int)) (hv : gz_I (h a j.toNat) = z) (kk : gv_X E Q (pc + 1, lv, .inl z :: st, sh, h)) : gv_X E Q (pc, lv, .inl j :: .inr (.inr (some a)) :: st, sh, h) := by
  subst hv
  refine gv_step (b := true) hD hi (C := 0 ≤ j ∧ j < (m : Int)) ?_ hj kk
  show gz_ald 1 sh pc lv (.inl j :: .inr (.inr (some a)) :: st) h = _
  subst ht
  simp [gz_ald, hs, hk.1, hk.2]
theorem gv_bald (hD : gv_D E) {a m t0 : Nat} {j : Int} {z : Int} (hi : E.2.2.2.2.2.2 pc = some .baload) (hs : sh[a]? = some (true, t0, m)) (ht : (t0 = 0 ∨ t0 = 3)) (hk : m < 2147483648 ∧ a < 1000000) (hj : 0 ≤ j ∧ j < (m : Int)) (hv : gz_I (h a j.toNat) = z) (kk : gv_X E Q (pc + 1, lv, .inl z :: st, sh, h)) : gv_X E Q (pc, lv, .inl j :: .inr (.inr (some a)) :: st, sh, h) := by
  subst hv
  refine gv_step (b := true) hD hi (C := 0 ≤ j ∧ j < (m : Int)) ?_ hj kk
  show gz_ald 0 sh pc lv (.inl j :: .inr (.inr (some a)) :: st) h = _
  rcases ht with rfl | rfl <;> simp [gz_ald, hs, hk.1, hk.2]
theorem gv_lald (hD : gv_D E) {a m t0 : Nat} {j : Int} {z : Int64} (hi : E.2.2.2.2.2.2 pc = some .laload) (hs : sh[a]? = some (true, t0, m)) (ht : t0 = 2) (hk : m < 2147483648 ∧ a < 1000000) (hj : 0 ≤ j ∧ j < (m : Int)) (hv : gz_J (h a j.toNat) = z) (kk : gv_X E Q (pc + 1, lv, .inr (.inl z) :: st, sh, h)) : gv_X E Q (pc, lv, .inl j :: .inr (.inr (some a)) :: st, sh, h) := by
  subst hv
  refine gv_step (b := true) hD hi (C := 0 ≤ j ∧ j < (m : Int)) ?_ hj kk
  show gz_ald 2 sh pc lv (.inl j :: .inr (.inr (some a)) :: st) h = _
  subst ht
  simp [gz_ald, hs, hk.1, hk.2]
theorem gv_aald (hD : gv_D E) {a m t0 : Nat} {j : Int} {z : Option Nat} (hi : E.2.2.2.2.2.2 pc = some .aaload) (hs : sh[a]? = some (true, t0, m)) (ht : (4 ≤ t0 ∧ t0 ≤ 7)) (hk : m < 2147483648 ∧ a < 1000000) (hj : 0 ≤ j ∧ j < (m : Int)) (hv : gz_A (h a j.toNat) = z) (kk : gv_X E Q (pc + 1, lv, .inr (.inr z) :: st, sh, h)) : gv_X E Q (pc, lv, .inl j :: .inr (.inr (some a)) :: st, sh, h) := by
  subst hv
  refine gv_step (b := true) hD hi (C := 0 ≤ j ∧ j < (m : Int)) ?_ hj kk
  show gz_ald 4 sh pc lv (.inl j :: .inr (.inr (some a)) :: st) h = _
  have h4 := ht.1
  simp [gz_ald, hs, hk.1, hk.2, ht.1, ht.2]
theorem gv_iast (hD : gv_D E) {a m : Nat} {j : Int} {x : Int} (hi : E.2.2.2.2.2.2 pc = some .iastore) (hs : sh[a]? = some (true, 1, m)) (hk : m < 2147483648 ∧ a < 1000000) (hj : 0 ≤ j ∧ j < (m : Int)) (kk : gv_X E Q (pc + 1, lv, st, sh, gz_up h a j.toNat (.inl x))) : gv_X E Q (pc, lv, .inl x :: .inl j :: .inr (.inr (some a)) :: st, sh, h) := by
  refine gv_step (b := true) hD hi (C := 0 ≤ j ∧ j < (m : Int)) ?_ hj kk
  show gz_ast 1 sh pc lv (.inl x :: .inl j :: .inr (.inr (some a)) :: st) h = _
  simp [gz_ast, hs, hk.1, hk.2]
theorem gv_last (hD : gv_D E) {a m : Nat} {j : Int} {x : Int64} (hi : E.2.2.2.2.2.2 pc = some .lastore) (hs : sh[a]? = some (true, 2, m)) (hk : m < 2147483648 ∧ a < 1000000) (hj : 0 ≤ j ∧ j < (m : Int)) (kk : gv_X E Q (pc + 1, lv, st, sh, gz_up h a j.toNat (.inr (.inl x)))) : gv_X E Q (pc, lv, .inr (.inl x) :: .inl j :: .inr (.inr (some a)) :: st, sh, h) := by
  refine gv_step (b := true) hD hi (C := 0 ≤ j ∧ j < (m : Int)) ?_ hj kk
  show gz_ast 2 sh pc lv (.inr (.inl x) :: .inl j :: .inr (.inr (some a)) :: st) h = _
  simp [gz_ast, hs, hk.1, hk.2]
theorem gv_bast (hD : gv_D E) {a m : Nat} {j x : Int} (hi : E.2.2.2.2.2.2 pc = some .bastore) (hs : sh[a]? = some (true, 0, m)) (hk : m < 2147483648 ∧ a < 1000000) (hj : 0 ≤ j ∧ j < (m : Int)) (kk : gv_X E Q (pc + 1, lv, st, sh, gz_up h a j.toNat (.inl (vp_nar .byte (Int32.ofInt x)).toInt))) : gv_X E Q (pc, lv, .inl x :: .inl j :: .inr (.inr (some a)) :: st, sh, h) := by
  refine gv_step (b := true) hD hi (C := 0 ≤ j ∧ j < (m : Int)) ?_ hj kk
  show gz_ast 0 sh pc lv (.inl x :: .inl j :: .inr (.inr (some a)) :: st) h = _
  simp [gz_ast, hs, hk.1, hk.2]
theorem gv_zast (hD : gv_D E) {a m : Nat} {j x : Int} (hi : E.2.2.2.2.2.2 pc = some .bastore) (hs : sh[a]? = some (true, 3, m)) (hk : m < 2147483648 ∧ a < 1000000) (hj : 0 ≤ j ∧ j < (m : Int)) (kk : gv_X E Q (pc + 1, lv, st, sh, gz_up h a j.toNat (.inl (vp_nar .boolean (Int32.ofInt x)).toInt))) : gv_X E Q (pc, lv, .inl x :: .inl j :: .inr (.inr (some a)) :: st, sh, h) := by
  refine gv_step (b := true) hD hi (C := 0 ≤ j ∧ j < (m : Int)) ?_ hj kk
  show gz_ast 0 sh pc lv (.inl x :: .inl j :: .inr (.inr (some a)) :: st) h = _
  simp [gz_ast, hs, hk.1, hk.2]
theorem gv_len (hD : gv_D E) {a m t0 : Nat} (hi : E.2.2.2.2.2.2 pc = some .arraylength) (hs : sh[a]? = some (true, t0, m)) (hk : t0 ≤ 7 ∧ a < 1000000) (kk : gv_X E Q (pc + 1, lv, .inl (m : Int) :: st, sh, h)) : gv_X E Q (pc, lv, .inr (.inr (some a)) :: st, sh, h) := by
  refine gv_step (b := true) hD hi (C := True) ?_ trivial kk
  show gz_len sh pc lv (.inr (.inr (some a)) :: st) h = _
  simp [gz_len, hs, hk.1, hk.2]
theorem gv_if_eq (hD : gv_D E) {off : Int} {t : Nat} {x : Int} (hi : E.2.2.2.2.2.2 pc = some (.ifCond .eq off)) (ht : gx_t pc off = some t) (hR : gz_R x) (kt : x = 0 → gv_X E Q (t, lv, st, sh, h)) (kf : ¬ x = 0 → gv_X E Q (pc + 3, lv, st, sh, h)) : gv_X E Q (pc, lv, .inl x :: st, sh, h) := by
  by_cases hc : x = 0
  · refine gv_step (b := true) hD hi (C := gz_R x ∧ x = 0) ?_ ⟨hR, hc⟩ (kt hc)
    show gz_b1 true _ _ _ _ _ _ = _
    simp only [gz_b1, ht]
    rfl
  · refine gv_step (b := false) hD hi (C := gz_R x ∧ ¬ (x = 0)) ?_ ⟨hR, hc⟩ (kf hc)
    show gz_b1 false _ _ _ _ _ _ = _
    simp only [gz_b1, ht]
    rfl
theorem gv_icmp_eq (hD : gv_D E) {off : Int} {t : Nat} {x y : Int} (hi : E.2.2.2.2.2.2 pc = some (.if_icmp .eq off)) (ht : gx_t pc off = some t) (hR : gz_R x ∧ gz_R y) (kt : x = y → gv_X E Q (t, lv, st, sh, h)) (kf : ¬ x = y → gv_X E Q (pc + 3, lv, st, sh, h)) : gv_X E Q (pc, lv, .inl y :: .inl x :: st, sh, h) := by
  by_cases hc : x = y
  · refine gv_step (b := true) hD hi (C := gz_R x ∧ gz_R y ∧ x = y) ?_ ⟨hR.1, hR.2, hc⟩ (kt hc)
    show gz_b2 true _ _ _ _ _ _ = _
    simp only [gz_b2, ht]
    rfl
  · refine gv_step (b := false) hD hi (C := gz_R x ∧ gz_R y ∧ ¬ (x = y)) ?_ ⟨hR.1, hR.2, hc⟩ (kf hc)
    show gz_b2 false _ _ _ _ _ _ = _
    simp only [gz_b2, ht]
    rfl
theorem gv_if_ne (hD : gv_D E) {off : Int} {t : Nat} {x : Int} (hi : E.2.2.2.2.2.2 pc = some (.ifCond .ne off)) (ht : gx_t pc off = some t) (hR : gz_R x) (kt : ¬ x = 0 → gv_X E Q (t, lv, st, sh, h)) (kf : x = 0 → gv_X E Q (pc + 3, lv, st, sh, h)) : gv_X E Q (pc, lv, .inl x :: st, sh, h) := by
  by_cases hc : ¬ x = 0
  · refine gv_step (b := true) hD hi (C := gz_R x ∧ ¬ x = 0) ?_ ⟨hR, hc⟩ (kt hc)
    show gz_b1 true _ _ _ _ _ _ = _
    simp only [gz_b1, ht]
    rfl
  · refine gv_step (b := false) hD hi (C := gz_R x ∧ ¬ (¬ x = 0)) ?_ ⟨hR, hc⟩ (kf (Classical.not_not.mp hc))
    show gz_b1 false _ _ _ _ _ _ = _
    simp only [gz_b1, ht]
    rfl
theorem gv_icmp_ne (hD : gv_D E) {off : Int} {t : Nat} {x y : Int} (hi : E.2.2.2.2.2.2 pc = some (.if_icmp .ne off)) (ht : gx_t pc off = some t) (hR : gz_R x ∧ gz_R y) (kt : ¬ x = y → gv_X E Q (t, lv, st, sh, h)) (kf : x = y → gv_X E Q (pc + 3, lv, st, sh, h)) : gv_X E Q (pc, lv, .inl y :: .inl x :: st, sh, h) := by
  by_cases hc : ¬ x = y
  · refine gv_step (b := true) hD hi (C := gz_R x ∧ gz_R y ∧ ¬ x = y) ?_ ⟨hR.1, hR.2, hc⟩ (kt hc)
    show gz_b2 true _ _ _ _ _ _ = _
    simp only [gz_b2, ht]
    rfl
  · refine gv_step (b := false) hD hi (C := gz_R x ∧ gz_R y ∧ ¬ (¬ x = y)) ?_ ⟨hR.1, hR.2, hc⟩ (kf (Classical.not_not.mp hc))
    show gz_b2 false _ _ _ _ _ _ = _
    simp only [gz_b2, ht]
    rfl
theorem gv_if_lt (hD : gv_D E) {off : Int} {t : Nat} {x : Int} (hi : E.2.2.2.2.2.2 pc = some (.ifCond .lt off)) (ht : gx_t pc off = some t) (hR : gz_R x) (kt : x < 0 → gv_X E Q (t, lv, st, sh, h)) (kf : ¬ x < 0 → gv_X E Q (pc + 3, lv, st, sh, h)) : gv_X E Q (pc, lv, .inl x :: st, sh, h) := by
  by_cases hc : x < 0
  · refine gv_step (b := true) hD hi (C := gz_R x ∧ x < 0) ?_ ⟨hR, hc⟩ (kt hc)
    show gz_b1 true _ _ _ _ _ _ = _
    simp only [gz_b1, ht]
    rfl
  · refine gv_step (b := false) hD hi (C := gz_R x ∧ ¬ (x < 0)) ?_ ⟨hR, hc⟩ (kf hc)
    show gz_b1 false _ _ _ _ _ _ = _
    simp only [gz_b1, ht]
    rfl
theorem gv_icmp_lt (hD : gv_D E) {off : Int} {t : Nat} {x y : Int} (hi : E.2.2.2.2.2.2 pc = some (.if_icmp .lt off)) (ht : gx_t pc off = some t) (hR : gz_R x ∧ gz_R y) (kt : x < y → gv_X E Q (t, lv, st, sh, h)) (kf : ¬ x < y → gv_X E Q (pc + 3, lv, st, sh, h)) : gv_X E Q (pc, lv, .inl y :: .inl x :: st, sh, h) := by
  by_cases hc : x < y
  · refine gv_step (b := true) hD hi (C := gz_R x ∧ gz_R y ∧ x < y) ?_ ⟨hR.1, hR.2, hc⟩ (kt hc)
    show gz_b2 true _ _ _ _ _ _ = _
    simp only [gz_b2, ht]
    rfl
  · refine gv_step (b := false) hD hi (C := gz_R x ∧ gz_R y ∧ ¬ (x < y)) ?_ ⟨hR.1, hR.2, hc⟩ (kf hc)
    show gz_b2 false _ _ _ _ _ _ = _
    simp only [gz_b2, ht]
    rfl
theorem gv_if_ge (hD : gv_D E) {off : Int} {t : Nat} {x : Int} (hi : E.2.2.2.2.2.2 pc = some (.ifCond .ge off)) (ht : gx_t pc off = some t) (hR : gz_R x) (kt : 0 ≤ x → gv_X E Q (t, lv, st, sh, h)) (kf : ¬ 0 ≤ x → gv_X E Q (pc + 3, lv, st, sh, h)) : gv_X E Q (pc, lv, .inl x :: st, sh, h) := by
  by_cases hc : 0 ≤ x
  · refine gv_step (b := true) hD hi (C := gz_R x ∧ 0 ≤ x) ?_ ⟨hR, hc⟩ (kt hc)
    show gz_b1 true _ _ _ _ _ _ = _
    simp only [gz_b1, ht]
    rfl
  · refine gv_step (b := false) hD hi (C := gz_R x ∧ ¬ (0 ≤ x)) ?_ ⟨hR, hc⟩ (kf hc)
    show gz_b1 false _ _ _ _ _ _ = _
    simp only [gz_b1, ht]
    rfl
theorem gv_icmp_ge (hD : gv_D E) {off : Int} {t : Nat} {x y : Int} (hi : E.2.2.2.2.2.2 pc = some (.if_icmp .ge off)) (ht : gx_t pc off = some t) (hR : gz_R x ∧ gz_R y) (kt : y ≤ x → gv_X E Q (t, lv, st, sh, h)) (kf : ¬ y ≤ x → gv_X E Q (pc + 3, lv, st, sh, h)) : gv_X E Q (pc, lv, .inl y :: .inl x :: st, sh, h) := by
  by_cases hc : y ≤ x
  · refine gv_step (b := true) hD hi (C := gz_R x ∧ gz_R y ∧ y ≤ x) ?_ ⟨hR.1, hR.2, hc⟩ (kt hc)
    show gz_b2 true _ _ _ _ _ _ = _
    simp only [gz_b2, ht]
    rfl
  · refine gv_step (b := false) hD hi (C := gz_R x ∧ gz_R y ∧ ¬ (y ≤ x)) ?_ ⟨hR.1, hR.2, hc⟩ (kf hc)
    show gz_b2 false _ _ _ _ _ _ = _
    simp only [gz_b2, ht]
    rfl
theorem gv_if_gt (hD : gv_D E) {off : Int} {t : Nat} {x : Int} (hi : E.2.2.2.2.2.2 pc = some (.ifCond .gt off)) (ht : gx_t pc off = some t) (hR : gz_R x) (kt : 0 < x → gv_X E Q (t, lv, st, sh, h)) (kf : ¬ 0 < x → gv_X E Q (pc + 3, lv, st, sh, h)) : gv_X E Q (pc, lv, .inl x :: st, sh, h) := by
  by_cases hc : 0 < x
  · refine gv_step (b := true) hD hi (C := gz_R x ∧ 0 < x) ?_ ⟨hR, hc⟩ (kt hc)
    show gz_b1 true _ _ _ _ _ _ = _
    simp only [gz_b1, ht]
    rfl
  · refine gv_step (b := false) hD hi (C := gz_R x ∧ ¬ (0 < x)) ?_ ⟨hR, hc⟩ (kf hc)
    show gz_b1 false _ _ _ _ _ _ = _
    simp only [gz_b1, ht]
    rfl
theorem gv_icmp_gt (hD : gv_D E) {off : Int} {t : Nat} {x y : Int} (hi : E.2.2.2.2.2.2 pc = some (.if_icmp .gt off)) (ht : gx_t pc off = some t) (hR : gz_R x ∧ gz_R y) (kt : y < x → gv_X E Q (t, lv, st, sh, h)) (kf : ¬ y < x → gv_X E Q (pc + 3, lv, st, sh, h)) : gv_X E Q (pc, lv, .inl y :: .inl x :: st, sh, h) := by
  by_cases hc : y < x
  · refine gv_step (b := true) hD hi (C := gz_R x ∧ gz_R y ∧ y < x) ?_ ⟨hR.1, hR.2, hc⟩ (kt hc)
    show gz_b2 true _ _ _ _ _ _ = _
    simp only [gz_b2, ht]
    rfl
  · refine gv_step (b := false) hD hi (C := gz_R x ∧ gz_R y ∧ ¬ (y < x)) ?_ ⟨hR.1, hR.2, hc⟩ (kf hc)
    show gz_b2 false _ _ _ _ _ _ = _
    simp only [gz_b2, ht]
    rfl
theorem gv_if_le (hD : gv_D E) {off : Int} {t : Nat} {x : Int} (hi : E.2.2.2.2.2.2 pc = some (.ifCond .le off)) (ht : gx_t pc off = some t) (hR : gz_R x) (kt : x ≤ 0 → gv_X E Q (t, lv, st, sh, h)) (kf : ¬ x ≤ 0 → gv_X E Q (pc + 3, lv, st, sh, h)) : gv_X E Q (pc, lv, .inl x :: st, sh, h) := by
  by_cases hc : x ≤ 0
  · refine gv_step (b := true) hD hi (C := gz_R x ∧ x ≤ 0) ?_ ⟨hR, hc⟩ (kt hc)
    show gz_b1 true _ _ _ _ _ _ = _
    simp only [gz_b1, ht]
    rfl
  · refine gv_step (b := false) hD hi (C := gz_R x ∧ ¬ (x ≤ 0)) ?_ ⟨hR, hc⟩ (kf hc)
    show gz_b1 false _ _ _ _ _ _ = _
    simp only [gz_b1, ht]
    rfl
theorem gv_icmp_le (hD : gv_D E) {off : Int} {t : Nat} {x y : Int} (hi : E.2.2.2.2.2.2 pc = some (.if_icmp .le off)) (ht : gx_t pc off = some t) (hR : gz_R x ∧ gz_R y) (kt : x ≤ y → gv_X E Q (t, lv, st, sh, h)) (kf : ¬ x ≤ y → gv_X E Q (pc + 3, lv, st, sh, h)) : gv_X E Q (pc, lv, .inl y :: .inl x :: st, sh, h) := by
  by_cases hc : x ≤ y
  · refine gv_step (b := true) hD hi (C := gz_R x ∧ gz_R y ∧ x ≤ y) ?_ ⟨hR.1, hR.2, hc⟩ (kt hc)
    show gz_b2 true _ _ _ _ _ _ = _
    simp only [gz_b2, ht]
    rfl
  · refine gv_step (b := false) hD hi (C := gz_R x ∧ gz_R y ∧ ¬ (x ≤ y)) ?_ ⟨hR.1, hR.2, hc⟩ (kf hc)
    show gz_b2 false _ _ _ _ _ _ = _
    simp only [gz_b2, ht]
    rfl
/-- calls: what the callee does is K's -/
theorem gv_callV (hD : gv_D E) {ix a ci n n9 : Nat} {M : gx_M} {As : List gz_V} {st0 : List gz_V} {T9 : u_T} {res : Option gz_V} (hi : E.2.2.2.2.2.2 pc = some (.invokevirtual ix)) (hst : st0 = As.reverse ++ .inr (.inr (some a)) :: st) (ha : a < 1000000) (hs : sh[a]? = some (false, ci, n)) (hc : vwCl[ci]? = some (M.1.cls, T9, n9)) (hl : gx_lV E.1 E.2.1 ix M As.length) (h8 : (st.map gz_c).sum ≤ 8) (hK : E.2.2.2.2.2.1 M (.inr (.inr (some a)) :: As) sh h res sh hₚ 0 0) (kk : gv_X E Q (pc + 3, lv, res.toList ++ st, sh, hₚ)) : gv_X E Q (pc, lv, st0, sh, h) := by
  obtain ⟨n, v, h1, h2⟩ := kk
  exact ⟨n + 1, v, ⟨(pc + 3, lv, res.toList ++ st, sh, hₚ), 0, 0, 0, 0, Or.inr (Or.inr (Or.inl ⟨ix, M, As, a, st, ci, _, T9, n9, res, hD pc _ hi, hst, ha, hs, hc, hl, h8, hK, Or.inl rfl, rfl, rfl, rfl⟩)), h1, rfl, rfl⟩, h2⟩
theorem gv_callS (hD : gv_D E) {ix : Nat} {M : gx_M} {As : List gz_V} {st0 : List gz_V} {res : Option gz_V} (hi : E.2.2.2.2.2.2 pc = some (.invokestatic ix)) (hst : st0 = As.reverse ++ st) (hl : gx_lS E.1 E.2.1 ix M As.length) (h8 : (st.map gz_c).sum ≤ 8) (hK : E.2.2.2.2.2.1 M As sh h res sh hₚ 0 0) (kk : gv_X E Q (pc + 3, lv, res.toList ++ st, sh, hₚ)) : gv_X E Q (pc, lv, st0, sh, h) := by
  obtain ⟨n, v, h1, h2⟩ := kk
  exact ⟨n + 1, v, ⟨(pc + 3, lv, res.toList ++ st, sh, hₚ), 0, 0, 0, 0, Or.inr (Or.inr (Or.inr (Or.inl ⟨ix, M, As, st, res, hD pc _ hi, hst, hl, h8, hK, Or.inl rfl, rfl, rfl, rfl⟩))), h1, rfl, rfl⟩, h2⟩
theorem gv_tabAt (hD : gv_D E) {dflt lo hi x off : Int} {offs : Array Int} {t : Nat} (v : Int) (hi' : E.2.2.2.2.2.2 pc = some (.tableswitch dflt lo hi offs)) (hR : gz_R x) (hv : x = v) (hin : lo ≤ v ∧ v ≤ hi) (ho : offs[(v - lo).toNat]? = some off) (ht : gx_t pc off = some t) (kk : gv_X E Q (t, lv, st, sh, h)) : gv_X E Q (pc, lv, .inl x :: st, sh, h) := by
  subst hv
  obtain ⟨n, v, h1, h2⟩ := kk
  exact ⟨n + 1, v, ⟨(t, lv, st, sh, h), 0, 0, 0, 0, Or.inr (Or.inr (Or.inr (Or.inr (Or.inl ⟨dflt, lo, hi, offs, x, t, hD pc _ hi', rfl, hR, Or.inr ⟨off, hin.1, hin.2, ho, ht⟩, rfl, rfl, rfl, rfl, rfl⟩)))), h1, rfl, rfl⟩, h2⟩
theorem gv_tabOut (hD : gv_D E) {dflt lo hi x : Int} {offs : Array Int} {t : Nat} (hi' : E.2.2.2.2.2.2 pc = some (.tableswitch dflt lo hi offs)) (hR : gz_R x) (hin : x < lo ∨ hi < x) (ht : gx_t pc dflt = some t) (kk : gv_X E Q (t, lv, st, sh, h)) : gv_X E Q (pc, lv, .inl x :: st, sh, h) := by
  obtain ⟨n, v, h1, h2⟩ := kk
  exact ⟨n + 1, v, ⟨(t, lv, st, sh, h), 0, 0, 0, 0, Or.inr (Or.inr (Or.inr (Or.inr (Or.inl ⟨dflt, lo, hi, offs, x, t, hD pc _ hi', rfl, hR, Or.inl ⟨hin, ht⟩, rfl, rfl, rfl, rfl, rfl⟩)))), h1, rfl, rfl⟩, h2⟩
theorem gv_vret (hD : gv_D E) {Po : Option gz_V → gz_H → Prop} (hi : E.2.2.2.2.2.2 pc = some .return_) (hp : Po none h) : gv_X E (gv_Q E.2.2.2.1 none sh Po) (pc, lv, [], sh, h) := gv_end ⟨none, Or.inl ⟨hD pc _ hi, rfl, rfl, rfl⟩, rfl, hp⟩
theorem gv_iret (hD : gv_D E) {Po : Option gz_V → gz_H → Prop} {x : Int} (hi : E.2.2.2.2.2.2 pc = some .ireturn) (hp : Po (some (.inl x)) h) : gv_X E (gv_Q E.2.2.2.1 (some .int) sh Po) (pc, lv, [.inl x], sh, h) := gv_end ⟨_, Or.inr (Or.inl ⟨x, .int, hD pc _ hi, rfl, Or.inl rfl, rfl, rfl⟩), rfl, hp⟩
theorem gv_zret (hD : gv_D E) {Po : Option gz_V → gz_H → Prop} {x : Int} (hi : E.2.2.2.2.2.2 pc = some .ireturn) (hz : x = 0 ∨ x = 1) (hp : Po (some (.inl x)) h) : gv_X E (gv_Q E.2.2.2.1 (some .boolean) sh Po) (pc, lv, [.inl x], sh, h) := gv_end ⟨_, Or.inr (Or.inl ⟨x, .boolean, hD pc _ hi, rfl, Or.inr ⟨rfl, hz⟩, rfl, rfl⟩), rfl, hp⟩
theorem gv_lret (hD : gv_D E) {Po : Option gz_V → gz_H → Prop} {x : Int64} (hi : E.2.2.2.2.2.2 pc = some .lreturn) (hp : Po (some (.inr (.inl x))) h) : gv_X E (gv_Q E.2.2.2.1 (some .long) sh Po) (pc, lv, [.inr (.inl x)], sh, h) := gv_end ⟨_, Or.inr (Or.inr (Or.inl ⟨x, hD pc _ hi, rfl, rfl, rfl⟩)), rfl, hp⟩
theorem gv_aret (hD : gv_D E) {Po : Option gz_V → gz_H → Prop} {x : Option Nat} {rt : FieldType} (hi : E.2.2.2.2.2.2 pc = some .areturn) (hrt : (∃ n, rt = .object n) ∨ ∃ t, rt = .array t) (hp : Po (some (.inr (.inr x))) h) : gv_X E (gv_Q E.2.2.2.1 (some rt) sh Po) (pc, lv, [.inr (.inr x)], sh, h) := gv_end ⟨_, Or.inr (Or.inr (Or.inr ⟨x, rt, hD pc _ hi, rfl, hrt, rfl, rfl⟩)), rfl, hp⟩
end GV
/-- a method's run out of its walk -/
theorem gv_ev {ws0 : List Cond} {tb : String → gz_T} {d : Nat} {M : gx_M} {av : List gz_V} {sh : gz_Sh} {h : gz_H} {code : Nat → Option Instr} {Po : Option gz_V → gz_H → Prop} (hn : (av.map gz_c).sum ≤ M.2.2.1) (hX : gv_X (ws0, M.1.cls, tb M.1.cls, M.2.1, M.2.2.1, gz_Ev ws0 tb d, code) (gv_Q M.2.1 M.2.2.2 sh Po) (0, gz_args 0 av, [], sh, h)) (hp : plainName M.1.cls = true := by decide) : ∃ r hₚ, gz_Ev ws0 tb (d + 1) M av sh h r sh hₚ 0 0 ∧ Po r hₚ := by
  obtain ⟨n, v, h1, r, h2, h3, h4⟩ := hX
  exact ⟨r, v.2.2.2.2, Or.inr (Or.inr ⟨hp, hn, n, v, h1, h2, h3, rfl⟩), h4⟩
theorem gz_do_mono {ws0 : List Cond} {own : String} {T : gz_T} {cc : ByteArray} {N : Nat} {K K' : gz_K} (hK : ∀ M av sh h r shₚ hₚ a s, K M av sh h r shₚ hₚ a s → K' M av sh h r shₚ hₚ a s) {u v : gz_S} {a s : Nat} (h : gz_do ws0 own T cc N K u v a s) : gz_do ws0 own T cc N K' u v a s := by
  rcases h with h | h | ⟨ix, M, As, b, r, ci, n, T9, n9, res, h1, h2, h3, h4, h5, h6, h7, h8, h9⟩ | ⟨ix, M, As, r, res, h1, h2, h3, h4, h5, h6⟩ | h | h | h | ⟨ix, c, r, res, h1, h2, h3, h4, h5, h6⟩ | h | ⟨ix, M, As, b, r, h1, h2, h3, h4, h5, h6⟩
  · exact Or.inl h
  · exact Or.inr (Or.inl h)
  · exact Or.inr (Or.inr (Or.inl ⟨ix, M, As, b, r, ci, n, T9, n9, res, h1, h2, h3, h4, h5, h6, h7, hK _ _ _ _ _ _ _ _ _ h8, h9⟩))
  · exact Or.inr (Or.inr (Or.inr (Or.inl ⟨ix, M, As, r, res, h1, h2, h3, h4, hK _ _ _ _ _ _ _ _ _ h5, h6⟩)))
  · exact Or.inr (Or.inr (Or.inr (Or.inr (Or.inl h))))
  · exact Or.inr (Or.inr (Or.inr (Or.inr (Or.inr (Or.inl h)))))
  · exact Or.inr (Or.inr (Or.inr (Or.inr (Or.inr (Or.inr (Or.inl h))))))
  · exact Or.inr (Or.inr (Or.inr (Or.inr (Or.inr (Or.inr (Or.inr (Or.inl ⟨ix, c, r, res, h1, h2, h3, h4, hK _ _ _ _ _ _ _ _ _ h5, h6⟩)))))))
  · exact Or.inr (Or.inr (Or.inr (Or.inr (Or.inr (Or.inr (Or.inr (Or.inr (Or.inl h))))))))
  · exact Or.inr (Or.inr (Or.inr (Or.inr (Or.inr (Or.inr (Or.inr (Or.inr (Or.inr ⟨ix, M, As, b, r, h1, h2, h3, h4, hK _ _ _ _ _ _ _ _ _ h5, h6⟩))))))))
theorem gz_to_mono {one one' : gz_S → gz_S → Nat → Nat → Prop} (h1 : ∀ u v a s, one u v a s → one' u v a s) : ∀ {n : Nat} {u v : gz_S} {a s : Nat}, gz_to one n u v a s → gz_to one' n u v a s
  | 0, _, _, _, _, h => h
  | _ + 1, _, _, _, _, ⟨w, a1, s1, a2, s2, h2, h3, h4⟩ => ⟨w, a1, s1, a2, s2, h1 _ _ _ _ h2, gz_to_mono h1 h3, h4⟩
theorem gz_Ev_mono1 {ws0 : List Cond} {tb : String → gz_T} : ∀ (d : Nat) (M : gx_M) (av : List gz_V) (sh : gz_Sh) (h : gz_H) (r : Option gz_V) (shₚ : gz_Sh) (hₚ : gz_H) (a s : Nat), gz_Ev ws0 tb d M av sh h r shₚ hₚ a s → gz_Ev ws0 tb (d + 1) M av sh h r shₚ hₚ a s
  | 0, _, _, _, _, _, _, _, _, _, h => h.elim
  | d + 1, _, _, _, _, _, _, _, _, _, Or.inl (Or.inl ⟨h1, h2, h3⟩) => Or.inl (Or.inl ⟨h1, Nat.le_succ_of_le h2, h3⟩)
  | d + 1, _, _, _, _, _, _, _, _, _, Or.inl (Or.inr ⟨h9, h0, h1, n, u, h2, h3⟩) => Or.inl (Or.inr ⟨h9, h0, h1, n, u, gz_to_mono (fun _ _ _ _ q => gz_do_mono (gz_Ev_mono1 d) q) h2, h3⟩)
  | d + 1, _, _, _, _, _, _, _, _, _, Or.inr (Or.inl h) => Or.inr (Or.inl h)
  | d + 1, _, _, _, _, _, _, _, _, _, Or.inr (Or.inr ⟨h0, h1, n, u, h2, h3⟩) => Or.inr (Or.inr ⟨h0, h1, n, u, gz_to_mono (fun _ _ _ _ q => gz_do_mono (gz_Ev_mono1 d) q) h2, h3⟩)
theorem gz_Ev_mono {ws0 : List Cond} {tb : String → gz_T} {d d' : Nat} (hd : d ≤ d') {M : gx_M} {av : List gz_V} {sh : gz_Sh} {h : gz_H} {r : Option gz_V} {shₚ : gz_Sh} {hₚ : gz_H} {a s : Nat} (hE : gz_Ev ws0 tb d M av sh h r shₚ hₚ a s) : gz_Ev ws0 tb d' M av sh h r shₚ hₚ a s := by
  induction hd with
  | refl => exact hE
  | step _ ih => exact gz_Ev_mono1 _ _ _ _ _ _ _ _ _ _ ih
/-- the text of signs, and where a char stands in it -/
theorem gv_sg {E : gv_E} {Q : gz_S → Prop} {pc : Nat} {lv : List (Nat × gz_V)} {st : List gz_V} {sh : gz_Sh} {h : gz_H} (hD : gv_D E) (hi : E.2.2.2.2.2.2 pc = some (.ldc_w 619)) (ho : E.2.1 = RX13) (kk : gv_X E Q (pc + 3, lv, gz_sg :: st, sh, h)) : gv_X E Q (pc, lv, st, sh, h) := by
  obtain ⟨n, v, h1, h2⟩ := kk
  exact ⟨n + 1, v, ⟨(pc + 3, lv, gz_sg :: st, sh, h), 0, 0, 0, 0, Or.inr (Or.inr (Or.inr (Or.inr (Or.inr (Or.inr (Or.inl ⟨hD pc _ hi, ho, rfl, rfl, rfl⟩)))))), h1, rfl, rfl⟩, h2⟩
theorem gv_ix {E : gv_E} {Q : gz_S → Prop} {pc ix : Nat} {c z : Int} {lv : List (Nat × gz_V)} {st : List gz_V} {sh : gz_Sh} {h : gz_H} (hD : gv_D E) (hi : E.2.2.2.2.2.2 pc = some (.invokevirtual ix)) (hl : gx_lV E.1 E.2.1 ix gz_Mx 1) (h8 : (st.map gz_c).sum ≤ 8) (hK : E.2.2.2.2.2.1 gz_Mx [gz_sg, .inl c] sh h (some (.inl z)) sh h 0 0) (kk : gv_X E Q (pc + 3, lv, .inl z :: st, sh, h)) : gv_X E Q (pc, lv, .inl c :: gz_sg :: st, sh, h) := by
  obtain ⟨n, v, h1, h2⟩ := kk
  exact ⟨n + 1, v, ⟨(pc + 3, lv, .inl z :: st, sh, h), 0, 0, 0, 0, Or.inr (Or.inr (Or.inr (Or.inr (Or.inr (Or.inr (Or.inr (Or.inl ⟨ix, c, st, some (.inl z), hD pc _ hi, rfl, hl, h8, hK, rfl, rfl, rfl, rfl⟩))))))), h1, rfl, rfl⟩, h2⟩
theorem gz_Ev_ix {ws0 : List Cond} {tb : String → gz_T} {d : Nat} (hd : 9 ≤ d) {sh : gz_Sh} {h : gz_H} {c : Int} (hc : gz_R c) : gz_Ev ws0 tb d gz_Mx [gz_sg, .inl c] sh h (some (.inl (gz_ixf c))) sh h 0 0 := by
  obtain ⟨k, rfl⟩ : ∃ k, d = k + 1 := ⟨d - 1, by omega⟩
  exact Or.inl (Or.inl ⟨rfl, by omega, rfl, rfl, rfl, rfl, c, hc, rfl, rfl⟩)
theorem gz_ixf_r (c : Int) : -1 ≤ gz_ixf c ∧ gz_ixf c ≤ 18 := by
  unfold gz_ixf
  split
  · rename_i k hk
    have h1 := (List.findIdx?_eq_some_iff_getElem.mp hk).1
    have h2 : gz_sl.length = 19 := rfl
    omega
  · omega

/-! RUNS THAT MAKE CELLS: how many cells and slots, is handed to Q. -/
def gv_Y (E : gv_E) (Q : gz_S → Nat → Nat → Prop) (u : gz_S) : Prop := ∃ (n : Nat) (v : gz_S) (a s : Nat), gz_to (gz_do E.1 E.2.1 E.2.2.1 E.2.2.2.1 E.2.2.2.2.1 E.2.2.2.2.2.1) n u v a s ∧ Q v a s
theorem gv_lift {E : gv_E} {Q : gz_S → Nat → Nat → Prop} {u u' : gz_S} (k : ∀ {Q' : gz_S → Prop}, gv_X E Q' u' → gv_X E Q' u) (hk : gv_Y E Q u') : gv_Y E Q u := by
  obtain ⟨n1, v1, h1, e1⟩ := k (Q' := fun v => v = u') ⟨0, u', ⟨rfl, rfl, rfl⟩, rfl⟩
  obtain ⟨n2, v2, a, s, h2, hq⟩ := hk
  subst e1
  have h3 := gz_to_trans h1 h2
  rw [Nat.zero_add, Nat.zero_add] at h3
  exact ⟨n1 + n2, v2, a, s, h3, hq⟩
theorem gv_Yone {E : gv_E} {Q : gz_S → Nat → Nat → Prop} {u u' : gz_S} {a s : Nat} (h : gz_do E.1 E.2.1 E.2.2.1 E.2.2.2.1 E.2.2.2.2.1 E.2.2.2.2.2.1 u u' a s) (hk : gv_Y E (fun v a' s' => Q v (a + a') (s + s')) u') : gv_Y E Q u := by
  obtain ⟨n, v, a', s', h2, hq⟩ := hk
  exact ⟨n + 1, v, a + a', s + s', ⟨u', a, s, a', s', h, h2, rfl, rfl⟩, hq⟩
theorem gv_Yend {E : gv_E} {Q : gz_S → Nat → Nat → Prop} {u : gz_S} (hq : Q u 0 0) : gv_Y E Q u := ⟨0, u, 0, 0, ⟨rfl, rfl, rfl⟩, hq⟩
