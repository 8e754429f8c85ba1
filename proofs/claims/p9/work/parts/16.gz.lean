/-! NUMBERS AND PLACES: ints as integers, references as places of the pool (texts behind a million), cells as a table; each step with its condition. -/
abbrev gz_V : Type := Int ⊕ Int64 ⊕ Option Nat
abbrev gz_H : Type := Nat → Nat → gz_V
abbrev gz_Sh : Type := List (Bool × Nat × Nat)
abbrev gz_T : Type := (Nat → Option (Nat × Nat × Nat)) × (Nat → Option gz_V)
abbrev gz_O : Type := Nat × List (Nat × gz_V) × List gz_V × gz_H × Prop
def gz_R (z : Int) : Prop := -2147483648 ≤ z ∧ z ≤ 2147483647
def gz_al (sa : Nat → Nat) (L : List Nat) (i : Nat) : Nat := if i < 1000000 then L.getD i 0 else sa (i - 1000000)
def gz_r (sa : Nat → Nat) (L : List Nat) : gz_V → Value
  | .inl z => .int (Int32.ofInt z)
  | .inr (.inl x) => .long x
  | .inr (.inr none) => .null
  | .inr (.inr (some i)) => .ref (gz_al sa L i)
def gz_q (sa : Nat → Nat) (L : List Nat) (q : Nat × gz_V) : Nat × Value := (q.1, gz_r sa L q.2)
def gz_I : gz_V → Int
  | .inl z => z
  | _ => 0
def gz_J : gz_V → Int64
  | .inr (.inl x) => x
  | _ => 0
def gz_A : gz_V → Option Nat
  | .inr (.inr o) => o
  | _ => none
def gz_arr (sa : Nat → Nat) (L : List Nat) (t : Nat) (c : Nat → gz_V) : (Nat → Int32) ⊕ (Nat → Int64) ⊕ (Nat → UInt32) ⊕ (Nat → UInt64) ⊕ (Nat → Option Nat) :=
  if t = 2 then .inr (.inl (fun j => gz_J (c j))) else if t ≤ 3 then .inl (fun j => Int32.ofInt (gz_I (c j))) else .inr (.inr (.inr (.inr (fun j => (gz_A (c j)).map (gz_al sa L)))))
def gz_cell (cy : Nat → ClassId) (sa : Nat → Nat) (L : List Nat) (x : Bool × Nat × Nat) (c : Nat → gz_V) : va_E := match x with
  | (false, ci, n) => .inr (ci, (List.range n).map (fun k => gz_r sa L (c k)))
  | (true, t, n) => .inl (cy t, n, gz_arr sa L t c)
def gz_f (cy : Nat → ClassId) (sa : Nat → Nat) (L : List Nat) (sh : gz_Sh) (h : gz_H) (a : Nat) : va_E := gz_cell cy sa L (sh.getD (L.idxOf a) (false, 0, 0)) (h (L.idxOf a))
def gz_up (h : gz_H) (i k : Nat) (v : gz_V) : gz_H := fun a j => if a = i then (if j = k then v else h a j) else h a j
def gz_look : List (Nat × gz_V) → Nat → Option gz_V
  | [], _ => none
  | q :: l, i => if q.1 = i then some q.2 else gz_look l i
theorem gz_look_ok (sa : Nat → Nat) (L : List Nat) {i : Nat} {v : gz_V} : ∀ {lv : List (Nat × gz_V)}, gz_look lv i = some v → gx_look (lv.map (gz_q sa L)) i = some (gz_r sa L v)
  | [], h => by cases h
  | q :: l, h => by
    unfold gz_look at h
    unfold gx_look
    show (if q.1 = i then _ else _) = _
    split at h
    · rename_i h0
      cases h
      rw [if_pos h0]
      rfl
    · rename_i h0
      rw [if_neg h0]
      exact gz_look_ok sa L h
def gz_two : gz_V → Bool
  | .inr (.inl _) => true
  | _ => false
theorem gz_cat (sa : Nat → Nat) (L : List Nat) (v : gz_V) : ((gz_r sa L v).category == 2) = gz_two v := by
  rcases v with z | x | o
  · rfl
  · rfl
  · cases o <;> rfl
def gz_s1 (lv : List (Nat × gz_V)) (i : Nat) (v : gz_V) : List (Nat × gz_V) := (i, v) :: lv.filter (fun q => !(q.1 == i) && !(q.1 + 1 == i && gz_two q.2))
def gz_s2 (lv : List (Nat × gz_V)) (i : Nat) (v : gz_V) : List (Nat × gz_V) := (i, v) :: lv.filter (fun q => !(q.1 == i) && (!(q.1 == i + 1) && !(q.1 + 1 == i && gz_two q.2)))
theorem gz_s1_ok (sa : Nat → Nat) (L : List Nat) (lv : List (Nat × gz_V)) (i : Nat) (v : gz_V) : (i, gz_r sa L v) :: (lv.map (gz_q sa L)).filter (fun q => !(q.1 == i) && !(q.1 + 1 == i && q.2.category == 2)) = (gz_s1 lv i v).map (gz_q sa L) := by
  unfold gz_s1
  rw [List.map_cons, List.filter_map]
  refine congrArg _ (congrArg _ (List.filter_congr (fun q _ => ?_)))
  show (!(q.1 == i) && !(q.1 + 1 == i && (gz_r sa L q.2).category == 2)) = _
  rw [gz_cat]
theorem gz_s2_ok (sa : Nat → Nat) (L : List Nat) (lv : List (Nat × gz_V)) (i : Nat) (v : gz_V) : (i, gz_r sa L v) :: (lv.map (gz_q sa L)).filter (fun q => !(q.1 == i) && (!(q.1 == i + 1) && !(q.1 + 1 == i && q.2.category == 2))) = (gz_s2 lv i v).map (gz_q sa L) := by
  unfold gz_s2
  rw [List.map_cons, List.filter_map]
  refine congrArg _ (congrArg _ (List.filter_congr (fun q _ => ?_)))
  show (!(q.1 == i) && (!(q.1 == i + 1) && !(q.1 + 1 == i && (gz_r sa L q.2).category == 2))) = _
  rw [gz_cat]
theorem gz_lt {a b : Int} (ha : gz_R a) (hb : gz_R b) : Int32.ofInt a < Int32.ofInt b ↔ a < b := Int32.ofInt_lt_iff_lt ha.1 ha.2 hb.1 hb.2
theorem gz_le {a b : Int} (ha : gz_R a) (hb : gz_R b) : Int32.ofInt a ≤ Int32.ofInt b ↔ a ≤ b := Int32.ofInt_le_iff_le ha.1 ha.2 hb.1 hb.2
theorem gz_toInt {a : Int} (ha : gz_R a) : (Int32.ofInt a).toInt = a := Int32.toInt_ofInt_of_le (by have := ha.1; omega) (by have := ha.2; omega)
theorem gz_eq {a b : Int} (ha : gz_R a) (hb : gz_R b) : Int32.ofInt a = Int32.ofInt b ↔ a = b := ⟨fun h => by rw [← gz_toInt ha, ← gz_toInt hb, h], fun h => by rw [h]⟩
theorem gz_R0 : gz_R 0 := ⟨by decide, by decide⟩
theorem gz_in {j : Int} {n : Nat} (h0 : 0 ≤ j) (h1 : j < (n : Int)) (hn : n < 2147483648) : vp_in (Int32.ofInt j) n ∧ (Int32.ofInt j).toNatClampNeg = j.toNat := by
  have hR : gz_R j := ⟨by omega, by omega⟩
  have ht : (Int32.ofInt j).toNatClampNeg = j.toNat := Int32.toNatClampNeg_ofInt_of_le (by omega) (by omega)
  refine ⟨?_, ht⟩
  rintro (h | h)
  · have := (gz_lt hR gz_R0).mp h
    omega
  · rw [ht] at h
    omega
theorem gz_back (w : Int32) : Int32.ofInt w.toInt = w := Int32.ofInt_toInt w
theorem gz_pos {L : List Nat} (hn : L.Nodup) {i : Nat} (hi : i < L.length) (hm : i < 1000000) (sa : Nat → Nat) : L.idxOf (gz_al sa L i) = i ∧ gz_al sa L i ∈ L := by
  have e : gz_al sa L i = L[i] := by
    unfold gz_al
    rw [if_pos hm, List.getD_eq_getElem?_getD, List.getElem?_eq_getElem hi]
    rfl
  rw [e]
  exact ⟨hn.idxOf_getElem i hi, List.getElem_mem hi⟩
theorem gz_at {cy : Nat → ClassId} {sa : Nat → Nat} {L : List Nat} {sh : gz_Sh} {h : gz_H} (hn : L.Nodup) (hl : L.length = sh.length) {i : Nat} {x : Bool × Nat × Nat} (hx : sh[i]? = some x) (hm : i < 1000000) : gz_al sa L i ∈ L ∧ gz_f cy sa L sh h (gz_al sa L i) = gz_cell cy sa L x (h i) := by
  have hi : i < L.length := by rw [hl]; exact (List.getElem?_eq_some_iff.mp hx).1
  obtain ⟨h1, h2⟩ := gz_pos hn hi hm sa
  refine ⟨h2, ?_⟩
  unfold gz_f
  rw [h1, List.getD_eq_getElem?_getD, hx]
  rfl
/-- a cell is written -/
theorem gz_set {cy : Nat → ClassId} {sa : Nat → Nat} {L : List Nat} {sh : gz_Sh} {h : gz_H} (hn : L.Nodup) (hl : L.length = sh.length) {i k : Nat} {v : gz_V} {x : Bool × Nat × Nat} (hx : sh[i]? = some x) (hm : i < 1000000) : gz_f cy sa L sh (gz_up h i k v) = va_up (gz_f cy sa L sh h) (gz_al sa L i) (gz_cell cy sa L x (gz_up h i k v i)) := by
  have hi : i < L.length := by rw [hl]; exact (List.getElem?_eq_some_iff.mp hx).1
  obtain ⟨h1, h2⟩ := gz_pos hn hi hm sa
  funext a
  by_cases ha : a = gz_al sa L i
  · subst ha
    rw [va_up_self]
    exact (gz_at hn hl hx hm).2
  · rw [va_up_ne _ _ ha]
    have hne : L.idxOf a ≠ i := fun q => by
      by_cases hm2 : a ∈ L
      · have := List.getElem_idxOf (List.idxOf_lt_length_of_mem hm2)
        apply ha
        have e : gz_al sa L i = L[i] := by
          unfold gz_al
          rw [if_pos hm, List.getD_eq_getElem?_getD, List.getElem?_eq_getElem hi]
          rfl
        rw [e, ← this]
        congr 1
      · have := List.idxOf_eq_length hm2
        omega
    unfold gz_f
    have e : gz_up h i k v (L.idxOf a) = h (L.idxOf a) := by
      funext j
      unfold gz_up
      rw [if_neg hne]
    rw [e]
def gz_ld (t d : Nat) (pc : Nat) (lv : List (Nat × gz_V)) (st : List gz_V) (h : gz_H) (i : Nat) : Option gz_O := match gz_look lv i with
  | some (.inl z) => if t = 0 then some (pc + d, lv, .inl z :: st, h, True) else none
  | some (.inr (.inl z)) => if t = 1 then some (pc + d, lv, .inr (.inl z) :: st, h, True) else none
  | some (.inr (.inr z)) => if t = 2 then some (pc + d, lv, .inr (.inr z) :: st, h, True) else none
  | none => none
def gz_st (t d N : Nat) (pc : Nat) (lv : List (Nat × gz_V)) (st : List gz_V) (h : gz_H) (i : Nat) : Option gz_O := match st with
  | .inl z :: r => if t = 0 ∧ i < N then some (pc + d, gz_s1 lv i (.inl z), r, h, True) else none
  | .inr (.inl z) :: r => if t = 1 ∧ i + 1 < N then some (pc + d, gz_s2 lv i (.inr (.inl z)), r, h, True) else none
  | .inr (.inr z) :: r => if t = 2 ∧ i < N then some (pc + d, gz_s1 lv i (.inr (.inr z)), r, h, True) else none
  | [] => none
def gz_inc (N : Nat) (pc : Nat) (lv : List (Nat × gz_V)) (st : List gz_V) (h : gz_H) (i : Nat) (n : Int) : Option gz_O := match gz_look lv i with
  | some (.inl z) => if i < N then some (pc + 3, gz_s1 lv i (.inl (z + n)), st, h, True) else none
  | _ => none
def gz_i1 (pc : Nat) (lv : List (Nat × gz_V)) (st : List gz_V) (h : gz_H) (g : Int → gz_V) : Option gz_O := match st with
  | .inl x :: r => some (pc + 1, lv, g x :: r, h, True)
  | _ => none
def gz_l1 (pc : Nat) (lv : List (Nat × gz_V)) (st : List gz_V) (h : gz_H) (g : Int64 → gz_V) : Option gz_O := match st with
  | .inr (.inl x) :: r => some (pc + 1, lv, g x :: r, h, True)
  | _ => none
def gz_i2 (pc : Nat) (lv : List (Nat × gz_V)) (st : List gz_V) (h : gz_H) (g : Int → Int → Int) : Option gz_O := match st with
  | .inl y :: .inl x :: r => some (pc + 1, lv, .inl (g x y) :: r, h, True)
  | _ => none
def gz_i2z (pc : Nat) (lv : List (Nat × gz_V)) (st : List gz_V) (h : gz_H) (g : Int → Int → Int) : Option gz_O := match st with
  | .inl y :: .inl x :: r => some (pc + 1, lv, .inl (g x y) :: r, h, gz_R y ∧ ¬ y = 0)
  | _ => none
def gz_l2 (pc : Nat) (lv : List (Nat × gz_V)) (st : List gz_V) (h : gz_H) (g : Int64 → Int64 → gz_V) : Option gz_O := match st with
  | .inr (.inl y) :: .inr (.inl x) :: r => some (pc + 1, lv, g x y :: r, h, True)
  | _ => none
def gz_l2z (pc : Nat) (lv : List (Nat × gz_V)) (st : List gz_V) (h : gz_H) (g : Int64 → Int64 → gz_V) : Option gz_O := match st with
  | .inr (.inl y) :: .inr (.inl x) :: r => some (pc + 1, lv, g x y :: r, h, ¬ y = 0)
  | _ => none
def gz_ls (pc : Nat) (lv : List (Nat × gz_V)) (st : List gz_V) (h : gz_H) (g : Int64 → Int32 → Int64) : Option gz_O := match st with
  | .inl y :: .inr (.inl x) :: r => some (pc + 1, lv, .inr (.inl (g x (Int32.ofInt y))) :: r, h, True)
  | _ => none
def gz_b1 (b : Bool) (pc : Nat) (lv : List (Nat × gz_V)) (st : List gz_V) (h : gz_H) (off : Int) (g : Int → Prop) : Option gz_O := match st, gx_t pc off with
  | .inl x :: r, some t => some (cond b t (pc + 3), lv, r, h, gz_R x ∧ cond b (g x) (¬ g x))
  | _, _ => none
def gz_b2 (b : Bool) (pc : Nat) (lv : List (Nat × gz_V)) (st : List gz_V) (h : gz_H) (off : Int) (g : Int → Int → Prop) : Option gz_O := match st, gx_t pc off with
  | .inl y :: .inl x :: r, some t => some (cond b t (pc + 3), lv, r, h, gz_R x ∧ gz_R y ∧ cond b (g x y) (¬ g x y))
  | _, _ => none
def gz_dup (pc : Nat) (lv : List (Nat × gz_V)) (st : List gz_V) (h : gz_H) : Option gz_O := match st with
  | a :: r => if gz_two a then none else some (pc + 1, lv, a :: a :: r, h, True)
  | _ => none
def gz_pop (pc : Nat) (lv : List (Nat × gz_V)) (st : List gz_V) (h : gz_H) : Option gz_O := match st with
  | a :: r => if gz_two a then none else some (pc + 1, lv, r, h, True)
  | _ => none
def gz_dx1 (pc : Nat) (lv : List (Nat × gz_V)) (st : List gz_V) (h : gz_H) : Option gz_O := match st with
  | a :: b :: r => if gz_two a || gz_two b then none else some (pc + 1, lv, a :: b :: a :: r, h, True)
  | _ => none
def gz_dx2 (pc : Nat) (lv : List (Nat × gz_V)) (st : List gz_V) (h : gz_H) : Option gz_O := match st with
  | a :: b :: c :: r => if gz_two a || gz_two b || gz_two c then none else some (pc + 1, lv, a :: b :: c :: a :: r, h, True)
  | _ => none
def gz_d2 (pc : Nat) (lv : List (Nat × gz_V)) (st : List gz_V) (h : gz_H) : Option gz_O := match st with
  | .inr (.inl x) :: r => some (pc + 1, lv, .inr (.inl x) :: .inr (.inl x) :: r, h, True)
  | a :: b :: r => if gz_two a || gz_two b then none else some (pc + 1, lv, a :: b :: a :: b :: r, h, True)
  | _ => none
def gz_nl (z : Bool) (pc : Nat) (lv : List (Nat × gz_V)) (st : List gz_V) (h : gz_H) (off : Int) : Option gz_O := match st, gx_t pc off with
  | .inr (.inr (some _)) :: r, some t => some (cond z (pc + 3) t, lv, r, h, True)
  | .inr (.inr none) :: r, some t => some (cond z t (pc + 3), lv, r, h, True)
  | _, _ => none
def gz_get (T : gz_T) (sh : gz_Sh) (pc : Nat) (lv : List (Nat × gz_V)) (st : List gz_V) (h : gz_H) (ix : Nat) : Option gz_O := match st, T.1 ix with
  | .inr (.inr (some i)) :: r, some (ci, k, _) => (match sh[i]? with
    | some (false, cj, n) => if ci = cj ∧ k < n ∧ i < 1000000 then some (pc + 3, lv, h i k :: r, h, True) else none
    | _ => none)
  | _, _ => none
def gz_fit (t : Nat) (v : gz_V) : Option Prop := match v with
  | .inl z => if t = 0 then some True else if t = 1 then some (z = 0 ∨ z = 1) else if t = 2 then some (-128 ≤ z ∧ z ≤ 127) else none
  | .inr (.inl _) => if t = 3 then some True else none
  | .inr (.inr _) => if t = 4 then some True else none
def gz_put (T : gz_T) (sh : gz_Sh) (pc : Nat) (lv : List (Nat × gz_V)) (st : List gz_V) (h : gz_H) (ix : Nat) : Option gz_O := match st, T.1 ix with
  | v :: .inr (.inr (some i)) :: r, some (ci, k, t) => (match sh[i]?, gz_fit t v with
    | some (false, cj, n), some C => if ci = cj ∧ k < n ∧ i < 1000000 then some (pc + 3, lv, r, gz_up h i k v, C) else none
    | _, _ => none)
  | _, _ => none
def gz_ald (t : Nat) (sh : gz_Sh) (pc : Nat) (lv : List (Nat × gz_V)) (st : List gz_V) (h : gz_H) : Option gz_O := match st with
  | .inl j :: .inr (.inr (some i)) :: r => (match sh[i]? with
    | some (true, t0, n) => if (t0 = t ∨ t = 0 ∧ t0 = 3 ∨ t = 4 ∧ 4 ≤ t0 ∧ t0 ≤ 7) ∧ n < 2147483648 ∧ i < 1000000 then some (pc + 1, lv, (if t = 2 then .inr (.inl (gz_J (h i j.toNat))) else if t = 4 then .inr (.inr (gz_A (h i j.toNat))) else .inl (gz_I (h i j.toNat))) :: r, h, 0 ≤ j ∧ j < (n : Int)) else none
    | _ => none)
  | _ => none
def gz_ast (t : Nat) (sh : gz_Sh) (pc : Nat) (lv : List (Nat × gz_V)) (st : List gz_V) (h : gz_H) : Option gz_O := match st with
  | .inl x :: .inl j :: .inr (.inr (some i)) :: r => (match sh[i]? with
    | some (true, t0, n) => if t0 = t ∧ t = 1 ∧ n < 2147483648 ∧ i < 1000000 then some (pc + 1, lv, r, gz_up h i j.toNat (.inl x), 0 ≤ j ∧ j < (n : Int)) else if t0 = 0 ∧ t = 0 ∧ n < 2147483648 ∧ i < 1000000 then some (pc + 1, lv, r, gz_up h i j.toNat (.inl (vp_nar .byte (Int32.ofInt x)).toInt), 0 ≤ j ∧ j < (n : Int)) else if t0 = 3 ∧ t = 0 ∧ n < 2147483648 ∧ i < 1000000 then some (pc + 1, lv, r, gz_up h i j.toNat (.inl (vp_nar .boolean (Int32.ofInt x)).toInt), 0 ≤ j ∧ j < (n : Int)) else none
    | _ => none)
  | .inr (.inl x) :: .inl j :: .inr (.inr (some i)) :: r => (match sh[i]? with
    | some (true, t0, n) => if t0 = 2 ∧ t = 2 ∧ n < 2147483648 ∧ i < 1000000 then some (pc + 1, lv, r, gz_up h i j.toNat (.inr (.inl x)), 0 ≤ j ∧ j < (n : Int)) else none
    | _ => none)
  | _ => none
def gz_len (sh : gz_Sh) (pc : Nat) (lv : List (Nat × gz_V)) (st : List gz_V) (h : gz_H) : Option gz_O := match st with
  | .inr (.inr (some i)) :: r => (match sh[i]? with
    | some (true, t0, n) => if t0 ≤ 7 ∧ i < 1000000 then some (pc + 1, lv, .inl (n : Int) :: r, h, True) else none
    | _ => none)
  | _ => none
def gz_ldc (T : gz_T) (d : Nat) (pc : Nat) (lv : List (Nat × gz_V)) (st : List gz_V) (h : gz_H) (ix : Nat) : Option gz_O := match T.2 ix with
  | some (.inl z) => some (pc + d, lv, .inl z :: st, h, True)
  | _ => none
def gz_ldl (T : gz_T) (pc : Nat) (lv : List (Nat × gz_V)) (st : List gz_V) (h : gz_H) (ix : Nat) : Option gz_O := match T.2 ix with
  | some (.inr (.inl z)) => some (pc + 3, lv, .inr (.inl z) :: st, h, True)
  | _ => none
def gz_ty (t : Nat) (ty : FieldType) : Prop := match t with
  | 0 => ty = .int
  | 1 => ty = .boolean
  | 2 => ty = .byte
  | 3 => ty = .long
  | _ => (∃ n, ty = .object n) ∨ ∃ x, ty = .array x
/-- a final field of the class itself -/
def gz_fF (ws0 : List Cond) (own : String) (ix ci k : Nat) (ty : FieldType) : Prop := ∃ (C : String) (T : u_T) (n : Nat) (ty0 : Nat → FieldType), vwCl[ci]? = some (C, T, n) ∧ k < n ∧ (∀ w ∈ u_ws C T n, w ∈ ws0) ∧ Cond.fieldLink own ix (T k).1 (T k).2.1 (T k).2.2.1 ∈ ws0 ∧ (∀ k, k < n → parseFieldDescriptor (T k).2.2.1 = some (ty0 k)) ∧ (∀ a, a < n → ∀ b, b < n → a ≠ b → (T a).2.1 ≠ (T b).2.1) ∧ (T k).2.2.2 = true ∧ (T k).1 = own ∧ ty0 k = ty
/-- the tables of a class are as the words have them -/
def gz_ok (ws0 : List Cond) (own : String) (T : gz_T) : Prop :=
  (∀ ix ci k t, T.1 ix = some (ci, k, t) → gx_fl ws0 own ix ci k ∧ (t ≤ 4 → ∃ ty, gx_fp ws0 own ix ci k ty ∧ gz_ty t ty) ∧ (10 ≤ t → ∃ ty, gz_fF ws0 own ix ci k ty ∧ gz_ty (t % 10) ty)) ∧
  (∀ ix z, T.2 ix = some (.inl z) → Cond.constant own ix (Int32.ofInt z) ∈ ws0) ∧ (∀ ix x, T.2 ix = some (.inr (.inl x)) → Cond.constantLong own ix x ∈ ws0)
/-- the tables of a class within a method that is a constructor (ini), or is none -/
def gz_okm (ini : Bool) (ws0 : List Cond) (own : String) (T : gz_T) : Prop :=
  (∀ ix ci k t, T.1 ix = some (ci, k, t) → gx_fl ws0 own ix ci k ∧ (t ≤ 4 → ∃ ty, (gx_fp ws0 own ix ci k ty ∨ ini = true ∧ gz_fF ws0 own ix ci k ty) ∧ gz_ty t ty)) ∧
  (∀ ix z, T.2 ix = some (.inl z) → Cond.constant own ix (Int32.ofInt z) ∈ ws0) ∧ (∀ ix x, T.2 ix = some (.inr (.inl x)) → Cond.constantLong own ix x ∈ ws0)
/-- a class's table as its constructors have it: final fields may be put -/
def gz_fi (T : gz_T) : gz_T := (fun ix => (T.1 ix).map (fun x => (x.1, x.2.1, x.2.2 % 10)), T.2)
theorem gz_ok_f {ws0 : List Cond} {own : String} {T : gz_T} (h : gz_ok ws0 own T) : gz_okm false ws0 own T := by
  refine ⟨fun ix ci k t e => ⟨(h.1 ix ci k t e).1, fun ht => ?_⟩, h.2⟩
  obtain ⟨ty, h1, h2⟩ := (h.1 ix ci k t e).2.1 ht
  exact ⟨ty, Or.inl h1, h2⟩
theorem gz_ok_i {ws0 : List Cond} {own : String} {T : gz_T} (h : gz_ok ws0 own T) : gz_okm true ws0 own (gz_fi T) := by
  refine ⟨fun ix ci k t e => ?_, h.2⟩
  have e : (T.1 ix).map (fun x => (x.1, x.2.1, x.2.2 % 10)) = some (ci, k, t) := e
  cases hT : T.1 ix with
  | none =>
    rw [hT] at e
    cases e
  | some x =>
    obtain ⟨ci1, k1, t1⟩ := x
    rw [hT] at e
    cases e
    refine ⟨(h.1 ix _ _ _ hT).1, fun ht => ?_⟩
    by_cases h1 : t1 < 10
    · rw [Nat.mod_eq_of_lt h1] at ht ⊢
      obtain ⟨ty, h2, h3⟩ := (h.1 ix _ _ _ hT).2.1 ht
      exact ⟨ty, Or.inl h2, h3⟩
    · obtain ⟨ty, h2, h3⟩ := (h.1 ix _ _ _ hT).2.2 (by omega)
      exact ⟨ty, Or.inr ⟨rfl, h2⟩, h3⟩
theorem gz_i8 {n : Int} (h : -128 ≤ n ∧ n ≤ 127) : (Int8.ofInt n).toInt32 = Int32.ofInt n := by
  rw [← Int32.toInt_inj, Int8.toInt_toInt32, Int8.toInt_ofInt_of_le (by omega) (by omega), gz_toInt ⟨by omega, by omega⟩]
theorem gz_i16 {n : Int} (h : -32768 ≤ n ∧ n ≤ 32767) : (Int16.ofInt n).toInt32 = Int32.ofInt n := by
  rw [← Int32.toInt_inj, Int16.toInt_toInt32, Int16.toInt_ofInt_of_le (by omega) (by omega), gz_toInt ⟨by omega, by omega⟩]
theorem gz_one (sa : Nat → Nat) (L : List Nat) {v : gz_V} (h : gz_two v = false) : (gz_r sa L v).category = 1 := by
  rcases v with z | x | o
  · rfl
  · cases h
  · cases o <;> rfl
theorem gz_nth (sa : Nat → Nat) (L : List Nat) (h : gz_H) {i k n : Nat} (hk : k < n) : ((List.range n).map (fun k => gz_r sa L (h i k)))[k]? = some (gz_r sa L (h i k)) := by
  rw [List.getElem?_map, List.getElem?_range hk]
  rfl
theorem gz_fit_t {t : Nat} {v : gz_V} {C : Prop} (h : gz_fit t v = some C) : t ≤ 4 := by
  unfold gz_fit at h
  split at h
  · split at h
    · omega
    · split at h
      · omega
      · split at h
        · omega
        · cases h
  · split at h
    · omega
    · cases h
  · split at h
    · omega
    · cases h
theorem gz_fit_ok (sa : Nat → Nat) (L : List Nat) {t : Nat} {v : gz_V} {C : Prop} {ty : FieldType} (h : gz_fit t v = some C) (hC : C) (ht : gz_ty t ty) : narrow ty (gz_r sa L v) = gz_r sa L v ∧ fits ty (gz_r sa L v) = true := by
  unfold gz_fit at h
  split at h
  · rename_i z
    split at h
    · subst t
      have ht : ty = .int := ht
      subst ht
      exact ⟨rfl, rfl⟩
    · split at h
      · subst t
        cases h
        have ht : ty = .boolean := ht
        subst ht
        rcases hC with rfl | rfl <;> exact ⟨by show narrow FieldType.boolean (Value.int (Int32.ofInt _)) = Value.int (Int32.ofInt _); decide, by show fits FieldType.boolean (Value.int (Int32.ofInt _)) = true; decide⟩
      · split at h
        · subst t
          cases h
          have ht : ty = .byte := ht
          subst ht
          have e : (Int32.ofInt z).toInt8.toInt32 = Int32.ofInt z := by
            rw [← Int32.toInt_inj, Int8.toInt_toInt32, Int32.toInt_toInt8, gz_toInt ⟨by omega, by omega⟩]
            exact Int.bmod_eq_of_le (by omega) (by omega)
          refine ⟨congrArg Value.int e, ?_⟩
          show (decide (-128 ≤ Int32.ofInt z) && decide (Int32.ofInt z ≤ 127)) = true
          rw [Bool.and_eq_true, decide_eq_true_eq, decide_eq_true_eq]
          exact ⟨(gz_le (a := -128) ⟨by decide, by decide⟩ ⟨by omega, by omega⟩).mpr hC.1, (gz_le (b := 127) ⟨by omega, by omega⟩ ⟨by decide, by decide⟩).mpr hC.2⟩
        · cases h
  · split at h
    · subst t
      have ht : ty = .long := ht
      subst ht
      exact ⟨rfl, rfl⟩
    · cases h
  · rename_i o
    split at h
    · subst t
      have ht : (∃ n, ty = .object n) ∨ ∃ x, ty = .array x := ht
      rcases ht with ⟨n, rfl⟩ | ⟨n, rfl⟩ <;> cases o <;> exact ⟨rfl, rfl⟩
    · cases h
theorem gz_cell_put {cy : Nat → ClassId} (sa : Nat → Nat) (L : List Nat) {h : gz_H} {i k ci n : Nat} {v : gz_V} (hk : k < n) : (Sum.inr (ci, ((List.range n).map (fun k => gz_r sa L (h i k))).set k (gz_r sa L v)) : va_E) = gz_cell cy sa L (false, ci, n) (gz_up h i k v i) := by
  show _ = (Sum.inr (ci, (List.range n).map (fun j => gz_r sa L (gz_up h i k v i j))) : va_E)
  congr 2
  refine List.ext_getElem? fun j => ?_
  rw [List.getElem?_map]
  by_cases hj : k = j
  · subst hj
    rw [List.getElem?_set_self (by rw [List.length_map, List.length_range]; exact hk), List.getElem?_range hk]
    simp [gz_up]
  · rw [List.getElem?_set_ne hj, List.getElem?_map]
    by_cases hn : j < n
    · rw [List.getElem?_range hn]
      simp [gz_up, Ne.symm hj]
    · rw [List.getElem?_eq_none (by rw [List.length_range]; omega)]
      rfl
theorem gz_cell_i {cy : Nat → ClassId} (sa : Nat → Nat) (L : List Nat) {h : gz_H} {i j t n : Nat} {x : Int} (ht : t ≠ 2) (h3 : t ≤ 3) : gz_cell cy sa L (true, t, n) (gz_up h i j (.inl x) i) = .inl (cy t, n, .inl (upd (fun q => Int32.ofInt (gz_I (h i q))) j (Int32.ofInt x))) := by
  show Sum.inl (cy t, n, gz_arr sa L t _) = _
  unfold gz_arr
  rw [if_neg ht, if_pos h3]
  congr 4
  funext q
  by_cases hq : q = j
  · subst hq
    simp [gz_up, upd, gz_I]
  · simp [gz_up, upd, hq]
theorem gz_cell_l {cy : Nat → ClassId} (sa : Nat → Nat) (L : List Nat) {h : gz_H} {i j n : Nat} {x : Int64} : gz_cell cy sa L (true, 2, n) (gz_up h i j (.inr (.inl x)) i) = .inl (cy 2, n, .inr (.inl (vp_updL (fun q => gz_J (h i q)) j x))) := by
  show Sum.inl (cy 2, n, gz_arr sa L 2 _) = _
  unfold gz_arr
  rw [if_pos rfl]
  congr 5
  funext q
  by_cases hq : q = j
  · subst hq
    simp [gz_up, vp_updL, gz_J]
  · simp [gz_up, vp_updL, hq]
theorem gz_tys (cy : Nat → ClassId) {t : Nat} (h : 4 ≤ t ∧ t ≤ 7) : ∃ ty, (pw_T cy)[t]? = some (cy t, ty) ∧ ty.isReference = true := by
  obtain rfl | rfl | rfl | rfl : t = 4 ∨ t = 5 ∨ t = 6 ∨ t = 7 := by omega
  · exact ⟨_, rfl, rfl⟩
  · exact ⟨_, rfl, rfl⟩
  · exact ⟨_, rfl, rfl⟩
  · exact ⟨_, rfl, rfl⟩
theorem gz_tya (cy : Nat → ClassId) {t : Nat} (h : t ≤ 7) : ∃ ty, (pw_T cy)[t]? = some (cy t, ty) := by
  obtain rfl | rfl | rfl | rfl | h : t = 0 ∨ t = 1 ∨ t = 2 ∨ t = 3 ∨ 4 ≤ t := by omega
  · exact ⟨_, rfl⟩
  · exact ⟨_, rfl⟩
  · exact ⟨_, rfl⟩
  · exact ⟨_, rfl⟩
  · obtain ⟨ty, h1, -⟩ := gz_tys cy (t := t) ⟨h, by omega⟩
    exact ⟨ty, h1⟩
/-- a step: b says which way a branch goes -/
def gz_step (T : gz_T) (sh : gz_Sh) (N : Nat) (b : Bool) (pc : Nat) (lv : List (Nat × gz_V)) (st : List gz_V) (h : gz_H) (i : Instr) : Option gz_O := match i with
  | .iconst n => some (pc + 1, lv, .inl n :: st, h, True)
  | .bipush n => if -128 ≤ n ∧ n ≤ 127 then some (pc + 2, lv, .inl n :: st, h, True) else none
  | .sipush n => if -32768 ≤ n ∧ n ≤ 32767 then some (pc + 3, lv, .inl n :: st, h, True) else none
  | .lconst n => some (pc + 1, lv, .inr (.inl (Int64.ofNat (n : Nat))) :: st, h, True)
  | .aconst_null => some (pc + 1, lv, .inr (.inr none) :: st, h, True)
  | .iload i => gz_ld 0 2 pc lv st h i
  | .istore i => gz_st 0 2 N pc lv st h i
  | .iload_n i => gz_ld 0 1 pc lv st h i
  | .istore_n i => gz_st 0 1 N pc lv st h i
  | .lload i => gz_ld 1 2 pc lv st h i
  | .lstore i => gz_st 1 2 N pc lv st h i
  | .lload_n i => gz_ld 1 1 pc lv st h i
  | .lstore_n i => gz_st 1 1 N pc lv st h i
  | .aload i => gz_ld 2 2 pc lv st h i
  | .astore i => gz_st 2 2 N pc lv st h i
  | .aload_n i => gz_ld 2 1 pc lv st h i
  | .astore_n i => gz_st 2 1 N pc lv st h i
  | .iinc i n => gz_inc N pc lv st h i n
  | .iadd => gz_i2 pc lv st h (fun x y => x + y)
  | .isub => gz_i2 pc lv st h (fun x y => x - y)
  | .imul => gz_i2 pc lv st h (fun x y => x * y)
  | .iand => gz_i2 pc lv st h (fun x y => (Int32.ofInt x &&& Int32.ofInt y).toInt)
  | .ior => gz_i2 pc lv st h (fun x y => (Int32.ofInt x ||| Int32.ofInt y).toInt)
  | .ixor => gz_i2 pc lv st h (fun x y => (Int32.ofInt x ^^^ Int32.ofInt y).toInt)
  | .ishl => gz_i2 pc lv st h (fun x y => (Int32.ofInt x <<< (Int32.ofInt y &&& 31)).toInt)
  | .ishr => gz_i2 pc lv st h (fun x y => (Int32.ofInt x >>> (Int32.ofInt y &&& 31)).toInt)
  | .iushr => gz_i2 pc lv st h (fun x y => ((Int32.ofInt x).toUInt32 >>> ((Int32.ofInt y).toUInt32 &&& Int32.toUInt32 31)).toInt32.toInt)
  | .idiv => gz_i2z pc lv st h (fun x y => (Int32.ofInt x / Int32.ofInt y).toInt)
  | .irem => gz_i2z pc lv st h (fun x y => (Int32.ofInt x - Int32.ofInt x / Int32.ofInt y * Int32.ofInt y).toInt)
  | .ineg => gz_i1 pc lv st h (fun x => .inl (-Int32.ofInt x).toInt)
  | .i2l => gz_i1 pc lv st h (fun x => .inr (.inl (Int32.ofInt x).toInt64))
  | .i2b => gz_i1 pc lv st h (fun x => .inl (Int32.ofInt x).toInt8.toInt32.toInt)
  | .i2c => gz_i1 pc lv st h (fun x => .inl ((Int32.ofInt x).toUInt32 % 65536).toInt32.toInt)
  | .l2i => gz_l1 pc lv st h (fun x => .inl x.toInt32.toInt)
  | .ladd => gz_l2 pc lv st h (fun x y => .inr (.inl (x + y)))
  | .lsub => gz_l2 pc lv st h (fun x y => .inr (.inl (x - y)))
  | .lmul => gz_l2 pc lv st h (fun x y => .inr (.inl (x * y)))
  | .land => gz_l2 pc lv st h (fun x y => .inr (.inl (x &&& y)))
  | .lor => gz_l2 pc lv st h (fun x y => .inr (.inl (x ||| y)))
  | .lxor => gz_l2 pc lv st h (fun x y => .inr (.inl (x ^^^ y)))
  | .lcmp => gz_l2 pc lv st h (fun x y => .inl (lg_cmp x y).toInt)
  | .ldiv => gz_l2z pc lv st h (fun x y => .inr (.inl (x / y)))
  | .lrem => gz_l2z pc lv st h (fun x y => .inr (.inl (x - x / y * y)))
  | .lshl => gz_ls pc lv st h (fun x y => x <<< (y.toInt64 &&& 63))
  | .lshr => gz_ls pc lv st h (fun x y => x >>> (y.toInt64 &&& 63))
  | .lushr => gz_ls pc lv st h (fun x y => (x.toUInt64 >>> (y.toInt64.toUInt64 &&& Int64.toUInt64 63)).toInt64)
  | .dup => gz_dup pc lv st h
  | .pop => gz_pop pc lv st h
  | .dup_x1 => gz_dx1 pc lv st h
  | .dup_x2 => gz_dx2 pc lv st h
  | .dup2 => gz_d2 pc lv st h
  | .ifCond .eq off => gz_b1 b pc lv st h off (fun x => x = 0)
  | .if_icmp .eq off => gz_b2 b pc lv st h off (fun x y => x = y)
  | .ifCond .ne off => gz_b1 b pc lv st h off (fun x => ¬ x = 0)
  | .if_icmp .ne off => gz_b2 b pc lv st h off (fun x y => ¬ x = y)
  | .ifCond .lt off => gz_b1 b pc lv st h off (fun x => x < 0)
  | .if_icmp .lt off => gz_b2 b pc lv st h off (fun x y => x < y)
  | .ifCond .ge off => gz_b1 b pc lv st h off (fun x => 0 ≤ x)
  | .if_icmp .ge off => gz_b2 b pc lv st h off (fun x y => y ≤ x)
  | .ifCond .gt off => gz_b1 b pc lv st h off (fun x => 0 < x)
  | .if_icmp .gt off => gz_b2 b pc lv st h off (fun x y => y < x)
  | .ifCond .le off => gz_b1 b pc lv st h off (fun x => x ≤ 0)
  | .if_icmp .le off => gz_b2 b pc lv st h off (fun x y => x ≤ y)
  | .goto off => (gx_t pc off).map (fun t => (t, lv, st, h, True))
  | .ifnull off => gz_nl true pc lv st h off
  | .ifnonnull off => gz_nl false pc lv st h off
  | .getfield ix => gz_get T sh pc lv st h ix
  | .putfield ix => gz_put T sh pc lv st h ix
  | .iaload => gz_ald 1 sh pc lv st h
  | .baload => gz_ald 0 sh pc lv st h
  | .laload => gz_ald 2 sh pc lv st h
  | .aaload => gz_ald 4 sh pc lv st h
  | .iastore => gz_ast 1 sh pc lv st h
  | .bastore => gz_ast 0 sh pc lv st h
  | .lastore => gz_ast 2 sh pc lv st h
  | .arraylength => gz_len sh pc lv st h
  | .ldc ix => gz_ldc T 2 pc lv st h ix
  | .ldc_w ix => gz_ldc T 3 pc lv st h ix
  | .ldc2_w ix => gz_ldl T pc lv st h ix
  | _ => none
section GZ
variable {p : Program} {l : Launch} {e : Env} {R : Room} {s : State} {m : MethodId} {args : Array Value} {below : List Frame} {meth : Method} {c : Code} {H : Heap} {locs : List Loc} {cells slots : Nat} {Q : State → Prop}
variable {cc : ByteArray} {pc pcₚ N : Nat} {ls : Array Slot} {lv lvₚ : List (Nat × gz_V)} {st stₚ : List gz_V} {i : Instr} {D : va_G} {cy : Nat → ClassId} {sa : Nat → Nat} {A : Nat → Prop} {L : List Nat} {sh : gz_Sh} {h hₚ : gz_H} {C : Prop} {ws0 : List Cond} {own : String} {T : gz_T} {b : Bool}
set_option maxHeartbeats 16000000 in
/-- and the machine does so -/
theorem gz_step_ok (hx : p.tables.exec = Jvm.exec) (hb : c.code = cc) (hts : ∀ w ∈ ws0, w.before args s = true) (hown : s.vm.findClass own = some m.cls) (hG : pw_G D cy s) {ini : Bool} (hT : gz_okm ini ws0 own T) (hni : ini = true → meth.name = "<init>") (hd : gx_dec cc pc i) (hL : L.length = sh.length) (hl : lv_has ls N (lv.map (gz_q sa L))) (hw : pw_W D A s.heap L (gz_f cy sa L sh h) H locs) (hs : gz_step T sh N b pc lv st h i = some (pcₚ, lvₚ, stₚ, hₚ, C)) (hC : C)
    (kk : ∀ (ls1 : Array Slot) (H1 : Heap) (locs1 : List Loc), lv_has ls1 N (lvₚ.map (gz_q sa L)) → pw_W D A s.heap L (gz_f cy sa L sh hₚ) H1 locs1 → W p l e R s m args below meth c H1 locs1 cells slots Q (F0 m pcₚ ls1 (stₚ.map (gz_r sa L)))) : W p l e R s m args below meth c H locs cells slots Q (F0 m pc ls (st.map (gz_r sa L))) := by
  unfold gz_step at hs
  split at hs
  · cases hs
    exact lv_iconst hx hb (gx_d hd rfl rfl) rfl (kk ls H locs hl hw)
  · split at hs
    · rename_i h1
      cases hs
      exact lv_bipush hx hb (gx_d hd rfl rfl) (gz_i8 h1) (kk ls H locs hl hw)
    · cases hs
  · split at hs
    · rename_i h1
      cases hs
      exact lv_sipush hx hb (gx_d hd rfl rfl) (gz_i16 h1) (kk ls H locs hl hw)
    · cases hs
  · cases hs
    exact lv_lconst hx hb (gx_d hd rfl rfl) rfl (kk ls H locs hl hw)
  · cases hs
    exact lv_null hx hb (gx_d hd rfl rfl) (kk ls H locs hl hw)
  · unfold gz_ld at hs
    split at hs
    · rename_i z h1
      split at hs
      · cases hs
        exact lv_iload hx hb (gx_d hd rfl rfl) (gx_look_ok hl (gz_look_ok sa L h1)) (kk ls H locs hl hw)
      · cases hs
    · split at hs
      · rename_i h1
        cases h1
      · cases hs
    · split at hs
      · rename_i h1
        cases h1
      · cases hs
    · cases hs
  · unfold gz_st at hs
    split at hs
    · split at hs
      · rename_i h1
        cases hs
        exact lv_istore hx hb (gx_d hd rfl rfl) hl h1.2 (gz_s1_ok sa L lv _ (.inl _)) (fun ls1 hl1 => kk ls1 H locs hl1 hw)
      · cases hs
    · split at hs
      · rename_i h1
        cases h1.1
      · cases hs
    · split at hs
      · rename_i h1
        cases h1.1
      · cases hs
    · cases hs
  · unfold gz_ld at hs
    split at hs
    · rename_i z h1
      split at hs
      · cases hs
        exact lv_iload_n hx hb (gx_d hd rfl rfl) rfl (gx_look_ok hl (gz_look_ok sa L h1)) (kk ls H locs hl hw)
      · cases hs
    · split at hs
      · rename_i h1
        cases h1
      · cases hs
    · split at hs
      · rename_i h1
        cases h1
      · cases hs
    · cases hs
  · unfold gz_st at hs
    split at hs
    · split at hs
      · rename_i h1
        cases hs
        exact lv_istore_n hx hb (gx_d hd rfl rfl) rfl hl h1.2 (gz_s1_ok sa L lv _ (.inl _)) (fun ls1 hl1 => kk ls1 H locs hl1 hw)
      · cases hs
    · split at hs
      · rename_i h1
        cases h1.1
      · cases hs
    · split at hs
      · rename_i h1
        cases h1.1
      · cases hs
    · cases hs
  · unfold gz_ld at hs
    split at hs
    · split at hs
      · rename_i h1
        cases h1
      · cases hs
    · rename_i z h1
      split at hs
      · cases hs
        exact lv_lload hx hb (gx_d hd rfl rfl) (gx_look_ok hl (gz_look_ok sa L h1)) (kk ls H locs hl hw)
      · cases hs
    · split at hs
      · rename_i h1
        cases h1
      · cases hs
    · cases hs
  · unfold gz_st at hs
    split at hs
    · split at hs
      · rename_i h1
        cases h1.1
      · cases hs
    · split at hs
      · rename_i h1
        cases hs
        exact lv_lstore hx hb (gx_d hd rfl rfl) hl h1.2 (gz_s2_ok sa L lv _ (.inr (.inl _))) (fun ls1 hl1 => kk ls1 H locs hl1 hw)
      · cases hs
    · split at hs
      · rename_i h1
        cases h1.1
      · cases hs
    · cases hs
  · unfold gz_ld at hs
    split at hs
    · split at hs
      · rename_i h1
        cases h1
      · cases hs
    · rename_i z h1
      split at hs
      · cases hs
        exact lv_lload_n hx hb (gx_d hd rfl rfl) rfl (gx_look_ok hl (gz_look_ok sa L h1)) (kk ls H locs hl hw)
      · cases hs
    · split at hs
      · rename_i h1
        cases h1
      · cases hs
    · cases hs
  · unfold gz_st at hs
    split at hs
    · split at hs
      · rename_i h1
        cases h1.1
      · cases hs
    · split at hs
      · rename_i h1
        cases hs
        exact lv_lstore_n hx hb (gx_d hd rfl rfl) rfl hl h1.2 (gz_s2_ok sa L lv _ (.inr (.inl _))) (fun ls1 hl1 => kk ls1 H locs hl1 hw)
      · cases hs
    · split at hs
      · rename_i h1
        cases h1.1
      · cases hs
    · cases hs
  · unfold gz_ld at hs
    split at hs
    · split at hs
      · rename_i h1
        cases h1
      · cases hs
    · split at hs
      · rename_i h1
        cases h1
      · cases hs
    · rename_i z h1
      split at hs
      · cases hs
        cases z with
        | none => exact lv_aloadN hx hb (gx_d hd rfl rfl) (gx_look_ok hl (gz_look_ok sa L h1)) (kk ls H locs hl hw)
        | some a => exact lv_aload hx hb (gx_d hd rfl rfl) (gx_look_ok hl (gz_look_ok sa L h1)) (kk ls H locs hl hw)
      · cases hs
    · cases hs
  · unfold gz_st at hs
    split at hs
    · split at hs
      · rename_i h1
        cases h1.1
      · cases hs
    · split at hs
      · rename_i h1
        cases h1.1
      · cases hs
    · rename_i z r
      split at hs
      · rename_i h1
        cases hs
        cases z with
        | none => exact lv_astoreN hx hb (gx_d hd rfl rfl) hl h1.2 (gz_s1_ok sa L lv _ (.inr (.inr none))) (fun ls1 hl1 => kk ls1 H locs hl1 hw)
        | some a => exact lv_astore hx hb (gx_d hd rfl rfl) hl h1.2 (gz_s1_ok sa L lv _ (.inr (.inr (some a)))) (fun ls1 hl1 => kk ls1 H locs hl1 hw)
      · cases hs
    · cases hs
  · unfold gz_ld at hs
    split at hs
    · split at hs
      · rename_i h1
        cases h1
      · cases hs
    · split at hs
      · rename_i h1
        cases h1
      · cases hs
    · rename_i z h1
      split at hs
      · cases hs
        cases z with
        | none => exact lv_aload_nN hx hb (gx_d hd rfl rfl) rfl (gx_look_ok hl (gz_look_ok sa L h1)) (kk ls H locs hl hw)
        | some a => exact lv_aload_n hx hb (gx_d hd rfl rfl) rfl (gx_look_ok hl (gz_look_ok sa L h1)) (kk ls H locs hl hw)
      · cases hs
    · cases hs
  · unfold gz_st at hs
    split at hs
    · split at hs
      · rename_i h1
        cases h1.1
      · cases hs
    · split at hs
      · rename_i h1
        cases h1.1
      · cases hs
    · rename_i z r
      split at hs
      · rename_i h1
        cases hs
        cases z with
        | none => exact lv_astore_nN hx hb (gx_d hd rfl rfl) rfl hl h1.2 (gz_s1_ok sa L lv _ (.inr (.inr none))) (fun ls1 hl1 => kk ls1 H locs hl1 hw)
        | some a => exact lv_astore_n hx hb (gx_d hd rfl rfl) rfl hl h1.2 (gz_s1_ok sa L lv _ (.inr (.inr (some a)))) (fun ls1 hl1 => kk ls1 H locs hl1 hw)
      · cases hs
    · cases hs
  · unfold gz_inc at hs
    split at hs
    · rename_i z h1
      split at hs
      · rename_i h2
        cases hs
        obtain ⟨j, h4⟩ := gx_look_at (gz_look_ok sa L h1)
        exact lv_iinc hx hb (gx_d hd rfl rfl) hl h4 (Int32.ofInt_add _ _).symm h2 (gz_s1_ok sa L lv _ (.inl _)) (fun ls1 hl1 => kk ls1 H locs hl1 hw)
      · cases hs
    · cases hs
  · unfold gz_i2 at hs
    split at hs
    · cases hs
      have h9 := (kk ls H locs hl hw)
      refine lv_iadd hx hb (gx_d hd rfl rfl) ?_
      rw [← Int32.ofInt_add]
      exact h9
    · cases hs
  · unfold gz_i2 at hs
    split at hs
    · cases hs
      have h9 := (kk ls H locs hl hw)
      refine lv_isub hx hb (gx_d hd rfl rfl) ?_
      rw [← Int32.ofInt_sub]
      exact h9
    · cases hs
  · unfold gz_i2 at hs
    split at hs
    · cases hs
      have h9 := (kk ls H locs hl hw)
      refine lv_imul hx hb (gx_d hd rfl rfl) ?_
      rw [← Int32.ofInt_mul]
      exact h9
    · cases hs
  · unfold gz_i2 at hs
    split at hs
    · cases hs
      exact lv_iand hx hb (gx_d hd rfl rfl) (pq_topi (gz_back _).symm (kk ls H locs hl hw))
    · cases hs
  · unfold gz_i2 at hs
    split at hs
    · cases hs
      exact lv_ior hx hb (gx_d hd rfl rfl) (pq_topi (gz_back _).symm (kk ls H locs hl hw))
    · cases hs
  · unfold gz_i2 at hs
    split at hs
    · cases hs
      exact lv_ixor hx hb (gx_d hd rfl rfl) (pq_topi (gz_back _).symm (kk ls H locs hl hw))
    · cases hs
  · unfold gz_i2 at hs
    split at hs
    · cases hs
      exact lv_ishl hx hb (gx_d hd rfl rfl) (pq_topi (gz_back _).symm (kk ls H locs hl hw))
    · cases hs
  · unfold gz_i2 at hs
    split at hs
    · cases hs
      exact lv_ishr hx hb (gx_d hd rfl rfl) (pq_topi (gz_back _).symm (kk ls H locs hl hw))
    · cases hs
  · unfold gz_i2 at hs
    split at hs
    · cases hs
      exact lv_iushr hx hb (gx_d hd rfl rfl) (gz_back _).symm (kk ls H locs hl hw)
    · cases hs
  · unfold gz_i2z at hs
    split at hs
    · cases hs
      exact lv_idiv hx hb (gx_d hd rfl rfl) (fun q => hC.2 ((gz_eq hC.1 gz_R0).mp q)) (pq_topi (gz_back _).symm (kk ls H locs hl hw))
    · cases hs
  · unfold gz_i2z at hs
    split at hs
    · cases hs
      exact lv_irem hx hb (gx_d hd rfl rfl) (fun q => hC.2 ((gz_eq hC.1 gz_R0).mp q)) (pq_topi (gz_back _).symm (kk ls H locs hl hw))
    · cases hs
  · unfold gz_i1 at hs
    split at hs
    · cases hs
      exact lv_ineg hx hb (gx_d hd rfl rfl) (pq_topi (gz_back _).symm (kk ls H locs hl hw))
    · cases hs
  · unfold gz_i1 at hs
    split at hs
    · cases hs
      exact lv_i2l hx hb (gx_d hd rfl rfl) rfl (kk ls H locs hl hw)
    · cases hs
  · unfold gz_i1 at hs
    split at hs
    · cases hs
      exact lv_i2b hx hb (gx_d hd rfl rfl) (gz_back _).symm (kk ls H locs hl hw)
    · cases hs
  · unfold gz_i1 at hs
    split at hs
    · cases hs
      exact lv_i2c hx hb (gx_d hd rfl rfl) (gz_back _).symm (kk ls H locs hl hw)
    · cases hs
  · unfold gz_l1 at hs
    split at hs
    · cases hs
      exact lv_l2i hx hb (gx_d hd rfl rfl) (gz_back _).symm (kk ls H locs hl hw)
    · cases hs
  · unfold gz_l2 at hs
    split at hs
    · cases hs
      exact lv_ladd hx hb (gx_d hd rfl rfl) (kk ls H locs hl hw)
    · cases hs
  · unfold gz_l2 at hs
    split at hs
    · cases hs
      exact lv_lsub hx hb (gx_d hd rfl rfl) (kk ls H locs hl hw)
    · cases hs
  · unfold gz_l2 at hs
    split at hs
    · cases hs
      exact lv_lmul hx hb (gx_d hd rfl rfl) (kk ls H locs hl hw)
    · cases hs
  · unfold gz_l2 at hs
    split at hs
    · cases hs
      exact lv_land hx hb (gx_d hd rfl rfl) (kk ls H locs hl hw)
    · cases hs
  · unfold gz_l2 at hs
    split at hs
    · cases hs
      exact lv_lor hx hb (gx_d hd rfl rfl) (kk ls H locs hl hw)
    · cases hs
  · unfold gz_l2 at hs
    split at hs
    · cases hs
      exact lv_lxor hx hb (gx_d hd rfl rfl) (kk ls H locs hl hw)
    · cases hs
  · unfold gz_l2 at hs
    split at hs
    · cases hs
      refine W.lcmp hx hb (gx_d hd rfl rfl) ?_
      rw [← gz_back (lg_cmp _ _)]
      exact (kk ls H locs hl hw)
    · cases hs
  · unfold gz_l2z at hs
    split at hs
    · cases hs
      exact lv_ldiv hx hb (gx_d hd rfl rfl) hC (kk ls H locs hl hw)
    · cases hs
  · unfold gz_l2z at hs
    split at hs
    · cases hs
      exact lv_lrem hx hb (gx_d hd rfl rfl) hC (kk ls H locs hl hw)
    · cases hs
  · unfold gz_ls at hs
    split at hs
    · cases hs
      exact lv_lshl hx hb (gx_d hd rfl rfl) rfl (kk ls H locs hl hw)
    · cases hs
  · unfold gz_ls at hs
    split at hs
    · cases hs
      exact lv_lshr hx hb (gx_d hd rfl rfl) rfl (kk ls H locs hl hw)
    · cases hs
  · unfold gz_ls at hs
    split at hs
    · cases hs
      exact lv_lushr hx hb (gx_d hd rfl rfl) rfl (kk ls H locs hl hw)
    · cases hs
  · unfold gz_dup at hs
    split at hs
    · split at hs
      · cases hs
      · rename_i h1
        cases hs
        exact lv_dup hx hb (gx_d hd rfl rfl) (gz_one sa L (by simpa using h1)) (kk ls H locs hl hw)
    · cases hs
  · unfold gz_pop at hs
    split at hs
    · split at hs
      · cases hs
      · rename_i h1
        cases hs
        exact lv_pop hx hb (gx_d hd rfl rfl) (gz_one sa L (by simpa using h1)) (kk ls H locs hl hw)
    · cases hs
  · unfold gz_dx1 at hs
    split at hs
    · split at hs
      · cases hs
      · rename_i h1
        cases hs
        simp only [Bool.or_eq_true, not_or, Bool.not_eq_true] at h1
        exact lv_dup_x1 hx hb (gx_d hd rfl rfl) (gz_one sa L h1.1) (gz_one sa L h1.2) (kk ls H locs hl hw)
    · cases hs
  · unfold gz_dx2 at hs
    split at hs
    · split at hs
      · cases hs
      · rename_i h1
        cases hs
        simp only [Bool.or_eq_true, not_or, Bool.not_eq_true] at h1
        exact lv_dup_x2 hx hb (gx_d hd rfl rfl) (gz_one sa L h1.1.1) (gz_one sa L h1.1.2) (gz_one sa L h1.2) (kk ls H locs hl hw)
    · cases hs
  · unfold gz_d2 at hs
    split at hs
    · cases hs
      exact lv_dup2_2 hx hb (gx_d hd rfl rfl) rfl (kk ls H locs hl hw)
    · split at hs
      · cases hs
      · rename_i h1
        cases hs
        simp only [Bool.or_eq_true, not_or, Bool.not_eq_true] at h1
        exact lv_dup2_11 hx hb (gx_d hd rfl rfl) (gz_one sa L h1.1) (gz_one sa L h1.2) (kk ls H locs hl hw)
    · cases hs
  · unfold gz_b1 at hs
    split at hs
    · rename_i t ht
      cases hs
      cases b with
      | true => exact lv_if_eq hx hb (gx_d hd rfl rfl) (gx_t_ok ht) (fun _ => (kk ls H locs hl hw)) (fun q => (q ((gz_eq hC.1 gz_R0).mpr hC.2)).elim)
      | false => exact lv_if_eq hx hb (gx_d hd rfl rfl) (gx_t_ok ht) (fun q => (hC.2 ((gz_eq hC.1 gz_R0).mp q)).elim) (fun _ => (kk ls H locs hl hw))
    · cases hs
  · unfold gz_b2 at hs
    split at hs
    · rename_i t ht
      cases hs
      cases b with
      | true => exact lv_icmp_eq hx hb (gx_d hd rfl rfl) (gx_t_ok ht) (fun _ => (kk ls H locs hl hw)) (fun q => (q ((gz_eq hC.1 hC.2.1).mpr hC.2.2)).elim)
      | false => exact lv_icmp_eq hx hb (gx_d hd rfl rfl) (gx_t_ok ht) (fun q => (hC.2.2 ((gz_eq hC.1 hC.2.1).mp q)).elim) (fun _ => (kk ls H locs hl hw))
    · cases hs
  · unfold gz_b1 at hs
    split at hs
    · rename_i t ht
      cases hs
      cases b with
      | true => exact lv_if_ne hx hb (gx_d hd rfl rfl) (gx_t_ok ht) (fun _ => (kk ls H locs hl hw)) (fun q => (hC.2 ((gz_eq hC.1 gz_R0).mp q)).elim)
      | false => exact lv_if_ne hx hb (gx_d hd rfl rfl) (gx_t_ok ht) (fun q => (hC.2 (fun z => q ((gz_eq hC.1 gz_R0).mpr z))).elim) (fun _ => (kk ls H locs hl hw))
    · cases hs
  · unfold gz_b2 at hs
    split at hs
    · rename_i t ht
      cases hs
      cases b with
      | true => exact lv_icmp_ne hx hb (gx_d hd rfl rfl) (gx_t_ok ht) (fun _ => (kk ls H locs hl hw)) (fun q => (hC.2.2 ((gz_eq hC.1 hC.2.1).mp q)).elim)
      | false => exact lv_icmp_ne hx hb (gx_d hd rfl rfl) (gx_t_ok ht) (fun q => (hC.2.2 (fun z => q ((gz_eq hC.1 hC.2.1).mpr z))).elim) (fun _ => (kk ls H locs hl hw))
    · cases hs
  · unfold gz_b1 at hs
    split at hs
    · rename_i t ht
      cases hs
      cases b with
      | true => exact lv_if_lt hx hb (gx_d hd rfl rfl) (gx_t_ok ht) (fun _ => (kk ls H locs hl hw)) (fun q => (q ((gz_lt hC.1 gz_R0).mpr hC.2)).elim)
      | false => exact lv_if_lt hx hb (gx_d hd rfl rfl) (gx_t_ok ht) (fun q => (hC.2 ((gz_lt hC.1 gz_R0).mp q)).elim) (fun _ => (kk ls H locs hl hw))
    · cases hs
  · unfold gz_b2 at hs
    split at hs
    · rename_i t ht
      cases hs
      cases b with
      | true => exact lv_icmp_lt hx hb (gx_d hd rfl rfl) (gx_t_ok ht) (fun _ => (kk ls H locs hl hw)) (fun q => (q ((gz_lt hC.1 hC.2.1).mpr hC.2.2)).elim)
      | false => exact lv_icmp_lt hx hb (gx_d hd rfl rfl) (gx_t_ok ht) (fun q => (hC.2.2 ((gz_lt hC.1 hC.2.1).mp q)).elim) (fun _ => (kk ls H locs hl hw))
    · cases hs
  · unfold gz_b1 at hs
    split at hs
    · rename_i t ht
      cases hs
      cases b with
      | true => exact lv_if_ge hx hb (gx_d hd rfl rfl) (gx_t_ok ht) (fun _ => (kk ls H locs hl hw)) (fun q => (q ((gz_le gz_R0 hC.1).mpr hC.2)).elim)
      | false => exact lv_if_ge hx hb (gx_d hd rfl rfl) (gx_t_ok ht) (fun q => (hC.2 ((gz_le gz_R0 hC.1).mp q)).elim) (fun _ => (kk ls H locs hl hw))
    · cases hs
  · unfold gz_b2 at hs
    split at hs
    · rename_i t ht
      cases hs
      cases b with
      | true => exact lv_icmp_ge hx hb (gx_d hd rfl rfl) (gx_t_ok ht) (fun _ => (kk ls H locs hl hw)) (fun q => (q ((gz_le hC.2.1 hC.1).mpr hC.2.2)).elim)
      | false => exact lv_icmp_ge hx hb (gx_d hd rfl rfl) (gx_t_ok ht) (fun q => (hC.2.2 ((gz_le hC.2.1 hC.1).mp q)).elim) (fun _ => (kk ls H locs hl hw))
    · cases hs
  · unfold gz_b1 at hs
    split at hs
    · rename_i t ht
      cases hs
      cases b with
      | true => exact lv_if_gt hx hb (gx_d hd rfl rfl) (gx_t_ok ht) (fun _ => (kk ls H locs hl hw)) (fun q => (q ((gz_lt gz_R0 hC.1).mpr hC.2)).elim)
      | false => exact lv_if_gt hx hb (gx_d hd rfl rfl) (gx_t_ok ht) (fun q => (hC.2 ((gz_lt gz_R0 hC.1).mp q)).elim) (fun _ => (kk ls H locs hl hw))
    · cases hs
  · unfold gz_b2 at hs
    split at hs
    · rename_i t ht
      cases hs
      cases b with
      | true => exact lv_icmp_gt hx hb (gx_d hd rfl rfl) (gx_t_ok ht) (fun _ => (kk ls H locs hl hw)) (fun q => (q ((gz_lt hC.2.1 hC.1).mpr hC.2.2)).elim)
      | false => exact lv_icmp_gt hx hb (gx_d hd rfl rfl) (gx_t_ok ht) (fun q => (hC.2.2 ((gz_lt hC.2.1 hC.1).mp q)).elim) (fun _ => (kk ls H locs hl hw))
    · cases hs
  · unfold gz_b1 at hs
    split at hs
    · rename_i t ht
      cases hs
      cases b with
      | true => exact lv_if_le hx hb (gx_d hd rfl rfl) (gx_t_ok ht) (fun _ => (kk ls H locs hl hw)) (fun q => (q ((gz_le hC.1 gz_R0).mpr hC.2)).elim)
      | false => exact lv_if_le hx hb (gx_d hd rfl rfl) (gx_t_ok ht) (fun q => (hC.2 ((gz_le hC.1 gz_R0).mp q)).elim) (fun _ => (kk ls H locs hl hw))
    · cases hs
  · unfold gz_b2 at hs
    split at hs
    · rename_i t ht
      cases hs
      cases b with
      | true => exact lv_icmp_le hx hb (gx_d hd rfl rfl) (gx_t_ok ht) (fun _ => (kk ls H locs hl hw)) (fun q => (q ((gz_le hC.1 hC.2.1).mpr hC.2.2)).elim)
      | false => exact lv_icmp_le hx hb (gx_d hd rfl rfl) (gx_t_ok ht) (fun q => (hC.2.2 ((gz_le hC.1 hC.2.1).mp q)).elim) (fun _ => (kk ls H locs hl hw))
    · cases hs
  · obtain ⟨t, ht, h2⟩ := Option.map_eq_some_iff.mp hs
    cases h2
    exact lv_goto hx hb (gx_d hd rfl rfl) (gx_t_ok ht) (kk ls H locs hl hw)
  · unfold gz_nl at hs
    split at hs
    · cases hs
      exact lv_ifnull hx hb (gx_d hd rfl rfl) (kk ls H locs hl hw)
    · rename_i t ht
      cases hs
      exact lv_ifnullN hx hb (gx_d hd rfl rfl) (gx_t_ok ht) (kk ls H locs hl hw)
    · cases hs
  · unfold gz_nl at hs
    split at hs
    · rename_i t ht
      cases hs
      exact lv_ifnonnull hx hb (gx_d hd rfl rfl) (gx_t_ok ht) (kk ls H locs hl hw)
    · cases hs
      exact lv_ifnonnullN hx hb (gx_d hd rfl rfl) (kk ls H locs hl hw)
    · cases hs
  · unfold gz_get at hs
    split at hs
    · rename_i i r ci k t hT1
      split at hs
      · rename_i cj n hsh
        split at hs
        · rename_i h1
          obtain ⟨rfl, hk, hm⟩ := h1
          cases hs
          obtain ⟨ha, he⟩ := gz_at (cy := cy) (sa := sa) (h := h) (pw_nd hw) hL hsh hm
          obtain ⟨C, T9, n9, hc, hk9, hin, hlink⟩ := (hT.1 _ _ _ _ hT1).1
          exact pw_get hx hb hts hin hown hG hw ha he hc k hk9 (hts _ hlink) (fun _ z => z) (gz_nth sa L h hk) (gx_d hd rfl rfl) (kk ls H locs hl hw)
        · cases hs
      · cases hs
    · cases hs
  · unfold gz_put at hs
    split at hs
    · rename_i v i r ci k t hT1
      split at hs
      · rename_i cj n C hsh hfit
        split at hs
        · rename_i h1
          obtain ⟨rfl, hk, hm⟩ := h1
          cases hs
          obtain ⟨ha, he⟩ := gz_at (cy := cy) (sa := sa) (h := h) (pw_nd hw) hL hsh hm
          obtain ⟨ty, ⟨C9, T9, n9, ty0, hc, hk9, hin, hlink, hty, hnm, hfin, rfl⟩ | ⟨hi9, C9, T9, n9, ty0, hc, hk9, hin, hlink, hty, hnm, hfin, hdc, rfl⟩, htt⟩ := (hT.1 _ _ _ _ hT1).2 (gz_fit_t hfit)
          · obtain ⟨hn1, hn2⟩ := gz_fit_ok sa L hfit hC htt
            refine pw_put hx hb hts hin ty0 hty hnm hown hG hw ha he hc k hk9 (hts _ hlink) (fun _ z => z) hfin (hty k hk9) hn1 hn2 (by rw [List.length_map, List.length_range]; exact hk) (gx_d hd rfl rfl) (fun H1 locs1 hw1 => kk ls H1 locs1 hl ?_)
            rw [gz_set (pw_nd hw) hL hsh hm]
            rw [gz_cell_put sa L hk] at hw1
            exact hw1
          · obtain ⟨hn1, hn2⟩ := gz_fit_ok sa L hfit hC htt
            refine pw_putF hx hb hts hin ty0 hty hnm hown hG hw ha he hc k hk9 (hts _ hlink) (fun _ z => z) hfin (hni hi9) hdc (hty k hk9) hn1 hn2 (by rw [List.length_map, List.length_range]; exact hk) (gx_d hd rfl rfl) (fun H1 locs1 hw1 => kk ls H1 locs1 hl ?_)
            rw [gz_set (pw_nd hw) hL hsh hm]
            rw [gz_cell_put sa L hk] at hw1
            exact hw1
        · cases hs
      · cases hs
    · cases hs
  · unfold gz_ald at hs
    split at hs
    · rename_i j i r
      split at hs
      · rename_i t0 n hsh
        split at hs
        · rename_i h1
          obtain ⟨ht0, hn, hm⟩ := h1
          cases hs
          obtain ⟨ha, he⟩ := gz_at (cy := cy) (sa := sa) (h := h) (pw_nd hw) hL hsh hm
          obtain ⟨hin, hj⟩ := gz_in hC.1 hC.2 hn
          obtain ⟨k0, hk0⟩ := va_pl_get (X := []) (f := gz_f cy sa L sh h) ha
          rw [he] at hk0
          obtain rfl : t0 = 1 := by omega
          refine va_iald hx hb hG.1 hw.1 k0 1 hk0 rfl hin (gx_d hd rfl rfl) ?_
          rw [hj]
          exact (kk ls H locs hl hw)
        · cases hs
      · cases hs
    · cases hs
  · unfold gz_ald at hs
    split at hs
    · rename_i j i r
      split at hs
      · rename_i t0 n hsh
        split at hs
        · rename_i h1
          obtain ⟨ht0, hn, hm⟩ := h1
          cases hs
          obtain ⟨ha, he⟩ := gz_at (cy := cy) (sa := sa) (h := h) (pw_nd hw) hL hsh hm
          obtain ⟨hin, hj⟩ := gz_in hC.1 hC.2 hn
          obtain ⟨k0, hk0⟩ := va_pl_get (X := []) (f := gz_f cy sa L sh h) ha
          rw [he] at hk0
          obtain rfl | rfl : t0 = 0 ∨ t0 = 3 := by omega
          · refine va_bald hx hb hG.1 hw.1 k0 0 hk0 rfl hin (gx_d hd rfl rfl) ?_
            rw [hj]
            exact (kk ls H locs hl hw)
          · refine va_zald hx hb hG.1 hw.1 k0 3 hk0 rfl hin (gx_d hd rfl rfl) ?_
            rw [hj]
            exact (kk ls H locs hl hw)
        · cases hs
      · cases hs
    · cases hs
  · unfold gz_ald at hs
    split at hs
    · rename_i j i r
      split at hs
      · rename_i t0 n hsh
        split at hs
        · rename_i h1
          obtain ⟨ht0, hn, hm⟩ := h1
          cases hs
          obtain ⟨ha, he⟩ := gz_at (cy := cy) (sa := sa) (h := h) (pw_nd hw) hL hsh hm
          obtain ⟨hin, hj⟩ := gz_in hC.1 hC.2 hn
          obtain ⟨k0, hk0⟩ := va_pl_get (X := []) (f := gz_f cy sa L sh h) ha
          rw [he] at hk0
          obtain rfl : t0 = 2 := by omega
          refine va_lald hx hb hG.1 hw.1 k0 2 hk0 rfl hin (gx_d hd rfl rfl) ?_
          rw [hj]
          exact (kk ls H locs hl hw)
        · cases hs
      · cases hs
    · cases hs
  · unfold gz_ald at hs
    split at hs
    · rename_i j i r
      split at hs
      · rename_i t0 n hsh
        split at hs
        · rename_i h1
          obtain ⟨ht0, hn, hm⟩ := h1
          cases hs
          obtain ⟨ha, he⟩ := gz_at (cy := cy) (sa := sa) (h := h) (pw_nd hw) hL hsh hm
          obtain ⟨hin, hj⟩ := gz_in hC.1 hC.2 hn
          obtain ⟨k0, hk0⟩ := va_pl_get (X := []) (f := gz_f cy sa L sh h) ha
          rw [he] at hk0
          have h4 : 4 ≤ t0 ∧ t0 ≤ 7 := by omega
          obtain ⟨ty, hty, hrf⟩ := gz_tys cy h4
          have e9 : gz_cell cy sa L (true, t0, n) (h i) = .inl (cy t0, n, .inr (.inr (.inr (.inr (fun j => (gz_A (h i j)).map (gz_al sa L)))))) := by
            show Sum.inl (cy t0, n, gz_arr sa L t0 (h i)) = _
            unfold gz_arr
            rw [if_neg (by omega), if_neg (by omega)]
          rw [e9] at hk0
          have hlt : (Int32.ofInt j).toNatClampNeg < n := Nat.not_le.mp fun q => hin (Or.inr q)
          refine W.aald (v := va_rf ((gz_A (h i (Int32.ofInt j).toNatClampNeg)).map (gz_al sa L))) (ty := ty) hx hb (hw.1 k0 _ hk0) ((hG.1.2 t0 (cy t0, ty) hty).1 n (fun j => va_rf ((gz_A (h i j)).map (gz_al sa L)))) hrf (fun q => by cases q) (by show ¬ (_ < 0 ∨ (arrV _ _ _).slots.size ≤ _); rw [arrV_size]; exact hin) (by show (arrV _ _ _).slots[_]? = _; rw [arrV_read _ _ hlt]) rfl rfl (gx_d hd rfl rfl) ?_
          rw [hj]
          have h9 := (kk ls H locs hl hw)
          generalize gz_A (h i j.toNat) = w at h9 ⊢
          cases w <;> exact h9
        · cases hs
      · cases hs
    · cases hs
  · unfold gz_ast at hs
    split at hs
    · rename_i x j i r
      split at hs
      · rename_i t0 n hsh
        split at hs
        · rename_i h1
          obtain ⟨rfl, -, hn, hm⟩ := h1
          cases hs
          obtain ⟨ha, he⟩ := gz_at (cy := cy) (sa := sa) (h := h) (pw_nd hw) hL hsh hm
          obtain ⟨hin, hj⟩ := gz_in hC.1 hC.2 hn
          obtain ⟨k0, hk0⟩ := va_pl_get (X := []) (f := gz_f cy sa L sh h) ha
          have hk1 := hk0
          rw [he] at hk0
          refine va_iast hx hb hG.1 hw.1 hw.2.1 hw.2.2.1 k0 1 hk0 rfl hin (gx_d hd rfl rfl) (fun H1 locs1 hP hD hS => kk ls H1 locs1 hl ?_)
          have hw1 := pw_set hw ha hk1 hP hD hS
          rw [gz_set (pw_nd hw) hL hsh hm]
          rw [hj] at hw1
          rw [gz_cell_i (cy := cy) sa L (by decide) (by decide)]
          exact hw1
        · split at hs
          · rename_i h1
            exact absurd h1.2.1 (by decide)
          · split at hs
            · rename_i h1
              exact absurd h1.2.1 (by decide)
            · cases hs
      · cases hs
    · rename_i x j i r
      split at hs
      · rename_i t0 n hsh
        split at hs
        · rename_i h1
          exact absurd h1.2.1 (by decide)
        · cases hs
      · cases hs
    · cases hs
  · unfold gz_ast at hs
    split at hs
    · rename_i x j i r
      split at hs
      · rename_i t0 n hsh
        split at hs
        · rename_i h1
          exact absurd h1.2.1 (by decide)
        · split at hs
          · rename_i h1
            obtain ⟨rfl, -, hn, hm⟩ := h1
            cases hs
            obtain ⟨ha, he⟩ := gz_at (cy := cy) (sa := sa) (h := h) (pw_nd hw) hL hsh hm
            obtain ⟨hin, hj⟩ := gz_in hC.1 hC.2 hn
            obtain ⟨k0, hk0⟩ := va_pl_get (X := []) (f := gz_f cy sa L sh h) ha
            have hk1 := hk0
            rw [he] at hk0
            refine va_bast hx hb hG.1 hw.1 hw.2.1 hw.2.2.1 k0 0 hk0 rfl hin (gx_d hd rfl rfl) (fun H1 locs1 hP hD hS => kk ls H1 locs1 hl ?_)
            have hw1 := pw_set hw ha hk1 hP hD hS
            rw [gz_set (pw_nd hw) hL hsh hm]
            rw [hj] at hw1
            rw [gz_cell_i (cy := cy) sa L (by decide) (by decide), gz_back]
            exact hw1
          · split at hs
            · rename_i h1
              obtain ⟨rfl, -, hn, hm⟩ := h1
              cases hs
              obtain ⟨ha, he⟩ := gz_at (cy := cy) (sa := sa) (h := h) (pw_nd hw) hL hsh hm
              obtain ⟨hin, hj⟩ := gz_in hC.1 hC.2 hn
              obtain ⟨k0, hk0⟩ := va_pl_get (X := []) (f := gz_f cy sa L sh h) ha
              have hk1 := hk0
              rw [he] at hk0
              refine va_zast hx hb hG.1 hw.1 hw.2.1 hw.2.2.1 k0 3 hk0 rfl hin (gx_d hd rfl rfl) (fun H1 locs1 hP hD hS => kk ls H1 locs1 hl ?_)
              have hw1 := pw_set hw ha hk1 hP hD hS
              rw [gz_set (pw_nd hw) hL hsh hm]
              rw [hj] at hw1
              rw [gz_cell_i (cy := cy) sa L (by decide) (by decide), gz_back]
              exact hw1
            · cases hs
      · cases hs
    · rename_i x j i r
      split at hs
      · rename_i t0 n hsh
        split at hs
        · rename_i h1
          exact absurd h1.2.1 (by decide)
        · cases hs
      · cases hs
    · cases hs
  · unfold gz_ast at hs
    split at hs
    · rename_i x j i r
      split at hs
      · rename_i t0 n hsh
        split at hs
        · rename_i h1
          exact absurd h1.2.1 (by decide)
        · split at hs
          · rename_i h1
            exact absurd h1.2.1 (by decide)
          · split at hs
            · rename_i h1
              exact absurd h1.2.1 (by decide)
            · cases hs
      · cases hs
    · rename_i x j i r
      split at hs
      · rename_i t0 n hsh
        split at hs
        · rename_i h1
          obtain ⟨rfl, -, hn, hm⟩ := h1
          cases hs
          obtain ⟨ha, he⟩ := gz_at (cy := cy) (sa := sa) (h := h) (pw_nd hw) hL hsh hm
          obtain ⟨hin, hj⟩ := gz_in hC.1 hC.2 hn
          obtain ⟨k0, hk0⟩ := va_pl_get (X := []) (f := gz_f cy sa L sh h) ha
          have hk1 := hk0
          rw [he] at hk0
          refine va_last hx hb hG.1 hw.1 hw.2.1 hw.2.2.1 k0 2 hk0 rfl hin (gx_d hd rfl rfl) (fun H1 locs1 hP hD hS => kk ls H1 locs1 hl ?_)
          have hw1 := pw_set hw ha hk1 hP hD hS
          rw [gz_set (pw_nd hw) hL hsh hm]
          rw [hj] at hw1
          rw [gz_cell_l (cy := cy) sa L]
          exact hw1
        · cases hs
      · cases hs
    · cases hs
  · unfold gz_len at hs
    split at hs
    · rename_i i r
      split at hs
      · rename_i t0 n hsh
        split at hs
        · rename_i h1
          cases hs
          obtain ⟨ha, he⟩ := gz_at (cy := cy) (sa := sa) (h := h) (pw_nd hw) hL hsh h1.2
          obtain ⟨k0, hk0⟩ := va_pl_get (X := []) (f := gz_f cy sa L sh h) ha
          rw [he] at hk0
          obtain ⟨ty, hty⟩ := gz_tya cy h1.1
          exact va_alen hx hb hG.1 hw.1 k0 t0 hk0 hty Int32.ofInt_eq_ofNat.symm (gx_d hd rfl rfl) (kk ls H locs hl hw)
        · cases hs
      · cases hs
    · cases hs
  · unfold gz_ldc at hs
    split at hs
    · rename_i z h1
      cases hs
      exact lv_ldc hx hb hown (hts _ (hT.2.1 _ _ h1)) (gx_d hd rfl rfl) (kk ls H locs hl hw)
    · cases hs
  · unfold gz_ldc at hs
    split at hs
    · rename_i z h1
      cases hs
      exact lv_ldcw hx hb hown (hts _ (hT.2.1 _ _ h1)) (gx_d hd rfl rfl) (kk ls H locs hl hw)
    · cases hs
  · unfold gz_ldl at hs
    split at hs
    · rename_i z h1
      cases hs
      exact lv_ldc2 hx hb hown (hts _ (hT.2.2 _ _ h1)) (gx_d hd rfl rfl) (kk ls H locs hl hw)
    · cases hs
  · cases hs
end GZ
