/-! NEW CELLS, copies of rows, rows of references. -/
abbrev gz_S : Type := Nat × List (Nat × gz_V) × List gz_V × gz_Sh × gz_H
abbrev gz_K : Type := gx_M → List gz_V → gz_Sh → gz_H → Option gz_V → gz_Sh → gz_H → Nat → Nat → Prop
def gz_okv (n : Nat) (v : gz_V) : Prop := match v with
  | .inr (.inr (some i)) => i < n ∨ 1000000 ≤ i
  | _ => True
def gz_c (v : gz_V) : Nat := if gz_two v then 2 else 1
theorem gz_c_ok (sa : Nat → Nat) (L : List Nat) (v : gz_V) : (gz_r sa L v).category = gz_c v := by
  rcases v with z | x | o
  · rfl
  · rfl
  · cases o <;> rfl
theorem gz_al_ext {sa : Nat → Nat} {L Lₚ : List Nat} (hp : L <+: Lₚ) {i : Nat} (h : i < L.length ∨ 1000000 ≤ i) : gz_al sa Lₚ i = gz_al sa L i := by
  obtain ⟨M, rfl⟩ := hp
  unfold gz_al
  split
  · rename_i hm
    have hi : i < L.length := by omega
    rw [List.getD_eq_getElem?_getD, List.getD_eq_getElem?_getD, List.getElem?_append_left hi]
  · rfl
theorem gz_r_ext {sa : Nat → Nat} {L Lₚ : List Nat} (hp : L <+: Lₚ) {v : gz_V} (h : gz_okv L.length v) : gz_r sa Lₚ v = gz_r sa L v := by
  rcases v with z | x | o
  · rfl
  · rfl
  · cases o with
    | none => rfl
    | some i => exact congrArg Value.ref (gz_al_ext hp h)
def gz_wf (sh : gz_Sh) (h : gz_H) : Prop := ∀ i, i < sh.length → ∀ k, gz_okv sh.length (h i k)
def gz_dv : FieldType → gz_V
  | .long => .inr (.inl 0)
  | .object _ => .inr (.inr none)
  | .array _ => .inr (.inr none)
  | _ => .inl 0
def gz_ndf : FieldType → Bool
  | .float => false
  | .double => false
  | _ => true
theorem gz_dv_ok (sa : Nat → Nat) (L : List Nat) {ty : FieldType} (h : gz_ndf ty = true) : defaultValue ty = gz_r sa L (gz_dv ty) := by
  cases ty <;> first | rfl | cases h
theorem gz_cell_ext {cy : Nat → ClassId} {sa : Nat → Nat} {L Lₚ : List Nat} (hp : L <+: Lₚ) {c : Nat → gz_V} (hc : ∀ k, gz_okv L.length (c k)) (x : Bool × Nat × Nat) : gz_cell cy sa Lₚ x c = gz_cell cy sa L x c := by
  obtain ⟨b, t, n⟩ := x
  cases b with
  | false =>
    refine congrArg (fun q => Sum.inr (t, q)) (List.map_congr_left (fun k _ => ?_))
    exact gz_r_ext hp (hc k)
  | true =>
    refine congrArg (fun q => Sum.inl (cy t, n, q)) ?_
    unfold gz_arr
    split
    · rfl
    · split
      · rfl
      · refine congrArg (fun q => Sum.inr (Sum.inr (Sum.inr (Sum.inr q)))) (funext fun j => ?_)
        have h1 := hc j
        cases hv : c j with
        | inl z => rfl
        | inr y =>
          cases y with
          | inl z => rfl
          | inr o =>
            cases o with
            | none => rfl
            | some i =>
              rw [hv] at h1
              exact congrArg some (gz_al_ext hp h1)
/-- a new cell -/
theorem gz_f_push {cy : Nat → ClassId} {sa : Nat → Nat} {L : List Nat} {q : Nat} {sh : gz_Sh} {h hₚ : gz_H} (x : Bool × Nat × Nat) (hq : q ∉ L) (hL : L.length = sh.length) (hwf : gz_wf sh h) (hh : ∀ i, i < sh.length → hₚ i = h i) : gz_f cy sa (L ++ [q]) (sh ++ [x]) hₚ = va_up (gz_f cy sa L sh h) q (gz_cell cy sa (L ++ [q]) x (hₚ sh.length)) := by
  funext a
  by_cases ha : a = q
  · subst ha
    rw [va_up_self]
    unfold gz_f
    have e : (L ++ [a]).idxOf a = sh.length := by
      rw [List.idxOf_append, if_neg hq, List.idxOf_cons_self, ← hL]
      omega
    rw [e, List.getD_eq_getElem?_getD, List.getElem?_append_right (Nat.le_refl _), Nat.sub_self]
    rfl
  · rw [va_up_ne _ _ ha]
    unfold gz_f
    by_cases hm : a ∈ L
    · have hi : L.idxOf a < sh.length := by rw [← hL]; exact List.idxOf_lt_length_of_mem hm
      rw [List.idxOf_append, if_pos hm, List.getD_eq_getElem?_getD, List.getD_eq_getElem?_getD, List.getElem?_append_left hi, hh _ hi]
      exact gz_cell_ext (List.prefix_append L [q]) (fun k => by rw [hL]; exact hwf _ hi k) _
    · have e1 : (L ++ [q]).idxOf a = sh.length + 1 := by
        rw [List.idxOf_append, if_neg hm, List.idxOf_eq_length (l := [q]) (fun h => ha (List.mem_singleton.mp h)), ← hL]
        show 1 + L.length = _
        omega
      have e2 : L.idxOf a = sh.length := by rw [← hL]; exact List.idxOf_eq_length hm
      rw [e1, e2, List.getD_eq_getElem?_getD, List.getD_eq_getElem?_getD, List.getElem?_eq_none (by rw [List.length_append]; exact Nat.le_refl _), List.getElem?_eq_none (Nat.le_refl _)]
      rfl
def gz_cp (h : gz_H) (i j sp dp n : Nat) : gz_H := fun a k => if a = j then (if dp ≤ k ∧ k < dp + n then h i (sp + (k - dp)) else h a k) else h a k
def gz_fresh (u v : gz_S) (x : Bool × Nat × Nat) : Prop := u.2.2.2.1.length < 1000000 ∧ gz_wf u.2.2.2.1 u.2.2.2.2 ∧ v.2.2.2.1 = u.2.2.2.1 ++ [x] ∧ (∀ i, i < u.2.2.2.1.length → v.2.2.2.2 i = u.2.2.2.2 i) ∧ (∀ q ∈ u.2.1, gz_okv u.2.2.2.1.length q.2) ∧ (∀ q ∈ u.2.2.1, gz_okv u.2.2.2.1.length q) ∧ v.2.1 = u.2.1
def gz_lN (ws0 : List Cond) (own : String) (ix : Nat) (C : String) (T : u_T) (n : Nat) (ty : Nat → FieldType) : Prop := (∀ w ∈ u_ws C T n, w ∈ ws0) ∧ Cond.classLink own ix C ∈ ws0 ∧ Cond.instantiable C n ∈ ws0 ∧ Cond.initialized C ∈ ws0 ∧ ∀ k, k < n → parseFieldDescriptor (T k).2.2.1 = some (ty k) ∧ gz_ndf (ty k) = true
def gz_aty : ArrayType → Option Nat
  | .byte => some 0
  | .int => some 1
  | .long => some 2
  | .boolean => some 3
  | _ => none
def gz_lC (ws0 : List Cond) (own : String) (ix : Nat) : Prop := Cond.methodLink own ix arraycopyName ∈ ws0 ∧ Cond.native arraycopyName ∈ ws0 ∧ Cond.static arraycopyName ∈ ws0 ∧ Cond.initialized "java/lang/System" ∈ ws0
def gz_lK (ws0 : List Cond) (own : String) (ix : Nat) : Prop := Cond.methodLink own ix ⟨"[B", "clone", "()Ljava/lang/Object;"⟩ ∈ ws0 ∧ Cond.sameMethod "[B" "java/lang/Object" "clone" "()Ljava/lang/Object;" ∈ ws0 ∧ Cond.native ⟨"java/lang/Object", "clone", "()Ljava/lang/Object;"⟩ ∈ ws0 ∧ Cond.instanceMethod ⟨"java/lang/Object", "clone", "()Ljava/lang/Object;"⟩ ∈ ws0 ∧ Cond.selects "[B" ⟨"[B", "clone", "()Ljava/lang/Object;"⟩ ⟨"java/lang/Object", "clone", "()Ljava/lang/Object;"⟩ ∈ ws0
def gz_mk (ws0 : List Cond) (own : String) (cc : ByteArray) (u v : gz_S) (a s : Nat) : Prop :=
  (∃ (ix ci : Nat) (C : String) (T : u_T) (n : Nat) (ty : Nat → FieldType), gx_dec cc u.1 (.new ix) ∧ vwCl[ci]? = some (C, T, n) ∧ gz_lN ws0 own ix C T n ty ∧ gz_fresh u v (false, ci, n) ∧ (∀ k, k < n → v.2.2.2.2 u.2.2.2.1.length k = gz_dv (ty k)) ∧ v.1 = u.1 + 3 ∧ v.2.2.1 = .inr (.inr (some u.2.2.2.1.length)) :: u.2.2.1 ∧ a = 1 ∧ s = n) ∨
  (∃ (at_ : ArrayType) (t n : Nat) (r : List gz_V), gx_dec cc u.1 (.newarray at_) ∧ gz_aty at_ = some t ∧ Cond.arrayClass (newarray.typeOf at_) ∈ ws0 ∧ u.2.2.1 = .inl (n : Int) :: r ∧ n ≤ 60000000 ∧ gz_fresh u v (true, t, n) ∧ (∀ k, v.2.2.2.2 u.2.2.2.1.length k = if t = 2 then .inr (.inl 0) else .inl 0) ∧ v.1 = u.1 + 2 ∧ v.2.2.1 = .inr (.inr (some u.2.2.2.1.length)) :: r ∧ a = 1 ∧ s = n) ∨
  (∃ (ix t n : Nat) (C : String) (r : List gz_V), gx_dec cc u.1 (.anewarray ix) ∧ (t = 4 ∧ C = RX3 ∨ t = 5 ∧ C = RX11) ∧ Cond.classLink own ix C ∈ ws0 ∧ u.2.2.1 = .inl (n : Int) :: r ∧ n ≤ 60000000 ∧ gz_fresh u v (true, t, n) ∧ (∀ k, v.2.2.2.2 u.2.2.2.1.length k = .inr (.inr none)) ∧ v.1 = u.1 + 3 ∧ v.2.2.1 = .inr (.inr (some u.2.2.2.1.length)) :: r ∧ a = 1 ∧ s = n) ∨
  (∃ (i w t n m : Nat) (j : Int) (r : List gz_V), gx_dec cc u.1 .aastore ∧ u.2.2.1 = .inr (.inr (some w)) :: .inl j :: .inr (.inr (some i)) :: r ∧ i < 1000000 ∧ w < 1000000 ∧ u.2.2.2.1[i]? = some (true, t, n) ∧ n < 2147483648 ∧ 0 ≤ j ∧ j < (n : Int) ∧ (t = 4 ∧ u.2.2.2.1[w]? = some (false, 3, m) ∨ t = 5 ∧ u.2.2.2.1[w]? = some (false, 11, m) ∨ t = 6 ∧ u.2.2.2.1[w]? = some (true, 0, m)) ∧ v = (u.1 + 1, u.2.1, r, u.2.2.2.1, gz_up u.2.2.2.2 i j.toNat (.inr (.inr (some w)))) ∧ a = 0 ∧ s = 0) ∨
  (∃ (ix i i1 t n0 n1 sp dp n : Nat) (r : List gz_V), gx_dec cc u.1 (.invokestatic ix) ∧ gz_lC ws0 own ix ∧ u.2.2.1 = .inl (n : Int) :: .inl (dp : Int) :: .inr (.inr (some i1)) :: .inl (sp : Int) :: .inr (.inr (some i)) :: r ∧ (r.map gz_c).sum ≤ 8 ∧ i < 1000000 ∧ i1 < 1000000 ∧ u.2.2.2.1[i]? = some (true, t, n0) ∧ u.2.2.2.1[i1]? = some (true, t, n1) ∧ t ≤ 2 ∧ n0 < 2147483648 ∧ n1 < 2147483648 ∧ sp + n ≤ n0 ∧ dp + n ≤ n1 ∧ (t = 0 → ∀ k, k < n → -128 ≤ gz_I (u.2.2.2.2 i (sp + k)) ∧ gz_I (u.2.2.2.2 i (sp + k)) ≤ 127) ∧ v = (u.1 + 3, u.2.1, r, u.2.2.2.1, gz_cp u.2.2.2.2 i i1 sp dp n) ∧ a = 0 ∧ s = 0) ∨
  (∃ (ix b : Nat) (r : List gz_V), gx_dec cc u.1 (.invokespecial ix) ∧ u.2.2.1 = .inr (.inr (some b)) :: r ∧ (r.map gz_c).sum ≤ 8 ∧ Cond.methodLink own ix objectInit ∈ ws0 ∧ Cond.instanceMethod objectInit ∈ ws0 ∧ Cond.code objectInit ⟨#[0xb1]⟩ 1 none ∈ ws0 ∧ v = (u.1 + 3, u.2.1, r, u.2.2.2) ∧ a = 0 ∧ s = 0) ∨
  (∃ (ix i n : Nat) (r : List gz_V), gx_dec cc u.1 (.invokevirtual ix) ∧ gz_lK ws0 own ix ∧ u.2.2.1 = .inr (.inr (some i)) :: r ∧ (r.map gz_c).sum ≤ 8 ∧ i < 1000000 ∧ u.2.2.2.1[i]? = some (true, 0, n) ∧ (∀ k, k < n → -128 ≤ gz_I (u.2.2.2.2 i k) ∧ gz_I (u.2.2.2.2 i k) ≤ 127) ∧ gz_fresh u v (true, 0, n) ∧ (∀ k, v.2.2.2.2 u.2.2.2.1.length k = .inl (gz_I (u.2.2.2.2 i k))) ∧ v.1 = u.1 + 3 ∧ v.2.2.1 = .inr (.inr (some u.2.2.2.1.length)) :: r ∧ a = 1 ∧ s = n) ∨
  (∃ (ix i n : Nat) (r : List gz_V), gx_dec cc u.1 (.checkcast ix) ∧ Cond.classLink own ix "[B" ∈ ws0 ∧ u.2.2.1 = .inr (.inr (some i)) :: r ∧ i < 1000000 ∧ u.2.2.2.1[i]? = some (true, 0, n) ∧ v = (u.1 + 3, u.2) ∧ a = 0 ∧ s = 0) ∨
  (∃ (eq : Bool) (off : Int) (x y t : Nat) (r : List gz_V), gx_dec cc u.1 (.if_acmp (cond eq .eq .ne) off) ∧ u.2.2.1 = .inr (.inr (some y)) :: .inr (.inr (some x)) :: r ∧ x < u.2.2.2.1.length ∧ y < u.2.2.2.1.length ∧ x < 1000000 ∧ y < 1000000 ∧ gx_t u.1 off = some t ∧ v = (cond (decide (x = y) == eq) t (u.1 + 3), u.2.1, r, u.2.2.2) ∧ a = 0 ∧ s = 0)
section MK
variable {p : Program} {l : Launch} {e : Env} {R : Room} {s : State} {m : MethodId} {args : Array Value} {below : List Frame} {meth : Method} {c : Code} {H : Heap} {locs : List Loc} {cells slots : Nat} {Q : State → Prop}
variable {cc : ByteArray} {pc N a1 s1 : Nat} {ls : Array Slot} {D : va_G} {cy : Nat → ClassId} {sa : Nat → Nat} {A : Nat → Prop} {L : List Nat} {ws0 : List Cond} {own : String} {rest : List Value} {f : Nat → va_E} {H0 : Heap}
/-- one cell of the pool is changed -/
theorem gz_setG {sh : gz_Sh} {h hₚ : gz_H} (hn : L.Nodup) (hl : L.length = sh.length) {i : Nat} {x : Bool × Nat × Nat} (hx : sh[i]? = some x) (hm : i < 1000000) (hh : ∀ a, a ≠ i → hₚ a = h a) : gz_f cy sa L sh hₚ = va_up (gz_f cy sa L sh h) (gz_al sa L i) (gz_cell cy sa L x (hₚ i)) := by
  have hi : i < L.length := by rw [hl]; exact (List.getElem?_eq_some_iff.mp hx).1
  funext a
  by_cases ha : a = gz_al sa L i
  · subst ha
    rw [va_up_self]
    exact (gz_at hn hl hx hm).2
  · rw [va_up_ne _ _ ha]
    have hne : L.idxOf a ≠ i := fun q => by
      by_cases hm2 : a ∈ L
      · have := List.getElem_idxOf (List.idxOf_lt_length_of_mem hm2)
        apply ha
        have e : gz_al sa L i = L[i] := by
          unfold gz_al
          rw [if_pos hm, List.getD_eq_getElem?_getD, List.getElem?_eq_getElem hi]
          rfl
        rw [e, ← this]
        congr 1
      · have := List.idxOf_eq_length hm2
        omega
    unfold gz_f
    rw [hh _ hne]
theorem gz_fresh_ok {u v : gz_S} {x : Bool × Nat × Nat} (h : gz_fresh u v x) {q : Nat} (hq : q ∉ L) (hL : L.length = u.2.2.2.1.length) :
    (L ++ [q]).length = v.2.2.2.1.length ∧ u.2.1.map (gz_q sa (L ++ [q])) = u.2.1.map (gz_q sa L) ∧ u.2.2.1.map (gz_r sa (L ++ [q])) = u.2.2.1.map (gz_r sa L) ∧ gz_r sa (L ++ [q]) (.inr (.inr (some u.2.2.2.1.length))) = .ref q ∧ gz_f cy sa (L ++ [q]) v.2.2.2.1 v.2.2.2.2 = va_up (gz_f cy sa L u.2.2.2.1 u.2.2.2.2) q (gz_cell cy sa (L ++ [q]) x (v.2.2.2.2 u.2.2.2.1.length)) := by
  obtain ⟨h1, h2, h3, h4, h5, h6, -⟩ := h
  have hp : L <+: L ++ [q] := List.prefix_append L [q]
  refine ⟨by rw [h3, List.length_append, List.length_append, hL]; rfl, List.map_congr_left (fun z hz => ?_), List.map_congr_left (fun z hz => ?_), ?_, ?_⟩
  · unfold gz_q
    rw [gz_r_ext hp (by rw [hL]; exact h5 z hz)]
  · exact gz_r_ext hp (by rw [hL]; exact h6 z hz)
  · refine congrArg Value.ref ?_
    unfold gz_al
    rw [if_pos h1, ← hL, List.getD_eq_getElem?_getD, List.getElem?_append_right (Nat.le_refl _), Nat.sub_self]
    rfl
  · rw [h3]
    exact gz_f_push x hq hL h2 h4
theorem pw_newq (hexec : p.tables.exec = Jvm.exec) (hb : c.code = cc) {C : String} {index t0 : Nat} {cA : ClassId} (hown : s.vm.findClass own = some m.cls) (hclink : (Cond.classLink own index C).before args s = true) (hover : va_AO C s) (hG : pw_G D cy s) (ht : (pw_T cy)[t0]? = some (cA, .object C)) (hw : pw_W D A H0 L f H locs)
    {n : Int32} {N' : Nat} (hn : ¬ n < 0) (hN' : n.toNatClampNeg = N') (hbytes : N' * 4 ≤ 536870912) (hcells : cells + 1 ≤ R.cells) (hslots : slots + N' ≤ R.slots) (hdg : decode cc pc = .ok (.anewarray index, 3))
    (kk : ∀ (q : Nat) (H1 : Heap), q ∉ L → pw_W D A H0 (L ++ [q]) (va_up f q (.inl (cA, N', .inr (.inr (.inr (.inr (fun _ => none))))))) H1 locs → W p l e R s m args below meth c H1 locs (cells + 1) (slots + N') Q (F0 m (pc + 3) ls (.ref q :: rest))) : W p l e R s m args below meth c H locs cells slots Q (F0 m pc ls (.int n :: rest)) := by
  refine va_newq hexec hb hown hclink hover hG.1 hw.1 hw.2.1 hw.2.2.1 hw.2.2.2 hn hN' hbytes hcells hslots hdg (fun q cA1 H1 hK1 hP hD hS => ?_)
  obtain ⟨kA, comp, -, -, -, f4⟩ := (hG.1.2 t0 _ ht).2
  obtain ⟨kB, comp2, -, -, -, g4⟩ := (hK1.2 (pw_T cy).length (cA1, .object C) (by rw [List.getElem?_append_right (Nat.le_refl _), Nat.sub_self]; rfl)).2
  have hcA : cA1 = cA := Option.some.inj (g4.symm.trans f4)
  subst hcA
  obtain ⟨h1, h2⟩ := pw_push hw hP hD hS
  exact kk q H1 h1 h2
/-- a row of bytes put into a row of such rows -/
theorem pw_aastB (hexec : p.tables.exec = Jvm.exec) (hb : c.code = cc) (hG : pw_G D cy s) (hw : pw_W D A H0 L f H locs) {a v n n' k0 k1 : Nat} {g : Nat → Option Nat} {x : (Nat → Int32) ⊕ (Nat → Int64) ⊕ (Nat → UInt32) ⊕ (Nat → UInt64) ⊕ (Nat → Option Nat)} (ha : (va_pl L f)[k0]? = some (a, .inl (cy 6, n, .inr (.inr (.inr (.inr g)))))) (hv : (va_pl L f)[k1]? = some (v, .inl (cy 0, n', x))) {i : Int32} (hin : vp_in i n) (hdg : decode cc pc = .ok (.aastore, 1))
    (kk : ∀ (H1 : Heap) (locs1 : List Loc), va_P D vwCl ((va_pl L f).set k0 (a, .inl (cy 6, n, .inr (.inr (.inr (.inr (va_up g i.toNatClampNeg (some v)))))))) H1 → va_D A ((va_pl L f).set k0 (a, .inl (cy 6, n, .inr (.inr (.inr (.inr (va_up g i.toNatClampNeg (some v)))))))) → va_S A H0 H1 locs1 → W p l e R s m args below meth c H1 locs1 cells slots Q (F0 m (pc + 1) ls rest)) : W p l e R s m args below meth c H locs cells slots Q (F0 m pc ls (.ref v :: .int i :: .ref a :: rest)) := by
  have hlt : i.toNatClampNeg < n := Nat.not_le.mp fun q => hin (Or.inr q)
  have h0 : ¬ i < 0 := fun q => hin (Or.inl q)
  obtain ⟨comp, c6, k6, f1, -, f3, f4, f5⟩ := arrayOverA_spec (args := #[]) (first := s) (o := none) (idx := []) hG.2.2.2.2.1
  have e6 : c6 = cy 6 := Option.some.inj (f5.symm.trans (hG.1.2 6 (cy 6, .array .byte) rfl).2)
  have e0 : comp = cy 0 := Option.some.inj (f1.symm.trans (hG.1.2 0 (cy 0, .byte) rfl).2)
  subst e6 e0
  obtain ⟨kC, hkC, -⟩ := Vm.findClass_spec f1
  have hcv : (vp_cell (cy 0) (n', x)).vm = .none ∧ (vp_cell (cy 0) (n', x)).cls = cy 0 := by
    obtain x | x | x | x | x := x <;> exact ⟨rfl, rfl⟩
  refine W.aast hexec hb (hw.1 k0 _ ha) (fun q h => by cases h) (fun h => by cases h) f3 f4 rfl hkC ⟨h0, by show _ < (arrV _ _ _).slots.size; rw [arrV_size]; exact hlt⟩ (hw.1 k1 _ hv) (fun q h => by rw [hcv.1] at h; cases h) (by rw [hcv.2]; exact hkC) (by rw [hcv.2]; exact va_asg _ _) rfl rfl hdg fun H1 e z oq => ?_
  refine kk H1 _ (hw.1.set hw.2.1 ha ?_ oq) (hw.2.1.set ha) (hw.2.2.1.put z oq (hw.2.1.2 k0 _ ha))
  show H1[a]? = some (vp_cell _ _)
  rw [e]
  rw [vp_cell_q, vp_cell_q, arrV_store]
  congr 2
  funext q
  by_cases hq : q = i.toNatClampNeg
  · subst hq
    simp [updV, va_up, va_rf]
  · simp [updV, va_up, hq]
theorem gz_cell_q {sh : gz_Sh} {h : gz_H} {i t n k w : Nat} (ht : 4 ≤ t) : gz_cell cy sa L (true, t, n) (gz_up h i k (.inr (.inr (some w))) i) = .inl (cy t, n, .inr (.inr (.inr (.inr (va_up (fun j => (gz_A (h i j)).map (gz_al sa L)) k (some (gz_al sa L w))))))) := by
  refine congrArg (fun q => Sum.inl (cy t, n, q)) ?_
  unfold gz_arr
  rw [if_neg (by omega), if_neg (by omega)]
  refine congrArg (fun q => Sum.inr (Sum.inr (Sum.inr (Sum.inr q)))) (funext fun j => ?_)
  unfold gz_up
  rw [if_pos rfl]
  by_cases hj : j = k
  · subst hj
    rw [if_pos rfl, va_up_self]
    rfl
  · rw [if_neg hj, va_up_ne _ _ hj]
theorem gz_cell_q0 {h : gz_H} {i t n : Nat} (ht : 4 ≤ t) : gz_cell cy sa L (true, t, n) (h i) = .inl (cy t, n, .inr (.inr (.inr (.inr (fun j => (gz_A (h i j)).map (gz_al sa L)))))) := by
  refine congrArg (fun q => Sum.inl (cy t, n, q)) ?_
  unfold gz_arr
  rw [if_neg (by omega), if_neg (by omega)]
theorem gz_nn {n : Nat} (h : n < 2147483648) : ¬ Int32.ofInt (n : Int) < 0 ∧ (Int32.ofInt (n : Int)).toNatClampNeg = n := by
  refine ⟨fun q => ?_, ?_⟩
  · have := (gz_lt ⟨by omega, by omega⟩ gz_R0).mp q
    omega
  · rw [Int32.toNatClampNeg_ofInt_of_le (by omega) (by omega)]
    exact Int.toNat_natCast n
theorem gz_mk_ok (hCl : va_Nw (.castable "[B" "java/lang/Cloneable") s) (hx : p.tables.exec = Jvm.exec) (hb : c.code = cc) (hml : c.maxLocals = N) (hts : ∀ w ∈ ws0, w.before args s = true) (hown : s.vm.findClass own = some m.cls) (hG : pw_G D cy s) (hR : 1 ≤ R.frames ∧ 64 ≤ R.locals) {u v : gz_S} (hs : gz_mk ws0 own cc u v a1 s1) (hf : cells + a1 ≤ R.cells ∧ slots + s1 ≤ R.slots) (hL : L.length = u.2.2.2.1.length) (hl : lv_has ls N (u.2.1.map (gz_q sa L))) (hw : pw_W D A s.heap L (gz_f cy sa L u.2.2.2.1 u.2.2.2.2) H locs)
    (kk : ∀ (Lₚ : List Nat) (ls1 : Array Slot) (H1 : Heap) (locs1 : List Loc), L <+: Lₚ → Lₚ.length = v.2.2.2.1.length → lv_has ls1 N (v.2.1.map (gz_q sa Lₚ)) → pw_W D A s.heap Lₚ (gz_f cy sa Lₚ v.2.2.2.1 v.2.2.2.2) H1 locs1 → W p l e R s m args below meth c H1 locs1 (cells + a1) (slots + s1) Q (F0 m v.1 ls1 (v.2.2.1.map (gz_r sa Lₚ)))) : W p l e R s m args below meth c H locs cells slots Q (F0 m u.1 ls (u.2.2.1.map (gz_r sa L))) := by
  rcases hs with ⟨ix, ci, C, T, n, ty, hd, hc, hN, hF, hz, hp1, hst, rfl, rfl⟩ | ⟨at_, t, n, r, hd, ht, hA, hu, hn, hF, hz, hp1, hst, rfl, rfl⟩ | ⟨ix, t, n, C, r, hd, ht, hA, hu, hn, hF, hz, hp1, hst, rfl, rfl⟩ | ⟨i, w, t, n, mw, j, r, hd, hu, hi6, hw6, hi, hn, hj0, hj1, hv, rfl, rfl, rfl⟩ | ⟨ix, i, i1, t, n0, n1, sp, dp, n, r, hd, hC, hu, h8, hi6, hj6, hi, hj, ht, hn0, hn1, hs0, hd0, hfit, rfl, rfl, rfl⟩ | ⟨ix, b, r, hd, hu, h8, hA1, hA2, hA3, rfl, rfl, rfl⟩ | ⟨ix, i, n, r, hd, hC, hu, h8, hi6, hi, hby, hF, hz, hp1, hst, rfl, rfl⟩ | ⟨ix, i, n, r, hd, hA, hu, hi6, hi, rfl, rfl, rfl⟩ | ⟨eq, off, x, y, t, r, hd, hu, hx1, hy1, hx6, hy6, ht, rfl, rfl, rfl⟩
  · refine pw_new (C := C) (T := T) (N := s1) (ci := ci) (fs := (List.range s1).map (fun k => defaultValue (ty k))) hx hb hts hN.1 ty (fun k hk => (hN.2.2.2.2 k hk).1) hown (hts _ hN.2.1) (hts _ hN.2.2.1) (hts _ hN.2.2.2.1) hG hw hc (fun j hj => ?_) hf.1 hf.2 (gx_d hd rfl rfl) (fun q H1 hq hw1 => ?_)
    · unfold vp_V
      rw [List.getD_eq_getElem?_getD, List.getElem?_map, List.getElem?_range hj]
      rfl
    · obtain ⟨e1, e2, e3, e4, e5⟩ := gz_fresh_ok (cy := cy) (sa := sa) hF hq hL
      have h9 := kk (L ++ [q]) ls H1 locs (List.prefix_append L [q]) e1 (by rw [hF.2.2.2.2.2.2, e2]; exact hl) (by
        rw [e5]
        have e6 : gz_cell cy sa (L ++ [q]) (false, ci, s1) (v.2.2.2.2 u.2.2.2.1.length) = .inr (ci, (List.range s1).map (fun k => defaultValue (ty k))) := by
          refine congrArg (fun z => Sum.inr (ci, z)) (List.map_congr_left (fun k hk => ?_))
          have hk1 := List.mem_range.mp hk
          rw [hz k hk1]
          exact (gz_dv_ok sa (L ++ [q]) (hN.2.2.2.2 k hk1).2).symm
        rw [e6]
        exact hw1)
      rw [hst, List.map_cons, e3, e4, hp1] at h9
      exact h9
  · rw [hu, List.map_cons]
    have hnn := gz_nn (n := s1) (by omega)
    have key : ∀ (ty : FieldType) (a0 : (Nat → Int32) ⊕ (Nat → Int64) ⊕ (Nat → UInt32) ⊕ (Nat → UInt64) ⊕ (Nat → Option Nat)), newarray.typeOf at_ = ty → (pw_T cy)[t]? = some (cy t, ty) → (∀ U : State, va_RA U (cy t) ty → U.vm.findClass ("[" ++ ty.toString) = some (cy t)) → (∀ cA : ClassId, vp_cell cA (s1, a0) = arrV cA s1 (fun _ => defaultValue ty)) → componentBytes ty ≤ 8 → (∀ Lₚ : List Nat, gz_arr sa Lₚ t (v.2.2.2.2 u.2.2.2.1.length) = a0) → W p l e R s m args below meth c H locs cells slots Q (F0 m u.1 ls (gz_r sa L (.inl (s1 : Int)) :: r.map (gz_r sa L))) := fun ty a0 k1 k2 k3 k4 k5 k6 => by
      refine pw_newa (atype := at_) (ty := ty) (t0 := t) (cA := cy t) (N' := s1) (a0 := (s1, a0)) hx hb (hts _ hA) k1 hG k2 k3 hw k4 hnn.1 hnn.2 (Nat.le_trans (Nat.mul_le_mul_left s1 k5) (by omega)) hf.1 hf.2 (gx_d hd rfl rfl) (fun q H1 hq hw1 => ?_)
      obtain ⟨e1, e2, e3, e4, e5⟩ := gz_fresh_ok (cy := cy) (sa := sa) hF hq hL
      rw [hu, List.map_cons, List.map_cons] at e3
      have h9 := kk (L ++ [q]) ls H1 locs (List.prefix_append L [q]) e1 (by rw [hF.2.2.2.2.2.2, e2]; exact hl) (by
        rw [e5]
        have e6 : gz_cell cy sa (L ++ [q]) (true, t, s1) (v.2.2.2.2 u.2.2.2.1.length) = .inl (cy t, s1, a0) := congrArg (fun z => Sum.inl (cy t, s1, z)) (k6 _)
        rw [e6]
        exact hw1)
      rw [hst, List.map_cons, (List.cons.inj e3).2, e4, hp1] at h9
      exact h9
    have hz0 : ∀ (Lₚ : List Nat), t ≤ 3 → t ≠ 2 → gz_arr sa Lₚ t (v.2.2.2.2 u.2.2.2.1.length) = .inl (fun _ => 0) := fun Lₚ h3 h2 => by
      unfold gz_arr
      rw [if_neg h2, if_pos h3]
      refine congrArg Sum.inl (funext fun j => ?_)
      rw [hz j, if_neg h2]
      rfl
    cases at_ <;> first | (exfalso; cases ht; done) | (obtain rfl := Option.some.inj ht)
    · exact key .boolean (.inl (fun _ => 0)) rfl rfl (fun _ h => h) (fun _ => rfl) (by decide) (fun Lₚ => hz0 Lₚ (by decide) (by decide))
    · exact key .byte (.inl (fun _ => 0)) rfl rfl (fun _ h => h) (fun _ => rfl) (by decide) (fun Lₚ => hz0 Lₚ (by decide) (by decide))
    · exact key .int (.inl (fun _ => 0)) rfl rfl (fun _ h => h) (fun _ => rfl) (by decide) (fun Lₚ => hz0 Lₚ (by decide) (by decide))
    · refine key .long (.inr (.inl (fun _ => 0))) rfl rfl (fun _ h => h) (fun _ => rfl) (by decide) (fun Lₚ => ?_)
      unfold gz_arr
      rw [if_pos rfl]
      refine congrArg (fun z => Sum.inr (Sum.inl z)) (funext fun j => ?_)
      rw [hz j]
      rfl
  · rw [hu, List.map_cons]
    have hnn := gz_nn (n := s1) (by omega)
    have hao : va_AO C s ∧ (pw_T cy)[t]? = some (cy t, .object C) ∧ 4 ≤ t := by
      rcases ht with ⟨rfl, rfl⟩ | ⟨rfl, rfl⟩
      · exact ⟨hG.2.2.1, rfl, by decide⟩
      · exact ⟨hG.2.2.2.1, rfl, by decide⟩
    refine pw_newq (C := C) (t0 := t) (cA := cy t) (N' := s1) hx hb hown (hts _ hA) hao.1 hG hao.2.1 hw hnn.1 hnn.2 (by omega) hf.1 hf.2 (gx_d hd rfl rfl) (fun q H1 hq hw1 => ?_)
    obtain ⟨e1, e2, e3, e4, e5⟩ := gz_fresh_ok (cy := cy) (sa := sa) hF hq hL
    rw [hu, List.map_cons, List.map_cons] at e3
    have h9 := kk (L ++ [q]) ls H1 locs (List.prefix_append L [q]) e1 (by rw [hF.2.2.2.2.2.2, e2]; exact hl) (by
      rw [e5]
      have e6 : gz_cell cy sa (L ++ [q]) (true, t, s1) (v.2.2.2.2 u.2.2.2.1.length) = .inl (cy t, s1, .inr (.inr (.inr (.inr (fun _ => none))))) := by
        rw [gz_cell_q0 hao.2.2]
        refine congrArg (fun z => Sum.inl (cy t, s1, Sum.inr (Sum.inr (Sum.inr (Sum.inr z))))) (funext fun j => ?_)
        rw [hz j]
        rfl
      rw [e6]
      exact hw1)
    rw [hst, List.map_cons, (List.cons.inj e3).2, e4, hp1] at h9
    exact h9
  · rw [hu]
    obtain ⟨ha, he⟩ := gz_at (cy := cy) (sa := sa) (h := u.2.2.2.2) (pw_nd hw) hL hi hi6
    obtain ⟨hin, hj⟩ := gz_in hj0 hj1 hn
    obtain ⟨k0, hk0⟩ := va_pl_get (X := []) (f := gz_f cy sa L u.2.2.2.1 u.2.2.2.2) ha
    have hk1 := hk0
    have h4 : 4 ≤ t := by omega
    rw [he, gz_cell_q0 h4] at hk0
    have done : ∀ (H1 : Heap) (locs1 : List Loc), va_P D vwCl ((va_pl L (gz_f cy sa L u.2.2.2.1 u.2.2.2.2)).set k0 (gz_al sa L i, .inl (cy t, n, .inr (.inr (.inr (.inr (va_up (fun j => (gz_A (u.2.2.2.2 i j)).map (gz_al sa L)) (Int32.ofInt j).toNatClampNeg (some (gz_al sa L w)))))))) ) H1 → va_D A ((va_pl L (gz_f cy sa L u.2.2.2.1 u.2.2.2.2)).set k0 (gz_al sa L i, .inl (cy t, n, .inr (.inr (.inr (.inr (va_up (fun j => (gz_A (u.2.2.2.2 i j)).map (gz_al sa L)) (Int32.ofInt j).toNatClampNeg (some (gz_al sa L w)))))))) ) → va_S A s.heap H1 locs1 → W p l e R s m args below meth c H1 locs1 cells slots Q (F0 m (u.1 + 1) ls (r.map (gz_r sa L))) := fun H1 locs1 hP hD hS => by
      have hw1 := pw_set hw ha hk1 hP hD hS
      rw [hj] at hw1
      refine kk L ls H1 locs1 (List.prefix_refl L) hL hl ?_
      show pw_W D A s.heap L (gz_f cy sa L u.2.2.2.1 (gz_up u.2.2.2.2 i j.toNat (.inr (.inr (some w))))) H1 locs1
      rw [gz_set (pw_nd hw) hL hi hi6, gz_cell_q (sh := u.2.2.2.1) h4]
      exact hw1
    rcases hv with ⟨rfl, hv⟩ | ⟨rfl, hv⟩ | ⟨rfl, hv⟩
    · obtain ⟨hb2, he2⟩ := gz_at (cy := cy) (sa := sa) (h := u.2.2.2.2) (pw_nd hw) hL hv hw6
      obtain ⟨k2, hk2⟩ := va_pl_get (X := []) (f := gz_f cy sa L u.2.2.2.1 u.2.2.2.2) hb2
      rw [he2] at hk2
      exact va_astq hx hb hG.1 hw.1 hw.2.1 hw.2.2.1 k0 4 k2 3 (r := (RX3, TX3, 16)) hk0 rfl hk2 rfl hin (gx_d hd rfl rfl) done
    · obtain ⟨hb2, he2⟩ := gz_at (cy := cy) (sa := sa) (h := u.2.2.2.2) (pw_nd hw) hL hv hw6
      obtain ⟨k2, hk2⟩ := va_pl_get (X := []) (f := gz_f cy sa L u.2.2.2.1 u.2.2.2.2) hb2
      rw [he2] at hk2
      exact va_astq hx hb hG.1 hw.1 hw.2.1 hw.2.2.1 k0 5 k2 11 (r := (RX11, TX11, 16)) hk0 rfl hk2 rfl hin (gx_d hd rfl rfl) done
    · obtain ⟨hb2, he2⟩ := gz_at (cy := cy) (sa := sa) (h := u.2.2.2.2) (pw_nd hw) hL hv hw6
      obtain ⟨k2, hk2⟩ := va_pl_get (X := []) (f := gz_f cy sa L u.2.2.2.1 u.2.2.2.2) hb2
      rw [he2] at hk2
      exact pw_aastB hx hb hG hw hk0 hk2 hin (gx_d hd rfl rfl) done
  · rw [hu]
    obtain ⟨ha, he⟩ := gz_at (cy := cy) (sa := sa) (h := u.2.2.2.2) (pw_nd hw) hL hi hi6
    obtain ⟨hb2, he2⟩ := gz_at (cy := cy) (sa := sa) (h := u.2.2.2.2) (pw_nd hw) hL hj hj6
    obtain ⟨k0, hk0⟩ := va_pl_get (X := []) (f := gz_f cy sa L u.2.2.2.1 u.2.2.2.2) ha
    obtain ⟨k1, hk1⟩ := va_pl_get (X := []) (f := gz_f cy sa L u.2.2.2.1 u.2.2.2.2) hb2
    have hk2 := hk1
    rw [he] at hk0
    rw [he2] at hk1
    have s1 := gz_nn (n := sp) (by omega)
    have s2 := gz_nn (n := dp) (by omega)
    have s3 := gz_nn (n := n) (by omega)
    have hsum : ((r.map (gz_r sa L)).map fun v => v.category).sum ≤ 8 := by
      rw [List.map_map]
      exact Nat.le_trans (Nat.le_of_eq (congrArg List.sum (List.map_congr_left (fun q _ => gz_c_ok sa L q)))) h8
    have hloc : ((r.map (gz_r sa L)).map fun v => v.category).sum + (nativeFrameWords "java/lang/System" "arraycopy" 5 + 11) ≤ R.locals := by
      have e : nativeFrameWords "java/lang/System" "arraycopy" 5 = 7 := by decide
      rw [e]
      omega
    have done : ∀ (x : (Nat → Int32) ⊕ (Nat → Int64) ⊕ (Nat → UInt32) ⊕ (Nat → UInt64) ⊕ (Nat → Option Nat)) (H1 : Heap) (locs1 : List Loc), gz_arr sa L t (gz_cp u.2.2.2.2 i i1 sp dp n i1) = x → va_P D vwCl ((va_pl L (gz_f cy sa L u.2.2.2.1 u.2.2.2.2)).set k1 (gz_al sa L i1, .inl (cy t, n1, x))) H1 → va_D A ((va_pl L (gz_f cy sa L u.2.2.2.1 u.2.2.2.2)).set k1 (gz_al sa L i1, .inl (cy t, n1, x))) → va_S A s.heap H1 locs1 → W p l e R s m args below meth c H1 locs1 cells slots Q (F0 m (u.1 + 3) ls (r.map (gz_r sa L))) := fun x H1 locs1 hxx hP hD hS => by
      have hw1 := pw_set hw hb2 hk2 hP hD hS
      refine kk L ls H1 locs1 (List.prefix_refl L) hL hl ?_
      show pw_W D A s.heap L (gz_f cy sa L u.2.2.2.1 (gz_cp u.2.2.2.2 i i1 sp dp n)) H1 locs1
      rw [gz_setG (pw_nd hw) hL hj hj6 (h := u.2.2.2.2) (fun z hz => by funext k; unfold gz_cp; rw [if_neg hz])]
      have e6 : gz_cell cy sa L (true, t, n1) (gz_cp u.2.2.2.2 i i1 sp dp n i1) = .inl (cy t, n1, x) := congrArg (fun z => Sum.inl (cy t, n1, z)) hxx
      rw [e6]
      exact hw1
    have hI : ∀ k, gz_I (gz_cp u.2.2.2.2 i i1 sp dp n i1 k) = va_cpy (fun k => gz_I (u.2.2.2.2 i k)) (fun k => gz_I (u.2.2.2.2 i1 k)) sp dp n k := fun k => by
      unfold gz_cp va_cpy
      rw [if_pos rfl]
      split <;> rfl
    have hJ : ∀ k, gz_J (gz_cp u.2.2.2.2 i i1 sp dp n i1 k) = va_cpy (fun k => gz_J (u.2.2.2.2 i k)) (fun k => gz_J (u.2.2.2.2 i1 k)) sp dp n k := fun k => by
      unfold gz_cp va_cpy
      rw [if_pos rfl]
      split <;> rfl
    have ht3 : t = 0 ∨ t = 1 ∨ t = 2 := by omega
    rcases ht3 with rfl | rfl | rfl
    · refine va_copyi (ty := .byte) (f := fun j => Int32.ofInt (gz_I (u.2.2.2.2 i j))) (g := fun j => Int32.ofInt (gz_I (u.2.2.2.2 i1 j))) hx hb (by rw [hml]; exact hl.1.symm) hown (hts _ hC.1) (hts _ hC.2.1) (hts _ hC.2.2.1) (hts _ hC.2.2.2) hG.1 hw.1 hw.2.1 hw.2.2.1 k0 k1 0 0 hk0 hk1 rfl rfl rfl s1.1 s2.1 s3.1 (by rw [s1.2, s3.2]; exact hs0) (by rw [s2.2, s3.2]; exact hd0) (fun k hk => ?_) hR.1 hloc (gx_d hd rfl rfl) (fun H1 locs1 hP hD hS => ?_)
      · rw [s1.2]
        rw [s3.2] at hk
        have hh := hfit rfl k hk
        show (decide (-128 ≤ Int32.ofInt _) && decide (Int32.ofInt _ ≤ 127)) = true
        rw [Bool.and_eq_true, decide_eq_true_eq, decide_eq_true_eq]
        exact ⟨(gz_le (a := -128) ⟨by decide, by decide⟩ ⟨by omega, by omega⟩).mpr hh.1, (gz_le (b := 127) ⟨by omega, by omega⟩ ⟨by decide, by decide⟩).mpr hh.2⟩
      · rw [s1.2, s2.2, s3.2] at hP hD
        refine done _ H1 locs1 ?_ hP hD hS
        refine congrArg Sum.inl (funext fun k => ?_)
        show Int32.ofInt (gz_I (gz_cp u.2.2.2.2 i i1 sp dp n i1 k)) = _
        rw [hI]
        unfold va_cpy
        split <;> rfl
    · refine va_copyi (ty := .int) (f := fun j => Int32.ofInt (gz_I (u.2.2.2.2 i j))) (g := fun j => Int32.ofInt (gz_I (u.2.2.2.2 i1 j))) hx hb (by rw [hml]; exact hl.1.symm) hown (hts _ hC.1) (hts _ hC.2.1) (hts _ hC.2.2.1) (hts _ hC.2.2.2) hG.1 hw.1 hw.2.1 hw.2.2.1 k0 k1 1 1 hk0 hk1 rfl rfl rfl s1.1 s2.1 s3.1 (by rw [s1.2, s3.2]; exact hs0) (by rw [s2.2, s3.2]; exact hd0) (fun k hk => rfl) hR.1 hloc (gx_d hd rfl rfl) (fun H1 locs1 hP hD hS => ?_)
      rw [s1.2, s2.2, s3.2] at hP hD
      refine done _ H1 locs1 ?_ hP hD hS
      refine congrArg Sum.inl (funext fun k => ?_)
      show Int32.ofInt (gz_I (gz_cp u.2.2.2.2 i i1 sp dp n i1 k)) = _
      rw [hI]
      unfold va_cpy
      split <;> rfl
    · refine va_copyl (ty := .long) (f := fun j => gz_J (u.2.2.2.2 i j)) (g := fun j => gz_J (u.2.2.2.2 i1 j)) hx hb (by rw [hml]; exact hl.1.symm) hown (hts _ hC.1) (hts _ hC.2.1) (hts _ hC.2.2.1) (hts _ hC.2.2.2) hG.1 hw.1 hw.2.1 hw.2.2.1 k0 k1 2 2 hk0 hk1 rfl rfl rfl s1.1 s2.1 s3.1 (by rw [s1.2, s3.2]; exact hs0) (by rw [s2.2, s3.2]; exact hd0) (fun k hk => rfl) hR.1 hloc (gx_d hd rfl rfl) (fun H1 locs1 hP hD hS => ?_)
      rw [s1.2, s2.2, s3.2] at hP hD
      refine done _ H1 locs1 ?_ hP hD hS
      refine congrArg (fun z => Sum.inr (Sum.inl z)) (funext fun k => ?_)
      exact hJ k
  · rw [hu]
    have hsum : ((r.map (gz_r sa L)).map fun v => v.category).sum ≤ 8 := by
      rw [List.map_map]
      exact Nat.le_trans (Nat.le_of_eq (congrArg List.sum (List.map_congr_left (fun q _ => gz_c_ok sa L q)))) h8
    exact W.objInit hx hb hown (hts _ hA1) (hts _ hA2) (hts _ hA3) (g := F0 m u.1 ls (.ref (gz_al sa L b) :: r.map (gz_r sa L))) rfl (by rw [hml]; exact hl.1) rfl (gx_d hd rfl rfl) hR.1 (by show 2 * 0 + _ + 12 ≤ _; omega) (kk L ls H locs (List.prefix_refl L) hL hl hw)
  · obtain ⟨ha, he⟩ := gz_at (cy := cy) (sa := sa) (h := u.2.2.2.2) (pw_nd hw) hL hi hi6
    obtain ⟨k0, hk0⟩ := va_pl_get (X := []) (f := gz_f cy sa L u.2.2.2.1 u.2.2.2.2) ha
    rw [he] at hk0
    have hsum : ((r.map (gz_r sa L)).map fun v => v.category).sum ≤ 8 := by
      rw [List.map_map]
      exact Nat.le_trans (Nat.le_of_eq (congrArg List.sum (List.map_congr_left (fun q _ => gz_c_ok sa L q)))) h8
    have enm : ("[" ++ FieldType.byte.toString) = "[B" := by decide
    have hnm : s.vm.findClass "[B" = some (cy 0) := by
      rw [← enm]
      exact (hG.1.2 0 (cy 0, .byte) rfl).2
    rw [hu]
    refine va_clone (ty := .byte) (cA := cy 0) (x := (s1, .inl (fun j => Int32.ofInt (gz_I (u.2.2.2.2 i j))))) hx hb (by rw [hml]; exact hl.1.symm) hown (hts _ hC.1) (hts _ hC.2.1) (hts _ hC.2.2.1) (hts _ hC.2.2.2.1) (hts _ hC.2.2.2.2) hCl hG.1 hw.1 hw.2.1 hw.2.2.1 hw.2.2.2 k0 0 hk0 rfl hnm (fun j v hv => va_fit (F := fun j => .int (Int32.ofInt (gz_I (u.2.2.2.2 i j)))) (fun k hk => ?_) j v hv) hR.1 (by omega) hf.1 hf.2 (gx_d hd rfl rfl) (fun q H1 _ hP hD hS => ?_)
    · have hh := hby k hk
      show (decide (-128 ≤ Int32.ofInt _) && decide (Int32.ofInt _ ≤ 127)) = true
      rw [Bool.and_eq_true, decide_eq_true_eq, decide_eq_true_eq]
      exact ⟨(gz_le (a := -128) ⟨by decide, by decide⟩ ⟨by omega, by omega⟩).mpr hh.1, (gz_le (b := 127) ⟨by omega, by omega⟩ ⟨by decide, by decide⟩).mpr hh.2⟩
    · obtain ⟨hq, hw1⟩ := pw_push hw hP hD hS
      obtain ⟨e1, e2, e3, e4, e5⟩ := gz_fresh_ok (cy := cy) (sa := sa) hF hq hL
      rw [hu, List.map_cons, List.map_cons] at e3
      have h9 := kk (L ++ [q]) ls H1 locs (List.prefix_append L [q]) e1 (by rw [hF.2.2.2.2.2.2, e2]; exact hl) (by
        rw [e5]
        have e6 : gz_cell cy sa (L ++ [q]) (true, 0, s1) (v.2.2.2.2 u.2.2.2.1.length) = .inl (cy 0, s1, .inl (fun j => Int32.ofInt (gz_I (u.2.2.2.2 i j)))) := by
          refine congrArg (fun z => Sum.inl (cy 0, s1, Sum.inl z)) (funext fun j => ?_)
          rw [hz j]
          rfl
        rw [e6]
        exact hw1)
      rw [hst, List.map_cons, (List.cons.inj e3).2, e4, hp1] at h9
      exact h9
  · obtain ⟨ha, he⟩ := gz_at (cy := cy) (sa := sa) (h := u.2.2.2.2) (pw_nd hw) hL hi hi6
    obtain ⟨k0, hk0⟩ := va_pl_get (X := []) (f := gz_f cy sa L u.2.2.2.1 u.2.2.2.2) ha
    rw [he] at hk0
    have enm : ("[" ++ FieldType.byte.toString) = "[B" := by decide
    have hnm : s.vm.findClass "[B" = some (cy 0) := by
      rw [← enm]
      exact (hG.1.2 0 (cy 0, .byte) rfl).2
    have h9 := kk L ls H locs (List.prefix_refl L) hL hl hw
    rw [hu]
    rw [show ((u.1 + 3, u.2) : gz_S).2.2.1 = Sum.inr (Sum.inr (some i)) :: r from hu] at h9
    exact va_castA (nm := "[B") hx hb hown (hts _ hA) hw.1 k0 hk0 hnm (gx_d hd rfl rfl) h9
  · obtain ⟨q1, q2⟩ := gz_pos (pw_nd hw) (show x < L.length from by rw [hL]; exact hx1) hx6 sa
    obtain ⟨q3, q4⟩ := gz_pos (pw_nd hw) (show y < L.length from by rw [hL]; exact hy1) hy6 sa
    have e : some (gz_al sa L x) = some (gz_al sa L y) ↔ x = y := ⟨fun h => by
      have h9 := Option.some.inj h
      rw [← q1, ← q3, h9], fun h => by rw [h]⟩
    have h9 := kk L ls H locs (List.prefix_refl L) hL hl hw
    rw [hu]
    cases eq with
    | true =>
      refine lv_acmp_eq (rx := some (gz_al sa L x)) (ry := some (gz_al sa L y)) (rest := r.map (gz_r sa L)) hx hb (gx_d hd rfl rfl) (gx_t_ok ht) (fun q => ?_) (fun q => ?_)
      · rw [show (decide (x = y) == true) = true from by rw [decide_eq_true (e.mp q)]; rfl] at h9
        exact h9
      · rw [show (decide (x = y) == true) = false from by rw [decide_eq_false (fun h => q (e.mpr h))]; rfl] at h9
        exact h9
    | false =>
      refine lv_acmp_ne (rx := some (gz_al sa L x)) (ry := some (gz_al sa L y)) (rest := r.map (gz_r sa L)) hx hb (gx_d hd rfl rfl) (gx_t_ok ht) (fun q => ?_) (fun q => ?_)
      · rw [show (decide (x = y) == false) = true from by rw [decide_eq_false (fun h => q (e.mpr h))]; rfl] at h9
        exact h9
      · rw [show (decide (x = y) == false) = false from by rw [decide_eq_true (e.mp q)]; rfl] at h9
        exact h9
end MK
