/-! MAKING: shapes grow; what lies beyond is 0 and none. -/
def gc_Z (sh : gz_Sh) (I : gr_I) (J : gr_J) (A : gc_A) : Prop := ∀ i, sh.length ≤ i → ∀ k, I i k = 0 ∧ J i k = 0 ∧ A i k = none
def gc_OK (sh : gz_Sh) (I : gr_I) (J : gr_J) (A : gc_A) : Prop := gz_wf sh (gc_h sh I J A) ∧ gc_Z sh I J A
theorem gc_nth2 {l : List Nat} (h : l.all (fun c => Nat.ble c 2) = true) : ∀ k, gr_nth l k ≤ 2 := by
  induction l with
  | nil => intro k; exact Nat.zero_le _
  | cons x l ih =>
    intro k
    rw [List.all_cons, Bool.and_eq_true] at h
    cases k with
    | zero => exact Nat.le_of_ble_eq_true h.1
    | succ k => exact ih h.2 k
theorem gc_hpre {sh e : gz_Sh} {I : gr_I} {J : gr_J} {A : gc_A} {i : Nat} (h : i < sh.length) : gc_h (sh ++ e) I J A i = gc_h sh I J A i := by
  funext k
  unfold gc_h gc_ty
  rw [List.getElem?_append_left h]
def gc_dvc (u c : Nat) : gz_V := match c with
  | 0 => .inl 0
  | 1 => .inr (.inl 0)
  | 2 => .inr (.inr none)
  | 5 => .inr (.inr (some 0))
  | n + 10 => .inr (.inr (some (u + n % 1000)))
  | _ => .inl 0
theorem gc_hnew {sh : gz_Sh} {x : Bool × Nat × Nat} {I : gr_I} {J : gr_J} {A : gc_A} (hz : gc_Z sh I J A) (k : Nat) : gc_h (sh ++ [x]) I J A sh.length k = gc_dvc sh.length (gc_tx x k) := by
  obtain ⟨h1, h2, h3⟩ := hz sh.length (Nat.le_refl _) k
  unfold gc_h
  rw [show gc_ty (sh ++ [x]) sh.length k = gc_tx x k from by unfold gc_ty; rw [List.getElem?_append_right (Nat.le_refl _), Nat.sub_self]; rfl, h1, h2, h3]
  generalize gc_tx x k = c
  match c with
  | 0 => rfl
  | 1 => rfl
  | 2 => rfl
  | 3 => rfl
  | 4 => rfl
  | 5 => rfl
  | 6 => rfl
  | 7 => rfl
  | 8 => rfl
  | 9 => rfl
  | n + 10 => rfl
theorem gz_okv_le {n m : Nat} {v : gz_V} (h : gz_okv n v) (hn : n ≤ m) : gz_okv m v := by
  rcases v with z | x | o
  · exact trivial
  · exact trivial
  · cases o with
    | none => exact trivial
    | some i => exact Or.imp (fun q => Nat.lt_of_lt_of_le q hn) id h
theorem gc_OKx {sh : gz_Sh} {x : Bool × Nat × Nat} {I : gr_I} {J : gr_J} {A : gc_A} (h : gc_OK sh I J A) (hx : ∀ k, gc_tx x k ≤ 2) : gc_OK (sh ++ [x]) I J A := by
  refine ⟨fun i hi k => ?_, fun i hi k => h.2 i (by rw [List.length_append] at hi; omega) k⟩
  rw [List.length_append, List.length_singleton] at hi ⊢
  by_cases e : i < sh.length
  · rw [gc_hpre e]
    exact gz_okv_le (h.1 i e k) (Nat.le_succ _)
  · have e2 : i = sh.length := by omega
    subst e2
    rw [gc_hnew h.2]
    have h2 := hx k
    revert h2
    generalize gc_tx x k = c
    intro h2
    match c, h2 with
    | 0, _ => exact trivial
    | 1, _ => exact trivial
    | 2, _ => exact trivial
theorem gc_hUA {sh : gz_Sh} {x : Bool × Nat × Nat} {I : gr_I} {J : gr_J} {A : gc_A} {p k : Nat} {o : Option Nat} (hs : sh[p]? = some x) (ht : gc_tx x k = 2) : gz_up (gc_h sh I J A) p k (.inr (.inr o)) = gc_h sh I J (gc_u A p k o) := by
  funext a j
  by_cases h1 : a = p
  · subst h1
    by_cases h2 : j = k
    · subst h2
      have e1 : gz_up (gc_h sh I J A) a j (.inr (.inr o)) a j = .inr (.inr o) := by simp [gz_up]
      have e2 : gc_u A a j o a j = o := by simp [gc_u]
      rw [e1]
      unfold gc_h
      rw [gc_tyx hs, ht, e2]
    · have e1 : gz_up (gc_h sh I J A) a k (.inr (.inr o)) a j = gc_h sh I J A a j := by simp [gz_up, h2]
      have e2 : gc_u A a k o a j = A a j := by simp [gc_u, h2]
      rw [e1]
      unfold gc_h
      rw [e2]
  · have e1 : gz_up (gc_h sh I J A) p k (.inr (.inr o)) a j = gc_h sh I J A a j := by simp [gz_up, h1]
    have e2 : gc_u A p k o a j = A a j := by simp [gc_u, h1]
    rw [e1]
    unfold gc_h
    rw [e2]
theorem gc_OKu {sh : gz_Sh} {x : Bool × Nat × Nat} {I : gr_I} {J : gr_J} {A : gc_A} {p k q : Nat} (h : gc_OK sh I J A) (hs : sh[p]? = some x) (ht : gc_tx x k = 2) (hq : q < sh.length) : gc_OK sh I J (gc_u A p k (some q)) := by
  have hp : p < sh.length := (List.getElem?_eq_some_iff.mp hs).1
  refine ⟨fun i hi j => ?_, fun i hi j => ?_⟩
  · rw [← gc_hUA hs ht]
    unfold gz_up
    by_cases h1 : i = p
    · rw [if_pos h1]
      by_cases h2 : j = k
      · rw [if_pos h2]; exact Or.inl hq
      · rw [if_neg h2]; exact h.1 i hi j
    · rw [if_neg h1]; exact h.1 i hi j
  · have h9 := h.2 i hi j
    refine ⟨h9.1, h9.2.1, ?_⟩
    unfold gc_u
    rw [if_neg (by omega)]
    exact h9.2.2
/-- new: an object -/
theorem gc_Ynew {E : gv_E} {Q : gz_S → Nat → Nat → Prop} {pc : Nat} {lv : List (Nat × gz_V)} {st : List gz_V} {sh : gz_Sh} {I : gr_I} {J : gr_J} {A : gc_A} {ix ci n r : Nat} {C : String} {T : u_T} {ty : Nat → FieldType} (hD : gv_D E) (hi : E.2.2.2.2.2.2 pc = some (.new ix)) (hv : vwCl[ci]? = some (C, T, n)) (hN : gz_lN E.1 E.2.1 ix C T n ty) (hl : sh.length < 1000000) (hok : gc_OK sh I J A) (hlv : ∀ q ∈ lv, gz_okv sh.length q.2) (hst : ∀ q ∈ st, gz_okv sh.length q) (hty : ∀ k, k < n → gc_dvc sh.length (gc_tx (false, ci, n) k) = gz_dv (ty k)) (hr : r = sh.length) (kk : gv_Y E (fun v a s => Q v (1 + a) (n + s)) (pc + 3, lv, .inr (.inr (some r)) :: st, sh ++ [(false, ci, n)], gc_h (sh ++ [(false, ci, n)]) I J A)) : gv_Y E Q (pc, lv, st, sh, gc_h sh I J A) := by
  subst hr
  exact gv_Yone (u' := (pc + 3, lv, .inr (.inr (some sh.length)) :: st, sh ++ [(false, ci, n)], gc_h (sh ++ [(false, ci, n)]) I J A)) (a := 1) (s := n) (Or.inr (Or.inr (Or.inr (Or.inr (Or.inr (Or.inr (Or.inr (Or.inr (Or.inl (Or.inl ⟨ix, ci, C, T, n, ty, hD pc _ hi, hv, hN, ⟨hl, hok.1, rfl, fun i hi => gc_hpre hi, hlv, hst, rfl⟩, fun k hk => (gc_hnew hok.2 k).trans (hty k hk), rfl, rfl, rfl, rfl⟩))))))))))  kk
/-- newarray -/
theorem gc_Yarr {E : gv_E} {Q : gz_S → Nat → Nat → Prop} {pc : Nat} {lv : List (Nat × gz_V)} {st : List gz_V} {sh : gz_Sh} {I : gr_I} {J : gr_J} {A : gc_A} {at_ : ArrayType} {t n r : Nat} (hD : gv_D E) (hi : E.2.2.2.2.2.2 pc = some (.newarray at_)) (ha : gz_aty at_ = some t) (hw : Cond.arrayClass (newarray.typeOf at_) ∈ E.1) (hn : n ≤ 60000000) (ht : t ≤ 3) (hl : sh.length < 1000000) (hok : gc_OK sh I J A) (hlv : ∀ q ∈ lv, gz_okv sh.length q.2) (hst : ∀ q ∈ st, gz_okv sh.length q) (hr : r = sh.length) (kk : gv_Y E (fun v a s => Q v (1 + a) (n + s)) (pc + 2, lv, .inr (.inr (some r)) :: st, sh ++ [(true, t, n)], gc_h (sh ++ [(true, t, n)]) I J A)) : gv_Y E Q (pc, lv, .inl (n : Int) :: st, sh, gc_h sh I J A) := by
  subst hr
  refine gv_Yone (u' := (pc + 2, lv, .inr (.inr (some sh.length)) :: st, sh ++ [(true, t, n)], gc_h (sh ++ [(true, t, n)]) I J A)) (a := 1) (s := n) (Or.inr (Or.inr (Or.inr (Or.inr (Or.inr (Or.inr (Or.inr (Or.inr (Or.inl (Or.inr (Or.inl ⟨at_, t, n, st, hD pc _ hi, ha, hw, rfl, hn, ⟨hl, hok.1, rfl, fun i hi => gc_hpre hi, hlv, fun q hq => ?_, rfl⟩, fun k => ?_, rfl, rfl, rfl, rfl⟩))))))))))) kk
  · rcases List.mem_cons.mp hq with rfl | h9
    · exact trivial
    · exact hst q h9
  · have h9 := gc_hnew (x := (true, t, n)) hok.2 k
    refine h9.trans ?_
    match t, ht with
    | 0, _ => rfl
    | 1, _ => rfl
    | 2, _ => rfl
    | 3, _ => rfl
/-- anewarray -/
theorem gc_Yaar {E : gv_E} {Q : gz_S → Nat → Nat → Prop} {pc : Nat} {lv : List (Nat × gz_V)} {st : List gz_V} {sh : gz_Sh} {I : gr_I} {J : gr_J} {A : gc_A} {ix t n r : Nat} {C : String} (hD : gv_D E) (hi : E.2.2.2.2.2.2 pc = some (.anewarray ix)) (ha : t = 4 ∧ C = RX3 ∨ t = 5 ∧ C = RX11) (hw : Cond.classLink E.2.1 ix C ∈ E.1) (hn : n ≤ 60000000) (hl : sh.length < 1000000) (hok : gc_OK sh I J A) (hlv : ∀ q ∈ lv, gz_okv sh.length q.2) (hst : ∀ q ∈ st, gz_okv sh.length q) (hr : r = sh.length) (kk : gv_Y E (fun v a s => Q v (1 + a) (n + s)) (pc + 3, lv, .inr (.inr (some r)) :: st, sh ++ [(true, t, n)], gc_h (sh ++ [(true, t, n)]) I J A)) : gv_Y E Q (pc, lv, .inl (n : Int) :: st, sh, gc_h sh I J A) := by
  subst hr
  refine gv_Yone (u' := (pc + 3, lv, .inr (.inr (some sh.length)) :: st, sh ++ [(true, t, n)], gc_h (sh ++ [(true, t, n)]) I J A)) (a := 1) (s := n) (Or.inr (Or.inr (Or.inr (Or.inr (Or.inr (Or.inr (Or.inr (Or.inr (Or.inl (Or.inr (Or.inr (Or.inl ⟨ix, t, n, C, st, hD pc _ hi, ha, hw, rfl, hn, ⟨hl, hok.1, rfl, fun i hi => gc_hpre hi, hlv, fun q hq => ?_, rfl⟩, fun k => ?_, rfl, rfl, rfl, rfl⟩)))))))))))) kk
  · rcases List.mem_cons.mp hq with rfl | h9
    · exact trivial
    · exact hst q h9
  · have h9 := gc_hnew (x := (true, t, n)) hok.2 k
    refine h9.trans ?_
    rcases ha with ⟨rfl, _⟩ | ⟨rfl, _⟩ <;> rfl
/-- Object's own constructor -/
theorem gc_Yobj {E : gv_E} {Q : gz_S → Nat → Nat → Prop} {pc ix b : Nat} {lv : List (Nat × gz_V)} {st : List gz_V} {sh : gz_Sh} {h : gz_H} (hD : gv_D E) (hi : E.2.2.2.2.2.2 pc = some (.invokespecial ix)) (hs : (st.map gz_c).sum ≤ 8) (h1 : Cond.methodLink E.2.1 ix objectInit ∈ E.1) (h2 : Cond.instanceMethod objectInit ∈ E.1) (h3 : Cond.code objectInit ⟨#[0xb1]⟩ 1 none ∈ E.1) (kk : gv_Y E Q (pc + 3, lv, st, sh, h)) : gv_Y E Q (pc, lv, .inr (.inr (some b)) :: st, sh, h) := by
  refine gv_Yone (u' := (pc + 3, lv, st, sh, h)) (a := 0) (s := 0) (Or.inr (Or.inr (Or.inr (Or.inr (Or.inr (Or.inr (Or.inr (Or.inr (Or.inl (Or.inr (Or.inr (Or.inr (Or.inr (Or.inr (Or.inl ⟨ix, b, st, hD pc _ hi, rfl, hs, h1, h2, h3, rfl, rfl, rfl⟩))))))))))))))) ?_
  obtain ⟨n, v, a, s, g, q⟩ := kk
  exact ⟨n, v, a, s, g, (show Q v (0 + a) (0 + s) from by rw [Nat.zero_add, Nat.zero_add]; exact q)⟩
theorem gc_gx {sh : gz_Sh} {x y : Bool × Nat × Nat} {p : Nat} (h : sh[p]? = some y) : (sh ++ [x])[p]? = some y := by
  rw [List.getElem?_append_left (List.getElem?_eq_some_iff.mp h).1]
  exact h
theorem gc_gl {sh : gz_Sh} {x : Bool × Nat × Nat} {p : Nat} (h : p = sh.length) : (sh ++ [x])[p]? = some x := by
  subst h
  rw [List.getElem?_append_right (Nat.le_refl _), Nat.sub_self]
  rfl
theorem gc_len1 {sh : gz_Sh} {x : Bool × Nat × Nat} {n : Nat} (h : sh.length = n) : (sh ++ [x]).length = n + 1 := by
  rw [List.length_append, h]
  rfl
theorem gv_evY {ws0 : List Cond} {tb : String → gz_T} {d : Nat} {M : gx_M} {av : List gz_V} {sh shₚ : gz_Sh} {h hₚ : gz_H} {code : Nat → Option Instr} {r : Option gz_V} {a0 s0 : Nat} (hn : (av.map gz_c).sum ≤ M.2.2.1) (hX : gv_Y (ws0, M.1.cls, tb M.1.cls, M.2.1, M.2.2.1, gz_Ev ws0 tb d, code) (fun v a s => gz_fin M.2.1 M.2.2.2 v r ∧ v.2.2.2.1 = shₚ ∧ v.2.2.2.2 = hₚ ∧ a = a0 ∧ s = s0) (0, gz_args 0 av, [], sh, h)) (hp : plainName M.1.cls = true := by decide) : gz_Ev ws0 tb (d + 1) M av sh h r shₚ hₚ a0 s0 := by
  obtain ⟨n, v, a, s, h1, h2, h3, h4, rfl, rfl⟩ := hX
  exact Or.inr (Or.inr ⟨hp, hn, n, v, h1, h2, h3, h4⟩)
theorem gv_evYi {ws0 : List Cond} {tb : String → gz_T} {d : Nat} {M : gx_M} {av : List gz_V} {sh shₚ : gz_Sh} {h hₚ : gz_H} {code : Nat → Option Instr} {r : Option gz_V} {a0 s0 : Nat} (hi : M.1.name = "<init>") (hn : (av.map gz_c).sum ≤ M.2.2.1) (hX : gv_Y (ws0, M.1.cls, gz_fi (tb M.1.cls), M.2.1, M.2.2.1, gz_Ev ws0 tb d, code) (fun v a s => gz_fin M.2.1 M.2.2.2 v r ∧ v.2.2.2.1 = shₚ ∧ v.2.2.2.2 = hₚ ∧ a = a0 ∧ s = s0) (0, gz_args 0 av, [], sh, h)) (hp : plainName M.1.cls = true := by decide) : gz_Ev ws0 tb (d + 1) M av sh h r shₚ hₚ a0 s0 := by
  obtain ⟨n, v, a, s, h1, h2, h3, h4, rfl, rfl⟩ := hX
  exact Or.inl (Or.inr ⟨hi, hp, hn, n, v, h1, h2, h3, h4⟩)
theorem gc_Yspec {E : gv_E} {Q : gz_S → Nat → Nat → Prop} {pc ix b a s : Nat} {M : gx_M} {As st stk : List gz_V} {lv : List (Nat × gz_V)} {sh shₚ : gz_Sh} {h hₚ : gz_H} (hD : gv_D E) (hi : E.2.2.2.2.2.2 pc = some (.invokespecial ix)) (hI : gz_lI E.1 E.2.1 ix M As.length) (hk : stk = As.reverse ++ .inr (.inr (some b)) :: st) (hs : (st.map gz_c).sum ≤ 8) (hK : E.2.2.2.2.2.1 M (.inr (.inr (some b)) :: As) sh h none shₚ hₚ a s) (hlv : ∀ q ∈ lv, gz_okv sh.length q.2) (hst : ∀ q ∈ st, gz_okv sh.length q) (kk : gv_Y E (fun v a' s' => Q v (a + a') (s + s')) (pc + 3, lv, st, shₚ, hₚ)) : gv_Y E Q (pc, lv, stk, sh, h) :=
  gv_Yone (u' := (pc + 3, lv, st, shₚ, hₚ)) (a := a) (s := s) (Or.inr (Or.inr (Or.inr (Or.inr (Or.inr (Or.inr (Or.inr (Or.inr (Or.inr ⟨ix, M, As, b, st, hD pc _ hi, hk, hI, hs, hK, Or.inr ⟨hlv, hst⟩, rfl, rfl, rfl⟩))))))))) kk
theorem gc_okc {n i : Nat} {v : gz_V} {l : List (Nat × gz_V)} (h : gz_okv n v) (hl : ∀ q ∈ l, gz_okv n q.2) : ∀ q ∈ ((i, v) :: l), gz_okv n q.2 := fun q hq => by
  rcases List.mem_cons.mp hq with rfl | h9
  · exact h
  · exact hl q h9
theorem gc_oks {n : Nat} {v : gz_V} {l : List gz_V} (h : gz_okv n v) (hl : ∀ q ∈ l, gz_okv n q) : ∀ q ∈ (v :: l), gz_okv n q := fun q hq => by
  rcases List.mem_cons.mp hq with rfl | h9
  · exact h
  · exact hl q h9
theorem gc_ok0 {α : Type} {P : α → Prop} : ∀ q ∈ ([] : List α), P q := fun q hq => nomatch hq
theorem gv_Xm {E : gv_E} {Q Q' : gz_S → Prop} {u : gz_S} (h : ∀ v, Q v → Q' v) (k : gv_X E Q u) : gv_X E Q' u := by
  obtain ⟨n, v, a, b⟩ := k
  exact ⟨n, v, a, h v b⟩
theorem gv_Xz {E : gv_E} {Q : gz_S → Prop} {u : gz_S} (h : Q u) : gv_X E Q u := ⟨0, u, ⟨rfl, rfl, rfl⟩, h⟩
theorem gv_YofX {E : gv_E} {Q : gz_S → Nat → Nat → Prop} {u : gz_S} (h : gv_X E (fun v => gv_Y E Q v) u) : gv_Y E Q u := by
  obtain ⟨n, v, h1, n2, w, a, s, h2, hq⟩ := h
  have h3 := gz_to_trans h1 h2
  rw [Nat.zero_add, Nat.zero_add] at h3
  exact ⟨n + n2, w, a, s, h3, hq⟩
def gc_Ei2 (ws0 : List Cond) (tb : String → gz_T) (d : Nat) (M : gx_M) (l : Nat → Option Instr) : gv_E := (ws0, RX2, gz_fi gc_T2, M.2.1, M.2.2.1, gz_Ev ws0 tb d, l)
def gc_Ei3 (ws0 : List Cond) (tb : String → gz_T) (d : Nat) (M : gx_M) (l : Nat → Option Instr) : gv_E := (ws0, RX3, gz_fi gc_T3, M.2.1, M.2.2.1, gz_Ev ws0 tb d, l)
def gc_Ei4 (ws0 : List Cond) (tb : String → gz_T) (d : Nat) (M : gx_M) (l : Nat → Option Instr) : gv_E := (ws0, RX4, gz_fi gc_T4, M.2.1, M.2.2.1, gz_Ev ws0 tb d, l)
def gc_Ei11 (ws0 : List Cond) (tb : String → gz_T) (d : Nat) (M : gx_M) (l : Nat → Option Instr) : gv_E := (ws0, RX11, gz_fi gc_T11, M.2.1, M.2.2.1, gz_Ev ws0 tb d, l)
