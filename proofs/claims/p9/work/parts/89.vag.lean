/-! MAKING FORMS: two of its references are null until they are set (f says which slots). -/
def gc_hP (f : Nat → Bool) (sh : gz_Sh) (I : gr_I) (J : gr_J) (A : gc_A) (p : Nat) : gz_H := fun i k => if i = p ∧ f k = true then .inr (.inr none) else gc_h sh I J A i k
def gc_nu6 (k : Nat) : Bool := Nat.beq k 6 || Nat.beq k 7
def gc_nu7 (k : Nat) : Bool := Nat.beq k 7
def gc_OKP (f : Nat → Bool) (sh : gz_Sh) (I : gr_I) (J : gr_J) (A : gc_A) (p : Nat) : Prop := gz_wf sh (gc_hP f sh I J A p) ∧ gc_Z sh I J A
section HP
variable {f : Nat → Bool} {sh : gz_Sh} {I : gr_I} {J : gr_J} {A : gc_A} {p : Nat}
theorem gc_hPpre {e : gz_Sh} {i : Nat} (h : i < sh.length) : gc_hP f (sh ++ e) I J A p i = gc_hP f sh I J A p i := by
  funext k
  unfold gc_hP
  rw [gc_hpre h]
theorem gc_hPnew {x : Bool × Nat × Nat} (hz : gc_Z sh I J A) (hp : p < sh.length) (k : Nat) : gc_hP f (sh ++ [x]) I J A p sh.length k = gc_dvc sh.length (gc_tx x k) := by
  unfold gc_hP
  rw [if_neg (fun h => by have := h.1; omega)]
  exact gc_hnew hz k
theorem gc_OKPx {x : Bool × Nat × Nat} (h : gc_OKP f sh I J A p) (hp : p < sh.length) (hx : ∀ k, gc_tx x k ≤ 2) : gc_OKP f (sh ++ [x]) I J A p := by
  refine ⟨fun i hi k => ?_, fun i hi k => h.2 i (by rw [List.length_append] at hi; omega) k⟩
  rw [List.length_append, List.length_singleton] at hi ⊢
  by_cases e : i < sh.length
  · rw [gc_hPpre e]
    exact gz_okv_le (h.1 i e k) (Nat.le_succ _)
  · have e2 : i = sh.length := by omega
    subst e2
    rw [gc_hPnew h.2 hp]
    have h2 := hx k
    revert h2
    generalize gc_tx x k = c
    intro h2
    match c, h2 with
    | 0, _ => exact trivial
    | 1, _ => exact trivial
    | 2, _ => exact trivial
theorem gc_hPA {x : Bool × Nat × Nat} {k : Nat} {o : Option Nat} (hs : sh[p]? = some x) (ht : gc_tx x k = 2) (hf : f k = false) : gz_up (gc_hP f sh I J A p) p k (.inr (.inr o)) = gc_hP f sh I J (gc_u A p k o) p := by
  funext a j
  have h9 := congrFun (congrFun (gc_hUA (I := I) (J := J) (A := A) (o := o) hs ht) a) j
  by_cases h1 : a = p ∧ j = k
  · obtain ⟨rfl, rfl⟩ := h1
    have e1 : gz_up (gc_hP f sh I J A a) a j (.inr (.inr o)) a j = .inr (.inr o) := by simp [gz_up]
    have e3 : gz_up (gc_h sh I J A) a j (.inr (.inr o)) a j = .inr (.inr o) := by simp [gz_up]
    rw [e1, ← e3, h9]
    unfold gc_hP
    rw [if_neg (fun h => by rw [hf] at h; cases h.2)]
  · have e1 : ∀ h : gz_H, gz_up h p k (.inr (.inr o)) a j = h a j := fun h => by
      unfold gz_up
      by_cases h2 : a = p
      · rw [if_pos h2, if_neg (fun h3 => h1 ⟨h2, h3⟩)]
      · rw [if_neg h2]
    rw [e1] at h9 ⊢
    unfold gc_hP
    rw [h9]
theorem gc_OKPu {x : Bool × Nat × Nat} {k q : Nat} (h : gc_OKP f sh I J A p) (hs : sh[p]? = some x) (ht : gc_tx x k = 2) (hf : f k = false) (hq : q < sh.length) : gc_OKP f sh I J (gc_u A p k (some q)) p := by
  have hp : p < sh.length := (List.getElem?_eq_some_iff.mp hs).1
  refine ⟨fun i hi j => ?_, fun i hi j => ?_⟩
  · rw [← gc_hPA hs ht hf]
    unfold gz_up
    by_cases h1 : i = p
    · rw [if_pos h1]
      by_cases h2 : j = k
      · rw [if_pos h2]; exact Or.inl hq
      · rw [if_neg h2]; exact h.1 i hi j
    · rw [if_neg h1]; exact h.1 i hi j
  · have h9 := h.2 i hi j
    refine ⟨h9.1, h9.2.1, ?_⟩
    unfold gc_u
    rw [if_neg (by omega)]
    exact h9.2.2
/-- slot k, the next that is set: its place is the one that gc_h has -/
theorem gc_hPset {g : Nat → Bool} {k : Nat} {v : gz_V} (hk : f k = true) (hg : ∀ j, ¬ j = k → g j = f j) (hgk : g k = false) (hv : gc_h sh I J A p k = v) : gz_up (gc_hP f sh I J A p) p k v = gc_hP g sh I J A p := by
  funext a j
  by_cases h1 : a = p
  · subst h1
    by_cases h2 : j = k
    · subst h2
      have e1 : gz_up (gc_hP f sh I J A a) a j v a j = v := by simp [gz_up]
      rw [e1]
      unfold gc_hP
      rw [if_neg (fun h => by rw [hgk] at h; cases h.2), hv]
    · have e1 : gz_up (gc_hP f sh I J A a) a k v a j = gc_hP f sh I J A a a j := by simp [gz_up, h2]
      rw [e1]
      unfold gc_hP
      rw [hg j h2]
  · have e1 : gz_up (gc_hP f sh I J A p) p k v a j = gc_hP f sh I J A p a j := by simp [gz_up, h1]
    rw [e1]
    unfold gc_hP
    rw [if_neg (fun h => h1 h.1), if_neg (fun h => h1 h.1)]
theorem gc_OKPset {g : Nat → Bool} {k q : Nat} (h : gc_OKP f sh I J A p) (hg : ∀ j, ¬ j = k → g j = f j) (hgk : g k = false) (hv : gc_h sh I J A p k = .inr (.inr (some q))) (hq : q < sh.length) : gc_OKP g sh I J A p := by
  refine ⟨fun i hi j => ?_, h.2⟩
  have h9 := h.1 i hi j
  unfold gc_hP at h9 ⊢
  by_cases h1 : i = p
  · by_cases h2 : j = k
    · subst h1
      subst h2
      rw [if_neg (fun h => by rw [hgk] at h; cases h.2), hv]
      exact Or.inl hq
    · rw [hg j h2]; exact h9
  · rw [if_neg (fun h => h1 h.1)] at h9 ⊢
    exact h9
theorem gc_hP0 (hf : ∀ k, f k = false) : gc_hP f sh I J A p = gc_h sh I J A := by
  funext i k
  unfold gc_hP
  rw [if_neg (fun h => by rw [hf] at h; cases h.2)]
/-- ints of slots that are still null may change -/
theorem gc_hPI {k : Nat} {z : Int} (hk : f k = true) : gc_hP f sh I J A p = gc_hP f sh (gr_u I p k z) J A p := by
  funext i j
  unfold gc_hP
  by_cases h : i = p ∧ f j = true
  · rw [if_pos h, if_pos h]
  · rw [if_neg h, if_neg h]
    refine (gc_h_congr (gr_u_ne I _ (fun h9 => h ?_))).symm
    exact ⟨h9.1, by rw [h9.2]; exact hk⟩
theorem gc_ZI {k : Nat} {z : Int} (h : gc_Z sh I J A) (hp : p < sh.length) : gc_Z sh (gr_u I p k z) J A := fun i hi j => by
  obtain ⟨a, b, c⟩ := h i hi j
  exact ⟨(gr_u_ne I _ (fun h9 => by have := h9.1; omega)).trans a, b, c⟩
end HP
theorem gc_OKN {sh : gz_Sh} {I : gr_I} {J : gr_J} {A : gc_A} (h : gc_OK sh I J A) : gc_OKP gc_nu6 (sh ++ [(false, 2, 10)]) I J A sh.length := by
  refine ⟨fun i hi k => ?_, fun i hi k => h.2 i (by rw [List.length_append] at hi; omega) k⟩
  rw [List.length_append, List.length_singleton] at hi ⊢
  unfold gc_hP
  by_cases e : i < sh.length
  · rw [if_neg (fun h9 => by have := h9.1; omega), gc_hpre e]
    exact gz_okv_le (h.1 i e k) (Nat.le_succ _)
  · have e2 : i = sh.length := by omega
    subst e2
    by_cases hf : gc_nu6 k = true
    · rw [if_pos ⟨rfl, hf⟩]; exact trivial
    · rw [if_neg (fun h9 => hf h9.2), gc_hnew h.2]
      match k, hf with
      | 0, _ => exact trivial
      | 1, _ => exact trivial
      | 2, _ => exact trivial
      | 3, _ => exact trivial
      | 4, _ => exact trivial
      | 5, _ => exact trivial
      | 6, h => exact absurd rfl h
      | 7, h => exact absurd rfl h
      | 8, _ => exact trivial
      | 9, _ => exact trivial
      | _ + 10, _ => exact trivial
/-- new Forms -/
theorem gc_YnewF {E : gv_E} {Q : gz_S → Nat → Nat → Prop} {pc : Nat} {lv : List (Nat × gz_V)} {st : List gz_V} {sh : gz_Sh} {I : gr_I} {J : gr_J} {A : gc_A} {ix r : Nat} (hD : gv_D E) (hi : E.2.2.2.2.2.2 pc = some (.new ix)) (hN : gz_lN E.1 E.2.1 ix RX2 TX2 10 tyX2) (hl : sh.length < 1000000) (hok : gc_OK sh I J A) (hlv : ∀ q ∈ lv, gz_okv sh.length q.2) (hst : ∀ q ∈ st, gz_okv sh.length q) (hr : r = sh.length) (kk : gv_Y E (fun v a s => Q v (1 + a) (10 + s)) (pc + 3, lv, .inr (.inr (some r)) :: st, sh ++ [(false, 2, 10)], gc_hP gc_nu6 (sh ++ [(false, 2, 10)]) I J A r)) : gv_Y E Q (pc, lv, st, sh, gc_h sh I J A) := by
  subst hr
  refine gv_Yone (u' := (pc + 3, lv, .inr (.inr (some sh.length)) :: st, sh ++ [(false, 2, 10)], gc_hP gc_nu6 (sh ++ [(false, 2, 10)]) I J A sh.length)) (a := 1) (s := 10) (Or.inr (Or.inr (Or.inr (Or.inr (Or.inr (Or.inr (Or.inr (Or.inr (Or.inl (Or.inl ⟨ix, 2, RX2, TX2, 10, tyX2, hD pc _ hi, rfl, hN, ⟨hl, hok.1, rfl, fun i hi => ?_, hlv, hst, rfl⟩, fun k hk => ?_, rfl, rfl, rfl, rfl⟩)))))))))) kk
  · funext k
    show gc_hP gc_nu6 (sh ++ [(false, 2, 10)]) I J A sh.length i k = gc_h sh I J A i k
    have hi' : i < sh.length := hi
    unfold gc_hP
    rw [if_neg (fun h9 => by have := h9.1; omega), gc_hpre hi']
  · show gc_hP gc_nu6 (sh ++ [(false, 2, 10)]) I J A sh.length sh.length k = gz_dv (tyX2 k)
    unfold gc_hP
    by_cases hf : gc_nu6 k = true
    · rw [if_pos ⟨rfl, hf⟩]
      match k, hk, hf with
      | 0, _, h => cases h
      | 1, _, h => cases h
      | 2, _, h => cases h
      | 3, _, h => cases h
      | 4, _, h => cases h
      | 5, _, h => cases h
      | 6, _, _ => rfl
      | 7, _, _ => rfl
      | 8, _, h => cases h
      | 9, _, h => cases h
      | _ + 10, h, _ => exact absurd h (by omega)
    · rw [if_neg (fun h9 => hf h9.2), gc_hnew hok.2]
      match k, hk, hf with
      | 0, _, _ => rfl
      | 1, _, _ => rfl
      | 2, _, _ => rfl
      | 3, _, _ => rfl
      | 4, _, _ => rfl
      | 5, _, _ => rfl
      | 6, _, h => exact absurd rfl h
      | 7, _, h => exact absurd rfl h
      | 8, _, _ => rfl
      | 9, _, _ => rfl
      | _ + 10, h, _ => exact absurd h (by omega)
theorem gc_YarrP {E : gv_E} {Q : gz_S → Nat → Nat → Prop} {f : Nat → Bool} {p pc : Nat} {lv : List (Nat × gz_V)} {st : List gz_V} {sh : gz_Sh} {I : gr_I} {J : gr_J} {A : gc_A} {at_ : ArrayType} {t n r : Nat} (hD : gv_D E) (hi : E.2.2.2.2.2.2 pc = some (.newarray at_)) (ha : gz_aty at_ = some t) (hw : Cond.arrayClass (newarray.typeOf at_) ∈ E.1) (hn : n ≤ 60000000) (ht : t ≤ 3) (hl : sh.length < 1000000) (hp : p < sh.length) (hok : gc_OKP f sh I J A p) (hlv : ∀ q ∈ lv, gz_okv sh.length q.2) (hst : ∀ q ∈ st, gz_okv sh.length q) (hr : r = sh.length) (kk : gv_Y E (fun v a s => Q v (1 + a) (n + s)) (pc + 2, lv, .inr (.inr (some r)) :: st, sh ++ [(true, t, n)], gc_hP f (sh ++ [(true, t, n)]) I J A p)) : gv_Y E Q (pc, lv, .inl (n : Int) :: st, sh, gc_hP f sh I J A p) := by
  subst hr
  refine gv_Yone (u' := (pc + 2, lv, .inr (.inr (some sh.length)) :: st, sh ++ [(true, t, n)], gc_hP f (sh ++ [(true, t, n)]) I J A p)) (a := 1) (s := n) (Or.inr (Or.inr (Or.inr (Or.inr (Or.inr (Or.inr (Or.inr (Or.inr (Or.inl (Or.inr (Or.inl ⟨at_, t, n, st, hD pc _ hi, ha, hw, rfl, hn, ⟨hl, hok.1, rfl, fun i hi => gc_hPpre hi, hlv, fun q hq => ?_, rfl⟩, fun k => ?_, rfl, rfl, rfl, rfl⟩))))))))))) kk
  · rcases List.mem_cons.mp hq with rfl | h9
    · exact trivial
    · exact hst q h9
  · have h9 := gc_hPnew (f := f) (x := (true, t, n)) hok.2 hp k
    refine h9.trans ?_
    match t, ht with
    | 0, _ => rfl
    | 1, _ => rfl
    | 2, _ => rfl
    | 3, _ => rfl
theorem gc_nu76 : ∀ j, ¬ j = 6 → gc_nu7 j = gc_nu6 j := fun j h => by
  unfold gc_nu6 gc_nu7
  rw [show Nat.beq j 6 = false from by cases h9 : Nat.beq j 6 with | true => exact absurd (Nat.eq_of_beq_eq_true h9) h | false => rfl]
  rfl
theorem gc_nu70 : ∀ j, ¬ j = 7 → false = gc_nu7 j := fun j h => by
  unfold gc_nu7
  cases h9 : Nat.beq j 7 with
  | true => exact absurd (Nat.eq_of_beq_eq_true h9) h
  | false => rfl
theorem gc_h6 {sh : gz_Sh} {I : gr_I} {J : gr_J} {A : gc_A} {p r : Nat} (hs : sh[p]? = some (false, 2, 10)) (hr : r = p + 6 + Int.toNat (I p 6)) : gc_h sh I J A p 6 = .inr (.inr (some r)) := by
  subst hr
  unfold gc_h
  rw [gc_tyx hs]
  show Sum.inr (Sum.inr (some (p + 6 % 1000 + (6 / 1000 + 1) * Int.toNat (I p 6)))) = _
  rw [show (6 / 1000 + 1) * Int.toNat (I p 6) = Int.toNat (I p 6) from Nat.one_mul _]
theorem gc_h7 {sh : gz_Sh} {I : gr_I} {J : gr_J} {A : gc_A} {p r : Nat} (hs : sh[p]? = some (false, 2, 10)) (hr : r = p + 6 + Int.toNat (I p 7)) : gc_h sh I J A p 7 = .inr (.inr (some r)) := by
  subst hr
  unfold gc_h
  rw [gc_tyx hs]
  show Sum.inr (Sum.inr (some (p + 6 % 1000 + (6 / 1000 + 1) * Int.toNat (I p 7)))) = _
  rw [show (6 / 1000 + 1) * Int.toNat (I p 7) = Int.toNat (I p 7) from Nat.one_mul _]
theorem gc_OKPI {f : Nat → Bool} {sh : gz_Sh} {I : gr_I} {J : gr_J} {A : gc_A} {p k : Nat} {z : Int} (h : gc_OKP f sh I J A p) (hk : f k = true) (hp : p < sh.length) : gc_OKP f sh (gr_u I p k z) J A p := ⟨by rw [← gc_hPI hk]; exact h.1, gc_ZI h.2 hp⟩
theorem gc_OKP0 {f : Nat → Bool} {sh : gz_Sh} {I : gr_I} {J : gr_J} {A : gc_A} {p : Nat} (h : gc_OKP f sh I J A p) (hf : ∀ k, f k = false) : gc_OK sh I J A := ⟨by rw [← gc_hP0 (p := p) hf]; exact h.1, h.2⟩
theorem gc_Invu {ro : Nat → Nat} {I : gr_I} {p k r : Nat} {z lo hi : Int} (h : gc_Inv ro I) (hr : ro p = r) (hl : gc_lo r k = lo) (hh : gc_hi r k = hi) (hz : lo ≤ z ∧ z ≤ hi) : gc_Inv ro (gr_u I p k z) := fun q j => by
  by_cases e : q = p ∧ j = k
  · obtain ⟨rfl, rfl⟩ := e
    rw [gr_u_eq, hr, hl, hh]
    exact hz
  · rw [gr_u_ne I _ e]
    exact h q j
/-- a cell that is not of the roots of references: what is written there keeps the heap well formed -/
theorem gc_OK_fr {sh : gz_Sh} {I Iₚ : gr_I} {J Jₚ : gr_J} {A : gc_A} (h : gc_OK sh I J A) (hI : ∀ q j, (q < sh.length ∧ gc_ty sh q j = 0) ∨ Iₚ q j = I q j) (hJ : ∀ q j, q < sh.length ∨ Jₚ q j = J q j) : gc_OK sh Iₚ Jₚ A := by
  refine ⟨fun i hi k => ?_, fun i hi k => ?_⟩
  · have h9 := h.1 i hi k
    revert h9
    unfold gc_h
    rcases hI i k with ⟨_, e⟩ | e
    · rw [e]
      intro _
      exact trivial
    · rw [e]
      generalize gc_ty sh i k = c
      match c with
      | 0 => exact id
      | 1 => exact fun _ => trivial
      | 2 => exact id
      | 3 => exact id
      | 4 => exact id
      | 5 => exact id
      | 6 => exact id
      | 7 => exact id
      | 8 => exact id
      | 9 => exact id
      | n + 10 => exact id
  · obtain ⟨a, b, c⟩ := h.2 i hi k
    refine ⟨?_, ?_, c⟩
    · rcases hI i k with ⟨e, _⟩ | e
      · omega
      · rw [e]; exact a
    · rcases hJ i k with e | e
      · omega
      · rw [e]; exact b
