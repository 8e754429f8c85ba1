/-! THE LAW'S WORLD: the class's pool, the reference's pool and the array of answers beside each other. -/
def gp_W (D : va_G) (A : Nat → Prop) (H0 : Heap) (ws : va_W) (H : Heap) (locs : List Loc) : Prop := va_P D vwCl ws H ∧ va_D A ws ∧ va_S A H0 H locs ∧ ∀ q, H0.size ≤ q → A q
section LA
variable {D : va_G} {A : Nat → Prop} {H0 H H1 : Heap} {ws wr w1 : va_W} {locs locs1 : List Loc} {L Lₚ : List Nat} {f f' : Nat → va_E}
theorem gp_get_l {a b : va_W} {k : Nat} {q : Nat × va_E} (h : a[k]? = some q) : (a ++ b)[k]? = some q := by
  rw [List.getElem?_append_left (List.getElem?_eq_some_iff.mp h).1]
  exact h
theorem gp_get_r {a b : va_W} {k : Nat} {q : Nat × va_E} (h : b[k]? = some q) : (a ++ b)[a.length + k]? = some q := by
  rw [List.getElem?_append_right (Nat.le_add_right _ _), Nat.add_sub_cancel_left]
  exact h
theorem gp_get {a b : va_W} {k : Nat} {q : Nat × va_E} (h : (a ++ b)[k]? = some q) : (k < a.length ∧ a[k]? = some q) ∨ (a.length ≤ k ∧ b[k - a.length]? = some q) := by
  by_cases c : k < a.length
  · rw [List.getElem?_append_left c] at h
    exact Or.inl ⟨c, h⟩
  · rw [List.getElem?_append_right (Nat.le_of_not_lt c)] at h
    exact Or.inr ⟨Nat.le_of_not_lt c, h⟩
theorem gp_W.left (h : gp_W D A H0 (w1 ++ wr) H locs) : gp_W D A H0 w1 H locs := ⟨fun k q hk => h.1 k q (gp_get_l hk), ⟨fun i j p q hi hj e => h.2.1.1 i j p q (gp_get_l hi) (gp_get_l hj) e, fun k q hk => h.2.1.2 k q (gp_get_l hk)⟩, h.2.2⟩
set_option maxHeartbeats 8000000 in
theorem gp_W.comm (h : gp_W D A H0 (w1 ++ wr) H locs) : gp_W D A H0 (wr ++ w1) H locs := by
  refine ⟨fun k q hk => ?_, ⟨fun i j p q hi hj e => ?_, fun k q hk => ?_⟩, h.2.2⟩
  · rcases gp_get hk with ⟨_, h1⟩ | ⟨_, h1⟩
    · exact h.1 _ q (gp_get_r h1)
    · exact h.1 _ q (gp_get_l h1)
  · rcases gp_get hi with ⟨c1, h1⟩ | ⟨c1, h1⟩ <;> rcases gp_get hj with ⟨c2, h2⟩ | ⟨c2, h2⟩
    · have := h.2.1.1 _ _ p q (gp_get_r h1) (gp_get_r h2) e
      exact gz_m 0 (by omega)
    · have := h.2.1.1 _ _ p q (gp_get_r h1) (gp_get_l h2) e
      have := (List.getElem?_eq_some_iff.mp h2).1
      exact gz_m 1 (by omega)
    · have := h.2.1.1 _ _ p q (gp_get_l h1) (gp_get_r h2) e
      have := (List.getElem?_eq_some_iff.mp h1).1
      exact gz_m 2 (by omega)
    · have := h.2.1.1 _ _ p q (gp_get_l h1) (gp_get_l h2) e
      exact gz_m 3 (by omega)
  · rcases gp_get hk with ⟨_, h1⟩ | ⟨_, h1⟩
    · exact h.2.1.2 _ q (gp_get_r h1)
    · exact h.2.1.2 _ q (gp_get_l h1)
theorem gp_W.pw (h : gp_W D A H0 (va_pl L f ++ wr) H locs) : pw_W D A H0 L f H locs := h.left
/-- what a call on the first cells may change lies within what the law may change -/
theorem gp_sub (h : gp_W D A H0 (w1 ++ wr) H locs) : ∀ q, va_A w1 H.size q → A q := fun q hq => by
  rcases hq with ⟨k, e1, h1⟩ | h1
  · exact h.2.1.2 k _ (gp_get_l h1)
  · exact h.2.2.2 q (Nat.le_trans h.2.2.1.1 h1)
set_option maxHeartbeats 8000000 in
/-- behind a call on the first cells: the other cells are as they were -/
theorem gp_W.back {w2 : va_W} (h : gp_W D A H0 (w1 ++ wr) H locs) (hP : va_P D vwCl w2 H1) (hD : va_D (va_A w1 H.size) w2) (hk : ∀ q : Nat, q < H.size → ¬ va_A w1 H.size q → H1[q]? = H[q]?) (hS : va_S A H0 H1 locs1) : gp_W D A H0 (w2 ++ wr) H1 locs1 := by
  have out : ∀ (k : Nat) (q : Nat × va_E), wr[k]? = some q → ¬ va_A w1 H.size q.1 := fun k q hq ha => by
    rcases ha with ⟨j, e1, h1⟩ | h1
    · have := h.2.1.1 _ _ _ _ (gp_get_l h1) (gp_get_r (a := w1) hq) rfl
      have := (List.getElem?_eq_some_iff.mp h1).1
      exact gz_m 0 (by omega)
    · have := va_at.lt (h.1 _ q (gp_get_r hq))
      exact gz_m 1 (by omega)
  refine ⟨fun k q hk9 => ?_, ⟨fun i j p q hi hj e => ?_, fun k q hk9 => ?_⟩, hS, h.2.2.2⟩
  · rcases gp_get hk9 with ⟨_, h1⟩ | ⟨_, h1⟩
    · exact hP _ q h1
    · have ha := h.1 _ q (gp_get_r (a := w1) h1)
      exact ha.kept (hk q.1 ha.lt (out _ q h1))
  · rcases gp_get hi with ⟨c1, h1⟩ | ⟨c1, h1⟩ <;> rcases gp_get hj with ⟨c2, h2⟩ | ⟨c2, h2⟩
    · exact hD.1 i j p q h1 h2 e
    · exact absurd (hD.2 i p h1) (e ▸ out _ q h2)
    · exact absurd (hD.2 j q h2) (e.symm ▸ out _ p h1)
    · have := h.2.1.1 _ _ p q (gp_get_r (a := w1) h1) (gp_get_r (a := w1) h2) e
      exact gz_m 2 (by omega)
  · rcases gp_get hk9 with ⟨_, h1⟩ | ⟨_, h1⟩
    · exact gp_sub h q.1 (hD.2 k q h1)
    · exact h.2.1.2 _ q (gp_get_r h1)
end LA
section LB
variable {p : Program} {l : Launch} {e : Env} {R : Room} {s : State} {m : MethodId} {args : Array Value} {below : List Frame} {meth : Method} {c : Code} {H : Heap} {locs : List Loc} {cells slots : Nat} {Q : State → Prop}
variable {pc a1 s1 : Nat} {ls : Array Slot} {D : va_G} {cy : Nat → ClassId} {sa : Nat → Nat} {A : Nat → Prop} {L : List Nat} {sh shₚ : gz_Sh} {h hₚ : gz_H} {wr : va_W}
/-- behind a call of a method of the first pool -/
theorem gp_behind {st0 rest : List Value} {a : Array Value} {r : Option gz_V} (hw : gp_W D A s.heap (va_pl L (gz_f cy sa L sh h) ++ wr) H locs)
    (hr : va_Run p l e R s m args below meth c H locs cells slots a1 s1 (F0 m pc ls st0) rest (gz_Q D cy sa (pw_A L (gz_f cy sa L sh h) H.size) L r shₚ hₚ a) (pw_A L (gz_f cy sa L sh h) H.size))
    (kk : ∀ (Lₚ : List Nat) (H1 : Heap) (locs1 : List Loc), L <+: Lₚ → Lₚ.length = shₚ.length → gp_W D A s.heap (va_pl Lₚ (gz_f cy sa Lₚ shₚ hₚ) ++ wr) H1 locs1 → W p l e R s m args below meth c H1 locs1 (cells + a1) (slots + s1) Q (F0 m (pc + 3) ls ((r.map (gz_r sa Lₚ)).toList ++ rest))) : W p l e R s m args below meth c H locs cells slots Q (F0 m pc ls st0) := by
  have hF : ∀ q, pw_A L (gz_f cy sa L sh h) H.size q → A q := gp_sub hw
  intro T hT X
  obtain ⟨v, st₀, t, T', L9, h0, X', hL, e1, e2, ⟨⟨Lₚ, hp, hlen, hv, hP1, hD1⟩, hz, hk⟩, sg⟩ := hr T hT X
  cases hv
  rw [h0] at hz hk
  obtain ⟨t2, b1, b2⟩ := kk Lₚ T'.heap (locs ++ L9) hp hlen (hw.back (w2 := va_pl Lₚ (gz_f cy sa Lₚ shₚ hₚ)) (by rw [e1]; exact hP1) hD1 (fun q h1 h2 => by rw [e1]; exact hk q h1 h2) ⟨Nat.le_trans hw.2.2.1.1 (by rw [e1]; exact hz), fun q h1 h2 => by rw [e1, hk q (Nat.lt_of_lt_of_le h1 hw.2.2.1.1) (fun z => h2 (hF q z))]; exact hw.2.2.1.2.1 q h1 h2, fun q hq => by
      rcases List.mem_append.mp hq with h | h
      · exact hw.2.2.1.2.2 q h
      · exact hF _ (hL q h)⟩) T' rfl X'
  exact ⟨t2, sg t2 b1, b2⟩
end LB
