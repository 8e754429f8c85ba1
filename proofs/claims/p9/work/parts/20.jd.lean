/-! METHODS OF THE JDK, over any cells. -/
theorem gj_min {ws0 : List Cond} {tb : String → gz_T} {sh : gz_Sh} {h : gz_H} (a b : Int) (ha : gz_R a) (hb : gz_R b) : ∃ z : Int, gz_Ev ws0 tb 1 gj_Mi [.inl a, .inl b] sh h (some (.inl z)) sh h 0 0 ∧ z ≤ a ∧ z ≤ b ∧ (z = a ∨ z = b) := by
  refine ⟨if b < a then b else a, Or.inr (Or.inl ⟨Or.inl ⟨rfl, a, b, ha, hb, rfl, rfl⟩, rfl, rfl, rfl, rfl⟩), ?_⟩
  by_cases c : b < a
  · rw [if_pos c]
    omega
  · rw [if_neg c]
    omega
theorem gj_max {ws0 : List Cond} {tb : String → gz_T} {sh : gz_Sh} {h : gz_H} (a b : Int) (ha : gz_R a) (hb : gz_R b) : ∃ z : Int, gz_Ev ws0 tb 1 gj_Mx [.inl a, .inl b] sh h (some (.inl z)) sh h 0 0 ∧ a ≤ z ∧ b ≤ z ∧ (z = a ∨ z = b) := by
  refine ⟨if a < b then b else a, Or.inr (Or.inl ⟨Or.inr (Or.inl ⟨rfl, a, b, ha, hb, rfl, rfl⟩), rfl, rfl, rfl, rfl⟩), ?_⟩
  by_cases c : a < b
  · rw [if_pos c]
    omega
  · rw [if_neg c]
    omega
theorem gj_minl {ws0 : List Cond} {tb : String → gz_T} {sh : gz_Sh} {h : gz_H} (a b : Int64) : ∃ z : Int64, gz_Ev ws0 tb 1 gj_Ml [.inr (.inl a), .inr (.inl b)] sh h (some (.inr (.inl z))) sh h 0 0 ∧ (z = a ∨ z = b) := by
  refine ⟨if b < a then b else a, Or.inr (Or.inl ⟨Or.inr (Or.inr ⟨rfl, a, b, rfl, rfl⟩), rfl, rfl, rfl, rfl⟩), ?_⟩
  by_cases c : b < a
  · rw [if_pos c]
    exact Or.inr rfl
  · rw [if_neg c]
    exact Or.inl rfl
