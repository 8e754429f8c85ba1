/-! PLACES keep codes of trees. -/
def gr_CD (g : Nat → Int) (n : Int) (I : gr_I) : Prop := ∃ π : Nat → Int, π 0 = 1 ∧ (∀ j : Nat, (j : Int) < n → (1 ≤ π j ∧ π (j + 1) = π j - 1 + I 6 (Int.toNat (g j))) ∧ (0 ≤ g j ∧ g j < I 0 3)) ∧ π (Int.toNat n) = 0
theorem gr_CD_of {n : Int} {I : gr_I} (h : gr_SG 1 0 n I) : gr_CD (I 113) n I := by
  obtain ⟨_, π, p1, p2, p3⟩ := h
  exact ⟨π, p1, fun j hj => p2 j (by omega) hj, p3⟩
theorem gr_CD_x {g g' : Nat → Int} {n : Int} {I I' : gr_I} (h : gr_CD g n I) (hg : ∀ j : Nat, (j : Int) < n → g' j = g j) (h2 : ∀ f : Nat, (f : Int) < I 0 3 → I' 6 f = I 6 f) (h3 : I 0 3 ≤ I' 0 3) : gr_CD g' n I' := by
  obtain ⟨π, p1, p2, p3⟩ := h
  refine ⟨π, p1, fun j hj => ?_, p3⟩
  obtain ⟨u, v⟩ := p2 j hj
  rw [hg j hj, h2 _ (by omega)]
  exact ⟨u, by omega⟩
def gr_PX (n : Int) (I : gr_I) : Prop := ∃ π : Nat → Int, gr_PD π n I
theorem gr_PX_of {n : Int} {I : gr_I} (h : gr_CD (I 113) n I) (hn : 0 ≤ n ∧ n ≤ 60) : gr_PX n I := by
  obtain ⟨π, p1, p2, p3⟩ := h
  exact ⟨π, hn, fun j hj => (p2 j hj).1, p3⟩
def gr_PLx (c : Int) (I : gr_I) : Prop := ∀ p : Nat, p < 8 → ¬ (p : Int) = c → I 115 p = 0 ∨ ((0 ≤ I 115 p ∧ I 115 p ≤ 60) ∧ gr_CD (fun j => I 114 (60 * p + j)) (I 115 p) I)
def gr_PL (I : gr_I) : Prop := gr_PLx (-1) I
theorem gr_PLx_x {c : Int} {I I' : gr_I} (h : gr_PLx c I) (h1 : ∀ k, I' 114 k = I 114 k) (h4 : ∀ k, I' 115 k = I 115 k) (h2 : ∀ f : Nat, (f : Int) < I 0 3 → I' 6 f = I 6 f) (h3 : I 0 3 ≤ I' 0 3) : gr_PLx c I' := fun p hp hc => by
  rcases h p hp hc with q | q
  · exact Or.inl (by rw [h4]; exact q)
  · refine Or.inr ⟨by rw [h4]; exact q.1, ?_⟩
    rw [h4]
    exact gr_CD_x q.2 (fun j _ => h1 _) h2 h3
theorem gr_PL_fr {I I' : gr_I} (h : gr_PL I) (h1 : ∀ k, I' 114 k = I 114 k) (h4 : ∀ k, I' 115 k = I 115 k) (h2 : ∀ k, I' 6 k = I 6 k) (h3 : I' 0 3 = I 0 3) : gr_PL I' := gr_PLx_x h h1 h4 (fun f _ => h2 f) (by omega)
theorem gr_PL_st {I I' : gr_I} (h : gr_PL I) (st : gr_ST I I') (h1 : ∀ k, I' 114 k = I 114 k) (h4 : ∀ k, I' 115 k = I 115 k) : gr_PL I' := gr_PLx_x h h1 h4 st.1.2 st.1.1
def gr_CPL (p k : Int) (I : gr_I) : Prop := (0 ≤ p ∧ p ≤ 7) ∧ gr_PLx p I ∧ ∀ j : Nat, (j : Int) < k → I 114 (60 * Int.toNat p + j) = I 113 j
theorem gr_CPL_0 {p : Int} {I : gr_I} (h : gr_PL I) (hp : 0 ≤ p ∧ p ≤ 7) : gr_CPL p 0 I := ⟨hp, fun q hq hc => h q hq (by omega), fun j hj => by omega⟩
theorem gr_CPL_st {p k : Int} {I I' : gr_I} {i : Nat} (h : gr_CPL p k I) (h0 : 0 ≤ k) (h6 : k ≤ 59) (hi : (i : Int) = 60 * p + k) (pp : ∀ b j, ¬ (b = 114 ∧ j = i) → I' b j = I b j) (q : I' 114 i = I 113 (Int.toNat k)) : gr_CPL p (k + 1) I' := by
  obtain ⟨hp, a, b⟩ := h
  refine ⟨hp, fun c hc hcp => ?_, fun j hj => ?_⟩
  · rw [pp 115 _ (fun q => absurd q.1 (by decide))]
    rcases a c hc hcp with u | u
    · exact Or.inl u
    · refine Or.inr ⟨u.1, gr_CD_x u.2 (fun j hj => pp _ _ (fun q => by have := q.2; omega)) (fun f _ => pp _ _ (fun q => absurd q.1 (by decide))) (Int.le_of_eq (pp 0 3 (fun q => absurd q.1 (by decide))).symm)⟩
  · rw [pp 113 _ (fun q => absurd q.1 (by decide))]
    by_cases c : (j : Int) < k
    · rw [pp _ _ (fun q => by have := q.2; omega)]
      exact b j c
    · rw [show 60 * Int.toNat p + j = i from by omega, q, show j = Int.toNat k from by omega]
theorem gr_PL_end {p k n : Int} {I I' : gr_I} (h : gr_CPL p k I) (hs : gr_SG 1 0 n I) (hk : n ≤ k) (h6 : n ≤ 60) (pp : ∀ b j, ¬ (b = 115 ∧ j = Int.toNat p) → I' b j = I b j) (q : I' 115 (Int.toNat p) = n) : gr_PL I' := by
  obtain ⟨hp, a, b⟩ := h
  intro c hc _
  have e3 := pp 0 3 (fun q => absurd q.1 (by decide))
  by_cases e : (c : Int) = p
  · have e9 : c = Int.toNat p := by omega
    subst e9
    rw [q]
    refine Or.inr ⟨⟨hs.1.2, h6⟩, gr_CD_x (gr_CD_of hs) (fun j hj => ?_) (fun f _ => pp _ _ (fun q => absurd q.1 (by decide))) (by omega)⟩
    show I' 114 (60 * Int.toNat p + j) = I 113 j
    rw [pp _ _ (fun q => absurd q.1 (by decide))]
    exact b j (by omega)
  · rw [pp 115 _ (fun q => by have := q.2; omega)]
    rcases a c hc e with u | u
    · exact Or.inl u
    · exact Or.inr ⟨u.1, gr_CD_x u.2 (fun j hj => pp _ _ (fun q => absurd q.1 (by decide))) (fun f _ => pp _ _ (fun q => absurd q.1 (by decide))) (by omega)⟩
def gr_TV (p k : Int) (I I' : gr_I) : Prop := ∀ j : Nat, (j : Int) < k → I' 113 j = I 114 (60 * Int.toNat p + j)
theorem gr_TV_st {p k : Int} {I I1 I' : gr_I} {i : Nat} (h : gr_TV p k I I1) (h0 : 0 ≤ k) (hi : (i : Int) = k) (hp : 0 ≤ p) (pp : ∀ b j, ¬ (b = 113 ∧ j = i) → I' b j = I1 b j) (q : I' 113 i = I 114 (Int.toNat (60 * p + k))) : gr_TV p (k + 1) I I' := fun j hj => by
  by_cases c : (j : Int) < k
  · rw [pp _ _ (fun q => by have := q.2; omega)]
    exact h j c
  · rw [show j = i from by omega, q, show 60 * Int.toNat p + i = Int.toNat (60 * p + k) from by omega]
theorem gr_PX_tk {p n : Int} {I I' : gr_I} (h : gr_PL I) (hp : 0 ≤ p ∧ p ≤ 7) (hn : n = I 115 (Int.toNat p)) (h0 : ¬ n = 0) (t : gr_TV p n I I') (h2 : ∀ k, I' 6 k = I 6 k) (h3 : I' 0 3 = I 0 3) : gr_PX n I' ∧ 0 ≤ n ∧ n ≤ 60 := by
  rcases h (Int.toNat p) (by omega) (by omega) with u | u
  · omega
  · rw [← hn] at u
    exact ⟨gr_PX_of (gr_CD_x u.2 t (fun f _ => h2 f) (by omega)) u.1, u.1⟩
