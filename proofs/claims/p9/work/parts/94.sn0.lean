/-! WHAT EVERY READER ASKS AND LEAVES, out of the token at hand -/
theorem gs_TX_z {β : Int → Int} {N : Int} {r : Nat → Int} (h : gs_TX β N r) : ∀ k, N ≤ k → β k = 0 := fun k hk => (h k).2 (fun q => by omega)
set_option maxHeartbeats 8000000 in
theorem gs_ne_b {β : Int → Int} {N : Int} (h0 : ∀ k, N ≤ k → β k = 0) : ∀ (f : Nat) (k : Int), k ≤ gs_ne β f k ∧ (k ≤ N → gs_ne β f k ≤ N)
  | 0, k => ⟨Int.le_refl _, fun h => h⟩
  | f + 1, k => by
    have ih := gs_ne_b h0 f (k + 1)
    have e : gs_ne β (f + 1) k = (if (97 ≤ β k ∧ β k ≤ 122) ∨ (48 ≤ β k ∧ β k ≤ 57) then gs_ne β f (k + 1) else k) := rfl
    have z := h0 k
    rw [e]
    by_cases c : (97 ≤ β k ∧ β k ≤ 122) ∨ (48 ≤ β k ∧ β k ≤ 57)
    · rw [if_pos c]
      refine ⟨by exact gz_m 0 (by omega), fun h => ih.2 ?_⟩
      by_cases d : N ≤ k
      · have := z d
        exact gz_m 1 (by omega)
      · exact gz_m 2 (by omega)
    · rw [if_neg c]
      exact ⟨Int.le_refl _, fun h => h⟩
theorem gs_de_b {β : Int → Int} {N : Int} (h0 : ∀ k, N ≤ k → β k = 0) : ∀ (f : Nat) (k : Int), k ≤ gs_de β f k ∧ (k ≤ N → gs_de β f k ≤ N)
  | 0, k => ⟨Int.le_refl _, fun h => h⟩
  | f + 1, k => by
    have ih := gs_de_b h0 f (k + 1)
    have e : gs_de β (f + 1) k = (if 48 ≤ β k ∧ β k ≤ 57 then gs_de β f (k + 1) else k) := rfl
    have z := h0 k
    rw [e]
    by_cases c : 48 ≤ β k ∧ β k ≤ 57
    · rw [if_pos c]
      refine ⟨by exact gz_m 0 (by omega), fun h => ih.2 ?_⟩
      by_cases d : N ≤ k
      · have := z d
        exact gz_m 1 (by omega)
      · exact gz_m 2 (by omega)
    · rw [if_neg c]
      exact ⟨Int.le_refl _, fun h => h⟩
theorem gs_le_b {β : Int → Int} : ∀ (f : Nat) (k : Int), k ≤ gs_le β f k ∧ gs_le β f k ≤ k + f
  | 0, k => ⟨Int.le_refl _, by show k ≤ _; exact gz_m 0 (by omega)⟩
  | f + 1, k => by
    have ih := gs_le_b (β := β) f (k + 1)
    have e : gs_le β (f + 1) k = (if 97 ≤ β k ∧ β k ≤ 122 then gs_le β f (k + 1) else k) := rfl
    rw [e]
    by_cases c : 97 ≤ β k ∧ β k ≤ 122
    · rw [if_pos c]
      exact gz_m 1 (by omega)
    · rw [if_neg c]
      exact gz_m 2 (by omega)
/-- a token's type, its beginning and its end -/
def gs_RR (t a x N : Int) : Prop := a ≤ N ∧ a ≤ x ∧ (t = 4 ∨ (a < x ∧ a < N)) ∧ (t = 5 ∨ x ≤ N) ∧ (t = 3 → 2 ≤ x - a ∧ x - a ≤ 14)
theorem gs_X_l {β : Int → Int} {N p : Int} (h0 : ∀ k, N ≤ k → β k = 0) : gs_RR (gs_T β N p) (gs_A β N p) (gs_X β N p) N := by
  unfold gs_RR
  by_cases c : N ≤ gs_S β N p
  · obtain ⟨a, b, d⟩ := gs_end (β := β) (p := p) rfl c
    omega
  · by_cases c1 : 97 ≤ β (gs_S β N p) ∧ β (gs_S β N p) ≤ 122
    · obtain ⟨a, b, d⟩ := gs_name (β := β) (p := p) rfl c c1
      have e : gs_ne β 8 (gs_S β N p) = (if (97 ≤ β (gs_S β N p) ∧ β (gs_S β N p) ≤ 122) ∨ (48 ≤ β (gs_S β N p) ∧ β (gs_S β N p) ≤ 57) then gs_ne β 7 (gs_S β N p + 1) else gs_S β N p) := rfl
      rw [if_pos (Or.inl c1)] at e
      have := gs_ne_b h0 7 (gs_S β N p + 1)
      omega
    · by_cases c2 : 48 ≤ β (gs_S β N p) ∧ β (gs_S β N p) ≤ 57
      · obtain ⟨a, b, d⟩ := gs_numb (β := β) (p := p) rfl c c2
        have e : gs_de β 6 (gs_S β N p) = (if 48 ≤ β (gs_S β N p) ∧ β (gs_S β N p) ≤ 57 then gs_de β 5 (gs_S β N p + 1) else gs_S β N p) := rfl
        rw [if_pos c2] at e
        have := gs_de_b h0 5 (gs_S β N p + 1)
        omega
      · by_cases c3 : β (gs_S β N p) = 39
        · obtain ⟨a, b, d⟩ := gs_lets (β := β) (p := p) rfl c c3 rfl
          have l := gs_le_b (β := β) 12 (gs_S β N p + 1)
          have z := h0 (gs_le β 12 (gs_S β N p + 1))
          by_cases c4 : β (gs_le β 12 (gs_S β N p + 1)) = 39
          · rw [if_pos c4] at a
            by_cases c5 : N ≤ gs_le β 12 (gs_S β N p + 1)
            · have := z c5
              omega
            · omega
          · rw [if_neg c4] at a
            omega
        · obtain ⟨a, b, d⟩ := gs_sign (β := β) (p := p) rfl c c1 c2 c3
          by_cases c4 : 0 ≤ gz_ixf (β (gs_S β N p))
          · rw [if_pos c4] at a
            have := gs_ix c4
            omega
          · rw [if_neg c4] at a
            omega
theorem gr_ATp_rr {β : Int → Int} {N p : Int} {I : gr_I} {J : gr_J} (h : gr_ATp β N p I J) : (I 0 71 = 5 ∨ I 0 73 ≤ I 0 69) ∧ I 0 72 ≤ I 0 69 ∧ (I 0 71 = 0 ∨ (I 0 72 < I 0 73 ∧ I 0 72 < I 0 69)) ∧ (I 0 71 = 3 → 2 ≤ I 0 73 - I 0 72 ∧ I 0 73 - I 0 72 ≤ 14) ∧ I 0 72 ≤ I 0 73 := by
  have r := gs_X_l (p := p) (gs_TX_z h.1.1)
  unfold gs_RR at r
  have a0 := gr_ATp_0 h
  have a3 := gr_ATp_k h (c := 3) (by omega)
  have a5 : gs_T β N p = 5 → I 0 71 = 5 := fun q => by
    rw [h.2.1, q]
    rfl
  have e1 := h.1.2
  have e2 := h.2.2.1
  have e3 := h.2.2.2.1
  rw [← e1, e2, e3]
  refine ⟨?_, by omega, ?_, ?_, by omega⟩
  · rcases r.2.2.2.1 with q | q
    · exact Or.inl (a5 q)
    · exact Or.inr q
  · rcases r.2.2.1 with q | q
    · exact Or.inl (a0.mpr q)
    · exact Or.inr q
  · intro q
    exact r.2.2.2.2 (a3.mp q)
theorem gr_ATp_ne {β : Int → Int} {N p : Int} {I : gr_I} {J : gr_J} (h : gr_ATp β N p I J) {c : Int} (hc : 1 ≤ c ∧ c ≤ 3) (hn : ¬ I 0 71 = c) : ¬ gs_T β N p = c := fun q => hn ((gr_ATp_k h hc).mpr q)
theorem gr_ATp_e0 {β : Int → Int} {N p : Int} {I : gr_I} {J : gr_J} (h : gr_ATp β N p I J) (hn : ¬ I 0 71 = 0) : ¬ gs_T β N p = 4 := fun q => hn ((gr_ATp_0 h).mpr q)
theorem gs_or_mk {r : Int} {S F : Prop} (h : (r = 1 ∧ S) ∨ (r = 0 ∧ F)) : gs_Or r S F := h
