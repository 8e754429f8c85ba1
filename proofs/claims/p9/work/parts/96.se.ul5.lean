/-! sounds(): a word, and what it answers (p8) -/
def so_wd (N : Int) (g : Nat → Int) : Prop := (1 ≤ N ∧ N ≤ 24) ∧ ∀ k : Nat, (k : Int) < N → 97 ≤ g k ∧ g k ≤ 122
theorem so_all_U {U U' : Nat → so_ru} {b : Int → Int} {n : Int} : ∀ {r : Nat} {fin : Int → Int} {z : Int}, (∀ k, k < r → U k = U' k) → so_all U r b n fin z → so_all U' r b n fin z
  | 0, _, _, _, h => h
  | r + 1, _, _, e, ⟨b1, n1, h1, h2⟩ => ⟨b1, n1, so_all_U (fun k hk => e k (by omega)) h1, by
    rw [← e r (by omega)]
    exact h2⟩
section EQ
variable {I Iₚ : gr_I} {t r : Int}
theorem so_rr_eq (e : ∀ a k : Nat, (26 ≤ a ∧ a ≤ 30) ∨ a = 51 → Iₚ a k = I a k) : so_rr Iₚ t r = so_rr I t r := by
  unfold so_rr
  rw [show Iₚ 26 = I 26 from funext fun k => e 26 k (by omega), show Iₚ 27 = I 27 from funext fun k => e 27 k (by omega), show Iₚ 28 = I 28 from funext fun k => e 28 k (by omega), show Iₚ 29 = I 29 from funext fun k => e 29 k (by omega), show Iₚ 30 = I 30 from funext fun k => e 30 k (by omega), show Iₚ 51 = I 51 from funext fun k => e 51 k (by omega)]
theorem gs_SV_eq (h : gs_SV I t) (e : ∀ a k : Nat, (26 ≤ a ∧ a ≤ 30) ∨ a = 51 → Iₚ a k = I a k) (e15 : ∀ k, Iₚ 15 k = I 15 k) (e16 : ∀ k, Iₚ 16 k = I 16 k) (e59 : Iₚ 0 59 = I 0 59) : gs_SV Iₚ t := fun k h0 h1 => by
  rw [e16] at h1
  obtain ⟨a, b⟩ := h k h0 h1
  refine ⟨?_, by rw [so_rr_eq e]; exact b⟩
  unfold so_okr at a ⊢
  rw [e15, e59, show Iₚ 27 = I 27 from funext fun k => e 27 k (by omega), show Iₚ 28 = I 28 from funext fun k => e 28 k (by omega), show Iₚ 29 = I 29 from funext fun k => e 29 k (by omega), show Iₚ 30 = I 30 from funext fun k => e 30 k (by omega)]
  exact a
end EQ
