/-! sounds(): a word, and what it answers (p8) -/
def so_wd (N : Int) (g : Nat → Int) : Prop := (1 ≤ N ∧ N ≤ 24) ∧ ∀ k : Nat, (k : Int) < N → 97 ≤ g k ∧ g k ≤ 122
theorem so_wd_eq {N N' : Int} {g gₚ : Nat → Int} (e : N' = N) (h : ∀ k : Nat, (k : Int) < N → gₚ k = g k) (w : so_wd N g) : so_wd N' gₚ := by
  rw [e]
  exact ⟨w.1, fun k hk => by rw [h k hk]; exact w.2 k hk⟩
def so_ans (U : Nat → so_ru) (c : Nat) (N : Int) (g : Nat → Int) (z : Int) : Prop := (so_wd N g ∧ ∃ (gₚ : Nat → Int) (n' : Int), so_out U c (so_b N g) N gₚ n' z) ∨ (¬ so_wd N g ∧ z = -3)
theorem so_all_U {U U' : Nat → so_ru} {b : Int → Int} {n : Int} : ∀ {r : Nat} {fin : Int → Int} {z : Int}, (∀ k, k < r → U k = U' k) → so_all U r b n fin z → so_all U' r b n fin z
  | 0, _, _, _, h => h
  | r + 1, _, _, e, ⟨b1, n1, h1, h2⟩ => ⟨b1, n1, so_all_U (fun k hk => e k (by omega)) h1, by
    rw [← e r (by omega)]
    exact h2⟩
theorem so_ans_u {U U' : Nat → so_ru} {c : Nat} {N N' : Int} {g gₚ : Nat → Int} {z z' : Int} (h : so_ans U c N g z) (hₚ : so_ans U' c N' gₚ z') (eU : ∀ k, k < c → U k = U' k) (eN : N = N') (eg : ∀ k : Nat, (k : Int) < N → g k = gₚ k) : z = z' := by
  subst eN
  rcases h with ⟨w, g1, n1, o⟩ | ⟨w, o⟩
  · rcases hₚ with ⟨w', g2, n2, o'⟩ | ⟨w', _⟩
    · have eb : so_b N g = so_b N gₚ := so_b_cg rfl eg
      obtain ⟨fin, x, a, d⟩ := o
      have o2 : so_out U' c (so_b N gₚ) N g1 n1 z := ⟨fin, x, by rw [← eb]; exact so_all_U eU a, d⟩
      exact (so_out_u (by have := w.1; omega) o2 o').1
    · exact absurd (so_wd_eq rfl (fun k hk => (eg k hk).symm) w) w'
  · rcases hₚ with ⟨w', _⟩ | ⟨_, o'⟩
    · exact absurd (so_wd_eq rfl eg w') w
    · exact o.trans o'.symm
section EQ
variable {I Iₚ : gr_I} {t r : Int}
theorem so_rr_eq (e : ∀ a k : Nat, (26 ≤ a ∧ a ≤ 30) ∨ a = 51 → Iₚ a k = I a k) : so_rr Iₚ t r = so_rr I t r := by
  unfold so_rr
  rw [show Iₚ 26 = I 26 from funext fun k => e 26 k (by omega), show Iₚ 27 = I 27 from funext fun k => e 27 k (by omega), show Iₚ 28 = I 28 from funext fun k => e 28 k (by omega), show Iₚ 29 = I 29 from funext fun k => e 29 k (by omega), show Iₚ 30 = I 30 from funext fun k => e 30 k (by omega), show Iₚ 51 = I 51 from funext fun k => e 51 k (by omega)]
theorem gs_SV_eq (h : gs_SV I t) (e : ∀ a k : Nat, (26 ≤ a ∧ a ≤ 30) ∨ a = 51 → Iₚ a k = I a k) (e15 : ∀ k, Iₚ 15 k = I 15 k) (e16 : ∀ k, Iₚ 16 k = I 16 k) (e59 : Iₚ 0 59 = I 0 59) : gs_SV Iₚ t := fun k h0 h1 => by
  rw [e16] at h1
  obtain ⟨a, b⟩ := h k h0 h1
  refine ⟨?_, by rw [so_rr_eq e]; exact b⟩
  unfold so_okr at a ⊢
  rw [e15, e59, show Iₚ 27 = I 27 from funext fun k => e 27 k (by omega), show Iₚ 28 = I 28 from funext fun k => e 28 k (by omega), show Iₚ 29 = I 29 from funext fun k => e 29 k (by omega), show Iₚ 30 = I 30 from funext fun k => e 30 k (by omega)]
  exact a
end EQ
