def gc_row (q m : Nat) (φ : Nat → Int → Prop) (I : gr_I) : Prop := ∀ j, j < m → φ j (I q j)
theorem gc_row_fr {q m : Nat} {φ : Nat → Int → Prop} {I Iₚ : gr_I} (h : gc_row q m φ I) (hf : ∀ k, Iₚ q k = I q k) : gc_row q m φ Iₚ := fun j hj => by rw [hf]; exact h j hj
theorem gc_row_st {q m k : Nat} {z : Int} {φ : Nat → Int → Prop} {I Iₚ : gr_I} (h : gc_row q m φ I) (p : ∀ q' j, ¬ (q' = q ∧ j = k) → Iₚ q' j = I q' j) (hz : Iₚ q k = z) (hp : φ k z) : gc_row q m φ Iₚ := fun j hj => by
  by_cases e : j = k
  · rw [e, hz]; exact hp
  · rw [p q j (fun h => e h.2)]; exact h j hj
theorem gc_row_fill {q m : Nat} {z : Int} {φ : Nat → Int → Prop} {Iₚ : gr_I} (hq : ∀ j, j < m → Iₚ q j = z) (hp : ∀ j, φ j z) : gc_row q m φ Iₚ := fun j hj => by rw [hq j hj]; exact hp j
def gc_fS (j : Nat) (z : Int) : Prop := 0 ≤ z ∧ z ≤ 2000 ∧ ((j = 0 ∨ j = 7 ∨ j = 10 ∨ j = 13 ∨ j = 16 ∨ j = 19 ∨ j = 22) → z ≤ 2) ∧ ((j = 2 ∨ j = 9 ∨ j = 12 ∨ j = 15 ∨ j = 18 ∨ j = 21 ∨ j = 24 ∨ j = 4) → z ≤ 12) ∧ ((j = 5 ∨ j = 6) → z ≤ 3)
def gc_fW (j : Nat) (z : Int) : Prop := 0 ≤ z ∧ z ≤ 16777215 ∧ (j = 0 → z ≤ 95) ∧ (j = 1 → z ≤ 23) ∧ (j = 3 → z ≤ 10000) ∧ (j = 4 → z ≤ 3) ∧ ((j = 5 ∨ j = 7 ∨ j = 9) → z ≤ 2000) ∧ ((j = 6 ∨ j = 8 ∨ j = 10) → z ≤ 12)
theorem gc_fS_ct {I : gr_I} {j : Nat} (h : gc_row 41 25 gc_fS I) (hj : j = 5 ∨ j = 6) : 0 ≤ I 41 j ∧ I 41 j ≤ 3 := by
  have h9 := h j (by omega)
  unfold gc_fS at h9
  omega
def gc_RC (I : gr_I) : Prop := ∀ j : Nat, (j = 0 ∨ j = 7 ∨ j = 10 ∨ j = 13 ∨ j = 16 ∨ j = 19 ∨ j = 22) → I 41 j = 1 → I 41 (j + 1) ≤ 15
theorem gc_RC_fr {I Iₚ : gr_I} (h : gc_RC I) (hf : ∀ k, Iₚ 41 k = I 41 k) : gc_RC Iₚ := fun j hj hz => by rw [hf] at hz ⊢; exact h j hj hz
theorem gc_RC_fill {Iₚ : gr_I} (hq : ∀ j, j < 25 → Iₚ 41 j = 0) : gc_RC Iₚ := fun j hj hz => by rw [hq j (by omega)] at hz; exact absurd hz (by decide)
theorem gc_RC_st {k : Nat} {I Iₚ : gr_I} (h : gc_RC I) (p : ∀ q' j, ¬ (q' = 41 ∧ j = k) → Iₚ q' j = I q' j) (hk : ¬ (k = 0 ∨ k = 7 ∨ k = 10 ∨ k = 13 ∨ k = 16 ∨ k = 19 ∨ k = 22) ∧ ¬ (k = 1 ∨ k = 8 ∨ k = 11 ∨ k = 14 ∨ k = 17 ∨ k = 20 ∨ k = 23)) : gc_RC Iₚ := fun j hj hz => by
  rw [p 41 j (fun h => by omega)] at hz
  rw [p 41 (j + 1) (fun h => by omega)]
  exact h j hj hz
theorem gc_RC_ctx {c : Int} {I Iₚ : gr_I} (h : gc_RC I) (hc : (c = 0 ∨ c = 7 ∨ c = 10 ∨ c = 13 ∨ c = 16 ∨ c = 19 ∨ c = 22)) (F : ∀ j : Nat, ¬ j = Int.toNat c → ¬ j = Int.toNat (c + 1) → ¬ j = Int.toNat (c + 2) → Iₚ 41 j = I 41 j) (hz : Iₚ 41 (Int.toNat c) = 1 → Iₚ 41 (Int.toNat (c + 1)) ≤ 15) : gc_RC Iₚ := fun j hj h1 => by
  by_cases e : j = Int.toNat c
  · rw [show j + 1 = Int.toNat (c + 1) from by omega]
    exact hz (by rw [← e]; exact h1)
  · rw [F j e (by omega) (by omega)] at h1
    rw [F (j + 1) (by omega) (by omega) (by omega)]
    exact h j hj h1
theorem gc_sc_cp {n dp sp m : Nat} {I Iₚ : gr_I} (h : gc_sc n I) (hr : gc_RC I) (p : ∀ q j, ¬ (q = n ∧ dp ≤ j ∧ j < dp + m) → Iₚ q j = I q j) (hq : ∀ j, j < m → Iₚ n (dp + j) = I 41 (sp + j)) (hd : dp % 25 = 0) (hs : sp = 0) (hm : m = 25) : gc_sc n Iₚ := fun k a b c d => by
  subst hs hm
  by_cases e : dp ≤ Int.toNat k ∧ Int.toNat k < dp + 25
  · have h1 := hq (Int.toNat k - dp) (by omega)
    have h2 := hq (Int.toNat k - dp + 1) (by omega)
    rw [show dp + (Int.toNat k - dp) = Int.toNat k from by omega, Nat.zero_add] at h1
    rw [show dp + (Int.toNat k - dp + 1) = Int.toNat (k + 1) from by omega, Nat.zero_add] at h2
    rw [h2]
    exact hr _ (by omega) (by rw [← h1]; exact d)
  · rw [p n _ (fun h => e h.2)] at d
    rw [p n _ (fun h => by omega)]
    exact h k a b c d
def gc_rg (n : Nat) (I : gr_I) (m lo hi : Int) : Prop := ∀ k : Int, 0 ≤ k → k < m → lo ≤ I n (Int.toNat k) ∧ I n (Int.toNat k) ≤ hi
theorem gc_rg_fr {n : Nat} {I Iₚ : gr_I} {m lo hi : Int} (h : gc_rg n I m lo hi) (hf : ∀ k, Iₚ n k = I n k) : gc_rg n Iₚ m lo hi := fun k a b => by rw [hf]; exact h k a b
theorem gc_rg_push {n : Nat} {I Iₚ : gr_I} {m lo hi : Int} (h : gc_rg n I m lo hi) (h0 : 0 ≤ m) (p : ∀ q j, ¬ (q = n ∧ j = Int.toNat m) → Iₚ q j = I q j) (hz : lo ≤ Iₚ n (Int.toNat m) ∧ Iₚ n (Int.toNat m) ≤ hi) : gc_rg n Iₚ (m + 1) lo hi := fun k a b => by
  by_cases hk : k = m
  · rw [hk]; exact hz
  · rw [p n (Int.toNat k) (fun q => by have := q.2; omega)]
    exact h k a (by omega)
theorem gc_cprg {ro : Nat → Nat} {I : gr_I} {i i1 r m dp sp j : Nat} (hI : gc_Inv ro I) (hr : ro i = r) (hr1 : ro i1 = r) (hm : (gc_np gc_rl r).1 = m + 1) (hn : (gc_np gc_rh r).1 = m + 1) (e : (dp + j) % (m + 1) = (sp + j) % (m + 1)) : gc_lo (ro i1) (dp + j) ≤ I i (sp + j) ∧ I i (sp + j) ≤ gc_hi (ro i1) (dp + j) := by
  have a1 := gc_lom (k := dp + j) (c := (sp + j) % (m + 1)) hm e rfl
  have a2 := gc_lom (k := sp + j) (c := (sp + j) % (m + 1)) hm rfl rfl
  have b1 := gc_him (k := dp + j) (c := (sp + j) % (m + 1)) hn e rfl
  have b2 := gc_him (k := sp + j) (c := (sp + j) % (m + 1)) hn rfl rfl
  rw [hr1, a1, b1, ← a2, ← b2]
  have h9 := hI i (sp + j)
  rw [hr] at h9
  exact h9
def gc_fL (j : Nat) (z : Int) : Prop := -1 ≤ z ∧ z ≤ 16777215 ∧ ((j = 0 ∨ j = 1) → 0 ≤ z) ∧ ((j = 1 ∨ j = 2) → z ≤ 2000)
theorem gc_RL_of {I : gr_I} (h : 0 ≤ I 41 0 ∧ I 41 0 ≤ 16777215 ∧ 0 ≤ I 41 1 ∧ I 41 1 ≤ 2000 ∧ -1 ≤ I 41 2 ∧ I 41 2 ≤ 2000) : gc_row 41 3 gc_fL I := fun j hj => by
  unfold gc_fL
  rcases (show j = 0 ∨ j = 1 ∨ j = 2 from by omega) with rfl | rfl | rfl <;> omega
theorem gc_RL_cp {ro : Nat → Nat} {I : gr_I} {i1 dp sp j : Nat} (h : gc_row 41 3 gc_fL I) (hr : ro i1 = 39) (hd : dp % 3 = 0) (hs : sp = 0) (hj : j < 3) : gc_lo (ro i1) (dp + j) ≤ I 41 (sp + j) ∧ I 41 (sp + j) ≤ gc_hi (ro i1) (dp + j) := by
  subst hs
  rw [hr, Nat.zero_add]
  have h9 := h j hj
  unfold gc_fL at h9
  rw [gc_lom (r := 39) (k := dp + j) (c := j) rfl (by show (dp + j) % 3 = j; omega) rfl, gc_him (r := 39) (k := dp + j) (c := j) rfl (by show (dp + j) % 3 = j; omega) rfl]
  rcases (show j = 0 ∨ j = 1 ∨ j = 2 from by omega) with rfl | rfl | rfl
  · exact ⟨show (0 : Int) ≤ _ from by omega, show _ ≤ (16777215 : Int) from by omega⟩
  · exact ⟨show (0 : Int) ≤ _ from by omega, show _ ≤ (2000 : Int) from by omega⟩
  · exact ⟨show (-1 : Int) ≤ _ from by omega, show _ ≤ (2000 : Int) from by omega⟩
theorem gc_RS_cp {ro : Nat → Nat} {I : gr_I} {i1 dp sp j : Nat} (h : gc_row 41 25 gc_fS I) (hr : ro i1 = 41) (hd : dp % 25 = 0) (hs : sp = 0) (hj : j < 25) : gc_lo (ro i1) (dp + j) ≤ I 41 (sp + j) ∧ I 41 (sp + j) ≤ gc_hi (ro i1) (dp + j) := by
  subst hs
  rw [hr, Nat.zero_add]
  have h9 := h j hj
  unfold gc_fS at h9
  rw [gc_lom (r := 41) (k := dp + j) (c := j) rfl (by show (dp + j) % 25 = j; omega) rfl, gc_him (r := 41) (k := dp + j) (c := j) rfl (by show (dp + j) % 25 = j; omega) rfl]
  rcases (show j = 0 ∨ j = 1 ∨ j = 2 ∨ j = 3 ∨ j = 4 ∨ j = 5 ∨ j = 6 ∨ j = 7 ∨ j = 8 ∨ j = 9 ∨ j = 10 ∨ j = 11 ∨ j = 12 ∨ j = 13 ∨ j = 14 ∨ j = 15 ∨ j = 16 ∨ j = 17 ∨ j = 18 ∨ j = 19 ∨ j = 20 ∨ j = 21 ∨ j = 22 ∨ j = 23 ∨ j = 24 from by omega) with rfl | rfl | rfl | rfl | rfl | rfl | rfl | rfl | rfl | rfl | rfl | rfl | rfl | rfl | rfl | rfl | rfl | rfl | rfl | rfl | rfl | rfl | rfl | rfl | rfl
  · exact ⟨show (0 : Int) ≤ _ from by omega, show _ ≤ (2 : Int) from by omega⟩
  · exact ⟨show (0 : Int) ≤ _ from by omega, show _ ≤ (2000 : Int) from by omega⟩
  · exact ⟨show (0 : Int) ≤ _ from by omega, show _ ≤ (12 : Int) from by omega⟩
  · exact ⟨show (0 : Int) ≤ _ from by omega, show _ ≤ (2000 : Int) from by omega⟩
  · exact ⟨show (0 : Int) ≤ _ from by omega, show _ ≤ (12 : Int) from by omega⟩
  · exact ⟨show (0 : Int) ≤ _ from by omega, show _ ≤ (3 : Int) from by omega⟩
  · exact ⟨show (0 : Int) ≤ _ from by omega, show _ ≤ (3 : Int) from by omega⟩
  · exact ⟨show (0 : Int) ≤ _ from by omega, show _ ≤ (2 : Int) from by omega⟩
  · exact ⟨show (0 : Int) ≤ _ from by omega, show _ ≤ (2000 : Int) from by omega⟩
  · exact ⟨show (0 : Int) ≤ _ from by omega, show _ ≤ (12 : Int) from by omega⟩
  · exact ⟨show (0 : Int) ≤ _ from by omega, show _ ≤ (2 : Int) from by omega⟩
  · exact ⟨show (0 : Int) ≤ _ from by omega, show _ ≤ (2000 : Int) from by omega⟩
  · exact ⟨show (0 : Int) ≤ _ from by omega, show _ ≤ (12 : Int) from by omega⟩
  · exact ⟨show (0 : Int) ≤ _ from by omega, show _ ≤ (2 : Int) from by omega⟩
  · exact ⟨show (0 : Int) ≤ _ from by omega, show _ ≤ (2000 : Int) from by omega⟩
  · exact ⟨show (0 : Int) ≤ _ from by omega, show _ ≤ (12 : Int) from by omega⟩
  · exact ⟨show (0 : Int) ≤ _ from by omega, show _ ≤ (2 : Int) from by omega⟩
  · exact ⟨show (0 : Int) ≤ _ from by omega, show _ ≤ (2000 : Int) from by omega⟩
  · exact ⟨show (0 : Int) ≤ _ from by omega, show _ ≤ (12 : Int) from by omega⟩
  · exact ⟨show (0 : Int) ≤ _ from by omega, show _ ≤ (2 : Int) from by omega⟩
  · exact ⟨show (0 : Int) ≤ _ from by omega, show _ ≤ (2000 : Int) from by omega⟩
  · exact ⟨show (0 : Int) ≤ _ from by omega, show _ ≤ (12 : Int) from by omega⟩
  · exact ⟨show (0 : Int) ≤ _ from by omega, show _ ≤ (2 : Int) from by omega⟩
  · exact ⟨show (0 : Int) ≤ _ from by omega, show _ ≤ (2000 : Int) from by omega⟩
  · exact ⟨show (0 : Int) ≤ _ from by omega, show _ ≤ (12 : Int) from by omega⟩
theorem gc_RW_cp {ro : Nat → Nat} {I : gr_I} {i1 dp sp j : Nat} (h : gc_row 41 11 gc_fW I) (hr : ro i1 = 40) (hd : dp % 11 = 0) (hs : sp = 0) (hj : j < 11) : gc_lo (ro i1) (dp + j) ≤ I 41 (sp + j) ∧ I 41 (sp + j) ≤ gc_hi (ro i1) (dp + j) := by
  subst hs
  rw [hr, Nat.zero_add]
  have h9 := h j hj
  unfold gc_fW at h9
  rw [gc_lom (r := 40) (k := dp + j) (c := j) rfl (by show (dp + j) % 11 = j; omega) rfl, gc_him (r := 40) (k := dp + j) (c := j) rfl (by show (dp + j) % 11 = j; omega) rfl]
  rcases (show j = 0 ∨ j = 1 ∨ j = 2 ∨ j = 3 ∨ j = 4 ∨ j = 5 ∨ j = 6 ∨ j = 7 ∨ j = 8 ∨ j = 9 ∨ j = 10 from by omega) with rfl | rfl | rfl | rfl | rfl | rfl | rfl | rfl | rfl | rfl | rfl
  · exact ⟨show (0 : Int) ≤ _ from by omega, show _ ≤ (95 : Int) from by omega⟩
  · exact ⟨show (0 : Int) ≤ _ from by omega, show _ ≤ (23 : Int) from by omega⟩
  · exact ⟨show (0 : Int) ≤ _ from by omega, show _ ≤ (16777215 : Int) from by omega⟩
  · exact ⟨show (0 : Int) ≤ _ from by omega, show _ ≤ (10000 : Int) from by omega⟩
  · exact ⟨show (0 : Int) ≤ _ from by omega, show _ ≤ (3 : Int) from by omega⟩
  · exact ⟨show (0 : Int) ≤ _ from by omega, show _ ≤ (2000 : Int) from by omega⟩
  · exact ⟨show (0 : Int) ≤ _ from by omega, show _ ≤ (12 : Int) from by omega⟩
  · exact ⟨show (0 : Int) ≤ _ from by omega, show _ ≤ (2000 : Int) from by omega⟩
  · exact ⟨show (0 : Int) ≤ _ from by omega, show _ ≤ (12 : Int) from by omega⟩
  · exact ⟨show (0 : Int) ≤ _ from by omega, show _ ≤ (2000 : Int) from by omega⟩
  · exact ⟨show (0 : Int) ≤ _ from by omega, show _ ≤ (12 : Int) from by omega⟩
