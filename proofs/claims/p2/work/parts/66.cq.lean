def gc_row (q m : Nat) (φ : Nat → Int → Prop) (I : gr_I) : Prop := ∀ j, j < m → φ j (I q j)
theorem gc_row_fr {q m : Nat} {φ : Nat → Int → Prop} {I I' : gr_I} (h : gc_row q m φ I) (hf : ∀ k, I' q k = I q k) : gc_row q m φ I' := fun j hj => by rw [hf]; exact h j hj
theorem gc_row_st {q m k : Nat} {z : Int} {φ : Nat → Int → Prop} {I I' : gr_I} (h : gc_row q m φ I) (p : ∀ q' j, ¬ (q' = q ∧ j = k) → I' q' j = I q' j) (hz : I' q k = z) (hp : φ k z) : gc_row q m φ I' := fun j hj => by
  by_cases e : j = k
  · rw [e, hz]; exact hp
  · rw [p q j (fun h => e h.2)]; exact h j hj
theorem gc_row_fill {q m : Nat} {z : Int} {φ : Nat → Int → Prop} {I' : gr_I} (hq : ∀ j, j < m → I' q j = z) (hp : ∀ j, φ j z) : gc_row q m φ I' := fun j hj => by rw [hq j hj]; exact hp j
def gc_fS (j : Nat) (z : Int) : Prop := 0 ≤ z ∧ z ≤ 2000 ∧ ((j = 0 ∨ j = 7 ∨ j = 10 ∨ j = 13 ∨ j = 16 ∨ j = 19 ∨ j = 22) → z ≤ 2) ∧ ((j = 2 ∨ j = 9 ∨ j = 12 ∨ j = 15 ∨ j = 18 ∨ j = 21 ∨ j = 24 ∨ j = 4) → z ≤ 12) ∧ ((j = 5 ∨ j = 6) → z ≤ 3)
def gc_fW (j : Nat) (z : Int) : Prop := 0 ≤ z ∧ z ≤ 16777215 ∧ (j = 0 → z ≤ 95) ∧ (j = 1 → z ≤ 23) ∧ (j = 3 → z ≤ 10000) ∧ (j = 4 → z ≤ 3) ∧ ((j = 5 ∨ j = 7 ∨ j = 9) → z ≤ 2000) ∧ ((j = 6 ∨ j = 8 ∨ j = 10) → z ≤ 12)
theorem gc_fS_ct {I : gr_I} {j : Nat} (h : gc_row 41 25 gc_fS I) (hj : j = 5 ∨ j = 6) : 0 ≤ I 41 j ∧ I 41 j ≤ 3 := by
  have h9 := h j (by omega)
  unfold gc_fS at h9
  omega
def gc_RC (I : gr_I) : Prop := ∀ j : Nat, (j = 0 ∨ j = 7 ∨ j = 10 ∨ j = 13 ∨ j = 16 ∨ j = 19 ∨ j = 22) → I 41 j = 1 → I 41 (j + 1) ≤ 15
theorem gc_RC_fr {I I' : gr_I} (h : gc_RC I) (hf : ∀ k, I' 41 k = I 41 k) : gc_RC I' := fun j hj hz => by rw [hf] at hz ⊢; exact h j hj hz
theorem gc_RC_fill {I' : gr_I} (hq : ∀ j, j < 25 → I' 41 j = 0) : gc_RC I' := fun j hj hz => by rw [hq j (by omega)] at hz; exact absurd hz (by decide)
theorem gc_RC_st {k : Nat} {I I' : gr_I} (h : gc_RC I) (p : ∀ q' j, ¬ (q' = 41 ∧ j = k) → I' q' j = I q' j) (hk : ¬ (k = 0 ∨ k = 7 ∨ k = 10 ∨ k = 13 ∨ k = 16 ∨ k = 19 ∨ k = 22) ∧ ¬ (k = 1 ∨ k = 8 ∨ k = 11 ∨ k = 14 ∨ k = 17 ∨ k = 20 ∨ k = 23)) : gc_RC I' := fun j hj hz => by
  rw [p 41 j (fun h => by omega)] at hz
  rw [p 41 (j + 1) (fun h => by omega)]
  exact h j hj hz
theorem gc_RC_ctx {c : Int} {I I' : gr_I} (h : gc_RC I) (hc : (c = 0 ∨ c = 7 ∨ c = 10 ∨ c = 13 ∨ c = 16 ∨ c = 19 ∨ c = 22)) (F : ∀ j : Nat, ¬ j = Int.toNat c → ¬ j = Int.toNat (c + 1) → ¬ j = Int.toNat (c + 2) → I' 41 j = I 41 j) (hz : I' 41 (Int.toNat c) = 1 → I' 41 (Int.toNat (c + 1)) ≤ 15) : gc_RC I' := fun j hj h1 => by
  by_cases e : j = Int.toNat c
  · rw [show j + 1 = Int.toNat (c + 1) from by omega]
    exact hz (by rw [← e]; exact h1)
  · rw [F j e (by omega) (by omega)] at h1
    rw [F (j + 1) (by omega) (by omega) (by omega)]
    exact h j hj h1
theorem gc_sc_cp {n dp sp m : Nat} {I I' : gr_I} (h : gc_sc n I) (hr : gc_RC I) (p : ∀ q j, ¬ (q = n ∧ dp ≤ j ∧ j < dp + m) → I' q j = I q j) (hq : ∀ j, j < m → I' n (dp + j) = I 41 (sp + j)) (hd : dp % 25 = 0) (hs : sp = 0) (hm : m = 25) : gc_sc n I' := fun k a b c d => by
  subst hs hm
  by_cases e : dp ≤ Int.toNat k ∧ Int.toNat k < dp + 25
  · have h1 := hq (Int.toNat k - dp) (by omega)
    have h2 := hq (Int.toNat k - dp + 1) (by omega)
    rw [show dp + (Int.toNat k - dp) = Int.toNat k from by omega, Nat.zero_add] at h1
    rw [show dp + (Int.toNat k - dp + 1) = Int.toNat (k + 1) from by omega, Nat.zero_add] at h2
    rw [h2]
    exact hr _ (by omega) (by rw [← h1]; exact d)
  · rw [p n _ (fun h => e h.2)] at d
    rw [p n _ (fun h => by omega)]
    exact h k a b c d
def gc_rg (n : Nat) (I : gr_I) (m lo hi : Int) : Prop := ∀ k : Int, 0 ≤ k → k < m → lo ≤ I n (Int.toNat k) ∧ I n (Int.toNat k) ≤ hi
theorem gc_rg_fr {n : Nat} {I I' : gr_I} {m lo hi : Int} (h : gc_rg n I m lo hi) (hf : ∀ k, I' n k = I n k) : gc_rg n I' m lo hi := fun k a b => by rw [hf]; exact h k a b
theorem gc_rg_push {n : Nat} {I I' : gr_I} {m lo hi : Int} (h : gc_rg n I m lo hi) (h0 : 0 ≤ m) (p : ∀ q j, ¬ (q = n ∧ j = Int.toNat m) → I' q j = I q j) (hz : lo ≤ I' n (Int.toNat m) ∧ I' n (Int.toNat m) ≤ hi) : gc_rg n I' (m + 1) lo hi := fun k a b => by
  by_cases hk : k = m
  · rw [hk]; exact hz
  · rw [p n (Int.toNat k) (fun q => by have := q.2; omega)]
    exact h k a (by omega)
theorem gc_cprg {ro : Nat → Nat} {I : gr_I} {i i1 r m dp sp j : Nat} (hI : gc_Inv ro I) (hr : ro i = r) (hr1 : ro i1 = r) (hm : (gc_np gc_rl r).1 = m + 1) (hn : (gc_np gc_rh r).1 = m + 1) (e : (dp + j) % (m + 1) = (sp + j) % (m + 1)) : gc_lo (ro i1) (dp + j) ≤ I i (sp + j) ∧ I i (sp + j) ≤ gc_hi (ro i1) (dp + j) := by
  have a1 := gc_lom (k := dp + j) (c := (sp + j) % (m + 1)) hm e rfl
  have a2 := gc_lom (k := sp + j) (c := (sp + j) % (m + 1)) hm rfl rfl
  have b1 := gc_him (k := dp + j) (c := (sp + j) % (m + 1)) hn e rfl
  have b2 := gc_him (k := sp + j) (c := (sp + j) % (m + 1)) hn rfl rfl
  rw [hr1, a1, b1, ← a2, ← b2]
  have h9 := hI i (sp + j)
  rw [hr] at h9
  exact h9
def gc_fL (j : Nat) (z : Int) : Prop := -1 ≤ z ∧ z ≤ 16777215 ∧ ((j = 0 ∨ j = 1) → 0 ≤ z) ∧ ((j = 1 ∨ j = 2) → z ≤ 2000)
theorem gc_RL_of {I : gr_I} (h : 0 ≤ I 41 0 ∧ I 41 0 ≤ 16777215 ∧ 0 ≤ I 41 1 ∧ I 41 1 ≤ 2000 ∧ -1 ≤ I 41 2 ∧ I 41 2 ≤ 2000) : gc_row 41 3 gc_fL I := fun j hj => by
  unfold gc_fL
  rcases (show j = 0 ∨ j = 1 ∨ j = 2 from by omega) with rfl | rfl | rfl <;> omega
theorem gc_RL_cp {ro : Nat → Nat} {I : gr_I} {i1 dp sp j : Nat} (h : gc_row 41 3 gc_fL I) (hr : ro i1 = 39) (hd : dp % 3 = 0) (hs : sp = 0) (hj : j < 3) : gc_lo (ro i1) (dp + j) ≤ I 41 (sp + j) ∧ I 41 (sp + j) ≤ gc_hi (ro i1) (dp + j) := by
  subst hs
  rw [hr, Nat.zero_add]
  have h9 := h j hj
  unfold gc_fL at h9
  rw [gc_lom (r := 39) (k := dp + j) (c := j) rfl (by show (dp + j) % 3 = j; omega) rfl, gc_him (r := 39) (k := dp + j) (c := j) rfl (by show (dp + j) % 3 = j; omega) rfl]
  rcases (show j = 0 ∨ j = 1 ∨ j = 2 from by omega) with rfl | rfl | rfl
  · exact ⟨show (0 : Int) ≤ _ from by omega, show _ ≤ (16777215 : Int) from by omega⟩
  · exact ⟨show (0 : Int) ≤ _ from by omega, show _ ≤ (2000 : Int) from by omega⟩
  · exact ⟨show (-1 : Int) ≤ _ from by omega, show _ ≤ (2000 : Int) from by omega⟩
theorem gc_RS_cp {ro : Nat → Nat} {I : gr_I} {i1 dp sp j : Nat} (h : gc_row 41 25 gc_fS I) (hr : ro i1 = 41) (hd : dp % 25 = 0) (hs : sp = 0) (hj : j < 25) : gc_lo (ro i1) (dp + j) ≤ I 41 (sp + j) ∧ I 41 (sp + j) ≤ gc_hi (ro i1) (dp + j) := by
  subst hs
  rw [hr, Nat.zero_add]
  have h9 := h j hj
  unfold gc_fS at h9
  rw [gc_lom (r := 41) (k := dp + j) (c := j) rfl (by show (dp + j) % 25 = j; omega) rfl, gc_him (r := 41) (k := dp + j) (c := j) rfl (by show (dp + j) % 25 = j; omega) rfl]
  rcases (show j = 0 ∨ j = 1 ∨ j = 2 ∨ j = 3 ∨ j = 4 ∨ j = 5 ∨ j = 6 ∨ j = 7 ∨ j = 8 ∨ j = 9 ∨ j = 10 ∨ j = 11 ∨ j = 12 ∨ j = 13 ∨ j = 14 ∨ j = 15 ∨ j = 16 ∨ j = 17 ∨ j = 18 ∨ j = 19 ∨ j = 20 ∨ j = 21 ∨ j = 22 ∨ j = 23 ∨ j = 24 from by omega) with rfl | rfl | rfl | rfl | rfl | rfl | rfl | rfl | rfl | rfl | rfl | rfl | rfl | rfl | rfl | rfl | rfl | rfl | rfl | rfl | rfl | rfl | rfl | rfl | rfl
  · exact ⟨show (0 : Int) ≤ _ from by omega, show _ ≤ (2 : Int) from by omega⟩
  · exact ⟨show (0 : Int) ≤ _ from by omega, show _ ≤ (2000 : Int) from by omega⟩
  · exact ⟨show (0 : Int) ≤ _ from by omega, show _ ≤ (12 : Int) from by omega⟩
  · exact ⟨show (0 : Int) ≤ _ from by omega, show _ ≤ (2000 : Int) from by omega⟩
  · exact ⟨show (0 : Int) ≤ _ from by omega, show _ ≤ (12 : Int) from by omega⟩
  · exact ⟨show (0 : Int) ≤ _ from by omega, show _ ≤ (3 : Int) from by omega⟩
  · exact ⟨show (0 : Int) ≤ _ from by omega, show _ ≤ (3 : Int) from by omega⟩
  · exact ⟨show (0 : Int) ≤ _ from by omega, show _ ≤ (2 : Int) from by omega⟩
  · exact ⟨show (0 : Int) ≤ _ from by omega, show _ ≤ (2000 : Int) from by omega⟩
  · exact ⟨show (0 : Int) ≤ _ from by omega, show _ ≤ (12 : Int) from by omega⟩
  · exact ⟨show (0 : Int) ≤ _ from by omega, show _ ≤ (2 : Int) from by omega⟩
  · exact ⟨show (0 : Int) ≤ _ from by omega, show _ ≤ (2000 : Int) from by omega⟩
  · exact ⟨show (0 : Int) ≤ _ from by omega, show _ ≤ (12 : Int) from by omega⟩
  · exact ⟨show (0 : Int) ≤ _ from by omega, show _ ≤ (2 : Int) from by omega⟩
  · exact ⟨show (0 : Int) ≤ _ from by omega, show _ ≤ (2000 : Int) from by omega⟩
  · exact ⟨show (0 : Int) ≤ _ from by omega, show _ ≤ (12 : Int) from by omega⟩
  · exact ⟨show (0 : Int) ≤ _ from by omega, show _ ≤ (2 : Int) from by omega⟩
  · exact ⟨show (0 : Int) ≤ _ from by omega, show _ ≤ (2000 : Int) from by omega⟩
  · exact ⟨show (0 : Int) ≤ _ from by omega, show _ ≤ (12 : Int) from by omega⟩
  · exact ⟨show (0 : Int) ≤ _ from by omega, show _ ≤ (2 : Int) from by omega⟩
  · exact ⟨show (0 : Int) ≤ _ from by omega, show _ ≤ (2000 : Int) from by omega⟩
  · exact ⟨show (0 : Int) ≤ _ from by omega, show _ ≤ (12 : Int) from by omega⟩
  · exact ⟨show (0 : Int) ≤ _ from by omega, show _ ≤ (2 : Int) from by omega⟩
  · exact ⟨show (0 : Int) ≤ _ from by omega, show _ ≤ (2000 : Int) from by omega⟩
  · exact ⟨show (0 : Int) ≤ _ from by omega, show _ ≤ (12 : Int) from by omega⟩
theorem gc_RW_cp {ro : Nat → Nat} {I : gr_I} {i1 dp sp j : Nat} (h : gc_row 41 11 gc_fW I) (hr : ro i1 = 40) (hd : dp % 11 = 0) (hs : sp = 0) (hj : j < 11) : gc_lo (ro i1) (dp + j) ≤ I 41 (sp + j) ∧ I 41 (sp + j) ≤ gc_hi (ro i1) (dp + j) := by
  subst hs
  rw [hr, Nat.zero_add]
  have h9 := h j hj
  unfold gc_fW at h9
  rw [gc_lom (r := 40) (k := dp + j) (c := j) rfl (by show (dp + j) % 11 = j; omega) rfl, gc_him (r := 40) (k := dp + j) (c := j) rfl (by show (dp + j) % 11 = j; omega) rfl]
  rcases (show j = 0 ∨ j = 1 ∨ j = 2 ∨ j = 3 ∨ j = 4 ∨ j = 5 ∨ j = 6 ∨ j = 7 ∨ j = 8 ∨ j = 9 ∨ j = 10 from by omega) with rfl | rfl | rfl | rfl | rfl | rfl | rfl | rfl | rfl | rfl | rfl
  · exact ⟨show (0 : Int) ≤ _ from by omega, show _ ≤ (95 : Int) from by omega⟩
  · exact ⟨show (0 : Int) ≤ _ from by omega, show _ ≤ (23 : Int) from by omega⟩
  · exact ⟨show (0 : Int) ≤ _ from by omega, show _ ≤ (16777215 : Int) from by omega⟩
  · exact ⟨show (0 : Int) ≤ _ from by omega, show _ ≤ (10000 : Int) from by omega⟩
  · exact ⟨show (0 : Int) ≤ _ from by omega, show _ ≤ (3 : Int) from by omega⟩
  · exact ⟨show (0 : Int) ≤ _ from by omega, show _ ≤ (2000 : Int) from by omega⟩
  · exact ⟨show (0 : Int) ≤ _ from by omega, show _ ≤ (12 : Int) from by omega⟩
  · exact ⟨show (0 : Int) ≤ _ from by omega, show _ ≤ (2000 : Int) from by omega⟩
  · exact ⟨show (0 : Int) ≤ _ from by omega, show _ ≤ (12 : Int) from by omega⟩
  · exact ⟨show (0 : Int) ≤ _ from by omega, show _ ≤ (2000 : Int) from by omega⟩
  · exact ⟨show (0 : Int) ≤ _ from by omega, show _ ≤ (12 : Int) from by omega⟩
set_option maxHeartbeats 4000000 in
set_option maxRecDepth 100000 in
theorem d_X6_readFun {ws0 : List Cond} {tb : String → gz_T} (hws : gc_Ws ws0) (htb : gc_tbs tb) (sh : gz_Sh) (ro : Nat → Nat) (I : gr_I) (J : gr_J) (A : gc_A) (hI : gc_Inv ro I)  (hb : gc_Base sh ro A)  (x0 : I 23 5 ≤ I 23 6) (x1 : I 23 7 = 5 ∨ I 23 6 ≤ I 23 1) (x2 : I 23 5 ≤ I 23 1) (x3 : I 23 7 = 4 ∨ (I 23 5 < I 23 6 ∧ I 23 5 < I 23 1)) (x4 : I 23 7 = 3 → 2 ≤ I 23 6 - I 23 5 ∧ I 23 6 - I 23 5 ≤ 14) (KLT_I : gc_LT I) : ∃ r h', gz_Ev ws0 tb 5 (yX6_readFun, cX6_readFun, 7, (some .boolean)) [.inr (.inr (some 39))] sh (gc_h sh I J A) r sh h' 0 0 ∧ (∃ (I' : gr_I) (J' : gr_J), h' = gc_h sh I' J' A ∧ gc_Inv ro I' ∧ (∀ q j : Nat, ((q = 39 ∧ j = 3) ∨ (q = 39 ∧ j = 4) ∨ (q = 23 ∧ j = 5) ∨ (q = 23 ∧ j = 6) ∨ (q = 23 ∧ j = 7) ∨ (q = 23 ∧ j = 8) ∨ (q = 39 ∧ j = 7) ∨ q = 41 ∨ (q = 4 ∧ j = 1) ∨ q = 11 ∨ q = 12 ∨ q = 13 ∨ q = 14) ∨ I' q j = I q j) ∧ (∀ q j : Nat, ((q = 23 ∧ j = 9) ∨ q = 5) ∨ J' q j = J q j) ∧ gc_LT I' ∧ (∃ z : Int, r = some (.inl z) ∧ 0 ≤ z ∧ z ≤ 1 ∧ (I' 23 5 ≤ I' 23 6) ∧ (I' 23 7 = 5 ∨ I' 23 6 ≤ I' 23 1) ∧ (I' 23 5 ≤ I' 23 1) ∧ (I' 23 7 = 4 ∨ (I' 23 5 < I' 23 6 ∧ I' 23 5 < I' 23 1)) ∧ (I' 23 7 = 3 → 2 ≤ I' 23 6 - I' 23 5 ∧ I' 23 6 - I' 23 5 ≤ 14) ∧ (I' 23 1 = I 23 1) ∧ (I 23 5 ≤ I' 23 5))) := by
  have FI : ∀ q j : Nat, ((q = 39 ∧ j = 3) ∨ (q = 39 ∧ j = 4) ∨ (q = 23 ∧ j = 5) ∨ (q = 23 ∧ j = 6) ∨ (q = 23 ∧ j = 7) ∨ (q = 23 ∧ j = 8) ∨ (q = 39 ∧ j = 7) ∨ q = 41 ∨ (q = 4 ∧ j = 1) ∨ q = 11 ∨ q = 12 ∨ q = 13 ∨ q = 14) ∨ I q j = I q j := fun _ _ => Or.inr rfl
  have FJ : ∀ q j : Nat, ((q = 23 ∧ j = 9) ∨ q = 5) ∨ J q j = J q j := fun _ _ => Or.inr rfl
  have A_1_0 : A 1 0 = some 2 := gc_bA hb rfl
  have A_1_1 : A 1 1 = some 4 := gc_bA hb rfl
  have A_1_6 : A 1 6 = some 11 := gc_bA hb rfl
  have A_1_7 : A 1 7 = some 12 := gc_bA hb rfl
  have A_1_8 : A 1 8 = some 13 := gc_bA hb rfl
  have A_1_9 : A 1 9 = some 14 := gc_bA hb rfl
  have A_39_0 : A 39 0 = some 1 := gc_bA hb rfl
  have A_39_1 : A 39 1 = some 23 := gc_bA hb rfl
  have A_39_10 : A 39 10 = some 41 := gc_bA hb rfl
  have B_1 : 1 < 1000000 := by decide
  have B_11 : 11 < 1000000 := by decide
  have B_12 : 12 < 1000000 := by decide
  have B_13 : 13 < 1000000 := by decide
  have B_14 : 14 < 1000000 := by decide
  have B_2 : 2 < 1000000 := by decide
  have B_23 : 23 < 1000000 := by decide
  have B_39 : 39 < 1000000 := by decide
  have B_4 : 4 < 1000000 := by decide
  have B_41 : 41 < 1000000 := by decide
  have R_11 : ro 11 = 25 := gc_bR hb (by decide) rfl
  have R_12 : ro 12 = 26 := gc_bR hb (by decide) rfl
  have R_13 : ro 13 = 25 := gc_bR hb (by decide) rfl
  have R_14 : ro 14 = 27 := gc_bR hb (by decide) rfl
  have R_2 : ro 2 = 9 := gc_bR hb (by decide) rfl
  have R_23 : ro 23 = 3 := gc_bR hb (by decide) rfl
  have R_39 : ro 39 = 42 := gc_bR hb (by decide) rfl
  have R_4 : ro 4 = 11 := gc_bR hb (by decide) rfl
  have R_41 : ro 41 = 0 := gc_bR hb (by decide) rfl
  have S_1 : sh[1]? = some (false, 8, 21) := gc_bS hb rfl
  have S_11 : sh[11]? = some (true, 1, 96) := gc_bS hb rfl
  have S_12 : sh[12]? = some (true, 1, 96) := gc_bS hb rfl
  have S_13 : sh[13]? = some (true, 1, 384) := gc_bS hb rfl
  have S_14 : sh[14]? = some (true, 1, 96) := gc_bS hb rfl
  have S_2 : sh[2]? = some (false, 4, 2) := gc_bS hb rfl
  have S_23 : sh[23]? = some (false, 9, 10) := gc_bS hb rfl
  have S_39 : sh[39]? = some (false, 6, 19) := gc_bS hb rfl
  have S_4 : sh[4]? = some (false, 4, 2) := gc_bS hb rfl
  have S_41 : sh[41]? = some (true, 1, 25) := gc_bS hb rfl
  have hD : gv_D (gc_E6 ws0 tb 4 (yX6_readFun, cX6_readFun, 7, (some .boolean)) kX6_readFun) := gq_ok oX6_readFun
  refine gc_ev6 (d := 4) (l := kX6_readFun) (Po := fun r h' => (∃ (I' : gr_I) (J' : gr_J), h' = gc_h sh I' J' A ∧ gc_Inv ro I' ∧ (∀ q j : Nat, ((q = 39 ∧ j = 3) ∨ (q = 39 ∧ j = 4) ∨ (q = 23 ∧ j = 5) ∨ (q = 23 ∧ j = 6) ∨ (q = 23 ∧ j = 7) ∨ (q = 23 ∧ j = 8) ∨ (q = 39 ∧ j = 7) ∨ q = 41 ∨ (q = 4 ∧ j = 1) ∨ q = 11 ∨ q = 12 ∨ q = 13 ∨ q = 14) ∨ I' q j = I q j) ∧ (∀ q j : Nat, ((q = 23 ∧ j = 9) ∨ q = 5) ∨ J' q j = J q j) ∧ gc_LT I' ∧ (∃ z : Int, r = some (.inl z) ∧ 0 ≤ z ∧ z ≤ 1 ∧ (I' 23 5 ≤ I' 23 6) ∧ (I' 23 7 = 5 ∨ I' 23 6 ≤ I' 23 1) ∧ (I' 23 5 ≤ I' 23 1) ∧ (I' 23 7 = 4 ∨ (I' 23 5 < I' 23 6 ∧ I' 23 5 < I' 23 1)) ∧ (I' 23 7 = 3 → 2 ≤ I' 23 6 - I' 23 5 ∧ I' 23 6 - I' 23 5 ≤ 14) ∧ (I' 23 1 = I 23 1) ∧ (I 23 5 ≤ I' 23 5)))) htb rfl (Nat.le_of_ble_eq_true rfl) ?_
  have f1 := (show 0 ≤ I 23 1 ∧ I 23 1 ≤ 1000 from gc_in hI R_23 rfl rfl)
  have f2 := (show 0 ≤ I 23 5 ∧ I 23 5 ≤ 1000 from gc_in hI R_23 rfl rfl)
  have f3 := (show 0 ≤ I 23 6 ∧ I 23 6 ≤ 1001 from gc_in hI R_23 rfl rfl)
  have f4 := (show 0 ≤ I 23 7 ∧ I 23 7 ≤ 125 from gc_in hI R_23 rfl rfl)
  have f5 := (show 0 ≤ I 4 1 ∧ I 4 1 ≤ 96 from gc_in hI R_4 rfl rfl)
  have f6 := (show 0 ≤ I 2 1 ∧ I 2 1 ≤ 32 from gc_in hI R_2 rfl rfl)
  have L53 : ∀ (n9 : Nat) (I7 : gr_I) (J8 : gr_J) (v1_9 : Int64) (v3_9 : Int) (v5_9 : Int), (5 - v3_9).toNat < n9 → gc_Inv ro I7 → (∀ q j : Nat, ((q = 39 ∧ j = 3) ∨ (q = 39 ∧ j = 4) ∨ (q = 23 ∧ j = 5) ∨ (q = 23 ∧ j = 6) ∨ (q = 23 ∧ j = 7) ∨ (q = 23 ∧ j = 8) ∨ (q = 39 ∧ j = 7) ∨ q = 41 ∨ (q = 4 ∧ j = 1) ∨ q = 11 ∨ q = 12 ∨ q = 13 ∨ q = 14) ∨ I7 q j = I q j) → (∀ q j : Nat, ((q = 23 ∧ j = 9) ∨ q = 5) ∨ J8 q j = J q j) → gc_LT I7 → ((0 ≤ v3_9 ∧ v3_9 ≤ 4) ∧ (0 ≤ v5_9 ∧ v5_9 ≤ 5) ∧ (I7 23 5 ≤ I7 23 6) ∧ (I7 23 7 = 5 ∨ I7 23 6 ≤ I7 23 1) ∧ (I7 23 5 ≤ I7 23 1) ∧ (I7 23 7 = 4 ∨ (I7 23 5 < I7 23 6 ∧ I7 23 5 < I7 23 1)) ∧ (I7 23 7 = 3 → 2 ≤ I7 23 6 - I7 23 5 ∧ I7 23 6 - I7 23 5 ≤ 14) ∧ (I7 23 1 = I 23 1) ∧ (I 23 5 ≤ I7 23 5)) → (gc_rg 41 I7 v3_9 0 31) → gv_X (gc_E6 ws0 tb 4 (yX6_readFun, cX6_readFun, 7, (some .boolean)) kX6_readFun) (gv_Q cX6_readFun (some .boolean) sh (fun r h' => (∃ (I' : gr_I) (J' : gr_J), h' = gc_h sh I' J' A ∧ gc_Inv ro I' ∧ (∀ q j : Nat, ((q = 39 ∧ j = 3) ∨ (q = 39 ∧ j = 4) ∨ (q = 23 ∧ j = 5) ∨ (q = 23 ∧ j = 6) ∨ (q = 23 ∧ j = 7) ∨ (q = 23 ∧ j = 8) ∨ (q = 39 ∧ j = 7) ∨ q = 41 ∨ (q = 4 ∧ j = 1) ∨ q = 11 ∨ q = 12 ∨ q = 13 ∨ q = 14) ∨ I' q j = I q j) ∧ (∀ q j : Nat, ((q = 23 ∧ j = 9) ∨ q = 5) ∨ J' q j = J q j) ∧ gc_LT I' ∧ (∃ z : Int, r = some (.inl z) ∧ 0 ≤ z ∧ z ≤ 1 ∧ (I' 23 5 ≤ I' 23 6) ∧ (I' 23 7 = 5 ∨ I' 23 6 ≤ I' 23 1) ∧ (I' 23 5 ≤ I' 23 1) ∧ (I' 23 7 = 4 ∨ (I' 23 5 < I' 23 6 ∧ I' 23 5 < I' 23 1)) ∧ (I' 23 7 = 3 → 2 ≤ I' 23 6 - I' 23 5 ∧ I' 23 6 - I' 23 5 ≤ 14) ∧ (I' 23 1 = I 23 1) ∧ (I 23 5 ≤ I' 23 5))))) (53, [(0, .inr (.inr (some 39))), (1, .inr (.inl v1_9)), (3, .inl v3_9), (4, .inr (.inr (some 41))), (5, .inl v5_9)], [], sh, gc_h sh I7 J8 A) := by
    intro n9
    induction n9 with
    | zero => intro I7 J8 v1_9 v3_9 v5_9 hn; omega
    | succ n9 ih53 =>
      intro I7 J8 v1_9 v3_9 v5_9 hn hI7 FI7 FJ8 KLT_I7 m_9 e0_9
      clear x0 x1 x2 x3 x4
      obtain ⟨hv3_9, hv5_9, e1_9, e2_9, e3_9, e4_9, e5_9, e6_9, e7_9⟩ := m_9
      have f10 := (show 0 ≤ I7 23 1 ∧ I7 23 1 ≤ 1000 from gc_in hI7 R_23 rfl rfl)
      have f11 := (show 0 ≤ I7 23 5 ∧ I7 23 5 ≤ 1000 from gc_in hI7 R_23 rfl rfl)
      have f12 := (show 0 ≤ I7 23 6 ∧ I7 23 6 ≤ 1001 from gc_in hI7 R_23 rfl rfl)
      have f13 := (show 0 ≤ I7 23 7 ∧ I7 23 7 ≤ 125 from gc_in hI7 R_23 rfl rfl)
      have f14 := (show 0 ≤ I7 4 1 ∧ I7 4 1 ≤ 96 from gc_in hI7 R_4 rfl rfl)
      have f15 := (show 0 ≤ I7 2 1 ∧ I7 2 1 ≤ 32 from gc_in hI7 R_2 rfl rfl)
      have L141 : ((0 ≤ v3_9 ∧ v3_9 ≤ 4) ∧ (I7 23 5 ≤ I7 23 6) ∧ (I7 23 7 = 5 ∨ I7 23 6 ≤ I7 23 1) ∧ (I7 23 5 ≤ I7 23 1) ∧ (I7 23 7 = 4 ∨ (I7 23 5 < I7 23 6 ∧ I7 23 5 < I7 23 1)) ∧ (I7 23 7 = 3 → 2 ≤ I7 23 6 - I7 23 5 ∧ I7 23 6 - I7 23 5 ≤ 14) ∧ (I7 23 1 = I 23 1) ∧ (I 23 5 ≤ I7 23 5)) → (gc_rg 41 I7 v3_9 0 31) → gv_X (gc_E6 ws0 tb 4 (yX6_readFun, cX6_readFun, 7, (some .boolean)) kX6_readFun) (gv_Q cX6_readFun (some .boolean) sh (fun r h' => (∃ (I' : gr_I) (J' : gr_J), h' = gc_h sh I' J' A ∧ gc_Inv ro I' ∧ (∀ q j : Nat, ((q = 39 ∧ j = 3) ∨ (q = 39 ∧ j = 4) ∨ (q = 23 ∧ j = 5) ∨ (q = 23 ∧ j = 6) ∨ (q = 23 ∧ j = 7) ∨ (q = 23 ∧ j = 8) ∨ (q = 39 ∧ j = 7) ∨ q = 41 ∨ (q = 4 ∧ j = 1) ∨ q = 11 ∨ q = 12 ∨ q = 13 ∨ q = 14) ∨ I' q j = I q j) ∧ (∀ q j : Nat, ((q = 23 ∧ j = 9) ∨ q = 5) ∨ J' q j = J q j) ∧ gc_LT I' ∧ (∃ z : Int, r = some (.inl z) ∧ 0 ≤ z ∧ z ≤ 1 ∧ (I' 23 5 ≤ I' 23 6) ∧ (I' 23 7 = 5 ∨ I' 23 6 ≤ I' 23 1) ∧ (I' 23 5 ≤ I' 23 1) ∧ (I' 23 7 = 4 ∨ (I' 23 5 < I' 23 6 ∧ I' 23 5 < I' 23 1)) ∧ (I' 23 7 = 3 → 2 ≤ I' 23 6 - I' 23 5 ∧ I' 23 6 - I' 23 5 ≤ 14) ∧ (I' 23 1 = I 23 1) ∧ (I 23 5 ≤ I' 23 5))))) (141, [(0, .inr (.inr (some 39))), (1, .inr (.inl v1_9)), (3, .inl v3_9), (4, .inr (.inr (some 41)))], [], sh, gc_h sh I7 J8 A) := by
        intro m_16 e0_16
        obtain ⟨hv3_9_16, e1_16, e2_16, e3_16, e4_16, e5_16, e6_16, e7_16⟩ := m_16
        have f17 := (show 0 ≤ I7 23 1 ∧ I7 23 1 ≤ 1000 from gc_in hI7 R_23 rfl rfl)
        have f18 := (show 0 ≤ I7 23 5 ∧ I7 23 5 ≤ 1000 from gc_in hI7 R_23 rfl rfl)
        have f19 := (show 0 ≤ I7 23 6 ∧ I7 23 6 ≤ 1001 from gc_in hI7 R_23 rfl rfl)
        have f20 := (show 0 ≤ I7 23 7 ∧ I7 23 7 ≤ 125 from gc_in hI7 R_23 rfl rfl)
        have f21 := (show 0 ≤ I7 4 1 ∧ I7 4 1 ≤ 96 from gc_in hI7 R_4 rfl rfl)
        have f22 := (show 0 ≤ I7 2 1 ∧ I7 2 1 ≤ 32 from gc_in hI7 R_2 rfl rfl)
        have L164 : ∀ (I23 : gr_I) (J24 : gr_J) , gc_Inv ro I23 → (∀ q j : Nat, ((q = 39 ∧ j = 3) ∨ (q = 39 ∧ j = 4) ∨ (q = 23 ∧ j = 5) ∨ (q = 23 ∧ j = 6) ∨ (q = 23 ∧ j = 7) ∨ (q = 23 ∧ j = 8) ∨ (q = 39 ∧ j = 7) ∨ q = 41 ∨ (q = 4 ∧ j = 1) ∨ q = 11 ∨ q = 12 ∨ q = 13 ∨ q = 14) ∨ I23 q j = I q j) → (∀ q j : Nat, ((q = 23 ∧ j = 9) ∨ q = 5) ∨ J24 q j = J q j) → gc_LT I23 → ((I23 23 5 ≤ I23 23 6) ∧ (I23 23 7 = 5 ∨ I23 23 6 ≤ I23 23 1) ∧ (I23 23 5 ≤ I23 23 1) ∧ (I23 23 7 = 4 ∨ (I23 23 5 < I23 23 6 ∧ I23 23 5 < I23 23 1)) ∧ (I23 23 7 = 3 → 2 ≤ I23 23 6 - I23 23 5 ∧ I23 23 6 - I23 23 5 ≤ 14) ∧ (I23 23 1 = I 23 1) ∧ (I 23 5 ≤ I23 23 5)) → gv_X (gc_E6 ws0 tb 4 (yX6_readFun, cX6_readFun, 7, (some .boolean)) kX6_readFun) (gv_Q cX6_readFun (some .boolean) sh (fun r h' => (∃ (I' : gr_I) (J' : gr_J), h' = gc_h sh I' J' A ∧ gc_Inv ro I' ∧ (∀ q j : Nat, ((q = 39 ∧ j = 3) ∨ (q = 39 ∧ j = 4) ∨ (q = 23 ∧ j = 5) ∨ (q = 23 ∧ j = 6) ∨ (q = 23 ∧ j = 7) ∨ (q = 23 ∧ j = 8) ∨ (q = 39 ∧ j = 7) ∨ q = 41 ∨ (q = 4 ∧ j = 1) ∨ q = 11 ∨ q = 12 ∨ q = 13 ∨ q = 14) ∨ I' q j = I q j) ∧ (∀ q j : Nat, ((q = 23 ∧ j = 9) ∨ q = 5) ∨ J' q j = J q j) ∧ gc_LT I' ∧ (∃ z : Int, r = some (.inl z) ∧ 0 ≤ z ∧ z ≤ 1 ∧ (I' 23 5 ≤ I' 23 6) ∧ (I' 23 7 = 5 ∨ I' 23 6 ≤ I' 23 1) ∧ (I' 23 5 ≤ I' 23 1) ∧ (I' 23 7 = 4 ∨ (I' 23 5 < I' 23 6 ∧ I' 23 5 < I' 23 1)) ∧ (I' 23 7 = 3 → 2 ≤ I' 23 6 - I' 23 5 ∧ I' 23 6 - I' 23 5 ≤ 14) ∧ (I' 23 1 = I 23 1) ∧ (I 23 5 ≤ I' 23 5))))) (164, [], [], sh, gc_h sh I23 J24 A) := by
          intro I23 J24 hI23 FI23 FJ24 KLT_I23 m_25
          clear hv3_9_16 e1_16 e2_16 e3_16 e4_16 e5_16 e6_16 e7_16 f17 f18 f19 f20 f21 f22 hv3_9 hv5_9 e1_9 e2_9 e3_9 e4_9 e5_9 e6_9 e7_9 f10 f11 f12 f13 f14 f15
          obtain ⟨e0_25, e1_25, e2_25, e3_25, e4_25, e5_25, e6_25⟩ := m_25
          have f26 := (show 0 ≤ I23 23 1 ∧ I23 23 1 ≤ 1000 from gc_in hI23 R_23 rfl rfl)
          have f27 := (show 0 ≤ I23 23 5 ∧ I23 23 5 ≤ 1000 from gc_in hI23 R_23 rfl rfl)
          have f28 := (show 0 ≤ I23 23 6 ∧ I23 23 6 ≤ 1001 from gc_in hI23 R_23 rfl rfl)
          have f29 := (show 0 ≤ I23 23 7 ∧ I23 23 7 ≤ 125 from gc_in hI23 R_23 rfl rfl)
          have f30 := (show 0 ≤ I23 4 1 ∧ I23 4 1 ≤ 96 from gc_in hI23 R_4 rfl rfl)
          have f31 := (show 0 ≤ I23 2 1 ∧ I23 2 1 ≤ 32 from gc_in hI23 R_2 rfl rfl)
          refine gv_run 1 true hD (pc' := 165) (lv' := []) (st' := [.inl 0]) (h' := gc_h sh I23 J24 A) (C := (True ∧ True)) rfl ⟨trivial, trivial⟩ ?_
          exact gv_zret hD rfl (by omega) ⟨I23, J24, rfl, hI23, FI23, FJ24, KLT_I23, ⟨_, rfl, by omega⟩⟩
        have L216 : ∀ (I32 : gr_I) (J33 : gr_J) , gc_Inv ro I32 → (∀ q j : Nat, ((q = 39 ∧ j = 3) ∨ (q = 39 ∧ j = 4) ∨ (q = 23 ∧ j = 5) ∨ (q = 23 ∧ j = 6) ∨ (q = 23 ∧ j = 7) ∨ (q = 23 ∧ j = 8) ∨ (q = 39 ∧ j = 7) ∨ q = 41 ∨ (q = 4 ∧ j = 1) ∨ q = 11 ∨ q = 12 ∨ q = 13 ∨ q = 14) ∨ I32 q j = I q j) → (∀ q j : Nat, ((q = 23 ∧ j = 9) ∨ q = 5) ∨ J33 q j = J q j) → gc_LT I32 → ((I32 23 5 ≤ I32 23 6) ∧ (I32 23 7 = 5 ∨ I32 23 6 ≤ I32 23 1) ∧ (I32 23 5 ≤ I32 23 1) ∧ (I32 23 7 = 4 ∨ (I32 23 5 < I32 23 6 ∧ I32 23 5 < I32 23 1)) ∧ (I32 23 7 = 3 → 2 ≤ I32 23 6 - I32 23 5 ∧ I32 23 6 - I32 23 5 ≤ 14) ∧ (I32 23 1 = I 23 1) ∧ (I 23 5 ≤ I32 23 5)) → gv_X (gc_E6 ws0 tb 4 (yX6_readFun, cX6_readFun, 7, (some .boolean)) kX6_readFun) (gv_Q cX6_readFun (some .boolean) sh (fun r h' => (∃ (I' : gr_I) (J' : gr_J), h' = gc_h sh I' J' A ∧ gc_Inv ro I' ∧ (∀ q j : Nat, ((q = 39 ∧ j = 3) ∨ (q = 39 ∧ j = 4) ∨ (q = 23 ∧ j = 5) ∨ (q = 23 ∧ j = 6) ∨ (q = 23 ∧ j = 7) ∨ (q = 23 ∧ j = 8) ∨ (q = 39 ∧ j = 7) ∨ q = 41 ∨ (q = 4 ∧ j = 1) ∨ q = 11 ∨ q = 12 ∨ q = 13 ∨ q = 14) ∨ I' q j = I q j) ∧ (∀ q j : Nat, ((q = 23 ∧ j = 9) ∨ q = 5) ∨ J' q j = J q j) ∧ gc_LT I' ∧ (∃ z : Int, r = some (.inl z) ∧ 0 ≤ z ∧ z ≤ 1 ∧ (I' 23 5 ≤ I' 23 6) ∧ (I' 23 7 = 5 ∨ I' 23 6 ≤ I' 23 1) ∧ (I' 23 5 ≤ I' 23 1) ∧ (I' 23 7 = 4 ∨ (I' 23 5 < I' 23 6 ∧ I' 23 5 < I' 23 1)) ∧ (I' 23 7 = 3 → 2 ≤ I' 23 6 - I' 23 5 ∧ I' 23 6 - I' 23 5 ≤ 14) ∧ (I' 23 1 = I 23 1) ∧ (I 23 5 ≤ I' 23 5))))) (216, [], [], sh, gc_h sh I32 J33 A) := by
          intro I32 J33 hI32 FI32 FJ33 KLT_I32 m_34
          clear hv3_9_16 e1_16 e2_16 e3_16 e4_16 e5_16 e6_16 e7_16 f17 f18 f19 f20 f21 f22 hv3_9 hv5_9 e1_9 e2_9 e3_9 e4_9 e5_9 e6_9 e7_9 f10 f11 f12 f13 f14 f15
          obtain ⟨e0_34, e1_34, e2_34, e3_34, e4_34, e5_34, e6_34⟩ := m_34
          have f35 := (show 0 ≤ I32 23 1 ∧ I32 23 1 ≤ 1000 from gc_in hI32 R_23 rfl rfl)
          have f36 := (show 0 ≤ I32 23 5 ∧ I32 23 5 ≤ 1000 from gc_in hI32 R_23 rfl rfl)
          have f37 := (show 0 ≤ I32 23 6 ∧ I32 23 6 ≤ 1001 from gc_in hI32 R_23 rfl rfl)
          have f38 := (show 0 ≤ I32 23 7 ∧ I32 23 7 ≤ 125 from gc_in hI32 R_23 rfl rfl)
          have f39 := (show 0 ≤ I32 4 1 ∧ I32 4 1 ≤ 96 from gc_in hI32 R_4 rfl rfl)
          have f40 := (show 0 ≤ I32 2 1 ∧ I32 2 1 ≤ 32 from gc_in hI32 R_2 rfl rfl)
          refine gv_run 1 true hD (pc' := 217) (lv' := []) (st' := [.inl 0]) (h' := gc_h sh I32 J33 A) (C := (True ∧ True)) rfl ⟨trivial, trivial⟩ ?_
          exact gv_zret hD rfl (by omega) ⟨I32, J33, rfl, hI32, FI32, FJ33, KLT_I32, ⟨_, rfl, by omega⟩⟩
        refine gv_run 2 true hD (pc' := 144) (lv' := [(0, .inr (.inr (some 39))), (1, .inr (.inl v1_9)), (3, .inl v3_9), (4, .inr (.inr (some 41)))]) (st' := [.inl 62, .inr (.inr (some 39))]) (h' := gc_h sh I7 J8 A) (C := ((True ∧ True) ∧ True)) rfl ⟨⟨trivial, trivial⟩, trivial⟩ ?_
        obtain ⟨r41, h41, E41, P41⟩ := d_X6_take (ws0 := ws0) (tb := tb) hws htb sh ro I7 J8 A hI7  62 hb   ⟨by omega, by omega⟩ (by omega) (by omega) (by omega) (by omega) (by omega) (by omega) KLT_I7
        obtain ⟨I42, J43, rfl, hI42, g41, k41, KLT_I42, ⟨z41, rfl, q41⟩⟩ := P41
        have FI42 := gc_frc (W := fun q j => (q = 39 ∧ j = 3) ∨ (q = 39 ∧ j = 4) ∨ (q = 23 ∧ j = 5) ∨ (q = 23 ∧ j = 6) ∨ (q = 23 ∧ j = 7) ∨ (q = 23 ∧ j = 8) ∨ (q = 39 ∧ j = 7) ∨ q = 41 ∨ (q = 4 ∧ j = 1) ∨ q = 11 ∨ q = 12 ∨ q = 13 ∨ q = 14) (V := fun q j => (q = 39 ∧ j = 3) ∨ (q = 39 ∧ j = 4) ∨ (q = 23 ∧ j = 5) ∨ (q = 23 ∧ j = 6) ∨ (q = 23 ∧ j = 7) ∨ (q = 23 ∧ j = 8)) FI7 (fun q j h => (h.elim (fun h => (Or.inl h)) (fun h => (h.elim (fun h => (Or.inr (Or.inl h))) (fun h => (h.elim (fun h => (Or.inr (Or.inr (Or.inl h)))) (fun h => (h.elim (fun h => (Or.inr (Or.inr (Or.inr (Or.inl h))))) (fun h => (h.elim (fun h => (Or.inr (Or.inr (Or.inr (Or.inr (Or.inl h)))))) (fun h => (Or.inr (Or.inr (Or.inr (Or.inr (Or.inr (Or.inl h))))))))))))))))) g41
        have FJ43 := gc_frc (W := fun q j => (q = 23 ∧ j = 9) ∨ q = 5) (V := fun q j => (q = 23 ∧ j = 9)) FJ8 (fun q j h => (Or.inl h)) k41
        have t44 := (g41 23 1).resolve_left (by omega)
        have t45 := (g41 4 1).resolve_left (by omega)
        have t46 := (g41 2 1).resolve_left (by omega)
        have f47 := (show 0 ≤ I42 23 1 ∧ I42 23 1 ≤ 1000 from gc_in hI42 R_23 rfl rfl)
        have f48 := (show 0 ≤ I42 23 5 ∧ I42 23 5 ≤ 1000 from gc_in hI42 R_23 rfl rfl)
        have f49 := (show 0 ≤ I42 23 6 ∧ I42 23 6 ≤ 1001 from gc_in hI42 R_23 rfl rfl)
        have f50 := (show 0 ≤ I42 23 7 ∧ I42 23 7 ≤ 125 from gc_in hI42 R_23 rfl rfl)
        have f51 := (show 0 ≤ I42 4 1 ∧ I42 4 1 ≤ 96 from gc_in hI42 R_4 rfl rfl)
        have f52 := (show 0 ≤ I42 2 1 ∧ I42 2 1 ≤ 32 from gc_in hI42 R_2 rfl rfl)
        refine gv_callV hD rfl (As := [.inl 62]) (st := []) rfl B_39 S_39 rfl (gc_lV6 hws rfl) (Nat.le_of_ble_eq_true rfl) (gz_Ev_mono (d := 3) (by decide) E41) ?_
        show gv_X _ _ (147, [(0, .inr (.inr (some 39))), (1, .inr (.inl v1_9)), (3, .inl v3_9), (4, .inr (.inr (some 41)))], [.inl z41], sh, gc_h sh I42 J43 A)
        refine gv_if_eq (t := 164) hD rfl rfl ⟨by omega, by omega⟩ (fun c53 => ?_) (fun c53 => ?_)
        · show gv_X _ _ (164, [(0, .inr (.inr (some 39))), (1, .inr (.inl v1_9)), (3, .inl v3_9), (4, .inr (.inr (some 41)))], [], sh, gc_h sh I42 J43 A)
          refine gv_pick [] rfl ?_
          exact L164 I42 J43 hI42 FI42 FJ43 KLT_I42 (by omega)
        · show gv_X _ _ (150, [(0, .inr (.inr (some 39))), (1, .inr (.inl v1_9)), (3, .inl v3_9), (4, .inr (.inr (some 41)))], [], sh, gc_h sh I42 J43 A)
          refine gv_run 2 true hD (pc' := 152) (lv' := [(0, .inr (.inr (some 39))), (1, .inr (.inl v1_9)), (3, .inl v3_9), (4, .inr (.inr (some 41)))]) (st' := [.inr (.inr (some 39)), .inr (.inr (some 39))]) (h' := gc_h sh I42 J43 A) (C := ((True ∧ True) ∧ True)) rfl ⟨⟨trivial, trivial⟩, trivial⟩ ?_
          refine gv_get hD rfl rfl S_39 ⟨by decide, B_39⟩ (gc_hA S_39 rfl A_39_0) ?_
          show gv_X _ _ (155, [(0, .inr (.inr (some 39))), (1, .inr (.inl v1_9)), (3, .inl v3_9), (4, .inr (.inr (some 41)))], [.inr (.inr (some 1)), .inr (.inr (some 39))], sh, gc_h sh I42 J43 A)
          refine gv_get hD rfl rfl S_1 ⟨by decide, B_1⟩ (gc_hA S_1 rfl A_1_0) ?_
          show gv_X _ _ (158, [(0, .inr (.inr (some 39))), (1, .inr (.inl v1_9)), (3, .inl v3_9), (4, .inr (.inr (some 41)))], [.inr (.inr (some 2)), .inr (.inr (some 39))], sh, gc_h sh I42 J43 A)
          obtain ⟨r54, h54, E54, P54⟩ := d_X6_needKnown (ws0 := ws0) (tb := tb) hws htb sh ro I42 J43 A hI42  32 9 2 hb (gc_b2 hb)    
          obtain ⟨I55, J56, rfl, hI55, g54, k54, ⟨z54, rfl, q54⟩⟩ := P54
          have FI55 := gc_frc (W := fun q j => (q = 39 ∧ j = 3) ∨ (q = 39 ∧ j = 4) ∨ (q = 23 ∧ j = 5) ∨ (q = 23 ∧ j = 6) ∨ (q = 23 ∧ j = 7) ∨ (q = 23 ∧ j = 8) ∨ (q = 39 ∧ j = 7) ∨ q = 41 ∨ (q = 4 ∧ j = 1) ∨ q = 11 ∨ q = 12 ∨ q = 13 ∨ q = 14) (V := fun q j => (q = 39 ∧ j = 3) ∨ (q = 39 ∧ j = 4)) FI42 (fun q j h => (h.elim (fun h => (Or.inl h)) (fun h => (Or.inr (Or.inl h))))) g54
          have t57 := (g54 23 1).resolve_left (by omega)
          have t58 := (g54 23 5).resolve_left (by omega)
          have t59 := (g54 23 6).resolve_left (by omega)
          have t60 := (g54 23 7).resolve_left (by omega)
          have t61 := (g54 4 1).resolve_left (by omega)
          have t62 := (g54 2 1).resolve_left (by omega)
          have f63 := (show 0 ≤ I55 23 1 ∧ I55 23 1 ≤ 1000 from gc_in hI55 R_23 rfl rfl)
          have f64 := (show 0 ≤ I55 23 5 ∧ I55 23 5 ≤ 1000 from gc_in hI55 R_23 rfl rfl)
          have f65 := (show 0 ≤ I55 23 6 ∧ I55 23 6 ≤ 1001 from gc_in hI55 R_23 rfl rfl)
          have f66 := (show 0 ≤ I55 23 7 ∧ I55 23 7 ≤ 125 from gc_in hI55 R_23 rfl rfl)
          have f67 := (show 0 ≤ I55 4 1 ∧ I55 4 1 ≤ 96 from gc_in hI55 R_4 rfl rfl)
          have f68 := (show 0 ≤ I55 2 1 ∧ I55 2 1 ≤ 32 from gc_in hI55 R_2 rfl rfl)
          obtain rfl : J43 = J56 := funext fun q => funext fun j => ((k54 q j).resolve_left id).symm
          have KLT_I55 := gc_LT_fr KLT_I42 ((g54 23 5).resolve_left (by omega)) ((g54 23 6).resolve_left (by omega)) ((g54 23 7).resolve_left (by omega)) (fun k => (g54 24 k).resolve_left (by omega))
          refine gv_callV hD rfl (As := [.inr (.inr (some 2))]) (st := []) rfl B_39 S_39 rfl (gc_lV6 hws rfl) (Nat.le_of_ble_eq_true rfl) (gz_Ev_mono (d := 3) (by decide) E54) ?_
          show gv_X _ _ (161, [(0, .inr (.inr (some 39))), (1, .inr (.inl v1_9)), (3, .inl v3_9), (4, .inr (.inr (some 41)))], [.inl z54], sh, gc_h sh I55 J43 A)
          refine gv_if_ne (t := 166) hD rfl rfl ⟨by omega, by omega⟩ (fun c69 => ?_) (fun c69 => ?_)
          · show gv_X _ _ (166, [(0, .inr (.inr (some 39))), (1, .inr (.inl v1_9)), (3, .inl v3_9), (4, .inr (.inr (some 41)))], [], sh, gc_h sh I55 J43 A)
            refine gv_run 1 true hD (pc' := 167) (lv' := [(0, .inr (.inr (some 39))), (1, .inr (.inl v1_9)), (3, .inl v3_9), (4, .inr (.inr (some 41)))]) (st' := [.inr (.inr (some 39))]) (h' := gc_h sh I55 J43 A) (C := (True ∧ True)) rfl ⟨trivial, trivial⟩ ?_
            refine gv_get hD rfl rfl S_39 ⟨by decide, B_39⟩ (gc_hA S_39 rfl A_39_0) ?_
            show gv_X _ _ (170, [(0, .inr (.inr (some 39))), (1, .inr (.inl v1_9)), (3, .inl v3_9), (4, .inr (.inr (some 41)))], [.inr (.inr (some 1))], sh, gc_h sh I55 J43 A)
            refine gv_get hD rfl rfl S_1 ⟨by decide, B_1⟩ (gc_hA S_1 rfl A_1_0) ?_
            show gv_X _ _ (173, [(0, .inr (.inr (some 39))), (1, .inr (.inl v1_9)), (3, .inl v3_9), (4, .inr (.inr (some 41)))], [.inr (.inr (some 2))], sh, gc_h sh I55 J43 A)
            refine gv_run 1 true hD (pc' := 174) (lv' := [(0, .inr (.inr (some 39))), (1, .inr (.inl v1_9)), (3, .inl v3_9), (4, .inr (.inr (some 41)))]) (st' := [.inr (.inr (some 39)), .inr (.inr (some 2))]) (h' := gc_h sh I55 J43 A) (C := (True ∧ True)) rfl ⟨trivial, trivial⟩ ?_
            refine gv_get hD rfl rfl S_39 ⟨by decide, B_39⟩ (gc_hA S_39 rfl A_39_1) ?_
            show gv_X _ _ (177, [(0, .inr (.inr (some 39))), (1, .inr (.inl v1_9)), (3, .inl v3_9), (4, .inr (.inr (some 41)))], [.inr (.inr (some 23)), .inr (.inr (some 2))], sh, gc_h sh I55 J43 A)
            refine gv_get hD rfl rfl S_23 ⟨by decide, B_23⟩ (gc_hJ S_23 rfl) ?_
            show gv_X _ _ (180, [(0, .inr (.inr (some 39))), (1, .inr (.inl v1_9)), (3, .inl v3_9), (4, .inr (.inr (some 41)))], [.inr (.inl (J43 23 9)), .inr (.inr (some 2))], sh, gc_h sh I55 J43 A)
            obtain ⟨r70, h70, E70, P70⟩ := d_X4_find (ws0 := ws0) (tb := tb) hws htb sh ro I55 J43 A hI55 2 32 9 (J43 23 9) (gc_b2 hb)     
            obtain ⟨rfl, ⟨z70, rfl, q70⟩⟩ := P70
            refine gv_callV hD rfl (As := [.inr (.inl (J43 23 9))]) (st := []) rfl B_2 S_2 rfl (gc_lV6 hws rfl) (Nat.le_of_ble_eq_true rfl) (gz_Ev_mono (d := 1) (by decide) E70) ?_
            show gv_X _ _ (183, [(0, .inr (.inr (some 39))), (1, .inr (.inl v1_9)), (3, .inl v3_9), (4, .inr (.inr (some 41)))], [.inl z70], sh, gc_h sh I55 J43 A)
            refine gv_run 2 true hD (pc' := 186) (lv' := [(5, .inl z70), (0, .inr (.inr (some 39))), (1, .inr (.inl v1_9)), (3, .inl v3_9), (4, .inr (.inr (some 41)))]) (st' := [.inr (.inr (some 39))]) (h' := gc_h sh I55 J43 A) (C := ((True ∧ True) ∧ True)) rfl ⟨⟨trivial, trivial⟩, trivial⟩ ?_
            refine gv_get hD rfl rfl S_39 ⟨by decide, B_39⟩ (gc_hA S_39 rfl A_39_1) ?_
            show gv_X _ _ (189, [(5, .inl z70), (0, .inr (.inr (some 39))), (1, .inr (.inl v1_9)), (3, .inl v3_9), (4, .inr (.inr (some 41)))], [.inr (.inr (some 23))], sh, gc_h sh I55 J43 A)
            obtain ⟨r71, h71, E71, P71⟩ := d_X9_advance (ws0 := ws0) (tb := tb) hws htb sh ro I55 J43 A hI55 23  (gc_b23 hb)    (by omega) 
            obtain ⟨I72, J73, rfl, hI72, g71, k71, ⟨rfl, q71⟩⟩ := P71
            have FI72 := gc_frc (W := fun q j => (q = 39 ∧ j = 3) ∨ (q = 39 ∧ j = 4) ∨ (q = 23 ∧ j = 5) ∨ (q = 23 ∧ j = 6) ∨ (q = 23 ∧ j = 7) ∨ (q = 23 ∧ j = 8) ∨ (q = 39 ∧ j = 7) ∨ q = 41 ∨ (q = 4 ∧ j = 1) ∨ q = 11 ∨ q = 12 ∨ q = 13 ∨ q = 14) (V := fun q j => (q = 23 ∧ j = 5) ∨ (q = 23 ∧ j = 6) ∨ (q = 23 ∧ j = 7) ∨ (q = 23 ∧ j = 8)) FI55 (fun q j h => (h.elim (fun h => (Or.inr (Or.inr (Or.inl h)))) (fun h => (h.elim (fun h => (Or.inr (Or.inr (Or.inr (Or.inl h))))) (fun h => (h.elim (fun h => (Or.inr (Or.inr (Or.inr (Or.inr (Or.inl h)))))) (fun h => (Or.inr (Or.inr (Or.inr (Or.inr (Or.inr (Or.inl h))))))))))))) g71
            have FJ73 := gc_frc (W := fun q j => (q = 23 ∧ j = 9) ∨ q = 5) (V := fun q j => (q = 23 ∧ j = 9)) FJ43 (fun q j h => (Or.inl h)) k71
            have t74 := (g71 23 1).resolve_left (by omega)
            have t75 := (g71 4 1).resolve_left (by omega)
            have t76 := (g71 2 1).resolve_left (by omega)
            have f77 := (show 0 ≤ I72 23 1 ∧ I72 23 1 ≤ 1000 from gc_in hI72 R_23 rfl rfl)
            have f78 := (show 0 ≤ I72 23 5 ∧ I72 23 5 ≤ 1000 from gc_in hI72 R_23 rfl rfl)
            have f79 := (show 0 ≤ I72 23 6 ∧ I72 23 6 ≤ 1001 from gc_in hI72 R_23 rfl rfl)
            have f80 := (show 0 ≤ I72 23 7 ∧ I72 23 7 ≤ 125 from gc_in hI72 R_23 rfl rfl)
            have f81 := (show 0 ≤ I72 4 1 ∧ I72 4 1 ≤ 96 from gc_in hI72 R_4 rfl rfl)
            have f82 := (show 0 ≤ I72 2 1 ∧ I72 2 1 ≤ 32 from gc_in hI72 R_2 rfl rfl)
            have KLT_I72 : gc_LT I72 := q71.2.2.2.2.2.2.2
            refine gv_callV hD rfl (As := []) (st := []) rfl B_23 S_23 rfl (gc_lV6 hws rfl) (Nat.le_of_ble_eq_true rfl) (gz_Ev_mono (d := 2) (by decide) E71) ?_
            show gv_X _ _ (192, [(5, .inl z70), (0, .inr (.inr (some 39))), (1, .inr (.inl v1_9)), (3, .inl v3_9), (4, .inr (.inr (some 41)))], [], sh, gc_h sh I72 J73 A)
            refine gv_run 1 true hD (pc' := 193) (lv' := [(5, .inl z70), (0, .inr (.inr (some 39))), (1, .inr (.inl v1_9)), (3, .inl v3_9), (4, .inr (.inr (some 41)))]) (st' := [.inr (.inr (some 39))]) (h' := gc_h sh I72 J73 A) (C := (True ∧ True)) rfl ⟨trivial, trivial⟩ ?_
            obtain ⟨r83, h83, E83, P83⟩ := d_X6_readCost (ws0 := ws0) (tb := tb) hws htb sh ro I72 J73 A hI72   hb    (by omega) (by omega) (by omega) (by omega) (by omega) KLT_I72
            obtain ⟨I84, J85, rfl, hI84, g83, k83, KLT_I84, ⟨z83, rfl, q83⟩⟩ := P83
            have FI84 := gc_frc (W := fun q j => (q = 39 ∧ j = 3) ∨ (q = 39 ∧ j = 4) ∨ (q = 23 ∧ j = 5) ∨ (q = 23 ∧ j = 6) ∨ (q = 23 ∧ j = 7) ∨ (q = 23 ∧ j = 8) ∨ (q = 39 ∧ j = 7) ∨ q = 41 ∨ (q = 4 ∧ j = 1) ∨ q = 11 ∨ q = 12 ∨ q = 13 ∨ q = 14) (V := fun q j => (q = 39 ∧ j = 3) ∨ (q = 39 ∧ j = 4) ∨ (q = 23 ∧ j = 5) ∨ (q = 23 ∧ j = 6) ∨ (q = 23 ∧ j = 7) ∨ (q = 23 ∧ j = 8) ∨ (q = 39 ∧ j = 7)) FI72 (fun q j h => (h.elim (fun h => (Or.inl h)) (fun h => (h.elim (fun h => (Or.inr (Or.inl h))) (fun h => (h.elim (fun h => (Or.inr (Or.inr (Or.inl h)))) (fun h => (h.elim (fun h => (Or.inr (Or.inr (Or.inr (Or.inl h))))) (fun h => (h.elim (fun h => (Or.inr (Or.inr (Or.inr (Or.inr (Or.inl h)))))) (fun h => (h.elim (fun h => (Or.inr (Or.inr (Or.inr (Or.inr (Or.inr (Or.inl h))))))) (fun h => (Or.inr (Or.inr (Or.inr (Or.inr (Or.inr (Or.inr (Or.inl h)))))))))))))))))))) g83
            have FJ85 := gc_frc (W := fun q j => (q = 23 ∧ j = 9) ∨ q = 5) (V := fun q j => (q = 23 ∧ j = 9)) FJ73 (fun q j h => (Or.inl h)) k83
            have t86 := (g83 23 1).resolve_left (by omega)
            have t87 := (g83 4 1).resolve_left (by omega)
            have t88 := (g83 2 1).resolve_left (by omega)
            have f89 := (show 0 ≤ I84 23 1 ∧ I84 23 1 ≤ 1000 from gc_in hI84 R_23 rfl rfl)
            have f90 := (show 0 ≤ I84 23 5 ∧ I84 23 5 ≤ 1000 from gc_in hI84 R_23 rfl rfl)
            have f91 := (show 0 ≤ I84 23 6 ∧ I84 23 6 ≤ 1001 from gc_in hI84 R_23 rfl rfl)
            have f92 := (show 0 ≤ I84 23 7 ∧ I84 23 7 ≤ 125 from gc_in hI84 R_23 rfl rfl)
            have f93 := (show 0 ≤ I84 4 1 ∧ I84 4 1 ≤ 96 from gc_in hI84 R_4 rfl rfl)
            have f94 := (show 0 ≤ I84 2 1 ∧ I84 2 1 ≤ 32 from gc_in hI84 R_2 rfl rfl)
            refine gv_callV hD rfl (As := []) (st := []) rfl B_39 S_39 rfl (gc_lV6 hws rfl) (Nat.le_of_ble_eq_true rfl) (gz_Ev_mono (d := 3) (by decide) E83) ?_
            show gv_X _ _ (196, [(5, .inl z70), (0, .inr (.inr (some 39))), (1, .inr (.inl v1_9)), (3, .inl v3_9), (4, .inr (.inr (some 41)))], [.inl z83], sh, gc_h sh I84 J85 A)
            refine gv_if_eq (t := 216) hD rfl rfl ⟨by omega, by omega⟩ (fun c95 => ?_) (fun c95 => ?_)
            · show gv_X _ _ (216, [(5, .inl z70), (0, .inr (.inr (some 39))), (1, .inr (.inl v1_9)), (3, .inl v3_9), (4, .inr (.inr (some 41)))], [], sh, gc_h sh I84 J85 A)
              refine gv_pick [] rfl ?_
              exact L216 I84 J85 hI84 FI84 FJ85 KLT_I84 (by omega)
            · show gv_X _ _ (199, [(5, .inl z70), (0, .inr (.inr (some 39))), (1, .inr (.inl v1_9)), (3, .inl v3_9), (4, .inr (.inr (some 41)))], [], sh, gc_h sh I84 J85 A)
              refine gv_run 2 true hD (pc' := 201) (lv' := [(5, .inl z70), (0, .inr (.inr (some 39))), (1, .inr (.inl v1_9)), (3, .inl v3_9), (4, .inr (.inr (some 41)))]) (st' := [.inr (.inr (some 39)), .inr (.inr (some 39))]) (h' := gc_h sh I84 J85 A) (C := ((True ∧ True) ∧ True)) rfl ⟨⟨trivial, trivial⟩, trivial⟩ ?_
              refine gv_get hD rfl rfl S_39 ⟨by decide, B_39⟩ (gc_hA S_39 rfl A_39_0) ?_
              show gv_X _ _ (204, [(5, .inl z70), (0, .inr (.inr (some 39))), (1, .inr (.inl v1_9)), (3, .inl v3_9), (4, .inr (.inr (some 41)))], [.inr (.inr (some 1)), .inr (.inr (some 39))], sh, gc_h sh I84 J85 A)
              refine gv_get hD rfl rfl S_1 ⟨by decide, B_1⟩ (gc_hA S_1 rfl A_1_1) ?_
              show gv_X _ _ (207, [(5, .inl z70), (0, .inr (.inr (some 39))), (1, .inr (.inl v1_9)), (3, .inl v3_9), (4, .inr (.inr (some 41)))], [.inr (.inr (some 4)), .inr (.inr (some 39))], sh, gc_h sh I84 J85 A)
              obtain ⟨r96, h96, E96, P96⟩ := d_X4_isFull (ws0 := ws0) (tb := tb) hws htb sh ro I84 J85 A hI84 4 96 11  (gc_b4 hb)     
              obtain ⟨rfl, ⟨z96, rfl, q96⟩⟩ := P96
              refine gv_callV hD rfl (As := []) (st := [.inr (.inr (some 39))]) rfl B_4 S_4 rfl (gc_lV6 hws rfl) (Nat.le_of_ble_eq_true rfl) (gz_Ev_mono (d := 1) (by decide) E96) ?_
              show gv_X _ _ (210, [(5, .inl z70), (0, .inr (.inr (some 39))), (1, .inr (.inl v1_9)), (3, .inl v3_9), (4, .inr (.inr (some 41)))], [.inl z96, .inr (.inr (some 39))], sh, gc_h sh I84 J85 A)
              obtain ⟨r97, h97, E97, P97⟩ := d_X6_closes (ws0 := ws0) (tb := tb) hws htb sh ro I84 J85 A hI84  z96 hb   ⟨by omega, by omega⟩ (by omega) (by omega) (by omega) (by omega) (by omega) KLT_I84
              obtain ⟨I98, J99, rfl, hI98, g97, k97, KLT_I98, ⟨z97, rfl, q97⟩⟩ := P97
              have FI98 := gc_frc (W := fun q j => (q = 39 ∧ j = 3) ∨ (q = 39 ∧ j = 4) ∨ (q = 23 ∧ j = 5) ∨ (q = 23 ∧ j = 6) ∨ (q = 23 ∧ j = 7) ∨ (q = 23 ∧ j = 8) ∨ (q = 39 ∧ j = 7) ∨ q = 41 ∨ (q = 4 ∧ j = 1) ∨ q = 11 ∨ q = 12 ∨ q = 13 ∨ q = 14) (V := fun q j => (q = 39 ∧ j = 3) ∨ (q = 39 ∧ j = 4) ∨ (q = 23 ∧ j = 5) ∨ (q = 23 ∧ j = 6) ∨ (q = 23 ∧ j = 7) ∨ (q = 23 ∧ j = 8)) FI84 (fun q j h => (h.elim (fun h => (Or.inl h)) (fun h => (h.elim (fun h => (Or.inr (Or.inl h))) (fun h => (h.elim (fun h => (Or.inr (Or.inr (Or.inl h)))) (fun h => (h.elim (fun h => (Or.inr (Or.inr (Or.inr (Or.inl h))))) (fun h => (h.elim (fun h => (Or.inr (Or.inr (Or.inr (Or.inr (Or.inl h)))))) (fun h => (Or.inr (Or.inr (Or.inr (Or.inr (Or.inr (Or.inl h))))))))))))))))) g97
              have FJ99 := gc_frc (W := fun q j => (q = 23 ∧ j = 9) ∨ q = 5) (V := fun q j => (q = 23 ∧ j = 9)) FJ85 (fun q j h => (Or.inl h)) k97
              have t100 := (g97 23 1).resolve_left (by omega)
              have t101 := (g97 4 1).resolve_left (by omega)
              have t102 := (g97 2 1).resolve_left (by omega)
              have f103 := (show 0 ≤ I98 23 1 ∧ I98 23 1 ≤ 1000 from gc_in hI98 R_23 rfl rfl)
              have f104 := (show 0 ≤ I98 23 5 ∧ I98 23 5 ≤ 1000 from gc_in hI98 R_23 rfl rfl)
              have f105 := (show 0 ≤ I98 23 6 ∧ I98 23 6 ≤ 1001 from gc_in hI98 R_23 rfl rfl)
              have f106 := (show 0 ≤ I98 23 7 ∧ I98 23 7 ≤ 125 from gc_in hI98 R_23 rfl rfl)
              have f107 := (show 0 ≤ I98 4 1 ∧ I98 4 1 ≤ 96 from gc_in hI98 R_4 rfl rfl)
              have f108 := (show 0 ≤ I98 2 1 ∧ I98 2 1 ≤ 32 from gc_in hI98 R_2 rfl rfl)
              refine gv_callV hD rfl (As := [.inl z96]) (st := []) rfl B_39 S_39 rfl (gc_lV6 hws rfl) (Nat.le_of_ble_eq_true rfl) (gz_Ev_mono (d := 4) (by decide) E97) ?_
              show gv_X _ _ (213, [(5, .inl z70), (0, .inr (.inr (some 39))), (1, .inr (.inl v1_9)), (3, .inl v3_9), (4, .inr (.inr (some 41)))], [.inl z97], sh, gc_h sh I98 J99 A)
              refine gv_if_ne (t := 218) hD rfl rfl ⟨by omega, by omega⟩ (fun c109 => ?_) (fun c109 => ?_)
              · show gv_X _ _ (218, [(5, .inl z70), (0, .inr (.inr (some 39))), (1, .inr (.inl v1_9)), (3, .inl v3_9), (4, .inr (.inr (some 41)))], [], sh, gc_h sh I98 J99 A)
                refine gv_run 1 true hD (pc' := 219) (lv' := [(5, .inl z70), (0, .inr (.inr (some 39))), (1, .inr (.inl v1_9)), (3, .inl v3_9), (4, .inr (.inr (some 41)))]) (st' := [.inr (.inr (some 39))]) (h' := gc_h sh I98 J99 A) (C := (True ∧ True)) rfl ⟨trivial, trivial⟩ ?_
                refine gv_get hD rfl rfl S_39 ⟨by decide, B_39⟩ (gc_hA S_39 rfl A_39_0) ?_
                show gv_X _ _ (222, [(5, .inl z70), (0, .inr (.inr (some 39))), (1, .inr (.inl v1_9)), (3, .inl v3_9), (4, .inr (.inr (some 41)))], [.inr (.inr (some 1))], sh, gc_h sh I98 J99 A)
                refine gv_get hD rfl rfl S_1 ⟨by decide, B_1⟩ (gc_hA S_1 rfl A_1_1) ?_
                show gv_X _ _ (225, [(5, .inl z70), (0, .inr (.inr (some 39))), (1, .inr (.inl v1_9)), (3, .inl v3_9), (4, .inr (.inr (some 41)))], [.inr (.inr (some 4))], sh, gc_h sh I98 J99 A)
                have f110 := (show 0 ≤ I98 4 1 ∧ I98 4 1 ≤ 96 from gc_in hI98 R_4 rfl rfl)
                refine gv_get hD rfl rfl S_4 ⟨by decide, B_4⟩ (gc_hI S_4 rfl) ?_
                show gv_X _ _ (228, [(5, .inl z70), (0, .inr (.inr (some 39))), (1, .inr (.inl v1_9)), (3, .inl v3_9), (4, .inr (.inr (some 41)))], [.inl (I98 4 1)], sh, gc_h sh I98 J99 A)
                refine gv_run 2 true hD (pc' := 231) (lv' := [(6, .inl (I98 4 1)), (5, .inl z70), (0, .inr (.inr (some 39))), (1, .inr (.inl v1_9)), (3, .inl v3_9), (4, .inr (.inr (some 41)))]) (st' := [.inr (.inr (some 39))]) (h' := gc_h sh I98 J99 A) (C := ((True ∧ True) ∧ True)) rfl ⟨⟨trivial, trivial⟩, trivial⟩ ?_
                refine gv_get hD rfl rfl S_39 ⟨by decide, B_39⟩ (gc_hA S_39 rfl A_39_0) ?_
                show gv_X _ _ (234, [(6, .inl (I98 4 1)), (5, .inl z70), (0, .inr (.inr (some 39))), (1, .inr (.inl v1_9)), (3, .inl v3_9), (4, .inr (.inr (some 41)))], [.inr (.inr (some 1))], sh, gc_h sh I98 J99 A)
                refine gv_get hD rfl rfl S_1 ⟨by decide, B_1⟩ (gc_hA S_1 rfl A_1_1) ?_
                show gv_X _ _ (237, [(6, .inl (I98 4 1)), (5, .inl z70), (0, .inr (.inr (some 39))), (1, .inr (.inl v1_9)), (3, .inl v3_9), (4, .inr (.inr (some 41)))], [.inr (.inr (some 4))], sh, gc_h sh I98 J99 A)
                refine gv_run 1 true hD (pc' := 238) (lv' := [(6, .inl (I98 4 1)), (5, .inl z70), (0, .inr (.inr (some 39))), (1, .inr (.inl v1_9)), (3, .inl v3_9), (4, .inr (.inr (some 41)))]) (st' := [.inr (.inl v1_9), .inr (.inr (some 4))]) (h' := gc_h sh I98 J99 A) (C := (True ∧ True)) rfl ⟨trivial, trivial⟩ ?_
                obtain ⟨r111, h111, E111, P111⟩ := d_X4_put (ws0 := ws0) (tb := tb) hws htb sh ro I98 J99 A hI98 4 96 11 v1_9 (gc_b4 hb)     
                obtain ⟨I112, J113, rfl, hI112, g111, k111, ⟨rfl, q111⟩⟩ := P111
                have FI112 := gc_frc (W := fun q j => (q = 39 ∧ j = 3) ∨ (q = 39 ∧ j = 4) ∨ (q = 23 ∧ j = 5) ∨ (q = 23 ∧ j = 6) ∨ (q = 23 ∧ j = 7) ∨ (q = 23 ∧ j = 8) ∨ (q = 39 ∧ j = 7) ∨ q = 41 ∨ (q = 4 ∧ j = 1) ∨ q = 11 ∨ q = 12 ∨ q = 13 ∨ q = 14) (V := fun q j => (q = 4 ∧ j = 1)) FI98 (fun q j h => (Or.inr (Or.inr (Or.inr (Or.inr (Or.inr (Or.inr (Or.inr (Or.inr (Or.inl h)))))))))) g111
                have FJ113 := gc_frc (W := fun q j => (q = 23 ∧ j = 9) ∨ q = 5) (V := fun q j => q = 5) FJ99 (fun q j h => (Or.inr h)) k111
                have t114 := (g111 23 1).resolve_left (by omega)
                have t115 := (g111 23 5).resolve_left (by omega)
                have t116 := (g111 23 6).resolve_left (by omega)
                have t117 := (g111 23 7).resolve_left (by omega)
                have t118 := (g111 2 1).resolve_left (by omega)
                have f119 := (show 0 ≤ I112 23 1 ∧ I112 23 1 ≤ 1000 from gc_in hI112 R_23 rfl rfl)
                have f120 := (show 0 ≤ I112 23 5 ∧ I112 23 5 ≤ 1000 from gc_in hI112 R_23 rfl rfl)
                have f121 := (show 0 ≤ I112 23 6 ∧ I112 23 6 ≤ 1001 from gc_in hI112 R_23 rfl rfl)
                have f122 := (show 0 ≤ I112 23 7 ∧ I112 23 7 ≤ 125 from gc_in hI112 R_23 rfl rfl)
                have f123 := (show 0 ≤ I112 4 1 ∧ I112 4 1 ≤ 96 from gc_in hI112 R_4 rfl rfl)
                have f124 := (show 0 ≤ I112 2 1 ∧ I112 2 1 ≤ 32 from gc_in hI112 R_2 rfl rfl)
                have KLT_I112 := gc_LT_fr KLT_I98 ((g111 23 5).resolve_left (by omega)) ((g111 23 6).resolve_left (by omega)) ((g111 23 7).resolve_left (by omega)) (fun k => (g111 24 k).resolve_left (by omega))
                refine gv_callV hD rfl (As := [.inr (.inl v1_9)]) (st := []) rfl B_4 S_4 rfl (gc_lV6 hws rfl) (Nat.le_of_ble_eq_true rfl) (gz_Ev_mono (d := 1) (by decide) E111) ?_
                show gv_X _ _ (241, [(6, .inl (I98 4 1)), (5, .inl z70), (0, .inr (.inr (some 39))), (1, .inr (.inl v1_9)), (3, .inl v3_9), (4, .inr (.inr (some 41)))], [], sh, gc_h sh I112 J113 A)
                refine gv_run 1 true hD (pc' := 242) (lv' := [(6, .inl (I98 4 1)), (5, .inl z70), (0, .inr (.inr (some 39))), (1, .inr (.inl v1_9)), (3, .inl v3_9), (4, .inr (.inr (some 41)))]) (st' := [.inr (.inr (some 39))]) (h' := gc_h sh I112 J113 A) (C := (True ∧ True)) rfl ⟨trivial, trivial⟩ ?_
                refine gv_get hD rfl rfl S_39 ⟨by decide, B_39⟩ (gc_hA S_39 rfl A_39_0) ?_
                show gv_X _ _ (245, [(6, .inl (I98 4 1)), (5, .inl z70), (0, .inr (.inr (some 39))), (1, .inr (.inl v1_9)), (3, .inl v3_9), (4, .inr (.inr (some 41)))], [.inr (.inr (some 1))], sh, gc_h sh I112 J113 A)
                refine gv_get hD rfl rfl S_1 ⟨by decide, B_1⟩ (gc_hA S_1 rfl A_1_6) ?_
                show gv_X _ _ (248, [(6, .inl (I98 4 1)), (5, .inl z70), (0, .inr (.inr (some 39))), (1, .inr (.inl v1_9)), (3, .inl v3_9), (4, .inr (.inr (some 41)))], [.inr (.inr (some 11))], sh, gc_h sh I112 J113 A)
                refine gv_run 2 true hD (pc' := 252) (lv' := [(6, .inl (I98 4 1)), (5, .inl z70), (0, .inr (.inr (some 39))), (1, .inr (.inl v1_9)), (3, .inl v3_9), (4, .inr (.inr (some 41)))]) (st' := [.inl z70, .inl (I98 4 1), .inr (.inr (some 11))]) (h' := gc_h sh I112 J113 A) (C := ((True ∧ True) ∧ True)) rfl ⟨⟨trivial, trivial⟩, trivial⟩ ?_
                refine gv_iast hD rfl S_11 ⟨by decide, B_11⟩ ⟨by omega, by omega⟩ ?_
                refine gc_st hI112 S_11 rfl R_11 (lo := 0) (hi := 31) rfl rfl (by omega) (by omega) (fun I125 hI125 q126 p126 => ?_)
                have FI125 := gc_frs (W := fun q j => (q = 39 ∧ j = 3) ∨ (q = 39 ∧ j = 4) ∨ (q = 23 ∧ j = 5) ∨ (q = 23 ∧ j = 6) ∨ (q = 23 ∧ j = 7) ∨ (q = 23 ∧ j = 8) ∨ (q = 39 ∧ j = 7) ∨ q = 41 ∨ (q = 4 ∧ j = 1) ∨ q = 11 ∨ q = 12 ∨ q = 13 ∨ q = 14) FI112 (Or.inr (Or.inr (Or.inr (Or.inr (Or.inr (Or.inr (Or.inr (Or.inr (Or.inr (Or.inl rfl)))))))))) p126
                have t127 := p126 23 1 (fun h => absurd h.1 (by omega))
                have t128 := p126 23 5 (fun h => absurd h.1 (by omega))
                have t129 := p126 23 6 (fun h => absurd h.1 (by omega))
                have t130 := p126 23 7 (fun h => absurd h.1 (by omega))
                have t131 := p126 4 1 (fun h => absurd h.1 (by omega))
                have t132 := p126 2 1 (fun h => absurd h.1 (by omega))
                have f133 := (show 0 ≤ I125 23 1 ∧ I125 23 1 ≤ 1000 from gc_in hI125 R_23 rfl rfl)
                have f134 := (show 0 ≤ I125 23 5 ∧ I125 23 5 ≤ 1000 from gc_in hI125 R_23 rfl rfl)
                have f135 := (show 0 ≤ I125 23 6 ∧ I125 23 6 ≤ 1001 from gc_in hI125 R_23 rfl rfl)
                have f136 := (show 0 ≤ I125 23 7 ∧ I125 23 7 ≤ 125 from gc_in hI125 R_23 rfl rfl)
                have f137 := (show 0 ≤ I125 4 1 ∧ I125 4 1 ≤ 96 from gc_in hI125 R_4 rfl rfl)
                have f138 := (show 0 ≤ I125 2 1 ∧ I125 2 1 ≤ 32 from gc_in hI125 R_2 rfl rfl)
                have KLT_I125 := gc_LT_fr KLT_I112 (p126 23 5 (fun h => absurd h.1 (by omega))) (p126 23 6 (fun h => absurd h.1 (by omega))) (p126 23 7 (fun h => absurd h.1 (by omega))) (fun k => p126 24 k (fun h => absurd h.1 (by omega)))
                show gv_X _ _ (253, [(6, .inl (I98 4 1)), (5, .inl z70), (0, .inr (.inr (some 39))), (1, .inr (.inl v1_9)), (3, .inl v3_9), (4, .inr (.inr (some 41)))], [], sh, gc_h sh I125 J113 A)
                refine gv_run 1 true hD (pc' := 254) (lv' := [(6, .inl (I98 4 1)), (5, .inl z70), (0, .inr (.inr (some 39))), (1, .inr (.inl v1_9)), (3, .inl v3_9), (4, .inr (.inr (some 41)))]) (st' := [.inr (.inr (some 39))]) (h' := gc_h sh I125 J113 A) (C := (True ∧ True)) rfl ⟨trivial, trivial⟩ ?_
                refine gv_get hD rfl rfl S_39 ⟨by decide, B_39⟩ (gc_hA S_39 rfl A_39_0) ?_
                show gv_X _ _ (257, [(6, .inl (I98 4 1)), (5, .inl z70), (0, .inr (.inr (some 39))), (1, .inr (.inl v1_9)), (3, .inl v3_9), (4, .inr (.inr (some 41)))], [.inr (.inr (some 1))], sh, gc_h sh I125 J113 A)
                refine gv_get hD rfl rfl S_1 ⟨by decide, B_1⟩ (gc_hA S_1 rfl A_1_7) ?_
                show gv_X _ _ (260, [(6, .inl (I98 4 1)), (5, .inl z70), (0, .inr (.inr (some 39))), (1, .inr (.inl v1_9)), (3, .inl v3_9), (4, .inr (.inr (some 41)))], [.inr (.inr (some 12))], sh, gc_h sh I125 J113 A)
                refine gv_run 2 true hD (pc' := 263) (lv' := [(6, .inl (I98 4 1)), (5, .inl z70), (0, .inr (.inr (some 39))), (1, .inr (.inl v1_9)), (3, .inl v3_9), (4, .inr (.inr (some 41)))]) (st' := [.inl v3_9, .inl (I98 4 1), .inr (.inr (some 12))]) (h' := gc_h sh I125 J113 A) (C := ((True ∧ True) ∧ True)) rfl ⟨⟨trivial, trivial⟩, trivial⟩ ?_
                refine gv_iast hD rfl S_12 ⟨by decide, B_12⟩ ⟨by omega, by omega⟩ ?_
                refine gc_st hI125 S_12 rfl R_12 (lo := 0) (hi := 4) rfl rfl (by omega) (by omega) (fun I139 hI139 q140 p140 => ?_)
                have FI139 := gc_frs (W := fun q j => (q = 39 ∧ j = 3) ∨ (q = 39 ∧ j = 4) ∨ (q = 23 ∧ j = 5) ∨ (q = 23 ∧ j = 6) ∨ (q = 23 ∧ j = 7) ∨ (q = 23 ∧ j = 8) ∨ (q = 39 ∧ j = 7) ∨ q = 41 ∨ (q = 4 ∧ j = 1) ∨ q = 11 ∨ q = 12 ∨ q = 13 ∨ q = 14) FI125 (Or.inr (Or.inr (Or.inr (Or.inr (Or.inr (Or.inr (Or.inr (Or.inr (Or.inr (Or.inr (Or.inl rfl))))))))))) p140
                have t141 := p140 23 1 (fun h => absurd h.1 (by omega))
                have t142 := p140 23 5 (fun h => absurd h.1 (by omega))
                have t143 := p140 23 6 (fun h => absurd h.1 (by omega))
                have t144 := p140 23 7 (fun h => absurd h.1 (by omega))
                have t145 := p140 4 1 (fun h => absurd h.1 (by omega))
                have t146 := p140 2 1 (fun h => absurd h.1 (by omega))
                have f147 := (show 0 ≤ I139 23 1 ∧ I139 23 1 ≤ 1000 from gc_in hI139 R_23 rfl rfl)
                have f148 := (show 0 ≤ I139 23 5 ∧ I139 23 5 ≤ 1000 from gc_in hI139 R_23 rfl rfl)
                have f149 := (show 0 ≤ I139 23 6 ∧ I139 23 6 ≤ 1001 from gc_in hI139 R_23 rfl rfl)
                have f150 := (show 0 ≤ I139 23 7 ∧ I139 23 7 ≤ 125 from gc_in hI139 R_23 rfl rfl)
                have f151 := (show 0 ≤ I139 4 1 ∧ I139 4 1 ≤ 96 from gc_in hI139 R_4 rfl rfl)
                have f152 := (show 0 ≤ I139 2 1 ∧ I139 2 1 ≤ 32 from gc_in hI139 R_2 rfl rfl)
                have KLT_I139 := gc_LT_fr KLT_I125 (p140 23 5 (fun h => absurd h.1 (by omega))) (p140 23 6 (fun h => absurd h.1 (by omega))) (p140 23 7 (fun h => absurd h.1 (by omega))) (fun k => p140 24 k (fun h => absurd h.1 (by omega)))
                show gv_X _ _ (264, [(6, .inl (I98 4 1)), (5, .inl z70), (0, .inr (.inr (some 39))), (1, .inr (.inl v1_9)), (3, .inl v3_9), (4, .inr (.inr (some 41)))], [], sh, gc_h sh I139 J113 A)
                refine gv_run 1 true hD (pc' := 265) (lv' := [(6, .inl (I98 4 1)), (5, .inl z70), (0, .inr (.inr (some 39))), (1, .inr (.inl v1_9)), (3, .inl v3_9), (4, .inr (.inr (some 41)))]) (st' := [.inr (.inr (some 39))]) (h' := gc_h sh I139 J113 A) (C := (True ∧ True)) rfl ⟨trivial, trivial⟩ ?_
                refine gv_get hD rfl rfl S_39 ⟨by decide, B_39⟩ (gc_hA S_39 rfl A_39_0) ?_
                show gv_X _ _ (268, [(6, .inl (I98 4 1)), (5, .inl z70), (0, .inr (.inr (some 39))), (1, .inr (.inl v1_9)), (3, .inl v3_9), (4, .inr (.inr (some 41)))], [.inr (.inr (some 1))], sh, gc_h sh I139 J113 A)
                refine gv_get hD rfl rfl S_1 ⟨by decide, B_1⟩ (gc_hA S_1 rfl A_1_9) ?_
                show gv_X _ _ (271, [(6, .inl (I98 4 1)), (5, .inl z70), (0, .inr (.inr (some 39))), (1, .inr (.inl v1_9)), (3, .inl v3_9), (4, .inr (.inr (some 41)))], [.inr (.inr (some 14))], sh, gc_h sh I139 J113 A)
                refine gv_run 2 true hD (pc' := 274) (lv' := [(6, .inl (I98 4 1)), (5, .inl z70), (0, .inr (.inr (some 39))), (1, .inr (.inl v1_9)), (3, .inl v3_9), (4, .inr (.inr (some 41)))]) (st' := [.inr (.inr (some 39)), .inl (I98 4 1), .inr (.inr (some 14))]) (h' := gc_h sh I139 J113 A) (C := ((True ∧ True) ∧ True)) rfl ⟨⟨trivial, trivial⟩, trivial⟩ ?_
                have f153 := (show 0 ≤ I139 39 7 ∧ I139 39 7 ≤ 10000 from gc_in hI139 R_39 rfl rfl)
                refine gv_get hD rfl rfl S_39 ⟨by decide, B_39⟩ (gc_hI S_39 rfl) ?_
                show gv_X _ _ (277, [(6, .inl (I98 4 1)), (5, .inl z70), (0, .inr (.inr (some 39))), (1, .inr (.inl v1_9)), (3, .inl v3_9), (4, .inr (.inr (some 41)))], [.inl (I139 39 7), .inl (I98 4 1), .inr (.inr (some 14))], sh, gc_h sh I139 J113 A)
                refine gv_iast hD rfl S_14 ⟨by decide, B_14⟩ ⟨by omega, by omega⟩ ?_
                refine gc_st hI139 S_14 rfl R_14 (lo := 0) (hi := 10000) rfl rfl (by omega) (by omega) (fun I154 hI154 q155 p155 => ?_)
                have FI154 := gc_frs (W := fun q j => (q = 39 ∧ j = 3) ∨ (q = 39 ∧ j = 4) ∨ (q = 23 ∧ j = 5) ∨ (q = 23 ∧ j = 6) ∨ (q = 23 ∧ j = 7) ∨ (q = 23 ∧ j = 8) ∨ (q = 39 ∧ j = 7) ∨ q = 41 ∨ (q = 4 ∧ j = 1) ∨ q = 11 ∨ q = 12 ∨ q = 13 ∨ q = 14) FI139 (Or.inr (Or.inr (Or.inr (Or.inr (Or.inr (Or.inr (Or.inr (Or.inr (Or.inr (Or.inr (Or.inr (Or.inr rfl)))))))))))) p155
                have t156 := p155 23 1 (fun h => absurd h.1 (by omega))
                have t157 := p155 23 5 (fun h => absurd h.1 (by omega))
                have t158 := p155 23 6 (fun h => absurd h.1 (by omega))
                have t159 := p155 23 7 (fun h => absurd h.1 (by omega))
                have t160 := p155 4 1 (fun h => absurd h.1 (by omega))
                have t161 := p155 2 1 (fun h => absurd h.1 (by omega))
                have f162 := (show 0 ≤ I154 23 1 ∧ I154 23 1 ≤ 1000 from gc_in hI154 R_23 rfl rfl)
                have f163 := (show 0 ≤ I154 23 5 ∧ I154 23 5 ≤ 1000 from gc_in hI154 R_23 rfl rfl)
                have f164 := (show 0 ≤ I154 23 6 ∧ I154 23 6 ≤ 1001 from gc_in hI154 R_23 rfl rfl)
                have f165 := (show 0 ≤ I154 23 7 ∧ I154 23 7 ≤ 125 from gc_in hI154 R_23 rfl rfl)
                have f166 := (show 0 ≤ I154 4 1 ∧ I154 4 1 ≤ 96 from gc_in hI154 R_4 rfl rfl)
                have f167 := (show 0 ≤ I154 2 1 ∧ I154 2 1 ≤ 32 from gc_in hI154 R_2 rfl rfl)
                have KLT_I154 := gc_LT_fr KLT_I139 (p155 23 5 (fun h => absurd h.1 (by omega))) (p155 23 6 (fun h => absurd h.1 (by omega))) (p155 23 7 (fun h => absurd h.1 (by omega))) (fun k => p155 24 k (fun h => absurd h.1 (by omega)))
                show gv_X _ _ (278, [(6, .inl (I98 4 1)), (5, .inl z70), (0, .inr (.inr (some 39))), (1, .inr (.inl v1_9)), (3, .inl v3_9), (4, .inr (.inr (some 41)))], [], sh, gc_h sh I154 J113 A)
                refine gv_run 3 true hD (pc' := 282) (lv' := [(6, .inl (I98 4 1)), (5, .inl z70), (0, .inr (.inr (some 39))), (1, .inr (.inl v1_9)), (3, .inl v3_9), (4, .inr (.inr (some 41)))]) (st' := [.inr (.inr (some 39)), .inl 0, .inr (.inr (some 41))]) (h' := gc_h sh I154 J113 A) (C := (((True ∧ True) ∧ True) ∧ True)) rfl ⟨⟨⟨trivial, trivial⟩, trivial⟩, trivial⟩ ?_
                refine gv_get hD rfl rfl S_39 ⟨by decide, B_39⟩ (gc_hA S_39 rfl A_39_0) ?_
                show gv_X _ _ (285, [(6, .inl (I98 4 1)), (5, .inl z70), (0, .inr (.inr (some 39))), (1, .inr (.inl v1_9)), (3, .inl v3_9), (4, .inr (.inr (some 41)))], [.inr (.inr (some 1)), .inl 0, .inr (.inr (some 41))], sh, gc_h sh I154 J113 A)
                refine gv_get hD rfl rfl S_1 ⟨by decide, B_1⟩ (gc_hA S_1 rfl A_1_8) ?_
                show gv_X _ _ (288, [(6, .inl (I98 4 1)), (5, .inl z70), (0, .inr (.inr (some 39))), (1, .inr (.inl v1_9)), (3, .inl v3_9), (4, .inr (.inr (some 41)))], [.inr (.inr (some 13)), .inl 0, .inr (.inr (some 41))], sh, gc_h sh I154 J113 A)
                refine gv_run 4 true hD (pc' := 293) (lv' := [(6, .inl (I98 4 1)), (5, .inl z70), (0, .inr (.inr (some 39))), (1, .inr (.inl v1_9)), (3, .inl v3_9), (4, .inr (.inr (some 41)))]) (st' := [.inl v3_9, .inl ((I98 4 1) * 4), .inr (.inr (some 13)), .inl 0, .inr (.inr (some 41))]) (h' := gc_h sh I154 J113 A) (C := ((((True ∧ True) ∧ True) ∧ True) ∧ True)) rfl ⟨⟨⟨⟨trivial, trivial⟩, trivial⟩, trivial⟩, trivial⟩ ?_
                refine gv_copy hD rfl (gc_lC6_263 hws) (Nat.le_of_ble_eq_true rfl) ⟨B_41, B_13⟩ S_41 S_13 (by decide) ⟨by decide, by decide⟩ ⟨by omega, by omega, by omega⟩ (by omega) (by omega) (fun h => absurd h (by decide)) ?_
                refine gc_cp hI154 S_41 S_13 (by decide) (fun j hj => by have h9 := (gc_rg_fr (gc_rg_fr (gc_rg_fr (gc_rg_fr (gc_rg_fr (gc_rg_fr (gc_rg_fr (gc_rg_fr (gc_rg_fr e0_16 (fun k => (g41 41 k).resolve_left (by omega))) (fun k => (g54 41 k).resolve_left (by omega))) (fun k => (g71 41 k).resolve_left (by omega))) (fun k => (g83 41 k).resolve_left (by omega))) (fun k => (g97 41 k).resolve_left (by omega))) (fun k => (g111 41 k).resolve_left (by omega))) (fun k => p126 41 k (fun h => absurd h.1 (by omega)))) (fun k => p140 41 k (fun h => absurd h.1 (by omega)))) (fun k => p155 41 k (fun h => absurd h.1 (by omega)))) (j : Int) (by omega) (by omega); rw [show Int.toNat (0 : Int) + j = Int.toNat (j : Int) from by omega, R_13]; exact ⟨by show (0 : Int) ≤ _; omega, by show _ ≤ (31 : Int); omega⟩) (fun I169 hI169 p168 q168 => ?_)
                have FI169 := gc_frp (W := fun q j => (q = 39 ∧ j = 3) ∨ (q = 39 ∧ j = 4) ∨ (q = 23 ∧ j = 5) ∨ (q = 23 ∧ j = 6) ∨ (q = 23 ∧ j = 7) ∨ (q = 23 ∧ j = 8) ∨ (q = 39 ∧ j = 7) ∨ q = 41 ∨ (q = 4 ∧ j = 1) ∨ q = 11 ∨ q = 12 ∨ q = 13 ∨ q = 14) (V := fun q j => q = 13 ∧ Int.toNat (((I98 4 1) * 4)) ≤ j ∧ j < Int.toNat (((I98 4 1) * 4)) + Int.toNat v3_9) FI154 (fun q j h => (Or.inr (Or.inr (Or.inr (Or.inr (Or.inr (Or.inr (Or.inr (Or.inr (Or.inr (Or.inr (Or.inr (Or.inl h.1))))))))))))) p168
                have KLT_I169 := gc_LT_fr KLT_I154 (p168 23 5 (fun h => absurd h.1 (by omega))) (p168 23 6 (fun h => absurd h.1 (by omega))) (p168 23 7 (fun h => absurd h.1 (by omega))) (fun k => p168 24 k (fun h => absurd h.1 (by omega)))
                have t171 := p168 23 1 (fun h => absurd h.1 (by omega))
                have t172 := p168 23 5 (fun h => absurd h.1 (by omega))
                have t173 := p168 23 6 (fun h => absurd h.1 (by omega))
                have t174 := p168 23 7 (fun h => absurd h.1 (by omega))
                have t175 := p168 4 1 (fun h => absurd h.1 (by omega))
                have t176 := p168 2 1 (fun h => absurd h.1 (by omega))
                have f177 := (show 0 ≤ I169 23 1 ∧ I169 23 1 ≤ 1000 from gc_in hI169 R_23 rfl rfl)
                have f178 := (show 0 ≤ I169 23 5 ∧ I169 23 5 ≤ 1000 from gc_in hI169 R_23 rfl rfl)
                have f179 := (show 0 ≤ I169 23 6 ∧ I169 23 6 ≤ 1001 from gc_in hI169 R_23 rfl rfl)
                have f180 := (show 0 ≤ I169 23 7 ∧ I169 23 7 ≤ 125 from gc_in hI169 R_23 rfl rfl)
                have f181 := (show 0 ≤ I169 4 1 ∧ I169 4 1 ≤ 96 from gc_in hI169 R_4 rfl rfl)
                have f182 := (show 0 ≤ I169 2 1 ∧ I169 2 1 ≤ 32 from gc_in hI169 R_2 rfl rfl)
                show gv_X _ _ (296, [(6, .inl (I98 4 1)), (5, .inl z70), (0, .inr (.inr (some 39))), (1, .inr (.inl v1_9)), (3, .inl v3_9), (4, .inr (.inr (some 41)))], [], sh, gc_h sh I169 J113 A)
                refine gv_run 1 true hD (pc' := 297) (lv' := [(6, .inl (I98 4 1)), (5, .inl z70), (0, .inr (.inr (some 39))), (1, .inr (.inl v1_9)), (3, .inl v3_9), (4, .inr (.inr (some 41)))]) (st' := [.inl 1]) (h' := gc_h sh I169 J113 A) (C := (True ∧ True)) rfl ⟨trivial, trivial⟩ ?_
                exact gv_zret hD rfl (by omega) ⟨I169, J113, rfl, hI169, FI169, FJ113, KLT_I169, ⟨_, rfl, by omega⟩⟩
              · show gv_X _ _ (216, [(5, .inl z70), (0, .inr (.inr (some 39))), (1, .inr (.inl v1_9)), (3, .inl v3_9), (4, .inr (.inr (some 41)))], [], sh, gc_h sh I98 J99 A)
                refine gv_pick [] rfl ?_
                exact L216 I98 J99 hI98 FI98 FJ99 KLT_I98 (by omega)
          · show gv_X _ _ (164, [(0, .inr (.inr (some 39))), (1, .inr (.inl v1_9)), (3, .inl v3_9), (4, .inr (.inr (some 41)))], [], sh, gc_h sh I55 J43 A)
            refine gv_pick [] rfl ?_
            exact L164 I55 J43 hI55 FI55 FJ43 KLT_I55 (by omega)
      refine gv_run 2 true hD (pc' := 56) (lv' := [(0, .inr (.inr (some 39))), (1, .inr (.inl v1_9)), (3, .inl v3_9), (4, .inr (.inr (some 41))), (5, .inl v5_9)]) (st' := [.inl 4, .inl v5_9]) (h' := gc_h sh I7 J8 A) (C := ((True ∧ True) ∧ True)) rfl ⟨⟨trivial, trivial⟩, trivial⟩ ?_
      refine gv_icmp_gt (t := 141) hD rfl rfl ⟨⟨by omega, by omega⟩, ⟨by omega, by omega⟩⟩ (fun c183 => ?_) (fun c183 => ?_)
      · show gv_X _ _ (141, [(0, .inr (.inr (some 39))), (1, .inr (.inl v1_9)), (3, .inl v3_9), (4, .inr (.inr (some 41))), (5, .inl v5_9)], [], sh, gc_h sh I7 J8 A)
        refine gv_pick [0, 1, 2, 3] rfl ?_
        exact L141 (by omega) e0_9
      · show gv_X _ _ (59, [(0, .inr (.inr (some 39))), (1, .inr (.inl v1_9)), (3, .inl v3_9), (4, .inr (.inr (some 41))), (5, .inl v5_9)], [], sh, gc_h sh I7 J8 A)
        refine gv_run 1 true hD (pc' := 60) (lv' := [(0, .inr (.inr (some 39))), (1, .inr (.inl v1_9)), (3, .inl v3_9), (4, .inr (.inr (some 41))), (5, .inl v5_9)]) (st' := [.inr (.inr (some 39))]) (h' := gc_h sh I7 J8 A) (C := (True ∧ True)) rfl ⟨trivial, trivial⟩ ?_
        refine gv_get hD rfl rfl S_39 ⟨by decide, B_39⟩ (gc_hA S_39 rfl A_39_1) ?_
        show gv_X _ _ (63, [(0, .inr (.inr (some 39))), (1, .inr (.inl v1_9)), (3, .inl v3_9), (4, .inr (.inr (some 41))), (5, .inl v5_9)], [.inr (.inr (some 23))], sh, gc_h sh I7 J8 A)
        have f184 := (show 0 ≤ I7 23 7 ∧ I7 23 7 ≤ 125 from gc_in hI7 R_23 rfl rfl)
        refine gv_get hD rfl rfl S_23 ⟨by decide, B_23⟩ (gc_hI S_23 rfl) ?_
        show gv_X _ _ (66, [(0, .inr (.inr (some 39))), (1, .inr (.inl v1_9)), (3, .inl v3_9), (4, .inr (.inr (some 41))), (5, .inl v5_9)], [.inl (I7 23 7)], sh, gc_h sh I7 J8 A)
        refine gv_run 1 true hD (pc' := 67) (lv' := [(0, .inr (.inr (some 39))), (1, .inr (.inl v1_9)), (3, .inl v3_9), (4, .inr (.inr (some 41))), (5, .inl v5_9)]) (st' := [.inl 1, .inl (I7 23 7)]) (h' := gc_h sh I7 J8 A) (C := (True ∧ True)) rfl ⟨trivial, trivial⟩ ?_
        refine gv_icmp_ne (t := 141) hD rfl rfl ⟨⟨by omega, by omega⟩, ⟨by omega, by omega⟩⟩ (fun c185 => ?_) (fun c185 => ?_)
        · show gv_X _ _ (141, [(0, .inr (.inr (some 39))), (1, .inr (.inl v1_9)), (3, .inl v3_9), (4, .inr (.inr (some 41))), (5, .inl v5_9)], [], sh, gc_h sh I7 J8 A)
          refine gv_pick [0, 1, 2, 3] rfl ?_
          exact L141 (by omega) e0_9
        · show gv_X _ _ (70, [(0, .inr (.inr (some 39))), (1, .inr (.inl v1_9)), (3, .inl v3_9), (4, .inr (.inr (some 41))), (5, .inl v5_9)], [], sh, gc_h sh I7 J8 A)
          refine gv_run 2 true hD (pc' := 72) (lv' := [(0, .inr (.inr (some 39))), (1, .inr (.inl v1_9)), (3, .inl v3_9), (4, .inr (.inr (some 41))), (5, .inl v5_9)]) (st' := [.inl 4, .inl v3_9]) (h' := gc_h sh I7 J8 A) (C := ((True ∧ True) ∧ True)) rfl ⟨⟨trivial, trivial⟩, trivial⟩ ?_
          refine gv_icmp_ne (t := 88) hD rfl rfl ⟨⟨by omega, by omega⟩, ⟨by omega, by omega⟩⟩ (fun c186 => ?_) (fun c186 => ?_)
          · show gv_X _ _ (88, [(0, .inr (.inr (some 39))), (1, .inr (.inl v1_9)), (3, .inl v3_9), (4, .inr (.inr (some 41))), (5, .inl v5_9)], [], sh, gc_h sh I7 J8 A)
            refine gv_run 2 true hD (pc' := 90) (lv' := [(0, .inr (.inr (some 39))), (1, .inr (.inl v1_9)), (3, .inl v3_9), (4, .inr (.inr (some 41))), (5, .inl v5_9)]) (st' := [.inr (.inr (some 39)), .inr (.inr (some 39))]) (h' := gc_h sh I7 J8 A) (C := ((True ∧ True) ∧ True)) rfl ⟨⟨trivial, trivial⟩, trivial⟩ ?_
            refine gv_get hD rfl rfl S_39 ⟨by decide, B_39⟩ (gc_hA S_39 rfl A_39_0) ?_
            show gv_X _ _ (93, [(0, .inr (.inr (some 39))), (1, .inr (.inl v1_9)), (3, .inl v3_9), (4, .inr (.inr (some 41))), (5, .inl v5_9)], [.inr (.inr (some 1)), .inr (.inr (some 39))], sh, gc_h sh I7 J8 A)
            refine gv_get hD rfl rfl S_1 ⟨by decide, B_1⟩ (gc_hA S_1 rfl A_1_0) ?_
            show gv_X _ _ (96, [(0, .inr (.inr (some 39))), (1, .inr (.inl v1_9)), (3, .inl v3_9), (4, .inr (.inr (some 41))), (5, .inl v5_9)], [.inr (.inr (some 2)), .inr (.inr (some 39))], sh, gc_h sh I7 J8 A)
            obtain ⟨r187, h187, E187, P187⟩ := d_X6_needKnown (ws0 := ws0) (tb := tb) hws htb sh ro I7 J8 A hI7  32 9 2 hb (gc_b2 hb)    
            obtain ⟨I188, J189, rfl, hI188, g187, k187, ⟨z187, rfl, q187⟩⟩ := P187
            have FI188 := gc_frc (W := fun q j => (q = 39 ∧ j = 3) ∨ (q = 39 ∧ j = 4) ∨ (q = 23 ∧ j = 5) ∨ (q = 23 ∧ j = 6) ∨ (q = 23 ∧ j = 7) ∨ (q = 23 ∧ j = 8) ∨ (q = 39 ∧ j = 7) ∨ q = 41 ∨ (q = 4 ∧ j = 1) ∨ q = 11 ∨ q = 12 ∨ q = 13 ∨ q = 14) (V := fun q j => (q = 39 ∧ j = 3) ∨ (q = 39 ∧ j = 4)) FI7 (fun q j h => (h.elim (fun h => (Or.inl h)) (fun h => (Or.inr (Or.inl h))))) g187
            have t190 := (g187 23 1).resolve_left (by omega)
            have t191 := (g187 23 5).resolve_left (by omega)
            have t192 := (g187 23 6).resolve_left (by omega)
            have t193 := (g187 23 7).resolve_left (by omega)
            have t194 := (g187 4 1).resolve_left (by omega)
            have t195 := (g187 2 1).resolve_left (by omega)
            have f196 := (show 0 ≤ I188 23 1 ∧ I188 23 1 ≤ 1000 from gc_in hI188 R_23 rfl rfl)
            have f197 := (show 0 ≤ I188 23 5 ∧ I188 23 5 ≤ 1000 from gc_in hI188 R_23 rfl rfl)
            have f198 := (show 0 ≤ I188 23 6 ∧ I188 23 6 ≤ 1001 from gc_in hI188 R_23 rfl rfl)
            have f199 := (show 0 ≤ I188 23 7 ∧ I188 23 7 ≤ 125 from gc_in hI188 R_23 rfl rfl)
            have f200 := (show 0 ≤ I188 4 1 ∧ I188 4 1 ≤ 96 from gc_in hI188 R_4 rfl rfl)
            have f201 := (show 0 ≤ I188 2 1 ∧ I188 2 1 ≤ 32 from gc_in hI188 R_2 rfl rfl)
            obtain rfl : J8 = J189 := funext fun q => funext fun j => ((k187 q j).resolve_left id).symm
            have KLT_I188 := gc_LT_fr KLT_I7 ((g187 23 5).resolve_left (by omega)) ((g187 23 6).resolve_left (by omega)) ((g187 23 7).resolve_left (by omega)) (fun k => (g187 24 k).resolve_left (by omega))
            refine gv_callV hD rfl (As := [.inr (.inr (some 2))]) (st := []) rfl B_39 S_39 rfl (gc_lV6 hws rfl) (Nat.le_of_ble_eq_true rfl) (gz_Ev_mono (d := 3) (by decide) E187) ?_
            show gv_X _ _ (99, [(0, .inr (.inr (some 39))), (1, .inr (.inl v1_9)), (3, .inl v3_9), (4, .inr (.inr (some 41))), (5, .inl v5_9)], [.inl z187], sh, gc_h sh I188 J8 A)
            refine gv_if_ne (t := 104) hD rfl rfl ⟨by omega, by omega⟩ (fun c202 => ?_) (fun c202 => ?_)
            · show gv_X _ _ (104, [(0, .inr (.inr (some 39))), (1, .inr (.inl v1_9)), (3, .inl v3_9), (4, .inr (.inr (some 41))), (5, .inl v5_9)], [], sh, gc_h sh I188 J8 A)
              refine gv_run 4 true hD (pc' := 111) (lv' := [(3, .inl (v3_9 + 1)), (0, .inr (.inr (some 39))), (1, .inr (.inl v1_9)), (4, .inr (.inr (some 41))), (5, .inl v5_9)]) (st' := [.inr (.inr (some 39)), .inl v3_9, .inr (.inr (some 41))]) (h' := gc_h sh I188 J8 A) (C := ((((True ∧ True) ∧ True) ∧ True) ∧ True)) rfl ⟨⟨⟨⟨trivial, trivial⟩, trivial⟩, trivial⟩, trivial⟩ ?_
              refine gv_get hD rfl rfl S_39 ⟨by decide, B_39⟩ (gc_hA S_39 rfl A_39_0) ?_
              show gv_X _ _ (114, [(3, .inl (v3_9 + 1)), (0, .inr (.inr (some 39))), (1, .inr (.inl v1_9)), (4, .inr (.inr (some 41))), (5, .inl v5_9)], [.inr (.inr (some 1)), .inl v3_9, .inr (.inr (some 41))], sh, gc_h sh I188 J8 A)
              refine gv_get hD rfl rfl S_1 ⟨by decide, B_1⟩ (gc_hA S_1 rfl A_1_0) ?_
              show gv_X _ _ (117, [(3, .inl (v3_9 + 1)), (0, .inr (.inr (some 39))), (1, .inr (.inl v1_9)), (4, .inr (.inr (some 41))), (5, .inl v5_9)], [.inr (.inr (some 2)), .inl v3_9, .inr (.inr (some 41))], sh, gc_h sh I188 J8 A)
              refine gv_run 1 true hD (pc' := 118) (lv' := [(3, .inl (v3_9 + 1)), (0, .inr (.inr (some 39))), (1, .inr (.inl v1_9)), (4, .inr (.inr (some 41))), (5, .inl v5_9)]) (st' := [.inr (.inr (some 39)), .inr (.inr (some 2)), .inl v3_9, .inr (.inr (some 41))]) (h' := gc_h sh I188 J8 A) (C := (True ∧ True)) rfl ⟨trivial, trivial⟩ ?_
              refine gv_get hD rfl rfl S_39 ⟨by decide, B_39⟩ (gc_hA S_39 rfl A_39_1) ?_
              show gv_X _ _ (121, [(3, .inl (v3_9 + 1)), (0, .inr (.inr (some 39))), (1, .inr (.inl v1_9)), (4, .inr (.inr (some 41))), (5, .inl v5_9)], [.inr (.inr (some 23)), .inr (.inr (some 2)), .inl v3_9, .inr (.inr (some 41))], sh, gc_h sh I188 J8 A)
              refine gv_get hD rfl rfl S_23 ⟨by decide, B_23⟩ (gc_hJ S_23 rfl) ?_
              show gv_X _ _ (124, [(3, .inl (v3_9 + 1)), (0, .inr (.inr (some 39))), (1, .inr (.inl v1_9)), (4, .inr (.inr (some 41))), (5, .inl v5_9)], [.inr (.inl (J8 23 9)), .inr (.inr (some 2)), .inl v3_9, .inr (.inr (some 41))], sh, gc_h sh I188 J8 A)
              obtain ⟨r203, h203, E203, P203⟩ := d_X4_find (ws0 := ws0) (tb := tb) hws htb sh ro I188 J8 A hI188 2 32 9 (J8 23 9) (gc_b2 hb)     
              obtain ⟨rfl, ⟨z203, rfl, q203⟩⟩ := P203
              refine gv_callV hD rfl (As := [.inr (.inl (J8 23 9))]) (st := [.inl v3_9, .inr (.inr (some 41))]) rfl B_2 S_2 rfl (gc_lV6 hws rfl) (Nat.le_of_ble_eq_true rfl) (gz_Ev_mono (d := 1) (by decide) E203) ?_
              show gv_X _ _ (127, [(3, .inl (v3_9 + 1)), (0, .inr (.inr (some 39))), (1, .inr (.inl v1_9)), (4, .inr (.inr (some 41))), (5, .inl v5_9)], [.inl z203, .inl v3_9, .inr (.inr (some 41))], sh, gc_h sh I188 J8 A)
              refine gv_iast hD rfl S_41 ⟨by decide, B_41⟩ ⟨by omega, by omega⟩ ?_
              refine gc_st hI188 S_41 rfl R_41 (lo := (-2147483648)) (hi := 2147483647) rfl rfl (by omega) (by omega) (fun I204 hI204 q205 p205 => ?_)
              have FI204 := gc_frs (W := fun q j => (q = 39 ∧ j = 3) ∨ (q = 39 ∧ j = 4) ∨ (q = 23 ∧ j = 5) ∨ (q = 23 ∧ j = 6) ∨ (q = 23 ∧ j = 7) ∨ (q = 23 ∧ j = 8) ∨ (q = 39 ∧ j = 7) ∨ q = 41 ∨ (q = 4 ∧ j = 1) ∨ q = 11 ∨ q = 12 ∨ q = 13 ∨ q = 14) FI188 (Or.inr (Or.inr (Or.inr (Or.inr (Or.inr (Or.inr (Or.inr (Or.inl rfl)))))))) p205
              have t206 := p205 23 1 (fun h => absurd h.1 (by omega))
              have t207 := p205 23 5 (fun h => absurd h.1 (by omega))
              have t208 := p205 23 6 (fun h => absurd h.1 (by omega))
              have t209 := p205 23 7 (fun h => absurd h.1 (by omega))
              have t210 := p205 4 1 (fun h => absurd h.1 (by omega))
              have t211 := p205 2 1 (fun h => absurd h.1 (by omega))
              have f212 := (show 0 ≤ I204 23 1 ∧ I204 23 1 ≤ 1000 from gc_in hI204 R_23 rfl rfl)
              have f213 := (show 0 ≤ I204 23 5 ∧ I204 23 5 ≤ 1000 from gc_in hI204 R_23 rfl rfl)
              have f214 := (show 0 ≤ I204 23 6 ∧ I204 23 6 ≤ 1001 from gc_in hI204 R_23 rfl rfl)
              have f215 := (show 0 ≤ I204 23 7 ∧ I204 23 7 ≤ 125 from gc_in hI204 R_23 rfl rfl)
              have f216 := (show 0 ≤ I204 4 1 ∧ I204 4 1 ≤ 96 from gc_in hI204 R_4 rfl rfl)
              have f217 := (show 0 ≤ I204 2 1 ∧ I204 2 1 ≤ 32 from gc_in hI204 R_2 rfl rfl)
              have KLT_I204 := gc_LT_fr KLT_I188 (p205 23 5 (fun h => absurd h.1 (by omega))) (p205 23 6 (fun h => absurd h.1 (by omega))) (p205 23 7 (fun h => absurd h.1 (by omega))) (fun k => p205 24 k (fun h => absurd h.1 (by omega)))
              show gv_X _ _ (128, [(3, .inl (v3_9 + 1)), (0, .inr (.inr (some 39))), (1, .inr (.inl v1_9)), (4, .inr (.inr (some 41))), (5, .inl v5_9)], [], sh, gc_h sh I204 J8 A)
              refine gv_run 1 true hD (pc' := 129) (lv' := [(3, .inl (v3_9 + 1)), (0, .inr (.inr (some 39))), (1, .inr (.inl v1_9)), (4, .inr (.inr (some 41))), (5, .inl v5_9)]) (st' := [.inr (.inr (some 39))]) (h' := gc_h sh I204 J8 A) (C := (True ∧ True)) rfl ⟨trivial, trivial⟩ ?_
              refine gv_get hD rfl rfl S_39 ⟨by decide, B_39⟩ (gc_hA S_39 rfl A_39_1) ?_
              show gv_X _ _ (132, [(3, .inl (v3_9 + 1)), (0, .inr (.inr (some 39))), (1, .inr (.inl v1_9)), (4, .inr (.inr (some 41))), (5, .inl v5_9)], [.inr (.inr (some 23))], sh, gc_h sh I204 J8 A)
              obtain ⟨r218, h218, E218, P218⟩ := d_X9_advance (ws0 := ws0) (tb := tb) hws htb sh ro I204 J8 A hI204 23  (gc_b23 hb)    (by omega) 
              obtain ⟨I219, J220, rfl, hI219, g218, k218, ⟨rfl, q218⟩⟩ := P218
              have FI219 := gc_frc (W := fun q j => (q = 39 ∧ j = 3) ∨ (q = 39 ∧ j = 4) ∨ (q = 23 ∧ j = 5) ∨ (q = 23 ∧ j = 6) ∨ (q = 23 ∧ j = 7) ∨ (q = 23 ∧ j = 8) ∨ (q = 39 ∧ j = 7) ∨ q = 41 ∨ (q = 4 ∧ j = 1) ∨ q = 11 ∨ q = 12 ∨ q = 13 ∨ q = 14) (V := fun q j => (q = 23 ∧ j = 5) ∨ (q = 23 ∧ j = 6) ∨ (q = 23 ∧ j = 7) ∨ (q = 23 ∧ j = 8)) FI204 (fun q j h => (h.elim (fun h => (Or.inr (Or.inr (Or.inl h)))) (fun h => (h.elim (fun h => (Or.inr (Or.inr (Or.inr (Or.inl h))))) (fun h => (h.elim (fun h => (Or.inr (Or.inr (Or.inr (Or.inr (Or.inl h)))))) (fun h => (Or.inr (Or.inr (Or.inr (Or.inr (Or.inr (Or.inl h))))))))))))) g218
              have FJ220 := gc_frc (W := fun q j => (q = 23 ∧ j = 9) ∨ q = 5) (V := fun q j => (q = 23 ∧ j = 9)) FJ8 (fun q j h => (Or.inl h)) k218
              have t221 := (g218 23 1).resolve_left (by omega)
              have t222 := (g218 4 1).resolve_left (by omega)
              have t223 := (g218 2 1).resolve_left (by omega)
              have f224 := (show 0 ≤ I219 23 1 ∧ I219 23 1 ≤ 1000 from gc_in hI219 R_23 rfl rfl)
              have f225 := (show 0 ≤ I219 23 5 ∧ I219 23 5 ≤ 1000 from gc_in hI219 R_23 rfl rfl)
              have f226 := (show 0 ≤ I219 23 6 ∧ I219 23 6 ≤ 1001 from gc_in hI219 R_23 rfl rfl)
              have f227 := (show 0 ≤ I219 23 7 ∧ I219 23 7 ≤ 125 from gc_in hI219 R_23 rfl rfl)
              have f228 := (show 0 ≤ I219 4 1 ∧ I219 4 1 ≤ 96 from gc_in hI219 R_4 rfl rfl)
              have f229 := (show 0 ≤ I219 2 1 ∧ I219 2 1 ≤ 32 from gc_in hI219 R_2 rfl rfl)
              have KLT_I219 : gc_LT I219 := q218.2.2.2.2.2.2.2
              refine gv_callV hD rfl (As := []) (st := []) rfl B_23 S_23 rfl (gc_lV6 hws rfl) (Nat.le_of_ble_eq_true rfl) (gz_Ev_mono (d := 2) (by decide) E218) ?_
              show gv_X _ _ (135, [(3, .inl (v3_9 + 1)), (0, .inr (.inr (some 39))), (1, .inr (.inl v1_9)), (4, .inr (.inr (some 41))), (5, .inl v5_9)], [], sh, gc_h sh I219 J220 A)
              refine gv_run 2 true hD (pc' := 53) (lv' := [(5, .inl (v5_9 + 1)), (3, .inl (v3_9 + 1)), (0, .inr (.inr (some 39))), (1, .inr (.inl v1_9)), (4, .inr (.inr (some 41)))]) (st' := []) (h' := gc_h sh I219 J220 A) (C := ((True ∧ True) ∧ True)) rfl ⟨⟨trivial, trivial⟩, trivial⟩ ?_
              refine gv_pick [2, 3, 1, 4, 0] rfl ?_
              exact ih53 I219 J220 v1_9 (v3_9 + 1) (v5_9 + 1) (by omega) hI219 FI219 FJ220 KLT_I219 (by omega) (gc_rg_fr (gc_rg_push (gc_rg_fr e0_9 (fun k => (g187 41 k).resolve_left (by omega))) (by omega) p205 (by omega)) (fun k => (g218 41 k).resolve_left (by omega)))
            · show gv_X _ _ (102, [(0, .inr (.inr (some 39))), (1, .inr (.inl v1_9)), (3, .inl v3_9), (4, .inr (.inr (some 41))), (5, .inl v5_9)], [], sh, gc_h sh I188 J8 A)
              refine gv_run 1 true hD (pc' := 103) (lv' := [(0, .inr (.inr (some 39))), (1, .inr (.inl v1_9)), (3, .inl v3_9), (4, .inr (.inr (some 41))), (5, .inl v5_9)]) (st' := [.inl 0]) (h' := gc_h sh I188 J8 A) (C := (True ∧ True)) rfl ⟨trivial, trivial⟩ ?_
              exact gv_zret hD rfl (by omega) ⟨I188, J8, rfl, hI188, FI188, FJ8, KLT_I188, ⟨_, rfl, by omega⟩⟩
          · show gv_X _ _ (75, [(0, .inr (.inr (some 39))), (1, .inr (.inl v1_9)), (3, .inl v3_9), (4, .inr (.inr (some 41))), (5, .inl v5_9)], [], sh, gc_h sh I7 J8 A)
            refine gv_run 3 true hD (pc' := 78) (lv' := [(0, .inr (.inr (some 39))), (1, .inr (.inl v1_9)), (3, .inl v3_9), (4, .inr (.inr (some 41))), (5, .inl v5_9)]) (st' := [.inr (.inr (some 39)), .inl 5, .inr (.inr (some 39))]) (h' := gc_h sh I7 J8 A) (C := (((True ∧ True) ∧ True) ∧ True)) rfl ⟨⟨⟨trivial, trivial⟩, trivial⟩, trivial⟩ ?_
            refine gv_get hD rfl rfl S_39 ⟨by decide, B_39⟩ (gc_hA S_39 rfl A_39_1) ?_
            show gv_X _ _ (81, [(0, .inr (.inr (some 39))), (1, .inr (.inl v1_9)), (3, .inl v3_9), (4, .inr (.inr (some 41))), (5, .inl v5_9)], [.inr (.inr (some 23)), .inl 5, .inr (.inr (some 39))], sh, gc_h sh I7 J8 A)
            have f230 := (show 0 ≤ I7 23 5 ∧ I7 23 5 ≤ 1000 from gc_in hI7 R_23 rfl rfl)
            refine gv_get hD rfl rfl S_23 ⟨by decide, B_23⟩ (gc_hI S_23 rfl) ?_
            show gv_X _ _ (84, [(0, .inr (.inr (some 39))), (1, .inr (.inl v1_9)), (3, .inl v3_9), (4, .inr (.inr (some 41))), (5, .inl v5_9)], [.inl (I7 23 5), .inl 5, .inr (.inr (some 39))], sh, gc_h sh I7 J8 A)
            obtain ⟨r231, h231, E231, P231⟩ := d_X6_wrong (ws0 := ws0) (tb := tb) hws htb sh ro I7 J8 A hI7  5 (I7 23 5) hb   ⟨by omega, by omega⟩ ⟨by omega, by omega⟩  
            obtain ⟨I232, J233, rfl, hI232, g231, k231, ⟨z231, rfl, q231⟩⟩ := P231
            have FI232 := gc_frc (W := fun q j => (q = 39 ∧ j = 3) ∨ (q = 39 ∧ j = 4) ∨ (q = 23 ∧ j = 5) ∨ (q = 23 ∧ j = 6) ∨ (q = 23 ∧ j = 7) ∨ (q = 23 ∧ j = 8) ∨ (q = 39 ∧ j = 7) ∨ q = 41 ∨ (q = 4 ∧ j = 1) ∨ q = 11 ∨ q = 12 ∨ q = 13 ∨ q = 14) (V := fun q j => (q = 39 ∧ j = 3) ∨ (q = 39 ∧ j = 4)) FI7 (fun q j h => (h.elim (fun h => (Or.inl h)) (fun h => (Or.inr (Or.inl h))))) g231
            have t234 := (g231 23 1).resolve_left (by omega)
            have t235 := (g231 23 5).resolve_left (by omega)
            have t236 := (g231 23 6).resolve_left (by omega)
            have t237 := (g231 23 7).resolve_left (by omega)
            have t238 := (g231 4 1).resolve_left (by omega)
            have t239 := (g231 2 1).resolve_left (by omega)
            have f240 := (show 0 ≤ I232 23 1 ∧ I232 23 1 ≤ 1000 from gc_in hI232 R_23 rfl rfl)
            have f241 := (show 0 ≤ I232 23 5 ∧ I232 23 5 ≤ 1000 from gc_in hI232 R_23 rfl rfl)
            have f242 := (show 0 ≤ I232 23 6 ∧ I232 23 6 ≤ 1001 from gc_in hI232 R_23 rfl rfl)
            have f243 := (show 0 ≤ I232 23 7 ∧ I232 23 7 ≤ 125 from gc_in hI232 R_23 rfl rfl)
            have f244 := (show 0 ≤ I232 4 1 ∧ I232 4 1 ≤ 96 from gc_in hI232 R_4 rfl rfl)
            have f245 := (show 0 ≤ I232 2 1 ∧ I232 2 1 ≤ 32 from gc_in hI232 R_2 rfl rfl)
            obtain rfl : J8 = J233 := funext fun q => funext fun j => ((k231 q j).resolve_left id).symm
            have KLT_I232 := gc_LT_fr KLT_I7 ((g231 23 5).resolve_left (by omega)) ((g231 23 6).resolve_left (by omega)) ((g231 23 7).resolve_left (by omega)) (fun k => (g231 24 k).resolve_left (by omega))
            refine gv_callV hD rfl (As := [.inl 5, .inl (I7 23 5)]) (st := []) rfl B_39 S_39 rfl (gc_lV6 hws rfl) (Nat.le_of_ble_eq_true rfl) (gz_Ev_mono (d := 1) (by decide) E231) ?_
            show gv_X _ _ (87, [(0, .inr (.inr (some 39))), (1, .inr (.inl v1_9)), (3, .inl v3_9), (4, .inr (.inr (some 41))), (5, .inl v5_9)], [.inl z231], sh, gc_h sh I232 J8 A)
            exact gv_zret hD rfl (by omega) ⟨I232, J8, rfl, hI232, FI232, FJ8, KLT_I232, ⟨_, rfl, by omega⟩⟩
  refine gv_run 2 true hD (pc' := 2) (lv' := [(0, .inr (.inr (some 39)))]) (st' := [.inr (.inr (some 39)), .inr (.inr (some 39))]) (h' := gc_h sh I J A) (C := ((True ∧ True) ∧ True)) rfl ⟨⟨trivial, trivial⟩, trivial⟩ ?_
  refine gv_get hD rfl rfl S_39 ⟨by decide, B_39⟩ (gc_hA S_39 rfl A_39_0) ?_
  show gv_X _ _ (5, [(0, .inr (.inr (some 39)))], [.inr (.inr (some 1)), .inr (.inr (some 39))], sh, gc_h sh I J A)
  refine gv_get hD rfl rfl S_1 ⟨by decide, B_1⟩ (gc_hA S_1 rfl A_1_1) ?_
  show gv_X _ _ (8, [(0, .inr (.inr (some 39)))], [.inr (.inr (some 4)), .inr (.inr (some 39))], sh, gc_h sh I J A)
  obtain ⟨r246, h246, E246, P246⟩ := d_X6_needNew (ws0 := ws0) (tb := tb) hws htb sh ro I J A hI  96 11 4 hb (gc_b4 hb)    
  obtain ⟨I247, J248, rfl, hI247, g246, k246, ⟨z246, rfl, q246⟩⟩ := P246
  have FI247 := gc_frc (W := fun q j => (q = 39 ∧ j = 3) ∨ (q = 39 ∧ j = 4) ∨ (q = 23 ∧ j = 5) ∨ (q = 23 ∧ j = 6) ∨ (q = 23 ∧ j = 7) ∨ (q = 23 ∧ j = 8) ∨ (q = 39 ∧ j = 7) ∨ q = 41 ∨ (q = 4 ∧ j = 1) ∨ q = 11 ∨ q = 12 ∨ q = 13 ∨ q = 14) (V := fun q j => (q = 39 ∧ j = 3) ∨ (q = 39 ∧ j = 4)) FI (fun q j h => (h.elim (fun h => (Or.inl h)) (fun h => (Or.inr (Or.inl h))))) g246
  have t249 := (g246 23 1).resolve_left (by omega)
  have t250 := (g246 23 5).resolve_left (by omega)
  have t251 := (g246 23 6).resolve_left (by omega)
  have t252 := (g246 23 7).resolve_left (by omega)
  have t253 := (g246 4 1).resolve_left (by omega)
  have t254 := (g246 2 1).resolve_left (by omega)
  have f255 := (show 0 ≤ I247 23 1 ∧ I247 23 1 ≤ 1000 from gc_in hI247 R_23 rfl rfl)
  have f256 := (show 0 ≤ I247 23 5 ∧ I247 23 5 ≤ 1000 from gc_in hI247 R_23 rfl rfl)
  have f257 := (show 0 ≤ I247 23 6 ∧ I247 23 6 ≤ 1001 from gc_in hI247 R_23 rfl rfl)
  have f258 := (show 0 ≤ I247 23 7 ∧ I247 23 7 ≤ 125 from gc_in hI247 R_23 rfl rfl)
  have f259 := (show 0 ≤ I247 4 1 ∧ I247 4 1 ≤ 96 from gc_in hI247 R_4 rfl rfl)
  have f260 := (show 0 ≤ I247 2 1 ∧ I247 2 1 ≤ 32 from gc_in hI247 R_2 rfl rfl)
  obtain rfl : J = J248 := funext fun q => funext fun j => ((k246 q j).resolve_left id).symm
  have KLT_I247 := gc_LT_fr KLT_I ((g246 23 5).resolve_left (by omega)) ((g246 23 6).resolve_left (by omega)) ((g246 23 7).resolve_left (by omega)) (fun k => (g246 24 k).resolve_left (by omega))
  refine gv_callV hD rfl (As := [.inr (.inr (some 4))]) (st := []) rfl B_39 S_39 rfl (gc_lV6 hws rfl) (Nat.le_of_ble_eq_true rfl) (gz_Ev_mono (d := 3) (by decide) E246) ?_
  show gv_X _ _ (11, [(0, .inr (.inr (some 39)))], [.inl z246], sh, gc_h sh I247 J A)
  refine gv_if_ne (t := 16) hD rfl rfl ⟨by omega, by omega⟩ (fun c261 => ?_) (fun c261 => ?_)
  · show gv_X _ _ (16, [(0, .inr (.inr (some 39)))], [], sh, gc_h sh I247 J A)
    refine gv_run 1 true hD (pc' := 17) (lv' := [(0, .inr (.inr (some 39)))]) (st' := [.inr (.inr (some 39))]) (h' := gc_h sh I247 J A) (C := (True ∧ True)) rfl ⟨trivial, trivial⟩ ?_
    refine gv_get hD rfl rfl S_39 ⟨by decide, B_39⟩ (gc_hA S_39 rfl A_39_1) ?_
    show gv_X _ _ (20, [(0, .inr (.inr (some 39)))], [.inr (.inr (some 23))], sh, gc_h sh I247 J A)
    refine gv_get hD rfl rfl S_23 ⟨by decide, B_23⟩ (gc_hJ S_23 rfl) ?_
    show gv_X _ _ (23, [(0, .inr (.inr (some 39)))], [.inr (.inl (J 23 9))], sh, gc_h sh I247 J A)
    refine gv_run 2 true hD (pc' := 25) (lv' := [(1, .inr (.inl (J 23 9))), (0, .inr (.inr (some 39)))]) (st' := [.inr (.inr (some 39))]) (h' := gc_h sh I247 J A) (C := ((True ∧ True) ∧ True)) rfl ⟨⟨trivial, trivial⟩, trivial⟩ ?_
    refine gv_get hD rfl rfl S_39 ⟨by decide, B_39⟩ (gc_hA S_39 rfl A_39_1) ?_
    show gv_X _ _ (28, [(1, .inr (.inl (J 23 9))), (0, .inr (.inr (some 39)))], [.inr (.inr (some 23))], sh, gc_h sh I247 J A)
    obtain ⟨r262, h262, E262, P262⟩ := d_X9_advance (ws0 := ws0) (tb := tb) hws htb sh ro I247 J A hI247 23  (gc_b23 hb)    (by omega) 
    obtain ⟨I263, J264, rfl, hI263, g262, k262, ⟨rfl, q262⟩⟩ := P262
    have FI263 := gc_frc (W := fun q j => (q = 39 ∧ j = 3) ∨ (q = 39 ∧ j = 4) ∨ (q = 23 ∧ j = 5) ∨ (q = 23 ∧ j = 6) ∨ (q = 23 ∧ j = 7) ∨ (q = 23 ∧ j = 8) ∨ (q = 39 ∧ j = 7) ∨ q = 41 ∨ (q = 4 ∧ j = 1) ∨ q = 11 ∨ q = 12 ∨ q = 13 ∨ q = 14) (V := fun q j => (q = 23 ∧ j = 5) ∨ (q = 23 ∧ j = 6) ∨ (q = 23 ∧ j = 7) ∨ (q = 23 ∧ j = 8)) FI247 (fun q j h => (h.elim (fun h => (Or.inr (Or.inr (Or.inl h)))) (fun h => (h.elim (fun h => (Or.inr (Or.inr (Or.inr (Or.inl h))))) (fun h => (h.elim (fun h => (Or.inr (Or.inr (Or.inr (Or.inr (Or.inl h)))))) (fun h => (Or.inr (Or.inr (Or.inr (Or.inr (Or.inr (Or.inl h))))))))))))) g262
    have FJ264 := gc_frc (W := fun q j => (q = 23 ∧ j = 9) ∨ q = 5) (V := fun q j => (q = 23 ∧ j = 9)) FJ (fun q j h => (Or.inl h)) k262
    have t265 := (g262 23 1).resolve_left (by omega)
    have t266 := (g262 4 1).resolve_left (by omega)
    have t267 := (g262 2 1).resolve_left (by omega)
    have f268 := (show 0 ≤ I263 23 1 ∧ I263 23 1 ≤ 1000 from gc_in hI263 R_23 rfl rfl)
    have f269 := (show 0 ≤ I263 23 5 ∧ I263 23 5 ≤ 1000 from gc_in hI263 R_23 rfl rfl)
    have f270 := (show 0 ≤ I263 23 6 ∧ I263 23 6 ≤ 1001 from gc_in hI263 R_23 rfl rfl)
    have f271 := (show 0 ≤ I263 23 7 ∧ I263 23 7 ≤ 125 from gc_in hI263 R_23 rfl rfl)
    have f272 := (show 0 ≤ I263 4 1 ∧ I263 4 1 ≤ 96 from gc_in hI263 R_4 rfl rfl)
    have f273 := (show 0 ≤ I263 2 1 ∧ I263 2 1 ≤ 32 from gc_in hI263 R_2 rfl rfl)
    have KLT_I263 : gc_LT I263 := q262.2.2.2.2.2.2.2
    refine gv_callV hD rfl (As := []) (st := []) rfl B_23 S_23 rfl (gc_lV6 hws rfl) (Nat.le_of_ble_eq_true rfl) (gz_Ev_mono (d := 2) (by decide) E262) ?_
    show gv_X _ _ (31, [(1, .inr (.inl (J 23 9))), (0, .inr (.inr (some 39)))], [], sh, gc_h sh I263 J264 A)
    refine gv_run 2 true hD (pc' := 34) (lv' := [(1, .inr (.inl (J 23 9))), (0, .inr (.inr (some 39)))]) (st' := [.inl 58, .inr (.inr (some 39))]) (h' := gc_h sh I263 J264 A) (C := ((True ∧ True) ∧ True)) rfl ⟨⟨trivial, trivial⟩, trivial⟩ ?_
    obtain ⟨r274, h274, E274, P274⟩ := d_X6_take (ws0 := ws0) (tb := tb) hws htb sh ro I263 J264 A hI263  58 hb   ⟨by omega, by omega⟩ (by omega) (by omega) (by omega) (by omega) (by omega) (by omega) KLT_I263
    obtain ⟨I275, J276, rfl, hI275, g274, k274, KLT_I275, ⟨z274, rfl, q274⟩⟩ := P274
    have FI275 := gc_frc (W := fun q j => (q = 39 ∧ j = 3) ∨ (q = 39 ∧ j = 4) ∨ (q = 23 ∧ j = 5) ∨ (q = 23 ∧ j = 6) ∨ (q = 23 ∧ j = 7) ∨ (q = 23 ∧ j = 8) ∨ (q = 39 ∧ j = 7) ∨ q = 41 ∨ (q = 4 ∧ j = 1) ∨ q = 11 ∨ q = 12 ∨ q = 13 ∨ q = 14) (V := fun q j => (q = 39 ∧ j = 3) ∨ (q = 39 ∧ j = 4) ∨ (q = 23 ∧ j = 5) ∨ (q = 23 ∧ j = 6) ∨ (q = 23 ∧ j = 7) ∨ (q = 23 ∧ j = 8)) FI263 (fun q j h => (h.elim (fun h => (Or.inl h)) (fun h => (h.elim (fun h => (Or.inr (Or.inl h))) (fun h => (h.elim (fun h => (Or.inr (Or.inr (Or.inl h)))) (fun h => (h.elim (fun h => (Or.inr (Or.inr (Or.inr (Or.inl h))))) (fun h => (h.elim (fun h => (Or.inr (Or.inr (Or.inr (Or.inr (Or.inl h)))))) (fun h => (Or.inr (Or.inr (Or.inr (Or.inr (Or.inr (Or.inl h))))))))))))))))) g274
    have FJ276 := gc_frc (W := fun q j => (q = 23 ∧ j = 9) ∨ q = 5) (V := fun q j => (q = 23 ∧ j = 9)) FJ264 (fun q j h => (Or.inl h)) k274
    have t277 := (g274 23 1).resolve_left (by omega)
    have t278 := (g274 4 1).resolve_left (by omega)
    have t279 := (g274 2 1).resolve_left (by omega)
    have f280 := (show 0 ≤ I275 23 1 ∧ I275 23 1 ≤ 1000 from gc_in hI275 R_23 rfl rfl)
    have f281 := (show 0 ≤ I275 23 5 ∧ I275 23 5 ≤ 1000 from gc_in hI275 R_23 rfl rfl)
    have f282 := (show 0 ≤ I275 23 6 ∧ I275 23 6 ≤ 1001 from gc_in hI275 R_23 rfl rfl)
    have f283 := (show 0 ≤ I275 23 7 ∧ I275 23 7 ≤ 125 from gc_in hI275 R_23 rfl rfl)
    have f284 := (show 0 ≤ I275 4 1 ∧ I275 4 1 ≤ 96 from gc_in hI275 R_4 rfl rfl)
    have f285 := (show 0 ≤ I275 2 1 ∧ I275 2 1 ≤ 32 from gc_in hI275 R_2 rfl rfl)
    refine gv_callV hD rfl (As := [.inl 58]) (st := []) rfl B_39 S_39 rfl (gc_lV6 hws rfl) (Nat.le_of_ble_eq_true rfl) (gz_Ev_mono (d := 3) (by decide) E274) ?_
    show gv_X _ _ (37, [(1, .inr (.inl (J 23 9))), (0, .inr (.inr (some 39)))], [.inl z274], sh, gc_h sh I275 J276 A)
    refine gv_if_ne (t := 42) hD rfl rfl ⟨by omega, by omega⟩ (fun c286 => ?_) (fun c286 => ?_)
    · show gv_X _ _ (42, [(1, .inr (.inl (J 23 9))), (0, .inr (.inr (some 39)))], [], sh, gc_h sh I275 J276 A)
      refine gv_run 3 true hD (pc' := 45) (lv' := [(3, .inl 0), (1, .inr (.inl (J 23 9))), (0, .inr (.inr (some 39)))]) (st' := [.inr (.inr (some 39))]) (h' := gc_h sh I275 J276 A) (C := (((True ∧ True) ∧ True) ∧ True)) rfl ⟨⟨⟨trivial, trivial⟩, trivial⟩, trivial⟩ ?_
      refine gv_get hD rfl rfl S_39 ⟨by decide, B_39⟩ (gc_hA S_39 rfl A_39_10) ?_
      show gv_X _ _ (48, [(3, .inl 0), (1, .inr (.inl (J 23 9))), (0, .inr (.inr (some 39)))], [.inr (.inr (some 41))], sh, gc_h sh I275 J276 A)
      refine gv_run 3 true hD (pc' := 53) (lv' := [(5, .inl 0), (4, .inr (.inr (some 41))), (3, .inl 0), (1, .inr (.inl (J 23 9))), (0, .inr (.inr (some 39)))]) (st' := []) (h' := gc_h sh I275 J276 A) (C := (((True ∧ True) ∧ True) ∧ True)) rfl ⟨⟨⟨trivial, trivial⟩, trivial⟩, trivial⟩ ?_
      refine gv_pick [4, 3, 2, 1, 0] rfl ?_
      exact L53 _ I275 J276 (J 23 9) 0 0 (Nat.lt_succ_self _) hI275 FI275 FJ276 KLT_I275 (by omega) (fun k a b => by omega)
    · show gv_X _ _ (40, [(1, .inr (.inl (J 23 9))), (0, .inr (.inr (some 39)))], [], sh, gc_h sh I275 J276 A)
      refine gv_run 1 true hD (pc' := 41) (lv' := [(1, .inr (.inl (J 23 9))), (0, .inr (.inr (some 39)))]) (st' := [.inl 0]) (h' := gc_h sh I275 J276 A) (C := (True ∧ True)) rfl ⟨trivial, trivial⟩ ?_
      exact gv_zret hD rfl (by omega) ⟨I275, J276, rfl, hI275, FI275, FJ276, KLT_I275, ⟨_, rfl, by omega⟩⟩
  · show gv_X _ _ (14, [(0, .inr (.inr (some 39)))], [], sh, gc_h sh I247 J A)
    refine gv_run 1 true hD (pc' := 15) (lv' := [(0, .inr (.inr (some 39)))]) (st' := [.inl 0]) (h' := gc_h sh I247 J A) (C := (True ∧ True)) rfl ⟨trivial, trivial⟩ ?_
    exact gv_zret hD rfl (by omega) ⟨I247, J, rfl, hI247, FI247, FJ, KLT_I247, ⟨_, rfl, by omega⟩⟩
set_option maxHeartbeats 4000000 in
set_option maxRecDepth 100000 in
theorem d_X6_readFact {ws0 : List Cond} {tb : String → gz_T} (hws : gc_Ws ws0) (htb : gc_tbs tb) (sh : gz_Sh) (ro : Nat → Nat) (I : gr_I) (J : gr_J) (A : gc_A) (hI : gc_Inv ro I)  (hb : gc_Base sh ro A)  (x0 : I 23 5 ≤ I 23 6) (x1 : I 23 7 = 5 ∨ I 23 6 ≤ I 23 1) (x2 : I 23 5 ≤ I 23 1) (x3 : I 23 7 = 4 ∨ (I 23 5 < I 23 6 ∧ I 23 5 < I 23 1)) (x4 : I 23 7 = 3 → 2 ≤ I 23 6 - I 23 5 ∧ I 23 6 - I 23 5 ≤ 14) (KLT_I : gc_LT I) : ∃ r h', gz_Ev ws0 tb 5 (yX6_readFact, cX6_readFact, 6, (some .boolean)) [.inr (.inr (some 39))] sh (gc_h sh I J A) r sh h' 0 0 ∧ (∃ (I' : gr_I) (J' : gr_J), h' = gc_h sh I' J' A ∧ gc_Inv ro I' ∧ (∀ q j : Nat, ((q = 39 ∧ j = 3) ∨ (q = 39 ∧ j = 4) ∨ (q = 23 ∧ j = 5) ∨ (q = 23 ∧ j = 6) ∨ (q = 23 ∧ j = 7) ∨ (q = 23 ∧ j = 8) ∨ q = 19 ∨ (q = 1 ∧ j = 13)) ∨ I' q j = I q j) ∧ (∀ q j : Nat, ((q = 23 ∧ j = 9) ∨ q = 18) ∨ J' q j = J q j) ∧ gc_LT I' ∧ (∃ z : Int, r = some (.inl z) ∧ 0 ≤ z ∧ z ≤ 1 ∧ (I' 23 5 ≤ I' 23 6) ∧ (I' 23 7 = 5 ∨ I' 23 6 ≤ I' 23 1) ∧ (I' 23 5 ≤ I' 23 1) ∧ (I' 23 7 = 4 ∨ (I' 23 5 < I' 23 6 ∧ I' 23 5 < I' 23 1)) ∧ (I' 23 7 = 3 → 2 ≤ I' 23 6 - I' 23 5 ∧ I' 23 6 - I' 23 5 ≤ 14) ∧ (I' 23 1 = I 23 1) ∧ (I 23 5 ≤ I' 23 5))) := by
  have FI : ∀ q j : Nat, ((q = 39 ∧ j = 3) ∨ (q = 39 ∧ j = 4) ∨ (q = 23 ∧ j = 5) ∨ (q = 23 ∧ j = 6) ∨ (q = 23 ∧ j = 7) ∨ (q = 23 ∧ j = 8) ∨ q = 19 ∨ (q = 1 ∧ j = 13)) ∨ I q j = I q j := fun _ _ => Or.inr rfl
  have FJ : ∀ q j : Nat, ((q = 23 ∧ j = 9) ∨ q = 18) ∨ J q j = J q j := fun _ _ => Or.inr rfl
  have A_1_14 : A 1 14 = some 18 := gc_bA hb rfl
  have A_1_15 : A 1 15 = some 19 := gc_bA hb rfl
  have A_1_2 : A 1 2 = some 6 := gc_bA hb rfl
  have A_39_0 : A 39 0 = some 1 := gc_bA hb rfl
  have A_39_1 : A 39 1 = some 23 := gc_bA hb rfl
  have B_1 : 1 < 1000000 := by decide
  have B_18 : 18 < 1000000 := by decide
  have B_19 : 19 < 1000000 := by decide
  have B_23 : 23 < 1000000 := by decide
  have B_39 : 39 < 1000000 := by decide
  have B_6 : 6 < 1000000 := by decide
  have R_1 : ro 1 = 22 := gc_bR hb (by decide) rfl
  have R_19 : ro 19 = 29 := gc_bR hb (by decide) rfl
  have R_23 : ro 23 = 3 := gc_bR hb (by decide) rfl
  have R_6 : ro 6 = 6 := gc_bR hb (by decide) rfl
  have S_1 : sh[1]? = some (false, 8, 21) := gc_bS hb rfl
  have S_18 : sh[18]? = some (true, 2, 64) := gc_bS hb rfl
  have S_19 : sh[19]? = some (true, 1, 128) := gc_bS hb rfl
  have S_23 : sh[23]? = some (false, 9, 10) := gc_bS hb rfl
  have S_39 : sh[39]? = some (false, 6, 19) := gc_bS hb rfl
  have S_6 : sh[6]? = some (false, 4, 2) := gc_bS hb rfl
  have hD : gv_D (gc_E6 ws0 tb 4 (yX6_readFact, cX6_readFact, 6, (some .boolean)) kX6_readFact) := gq_ok oX6_readFact
  refine gc_ev6 (d := 4) (l := kX6_readFact) (Po := fun r h' => (∃ (I' : gr_I) (J' : gr_J), h' = gc_h sh I' J' A ∧ gc_Inv ro I' ∧ (∀ q j : Nat, ((q = 39 ∧ j = 3) ∨ (q = 39 ∧ j = 4) ∨ (q = 23 ∧ j = 5) ∨ (q = 23 ∧ j = 6) ∨ (q = 23 ∧ j = 7) ∨ (q = 23 ∧ j = 8) ∨ q = 19 ∨ (q = 1 ∧ j = 13)) ∨ I' q j = I q j) ∧ (∀ q j : Nat, ((q = 23 ∧ j = 9) ∨ q = 18) ∨ J' q j = J q j) ∧ gc_LT I' ∧ (∃ z : Int, r = some (.inl z) ∧ 0 ≤ z ∧ z ≤ 1 ∧ (I' 23 5 ≤ I' 23 6) ∧ (I' 23 7 = 5 ∨ I' 23 6 ≤ I' 23 1) ∧ (I' 23 5 ≤ I' 23 1) ∧ (I' 23 7 = 4 ∨ (I' 23 5 < I' 23 6 ∧ I' 23 5 < I' 23 1)) ∧ (I' 23 7 = 3 → 2 ≤ I' 23 6 - I' 23 5 ∧ I' 23 6 - I' 23 5 ≤ 14) ∧ (I' 23 1 = I 23 1) ∧ (I 23 5 ≤ I' 23 5)))) htb rfl (Nat.le_of_ble_eq_true rfl) ?_
  have f1 := (show 0 ≤ I 23 1 ∧ I 23 1 ≤ 1000 from gc_in hI R_23 rfl rfl)
  have f2 := (show 0 ≤ I 23 5 ∧ I 23 5 ≤ 1000 from gc_in hI R_23 rfl rfl)
  have f3 := (show 0 ≤ I 23 6 ∧ I 23 6 ≤ 1001 from gc_in hI R_23 rfl rfl)
  have f4 := (show 0 ≤ I 23 7 ∧ I 23 7 ≤ 125 from gc_in hI R_23 rfl rfl)
  have f5 := (show 0 ≤ I 1 13 ∧ I 1 13 ≤ 64 from gc_in hI R_1 rfl rfl)
  have f6 := (show 0 ≤ I 6 1 ∧ I 6 1 ≤ 8 from gc_in hI R_6 rfl rfl)
  have L122 : ∀ (I7 : gr_I) (J8 : gr_J) (v1_9 : Int64) (v3_9 : Int) (v4_9 : Int), gc_Inv ro I7 → (∀ q j : Nat, ((q = 39 ∧ j = 3) ∨ (q = 39 ∧ j = 4) ∨ (q = 23 ∧ j = 5) ∨ (q = 23 ∧ j = 6) ∨ (q = 23 ∧ j = 7) ∨ (q = 23 ∧ j = 8) ∨ q = 19 ∨ (q = 1 ∧ j = 13)) ∨ I7 q j = I q j) → (∀ q j : Nat, ((q = 23 ∧ j = 9) ∨ q = 18) ∨ J8 q j = J q j) → gc_LT I7 → ((0 ≤ v3_9 ∧ v3_9 ≤ 7) ∧ ((-1) ≤ v4_9 ∧ v4_9 ≤ 7) ∧ (I7 23 5 ≤ I7 23 6) ∧ (I7 23 7 = 5 ∨ I7 23 6 ≤ I7 23 1) ∧ (I7 23 5 ≤ I7 23 1) ∧ (I7 23 7 = 4 ∨ (I7 23 5 < I7 23 6 ∧ I7 23 5 < I7 23 1)) ∧ (I7 23 7 = 3 → 2 ≤ I7 23 6 - I7 23 5 ∧ I7 23 6 - I7 23 5 ≤ 14) ∧ (I7 23 1 = I 23 1) ∧ (I 23 5 ≤ I7 23 5)) → gv_X (gc_E6 ws0 tb 4 (yX6_readFact, cX6_readFact, 6, (some .boolean)) kX6_readFact) (gv_Q cX6_readFact (some .boolean) sh (fun r h' => (∃ (I' : gr_I) (J' : gr_J), h' = gc_h sh I' J' A ∧ gc_Inv ro I' ∧ (∀ q j : Nat, ((q = 39 ∧ j = 3) ∨ (q = 39 ∧ j = 4) ∨ (q = 23 ∧ j = 5) ∨ (q = 23 ∧ j = 6) ∨ (q = 23 ∧ j = 7) ∨ (q = 23 ∧ j = 8) ∨ q = 19 ∨ (q = 1 ∧ j = 13)) ∨ I' q j = I q j) ∧ (∀ q j : Nat, ((q = 23 ∧ j = 9) ∨ q = 18) ∨ J' q j = J q j) ∧ gc_LT I' ∧ (∃ z : Int, r = some (.inl z) ∧ 0 ≤ z ∧ z ≤ 1 ∧ (I' 23 5 ≤ I' 23 6) ∧ (I' 23 7 = 5 ∨ I' 23 6 ≤ I' 23 1) ∧ (I' 23 5 ≤ I' 23 1) ∧ (I' 23 7 = 4 ∨ (I' 23 5 < I' 23 6 ∧ I' 23 5 < I' 23 1)) ∧ (I' 23 7 = 3 → 2 ≤ I' 23 6 - I' 23 5 ∧ I' 23 6 - I' 23 5 ≤ 14) ∧ (I' 23 1 = I 23 1) ∧ (I 23 5 ≤ I' 23 5))))) (122, [(0, .inr (.inr (some 39))), (1, .inr (.inl v1_9)), (3, .inl v3_9), (4, .inl v4_9)], [], sh, gc_h sh I7 J8 A) := by
    intro I7 J8 v1_9 v3_9 v4_9 hI7 FI7 FJ8 KLT_I7 m_9
    clear x0 x1 x2 x3 x4
    obtain ⟨hv3_9, hv4_9, e0_9, e1_9, e2_9, e3_9, e4_9, e5_9, e6_9⟩ := m_9
    have f10 := (show 0 ≤ I7 23 1 ∧ I7 23 1 ≤ 1000 from gc_in hI7 R_23 rfl rfl)
    have f11 := (show 0 ≤ I7 23 5 ∧ I7 23 5 ≤ 1000 from gc_in hI7 R_23 rfl rfl)
    have f12 := (show 0 ≤ I7 23 6 ∧ I7 23 6 ≤ 1001 from gc_in hI7 R_23 rfl rfl)
    have f13 := (show 0 ≤ I7 23 7 ∧ I7 23 7 ≤ 125 from gc_in hI7 R_23 rfl rfl)
    have f14 := (show 0 ≤ I7 1 13 ∧ I7 1 13 ≤ 64 from gc_in hI7 R_1 rfl rfl)
    have f15 := (show 0 ≤ I7 6 1 ∧ I7 6 1 ≤ 8 from gc_in hI7 R_6 rfl rfl)
    have L141 : ∀ (s0_16 : Int), ((0 ≤ v3_9 ∧ v3_9 ≤ 7) ∧ ((-1) ≤ v4_9 ∧ v4_9 ≤ 7) ∧ (0 ≤ s0_16 ∧ s0_16 ≤ 1) ∧ (I7 23 5 ≤ I7 23 6) ∧ (I7 23 7 = 5 ∨ I7 23 6 ≤ I7 23 1) ∧ (I7 23 5 ≤ I7 23 1) ∧ (I7 23 7 = 4 ∨ (I7 23 5 < I7 23 6 ∧ I7 23 5 < I7 23 1)) ∧ (I7 23 7 = 3 → 2 ≤ I7 23 6 - I7 23 5 ∧ I7 23 6 - I7 23 5 ≤ 14) ∧ (I7 23 1 = I 23 1) ∧ (I 23 5 ≤ I7 23 5)) → gv_X (gc_E6 ws0 tb 4 (yX6_readFact, cX6_readFact, 6, (some .boolean)) kX6_readFact) (gv_Q cX6_readFact (some .boolean) sh (fun r h' => (∃ (I' : gr_I) (J' : gr_J), h' = gc_h sh I' J' A ∧ gc_Inv ro I' ∧ (∀ q j : Nat, ((q = 39 ∧ j = 3) ∨ (q = 39 ∧ j = 4) ∨ (q = 23 ∧ j = 5) ∨ (q = 23 ∧ j = 6) ∨ (q = 23 ∧ j = 7) ∨ (q = 23 ∧ j = 8) ∨ q = 19 ∨ (q = 1 ∧ j = 13)) ∨ I' q j = I q j) ∧ (∀ q j : Nat, ((q = 23 ∧ j = 9) ∨ q = 18) ∨ J' q j = J q j) ∧ gc_LT I' ∧ (∃ z : Int, r = some (.inl z) ∧ 0 ≤ z ∧ z ≤ 1 ∧ (I' 23 5 ≤ I' 23 6) ∧ (I' 23 7 = 5 ∨ I' 23 6 ≤ I' 23 1) ∧ (I' 23 5 ≤ I' 23 1) ∧ (I' 23 7 = 4 ∨ (I' 23 5 < I' 23 6 ∧ I' 23 5 < I' 23 1)) ∧ (I' 23 7 = 3 → 2 ≤ I' 23 6 - I' 23 5 ∧ I' 23 6 - I' 23 5 ≤ 14) ∧ (I' 23 1 = I 23 1) ∧ (I 23 5 ≤ I' 23 5))))) (141, [(0, .inr (.inr (some 39))), (1, .inr (.inl v1_9)), (3, .inl v3_9), (4, .inl v4_9)], [.inl s0_16], sh, gc_h sh I7 J8 A) := by
      intro s0_16 m_16
      obtain ⟨hv3_9_16, hv4_9_16, hs0_16, e0_16, e1_16, e2_16, e3_16, e4_16, e5_16, e6_16⟩ := m_16
      have f17 := (show 0 ≤ I7 23 1 ∧ I7 23 1 ≤ 1000 from gc_in hI7 R_23 rfl rfl)
      have f18 := (show 0 ≤ I7 23 5 ∧ I7 23 5 ≤ 1000 from gc_in hI7 R_23 rfl rfl)
      have f19 := (show 0 ≤ I7 23 6 ∧ I7 23 6 ≤ 1001 from gc_in hI7 R_23 rfl rfl)
      have f20 := (show 0 ≤ I7 23 7 ∧ I7 23 7 ≤ 125 from gc_in hI7 R_23 rfl rfl)
      have f21 := (show 0 ≤ I7 1 13 ∧ I7 1 13 ≤ 64 from gc_in hI7 R_1 rfl rfl)
      have f22 := (show 0 ≤ I7 6 1 ∧ I7 6 1 ≤ 8 from gc_in hI7 R_6 rfl rfl)
      have L166 : ∀ (v5_23 : Int) (s1_23 : Int), ((0 ≤ v3_9 ∧ v3_9 ≤ 7) ∧ ((-1) ≤ v4_9 ∧ v4_9 ≤ 7) ∧ (0 ≤ v5_23 ∧ v5_23 ≤ 1) ∧ (0 ≤ s1_23 ∧ s1_23 ≤ 1) ∧ (s1_23 = 1 ∨ v5_23 = 0 ∨ I7 1 13 < 64) ∧ (I7 23 5 ≤ I7 23 6) ∧ (I7 23 7 = 5 ∨ I7 23 6 ≤ I7 23 1) ∧ (I7 23 5 ≤ I7 23 1) ∧ (I7 23 7 = 4 ∨ (I7 23 5 < I7 23 6 ∧ I7 23 5 < I7 23 1)) ∧ (I7 23 7 = 3 → 2 ≤ I7 23 6 - I7 23 5 ∧ I7 23 6 - I7 23 5 ≤ 14) ∧ (I7 23 1 = I 23 1) ∧ (I 23 5 ≤ I7 23 5)) → gv_X (gc_E6 ws0 tb 4 (yX6_readFact, cX6_readFact, 6, (some .boolean)) kX6_readFact) (gv_Q cX6_readFact (some .boolean) sh (fun r h' => (∃ (I' : gr_I) (J' : gr_J), h' = gc_h sh I' J' A ∧ gc_Inv ro I' ∧ (∀ q j : Nat, ((q = 39 ∧ j = 3) ∨ (q = 39 ∧ j = 4) ∨ (q = 23 ∧ j = 5) ∨ (q = 23 ∧ j = 6) ∨ (q = 23 ∧ j = 7) ∨ (q = 23 ∧ j = 8) ∨ q = 19 ∨ (q = 1 ∧ j = 13)) ∨ I' q j = I q j) ∧ (∀ q j : Nat, ((q = 23 ∧ j = 9) ∨ q = 18) ∨ J' q j = J q j) ∧ gc_LT I' ∧ (∃ z : Int, r = some (.inl z) ∧ 0 ≤ z ∧ z ≤ 1 ∧ (I' 23 5 ≤ I' 23 6) ∧ (I' 23 7 = 5 ∨ I' 23 6 ≤ I' 23 1) ∧ (I' 23 5 ≤ I' 23 1) ∧ (I' 23 7 = 4 ∨ (I' 23 5 < I' 23 6 ∧ I' 23 5 < I' 23 1)) ∧ (I' 23 7 = 3 → 2 ≤ I' 23 6 - I' 23 5 ∧ I' 23 6 - I' 23 5 ≤ 14) ∧ (I' 23 1 = I 23 1) ∧ (I 23 5 ≤ I' 23 5))))) (166, [(0, .inr (.inr (some 39))), (1, .inr (.inl v1_9)), (3, .inl v3_9), (4, .inl v4_9), (5, .inl v5_23)], [.inl s1_23, .inr (.inr (some 39))], sh, gc_h sh I7 J8 A) := by
        intro v5_23 s1_23 m_23
        obtain ⟨hv3_9_23, hv4_9_23, hv5_23, hs1_23, e0_23, e1_23, e2_23, e3_23, e4_23, e5_23, e6_23, e7_23⟩ := m_23
        have f24 := (show 0 ≤ I7 23 1 ∧ I7 23 1 ≤ 1000 from gc_in hI7 R_23 rfl rfl)
        have f25 := (show 0 ≤ I7 23 5 ∧ I7 23 5 ≤ 1000 from gc_in hI7 R_23 rfl rfl)
        have f26 := (show 0 ≤ I7 23 6 ∧ I7 23 6 ≤ 1001 from gc_in hI7 R_23 rfl rfl)
        have f27 := (show 0 ≤ I7 23 7 ∧ I7 23 7 ≤ 125 from gc_in hI7 R_23 rfl rfl)
        have f28 := (show 0 ≤ I7 1 13 ∧ I7 1 13 ≤ 64 from gc_in hI7 R_1 rfl rfl)
        have f29 := (show 0 ≤ I7 6 1 ∧ I7 6 1 ≤ 8 from gc_in hI7 R_6 rfl rfl)
        have L247 : ∀ (I30 : gr_I) (J31 : gr_J) , gc_Inv ro I30 → (∀ q j : Nat, ((q = 39 ∧ j = 3) ∨ (q = 39 ∧ j = 4) ∨ (q = 23 ∧ j = 5) ∨ (q = 23 ∧ j = 6) ∨ (q = 23 ∧ j = 7) ∨ (q = 23 ∧ j = 8) ∨ q = 19 ∨ (q = 1 ∧ j = 13)) ∨ I30 q j = I q j) → (∀ q j : Nat, ((q = 23 ∧ j = 9) ∨ q = 18) ∨ J31 q j = J q j) → gc_LT I30 → ((I30 23 5 ≤ I30 23 6) ∧ (I30 23 7 = 5 ∨ I30 23 6 ≤ I30 23 1) ∧ (I30 23 5 ≤ I30 23 1) ∧ (I30 23 7 = 4 ∨ (I30 23 5 < I30 23 6 ∧ I30 23 5 < I30 23 1)) ∧ (I30 23 7 = 3 → 2 ≤ I30 23 6 - I30 23 5 ∧ I30 23 6 - I30 23 5 ≤ 14) ∧ (I30 23 1 = I 23 1) ∧ (I 23 5 ≤ I30 23 5)) → gv_X (gc_E6 ws0 tb 4 (yX6_readFact, cX6_readFact, 6, (some .boolean)) kX6_readFact) (gv_Q cX6_readFact (some .boolean) sh (fun r h' => (∃ (I' : gr_I) (J' : gr_J), h' = gc_h sh I' J' A ∧ gc_Inv ro I' ∧ (∀ q j : Nat, ((q = 39 ∧ j = 3) ∨ (q = 39 ∧ j = 4) ∨ (q = 23 ∧ j = 5) ∨ (q = 23 ∧ j = 6) ∨ (q = 23 ∧ j = 7) ∨ (q = 23 ∧ j = 8) ∨ q = 19 ∨ (q = 1 ∧ j = 13)) ∨ I' q j = I q j) ∧ (∀ q j : Nat, ((q = 23 ∧ j = 9) ∨ q = 18) ∨ J' q j = J q j) ∧ gc_LT I' ∧ (∃ z : Int, r = some (.inl z) ∧ 0 ≤ z ∧ z ≤ 1 ∧ (I' 23 5 ≤ I' 23 6) ∧ (I' 23 7 = 5 ∨ I' 23 6 ≤ I' 23 1) ∧ (I' 23 5 ≤ I' 23 1) ∧ (I' 23 7 = 4 ∨ (I' 23 5 < I' 23 6 ∧ I' 23 5 < I' 23 1)) ∧ (I' 23 7 = 3 → 2 ≤ I' 23 6 - I' 23 5 ∧ I' 23 6 - I' 23 5 ≤ 14) ∧ (I' 23 1 = I 23 1) ∧ (I 23 5 ≤ I' 23 5))))) (247, [], [], sh, gc_h sh I30 J31 A) := by
          intro I30 J31 hI30 FI30 FJ31 KLT_I30 m_32
          clear hv3_9_23 hv4_9_23 hv5_23 hs1_23 e0_23 e1_23 e2_23 e3_23 e4_23 e5_23 e6_23 e7_23 f24 f25 f26 f27 f28 f29 hv3_9_16 hv4_9_16 hs0_16 e0_16 e1_16 e2_16 e3_16 e4_16 e5_16 e6_16 f17 f18 f19 f20 f21 f22 hv3_9 hv4_9 e0_9 e1_9 e2_9 e3_9 e4_9 e5_9 e6_9 f10 f11 f12 f13 f14 f15
          obtain ⟨e0_32, e1_32, e2_32, e3_32, e4_32, e5_32, e6_32⟩ := m_32
          have f33 := (show 0 ≤ I30 23 1 ∧ I30 23 1 ≤ 1000 from gc_in hI30 R_23 rfl rfl)
          have f34 := (show 0 ≤ I30 23 5 ∧ I30 23 5 ≤ 1000 from gc_in hI30 R_23 rfl rfl)
          have f35 := (show 0 ≤ I30 23 6 ∧ I30 23 6 ≤ 1001 from gc_in hI30 R_23 rfl rfl)
          have f36 := (show 0 ≤ I30 23 7 ∧ I30 23 7 ≤ 125 from gc_in hI30 R_23 rfl rfl)
          have f37 := (show 0 ≤ I30 1 13 ∧ I30 1 13 ≤ 64 from gc_in hI30 R_1 rfl rfl)
          have f38 := (show 0 ≤ I30 6 1 ∧ I30 6 1 ≤ 8 from gc_in hI30 R_6 rfl rfl)
          refine gv_run 1 true hD (pc' := 248) (lv' := []) (st' := [.inl 1]) (h' := gc_h sh I30 J31 A) (C := (True ∧ True)) rfl ⟨trivial, trivial⟩ ?_
          exact gv_zret hD rfl (by omega) ⟨I30, J31, rfl, hI30, FI30, FJ31, KLT_I30, ⟨_, rfl, by omega⟩⟩
        obtain ⟨r39, h39, E39, P39⟩ := d_X6_closes (ws0 := ws0) (tb := tb) hws htb sh ro I7 J8 A hI7  s1_23 hb   ⟨by omega, by omega⟩ (by omega) (by omega) (by omega) (by omega) (by omega) KLT_I7
        obtain ⟨I40, J41, rfl, hI40, g39, k39, KLT_I40, ⟨z39, rfl, q39⟩⟩ := P39
        have FI40 := gc_frc (W := fun q j => (q = 39 ∧ j = 3) ∨ (q = 39 ∧ j = 4) ∨ (q = 23 ∧ j = 5) ∨ (q = 23 ∧ j = 6) ∨ (q = 23 ∧ j = 7) ∨ (q = 23 ∧ j = 8) ∨ q = 19 ∨ (q = 1 ∧ j = 13)) (V := fun q j => (q = 39 ∧ j = 3) ∨ (q = 39 ∧ j = 4) ∨ (q = 23 ∧ j = 5) ∨ (q = 23 ∧ j = 6) ∨ (q = 23 ∧ j = 7) ∨ (q = 23 ∧ j = 8)) FI7 (fun q j h => (h.elim (fun h => (Or.inl h)) (fun h => (h.elim (fun h => (Or.inr (Or.inl h))) (fun h => (h.elim (fun h => (Or.inr (Or.inr (Or.inl h)))) (fun h => (h.elim (fun h => (Or.inr (Or.inr (Or.inr (Or.inl h))))) (fun h => (h.elim (fun h => (Or.inr (Or.inr (Or.inr (Or.inr (Or.inl h)))))) (fun h => (Or.inr (Or.inr (Or.inr (Or.inr (Or.inr (Or.inl h))))))))))))))))) g39
        have FJ41 := gc_frc (W := fun q j => (q = 23 ∧ j = 9) ∨ q = 18) (V := fun q j => (q = 23 ∧ j = 9)) FJ8 (fun q j h => (Or.inl h)) k39
        have t42 := (g39 23 1).resolve_left (by omega)
        have t43 := (g39 1 13).resolve_left (by omega)
        have t44 := (g39 6 1).resolve_left (by omega)
        have f45 := (show 0 ≤ I40 23 1 ∧ I40 23 1 ≤ 1000 from gc_in hI40 R_23 rfl rfl)
        have f46 := (show 0 ≤ I40 23 5 ∧ I40 23 5 ≤ 1000 from gc_in hI40 R_23 rfl rfl)
        have f47 := (show 0 ≤ I40 23 6 ∧ I40 23 6 ≤ 1001 from gc_in hI40 R_23 rfl rfl)
        have f48 := (show 0 ≤ I40 23 7 ∧ I40 23 7 ≤ 125 from gc_in hI40 R_23 rfl rfl)
        have f49 := (show 0 ≤ I40 1 13 ∧ I40 1 13 ≤ 64 from gc_in hI40 R_1 rfl rfl)
        have f50 := (show 0 ≤ I40 6 1 ∧ I40 6 1 ≤ 8 from gc_in hI40 R_6 rfl rfl)
        refine gv_callV hD rfl (As := [.inl s1_23]) (st := []) rfl B_39 S_39 rfl (gc_lV6 hws rfl) (Nat.le_of_ble_eq_true rfl) (gz_Ev_mono (d := 4) (by decide) E39) ?_
        show gv_X _ _ (169, [(0, .inr (.inr (some 39))), (1, .inr (.inl v1_9)), (3, .inl v3_9), (4, .inl v4_9), (5, .inl v5_23)], [.inl z39], sh, gc_h sh I40 J41 A)
        refine gv_if_ne (t := 174) hD rfl rfl ⟨by omega, by omega⟩ (fun c51 => ?_) (fun c51 => ?_)
        · show gv_X _ _ (174, [(0, .inr (.inr (some 39))), (1, .inr (.inl v1_9)), (3, .inl v3_9), (4, .inl v4_9), (5, .inl v5_23)], [], sh, gc_h sh I40 J41 A)
          refine gv_run 1 true hD (pc' := 176) (lv' := [(0, .inr (.inr (some 39))), (1, .inr (.inl v1_9)), (3, .inl v3_9), (4, .inl v4_9), (5, .inl v5_23)]) (st' := [.inl v5_23]) (h' := gc_h sh I40 J41 A) (C := (True ∧ True)) rfl ⟨trivial, trivial⟩ ?_
          refine gv_if_eq (t := 247) hD rfl rfl ⟨by omega, by omega⟩ (fun c52 => ?_) (fun c52 => ?_)
          · show gv_X _ _ (247, [(0, .inr (.inr (some 39))), (1, .inr (.inl v1_9)), (3, .inl v3_9), (4, .inl v4_9), (5, .inl v5_23)], [], sh, gc_h sh I40 J41 A)
            refine gv_pick [] rfl ?_
            exact L247 I40 J41 hI40 FI40 FJ41 KLT_I40 (by omega)
          · show gv_X _ _ (179, [(0, .inr (.inr (some 39))), (1, .inr (.inl v1_9)), (3, .inl v3_9), (4, .inl v4_9), (5, .inl v5_23)], [], sh, gc_h sh I40 J41 A)
            refine gv_run 1 true hD (pc' := 180) (lv' := [(0, .inr (.inr (some 39))), (1, .inr (.inl v1_9)), (3, .inl v3_9), (4, .inl v4_9), (5, .inl v5_23)]) (st' := [.inr (.inr (some 39))]) (h' := gc_h sh I40 J41 A) (C := (True ∧ True)) rfl ⟨trivial, trivial⟩ ?_
            refine gv_get hD rfl rfl S_39 ⟨by decide, B_39⟩ (gc_hA S_39 rfl A_39_0) ?_
            show gv_X _ _ (183, [(0, .inr (.inr (some 39))), (1, .inr (.inl v1_9)), (3, .inl v3_9), (4, .inl v4_9), (5, .inl v5_23)], [.inr (.inr (some 1))], sh, gc_h sh I40 J41 A)
            refine gv_get hD rfl rfl S_1 ⟨by decide, B_1⟩ (gc_hA S_1 rfl A_1_14) ?_
            show gv_X _ _ (186, [(0, .inr (.inr (some 39))), (1, .inr (.inl v1_9)), (3, .inl v3_9), (4, .inl v4_9), (5, .inl v5_23)], [.inr (.inr (some 18))], sh, gc_h sh I40 J41 A)
            refine gv_run 1 true hD (pc' := 187) (lv' := [(0, .inr (.inr (some 39))), (1, .inr (.inl v1_9)), (3, .inl v3_9), (4, .inl v4_9), (5, .inl v5_23)]) (st' := [.inr (.inr (some 39)), .inr (.inr (some 18))]) (h' := gc_h sh I40 J41 A) (C := (True ∧ True)) rfl ⟨trivial, trivial⟩ ?_
            refine gv_get hD rfl rfl S_39 ⟨by decide, B_39⟩ (gc_hA S_39 rfl A_39_0) ?_
            show gv_X _ _ (190, [(0, .inr (.inr (some 39))), (1, .inr (.inl v1_9)), (3, .inl v3_9), (4, .inl v4_9), (5, .inl v5_23)], [.inr (.inr (some 1)), .inr (.inr (some 18))], sh, gc_h sh I40 J41 A)
            have f53 := (show 0 ≤ I40 1 13 ∧ I40 1 13 ≤ 64 from gc_in hI40 R_1 rfl rfl)
            refine gv_get hD rfl rfl S_1 ⟨by decide, B_1⟩ (gc_hI S_1 rfl) ?_
            show gv_X _ _ (193, [(0, .inr (.inr (some 39))), (1, .inr (.inl v1_9)), (3, .inl v3_9), (4, .inl v4_9), (5, .inl v5_23)], [.inl (I40 1 13), .inr (.inr (some 18))], sh, gc_h sh I40 J41 A)
            refine gv_run 1 true hD (pc' := 194) (lv' := [(0, .inr (.inr (some 39))), (1, .inr (.inl v1_9)), (3, .inl v3_9), (4, .inl v4_9), (5, .inl v5_23)]) (st' := [.inr (.inl v1_9), .inl (I40 1 13), .inr (.inr (some 18))]) (h' := gc_h sh I40 J41 A) (C := (True ∧ True)) rfl ⟨trivial, trivial⟩ ?_
            refine gv_last hD rfl S_18 ⟨by decide, B_18⟩ ⟨by omega, by omega⟩ ?_
            refine gc_stJ S_18 rfl (fun J54 q55 p55 => ?_)
            have FJ54 := gc_frs (W := fun q j => (q = 23 ∧ j = 9) ∨ q = 18) FJ41 (Or.inr rfl) p55
            show gv_X _ _ (195, [(0, .inr (.inr (some 39))), (1, .inr (.inl v1_9)), (3, .inl v3_9), (4, .inl v4_9), (5, .inl v5_23)], [], sh, gc_h sh I40 J54 A)
            refine gv_run 1 true hD (pc' := 196) (lv' := [(0, .inr (.inr (some 39))), (1, .inr (.inl v1_9)), (3, .inl v3_9), (4, .inl v4_9), (5, .inl v5_23)]) (st' := [.inr (.inr (some 39))]) (h' := gc_h sh I40 J54 A) (C := (True ∧ True)) rfl ⟨trivial, trivial⟩ ?_
            refine gv_get hD rfl rfl S_39 ⟨by decide, B_39⟩ (gc_hA S_39 rfl A_39_0) ?_
            show gv_X _ _ (199, [(0, .inr (.inr (some 39))), (1, .inr (.inl v1_9)), (3, .inl v3_9), (4, .inl v4_9), (5, .inl v5_23)], [.inr (.inr (some 1))], sh, gc_h sh I40 J54 A)
            refine gv_get hD rfl rfl S_1 ⟨by decide, B_1⟩ (gc_hA S_1 rfl A_1_15) ?_
            show gv_X _ _ (202, [(0, .inr (.inr (some 39))), (1, .inr (.inl v1_9)), (3, .inl v3_9), (4, .inl v4_9), (5, .inl v5_23)], [.inr (.inr (some 19))], sh, gc_h sh I40 J54 A)
            refine gv_run 2 true hD (pc' := 204) (lv' := [(0, .inr (.inr (some 39))), (1, .inr (.inl v1_9)), (3, .inl v3_9), (4, .inl v4_9), (5, .inl v5_23)]) (st' := [.inr (.inr (some 39)), .inl 2, .inr (.inr (some 19))]) (h' := gc_h sh I40 J54 A) (C := ((True ∧ True) ∧ True)) rfl ⟨⟨trivial, trivial⟩, trivial⟩ ?_
            refine gv_get hD rfl rfl S_39 ⟨by decide, B_39⟩ (gc_hA S_39 rfl A_39_0) ?_
            show gv_X _ _ (207, [(0, .inr (.inr (some 39))), (1, .inr (.inl v1_9)), (3, .inl v3_9), (4, .inl v4_9), (5, .inl v5_23)], [.inr (.inr (some 1)), .inl 2, .inr (.inr (some 19))], sh, gc_h sh I40 J54 A)
            have f56 := (show 0 ≤ I40 1 13 ∧ I40 1 13 ≤ 64 from gc_in hI40 R_1 rfl rfl)
            refine gv_get hD rfl rfl S_1 ⟨by decide, B_1⟩ (gc_hI S_1 rfl) ?_
            show gv_X _ _ (210, [(0, .inr (.inr (some 39))), (1, .inr (.inl v1_9)), (3, .inl v3_9), (4, .inl v4_9), (5, .inl v5_23)], [.inl (I40 1 13), .inl 2, .inr (.inr (some 19))], sh, gc_h sh I40 J54 A)
            refine gv_run 2 true hD (pc' := 212) (lv' := [(0, .inr (.inr (some 39))), (1, .inr (.inl v1_9)), (3, .inl v3_9), (4, .inl v4_9), (5, .inl v5_23)]) (st' := [.inl v3_9, .inl (2 * (I40 1 13)), .inr (.inr (some 19))]) (h' := gc_h sh I40 J54 A) (C := ((True ∧ True) ∧ True)) rfl ⟨⟨trivial, trivial⟩, trivial⟩ ?_
            refine gv_iast hD rfl S_19 ⟨by decide, B_19⟩ ⟨by omega, by omega⟩ ?_
            refine gc_st hI40 S_19 rfl R_19 (lo := (-1)) (hi := 7) rfl rfl (by omega) (by omega) (fun I57 hI57 q58 p58 => ?_)
            have FI57 := gc_frs (W := fun q j => (q = 39 ∧ j = 3) ∨ (q = 39 ∧ j = 4) ∨ (q = 23 ∧ j = 5) ∨ (q = 23 ∧ j = 6) ∨ (q = 23 ∧ j = 7) ∨ (q = 23 ∧ j = 8) ∨ q = 19 ∨ (q = 1 ∧ j = 13)) FI40 (Or.inr (Or.inr (Or.inr (Or.inr (Or.inr (Or.inr (Or.inl rfl))))))) p58
            have t59 := p58 23 1 (fun h => absurd h.1 (by omega))
            have t60 := p58 23 5 (fun h => absurd h.1 (by omega))
            have t61 := p58 23 6 (fun h => absurd h.1 (by omega))
            have t62 := p58 23 7 (fun h => absurd h.1 (by omega))
            have t63 := p58 1 13 (fun h => absurd h.1 (by omega))
            have t64 := p58 6 1 (fun h => absurd h.1 (by omega))
            have f65 := (show 0 ≤ I57 23 1 ∧ I57 23 1 ≤ 1000 from gc_in hI57 R_23 rfl rfl)
            have f66 := (show 0 ≤ I57 23 5 ∧ I57 23 5 ≤ 1000 from gc_in hI57 R_23 rfl rfl)
            have f67 := (show 0 ≤ I57 23 6 ∧ I57 23 6 ≤ 1001 from gc_in hI57 R_23 rfl rfl)
            have f68 := (show 0 ≤ I57 23 7 ∧ I57 23 7 ≤ 125 from gc_in hI57 R_23 rfl rfl)
            have f69 := (show 0 ≤ I57 1 13 ∧ I57 1 13 ≤ 64 from gc_in hI57 R_1 rfl rfl)
            have f70 := (show 0 ≤ I57 6 1 ∧ I57 6 1 ≤ 8 from gc_in hI57 R_6 rfl rfl)
            have KLT_I57 := gc_LT_fr KLT_I40 (p58 23 5 (fun h => absurd h.1 (by omega))) (p58 23 6 (fun h => absurd h.1 (by omega))) (p58 23 7 (fun h => absurd h.1 (by omega))) (fun k => p58 24 k (fun h => absurd h.1 (by omega)))
            show gv_X _ _ (213, [(0, .inr (.inr (some 39))), (1, .inr (.inl v1_9)), (3, .inl v3_9), (4, .inl v4_9), (5, .inl v5_23)], [], sh, gc_h sh I57 J54 A)
            refine gv_run 1 true hD (pc' := 214) (lv' := [(0, .inr (.inr (some 39))), (1, .inr (.inl v1_9)), (3, .inl v3_9), (4, .inl v4_9), (5, .inl v5_23)]) (st' := [.inr (.inr (some 39))]) (h' := gc_h sh I57 J54 A) (C := (True ∧ True)) rfl ⟨trivial, trivial⟩ ?_
            refine gv_get hD rfl rfl S_39 ⟨by decide, B_39⟩ (gc_hA S_39 rfl A_39_0) ?_
            show gv_X _ _ (217, [(0, .inr (.inr (some 39))), (1, .inr (.inl v1_9)), (3, .inl v3_9), (4, .inl v4_9), (5, .inl v5_23)], [.inr (.inr (some 1))], sh, gc_h sh I57 J54 A)
            refine gv_get hD rfl rfl S_1 ⟨by decide, B_1⟩ (gc_hA S_1 rfl A_1_15) ?_
            show gv_X _ _ (220, [(0, .inr (.inr (some 39))), (1, .inr (.inl v1_9)), (3, .inl v3_9), (4, .inl v4_9), (5, .inl v5_23)], [.inr (.inr (some 19))], sh, gc_h sh I57 J54 A)
            refine gv_run 2 true hD (pc' := 222) (lv' := [(0, .inr (.inr (some 39))), (1, .inr (.inl v1_9)), (3, .inl v3_9), (4, .inl v4_9), (5, .inl v5_23)]) (st' := [.inr (.inr (some 39)), .inl 2, .inr (.inr (some 19))]) (h' := gc_h sh I57 J54 A) (C := ((True ∧ True) ∧ True)) rfl ⟨⟨trivial, trivial⟩, trivial⟩ ?_
            refine gv_get hD rfl rfl S_39 ⟨by decide, B_39⟩ (gc_hA S_39 rfl A_39_0) ?_
            show gv_X _ _ (225, [(0, .inr (.inr (some 39))), (1, .inr (.inl v1_9)), (3, .inl v3_9), (4, .inl v4_9), (5, .inl v5_23)], [.inr (.inr (some 1)), .inl 2, .inr (.inr (some 19))], sh, gc_h sh I57 J54 A)
            have f71 := (show 0 ≤ I57 1 13 ∧ I57 1 13 ≤ 64 from gc_in hI57 R_1 rfl rfl)
            refine gv_get hD rfl rfl S_1 ⟨by decide, B_1⟩ (gc_hI S_1 rfl) ?_
            show gv_X _ _ (228, [(0, .inr (.inr (some 39))), (1, .inr (.inl v1_9)), (3, .inl v3_9), (4, .inl v4_9), (5, .inl v5_23)], [.inl (I57 1 13), .inl 2, .inr (.inr (some 19))], sh, gc_h sh I57 J54 A)
            refine gv_run 4 true hD (pc' := 233) (lv' := [(0, .inr (.inr (some 39))), (1, .inr (.inl v1_9)), (3, .inl v3_9), (4, .inl v4_9), (5, .inl v5_23)]) (st' := [.inl v4_9, .inl ((2 * (I57 1 13)) + 1), .inr (.inr (some 19))]) (h' := gc_h sh I57 J54 A) (C := ((((True ∧ True) ∧ True) ∧ True) ∧ True)) rfl ⟨⟨⟨⟨trivial, trivial⟩, trivial⟩, trivial⟩, trivial⟩ ?_
            refine gv_iast hD rfl S_19 ⟨by decide, B_19⟩ ⟨by omega, by omega⟩ ?_
            refine gc_st hI57 S_19 rfl R_19 (lo := (-1)) (hi := 7) rfl rfl (by omega) (by omega) (fun I72 hI72 q73 p73 => ?_)
            have FI72 := gc_frs (W := fun q j => (q = 39 ∧ j = 3) ∨ (q = 39 ∧ j = 4) ∨ (q = 23 ∧ j = 5) ∨ (q = 23 ∧ j = 6) ∨ (q = 23 ∧ j = 7) ∨ (q = 23 ∧ j = 8) ∨ q = 19 ∨ (q = 1 ∧ j = 13)) FI57 (Or.inr (Or.inr (Or.inr (Or.inr (Or.inr (Or.inr (Or.inl rfl))))))) p73
            have t74 := p73 23 1 (fun h => absurd h.1 (by omega))
            have t75 := p73 23 5 (fun h => absurd h.1 (by omega))
            have t76 := p73 23 6 (fun h => absurd h.1 (by omega))
            have t77 := p73 23 7 (fun h => absurd h.1 (by omega))
            have t78 := p73 1 13 (fun h => absurd h.1 (by omega))
            have t79 := p73 6 1 (fun h => absurd h.1 (by omega))
            have f80 := (show 0 ≤ I72 23 1 ∧ I72 23 1 ≤ 1000 from gc_in hI72 R_23 rfl rfl)
            have f81 := (show 0 ≤ I72 23 5 ∧ I72 23 5 ≤ 1000 from gc_in hI72 R_23 rfl rfl)
            have f82 := (show 0 ≤ I72 23 6 ∧ I72 23 6 ≤ 1001 from gc_in hI72 R_23 rfl rfl)
            have f83 := (show 0 ≤ I72 23 7 ∧ I72 23 7 ≤ 125 from gc_in hI72 R_23 rfl rfl)
            have f84 := (show 0 ≤ I72 1 13 ∧ I72 1 13 ≤ 64 from gc_in hI72 R_1 rfl rfl)
            have f85 := (show 0 ≤ I72 6 1 ∧ I72 6 1 ≤ 8 from gc_in hI72 R_6 rfl rfl)
            have KLT_I72 := gc_LT_fr KLT_I57 (p73 23 5 (fun h => absurd h.1 (by omega))) (p73 23 6 (fun h => absurd h.1 (by omega))) (p73 23 7 (fun h => absurd h.1 (by omega))) (fun k => p73 24 k (fun h => absurd h.1 (by omega)))
            show gv_X _ _ (234, [(0, .inr (.inr (some 39))), (1, .inr (.inl v1_9)), (3, .inl v3_9), (4, .inl v4_9), (5, .inl v5_23)], [], sh, gc_h sh I72 J54 A)
            refine gv_run 1 true hD (pc' := 235) (lv' := [(0, .inr (.inr (some 39))), (1, .inr (.inl v1_9)), (3, .inl v3_9), (4, .inl v4_9), (5, .inl v5_23)]) (st' := [.inr (.inr (some 39))]) (h' := gc_h sh I72 J54 A) (C := (True ∧ True)) rfl ⟨trivial, trivial⟩ ?_
            refine gv_get hD rfl rfl S_39 ⟨by decide, B_39⟩ (gc_hA S_39 rfl A_39_0) ?_
            show gv_X _ _ (238, [(0, .inr (.inr (some 39))), (1, .inr (.inl v1_9)), (3, .inl v3_9), (4, .inl v4_9), (5, .inl v5_23)], [.inr (.inr (some 1))], sh, gc_h sh I72 J54 A)
            refine gv_run 1 true hD (pc' := 239) (lv' := [(0, .inr (.inr (some 39))), (1, .inr (.inl v1_9)), (3, .inl v3_9), (4, .inl v4_9), (5, .inl v5_23)]) (st' := [.inr (.inr (some 1)), .inr (.inr (some 1))]) (h' := gc_h sh I72 J54 A) (C := (True ∧ True)) rfl ⟨trivial, trivial⟩ ?_
            have f86 := (show 0 ≤ I72 1 13 ∧ I72 1 13 ≤ 64 from gc_in hI72 R_1 rfl rfl)
            refine gv_get hD rfl rfl S_1 ⟨by decide, B_1⟩ (gc_hI S_1 rfl) ?_
            show gv_X _ _ (242, [(0, .inr (.inr (some 39))), (1, .inr (.inl v1_9)), (3, .inl v3_9), (4, .inl v4_9), (5, .inl v5_23)], [.inl (I72 1 13), .inr (.inr (some 1))], sh, gc_h sh I72 J54 A)
            refine gv_run 2 true hD (pc' := 244) (lv' := [(0, .inr (.inr (some 39))), (1, .inr (.inl v1_9)), (3, .inl v3_9), (4, .inl v4_9), (5, .inl v5_23)]) (st' := [.inl ((I72 1 13) + 1), .inr (.inr (some 1))]) (h' := gc_h sh I72 J54 A) (C := ((True ∧ True) ∧ True)) rfl ⟨⟨trivial, trivial⟩, trivial⟩ ?_
            refine gv_put hD rfl rfl S_1 ⟨by decide, B_1⟩ rfl trivial ?_
            refine gc_st (k := 13) hI72 S_1 rfl R_1 (lo := 0) (hi := 64) rfl rfl (by omega) (by omega) (fun I87 hI87 q88 p88 => ?_)
            have FI87 := gc_frs (W := fun q j => (q = 39 ∧ j = 3) ∨ (q = 39 ∧ j = 4) ∨ (q = 23 ∧ j = 5) ∨ (q = 23 ∧ j = 6) ∨ (q = 23 ∧ j = 7) ∨ (q = 23 ∧ j = 8) ∨ q = 19 ∨ (q = 1 ∧ j = 13)) FI72 (Or.inr (Or.inr (Or.inr (Or.inr (Or.inr (Or.inr (Or.inr ⟨rfl, rfl⟩))))))) p88
            have t89 := p88 23 1 (fun h => absurd h.1 (by omega))
            have t90 := p88 23 5 (fun h => absurd h.1 (by omega))
            have t91 := p88 23 6 (fun h => absurd h.1 (by omega))
            have t92 := p88 23 7 (fun h => absurd h.1 (by omega))
            have t93 := p88 6 1 (fun h => absurd h.1 (by omega))
            have f94 := (show 0 ≤ I87 23 1 ∧ I87 23 1 ≤ 1000 from gc_in hI87 R_23 rfl rfl)
            have f95 := (show 0 ≤ I87 23 5 ∧ I87 23 5 ≤ 1000 from gc_in hI87 R_23 rfl rfl)
            have f96 := (show 0 ≤ I87 23 6 ∧ I87 23 6 ≤ 1001 from gc_in hI87 R_23 rfl rfl)
            have f97 := (show 0 ≤ I87 23 7 ∧ I87 23 7 ≤ 125 from gc_in hI87 R_23 rfl rfl)
            have f98 := (show 0 ≤ I87 1 13 ∧ I87 1 13 ≤ 64 from gc_in hI87 R_1 rfl rfl)
            have f99 := (show 0 ≤ I87 6 1 ∧ I87 6 1 ≤ 8 from gc_in hI87 R_6 rfl rfl)
            have KLT_I87 := gc_LT_fr KLT_I72 (p88 23 5 (fun h => absurd h.1 (by omega))) (p88 23 6 (fun h => absurd h.1 (by omega))) (p88 23 7 (fun h => absurd h.1 (by omega))) (fun k => p88 24 k (fun h => absurd h.1 (by omega)))
            show gv_X _ _ (247, [(0, .inr (.inr (some 39))), (1, .inr (.inl v1_9)), (3, .inl v3_9), (4, .inl v4_9), (5, .inl v5_23)], [], sh, gc_h sh I87 J54 A)
            refine gv_pick [] rfl ?_
            exact L247 I87 J54 hI87 FI87 FJ54 KLT_I87 (by omega)
        · show gv_X _ _ (172, [(0, .inr (.inr (some 39))), (1, .inr (.inl v1_9)), (3, .inl v3_9), (4, .inl v4_9), (5, .inl v5_23)], [], sh, gc_h sh I40 J41 A)
          refine gv_run 1 true hD (pc' := 173) (lv' := [(0, .inr (.inr (some 39))), (1, .inr (.inl v1_9)), (3, .inl v3_9), (4, .inl v4_9), (5, .inl v5_23)]) (st' := [.inl 0]) (h' := gc_h sh I40 J41 A) (C := (True ∧ True)) rfl ⟨trivial, trivial⟩ ?_
          exact gv_zret hD rfl (by omega) ⟨I40, J41, rfl, hI40, FI40, FJ41, KLT_I40, ⟨_, rfl, by omega⟩⟩
      have L165 : ∀ (v5_100 : Int), ((0 ≤ v3_9 ∧ v3_9 ≤ 7) ∧ ((-1) ≤ v4_9 ∧ v4_9 ≤ 7) ∧ (0 ≤ v5_100 ∧ v5_100 ≤ 1) ∧ (v5_100 = 0 ∨ I7 1 13 < 64) ∧ (I7 23 5 ≤ I7 23 6) ∧ (I7 23 7 = 5 ∨ I7 23 6 ≤ I7 23 1) ∧ (I7 23 5 ≤ I7 23 1) ∧ (I7 23 7 = 4 ∨ (I7 23 5 < I7 23 6 ∧ I7 23 5 < I7 23 1)) ∧ (I7 23 7 = 3 → 2 ≤ I7 23 6 - I7 23 5 ∧ I7 23 6 - I7 23 5 ≤ 14) ∧ (I7 23 1 = I 23 1) ∧ (I 23 5 ≤ I7 23 5)) → gv_X (gc_E6 ws0 tb 4 (yX6_readFact, cX6_readFact, 6, (some .boolean)) kX6_readFact) (gv_Q cX6_readFact (some .boolean) sh (fun r h' => (∃ (I' : gr_I) (J' : gr_J), h' = gc_h sh I' J' A ∧ gc_Inv ro I' ∧ (∀ q j : Nat, ((q = 39 ∧ j = 3) ∨ (q = 39 ∧ j = 4) ∨ (q = 23 ∧ j = 5) ∨ (q = 23 ∧ j = 6) ∨ (q = 23 ∧ j = 7) ∨ (q = 23 ∧ j = 8) ∨ q = 19 ∨ (q = 1 ∧ j = 13)) ∨ I' q j = I q j) ∧ (∀ q j : Nat, ((q = 23 ∧ j = 9) ∨ q = 18) ∨ J' q j = J q j) ∧ gc_LT I' ∧ (∃ z : Int, r = some (.inl z) ∧ 0 ≤ z ∧ z ≤ 1 ∧ (I' 23 5 ≤ I' 23 6) ∧ (I' 23 7 = 5 ∨ I' 23 6 ≤ I' 23 1) ∧ (I' 23 5 ≤ I' 23 1) ∧ (I' 23 7 = 4 ∨ (I' 23 5 < I' 23 6 ∧ I' 23 5 < I' 23 1)) ∧ (I' 23 7 = 3 → 2 ≤ I' 23 6 - I' 23 5 ∧ I' 23 6 - I' 23 5 ≤ 14) ∧ (I' 23 1 = I 23 1) ∧ (I 23 5 ≤ I' 23 5))))) (165, [(0, .inr (.inr (some 39))), (1, .inr (.inl v1_9)), (3, .inl v3_9), (4, .inl v4_9), (5, .inl v5_100)], [.inr (.inr (some 39))], sh, gc_h sh I7 J8 A) := by
        intro v5_100 m_100
        obtain ⟨hv3_9_100, hv4_9_100, hv5_100, e0_100, e1_100, e2_100, e3_100, e4_100, e5_100, e6_100, e7_100⟩ := m_100
        have f101 := (show 0 ≤ I7 23 1 ∧ I7 23 1 ≤ 1000 from gc_in hI7 R_23 rfl rfl)
        have f102 := (show 0 ≤ I7 23 5 ∧ I7 23 5 ≤ 1000 from gc_in hI7 R_23 rfl rfl)
        have f103 := (show 0 ≤ I7 23 6 ∧ I7 23 6 ≤ 1001 from gc_in hI7 R_23 rfl rfl)
        have f104 := (show 0 ≤ I7 23 7 ∧ I7 23 7 ≤ 125 from gc_in hI7 R_23 rfl rfl)
        have f105 := (show 0 ≤ I7 1 13 ∧ I7 1 13 ≤ 64 from gc_in hI7 R_1 rfl rfl)
        have f106 := (show 0 ≤ I7 6 1 ∧ I7 6 1 ≤ 8 from gc_in hI7 R_6 rfl rfl)
        refine gv_run 1 true hD (pc' := 166) (lv' := [(0, .inr (.inr (some 39))), (1, .inr (.inl v1_9)), (3, .inl v3_9), (4, .inl v4_9), (5, .inl v5_100)]) (st' := [.inl 0, .inr (.inr (some 39))]) (h' := gc_h sh I7 J8 A) (C := (True ∧ True)) rfl ⟨trivial, trivial⟩ ?_
        exact L166 v5_100 0 (by omega)
      refine gv_run 3 true hD (pc' := 146) (lv' := [(5, .inl s0_16), (0, .inr (.inr (some 39))), (1, .inr (.inl v1_9)), (3, .inl v3_9), (4, .inl v4_9)]) (st' := [.inl s0_16, .inr (.inr (some 39))]) (h' := gc_h sh I7 J8 A) (C := (((True ∧ True) ∧ True) ∧ True)) rfl ⟨⟨⟨trivial, trivial⟩, trivial⟩, trivial⟩ ?_
      refine gv_if_eq (t := 165) hD rfl rfl ⟨by omega, by omega⟩ (fun c107 => ?_) (fun c107 => ?_)
      · show gv_X _ _ (165, [(5, .inl s0_16), (0, .inr (.inr (some 39))), (1, .inr (.inl v1_9)), (3, .inl v3_9), (4, .inl v4_9)], [.inr (.inr (some 39))], sh, gc_h sh I7 J8 A)
        refine gv_pick [1, 2, 3, 4, 0] rfl ?_
        exact L165 s0_16 (by omega)
      · show gv_X _ _ (149, [(5, .inl s0_16), (0, .inr (.inr (some 39))), (1, .inr (.inl v1_9)), (3, .inl v3_9), (4, .inl v4_9)], [.inr (.inr (some 39))], sh, gc_h sh I7 J8 A)
        refine gv_run 1 true hD (pc' := 150) (lv' := [(5, .inl s0_16), (0, .inr (.inr (some 39))), (1, .inr (.inl v1_9)), (3, .inl v3_9), (4, .inl v4_9)]) (st' := [.inr (.inr (some 39)), .inr (.inr (some 39))]) (h' := gc_h sh I7 J8 A) (C := (True ∧ True)) rfl ⟨trivial, trivial⟩ ?_
        refine gv_get hD rfl rfl S_39 ⟨by decide, B_39⟩ (gc_hA S_39 rfl A_39_0) ?_
        show gv_X _ _ (153, [(5, .inl s0_16), (0, .inr (.inr (some 39))), (1, .inr (.inl v1_9)), (3, .inl v3_9), (4, .inl v4_9)], [.inr (.inr (some 1)), .inr (.inr (some 39))], sh, gc_h sh I7 J8 A)
        have f108 := (show 0 ≤ I7 1 13 ∧ I7 1 13 ≤ 64 from gc_in hI7 R_1 rfl rfl)
        refine gv_get hD rfl rfl S_1 ⟨by decide, B_1⟩ (gc_hI S_1 rfl) ?_
        show gv_X _ _ (156, [(5, .inl s0_16), (0, .inr (.inr (some 39))), (1, .inr (.inl v1_9)), (3, .inl v3_9), (4, .inl v4_9)], [.inl (I7 1 13), .inr (.inr (some 39))], sh, gc_h sh I7 J8 A)
        refine gv_run 1 true hD (pc' := 158) (lv' := [(5, .inl s0_16), (0, .inr (.inr (some 39))), (1, .inr (.inl v1_9)), (3, .inl v3_9), (4, .inl v4_9)]) (st' := [.inl 64, .inl (I7 1 13), .inr (.inr (some 39))]) (h' := gc_h sh I7 J8 A) (C := (True ∧ True)) rfl ⟨trivial, trivial⟩ ?_
        refine gv_icmp_lt (t := 165) hD rfl rfl ⟨⟨by omega, by omega⟩, ⟨by omega, by omega⟩⟩ (fun c109 => ?_) (fun c109 => ?_)
        · show gv_X _ _ (165, [(5, .inl s0_16), (0, .inr (.inr (some 39))), (1, .inr (.inl v1_9)), (3, .inl v3_9), (4, .inl v4_9)], [.inr (.inr (some 39))], sh, gc_h sh I7 J8 A)
          refine gv_pick [1, 2, 3, 4, 0] rfl ?_
          exact L165 s0_16 (by omega)
        · show gv_X _ _ (161, [(5, .inl s0_16), (0, .inr (.inr (some 39))), (1, .inr (.inl v1_9)), (3, .inl v3_9), (4, .inl v4_9)], [.inr (.inr (some 39))], sh, gc_h sh I7 J8 A)
          refine gv_run 2 true hD (pc' := 166) (lv' := [(5, .inl s0_16), (0, .inr (.inr (some 39))), (1, .inr (.inl v1_9)), (3, .inl v3_9), (4, .inl v4_9)]) (st' := [.inl 1, .inr (.inr (some 39))]) (h' := gc_h sh I7 J8 A) (C := ((True ∧ True) ∧ True)) rfl ⟨⟨trivial, trivial⟩, trivial⟩ ?_
          refine gv_pick [1, 2, 3, 4, 0] rfl ?_
          exact L166 s0_16 1 (by omega)
    refine gv_run 1 true hD (pc' := 123) (lv' := [(0, .inr (.inr (some 39))), (1, .inr (.inl v1_9)), (3, .inl v3_9), (4, .inl v4_9)]) (st' := [.inr (.inr (some 39))]) (h' := gc_h sh I7 J8 A) (C := (True ∧ True)) rfl ⟨trivial, trivial⟩ ?_
    refine gv_get hD rfl rfl S_39 ⟨by decide, B_39⟩ (gc_hA S_39 rfl A_39_0) ?_
    show gv_X _ _ (126, [(0, .inr (.inr (some 39))), (1, .inr (.inl v1_9)), (3, .inl v3_9), (4, .inl v4_9)], [.inr (.inr (some 1))], sh, gc_h sh I7 J8 A)
    refine gv_run 3 true hD (pc' := 130) (lv' := [(0, .inr (.inr (some 39))), (1, .inr (.inl v1_9)), (3, .inl v3_9), (4, .inl v4_9)]) (st' := [.inl v4_9, .inl v3_9, .inr (.inl v1_9), .inr (.inr (some 1))]) (h' := gc_h sh I7 J8 A) (C := (((True ∧ True) ∧ True) ∧ True)) rfl ⟨⟨⟨trivial, trivial⟩, trivial⟩, trivial⟩ ?_
    obtain ⟨r110, h110, E110, P110⟩ := d_X8_findFact (ws0 := ws0) (tb := tb) hws htb sh ro I7 J8 A hI7  v1_9 v3_9 v4_9 hb   ⟨by omega, by omega⟩ ⟨by omega, by omega⟩  
    obtain ⟨rfl, ⟨z110, rfl, q110⟩⟩ := P110
    refine gv_callV hD rfl (As := [.inr (.inl v1_9), .inl v3_9, .inl v4_9]) (st := []) rfl B_1 S_1 rfl (gc_lV6 hws rfl) (Nat.le_of_ble_eq_true rfl) (gz_Ev_mono (d := 1) (by decide) E110) ?_
    show gv_X _ _ (133, [(0, .inr (.inr (some 39))), (1, .inr (.inl v1_9)), (3, .inl v3_9), (4, .inl v4_9)], [.inl z110], sh, gc_h sh I7 J8 A)
    refine gv_if_ge (t := 140) hD rfl rfl ⟨by omega, by omega⟩ (fun c111 => ?_) (fun c111 => ?_)
    · show gv_X _ _ (140, [(0, .inr (.inr (some 39))), (1, .inr (.inl v1_9)), (3, .inl v3_9), (4, .inl v4_9)], [], sh, gc_h sh I7 J8 A)
      refine gv_run 1 true hD (pc' := 141) (lv' := [(0, .inr (.inr (some 39))), (1, .inr (.inl v1_9)), (3, .inl v3_9), (4, .inl v4_9)]) (st' := [.inl 0]) (h' := gc_h sh I7 J8 A) (C := (True ∧ True)) rfl ⟨trivial, trivial⟩ ?_
      exact L141 0 (by omega)
    · show gv_X _ _ (136, [(0, .inr (.inr (some 39))), (1, .inr (.inl v1_9)), (3, .inl v3_9), (4, .inl v4_9)], [], sh, gc_h sh I7 J8 A)
      refine gv_run 2 true hD (pc' := 141) (lv' := [(0, .inr (.inr (some 39))), (1, .inr (.inl v1_9)), (3, .inl v3_9), (4, .inl v4_9)]) (st' := [.inl 1]) (h' := gc_h sh I7 J8 A) (C := ((True ∧ True) ∧ True)) rfl ⟨⟨trivial, trivial⟩, trivial⟩ ?_
      exact L141 1 (by omega)
  refine gv_run 2 true hD (pc' := 2) (lv' := [(0, .inr (.inr (some 39)))]) (st' := [.inl 1, .inr (.inr (some 39))]) (h' := gc_h sh I J A) (C := ((True ∧ True) ∧ True)) rfl ⟨⟨trivial, trivial⟩, trivial⟩ ?_
  obtain ⟨r112, h112, E112, P112⟩ := d_X6_need (ws0 := ws0) (tb := tb) hws htb sh ro I J A hI  1 hb   ⟨by omega, by omega⟩  
  obtain ⟨I113, J114, rfl, hI113, g112, k112, ⟨z112, rfl, q112⟩⟩ := P112
  have FI113 := gc_frc (W := fun q j => (q = 39 ∧ j = 3) ∨ (q = 39 ∧ j = 4) ∨ (q = 23 ∧ j = 5) ∨ (q = 23 ∧ j = 6) ∨ (q = 23 ∧ j = 7) ∨ (q = 23 ∧ j = 8) ∨ q = 19 ∨ (q = 1 ∧ j = 13)) (V := fun q j => (q = 39 ∧ j = 3) ∨ (q = 39 ∧ j = 4)) FI (fun q j h => (h.elim (fun h => (Or.inl h)) (fun h => (Or.inr (Or.inl h))))) g112
  have t115 := (g112 23 1).resolve_left (by omega)
  have t116 := (g112 23 5).resolve_left (by omega)
  have t117 := (g112 23 6).resolve_left (by omega)
  have t118 := (g112 23 7).resolve_left (by omega)
  have t119 := (g112 1 13).resolve_left (by omega)
  have t120 := (g112 6 1).resolve_left (by omega)
  have f121 := (show 0 ≤ I113 23 1 ∧ I113 23 1 ≤ 1000 from gc_in hI113 R_23 rfl rfl)
  have f122 := (show 0 ≤ I113 23 5 ∧ I113 23 5 ≤ 1000 from gc_in hI113 R_23 rfl rfl)
  have f123 := (show 0 ≤ I113 23 6 ∧ I113 23 6 ≤ 1001 from gc_in hI113 R_23 rfl rfl)
  have f124 := (show 0 ≤ I113 23 7 ∧ I113 23 7 ≤ 125 from gc_in hI113 R_23 rfl rfl)
  have f125 := (show 0 ≤ I113 1 13 ∧ I113 1 13 ≤ 64 from gc_in hI113 R_1 rfl rfl)
  have f126 := (show 0 ≤ I113 6 1 ∧ I113 6 1 ≤ 8 from gc_in hI113 R_6 rfl rfl)
  obtain rfl : J = J114 := funext fun q => funext fun j => ((k112 q j).resolve_left id).symm
  have KLT_I113 := gc_LT_fr KLT_I ((g112 23 5).resolve_left (by omega)) ((g112 23 6).resolve_left (by omega)) ((g112 23 7).resolve_left (by omega)) (fun k => (g112 24 k).resolve_left (by omega))
  refine gv_callV hD rfl (As := [.inl 1]) (st := []) rfl B_39 S_39 rfl (gc_lV6 hws rfl) (Nat.le_of_ble_eq_true rfl) (gz_Ev_mono (d := 2) (by decide) E112) ?_
  show gv_X _ _ (5, [(0, .inr (.inr (some 39)))], [.inl z112], sh, gc_h sh I113 J A)
  refine gv_if_ne (t := 10) hD rfl rfl ⟨by omega, by omega⟩ (fun c127 => ?_) (fun c127 => ?_)
  · show gv_X _ _ (10, [(0, .inr (.inr (some 39)))], [], sh, gc_h sh I113 J A)
    refine gv_run 1 true hD (pc' := 11) (lv' := [(0, .inr (.inr (some 39)))]) (st' := [.inr (.inr (some 39))]) (h' := gc_h sh I113 J A) (C := (True ∧ True)) rfl ⟨trivial, trivial⟩ ?_
    refine gv_get hD rfl rfl S_39 ⟨by decide, B_39⟩ (gc_hA S_39 rfl A_39_1) ?_
    show gv_X _ _ (14, [(0, .inr (.inr (some 39)))], [.inr (.inr (some 23))], sh, gc_h sh I113 J A)
    refine gv_get hD rfl rfl S_23 ⟨by decide, B_23⟩ (gc_hJ S_23 rfl) ?_
    show gv_X _ _ (17, [(0, .inr (.inr (some 39)))], [.inr (.inl (J 23 9))], sh, gc_h sh I113 J A)
    refine gv_run 2 true hD (pc' := 19) (lv' := [(1, .inr (.inl (J 23 9))), (0, .inr (.inr (some 39)))]) (st' := [.inr (.inr (some 39))]) (h' := gc_h sh I113 J A) (C := ((True ∧ True) ∧ True)) rfl ⟨⟨trivial, trivial⟩, trivial⟩ ?_
    refine gv_get hD rfl rfl S_39 ⟨by decide, B_39⟩ (gc_hA S_39 rfl A_39_1) ?_
    show gv_X _ _ (22, [(1, .inr (.inl (J 23 9))), (0, .inr (.inr (some 39)))], [.inr (.inr (some 23))], sh, gc_h sh I113 J A)
    obtain ⟨r128, h128, E128, P128⟩ := d_X9_advance (ws0 := ws0) (tb := tb) hws htb sh ro I113 J A hI113 23  (gc_b23 hb)    (by omega) 
    obtain ⟨I129, J130, rfl, hI129, g128, k128, ⟨rfl, q128⟩⟩ := P128
    have FI129 := gc_frc (W := fun q j => (q = 39 ∧ j = 3) ∨ (q = 39 ∧ j = 4) ∨ (q = 23 ∧ j = 5) ∨ (q = 23 ∧ j = 6) ∨ (q = 23 ∧ j = 7) ∨ (q = 23 ∧ j = 8) ∨ q = 19 ∨ (q = 1 ∧ j = 13)) (V := fun q j => (q = 23 ∧ j = 5) ∨ (q = 23 ∧ j = 6) ∨ (q = 23 ∧ j = 7) ∨ (q = 23 ∧ j = 8)) FI113 (fun q j h => (h.elim (fun h => (Or.inr (Or.inr (Or.inl h)))) (fun h => (h.elim (fun h => (Or.inr (Or.inr (Or.inr (Or.inl h))))) (fun h => (h.elim (fun h => (Or.inr (Or.inr (Or.inr (Or.inr (Or.inl h)))))) (fun h => (Or.inr (Or.inr (Or.inr (Or.inr (Or.inr (Or.inl h))))))))))))) g128
    have FJ130 := gc_frc (W := fun q j => (q = 23 ∧ j = 9) ∨ q = 18) (V := fun q j => (q = 23 ∧ j = 9)) FJ (fun q j h => (Or.inl h)) k128
    have t131 := (g128 23 1).resolve_left (by omega)
    have t132 := (g128 1 13).resolve_left (by omega)
    have t133 := (g128 6 1).resolve_left (by omega)
    have f134 := (show 0 ≤ I129 23 1 ∧ I129 23 1 ≤ 1000 from gc_in hI129 R_23 rfl rfl)
    have f135 := (show 0 ≤ I129 23 5 ∧ I129 23 5 ≤ 1000 from gc_in hI129 R_23 rfl rfl)
    have f136 := (show 0 ≤ I129 23 6 ∧ I129 23 6 ≤ 1001 from gc_in hI129 R_23 rfl rfl)
    have f137 := (show 0 ≤ I129 23 7 ∧ I129 23 7 ≤ 125 from gc_in hI129 R_23 rfl rfl)
    have f138 := (show 0 ≤ I129 1 13 ∧ I129 1 13 ≤ 64 from gc_in hI129 R_1 rfl rfl)
    have f139 := (show 0 ≤ I129 6 1 ∧ I129 6 1 ≤ 8 from gc_in hI129 R_6 rfl rfl)
    have KLT_I129 : gc_LT I129 := q128.2.2.2.2.2.2.2
    refine gv_callV hD rfl (As := []) (st := []) rfl B_23 S_23 rfl (gc_lV6 hws rfl) (Nat.le_of_ble_eq_true rfl) (gz_Ev_mono (d := 2) (by decide) E128) ?_
    show gv_X _ _ (25, [(1, .inr (.inl (J 23 9))), (0, .inr (.inr (some 39)))], [], sh, gc_h sh I129 J130 A)
    refine gv_run 2 true hD (pc' := 27) (lv' := [(1, .inr (.inl (J 23 9))), (0, .inr (.inr (some 39)))]) (st' := [.inr (.inr (some 39)), .inr (.inr (some 39))]) (h' := gc_h sh I129 J130 A) (C := ((True ∧ True) ∧ True)) rfl ⟨⟨trivial, trivial⟩, trivial⟩ ?_
    refine gv_get hD rfl rfl S_39 ⟨by decide, B_39⟩ (gc_hA S_39 rfl A_39_0) ?_
    show gv_X _ _ (30, [(1, .inr (.inl (J 23 9))), (0, .inr (.inr (some 39)))], [.inr (.inr (some 1)), .inr (.inr (some 39))], sh, gc_h sh I129 J130 A)
    refine gv_get hD rfl rfl S_1 ⟨by decide, B_1⟩ (gc_hA S_1 rfl A_1_2) ?_
    show gv_X _ _ (33, [(1, .inr (.inl (J 23 9))), (0, .inr (.inr (some 39)))], [.inr (.inr (some 6)), .inr (.inr (some 39))], sh, gc_h sh I129 J130 A)
    obtain ⟨r140, h140, E140, P140⟩ := d_X6_needKnown (ws0 := ws0) (tb := tb) hws htb sh ro I129 J130 A hI129  8 6 6 hb (gc_b6 hb)    
    obtain ⟨I141, J142, rfl, hI141, g140, k140, ⟨z140, rfl, q140⟩⟩ := P140
    have FI141 := gc_frc (W := fun q j => (q = 39 ∧ j = 3) ∨ (q = 39 ∧ j = 4) ∨ (q = 23 ∧ j = 5) ∨ (q = 23 ∧ j = 6) ∨ (q = 23 ∧ j = 7) ∨ (q = 23 ∧ j = 8) ∨ q = 19 ∨ (q = 1 ∧ j = 13)) (V := fun q j => (q = 39 ∧ j = 3) ∨ (q = 39 ∧ j = 4)) FI129 (fun q j h => (h.elim (fun h => (Or.inl h)) (fun h => (Or.inr (Or.inl h))))) g140
    have t143 := (g140 23 1).resolve_left (by omega)
    have t144 := (g140 23 5).resolve_left (by omega)
    have t145 := (g140 23 6).resolve_left (by omega)
    have t146 := (g140 23 7).resolve_left (by omega)
    have t147 := (g140 1 13).resolve_left (by omega)
    have t148 := (g140 6 1).resolve_left (by omega)
    have f149 := (show 0 ≤ I141 23 1 ∧ I141 23 1 ≤ 1000 from gc_in hI141 R_23 rfl rfl)
    have f150 := (show 0 ≤ I141 23 5 ∧ I141 23 5 ≤ 1000 from gc_in hI141 R_23 rfl rfl)
    have f151 := (show 0 ≤ I141 23 6 ∧ I141 23 6 ≤ 1001 from gc_in hI141 R_23 rfl rfl)
    have f152 := (show 0 ≤ I141 23 7 ∧ I141 23 7 ≤ 125 from gc_in hI141 R_23 rfl rfl)
    have f153 := (show 0 ≤ I141 1 13 ∧ I141 1 13 ≤ 64 from gc_in hI141 R_1 rfl rfl)
    have f154 := (show 0 ≤ I141 6 1 ∧ I141 6 1 ≤ 8 from gc_in hI141 R_6 rfl rfl)
    obtain rfl : J130 = J142 := funext fun q => funext fun j => ((k140 q j).resolve_left id).symm
    have KLT_I141 := gc_LT_fr KLT_I129 ((g140 23 5).resolve_left (by omega)) ((g140 23 6).resolve_left (by omega)) ((g140 23 7).resolve_left (by omega)) (fun k => (g140 24 k).resolve_left (by omega))
    refine gv_callV hD rfl (As := [.inr (.inr (some 6))]) (st := []) rfl B_39 S_39 rfl (gc_lV6 hws rfl) (Nat.le_of_ble_eq_true rfl) (gz_Ev_mono (d := 3) (by decide) E140) ?_
    show gv_X _ _ (36, [(1, .inr (.inl (J 23 9))), (0, .inr (.inr (some 39)))], [.inl z140], sh, gc_h sh I141 J130 A)
    refine gv_if_ne (t := 41) hD rfl rfl ⟨by omega, by omega⟩ (fun c155 => ?_) (fun c155 => ?_)
    · show gv_X _ _ (41, [(1, .inr (.inl (J 23 9))), (0, .inr (.inr (some 39)))], [], sh, gc_h sh I141 J130 A)
      refine gv_run 1 true hD (pc' := 42) (lv' := [(1, .inr (.inl (J 23 9))), (0, .inr (.inr (some 39)))]) (st' := [.inr (.inr (some 39))]) (h' := gc_h sh I141 J130 A) (C := (True ∧ True)) rfl ⟨trivial, trivial⟩ ?_
      refine gv_get hD rfl rfl S_39 ⟨by decide, B_39⟩ (gc_hA S_39 rfl A_39_0) ?_
      show gv_X _ _ (45, [(1, .inr (.inl (J 23 9))), (0, .inr (.inr (some 39)))], [.inr (.inr (some 1))], sh, gc_h sh I141 J130 A)
      refine gv_get hD rfl rfl S_1 ⟨by decide, B_1⟩ (gc_hA S_1 rfl A_1_2) ?_
      show gv_X _ _ (48, [(1, .inr (.inl (J 23 9))), (0, .inr (.inr (some 39)))], [.inr (.inr (some 6))], sh, gc_h sh I141 J130 A)
      refine gv_run 1 true hD (pc' := 49) (lv' := [(1, .inr (.inl (J 23 9))), (0, .inr (.inr (some 39)))]) (st' := [.inr (.inr (some 39)), .inr (.inr (some 6))]) (h' := gc_h sh I141 J130 A) (C := (True ∧ True)) rfl ⟨trivial, trivial⟩ ?_
      refine gv_get hD rfl rfl S_39 ⟨by decide, B_39⟩ (gc_hA S_39 rfl A_39_1) ?_
      show gv_X _ _ (52, [(1, .inr (.inl (J 23 9))), (0, .inr (.inr (some 39)))], [.inr (.inr (some 23)), .inr (.inr (some 6))], sh, gc_h sh I141 J130 A)
      refine gv_get hD rfl rfl S_23 ⟨by decide, B_23⟩ (gc_hJ S_23 rfl) ?_
      show gv_X _ _ (55, [(1, .inr (.inl (J 23 9))), (0, .inr (.inr (some 39)))], [.inr (.inl (J130 23 9)), .inr (.inr (some 6))], sh, gc_h sh I141 J130 A)
      obtain ⟨r156, h156, E156, P156⟩ := d_X4_find (ws0 := ws0) (tb := tb) hws htb sh ro I141 J130 A hI141 6 8 6 (J130 23 9) (gc_b6 hb)     
      obtain ⟨rfl, ⟨z156, rfl, q156⟩⟩ := P156
      refine gv_callV hD rfl (As := [.inr (.inl (J130 23 9))]) (st := []) rfl B_6 S_6 rfl (gc_lV6 hws rfl) (Nat.le_of_ble_eq_true rfl) (gz_Ev_mono (d := 1) (by decide) E156) ?_
      show gv_X _ _ (58, [(1, .inr (.inl (J 23 9))), (0, .inr (.inr (some 39)))], [.inl z156], sh, gc_h sh I141 J130 A)
      refine gv_run 4 true hD (pc' := 63) (lv' := [(4, .inl (-1)), (3, .inl z156), (1, .inr (.inl (J 23 9))), (0, .inr (.inr (some 39)))]) (st' := [.inr (.inr (some 39))]) (h' := gc_h sh I141 J130 A) (C := ((((True ∧ True) ∧ True) ∧ True) ∧ True)) rfl ⟨⟨⟨⟨trivial, trivial⟩, trivial⟩, trivial⟩, trivial⟩ ?_
      refine gv_get hD rfl rfl S_39 ⟨by decide, B_39⟩ (gc_hA S_39 rfl A_39_1) ?_
      show gv_X _ _ (66, [(4, .inl (-1)), (3, .inl z156), (1, .inr (.inl (J 23 9))), (0, .inr (.inr (some 39)))], [.inr (.inr (some 23))], sh, gc_h sh I141 J130 A)
      obtain ⟨r157, h157, E157, P157⟩ := d_X9_advance (ws0 := ws0) (tb := tb) hws htb sh ro I141 J130 A hI141 23  (gc_b23 hb)    (by omega) 
      obtain ⟨I158, J159, rfl, hI158, g157, k157, ⟨rfl, q157⟩⟩ := P157
      have FI158 := gc_frc (W := fun q j => (q = 39 ∧ j = 3) ∨ (q = 39 ∧ j = 4) ∨ (q = 23 ∧ j = 5) ∨ (q = 23 ∧ j = 6) ∨ (q = 23 ∧ j = 7) ∨ (q = 23 ∧ j = 8) ∨ q = 19 ∨ (q = 1 ∧ j = 13)) (V := fun q j => (q = 23 ∧ j = 5) ∨ (q = 23 ∧ j = 6) ∨ (q = 23 ∧ j = 7) ∨ (q = 23 ∧ j = 8)) FI141 (fun q j h => (h.elim (fun h => (Or.inr (Or.inr (Or.inl h)))) (fun h => (h.elim (fun h => (Or.inr (Or.inr (Or.inr (Or.inl h))))) (fun h => (h.elim (fun h => (Or.inr (Or.inr (Or.inr (Or.inr (Or.inl h)))))) (fun h => (Or.inr (Or.inr (Or.inr (Or.inr (Or.inr (Or.inl h))))))))))))) g157
      have FJ159 := gc_frc (W := fun q j => (q = 23 ∧ j = 9) ∨ q = 18) (V := fun q j => (q = 23 ∧ j = 9)) FJ130 (fun q j h => (Or.inl h)) k157
      have t160 := (g157 23 1).resolve_left (by omega)
      have t161 := (g157 1 13).resolve_left (by omega)
      have t162 := (g157 6 1).resolve_left (by omega)
      have f163 := (show 0 ≤ I158 23 1 ∧ I158 23 1 ≤ 1000 from gc_in hI158 R_23 rfl rfl)
      have f164 := (show 0 ≤ I158 23 5 ∧ I158 23 5 ≤ 1000 from gc_in hI158 R_23 rfl rfl)
      have f165 := (show 0 ≤ I158 23 6 ∧ I158 23 6 ≤ 1001 from gc_in hI158 R_23 rfl rfl)
      have f166 := (show 0 ≤ I158 23 7 ∧ I158 23 7 ≤ 125 from gc_in hI158 R_23 rfl rfl)
      have f167 := (show 0 ≤ I158 1 13 ∧ I158 1 13 ≤ 64 from gc_in hI158 R_1 rfl rfl)
      have f168 := (show 0 ≤ I158 6 1 ∧ I158 6 1 ≤ 8 from gc_in hI158 R_6 rfl rfl)
      have KLT_I158 : gc_LT I158 := q157.2.2.2.2.2.2.2
      refine gv_callV hD rfl (As := []) (st := []) rfl B_23 S_23 rfl (gc_lV6 hws rfl) (Nat.le_of_ble_eq_true rfl) (gz_Ev_mono (d := 2) (by decide) E157) ?_
      show gv_X _ _ (69, [(4, .inl (-1)), (3, .inl z156), (1, .inr (.inl (J 23 9))), (0, .inr (.inr (some 39)))], [], sh, gc_h sh I158 J159 A)
      refine gv_run 1 true hD (pc' := 70) (lv' := [(4, .inl (-1)), (3, .inl z156), (1, .inr (.inl (J 23 9))), (0, .inr (.inr (some 39)))]) (st' := [.inr (.inr (some 39))]) (h' := gc_h sh I158 J159 A) (C := (True ∧ True)) rfl ⟨trivial, trivial⟩ ?_
      refine gv_get hD rfl rfl S_39 ⟨by decide, B_39⟩ (gc_hA S_39 rfl A_39_1) ?_
      show gv_X _ _ (73, [(4, .inl (-1)), (3, .inl z156), (1, .inr (.inl (J 23 9))), (0, .inr (.inr (some 39)))], [.inr (.inr (some 23))], sh, gc_h sh I158 J159 A)
      have f169 := (show 0 ≤ I158 23 7 ∧ I158 23 7 ≤ 125 from gc_in hI158 R_23 rfl rfl)
      refine gv_get hD rfl rfl S_23 ⟨by decide, B_23⟩ (gc_hI S_23 rfl) ?_
      show gv_X _ _ (76, [(4, .inl (-1)), (3, .inl z156), (1, .inr (.inl (J 23 9))), (0, .inr (.inr (some 39)))], [.inl (I158 23 7)], sh, gc_h sh I158 J159 A)
      refine gv_run 1 true hD (pc' := 77) (lv' := [(4, .inl (-1)), (3, .inl z156), (1, .inr (.inl (J 23 9))), (0, .inr (.inr (some 39)))]) (st' := [.inl 1, .inl (I158 23 7)]) (h' := gc_h sh I158 J159 A) (C := (True ∧ True)) rfl ⟨trivial, trivial⟩ ?_
      refine gv_icmp_ne (t := 122) hD rfl rfl ⟨⟨by omega, by omega⟩, ⟨by omega, by omega⟩⟩ (fun c170 => ?_) (fun c170 => ?_)
      · show gv_X _ _ (122, [(4, .inl (-1)), (3, .inl z156), (1, .inr (.inl (J 23 9))), (0, .inr (.inr (some 39)))], [], sh, gc_h sh I158 J159 A)
        refine gv_pick [3, 2, 1, 0] rfl ?_
        exact L122 I158 J159 (J 23 9) z156 (-1) hI158 FI158 FJ159 KLT_I158 (by omega)
      · show gv_X _ _ (80, [(4, .inl (-1)), (3, .inl z156), (1, .inr (.inl (J 23 9))), (0, .inr (.inr (some 39)))], [], sh, gc_h sh I158 J159 A)
        refine gv_run 2 true hD (pc' := 82) (lv' := [(4, .inl (-1)), (3, .inl z156), (1, .inr (.inl (J 23 9))), (0, .inr (.inr (some 39)))]) (st' := [.inr (.inr (some 39)), .inr (.inr (some 39))]) (h' := gc_h sh I158 J159 A) (C := ((True ∧ True) ∧ True)) rfl ⟨⟨trivial, trivial⟩, trivial⟩ ?_
        refine gv_get hD rfl rfl S_39 ⟨by decide, B_39⟩ (gc_hA S_39 rfl A_39_0) ?_
        show gv_X _ _ (85, [(4, .inl (-1)), (3, .inl z156), (1, .inr (.inl (J 23 9))), (0, .inr (.inr (some 39)))], [.inr (.inr (some 1)), .inr (.inr (some 39))], sh, gc_h sh I158 J159 A)
        refine gv_get hD rfl rfl S_1 ⟨by decide, B_1⟩ (gc_hA S_1 rfl A_1_2) ?_
        show gv_X _ _ (88, [(4, .inl (-1)), (3, .inl z156), (1, .inr (.inl (J 23 9))), (0, .inr (.inr (some 39)))], [.inr (.inr (some 6)), .inr (.inr (some 39))], sh, gc_h sh I158 J159 A)
        obtain ⟨r171, h171, E171, P171⟩ := d_X6_needKnown (ws0 := ws0) (tb := tb) hws htb sh ro I158 J159 A hI158  8 6 6 hb (gc_b6 hb)    
        obtain ⟨I172, J173, rfl, hI172, g171, k171, ⟨z171, rfl, q171⟩⟩ := P171
        have FI172 := gc_frc (W := fun q j => (q = 39 ∧ j = 3) ∨ (q = 39 ∧ j = 4) ∨ (q = 23 ∧ j = 5) ∨ (q = 23 ∧ j = 6) ∨ (q = 23 ∧ j = 7) ∨ (q = 23 ∧ j = 8) ∨ q = 19 ∨ (q = 1 ∧ j = 13)) (V := fun q j => (q = 39 ∧ j = 3) ∨ (q = 39 ∧ j = 4)) FI158 (fun q j h => (h.elim (fun h => (Or.inl h)) (fun h => (Or.inr (Or.inl h))))) g171
        have t174 := (g171 23 1).resolve_left (by omega)
        have t175 := (g171 23 5).resolve_left (by omega)
        have t176 := (g171 23 6).resolve_left (by omega)
        have t177 := (g171 23 7).resolve_left (by omega)
        have t178 := (g171 1 13).resolve_left (by omega)
        have t179 := (g171 6 1).resolve_left (by omega)
        have f180 := (show 0 ≤ I172 23 1 ∧ I172 23 1 ≤ 1000 from gc_in hI172 R_23 rfl rfl)
        have f181 := (show 0 ≤ I172 23 5 ∧ I172 23 5 ≤ 1000 from gc_in hI172 R_23 rfl rfl)
        have f182 := (show 0 ≤ I172 23 6 ∧ I172 23 6 ≤ 1001 from gc_in hI172 R_23 rfl rfl)
        have f183 := (show 0 ≤ I172 23 7 ∧ I172 23 7 ≤ 125 from gc_in hI172 R_23 rfl rfl)
        have f184 := (show 0 ≤ I172 1 13 ∧ I172 1 13 ≤ 64 from gc_in hI172 R_1 rfl rfl)
        have f185 := (show 0 ≤ I172 6 1 ∧ I172 6 1 ≤ 8 from gc_in hI172 R_6 rfl rfl)
        obtain rfl : J159 = J173 := funext fun q => funext fun j => ((k171 q j).resolve_left id).symm
        have KLT_I172 := gc_LT_fr KLT_I158 ((g171 23 5).resolve_left (by omega)) ((g171 23 6).resolve_left (by omega)) ((g171 23 7).resolve_left (by omega)) (fun k => (g171 24 k).resolve_left (by omega))
        refine gv_callV hD rfl (As := [.inr (.inr (some 6))]) (st := []) rfl B_39 S_39 rfl (gc_lV6 hws rfl) (Nat.le_of_ble_eq_true rfl) (gz_Ev_mono (d := 3) (by decide) E171) ?_
        show gv_X _ _ (91, [(4, .inl (-1)), (3, .inl z156), (1, .inr (.inl (J 23 9))), (0, .inr (.inr (some 39)))], [.inl z171], sh, gc_h sh I172 J159 A)
        refine gv_if_ne (t := 96) hD rfl rfl ⟨by omega, by omega⟩ (fun c186 => ?_) (fun c186 => ?_)
        · show gv_X _ _ (96, [(4, .inl (-1)), (3, .inl z156), (1, .inr (.inl (J 23 9))), (0, .inr (.inr (some 39)))], [], sh, gc_h sh I172 J159 A)
          refine gv_run 1 true hD (pc' := 97) (lv' := [(4, .inl (-1)), (3, .inl z156), (1, .inr (.inl (J 23 9))), (0, .inr (.inr (some 39)))]) (st' := [.inr (.inr (some 39))]) (h' := gc_h sh I172 J159 A) (C := (True ∧ True)) rfl ⟨trivial, trivial⟩ ?_
          refine gv_get hD rfl rfl S_39 ⟨by decide, B_39⟩ (gc_hA S_39 rfl A_39_0) ?_
          show gv_X _ _ (100, [(4, .inl (-1)), (3, .inl z156), (1, .inr (.inl (J 23 9))), (0, .inr (.inr (some 39)))], [.inr (.inr (some 1))], sh, gc_h sh I172 J159 A)
          refine gv_get hD rfl rfl S_1 ⟨by decide, B_1⟩ (gc_hA S_1 rfl A_1_2) ?_
          show gv_X _ _ (103, [(4, .inl (-1)), (3, .inl z156), (1, .inr (.inl (J 23 9))), (0, .inr (.inr (some 39)))], [.inr (.inr (some 6))], sh, gc_h sh I172 J159 A)
          refine gv_run 1 true hD (pc' := 104) (lv' := [(4, .inl (-1)), (3, .inl z156), (1, .inr (.inl (J 23 9))), (0, .inr (.inr (some 39)))]) (st' := [.inr (.inr (some 39)), .inr (.inr (some 6))]) (h' := gc_h sh I172 J159 A) (C := (True ∧ True)) rfl ⟨trivial, trivial⟩ ?_
          refine gv_get hD rfl rfl S_39 ⟨by decide, B_39⟩ (gc_hA S_39 rfl A_39_1) ?_
          show gv_X _ _ (107, [(4, .inl (-1)), (3, .inl z156), (1, .inr (.inl (J 23 9))), (0, .inr (.inr (some 39)))], [.inr (.inr (some 23)), .inr (.inr (some 6))], sh, gc_h sh I172 J159 A)
          refine gv_get hD rfl rfl S_23 ⟨by decide, B_23⟩ (gc_hJ S_23 rfl) ?_
          show gv_X _ _ (110, [(4, .inl (-1)), (3, .inl z156), (1, .inr (.inl (J 23 9))), (0, .inr (.inr (some 39)))], [.inr (.inl (J159 23 9)), .inr (.inr (some 6))], sh, gc_h sh I172 J159 A)
          obtain ⟨r187, h187, E187, P187⟩ := d_X4_find (ws0 := ws0) (tb := tb) hws htb sh ro I172 J159 A hI172 6 8 6 (J159 23 9) (gc_b6 hb)     
          obtain ⟨rfl, ⟨z187, rfl, q187⟩⟩ := P187
          refine gv_callV hD rfl (As := [.inr (.inl (J159 23 9))]) (st := []) rfl B_6 S_6 rfl (gc_lV6 hws rfl) (Nat.le_of_ble_eq_true rfl) (gz_Ev_mono (d := 1) (by decide) E187) ?_
          show gv_X _ _ (113, [(4, .inl (-1)), (3, .inl z156), (1, .inr (.inl (J 23 9))), (0, .inr (.inr (some 39)))], [.inl z187], sh, gc_h sh I172 J159 A)
          refine gv_run 2 true hD (pc' := 116) (lv' := [(4, .inl z187), (3, .inl z156), (1, .inr (.inl (J 23 9))), (0, .inr (.inr (some 39)))]) (st' := [.inr (.inr (some 39))]) (h' := gc_h sh I172 J159 A) (C := ((True ∧ True) ∧ True)) rfl ⟨⟨trivial, trivial⟩, trivial⟩ ?_
          refine gv_get hD rfl rfl S_39 ⟨by decide, B_39⟩ (gc_hA S_39 rfl A_39_1) ?_
          show gv_X _ _ (119, [(4, .inl z187), (3, .inl z156), (1, .inr (.inl (J 23 9))), (0, .inr (.inr (some 39)))], [.inr (.inr (some 23))], sh, gc_h sh I172 J159 A)
          obtain ⟨r188, h188, E188, P188⟩ := d_X9_advance (ws0 := ws0) (tb := tb) hws htb sh ro I172 J159 A hI172 23  (gc_b23 hb)    (by omega) 
          obtain ⟨I189, J190, rfl, hI189, g188, k188, ⟨rfl, q188⟩⟩ := P188
          have FI189 := gc_frc (W := fun q j => (q = 39 ∧ j = 3) ∨ (q = 39 ∧ j = 4) ∨ (q = 23 ∧ j = 5) ∨ (q = 23 ∧ j = 6) ∨ (q = 23 ∧ j = 7) ∨ (q = 23 ∧ j = 8) ∨ q = 19 ∨ (q = 1 ∧ j = 13)) (V := fun q j => (q = 23 ∧ j = 5) ∨ (q = 23 ∧ j = 6) ∨ (q = 23 ∧ j = 7) ∨ (q = 23 ∧ j = 8)) FI172 (fun q j h => (h.elim (fun h => (Or.inr (Or.inr (Or.inl h)))) (fun h => (h.elim (fun h => (Or.inr (Or.inr (Or.inr (Or.inl h))))) (fun h => (h.elim (fun h => (Or.inr (Or.inr (Or.inr (Or.inr (Or.inl h)))))) (fun h => (Or.inr (Or.inr (Or.inr (Or.inr (Or.inr (Or.inl h))))))))))))) g188
          have FJ190 := gc_frc (W := fun q j => (q = 23 ∧ j = 9) ∨ q = 18) (V := fun q j => (q = 23 ∧ j = 9)) FJ159 (fun q j h => (Or.inl h)) k188
          have t191 := (g188 23 1).resolve_left (by omega)
          have t192 := (g188 1 13).resolve_left (by omega)
          have t193 := (g188 6 1).resolve_left (by omega)
          have f194 := (show 0 ≤ I189 23 1 ∧ I189 23 1 ≤ 1000 from gc_in hI189 R_23 rfl rfl)
          have f195 := (show 0 ≤ I189 23 5 ∧ I189 23 5 ≤ 1000 from gc_in hI189 R_23 rfl rfl)
          have f196 := (show 0 ≤ I189 23 6 ∧ I189 23 6 ≤ 1001 from gc_in hI189 R_23 rfl rfl)
          have f197 := (show 0 ≤ I189 23 7 ∧ I189 23 7 ≤ 125 from gc_in hI189 R_23 rfl rfl)
          have f198 := (show 0 ≤ I189 1 13 ∧ I189 1 13 ≤ 64 from gc_in hI189 R_1 rfl rfl)
          have f199 := (show 0 ≤ I189 6 1 ∧ I189 6 1 ≤ 8 from gc_in hI189 R_6 rfl rfl)
          have KLT_I189 : gc_LT I189 := q188.2.2.2.2.2.2.2
          refine gv_callV hD rfl (As := []) (st := []) rfl B_23 S_23 rfl (gc_lV6 hws rfl) (Nat.le_of_ble_eq_true rfl) (gz_Ev_mono (d := 2) (by decide) E188) ?_
          show gv_X _ _ (122, [(4, .inl z187), (3, .inl z156), (1, .inr (.inl (J 23 9))), (0, .inr (.inr (some 39)))], [], sh, gc_h sh I189 J190 A)
          refine gv_pick [3, 2, 1, 0] rfl ?_
          exact L122 I189 J190 (J 23 9) z156 z187 hI189 FI189 FJ190 KLT_I189 (by omega)
        · show gv_X _ _ (94, [(4, .inl (-1)), (3, .inl z156), (1, .inr (.inl (J 23 9))), (0, .inr (.inr (some 39)))], [], sh, gc_h sh I172 J159 A)
          refine gv_run 1 true hD (pc' := 95) (lv' := [(4, .inl (-1)), (3, .inl z156), (1, .inr (.inl (J 23 9))), (0, .inr (.inr (some 39)))]) (st' := [.inl 0]) (h' := gc_h sh I172 J159 A) (C := (True ∧ True)) rfl ⟨trivial, trivial⟩ ?_
          exact gv_zret hD rfl (by omega) ⟨I172, J159, rfl, hI172, FI172, FJ159, KLT_I172, ⟨_, rfl, by omega⟩⟩
    · show gv_X _ _ (39, [(1, .inr (.inl (J 23 9))), (0, .inr (.inr (some 39)))], [], sh, gc_h sh I141 J130 A)
      refine gv_run 1 true hD (pc' := 40) (lv' := [(1, .inr (.inl (J 23 9))), (0, .inr (.inr (some 39)))]) (st' := [.inl 0]) (h' := gc_h sh I141 J130 A) (C := (True ∧ True)) rfl ⟨trivial, trivial⟩ ?_
      exact gv_zret hD rfl (by omega) ⟨I141, J130, rfl, hI141, FI141, FJ130, KLT_I141, ⟨_, rfl, by omega⟩⟩
  · show gv_X _ _ (8, [(0, .inr (.inr (some 39)))], [], sh, gc_h sh I113 J A)
    refine gv_run 1 true hD (pc' := 9) (lv' := [(0, .inr (.inr (some 39)))]) (st' := [.inl 0]) (h' := gc_h sh I113 J A) (C := (True ∧ True)) rfl ⟨trivial, trivial⟩ ?_
    exact gv_zret hD rfl (by omega) ⟨I113, J, rfl, hI113, FI113, FJ, KLT_I113, ⟨_, rfl, by omega⟩⟩
