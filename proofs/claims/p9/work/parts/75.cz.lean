def gc_WV (t : Nat) (I : gr_I) : Prop := ∀ k : Nat, (k : Int) < I 48 6 → 0 ≤ I 54 k ∨ -1 - I 54 k < I t 13
theorem gc_WV_fr {t : Nat} {I Iₚ : gr_I} (h : gc_WV t I) (h6 : Iₚ 48 6 = I 48 6) (ht : Iₚ t 13 = I t 13) (hf : ∀ k, Iₚ 54 k = I 54 k) : gc_WV t Iₚ := fun k hk => by rw [hf, ht]; exact h k (by omega)
theorem gc_WV_push {t : Nat} {I Iₚ : gr_I} (h : gc_WV t I) (h0 : 0 ≤ I 48 6) (h6 : Iₚ 48 6 = I 48 6 + 1) (ht : Iₚ t 13 = I t 13) (hf : ∀ k, ¬ k = Int.toNat (I 48 6) → Iₚ 54 k = I 54 k) (hz : 0 ≤ Iₚ 54 (Int.toNat (I 48 6)) ∨ -1 - Iₚ 54 (Int.toNat (I 48 6)) < I t 13) : gc_WV t Iₚ := fun k hk => by
  rw [ht]
  by_cases e : k = Int.toNat (I 48 6)
  · rw [e]; exact hz
  · rw [hf k e]; exact h k (by omega)
def gc_WB (wb : Int) (I : gr_I) : Prop := ∀ k : Nat, (k : Int) < I 48 6 → I 54 k < wb
theorem gc_WB_fr {wb : Int} {I Iₚ : gr_I} (h : gc_WB wb I) (h6 : Iₚ 48 6 = I 48 6) (hf : ∀ k, Iₚ 54 k = I 54 k) : gc_WB wb Iₚ := fun k hk => by rw [hf]; exact h k (by omega)
theorem gc_WB_0 {wb : Int} {I : gr_I} (h : I 48 6 = 0) : gc_WB wb I := fun k hk => by omega
theorem gc_WB_push {wb : Int} {I Iₚ : gr_I} (h : gc_WB wb I) (h0 : 0 ≤ I 48 6) (h6 : Iₚ 48 6 = I 48 6 + 1) (hf : ∀ k, ¬ k = Int.toNat (I 48 6) → Iₚ 54 k = I 54 k) (hz : Iₚ 54 (Int.toNat (I 48 6)) < wb) : gc_WB wb Iₚ := fun k hk => by
  by_cases e : k = Int.toNat (I 48 6)
  · rw [e]; exact hz
  · rw [hf k e]; exact h k (by omega)
theorem gc_WV_0 {t : Nat} {I : gr_I} (h : I 48 6 = 0) : gc_WV t I := fun k hk => by omega
def gc_FN (I : gr_I) : Prop := ∀ k : Nat, k < 18432 → I 49 k + I 50 k ≤ 3000
theorem gc_FN_fr {I Iₚ : gr_I} (h : gc_FN I) (h1 : ∀ k, Iₚ 49 k = I 49 k) (h2 : ∀ k, Iₚ 50 k = I 50 k) : gc_FN Iₚ := fun k hk => by rw [h1, h2]; exact h k hk
theorem gc_FN_2 {I I1 I2 : gr_I} {s : Nat} (h : gc_FN I) (p1 : ∀ q j, ¬ (q = 49 ∧ j = s) → I1 q j = I q j) (p2 : ∀ q j, ¬ (q = 50 ∧ j = s) → I2 q j = I1 q j) (hz : I1 49 s + I2 50 s ≤ 3000) : gc_FN I2 := fun k hk => by
  by_cases e : k = s
  · rw [e, p2 49 s (fun h => absurd h.1 (by first | exact gz_ne rfl | decide))]; exact hz
  · rw [p2 49 k (fun h => e h.2), p2 50 k (fun h => e h.2), p1 49 k (fun h => e h.2), p1 50 k (fun h => e h.2)]; exact h k hk
def gc_cn (f : Nat → Int) (k i : Int) : Nat → Int
  | 0 => 0
  | m + 1 => gc_cn f k i m + (if f m < k ∨ (f m = k ∧ (m : Int) < i) then 1 else 0)
theorem gc_cn_r (f : Nat → Int) (k i : Int) : ∀ m : Nat, 0 ≤ gc_cn f k i m ∧ gc_cn f k i m ≤ (m : Int)
  | 0 => ⟨Int.le_refl _, Int.le_refl _⟩
  | m + 1 => by
    have h := gc_cn_r f k i m
    unfold gc_cn
    split <;> omega
theorem gc_cn_0 {f : Nat → Int} (hf : ∀ j, 0 ≤ f j) : ∀ m : Nat, gc_cn f 0 0 m = 0
  | 0 => rfl
  | m + 1 => by
    have h := gc_cn_0 hf m
    have h2 := hf m
    unfold gc_cn
    rw [if_neg (by omega), h]
    rfl
set_option maxHeartbeats 8000000 in
theorem gc_cn_mis {f : Nat → Int} {k i : Int} (hi : 0 ≤ i) (h : ¬ f (Int.toNat i) = k) : ∀ m : Nat, gc_cn f k (i + 1) m = gc_cn f k i m
  | 0 => rfl
  | m + 1 => by
    have h1 := gc_cn_mis hi h m
    unfold gc_cn
    rw [h1]
    by_cases e : m = Int.toNat i
    · rw [← e] at h
      by_cases e2 : f m < k
      · rw [if_pos (Or.inl e2), if_pos (Or.inl e2)]
      · rw [if_neg (by exact gz_m 0 (by omega)), if_neg (by exact gz_m 1 (by omega))]
    · by_cases e2 : f m < k ∨ (f m = k ∧ (m : Int) < i)
      · rw [if_pos (by exact gz_m 2 (by omega)), if_pos e2]
      · rw [if_neg (by exact gz_m 3 (by omega)), if_neg e2]
theorem gc_cn_hit {f : Nat → Int} {k i : Int} (hi : 0 ≤ i) (h : f (Int.toNat i) = k) : ∀ m : Nat, gc_cn f k (i + 1) m = gc_cn f k i m + (if Int.toNat i < m then 1 else 0)
  | 0 => by rw [if_neg (by exact gz_m 0 (by omega))]; rfl
  | m + 1 => by
    have h1 := gc_cn_hit hi h m
    unfold gc_cn
    rw [h1]
    by_cases e : m = Int.toNat i
    · rw [← e] at h ⊢
      rw [if_pos (c := f m < k ∨ (f m = k ∧ (m : Int) < i + 1)) (by exact gz_m 1 (by omega)), if_neg (c := f m < k ∨ (f m = k ∧ (m : Int) < i)) (by exact gz_m 2 (by omega)), if_neg (by exact gz_m 3 (by omega)), if_pos (by exact gz_m 4 (by omega))]
    · rw [show (if f m < k ∨ (f m = k ∧ (m : Int) < i + 1) then (1 : Int) else 0) = (if f m < k ∨ (f m = k ∧ (m : Int) < i) then 1 else 0) from by
        by_cases e2 : f m < k ∨ (f m = k ∧ (m : Int) < i)
        · rw [if_pos (by exact gz_m 5 (by omega)), if_pos e2]
        · rw [if_neg (by exact gz_m 6 (by omega)), if_neg e2], show (if Int.toNat i < m + 1 then (1 : Int) else 0) = (if Int.toNat i < m then 1 else 0) from by
        by_cases e3 : Int.toNat i < m
        · rw [if_pos (by exact gz_m 7 (by omega)), if_pos e3]
        · rw [if_neg (by exact gz_m 8 (by omega)), if_neg e3]]
      exact gz_m 9 (by omega)
theorem gc_cn_nx {f : Nat → Int} {k i : Int} : ∀ m : Nat, (m : Int) ≤ i → gc_cn f (k + 1) 0 m = gc_cn f k i m
  | 0, _ => rfl
  | m + 1, h => by
    have h1 := gc_cn_nx (f := f) (k := k) (i := i) m (by exact gz_m 0 (by omega))
    unfold gc_cn
    rw [h1]
    by_cases e : f m ≤ k
    · rw [if_pos (by exact gz_m 1 (by omega)), if_pos (by exact gz_m 2 (by omega))]
    · rw [if_neg (by exact gz_m 3 (by omega)), if_neg (by exact gz_m 4 (by omega))]
def gc_LO (t : Nat) (I : gr_I) : Prop := gc_rg 57 I (I 56 (Int.toNat (I 2 1))) 0 (I t 13 - 1) ∧ gc_rg 56 I (I 2 1 + 1) 0 (I 56 (Int.toNat (I 2 1)))
theorem gc_LO_fr {t : Nat} {I Iₚ : gr_I} (h : gc_LO t I) (h2 : Iₚ 2 1 = I 2 1) (ht : Iₚ t 13 = I t 13) (h6 : ∀ k, Iₚ 56 k = I 56 k) (h7 : ∀ k, Iₚ 57 k = I 57 k) : gc_LO t Iₚ := by
  unfold gc_LO at h ⊢
  rw [h2, ht, h6]
  exact ⟨gc_rg_fr h.1 h7, gc_rg_fr h.2 h6⟩
def gc_lk (A : gc_A) (I : gr_I) (t j : Nat) : Int := match A (t + 16) j with
  | some q => I 11 (Int.toNat (I q 1))
  | none => 0
theorem gc_lk_at {A : gc_A} {I : gr_I} {t j q : Nat} (h : A (t + 16) j = some q) : gc_lk A I t j = I 11 (Int.toNat (I q 1)) := by
  unfold gc_lk
  rw [h]
theorem gc_lk_0 {ro : Nat → Nat} {A : gc_A} {I : gr_I} {t : Nat} (hI : gc_Inv ro I) (hr : ro 11 = 25) (j : Nat) : 0 ≤ gc_lk A I t j := by
  unfold gc_lk
  split
  · rename_i q _
    exact (show 0 ≤ I 11 (Int.toNat (I q 1)) ∧ I 11 (Int.toNat (I q 1)) ≤ 31 from gc_in hI hr rfl rfl).1
  · decide
theorem gc_rg_m {n : Nat} {I : gr_I} {m m' lo hi : Int} (h : gc_rg n I m lo hi) (e : m' ≤ m) : gc_rg n I m' lo hi := fun k a b => h k a (by omega)
theorem gc_rg_hi {n : Nat} {I : gr_I} {m lo hi hi' : Int} (h : gc_rg n I m lo hi) (e : hi ≤ hi') : gc_rg n I m lo hi' := fun k a b => by have := h k a b; omega
def gc_TR (I : gr_I) : Prop := I 48 12 = 1 ∨ I 48 11 ≤ 400000
theorem gc_TR_fr {I Iₚ : gr_I} (h : gc_TR I) (h1 : Iₚ 48 11 = I 48 11) (h2 : Iₚ 48 12 = I 48 12) : gc_TR Iₚ := by
  unfold gc_TR at h ⊢
  rw [h1, h2]
  exact h
theorem gc_TR_pw {I Iₚ : gr_I} (h : gc_TR I) (h2 : Iₚ 48 12 = 1 ∨ Iₚ 48 12 = I 48 12) (h1 : Iₚ 48 11 = I 48 11) : gc_TR Iₚ := by
  unfold gc_TR at h ⊢
  omega
theorem gc_TR_at {I : gr_I} (h : gc_TR I) (h2 : ¬ I 48 12 = 1) : I 48 11 ≤ 400000 := h.resolve_left h2
def gc_u2 (x y z : Int) : Prop := 2 ≤ x ∨ y < z
def gc_WA (σ : Nat → Int) (I : gr_I) : Prop := ∀ w : Nat, (w : Int) < I 48 6 → I 53 w < I 48 3 ∧ (I 54 w < 0 → ∀ s : Int, 0 ≤ s → s < 4 → s < σ (Int.toNat (-1 - I 54 w)) → I 55 (Int.toNat ((w : Int) * 4 + s)) < I 48 3)
theorem gc_WA_fr {σ : Nat → Int} {I Iₚ : gr_I} (h : gc_WA σ I) (h6 : Iₚ 48 6 = I 48 6) (h3 : I 48 3 ≤ Iₚ 48 3) (r3 : ∀ k, Iₚ 53 k = I 53 k) (r4 : ∀ k, Iₚ 54 k = I 54 k) (r5 : ∀ k, Iₚ 55 k = I 55 k) : gc_WA σ Iₚ := fun w hw => by
  have h9 := h w (by omega)
  rw [r3, r4]
  exact ⟨by omega, fun a s b c d => by rw [r5]; have := h9.2 a s b c d; omega⟩
theorem gc_WA_0 {σ : Nat → Int} {I : gr_I} (h : I 48 6 = 0) : gc_WA σ I := fun w hw => by omega
theorem gc_WA_push {σ : Nat → Int} {I Iₚ : gr_I} {m : Nat} {a : Int} (h : gc_WA σ I) (hm : I 48 6 = (m : Int)) (h6 : Iₚ 48 6 = (m : Int) + 1) (h3 : I 48 3 ≤ Iₚ 48 3) (r3 : ∀ k, ¬ k = m → Iₚ 53 k = I 53 k) (r4 : ∀ k, ¬ k = m → Iₚ 54 k = I 54 k) (r5 : ∀ k, k < 4 * m → Iₚ 55 k = I 55 k) (z3 : Iₚ 53 m < Iₚ 48 3) (z4 : Iₚ 54 m = a) (z5 : a < 0 → ∀ s : Int, 0 ≤ s → s < 4 → s < σ (Int.toNat (-1 - a)) → Iₚ 55 (Int.toNat ((m : Int) * 4 + s)) < Iₚ 48 3) : gc_WA σ Iₚ := fun w hw => by
  by_cases e : w = m
  · subst e
    rw [z4]
    exact ⟨z3, z5⟩
  · have h9 := h w (by omega)
    rw [r3 w e, r4 w e]
    exact ⟨by omega, fun a s b c d => by rw [r5 _ (by omega)]; have := h9.2 a s b c d; omega⟩
def gc_FD (nw nk sz bg kd : Int) (I : gr_I) : Prop := ∀ a l k : Int, 0 ≤ a → 1 ≤ l → a + l ≤ nw → 0 ≤ k → k < nk → (l < sz ∨ (l = sz ∧ (a < bg ∨ (a = bg ∧ k < kd)))) → I 49 (Int.toNat ((a * 24 + l - 1) * 32 + k)) + I 50 (Int.toNat ((a * 24 + l - 1) * 32 + k)) ≤ I 48 3
theorem gc_FD_fr {nw nk sz bg kd : Int} {I Iₚ : gr_I} (h : gc_FD nw nk sz bg kd I) (h3 : I 48 3 ≤ Iₚ 48 3) (r1 : ∀ k, Iₚ 49 k = I 49 k) (r2 : ∀ k, Iₚ 50 k = I 50 k) : gc_FD nw nk sz bg kd Iₚ := fun a l k h1 h2 h4 h5 h6 h7 => by rw [r1, r2]; have := h a l k h1 h2 h4 h5 h6 h7; omega
def gc_OF (nw nk sz bg kd : Int) (I : gr_I) : Prop := I 48 12 = 1 ∨ gc_FD nw nk sz bg kd I
theorem gc_FD_0 {nw nk : Int} {I : gr_I} : gc_FD nw nk 1 0 0 I := fun a l k h1 h2 h4 h5 h6 h7 => by omega
theorem gc_FD_k {nw nk sz bg k : Int} {I : gr_I} (h : gc_FD nw nk sz bg k I) (hk : nk ≤ k) : gc_FD nw nk sz (bg + 1) 0 I := fun a l k h1 h2 h4 h5 h6 h7 => h a l k h1 h2 h4 h5 h6 (by omega)
theorem gc_FD_b {nw nk sz bg : Int} {I : gr_I} (h : gc_FD nw nk sz bg 0 I) (hb : nw < bg + sz) : gc_FD nw nk (sz + 1) 0 0 I := fun a l k h1 h2 h4 h5 h6 h7 => h a l k h1 h2 h4 h5 h6 (by omega)
theorem gc_FD_nx {nw nk sz bg kd : Int} {I I1 I2 : gr_I} {s : Nat} (h : gc_FD nw nk sz bg kd I) (p1 : ∀ q j, ¬ (q = 49 ∧ j = s) → I1 q j = I q j) (p2 : ∀ q j, ¬ (q = 50 ∧ j = s) → I2 q j = I1 q j) (hs : s = Int.toNat ((bg * 24 + sz - 1) * 32 + kd)) (hz : I1 49 s + I2 50 s ≤ I2 48 3) : gc_FD nw nk sz bg (kd + 1) I2 := fun a l k h1 h2 h4 h5 h6 h7 => by
  have e3 : I2 48 3 = I 48 3 := (p2 48 3 (fun h => absurd h.1 (by first | exact gz_ne rfl | decide))).trans (p1 48 3 (fun h => absurd h.1 (by first | exact gz_ne rfl | decide)))
  by_cases e : (Int.toNat ((a * 24 + l - 1) * 32 + k)) = s
  · rw [e, p2 49 s (fun h => absurd h.1 (by first | exact gz_ne rfl | decide))]
    exact hz
  · rw [p2 49 _ (fun h => absurd h.1 (by first | exact gz_ne rfl | decide)), p2 50 _ (fun h => e h.2), p1 49 _ (fun h => e h.2), p1 50 _ (fun h => absurd h.1 (by first | exact gz_ne rfl | decide)), e3]
    refine h a l k h1 h2 h4 h5 h6 ?_
    rcases h7 with h7 | ⟨h8, h7 | ⟨h9, h7⟩⟩
    · exact Or.inl h7
    · exact Or.inr ⟨h8, Or.inl h7⟩
    · refine Or.inr ⟨h8, Or.inr ⟨h9, ?_⟩⟩
      refine Classical.byContradiction fun hn => e ?_
      rw [h8, h9, show k = kd from by omega]
      exact hs.symm
def gc_FZ (I : gr_I) : Prop := ∀ j : Nat, j < 18432 → I 2 1 ≤ ((j % 32 : Nat) : Int) → I 49 j + I 50 j ≤ 0
theorem gc_FZ_fr {I Iₚ : gr_I} (h : gc_FZ I) (h2 : Iₚ 2 1 = I 2 1) (r1 : ∀ k, Iₚ 49 k = I 49 k) (r2 : ∀ k, Iₚ 50 k = I 50 k) : gc_FZ Iₚ := fun j hj hk => by rw [r1, r2]; exact h j hj (by omega)
theorem gc_FZ_2 {I I1 I2 : gr_I} {s : Nat} (h : gc_FZ I) (p1 : ∀ q j, ¬ (q = 49 ∧ j = s) → I1 q j = I q j) (p2 : ∀ q j, ¬ (q = 50 ∧ j = s) → I2 q j = I1 q j) (hs : ((s % 32 : Nat) : Int) < I 2 1) : gc_FZ I2 := fun j hj hk => by
  have e2 : I2 2 1 = I 2 1 := (p2 2 1 (fun h => absurd h.1 (by first | exact gz_ne rfl | decide))).trans (p1 2 1 (fun h => absurd h.1 (by first | exact gz_ne rfl | decide)))
  have e : ¬ j = s := fun e => by subst e; omega
  rw [p2 49 _ (fun h => e h.2), p2 50 _ (fun h => e h.2), p1 49 _ (fun h => e h.2), p1 50 _ (fun h => e h.2)]
  exact h j hj (by omega)
theorem gc_FDZ {nw nk sz bg kd : Int} {I : gr_I} {a l k j : Int} (h : gc_FD nw nk sz bg kd I) (hz : gc_FZ I) (e : I 2 1 = nk) (hj : j = (a * 24 + l - 1) * 32 + k) (ha : 0 ≤ a ∧ 1 ≤ l ∧ a + l ≤ nw ∧ nw ≤ 24) (hk : 0 ≤ k ∧ k ≤ 31) (ho : l < sz ∨ (l = sz ∧ (a < bg ∨ (a = bg ∧ k < kd)))) (h3 : 0 ≤ I 48 3) : I 49 (Int.toNat j) + I 50 (Int.toNat j) ≤ I 48 3 := by
  subst hj
  by_cases hn : k < nk
  · exact h a l k ha.1 ha.2.1 ha.2.2.1 hk.1 hn ho
  · have := hz (Int.toNat ((a * 24 + l - 1) * 32 + k)) (by omega) (by omega)
    omega
def gc_CH (m : Int) (I : gr_I) : Prop := ∀ s : Nat, (s : Int) < m → I 58 s < I 48 3
theorem gc_CH_fr {m : Int} {I Iₚ : gr_I} (h : gc_CH m I) (h3 : I 48 3 ≤ Iₚ 48 3) (r : ∀ k, Iₚ 58 k = I 58 k) : gc_CH m Iₚ := fun s hs => by rw [r]; have := h s hs; omega
theorem gc_CH_w {m m' : Int} {I : gr_I} (h : gc_CH m I) (e : m' ≤ m) : gc_CH m' I := fun s hs => h s (by omega)
theorem gc_CH_push {m : Int} {I Iₚ : gr_I} (h : gc_CH m I) (h0 : 0 ≤ m) (h3 : I 48 3 ≤ Iₚ 48 3) (r : ∀ k, ¬ k = Int.toNat m → Iₚ 58 k = I 58 k) (hz : Iₚ 58 (Int.toNat m) < Iₚ 48 3) : gc_CH (m + 1) Iₚ := fun s hs => by
  by_cases e : s = Int.toNat m
  · rw [e]; exact hz
  · rw [r s e]; have := h s (by omega); omega
def gc_un (q : Nat) (kd : Int) (I : gr_I) : Prop := I q 4 = 1 → 0 ≤ I (q + 1) 0 → I 13 (Int.toNat (I q 1 * 4 + I (q + 1) 0)) < kd
theorem gc_un_fr {q : Nat} {kd : Int} {I Iₚ : gr_I} (h : gc_un q kd I) (e4 : Iₚ q 4 = I q 4) (e1 : Iₚ q 1 = I q 1) (e0 : Iₚ (q + 1) 0 = I (q + 1) 0) (e3 : ∀ k, Iₚ 13 k = I 13 k) : gc_un q kd Iₚ := by
  unfold gc_un at h ⊢
  rw [e4, e1, e0, e3]
  exact h
theorem gc_un_at {q : Nat} {kd a : Int} {I : gr_I} (h : gc_un q kd I) (ha : 0 ≤ a ∧ a < I q 4) (hz : 0 ≤ I (q + 1) (Int.toNat a)) : 2 ≤ I q 4 ∨ I 13 (Int.toNat (I q 1 * 4 + I (q + 1) (Int.toNat a))) < kd := by
  by_cases e : I q 4 = 1
  · have e2 : a = 0 := by omega
    subst e2
    exact Or.inr (h e hz)
  · exact Or.inl (by omega)
def gc_LK (κ : Nat → Int) (I : gr_I) : Prop := ∀ k : Nat, (k : Int) ≤ I 2 1 → ∀ i : Nat, (i : Int) < I 56 k → κ (Int.toNat (I 57 i)) < (k : Int)
theorem gc_LK_fr {κ : Nat → Int} {I Iₚ : gr_I} (h : gc_LK κ I) (h2 : Iₚ 2 1 = I 2 1) (r6 : ∀ k, Iₚ 56 k = I 56 k) (r7 : ∀ k, Iₚ 57 k = I 57 k) : gc_LK κ Iₚ := fun k hk i hi => by rw [r7]; rw [r6] at hi; exact h k (by omega) i hi
def gc_o1 (κ : Nat → Int) (I : gr_I) (n b : Int) : Prop := ∀ i : Nat, (i : Int) < n → κ (Int.toNat (I 57 i)) < b
def gc_o2 (κ : Nat → Int) (I : gr_I) (m : Int) : Prop := ∀ k : Nat, (k : Int) < m → ∀ i : Nat, (i : Int) < I 56 k → κ (Int.toNat (I 57 i)) < (k : Int)
theorem gc_o1_fr {κ : Nat → Int} {I Iₚ : gr_I} {n b b' : Int} (h : gc_o1 κ I n b) (hb : b ≤ b') (r : ∀ k, Iₚ 57 k = I 57 k) : gc_o1 κ Iₚ n b' := fun i hi => by rw [r]; have := h i hi; omega
theorem gc_o1_st {κ : Nat → Int} {I Iₚ : gr_I} {n b : Int} (h : gc_o1 κ I n b) (h0 : 0 ≤ n) (p : ∀ q j, ¬ (q = 57 ∧ j = Int.toNat n) → Iₚ q j = I q j) (hz : κ (Int.toNat (Iₚ 57 (Int.toNat n))) < b) : gc_o1 κ Iₚ (n + 1) b := fun i hi => by
  by_cases e : i = Int.toNat n
  · rw [e]; exact hz
  · rw [p 57 i (fun h9 => e h9.2)]; exact h i (by omega)
theorem gc_o2_56 {κ : Nat → Int} {I Iₚ : gr_I} {m n : Int} (h : gc_o2 κ I m) (h1 : gc_o1 κ I n m) (h0 : 0 ≤ m) (p : ∀ q j, ¬ (q = 56 ∧ j = Int.toNat m) → Iₚ q j = I q j) (hz : Iₚ 56 (Int.toNat m) = n) : gc_o2 κ Iₚ (m + 1) := fun k hk i hi => by
  rw [p 57 i (fun h9 => absurd h9.1 (by decide))]
  by_cases e : k = Int.toNat m
  · subst e
    rw [hz] at hi
    have := h1 i hi
    omega
  · rw [p 56 k (fun h9 => e h9.2)] at hi
    exact h k (by omega) i hi
theorem gc_o2_57 {κ : Nat → Int} {I Iₚ : gr_I} {m n : Int} (h : gc_o2 κ I m) (hr : gc_rg 56 I m 0 n) (p : ∀ q j, ¬ (q = 57 ∧ j = Int.toNat n) → Iₚ q j = I q j) : gc_o2 κ Iₚ m := fun k hk i hi => by
  rw [p 56 k (fun h9 => absurd h9.1 (by decide))] at hi
  have h8 := hr (k : Int) (by omega) hk
  rw [show Int.toNat (k : Int) = k from by omega] at h8
  rw [p 57 i (fun h9 => by have := h9.2; omega)]
  exact h k hk i hi
theorem gc_LK_of {κ : Nat → Int} {I : gr_I} (h : gc_o2 κ I (I 2 1 + 1)) : gc_LK κ I := fun k hk i hi => h k (by omega) i hi
theorem gc_lk_fr {A : gc_A} {I Iₚ : gr_I} {t : Nat} (h11 : ∀ k, Iₚ 11 k = I 11 k) (h1 : ∀ q, Iₚ q 1 = I q 1) : gc_lk A Iₚ t = gc_lk A I t := funext fun j => by
  unfold gc_lk
  split
  · rw [h1, h11]
  · rfl
def gc_lsl (A : gc_A) (I : gr_I) (t j : Nat) : Int := match A (t + 16) j with
  | some q => I q 8
  | none => 0
theorem gc_lsl_at {A : gc_A} {I : gr_I} {t j q : Nat} (h : A (t + 16) j = some q) : gc_lsl A I t j = I q 8 := by
  unfold gc_lsl
  rw [h]
set_option maxHeartbeats 8000000 in
set_option maxRecDepth 100000 in
theorem d_X0_forget {ws0 : List Cond} {tb : String → gz_T} (hws : gc_Ws ws0) (htb : gc_tbs tb) (sh : gz_Sh) (ro : Nat → Nat) (I : gr_I) (J : gr_J) (A : gc_A) (hI : gc_Inv ro I)  (hb : gc_Base sh ro A)   : ∃ r hₚ, gz_Ev ws0 tb 1 (yX0_forget, cX0_forget, 1, none) [.inr (.inr (some 48))] sh (gc_h sh I J A) r sh hₚ 0 0 ∧ (∃ (Iₚ : gr_I) (Jₚ : gr_J), hₚ = gc_h sh Iₚ Jₚ A ∧ gc_Inv ro Iₚ ∧ (∀ q j : Nat, ((q = 48 ∧ j = 3) ∨ (q = 48 ∧ j = 6)) ∨ Iₚ q j = I q j) ∧ (∀ q j : Nat, (False) ∨ Jₚ q j = J q j) ∧ r = none ∧ (Iₚ 48 3 = 0) ∧ (Iₚ 48 6 = 0)) := by
  have FI : ∀ q j : Nat, ((q = 48 ∧ j = 3) ∨ (q = 48 ∧ j = 6)) ∨ I q j = I q j := fun _ _ => Or.inr rfl
  have FJ : ∀ q j : Nat, (False) ∨ J q j = J q j := fun _ _ => Or.inr rfl
  have B_48 := gz_hi (show 48 < 1000000 from by decide)
  have R_48 := gz_hi (show ro 48 = 49 from gc_bR_48 hb)
  have S_48 : sh[48]? = some (false, 0, 22) := gc_bS_48 hb
  have hD : gv_D (gc_E0 ws0 tb 0 (yX0_forget, cX0_forget, 1, none) kX0_forget) := gq_of oX0_forget
  refine gc_ev0 (d := 0) (l := kX0_forget) (Po := fun r hₚ => (∃ (Iₚ : gr_I) (Jₚ : gr_J), hₚ = gc_h sh Iₚ Jₚ A ∧ gc_Inv ro Iₚ ∧ (∀ q j : Nat, ((q = 48 ∧ j = 3) ∨ (q = 48 ∧ j = 6)) ∨ Iₚ q j = I q j) ∧ (∀ q j : Nat, (False) ∨ Jₚ q j = J q j) ∧ r = none ∧ (Iₚ 48 3 = 0) ∧ (Iₚ 48 6 = 0))) htb rfl (Nat.le_of_ble_eq_true rfl) ?_
  refine gv_run 2 true hD (pcₚ := 2) (lvₚ := [(0, .inr (.inr (some 48)))]) (stₚ := [.inl 0, .inr (.inr (some 48))]) (hₚ := gc_h sh I J A) (C := ((True ∧ True) ∧ True)) rfl ⟨⟨trivial, trivial⟩, trivial⟩ ?_
  refine gv_put hD rfl rfl S_48 ⟨by decide, (gz_sh B_48)⟩ rfl trivial ?_
  refine gc_st (k := 3) hI S_48 rfl (gz_sh R_48) (lo := 0) (hi := 3000) rfl rfl (by (/-0-/first | omega | (simp only [gz_hd] at *; omega))) (by (/-1-/first | omega | (simp only [gz_hd] at *; omega))) (fun I3 hI3 q4 p4 => ?_)
  have FI3 := gc_frs (W := fun q j => (q = 48 ∧ j = 3) ∨ (q = 48 ∧ j = 6)) FI (Or.inl ⟨rfl, rfl⟩) p4
  show gv_X _ _ (5, [(0, .inr (.inr (some 48)))], [], sh, gc_h sh I3 J A)
  refine gv_run 2 true hD (pcₚ := 7) (lvₚ := [(0, .inr (.inr (some 48)))]) (stₚ := [.inl 0, .inr (.inr (some 48))]) (hₚ := gc_h sh I3 J A) (C := ((True ∧ True) ∧ True)) rfl ⟨⟨trivial, trivial⟩, trivial⟩ ?_
  refine gv_put hD rfl rfl S_48 ⟨by decide, (gz_sh B_48)⟩ rfl trivial ?_
  refine gc_st (k := 6) hI3 S_48 rfl (gz_sh R_48) (lo := 0) (hi := 9000) rfl rfl (by (/-2-/first | omega | (simp only [gz_hd] at *; omega))) (by (/-3-/first | omega | (simp only [gz_hd] at *; omega))) (fun I7 hI7 q8 p8 => ?_)
  have FI7 := gc_frs (W := fun q j => (q = 48 ∧ j = 3) ∨ (q = 48 ∧ j = 6)) FI3 (Or.inr ⟨rfl, rfl⟩) p8
  have t9 := gz_hi (p8 48 3 (fun h => absurd h.2 (by first | exact gz_ne rfl | decide)))
  show gv_X _ _ (10, [(0, .inr (.inr (some 48)))], [], sh, gc_h sh I7 J A)
  exact gv_vret hD rfl ⟨I7, J, rfl, hI7, FI7, FJ, ⟨rfl, by (/-4-/first | (and_intros; (have o1 := gz_sh t9; omega); (omega)) | (simp only [gz_hd] at *; omega))⟩⟩
set_option maxHeartbeats 8000000 in
set_option maxRecDepth 100000 in
theorem d_X0_forgetTries {ws0 : List Cond} {tb : String → gz_T} (hws : gc_Ws ws0) (htb : gc_tbs tb) (sh : gz_Sh) (ro : Nat → Nat) (I : gr_I) (J : gr_J) (A : gc_A) (hI : gc_Inv ro I)  (hb : gc_Base sh ro A)   : ∃ r hₚ, gz_Ev ws0 tb 1 (yX0_forgetTries, cX0_forgetTries, 1, none) [.inr (.inr (some 48))] sh (gc_h sh I J A) r sh hₚ 0 0 ∧ (∃ (Iₚ : gr_I) (Jₚ : gr_J), hₚ = gc_h sh Iₚ Jₚ A ∧ gc_Inv ro Iₚ ∧ (∀ q j : Nat, ((q = 48 ∧ j = 11)) ∨ Iₚ q j = I q j) ∧ (∀ q j : Nat, (False) ∨ Jₚ q j = J q j) ∧ r = none ∧ (Iₚ 48 11 = 0)) := by
  have FI : ∀ q j : Nat, ((q = 48 ∧ j = 11)) ∨ I q j = I q j := fun _ _ => Or.inr rfl
  have FJ : ∀ q j : Nat, (False) ∨ J q j = J q j := fun _ _ => Or.inr rfl
  have B_48 := gz_hi (show 48 < 1000000 from by decide)
  have R_48 := gz_hi (show ro 48 = 49 from gc_bR_48 hb)
  have S_48 : sh[48]? = some (false, 0, 22) := gc_bS_48 hb
  have hD : gv_D (gc_E0 ws0 tb 0 (yX0_forgetTries, cX0_forgetTries, 1, none) kX0_forgetTries) := gq_of oX0_forgetTries
  refine gc_ev0 (d := 0) (l := kX0_forgetTries) (Po := fun r hₚ => (∃ (Iₚ : gr_I) (Jₚ : gr_J), hₚ = gc_h sh Iₚ Jₚ A ∧ gc_Inv ro Iₚ ∧ (∀ q j : Nat, ((q = 48 ∧ j = 11)) ∨ Iₚ q j = I q j) ∧ (∀ q j : Nat, (False) ∨ Jₚ q j = J q j) ∧ r = none ∧ (Iₚ 48 11 = 0))) htb rfl (Nat.le_of_ble_eq_true rfl) ?_
  refine gv_run 2 true hD (pcₚ := 2) (lvₚ := [(0, .inr (.inr (some 48)))]) (stₚ := [.inl 0, .inr (.inr (some 48))]) (hₚ := gc_h sh I J A) (C := ((True ∧ True) ∧ True)) rfl ⟨⟨trivial, trivial⟩, trivial⟩ ?_
  refine gv_put hD rfl rfl S_48 ⟨by decide, (gz_sh B_48)⟩ rfl trivial ?_
  refine gc_st (k := 11) hI S_48 rfl (gz_sh R_48) (lo := 0) (hi := 1000000) rfl rfl (by (/-0-/first | omega | (simp only [gz_hd] at *; omega))) (by (/-1-/first | omega | (simp only [gz_hd] at *; omega))) (fun I2 hI2 q3 p3 => ?_)
  have FI2 := gc_frs (W := fun q j => (q = 48 ∧ j = 11)) FI ⟨rfl, rfl⟩ p3
  show gv_X _ _ (5, [(0, .inr (.inr (some 48)))], [], sh, gc_h sh I2 J A)
  exact gv_vret hD rfl ⟨I2, J, rfl, hI2, FI2, FJ, ⟨rfl, by (/-2-/first | omega | (simp only [gz_hd] at *; omega))⟩⟩
set_option maxHeartbeats 8000000 in
set_option maxRecDepth 100000 in
theorem d_X0_spanAt {ws0 : List Cond} {tb : String → gz_T} (hws : gc_Ws ws0) (htb : gc_tbs tb) (sh : gz_Sh) (ro : Nat → Nat) (I : gr_I) (J : gr_J) (A : gc_A) (hI : gc_Inv ro I) (a1 : Int) (a2 : Int) (a3 : Int) (hb : gc_Base sh ro A) (ha1 : 0 ≤ a1 ∧ a1 ≤ 23) (ha2 : 1 ≤ a2 ∧ a2 ≤ 24) (ha3 : 0 ≤ a3 ∧ a3 ≤ 31)  : ∃ r hₚ, gz_Ev ws0 tb 1 (yX0_spanAt, cX0_spanAt, 3, (some .int)) [.inl a1, .inl a2, .inl a3] sh (gc_h sh I J A) r sh hₚ 0 0 ∧ (hₚ = gc_h sh I J A ∧ (∃ z : Int, r = some (.inl z) ∧ 0 ≤ z ∧ z ≤ 18431 ∧ (z = (a1 * 24 + a2 - 1) * 32 + a3))) := by
  have hD : gv_D (gc_E0 ws0 tb 0 (yX0_spanAt, cX0_spanAt, 3, (some .int)) kX0_spanAt) := gq_of oX0_spanAt
  refine gc_ev0 (d := 0) (l := kX0_spanAt) (Po := fun r hₚ => (hₚ = gc_h sh I J A ∧ (∃ z : Int, r = some (.inl z) ∧ 0 ≤ z ∧ z ≤ 18431 ∧ (z = (a1 * 24 + a2 - 1) * 32 + a3)))) htb rfl (Nat.le_of_ble_eq_true rfl) ?_
  refine gv_run 7 true hD (pcₚ := 8) (lvₚ := [(0, .inl a1), (1, .inl a2), (2, .inl a3)]) (stₚ := [.inl (((a1 * 24) + a2) - 1)]) (hₚ := gc_h sh I J A) (C := (((((((True ∧ True) ∧ True) ∧ True) ∧ True) ∧ True) ∧ True) ∧ True)) rfl ⟨⟨⟨⟨⟨⟨⟨trivial, trivial⟩, trivial⟩, trivial⟩, trivial⟩, trivial⟩, trivial⟩, trivial⟩ ?_
  refine gv_run 4 true hD (pcₚ := 13) (lvₚ := [(0, .inl a1), (1, .inl a2), (2, .inl a3)]) (stₚ := [.inl (((((a1 * 24) + a2) - 1) * 32) + a3)]) (hₚ := gc_h sh I J A) (C := ((((True ∧ True) ∧ True) ∧ True) ∧ True)) rfl ⟨⟨⟨⟨trivial, trivial⟩, trivial⟩, trivial⟩, trivial⟩ ?_
  exact gv_iret hD rfl ⟨rfl, ⟨_, rfl, by omega⟩⟩
set_option maxHeartbeats 8000000 in
set_option maxRecDepth 100000 in
theorem d_X0_orderLins {ws0 : List Cond} {tb : String → gz_T} (hws : gc_Ws ws0) (htb : gc_tbs tb) (sh : gz_Sh) (ro : Nat → Nat) (I : gr_I) (J : gr_J) (A : gc_A) (hI : gc_Inv ro I) (t : Nat)  (hb : gc_Base sh ro A) (h_t : gc_isTongue sh ro A t) (G_t : 144 ≤ t)  (x0 : gc_Ls sh ro A t I) (x1 : I 48 13 = (t : Int)) : ∃ r hₚ, gz_Ev ws0 tb 1 (yX0_orderLins, cX0_orderLins, 4, none) [.inr (.inr (some 48))] sh (gc_h sh I J A) r sh hₚ 0 0 ∧ (∃ (Iₚ : gr_I) (Jₚ : gr_J), hₚ = gc_h sh Iₚ Jₚ A ∧ gc_Inv ro Iₚ ∧ (∀ q j : Nat, (q = 56 ∨ q = 57) ∨ Iₚ q j = I q j) ∧ (∀ q j : Nat, (False) ∨ Jₚ q j = J q j) ∧ r = none ∧ (gc_LO t Iₚ) ∧ (gc_LK (gc_lk A I t) Iₚ)) := by
  have FI : ∀ q j : Nat, (q = 56 ∨ q = 57) ∨ I q j = I q j := fun _ _ => Or.inr rfl
  have FJ : ∀ q j : Nat, (False) ∨ J q j = J q j := fun _ _ => Or.inr rfl
  have A_1_0 : A 1 0 = some 2 := gc_bA_1_0 hb
  have A_1_6 : A 1 6 = some 11 := gc_bA_1_6 hb
  have A_48_0 : A 48 0 = some 1 := gc_bA_48_0 hb
  have A_48_15 : A 48 15 = some 56 := gc_bA_48_15 hb
  have A_48_16 : A 48 16 = some 57 := gc_bA_48_16 hb
  have B_1 := gz_hi (show 1 < 1000000 from by decide)
  have B_11 := gz_hi (show 11 < 1000000 from by decide)
  have B_2 := gz_hi (show 2 < 1000000 from by decide)
  have B_48 := gz_hi (show 48 < 1000000 from by decide)
  have B_56 := gz_hi (show 56 < 1000000 from by decide)
  have B_57 := gz_hi (show 57 < 1000000 from by decide)
  have R_11 := gz_hi (show ro 11 = 25 from gc_bR_11 hb)
  have R_2 := gz_hi (show ro 2 = 9 from gc_bR_2 hb)
  have R_48 := gz_hi (show ro 48 = 49 from gc_bR_48 hb)
  have R_56 := gz_hi (show ro 56 = 47 from gc_bR_56 hb)
  have R_57 := gz_hi (show ro 57 = 48 from gc_bR_57 hb)
  have S_1 : sh[1]? = some (false, 8, 21) := gc_bS_1 hb
  have S_11 : sh[11]? = some (true, 1, 96) := gc_bS_11 hb
  have S_2 : sh[2]? = some (false, 4, 2) := gc_bS_2 hb
  have S_48 : sh[48]? = some (false, 0, 22) := gc_bS_48 hb
  have S_56 : sh[56]? = some (true, 1, 33) := gc_bS_56 hb
  have S_57 : sh[57]? = some (true, 1, 384) := gc_bS_57 hb
  obtain ⟨S_t, R_t, B_t, A_t_0, h_t_1, A_t_1, h_t_3, A_t_2, S_t_5, R_t_5, B_t_5, A_t_3, S_t_6, R_t_6, B_t_6, A_t_4, h_t_7, A_t_5, S_t_9, R_t_9, B_t_9, A_t_7, S_t_10, R_t_10, B_t_10, A_t_8, h_t_11, A_t_9, S_t_13, R_t_13, B_t_13, A_t_10, S_t_14, R_t_14, B_t_14, A_t_12, S_t_15, R_t_15, B_t_15, A_t_14, S_t_16, R_t_16, B_t_16, A_t_15, h_t_17⟩ := id h_t
  replace R_t := gz_hi R_t
  replace B_t := gz_hi B_t
  replace R_t_5 := gz_hi R_t_5
  replace B_t_5 := gz_hi B_t_5
  replace R_t_6 := gz_hi R_t_6
  replace B_t_6 := gz_hi B_t_6
  replace R_t_9 := gz_hi R_t_9
  replace B_t_9 := gz_hi B_t_9
  replace R_t_10 := gz_hi R_t_10
  replace B_t_10 := gz_hi B_t_10
  replace R_t_13 := gz_hi R_t_13
  replace B_t_13 := gz_hi B_t_13
  replace R_t_14 := gz_hi R_t_14
  replace B_t_14 := gz_hi B_t_14
  replace R_t_15 := gz_hi R_t_15
  replace B_t_15 := gz_hi B_t_15
  replace R_t_16 := gz_hi R_t_16
  replace B_t_16 := gz_hi B_t_16
  obtain ⟨S_t_1, R_t_1, B_t_1, A_t_1_0, S_t_1_1, R_t_1_1, B_t_1_1, Q0_t_1, Q1_t_1, Q2_t_1⟩ := id h_t_1
  replace R_t_1 := gz_hi R_t_1
  replace B_t_1 := gz_hi B_t_1
  replace R_t_1_1 := gz_hi R_t_1_1
  replace B_t_1_1 := gz_hi B_t_1_1
  obtain ⟨S_t_3, R_t_3, B_t_3, A_t_3_0, S_t_3_1, R_t_3_1, B_t_3_1, Q0_t_3, Q1_t_3, Q2_t_3⟩ := id h_t_3
  replace R_t_3 := gz_hi R_t_3
  replace B_t_3 := gz_hi B_t_3
  replace R_t_3_1 := gz_hi R_t_3_1
  replace B_t_3_1 := gz_hi B_t_3_1
  obtain ⟨S_t_7, R_t_7, B_t_7, A_t_7_0, S_t_7_1, R_t_7_1, B_t_7_1, Q0_t_7, Q1_t_7, Q2_t_7⟩ := id h_t_7
  replace R_t_7 := gz_hi R_t_7
  replace B_t_7 := gz_hi B_t_7
  replace R_t_7_1 := gz_hi R_t_7_1
  replace B_t_7_1 := gz_hi B_t_7_1
  obtain ⟨S_t_11, R_t_11, B_t_11, A_t_11_0, S_t_11_1, R_t_11_1, B_t_11_1, Q0_t_11, Q1_t_11, Q2_t_11⟩ := id h_t_11
  replace R_t_11 := gz_hi R_t_11
  replace B_t_11 := gz_hi B_t_11
  replace R_t_11_1 := gz_hi R_t_11_1
  replace B_t_11_1 := gz_hi B_t_11_1
  obtain ⟨S_t_17, R_t_17, B_t_17, A_t_17_0, S_20, R_20, B_20, A_t_17_1, S_t_17_1, R_t_17_1, B_t_17_1, A_t_17_2, S_t_17_2, R_t_17_2, B_t_17_2, A_t_17_3, S_t_17_3, R_t_17_3, B_t_17_3, A_t_17_4, S_t_17_4, R_t_17_4, B_t_17_4, A_t_17_5, S_t_17_5, R_t_17_5, B_t_17_5, S_t_17_6, R_t_17_6, B_t_17_6, S_t_17_7, R_t_17_7, B_t_17_7⟩ := id h_t_17
  replace R_t_17 := gz_hi R_t_17
  replace B_t_17 := gz_hi B_t_17
  replace R_20 := gz_hi R_20
  replace B_20 := gz_hi B_20
  replace R_t_17_1 := gz_hi R_t_17_1
  replace B_t_17_1 := gz_hi B_t_17_1
  replace R_t_17_2 := gz_hi R_t_17_2
  replace B_t_17_2 := gz_hi B_t_17_2
  replace R_t_17_3 := gz_hi R_t_17_3
  replace B_t_17_3 := gz_hi B_t_17_3
  replace R_t_17_4 := gz_hi R_t_17_4
  replace B_t_17_4 := gz_hi B_t_17_4
  replace R_t_17_5 := gz_hi R_t_17_5
  replace B_t_17_5 := gz_hi B_t_17_5
  replace R_t_17_6 := gz_hi R_t_17_6
  replace B_t_17_6 := gz_hi B_t_17_6
  replace R_t_17_7 := gz_hi R_t_17_7
  replace B_t_17_7 := gz_hi B_t_17_7
  have hD : gv_D (gc_E0 ws0 tb 0 (yX0_orderLins, cX0_orderLins, 4, none) kX0_orderLins) := gq_of oX0_orderLins
  refine gc_ev0 (d := 0) (l := kX0_orderLins) (Po := fun r hₚ => (∃ (Iₚ : gr_I) (Jₚ : gr_J), hₚ = gc_h sh Iₚ Jₚ A ∧ gc_Inv ro Iₚ ∧ (∀ q j : Nat, (q = 56 ∨ q = 57) ∨ Iₚ q j = I q j) ∧ (∀ q j : Nat, (False) ∨ Jₚ q j = J q j) ∧ r = none ∧ (gc_LO t Iₚ) ∧ (gc_LK (gc_lk A I t) Iₚ))) htb rfl (Nat.le_of_ble_eq_true rfl) ?_
  have N_t__57 := gz_hi (show ¬ (t = 57) from by (/-0-/first | (have o1 := gz_sh B_t; have o2 := gz_sh B_t_10; have o3 := gz_sh B_t_13; have o4 := gz_sh B_t_14; have o5 := gz_sh B_t_15; have o6 := gz_sh B_t_16; have o7 := gz_sh B_t_17; have o8 := gz_sh B_t_17_1; have o9 := gz_sh B_t_17_2; have o10 := gz_sh B_t_17_3; have o11 := gz_sh B_t_17_4; have o12 := gz_sh B_t_17_5; have o13 := gz_sh B_t_17_6; have o14 := gz_sh B_t_17_7; have o15 := gz_sh B_t_5; have o16 := gz_sh B_t_6; have o17 := gz_sh B_t_9; omega) | (simp only [gz_hd] at *; omega)))
  have N_t__56 := gz_hi (show ¬ (t = 56) from by (/-1-/first | (have o1 := gz_sh B_t; have o2 := gz_sh B_t_10; have o3 := gz_sh B_t_13; have o4 := gz_sh B_t_14; have o5 := gz_sh B_t_15; have o6 := gz_sh B_t_16; have o7 := gz_sh B_t_17; have o8 := gz_sh B_t_17_1; have o9 := gz_sh B_t_17_2; have o10 := gz_sh B_t_17_3; have o11 := gz_sh B_t_17_4; have o12 := gz_sh B_t_17_5; have o13 := gz_sh B_t_17_6; have o14 := gz_sh B_t_17_7; have o15 := gz_sh B_t_5; have o16 := gz_sh B_t_6; have o17 := gz_sh B_t_9; omega) | (simp only [gz_hd] at *; omega)))
  have f1 := gz_hi ((show 0 ≤ I t 13 ∧ I t 13 ≤ 384 from gc_in2 hI (gz_sh R_t) rfl rfl rfl))
  have f2 := gz_hi ((gc_b_9_1 hI (gz_sh R_2)))
  have L4 : ∀ (n9 : Nat) (I4 : gr_I) (J5 : gr_J) (v1_6 : Int) (v2_6 : Int), (33 - v2_6).toNat < n9 → gc_Inv ro I4 → (∀ q j : Nat, (q = 56 ∨ q = 57) ∨ I4 q j = I q j) → (∀ q j : Nat, (False) ∨ J5 q j = J q j) → ((0 ≤ v1_6 ∧ v1_6 ≤ 384) ∧ (0 ≤ v2_6 ∧ v2_6 ≤ 32) ∧ (v2_6 ≤ I4 2 1) ∧ (I4 2 1 = I 2 1) ∧ (I4 48 13 = (t : Int))) → (v1_6 = gc_cn (gc_lk A I t) v2_6 0 (Int.toNat (I t 13))) → (gc_rg 57 I4 v1_6 0 (I t 13 - 1)) → (gc_rg 56 I4 v2_6 0 v1_6) → (gc_o1 (gc_lk A I t) I4 v1_6 v2_6) → (gc_o2 (gc_lk A I t) I4 v2_6) → gv_X (gc_E0 ws0 tb 0 (yX0_orderLins, cX0_orderLins, 4, none) kX0_orderLins) (gv_Q cX0_orderLins none sh (fun r hₚ => (∃ (Iₚ : gr_I) (Jₚ : gr_J), hₚ = gc_h sh Iₚ Jₚ A ∧ gc_Inv ro Iₚ ∧ (∀ q j : Nat, (q = 56 ∨ q = 57) ∨ Iₚ q j = I q j) ∧ (∀ q j : Nat, (False) ∨ Jₚ q j = J q j) ∧ r = none ∧ (gc_LO t Iₚ) ∧ (gc_LK (gc_lk A I t) Iₚ)))) (4, [(0, .inr (.inr (some 48))), (1, .inl v1_6), (2, .inl v2_6)], [], sh, gc_h sh I4 J5 A) := by
    intro n9
    induction n9 with
    | zero => intro I4 J5 v1_6 v2_6 hn; (/-2-/first | omega | (simp only [gz_hd] at *; omega))
    | succ n9 ih4 =>
      intro I4 J5 v1_6 v2_6 hn hI4 FI4 FJ5 m_6 e0_6 e1_6 e2_6 e3_6 e4_6
      obtain ⟨hv1_6, hv2_6, e5_6, e6_6, e7_6⟩ := gz_h5 m_6
      have L27 : ∀ (n9 : Nat) (I10 : gr_I) (J11 : gr_J) (v1_12 : Int) (v3_12 : Int), (385 - v3_12).toNat < n9 → gc_Inv ro I10 → (∀ q j : Nat, (q = 56 ∨ q = 57) ∨ I10 q j = I q j) → (∀ q j : Nat, (False) ∨ J11 q j = J q j) → ((0 ≤ v1_12 ∧ v1_12 ≤ 384) ∧ (0 ≤ v2_6 ∧ v2_6 ≤ 31) ∧ (0 ≤ v3_12 ∧ v3_12 ≤ 384) ∧ (v2_6 + 1 ≤ I10 2 1) ∧ (I10 2 1 = I 2 1) ∧ (I10 48 13 = (t : Int))) → (v1_12 = gc_cn (gc_lk A I t) v2_6 v3_12 (Int.toNat (I t 13))) → (gc_rg 57 I10 v1_12 0 (I t 13 - 1)) → (gc_rg 56 I10 (v2_6 + 1) 0 v1_12) → (gc_o1 (gc_lk A I t) I10 v1_12 (v2_6 + 1)) → (gc_o2 (gc_lk A I t) I10 (v2_6 + 1)) → gv_X (gc_E0 ws0 tb 0 (yX0_orderLins, cX0_orderLins, 4, none) kX0_orderLins) (gv_Q cX0_orderLins none sh (fun r hₚ => (∃ (Iₚ : gr_I) (Jₚ : gr_J), hₚ = gc_h sh Iₚ Jₚ A ∧ gc_Inv ro Iₚ ∧ (∀ q j : Nat, (q = 56 ∨ q = 57) ∨ Iₚ q j = I q j) ∧ (∀ q j : Nat, (False) ∨ Jₚ q j = J q j) ∧ r = none ∧ (gc_LO t Iₚ) ∧ (gc_LK (gc_lk A I t) Iₚ)))) (27, [(0, .inr (.inr (some 48))), (1, .inl v1_12), (2, .inl v2_6), (3, .inl v3_12)], [], sh, gc_h sh I10 J11 A) := by
        intro n9
        induction n9 with
        | zero => intro I10 J11 v1_12 v3_12 hn; (/-3-/first | omega | (simp only [gz_hd] at *; omega))
        | succ n9 ih27 =>
          intro I10 J11 v1_12 v3_12 hn hI10 FI10 FJ11 m_12 e0_12 e1_12 e2_12 e3_12 e4_12
          clear hv1_6 hv2_6 e5_6 e6_6 e7_6
          obtain ⟨hv1_12, hv2_6_12, hv3_12, e5_12, e6_12, e7_12⟩ := gz_h6 m_12
          have L72 : ∀ (I16 : gr_I) (J17 : gr_J) (v1_18 : Int), gc_Inv ro I16 → (∀ q j : Nat, (q = 56 ∨ q = 57) ∨ I16 q j = I q j) → (∀ q j : Nat, (False) ∨ J17 q j = J q j) → ((0 ≤ v1_18 ∧ v1_18 ≤ 384) ∧ (0 ≤ v2_6 ∧ v2_6 ≤ 31) ∧ (0 ≤ v3_12 ∧ v3_12 ≤ 383) ∧ (v2_6 + 1 ≤ I16 2 1) ∧ (I16 2 1 = I 2 1) ∧ (I16 48 13 = (t : Int))) → (v1_18 = gc_cn (gc_lk A I t) v2_6 (v3_12 + 1) (Int.toNat (I t 13))) → (gc_rg 57 I16 v1_18 0 (I t 13 - 1)) → (gc_rg 56 I16 (v2_6 + 1) 0 v1_18) → (gc_o1 (gc_lk A I t) I16 v1_18 (v2_6 + 1)) → (gc_o2 (gc_lk A I t) I16 (v2_6 + 1)) → gv_X (gc_E0 ws0 tb 0 (yX0_orderLins, cX0_orderLins, 4, none) kX0_orderLins) (gv_Q cX0_orderLins none sh (fun r hₚ => (∃ (Iₚ : gr_I) (Jₚ : gr_J), hₚ = gc_h sh Iₚ Jₚ A ∧ gc_Inv ro Iₚ ∧ (∀ q j : Nat, (q = 56 ∨ q = 57) ∨ Iₚ q j = I q j) ∧ (∀ q j : Nat, (False) ∨ Jₚ q j = J q j) ∧ r = none ∧ (gc_LO t Iₚ) ∧ (gc_LK (gc_lk A I t) Iₚ)))) (72, [(0, .inr (.inr (some 48))), (1, .inl v1_18), (2, .inl v2_6), (3, .inl v3_12)], [], sh, gc_h sh I16 J17 A) := by
            intro I16 J17 v1_18 hI16 FI16 FJ17 m_18 e0_18 e1_18 e2_18 e3_18 e4_18
            clear hv1_12 hv2_6_12 hv3_12 e5_12 e6_12 e7_12
            obtain ⟨hv1_18, hv2_6_18, hv3_12_18, e5_18, e6_18, e7_18⟩ := gz_h6 m_18
            refine gv_run 2 true hD (pcₚ := 27) (lvₚ := [(3, .inl (v3_12 + 1)), (0, .inr (.inr (some 48))), (1, .inl v1_18), (2, .inl v2_6)]) (stₚ := []) (hₚ := gc_h sh I16 J17 A) (C := ((True ∧ True) ∧ True)) rfl ⟨⟨trivial, trivial⟩, trivial⟩ ?_
            refine gv_pick [1, 2, 3, 0] rfl ?_
            exact ih27 I16 J17 v1_18 (v3_12 + 1) (by (/-4-/first | (have o1 := gz_sh hv3_12_18; omega) | (simp only [gz_hd] at *; omega))) hI16 FI16 FJ17 (by (/-5-/first | (and_intros; (have o1 := gz_sh hv1_18; omega); (have o1 := gz_sh hv1_18; omega); (have o1 := gz_sh hv2_6_18; omega); (have o1 := gz_sh hv2_6_18; omega); (have o1 := gz_sh hv3_12_18; omega); (have o1 := gz_sh hv3_12_18; omega); (have o1 := gz_sh e5_18; omega); (have o1 := gz_sh e6_18; omega); (have o1 := gz_sh e7_18; omega)) | (simp only [gz_hd] at *; omega))) e0_18 e1_18 (gc_rg_hi e2_18 (by (/-6-/first | omega | (simp only [gz_hd] at *; omega)))) e3_18 e4_18
          have t23 := gz_hi ((FI10 t 13).resolve_left (by (/-7-/first | (have o1 := gz_sh B_t; have o2 := gz_sh B_t_10; have o3 := gz_sh B_t_13; have o4 := gz_sh B_t_14; have o5 := gz_sh B_t_15; have o6 := gz_sh B_t_16; have o7 := gz_sh B_t_17; have o8 := gz_sh B_t_17_1; have o9 := gz_sh B_t_17_2; have o10 := gz_sh B_t_17_3; have o11 := gz_sh B_t_17_4; have o12 := gz_sh B_t_17_5; have o13 := gz_sh B_t_17_6; have o14 := gz_sh B_t_17_7; have o15 := gz_sh B_t_5; have o16 := gz_sh B_t_6; have o17 := gz_sh B_t_9; have o18 := gz_sh e7_12; omega) | (simp only [gz_hd] at *; omega))))
          refine gv_run 2 true hD (pcₚ := 29) (lvₚ := [(0, .inr (.inr (some 48))), (1, .inl v1_12), (2, .inl v2_6), (3, .inl v3_12)]) (stₚ := [.inr (.inr (some 48)), .inl v3_12]) (hₚ := gc_h sh I10 J11 A) (C := ((True ∧ True) ∧ True)) rfl ⟨⟨trivial, trivial⟩, trivial⟩ ?_
          refine gv_get hD rfl rfl S_48 ⟨by decide, (gz_sh B_48)⟩ (gc_h5 (t := t) S_48 rfl (by (/-8-/first | (have o1 := gz_sh e7_12; omega) | (simp only [gz_hd] at *; omega)))) ?_
          show gv_X _ _ (32, [(0, .inr (.inr (some 48))), (1, .inl v1_12), (2, .inl v2_6), (3, .inl v3_12)], [.inr (.inr (some t)), .inl v3_12], sh, gc_h sh I10 J11 A)
          refine gv_get hD rfl rfl S_t ⟨by decide, (gz_sh B_t)⟩ (gc_hI S_t rfl) ?_
          show gv_X _ _ (35, [(0, .inr (.inr (some 48))), (1, .inl v1_12), (2, .inl v2_6), (3, .inl v3_12)], [.inl (I10 t 13), .inl v3_12], sh, gc_h sh I10 J11 A)
          refine gv_icmp_ge (t := 78) hD rfl rfl ⟨⟨by (/-9-/first | (have o1 := gz_sh hv3_12; omega) | (simp only [gz_hd] at *; omega)), by (/-10-/first | (have o1 := gz_sh hv3_12; omega) | (simp only [gz_hd] at *; omega))⟩, ⟨by (/-11-/first | (have o1 := gz_sh f1; have o2 := gz_sh t23; omega) | (simp only [gz_hd] at *; omega)), by (/-12-/first | (have o1 := gz_sh f1; have o2 := gz_sh t23; omega) | (simp only [gz_hd] at *; omega))⟩⟩ (fun c25 => ?_) (fun c25 => ?_)
          · show gv_X _ _ (78, [(0, .inr (.inr (some 48))), (1, .inl v1_12), (2, .inl v2_6), (3, .inl v3_12)], [], sh, gc_h sh I10 J11 A)
            refine gv_run 2 true hD (pcₚ := 4) (lvₚ := [(2, .inl (v2_6 + 1)), (0, .inr (.inr (some 48))), (1, .inl v1_12), (3, .inl v3_12)]) (stₚ := []) (hₚ := gc_h sh I10 J11 A) (C := ((True ∧ True) ∧ True)) rfl ⟨⟨trivial, trivial⟩, trivial⟩ ?_
            refine gv_pick [1, 2, 0] rfl ?_
            exact ih4 I10 J11 v1_12 (v2_6 + 1) (by (/-13-/first | (have o1 := gz_sh hv2_6_12; have o2 := gz_sh hv3_12; omega) | (simp only [gz_hd] at *; omega))) hI10 FI10 FJ11 (by (/-14-/first | (and_intros; (have o1 := gz_sh hv1_12; omega); (have o1 := gz_sh hv1_12; omega); (have o1 := gz_sh hv2_6_12; omega); (have o1 := gz_sh hv2_6_12; omega); (have o1 := gz_sh e5_12; omega); (have o1 := gz_sh e6_12; omega); (have o1 := gz_sh e7_12; omega)) | (simp only [gz_hd] at *; omega))) (e0_12.trans (gc_cn_nx _ (by (/-15-/first | (have o1 := gz_sh f1; have o2 := gz_sh t23; omega) | (simp only [gz_hd] at *; omega)))).symm) e1_12 (gc_rg_hi e2_12 (by (/-16-/first | omega | (simp only [gz_hd] at *; omega)))) e3_12 e4_12
          · show gv_X _ _ (38, [(0, .inr (.inr (some 48))), (1, .inl v1_12), (2, .inl v2_6), (3, .inl v3_12)], [], sh, gc_h sh I10 J11 A)
            refine gv_run 1 true hD (pcₚ := 39) (lvₚ := [(0, .inr (.inr (some 48))), (1, .inl v1_12), (2, .inl v2_6), (3, .inl v3_12)]) (stₚ := [.inr (.inr (some 48))]) (hₚ := gc_h sh I10 J11 A) (C := (True ∧ True)) rfl ⟨trivial, trivial⟩ ?_
            refine gv_get hD rfl rfl S_48 ⟨by decide, (gz_sh B_48)⟩ (gc_hA S_48 rfl A_48_0) ?_
            show gv_X _ _ (42, [(0, .inr (.inr (some 48))), (1, .inl v1_12), (2, .inl v2_6), (3, .inl v3_12)], [.inr (.inr (some 1))], sh, gc_h sh I10 J11 A)
            refine gv_get hD rfl rfl S_1 ⟨by decide, (gz_sh B_1)⟩ (gc_hA S_1 rfl A_1_6) ?_
            show gv_X _ _ (45, [(0, .inr (.inr (some 48))), (1, .inl v1_12), (2, .inl v2_6), (3, .inl v3_12)], [.inr (.inr (some 11))], sh, gc_h sh I10 J11 A)
            refine gv_run 1 true hD (pcₚ := 46) (lvₚ := [(0, .inr (.inr (some 48))), (1, .inl v1_12), (2, .inl v2_6), (3, .inl v3_12)]) (stₚ := [.inr (.inr (some 48)), .inr (.inr (some 11))]) (hₚ := gc_h sh I10 J11 A) (C := (True ∧ True)) rfl ⟨trivial, trivial⟩ ?_
            refine gv_get hD rfl rfl S_48 ⟨by decide, (gz_sh B_48)⟩ (gc_h5 (t := t) S_48 rfl (by (/-17-/first | (have o1 := gz_sh e7_12; omega) | (simp only [gz_hd] at *; omega)))) ?_
            show gv_X _ _ (49, [(0, .inr (.inr (some 48))), (1, .inl v1_12), (2, .inl v2_6), (3, .inl v3_12)], [.inr (.inr (some t)), .inr (.inr (some 11))], sh, gc_h sh I10 J11 A)
            refine gv_get hD rfl rfl S_t ⟨by decide, (gz_sh B_t)⟩ (gc_hA S_t rfl A_t_14) ?_
            show gv_X _ _ (52, [(0, .inr (.inr (some 48))), (1, .inl v1_12), (2, .inl v2_6), (3, .inl v3_12)], [.inr (.inr (some (t + 16))), .inr (.inr (some 11))], sh, gc_h sh I10 J11 A)
            refine gv_run 1 true hD (pcₚ := 53) (lvₚ := [(0, .inr (.inr (some 48))), (1, .inl v1_12), (2, .inl v2_6), (3, .inl v3_12)]) (stₚ := [.inl v3_12, .inr (.inr (some (t + 16))), .inr (.inr (some 11))]) (hₚ := gc_h sh I10 J11 A) (C := (True ∧ True)) rfl ⟨trivial, trivial⟩ ?_
            obtain ⟨t26_, A_t26, h_t26, G_t26, U_t26, V_t26⟩ := (gc_Ls_fr x0 ((FI10 t 13).resolve_left (by (/-18-/first | (have o1 := gz_sh B_t; have o2 := gz_sh B_t_10; have o3 := gz_sh B_t_13; have o4 := gz_sh B_t_14; have o5 := gz_sh B_t_15; have o6 := gz_sh B_t_16; have o7 := gz_sh B_t_17; have o8 := gz_sh B_t_17_1; have o9 := gz_sh B_t_17_2; have o10 := gz_sh B_t_17_3; have o11 := gz_sh B_t_17_4; have o12 := gz_sh B_t_17_5; have o13 := gz_sh B_t_17_6; have o14 := gz_sh B_t_17_7; have o15 := gz_sh B_t_5; have o16 := gz_sh B_t_6; have o17 := gz_sh B_t_9; have o18 := gz_sh e7_12; omega) | (simp only [gz_hd] at *; omega)))) (fun q hL hq d k hd => (FI10 (q + d) k).resolve_left (by have := gc_dj_LT hL h_t; (/-19-/first | omega | (simp only [gz_hd] at *; omega))))) (Int.toNat v3_12) (by (/-20-/first | (have o1 := gz_sh hv3_12; omega) | (simp only [gz_hd] at *; omega)))
            obtain ⟨S_t26, R_t26, B_t26, A_t26_5, S_t26__1, R_t26__1, B_t26__1, A_t26_6, S_t26__2, R_t26__2, B_t26__2, A_t26_7, S_t26__3, R_t26__3, B_t26__3, A_t26_9, S_t26__4, R_t26__4, B_t26__4, A_t26_10, S_t26__5, R_t26__5, B_t26__5, A_t26_11, S_t26__6, R_t26__6, B_t26__6, A_t26_13, S_t26__7, R_t26__7, B_t26__7, A_t26_15, S_t26__8, R_t26__8, B_t26__8⟩ := id h_t26
            replace R_t26 := gz_hi R_t26
            replace B_t26 := gz_hi B_t26
            replace R_t26__1 := gz_hi R_t26__1
            replace B_t26__1 := gz_hi B_t26__1
            replace R_t26__2 := gz_hi R_t26__2
            replace B_t26__2 := gz_hi B_t26__2
            replace R_t26__3 := gz_hi R_t26__3
            replace B_t26__3 := gz_hi B_t26__3
            replace R_t26__4 := gz_hi R_t26__4
            replace B_t26__4 := gz_hi B_t26__4
            replace R_t26__5 := gz_hi R_t26__5
            replace B_t26__5 := gz_hi B_t26__5
            replace R_t26__6 := gz_hi R_t26__6
            replace B_t26__6 := gz_hi B_t26__6
            replace R_t26__7 := gz_hi R_t26__7
            replace B_t26__7 := gz_hi B_t26__7
            replace R_t26__8 := gz_hi R_t26__8
            replace B_t26__8 := gz_hi B_t26__8
            refine gv_aald hD rfl S_t_16 ⟨by decide, by decide⟩ ⟨by decide, (gz_sh B_t_16)⟩ ⟨by (/-21-/first | (have o1 := gz_sh hv3_12; omega) | (simp only [gz_hd] at *; omega)), by (/-22-/first | (have o1 := gz_sh f1; have o2 := gz_sh t23; omega) | (simp only [gz_hd] at *; omega))⟩ ((gc_aA S_t_16 rfl).trans A_t26) ?_
            show gv_X _ _ (54, [(0, .inr (.inr (some 48))), (1, .inl v1_12), (2, .inl v2_6), (3, .inl v3_12)], [.inr (.inr (some t26_)), .inr (.inr (some 11))], sh, gc_h sh I10 J11 A)
            have f27 := gz_hi ((show 0 ≤ I10 t26_ 1 ∧ I10 t26_ 1 ≤ 95 from gc_in2 hI10 (gz_sh R_t26) rfl rfl rfl))
            refine gv_get hD rfl rfl S_t26 ⟨by decide, (gz_sh B_t26)⟩ (gc_hI S_t26 rfl) ?_
            show gv_X _ _ (57, [(0, .inr (.inr (some 48))), (1, .inl v1_12), (2, .inl v2_6), (3, .inl v3_12)], [.inl (I10 t26_ 1), .inr (.inr (some 11))], sh, gc_h sh I10 J11 A)
            have f28 := gz_hi ((gc_b_25 hI10 (gz_sh R_11) (Int.toNat (I10 t26_ 1))))
            refine gv_iald hD rfl S_11 rfl ⟨by decide, (gz_sh B_11)⟩ ⟨by (/-23-/first | (have o1 := gz_sh f27; omega) | (simp only [gz_hd] at *; omega)), by (/-24-/first | (have o1 := gz_sh f27; omega) | (simp only [gz_hd] at *; omega))⟩ (gc_iI S_11 rfl) ?_
            show gv_X _ _ (58, [(0, .inr (.inr (some 48))), (1, .inl v1_12), (2, .inl v2_6), (3, .inl v3_12)], [.inl (I10 11 (Int.toNat (I10 t26_ 1)))], sh, gc_h sh I10 J11 A)
            have t29 := gz_hi ((show I10 11 (Int.toNat (I10 t26_ 1)) = I 11 (Int.toNat (I t26_ 1)) from by rw [show I10 t26_ 1 = I t26_ 1 from (FI10 t26_ 1).resolve_left (by (/-25-/first | (have o1 := gz_sh B_t26; have o2 := gz_sh B_t26__1; have o3 := gz_sh B_t26__2; have o4 := gz_sh B_t26__3; have o5 := gz_sh B_t26__4; have o6 := gz_sh B_t26__5; have o7 := gz_sh B_t26__6; have o8 := gz_sh B_t26__7; have o9 := gz_sh B_t26__8; omega) | (simp only [gz_hd] at *; omega)))]; exact (FI10 11 _).resolve_left (by (/-26-/first | omega | (simp only [gz_hd] at *; omega)))))
            refine gv_run 1 true hD (pcₚ := 59) (lvₚ := [(0, .inr (.inr (some 48))), (1, .inl v1_12), (2, .inl v2_6), (3, .inl v3_12)]) (stₚ := [.inl v2_6, .inl (I10 11 (Int.toNat (I10 t26_ 1)))]) (hₚ := gc_h sh I10 J11 A) (C := (True ∧ True)) rfl ⟨trivial, trivial⟩ ?_
            refine gv_icmp_ne (t := 72) hD rfl rfl ⟨⟨by (/-27-/first | (have o1 := gz_sh f28; omega) | (simp only [gz_hd] at *; omega)), by (/-28-/first | (have o1 := gz_sh f28; omega) | (simp only [gz_hd] at *; omega))⟩, ⟨by (/-29-/first | (have o1 := gz_sh hv2_6_12; omega) | (simp only [gz_hd] at *; omega)), by (/-30-/first | (have o1 := gz_sh hv2_6_12; omega) | (simp only [gz_hd] at *; omega))⟩⟩ (fun c30 => ?_) (fun c30 => ?_)
            · show gv_X _ _ (72, [(0, .inr (.inr (some 48))), (1, .inl v1_12), (2, .inl v2_6), (3, .inl v3_12)], [], sh, gc_h sh I10 J11 A)
              exact L72 I10 J11 v1_12 hI10 FI10 FJ11 (by (/-31-/first | (and_intros; (have o1 := gz_sh hv1_12; omega); (have o1 := gz_sh hv1_12; omega); (have o1 := gz_sh hv2_6_12; omega); (have o1 := gz_sh hv2_6_12; omega); (have o1 := gz_sh hv3_12; omega); (have o1 := gz_sh f1; have o2 := gz_sh t23; omega); (have o1 := gz_sh e5_12; omega); (have o1 := gz_sh e6_12; omega); (have o1 := gz_sh e7_12; omega)) | (simp only [gz_hd] at *; omega))) (by rw [gc_cn_mis (by (/-32-/first | (have o1 := gz_sh hv3_12; omega) | (simp only [gz_hd] at *; omega))) (show ¬ gc_lk A I t (Int.toNat v3_12) = v2_6 from by rw [(gc_lk_at A_t26)]; (/-33-/first | (have o1 := gz_sh t29; omega) | (simp only [gz_hd] at *; omega)))]; (/-34-/first | omega | (simp only [gz_hd] at *; omega))) e1_12 (gc_rg_hi e2_12 (by (/-35-/first | omega | (simp only [gz_hd] at *; omega)))) e3_12 e4_12
            · show gv_X _ _ (62, [(0, .inr (.inr (some 48))), (1, .inl v1_12), (2, .inl v2_6), (3, .inl v3_12)], [], sh, gc_h sh I10 J11 A)
              have t31 := gz_hi (gc_cn_r (gc_lk A I t) v2_6 (v3_12 + 1) (Int.toNat (I t 13)))
              have t32 := gz_hi ((show gc_cn (gc_lk A I t) v2_6 (v3_12 + 1) (Int.toNat (I t 13)) = gc_cn (gc_lk A I t) v2_6 v3_12 (Int.toNat (I t 13)) + 1 from by rw [gc_cn_hit (by (/-36-/first | (have o1 := gz_sh hv3_12; omega) | (simp only [gz_hd] at *; omega))) (show gc_lk A I t (Int.toNat v3_12) = v2_6 from by rw [gc_lk_at A_t26]; (/-37-/first | (have o1 := gz_sh t29; omega) | (simp only [gz_hd] at *; omega))), if_pos (by (/-38-/first | (have o1 := gz_sh f1; have o2 := gz_sh hv3_12; have o3 := gz_sh t23; omega) | (simp only [gz_hd] at *; omega)))]))
              refine gv_run 1 true hD (pcₚ := 63) (lvₚ := [(0, .inr (.inr (some 48))), (1, .inl v1_12), (2, .inl v2_6), (3, .inl v3_12)]) (stₚ := [.inr (.inr (some 48))]) (hₚ := gc_h sh I10 J11 A) (C := (True ∧ True)) rfl ⟨trivial, trivial⟩ ?_
              refine gv_get hD rfl rfl S_48 ⟨by decide, (gz_sh B_48)⟩ (gc_hA S_48 rfl A_48_16) ?_
              show gv_X _ _ (66, [(0, .inr (.inr (some 48))), (1, .inl v1_12), (2, .inl v2_6), (3, .inl v3_12)], [.inr (.inr (some 57))], sh, gc_h sh I10 J11 A)
              refine gv_run 3 true hD (pcₚ := 71) (lvₚ := [(1, .inl (v1_12 + 1)), (0, .inr (.inr (some 48))), (2, .inl v2_6), (3, .inl v3_12)]) (stₚ := [.inl v3_12, .inl v1_12, .inr (.inr (some 57))]) (hₚ := gc_h sh I10 J11 A) (C := (((True ∧ True) ∧ True) ∧ True)) rfl ⟨⟨⟨trivial, trivial⟩, trivial⟩, trivial⟩ ?_
              refine gv_iast hD rfl S_57 ⟨by decide, (gz_sh B_57)⟩ ⟨by (/-39-/first | (have o1 := gz_sh hv1_12; omega) | (simp only [gz_hd] at *; omega)), by (/-40-/first | (have o1 := gz_sh f1; have o2 := gz_sh hv1_12; have o3 := gz_sh hv3_12; have o4 := gz_sh t23; have o5 := gz_sh t31; have o6 := gz_sh t32; omega) | (simp only [gz_hd] at *; omega))⟩ ?_
              refine gc_st hI10 S_57 rfl (gz_sh R_57) (lo := 0) (hi := 383) rfl rfl (by (/-41-/first | (have o1 := gz_sh hv3_12; omega) | (simp only [gz_hd] at *; omega))) (by (/-42-/first | (have o1 := gz_sh f1; have o2 := gz_sh t23; omega) | (simp only [gz_hd] at *; omega))) (fun I33 hI33 q34 p34 => ?_)
              have FI33 := gc_frs (W := fun q j => q = 56 ∨ q = 57) FI10 (Or.inr rfl) p34
              have t35 := gz_hi (p34 t 13 (fun h => absurd h.1 (gz_sh N_t__57)))
              have t36 := gz_hi (p34 2 1 (fun h => absurd h.1 (by first | exact gz_ne rfl | decide)))
              have t37 := gz_hi (p34 48 13 (fun h => absurd h.1 (by first | exact gz_ne rfl | decide)))
              show gv_X _ _ (72, [(1, .inl (v1_12 + 1)), (0, .inr (.inr (some 48))), (2, .inl v2_6), (3, .inl v3_12)], [], sh, gc_h sh I33 J11 A)
              refine gv_pick [1, 0, 2, 3] rfl ?_
              exact L72 I33 J11 (v1_12 + 1) hI33 FI33 FJ11 (by (/-43-/first | (and_intros; (have o1 := gz_sh hv1_12; omega); (have o1 := gz_sh e5_12; have o2 := gz_sh e6_12; have o3 := gz_sh e7_12; have o4 := gz_sh f1; have o5 := gz_sh f28; have o6 := gz_sh hv1_12; have o7 := gz_sh hv3_12; have o8 := gz_sh t23; have o9 := gz_sh t29; have o10 := gz_sh t31; have o11 := gz_sh t32; have o12 := gz_sh t35; have o13 := gz_sh t36; have o14 := gz_sh t37; omega); (have o1 := gz_sh f28; omega); (have o1 := gz_sh f28; omega); (have o1 := gz_sh hv3_12; omega); (have o1 := gz_sh f1; have o2 := gz_sh t23; omega); (have o1 := gz_sh e5_12; have o2 := gz_sh t36; omega); (have o1 := gz_sh e6_12; have o2 := gz_sh t36; omega); (have o1 := gz_sh e7_12; have o2 := gz_sh t37; omega)) | (simp only [gz_hd] at *; omega))) (by rw [gc_cn_hit (by (/-44-/first | (have o1 := gz_sh hv3_12; omega) | (simp only [gz_hd] at *; omega))) (show gc_lk A I t (Int.toNat v3_12) = v2_6 from by rw [(gc_lk_at A_t26)]; (/-45-/first | (have o1 := gz_sh t29; omega) | (simp only [gz_hd] at *; omega))), if_pos (by (/-46-/first | (have o1 := gz_sh hv1_12; have o2 := gz_sh t23; have o3 := gz_sh t31; have o4 := gz_sh t32; have o5 := gz_sh t35; omega) | (simp only [gz_hd] at *; omega)))]; (/-47-/first | omega | (simp only [gz_hd] at *; omega))) (gc_rg_push e1_12 (by (/-48-/first | (have o1 := gz_sh hv1_12; omega) | (simp only [gz_hd] at *; omega))) p34 (by (/-49-/first | (and_intros; (have o1 := gz_sh hv3_12; omega); (have o1 := gz_sh t23; omega)) | (simp only [gz_hd] at *; omega)))) (gc_rg_hi (gc_rg_fr e2_12 (fun k => p34 56 k (fun h => absurd h.1 (by (/-50-/first | omega | (simp only [gz_hd] at *; omega)))))) (by (/-51-/first | omega | (simp only [gz_hd] at *; omega)))) (gc_o1_st e3_12 (by (/-52-/first | (have o1 := gz_sh hv1_12; omega) | (simp only [gz_hd] at *; omega))) p34 (by rw [q34, gc_lk_at A_t26]; (/-53-/first | (have o1 := gz_sh t29; omega) | (simp only [gz_hd] at *; omega)))) (gc_o2_57 e4_12 e2_12 p34)
      have t39 := gz_hi ((FI4 t 13).resolve_left (by (/-54-/first | (have o1 := gz_sh B_t; have o2 := gz_sh B_t_10; have o3 := gz_sh B_t_13; have o4 := gz_sh B_t_14; have o5 := gz_sh B_t_15; have o6 := gz_sh B_t_16; have o7 := gz_sh B_t_17; have o8 := gz_sh B_t_17_1; have o9 := gz_sh B_t_17_2; have o10 := gz_sh B_t_17_3; have o11 := gz_sh B_t_17_4; have o12 := gz_sh B_t_17_5; have o13 := gz_sh B_t_17_6; have o14 := gz_sh B_t_17_7; have o15 := gz_sh B_t_5; have o16 := gz_sh B_t_6; have o17 := gz_sh B_t_9; have o18 := gz_sh e7_6; omega) | (simp only [gz_hd] at *; omega))))
      refine gv_run 2 true hD (pcₚ := 6) (lvₚ := [(0, .inr (.inr (some 48))), (1, .inl v1_6), (2, .inl v2_6)]) (stₚ := [.inr (.inr (some 48)), .inl v2_6]) (hₚ := gc_h sh I4 J5 A) (C := ((True ∧ True) ∧ True)) rfl ⟨⟨trivial, trivial⟩, trivial⟩ ?_
      refine gv_get hD rfl rfl S_48 ⟨by decide, (gz_sh B_48)⟩ (gc_hA S_48 rfl A_48_0) ?_
      show gv_X _ _ (9, [(0, .inr (.inr (some 48))), (1, .inl v1_6), (2, .inl v2_6)], [.inr (.inr (some 1)), .inl v2_6], sh, gc_h sh I4 J5 A)
      refine gv_get hD rfl rfl S_1 ⟨by decide, (gz_sh B_1)⟩ (gc_hA S_1 rfl A_1_0) ?_
      show gv_X _ _ (12, [(0, .inr (.inr (some 48))), (1, .inl v1_6), (2, .inl v2_6)], [.inr (.inr (some 2)), .inl v2_6], sh, gc_h sh I4 J5 A)
      refine gv_get hD rfl rfl S_2 ⟨by decide, (gz_sh B_2)⟩ (gc_hI S_2 rfl) ?_
      show gv_X _ _ (15, [(0, .inr (.inr (some 48))), (1, .inl v1_6), (2, .inl v2_6)], [.inl (I4 2 1), .inl v2_6], sh, gc_h sh I4 J5 A)
      refine gv_icmp_ge (t := 84) hD rfl rfl ⟨⟨by (/-55-/first | (have o1 := gz_sh hv2_6; omega) | (simp only [gz_hd] at *; omega)), by (/-56-/first | (have o1 := gz_sh hv2_6; omega) | (simp only [gz_hd] at *; omega))⟩, ⟨by (/-57-/first | (have o1 := gz_sh e6_6; have o2 := gz_sh f2; omega) | (simp only [gz_hd] at *; omega)), by (/-58-/first | (have o1 := gz_sh e6_6; have o2 := gz_sh f2; omega) | (simp only [gz_hd] at *; omega))⟩⟩ (fun c41 => ?_) (fun c41 => ?_)
      · show gv_X _ _ (84, [(0, .inr (.inr (some 48))), (1, .inl v1_6), (2, .inl v2_6)], [], sh, gc_h sh I4 J5 A)
        refine gv_run 1 true hD (pcₚ := 85) (lvₚ := [(0, .inr (.inr (some 48))), (1, .inl v1_6), (2, .inl v2_6)]) (stₚ := [.inr (.inr (some 48))]) (hₚ := gc_h sh I4 J5 A) (C := (True ∧ True)) rfl ⟨trivial, trivial⟩ ?_
        refine gv_get hD rfl rfl S_48 ⟨by decide, (gz_sh B_48)⟩ (gc_hA S_48 rfl A_48_15) ?_
        show gv_X _ _ (88, [(0, .inr (.inr (some 48))), (1, .inl v1_6), (2, .inl v2_6)], [.inr (.inr (some 56))], sh, gc_h sh I4 J5 A)
        refine gv_run 1 true hD (pcₚ := 89) (lvₚ := [(0, .inr (.inr (some 48))), (1, .inl v1_6), (2, .inl v2_6)]) (stₚ := [.inr (.inr (some 48)), .inr (.inr (some 56))]) (hₚ := gc_h sh I4 J5 A) (C := (True ∧ True)) rfl ⟨trivial, trivial⟩ ?_
        refine gv_get hD rfl rfl S_48 ⟨by decide, (gz_sh B_48)⟩ (gc_hA S_48 rfl A_48_0) ?_
        show gv_X _ _ (92, [(0, .inr (.inr (some 48))), (1, .inl v1_6), (2, .inl v2_6)], [.inr (.inr (some 1)), .inr (.inr (some 56))], sh, gc_h sh I4 J5 A)
        refine gv_get hD rfl rfl S_1 ⟨by decide, (gz_sh B_1)⟩ (gc_hA S_1 rfl A_1_0) ?_
        show gv_X _ _ (95, [(0, .inr (.inr (some 48))), (1, .inl v1_6), (2, .inl v2_6)], [.inr (.inr (some 2)), .inr (.inr (some 56))], sh, gc_h sh I4 J5 A)
        refine gv_get hD rfl rfl S_2 ⟨by decide, (gz_sh B_2)⟩ (gc_hI S_2 rfl) ?_
        show gv_X _ _ (98, [(0, .inr (.inr (some 48))), (1, .inl v1_6), (2, .inl v2_6)], [.inl (I4 2 1), .inr (.inr (some 56))], sh, gc_h sh I4 J5 A)
        refine gv_run 1 true hD (pcₚ := 99) (lvₚ := [(0, .inr (.inr (some 48))), (1, .inl v1_6), (2, .inl v2_6)]) (stₚ := [.inl v1_6, .inl (I4 2 1), .inr (.inr (some 56))]) (hₚ := gc_h sh I4 J5 A) (C := (True ∧ True)) rfl ⟨trivial, trivial⟩ ?_
        refine gv_iast hD rfl S_56 ⟨by decide, (gz_sh B_56)⟩ ⟨by (/-60-/first | (have o1 := gz_sh e6_6; have o2 := gz_sh f2; omega) | (simp only [gz_hd] at *; omega)), by (/-61-/first | (have o1 := gz_sh e6_6; have o2 := gz_sh f2; omega) | (simp only [gz_hd] at *; omega))⟩ ?_
        refine gc_st hI4 S_56 rfl (gz_sh R_56) (lo := 0) (hi := 384) rfl rfl (by (/-62-/first | (have o1 := gz_sh hv1_6; omega) | (simp only [gz_hd] at *; omega))) (by (/-63-/first | (have o1 := gz_sh hv1_6; omega) | (simp only [gz_hd] at *; omega))) (fun I45 hI45 q46 p46 => ?_)
        have FI45 := gc_frs (W := fun q j => q = 56 ∨ q = 57) FI4 (Or.inl rfl) p46
        have t47 := gz_hi (p46 t 13 (fun h => absurd h.1 (gz_sh N_t__56)))
        have t48 := gz_hi (p46 2 1 (fun h => absurd h.1 (by first | exact gz_ne rfl | decide)))
        show gv_X _ _ (100, [(0, .inr (.inr (some 48))), (1, .inl v1_6), (2, .inl v2_6)], [], sh, gc_h sh I45 J5 A)
        exact gv_vret hD rfl ⟨I45, J5, rfl, hI45, FI45, FJ5, ⟨rfl, (by unfold gc_LO; rw [show I45 2 1 = I4 2 1 from by (/-64-/first | (have o1 := gz_sh t48; omega) | (simp only [gz_hd] at *; omega)), show I45 t 13 = I t 13 from by (/-65-/first | (have o1 := gz_sh t39; have o2 := gz_sh t47; omega) | (simp only [gz_hd] at *; omega)), q46]; exact ⟨gc_rg_fr e1_6 (fun k => p46 57 k (fun h => absurd h.1 (by (/-66-/first | omega | (simp only [gz_hd] at *; omega))))), gc_rg_push (m := I4 2 1) (gc_rg_m e2_6 (by (/-67-/first | omega | (simp only [gz_hd] at *; omega)))) (by (/-68-/first | (have o1 := gz_sh e6_6; have o2 := gz_sh f2; omega) | (simp only [gz_hd] at *; omega))) p46 (by (/-69-/first | (and_intros; (have o1 := gz_sh hv1_6; omega); (omega)) | (simp only [gz_hd] at *; omega)))⟩), (gc_LK_of (by have h9 := gc_o2_56 (m := I4 2 1) (n := v1_6) (by rw [show I4 2 1 = v2_6 from by (/-70-/first | (have o1 := gz_sh e5_6; omega) | (simp only [gz_hd] at *; omega))]; exact e4_6) (by rw [show I4 2 1 = v2_6 from by (/-71-/first | (have o1 := gz_sh e5_6; omega) | (simp only [gz_hd] at *; omega))]; exact e3_6) (by (/-72-/first | (have o1 := gz_sh e6_6; have o2 := gz_sh f2; omega) | (simp only [gz_hd] at *; omega))) p46 q46; rw [show I45 2 1 = I4 2 1 from by (/-73-/first | (have o1 := gz_sh t48; omega) | (simp only [gz_hd] at *; omega))]; exact h9))⟩⟩
      · show gv_X _ _ (18, [(0, .inr (.inr (some 48))), (1, .inl v1_6), (2, .inl v2_6)], [], sh, gc_h sh I4 J5 A)
        refine gv_run 1 true hD (pcₚ := 19) (lvₚ := [(0, .inr (.inr (some 48))), (1, .inl v1_6), (2, .inl v2_6)]) (stₚ := [.inr (.inr (some 48))]) (hₚ := gc_h sh I4 J5 A) (C := (True ∧ True)) rfl ⟨trivial, trivial⟩ ?_
        refine gv_get hD rfl rfl S_48 ⟨by decide, (gz_sh B_48)⟩ (gc_hA S_48 rfl A_48_15) ?_
        show gv_X _ _ (22, [(0, .inr (.inr (some 48))), (1, .inl v1_6), (2, .inl v2_6)], [.inr (.inr (some 56))], sh, gc_h sh I4 J5 A)
        refine gv_run 2 true hD (pcₚ := 24) (lvₚ := [(0, .inr (.inr (some 48))), (1, .inl v1_6), (2, .inl v2_6)]) (stₚ := [.inl v1_6, .inl v2_6, .inr (.inr (some 56))]) (hₚ := gc_h sh I4 J5 A) (C := ((True ∧ True) ∧ True)) rfl ⟨⟨trivial, trivial⟩, trivial⟩ ?_
        refine gv_iast hD rfl S_56 ⟨by decide, (gz_sh B_56)⟩ ⟨by (/-74-/first | (have o1 := gz_sh hv2_6; omega) | (simp only [gz_hd] at *; omega)), by (/-75-/first | (have o1 := gz_sh hv2_6; omega) | (simp only [gz_hd] at *; omega))⟩ ?_
        refine gc_st hI4 S_56 rfl (gz_sh R_56) (lo := 0) (hi := 384) rfl rfl (by (/-76-/first | (have o1 := gz_sh hv1_6; omega) | (simp only [gz_hd] at *; omega))) (by (/-77-/first | (have o1 := gz_sh hv1_6; omega) | (simp only [gz_hd] at *; omega))) (fun I50 hI50 q51 p51 => ?_)
        have FI50 := gc_frs (W := fun q j => q = 56 ∨ q = 57) FI4 (Or.inl rfl) p51
        have t53 := gz_hi (p51 2 1 (fun h => absurd h.1 (by first | exact gz_ne rfl | decide)))
        have t54 := gz_hi (p51 48 13 (fun h => absurd h.1 (by first | exact gz_ne rfl | decide)))
        show gv_X _ _ (25, [(0, .inr (.inr (some 48))), (1, .inl v1_6), (2, .inl v2_6)], [], sh, gc_h sh I50 J5 A)
        refine gv_run 2 true hD (pcₚ := 27) (lvₚ := [(3, .inl 0), (0, .inr (.inr (some 48))), (1, .inl v1_6), (2, .inl v2_6)]) (stₚ := []) (hₚ := gc_h sh I50 J5 A) (C := ((True ∧ True) ∧ True)) rfl ⟨⟨trivial, trivial⟩, trivial⟩ ?_
        refine gv_pick [1, 2, 3, 0] rfl ?_
        exact L27 _ I50 J5 v1_6 0 (Nat.lt_succ_self _) hI50 FI50 FJ5 (by (/-78-/first | (and_intros; (have o1 := gz_sh hv1_6; omega); (have o1 := gz_sh hv1_6; omega); (have o1 := gz_sh hv2_6; omega); (have o1 := gz_sh e6_6; have o2 := gz_sh f2; omega); (omega); (omega); (have o1 := gz_sh t53; omega); (have o1 := gz_sh e6_6; have o2 := gz_sh t53; omega); (have o1 := gz_sh e7_6; have o2 := gz_sh t54; omega)) | (simp only [gz_hd] at *; omega))) e0_6 (gc_rg_fr e1_6 (fun k => p51 57 k (fun h => absurd h.1 (by (/-79-/first | omega | (simp only [gz_hd] at *; omega)))))) (gc_rg_hi (gc_rg_push e2_6 (by (/-80-/first | (have o1 := gz_sh hv2_6; omega) | (simp only [gz_hd] at *; omega))) p51 (by (/-81-/first | (and_intros; (have o1 := gz_sh hv1_6; omega); (omega)) | (simp only [gz_hd] at *; omega)))) (by (/-82-/first | omega | (simp only [gz_hd] at *; omega)))) (gc_o1_fr e3_6 (by (/-83-/first | omega | (simp only [gz_hd] at *; omega))) (fun k => p51 57 k (fun h => absurd h.1 (by (/-84-/first | omega | (simp only [gz_hd] at *; omega)))))) (gc_o2_56 e4_6 e3_6 (by (/-85-/first | (have o1 := gz_sh hv2_6; omega) | (simp only [gz_hd] at *; omega))) p51 q51)
  refine gv_run 4 true hD (pcₚ := 4) (lvₚ := [(2, .inl 0), (1, .inl 0), (0, .inr (.inr (some 48)))]) (stₚ := []) (hₚ := gc_h sh I J A) (C := ((((True ∧ True) ∧ True) ∧ True) ∧ True)) rfl ⟨⟨⟨⟨trivial, trivial⟩, trivial⟩, trivial⟩, trivial⟩ ?_
  refine gv_pick [2, 1, 0] rfl ?_
  exact L4 _ I J 0 0 (Nat.lt_succ_self _) hI FI FJ (by (/-86-/first | (and_intros; (omega); (omega); (omega); (omega); (have o1 := gz_sh f2; omega); (omega); (omega)) | (simp only [gz_hd] at *; omega))) (gc_cn_0 (fun j => gc_lk_0 hI (gz_sh R_11) j) _).symm (fun k a b => by (/-87-/first | (and_intros <;> omega) | (simp only [gz_hd] at *; omega))) (fun k a b => by (/-88-/first | (and_intros <;> omega) | (simp only [gz_hd] at *; omega))) (fun i hi => by (/-89-/first | omega | (simp only [gz_hd] at *; omega))) (fun k hk i hi => by (/-90-/first | omega | (simp only [gz_hd] at *; omega)))
set_option maxHeartbeats 8000000 in
set_option maxRecDepth 100000 in
theorem d_X0_isAt {ws0 : List Cond} {tb : String → gz_T} (hws : gc_Ws ws0) (htb : gc_tbs tb) (sh : gz_Sh) (ro : Nat → Nat) (I : gr_I) (J : gr_J) (A : gc_A) (hI : gc_Inv ro I) (x : Nat) (a1 : Int) (a2 : Int) (a3 : Int) (hb : gc_Base sh ro A) (h_x : gc_isText sh ro A x) (G_x : x + 3 < 39 ∨ (100 ≤ x ∧ x < 140)) (ha1 : 0 ≤ a1 ∧ a1 ≤ 23) (ha2 : 0 ≤ a2 ∧ a2 ≤ 2000) (ha3 : 0 ≤ a3 ∧ a3 ≤ 24) (x0 : gc_SP x I) (x1 : a1 < I x 4) (x2 : I 48 14 = (x : Int)) : ∃ r hₚ, gz_Ev ws0 tb 1 (yX0_isAt, cX0_isAt, 5, (some .boolean)) [.inr (.inr (some 48)), .inl a1, .inl a2, .inl a3] sh (gc_h sh I J A) r sh hₚ 0 0 ∧ (hₚ = gc_h sh I J A ∧ (∃ z : Int, r = some (.inl z) ∧ 0 ≤ z ∧ z ≤ 1)) := by
  have A_1_16 : A 1 16 = some 20 := gc_bA_1_16 hb
  have A_48_0 : A 48 0 = some 1 := gc_bA_48_0 hb
  have B_1 := gz_hi (show 1 < 1000000 from by decide)
  have B_20 := gz_hi (show 20 < 1000000 from by decide)
  have B_48 := gz_hi (show 48 < 1000000 from by decide)
  have R_20 := gz_hi (show ro 20 = 36 from gc_bR_20 hb)
  have R_48 := gz_hi (show ro 48 = 49 from gc_bR_48 hb)
  have S_1 : sh[1]? = some (false, 8, 21) := gc_bS_1 hb
  have S_20 : sh[20]? = some (true, 0, 12000) := gc_bS_20 hb
  have S_48 : sh[48]? = some (false, 0, 22) := gc_bS_48 hb
  obtain ⟨S_x, R_x, B_x, A_x_0, S_x_1, R_x_1, B_x_1, A_x_2, S_x_2, R_x_2, B_x_2, A_x_3, S_x_3, R_x_3, B_x_3⟩ := id h_x
  replace R_x := gz_hi R_x
  replace B_x := gz_hi B_x
  replace R_x_1 := gz_hi R_x_1
  replace B_x_1 := gz_hi B_x_1
  replace R_x_2 := gz_hi R_x_2
  replace B_x_2 := gz_hi B_x_2
  replace R_x_3 := gz_hi R_x_3
  replace B_x_3 := gz_hi B_x_3
  have hD : gv_D (gc_E0 ws0 tb 0 (yX0_isAt, cX0_isAt, 5, (some .boolean)) kX0_isAt) := gq_of oX0_isAt
  refine gc_ev0 (d := 0) (l := kX0_isAt) (Po := fun r hₚ => (hₚ = gc_h sh I J A ∧ (∃ z : Int, r = some (.inl z) ∧ 0 ≤ z ∧ z ≤ 1))) htb rfl (Nat.le_of_ble_eq_true rfl) ?_
  have L18 : ∀ (n9 : Nat) (v4_2 : Int), (25 - v4_2).toNat < n9 → ((0 ≤ a1 ∧ a1 ≤ 23) ∧ (0 ≤ a2 ∧ a2 ≤ 2000) ∧ (0 ≤ a3 ∧ a3 ≤ 24) ∧ (0 ≤ v4_2 ∧ v4_2 ≤ 24) ∧ (I (x + 3) (Int.toNat a1) = a3) ∧ (I 48 14 = (x : Int))) → gv_X (gc_E0 ws0 tb 0 (yX0_isAt, cX0_isAt, 5, (some .boolean)) kX0_isAt) (gv_Q cX0_isAt (some .boolean) sh (fun r hₚ => (hₚ = gc_h sh I J A ∧ (∃ z : Int, r = some (.inl z) ∧ 0 ≤ z ∧ z ≤ 1)))) (18, [(0, .inr (.inr (some 48))), (1, .inl a1), (2, .inl a2), (3, .inl a3), (4, .inl v4_2)], [], sh, gc_h sh I J A) := by
    intro n9
    induction n9 with
    | zero => intro v4_2 hn; (/-0-/first | omega | (simp only [gz_hd] at *; omega))
    | succ n9 ih18 =>
      intro v4_2 hn m_2
      obtain ⟨ha1_2, ha2_2, ha3_2, hv4_2, e0_2, e1_2⟩ := gz_h6 m_2
      have t4 := gz_hi (x0 (Int.toNat a1) (by (/-1-/first | omega | (simp only [gz_hd] at *; omega))))
      refine gv_run 2 true hD (pcₚ := 21) (lvₚ := [(0, .inr (.inr (some 48))), (1, .inl a1), (2, .inl a2), (3, .inl a3), (4, .inl v4_2)]) (stₚ := [.inl a3, .inl v4_2]) (hₚ := gc_h sh I J A) (C := ((True ∧ True) ∧ True)) rfl ⟨⟨trivial, trivial⟩, trivial⟩ ?_
      refine gv_icmp_ge (t := 67) hD rfl rfl ⟨⟨by (/-2-/first | (have o1 := gz_sh hv4_2; omega) | (simp only [gz_hd] at *; omega)), by (/-3-/first | (have o1 := gz_sh hv4_2; omega) | (simp only [gz_hd] at *; omega))⟩, ⟨by (/-4-/first | omega | (simp only [gz_hd] at *; omega)), by (/-5-/first | omega | (simp only [gz_hd] at *; omega))⟩⟩ (fun c5 => ?_) (fun c5 => ?_)
      · show gv_X _ _ (67, [(0, .inr (.inr (some 48))), (1, .inl a1), (2, .inl a2), (3, .inl a3), (4, .inl v4_2)], [], sh, gc_h sh I J A)
        refine gv_run 1 true hD (pcₚ := 68) (lvₚ := [(0, .inr (.inr (some 48))), (1, .inl a1), (2, .inl a2), (3, .inl a3), (4, .inl v4_2)]) (stₚ := [.inl 1]) (hₚ := gc_h sh I J A) (C := (True ∧ True)) rfl ⟨trivial, trivial⟩ ?_
        exact gv_zret hD rfl (by (/-6-/first | omega | (simp only [gz_hd] at *; omega))) ⟨rfl, ⟨_, rfl, by (/-7-/first | (and_intros <;> omega) | (simp only [gz_hd] at *; omega))⟩⟩
      · show gv_X _ _ (24, [(0, .inr (.inr (some 48))), (1, .inl a1), (2, .inl a2), (3, .inl a3), (4, .inl v4_2)], [], sh, gc_h sh I J A)
        refine gv_run 1 true hD (pcₚ := 25) (lvₚ := [(0, .inr (.inr (some 48))), (1, .inl a1), (2, .inl a2), (3, .inl a3), (4, .inl v4_2)]) (stₚ := [.inr (.inr (some 48))]) (hₚ := gc_h sh I J A) (C := (True ∧ True)) rfl ⟨trivial, trivial⟩ ?_
        refine gv_get hD rfl rfl S_48 ⟨by decide, (gz_sh B_48)⟩ (gc_h5 (t := x) S_48 rfl (by (/-8-/first | (have o1 := gz_sh e1_2; omega) | (simp only [gz_hd] at *; omega)))) ?_
        show gv_X _ _ (28, [(0, .inr (.inr (some 48))), (1, .inl a1), (2, .inl a2), (3, .inl a3), (4, .inl v4_2)], [.inr (.inr (some x))], sh, gc_h sh I J A)
        refine gv_get hD rfl rfl S_x ⟨by decide, (gz_sh B_x)⟩ (gc_hA S_x rfl A_x_0) ?_
        show gv_X _ _ (31, [(0, .inr (.inr (some 48))), (1, .inl a1), (2, .inl a2), (3, .inl a3), (4, .inl v4_2)], [.inr (.inr (some (x + 1)))], sh, gc_h sh I J A)
        refine gv_run 1 true hD (pcₚ := 32) (lvₚ := [(0, .inr (.inr (some 48))), (1, .inl a1), (2, .inl a2), (3, .inl a3), (4, .inl v4_2)]) (stₚ := [.inr (.inr (some 48)), .inr (.inr (some (x + 1)))]) (hₚ := gc_h sh I J A) (C := (True ∧ True)) rfl ⟨trivial, trivial⟩ ?_
        refine gv_get hD rfl rfl S_48 ⟨by decide, (gz_sh B_48)⟩ (gc_h5 (t := x) S_48 rfl (by (/-9-/first | (have o1 := gz_sh e1_2; omega) | (simp only [gz_hd] at *; omega)))) ?_
        show gv_X _ _ (35, [(0, .inr (.inr (some 48))), (1, .inl a1), (2, .inl a2), (3, .inl a3), (4, .inl v4_2)], [.inr (.inr (some x)), .inr (.inr (some (x + 1)))], sh, gc_h sh I J A)
        refine gv_get hD rfl rfl S_x ⟨by decide, (gz_sh B_x)⟩ (gc_hA S_x rfl A_x_2) ?_
        show gv_X _ _ (38, [(0, .inr (.inr (some 48))), (1, .inl a1), (2, .inl a2), (3, .inl a3), (4, .inl v4_2)], [.inr (.inr (some (x + 2))), .inr (.inr (some (x + 1)))], sh, gc_h sh I J A)
        refine gv_run 1 true hD (pcₚ := 39) (lvₚ := [(0, .inr (.inr (some 48))), (1, .inl a1), (2, .inl a2), (3, .inl a3), (4, .inl v4_2)]) (stₚ := [.inl a1, .inr (.inr (some (x + 2))), .inr (.inr (some (x + 1)))]) (hₚ := gc_h sh I J A) (C := (True ∧ True)) rfl ⟨trivial, trivial⟩ ?_
        have f6 := gz_hi ((show 0 ≤ I (x + 2) (Int.toNat a1) ∧ I (x + 2) (Int.toNat a1) ≤ 1000 from gc_in2 hI (gz_sh R_x_2) rfl rfl rfl))
        refine gv_iald hD rfl S_x_2 rfl ⟨by decide, (gz_sh B_x_2)⟩ ⟨by (/-10-/first | omega | (simp only [gz_hd] at *; omega)), by (/-11-/first | omega | (simp only [gz_hd] at *; omega))⟩ (gc_iI S_x_2 rfl) ?_
        show gv_X _ _ (40, [(0, .inr (.inr (some 48))), (1, .inl a1), (2, .inl a2), (3, .inl a3), (4, .inl v4_2)], [.inl (I (x + 2) (Int.toNat a1)), .inr (.inr (some (x + 1)))], sh, gc_h sh I J A)
        refine gv_run 2 true hD (pcₚ := 43) (lvₚ := [(0, .inr (.inr (some 48))), (1, .inl a1), (2, .inl a2), (3, .inl a3), (4, .inl v4_2)]) (stₚ := [.inl ((I (x + 2) (Int.toNat a1)) + v4_2), .inr (.inr (some (x + 1)))]) (hₚ := gc_h sh I J A) (C := ((True ∧ True) ∧ True)) rfl ⟨⟨trivial, trivial⟩, trivial⟩ ?_
        have f7 := gz_hi ((show (-128) ≤ I (x + 1) (Int.toNat (((I (x + 2) (Int.toNat a1)) + v4_2))) ∧ I (x + 1) (Int.toNat (((I (x + 2) (Int.toNat a1)) + v4_2))) ≤ 127 from gc_in2 hI (gz_sh R_x_1) rfl rfl rfl))
        refine gv_bald hD rfl S_x_1 (Or.inl rfl) ⟨by decide, (gz_sh B_x_1)⟩ ⟨by (/-12-/first | (have o1 := gz_sh f6; have o2 := gz_sh hv4_2; omega) | (simp only [gz_hd] at *; omega)), by (/-13-/first | (have o1 := gz_sh e0_2; have o2 := gz_sh t4; omega) | (simp only [gz_hd] at *; omega))⟩ (gc_iI S_x_1 rfl) ?_
        show gv_X _ _ (44, [(0, .inr (.inr (some 48))), (1, .inl a1), (2, .inl a2), (3, .inl a3), (4, .inl v4_2)], [.inl (I (x + 1) (Int.toNat (((I (x + 2) (Int.toNat a1)) + v4_2))))], sh, gc_h sh I J A)
        refine gv_run 1 true hD (pcₚ := 45) (lvₚ := [(0, .inr (.inr (some 48))), (1, .inl a1), (2, .inl a2), (3, .inl a3), (4, .inl v4_2)]) (stₚ := [.inr (.inr (some 48)), .inl (I (x + 1) (Int.toNat (((I (x + 2) (Int.toNat a1)) + v4_2))))]) (hₚ := gc_h sh I J A) (C := (True ∧ True)) rfl ⟨trivial, trivial⟩ ?_
        refine gv_get hD rfl rfl S_48 ⟨by decide, (gz_sh B_48)⟩ (gc_hA S_48 rfl A_48_0) ?_
        show gv_X _ _ (48, [(0, .inr (.inr (some 48))), (1, .inl a1), (2, .inl a2), (3, .inl a3), (4, .inl v4_2)], [.inr (.inr (some 1)), .inl (I (x + 1) (Int.toNat (((I (x + 2) (Int.toNat a1)) + v4_2))))], sh, gc_h sh I J A)
        refine gv_get hD rfl rfl S_1 ⟨by decide, (gz_sh B_1)⟩ (gc_hA S_1 rfl A_1_16) ?_
        show gv_X _ _ (51, [(0, .inr (.inr (some 48))), (1, .inl a1), (2, .inl a2), (3, .inl a3), (4, .inl v4_2)], [.inr (.inr (some 20)), .inl (I (x + 1) (Int.toNat (((I (x + 2) (Int.toNat a1)) + v4_2))))], sh, gc_h sh I J A)
        refine gv_run 3 true hD (pcₚ := 55) (lvₚ := [(0, .inr (.inr (some 48))), (1, .inl a1), (2, .inl a2), (3, .inl a3), (4, .inl v4_2)]) (stₚ := [.inl (a2 + v4_2), .inr (.inr (some 20)), .inl (I (x + 1) (Int.toNat (((I (x + 2) (Int.toNat a1)) + v4_2))))]) (hₚ := gc_h sh I J A) (C := (((True ∧ True) ∧ True) ∧ True)) rfl ⟨⟨⟨trivial, trivial⟩, trivial⟩, trivial⟩ ?_
        have f8 := gz_hi ((gc_b_36 hI (gz_sh R_20) (Int.toNat (a2 + v4_2))))
        refine gv_bald hD rfl S_20 (Or.inl rfl) ⟨by decide, (gz_sh B_20)⟩ ⟨by (/-14-/first | (have o1 := gz_sh hv4_2; omega) | (simp only [gz_hd] at *; omega)), by (/-15-/first | (have o1 := gz_sh hv4_2; omega) | (simp only [gz_hd] at *; omega))⟩ (gc_iI S_20 rfl) ?_
        show gv_X _ _ (56, [(0, .inr (.inr (some 48))), (1, .inl a1), (2, .inl a2), (3, .inl a3), (4, .inl v4_2)], [.inl (I 20 (Int.toNat (a2 + v4_2))), .inl (I (x + 1) (Int.toNat (((I (x + 2) (Int.toNat a1)) + v4_2))))], sh, gc_h sh I J A)
        refine gv_icmp_eq (t := 61) hD rfl rfl ⟨⟨by (/-16-/first | (have o1 := gz_sh f7; omega) | (simp only [gz_hd] at *; omega)), by (/-17-/first | (have o1 := gz_sh f7; omega) | (simp only [gz_hd] at *; omega))⟩, ⟨by (/-18-/first | (have o1 := gz_sh f8; omega) | (simp only [gz_hd] at *; omega)), by (/-19-/first | (have o1 := gz_sh f8; omega) | (simp only [gz_hd] at *; omega))⟩⟩ (fun c9 => ?_) (fun c9 => ?_)
        · show gv_X _ _ (61, [(0, .inr (.inr (some 48))), (1, .inl a1), (2, .inl a2), (3, .inl a3), (4, .inl v4_2)], [], sh, gc_h sh I J A)
          refine gv_run 2 true hD (pcₚ := 18) (lvₚ := [(4, .inl (v4_2 + 1)), (0, .inr (.inr (some 48))), (1, .inl a1), (2, .inl a2), (3, .inl a3)]) (stₚ := []) (hₚ := gc_h sh I J A) (C := ((True ∧ True) ∧ True)) rfl ⟨⟨trivial, trivial⟩, trivial⟩ ?_
          refine gv_pick [1, 2, 3, 4, 0] rfl ?_
          exact ih18 (v4_2 + 1) (by (/-20-/first | (have o1 := gz_sh e0_2; have o2 := gz_sh hv4_2; omega) | (simp only [gz_hd] at *; omega))) (by (/-21-/first | (and_intros; (omega); (omega); (omega); (omega); (omega); (omega); (have o1 := gz_sh hv4_2; omega); (omega); (have o1 := gz_sh e0_2; omega); (omega)) | (simp only [gz_hd] at *; omega)))
        · show gv_X _ _ (59, [(0, .inr (.inr (some 48))), (1, .inl a1), (2, .inl a2), (3, .inl a3), (4, .inl v4_2)], [], sh, gc_h sh I J A)
          refine gv_run 1 true hD (pcₚ := 60) (lvₚ := [(0, .inr (.inr (some 48))), (1, .inl a1), (2, .inl a2), (3, .inl a3), (4, .inl v4_2)]) (stₚ := [.inl 0]) (hₚ := gc_h sh I J A) (C := (True ∧ True)) rfl ⟨trivial, trivial⟩ ?_
          exact gv_zret hD rfl (by (/-22-/first | omega | (simp only [gz_hd] at *; omega))) ⟨rfl, ⟨_, rfl, by (/-23-/first | (and_intros <;> omega) | (simp only [gz_hd] at *; omega))⟩⟩
  refine gv_run 1 true hD (pcₚ := 1) (lvₚ := [(0, .inr (.inr (some 48))), (1, .inl a1), (2, .inl a2), (3, .inl a3)]) (stₚ := [.inr (.inr (some 48))]) (hₚ := gc_h sh I J A) (C := (True ∧ True)) rfl ⟨trivial, trivial⟩ ?_
  refine gv_get hD rfl rfl S_48 ⟨by decide, (gz_sh B_48)⟩ (gc_h5 (t := x) S_48 rfl (by (/-24-/first | omega | (simp only [gz_hd] at *; omega)))) ?_
  show gv_X _ _ (4, [(0, .inr (.inr (some 48))), (1, .inl a1), (2, .inl a2), (3, .inl a3)], [.inr (.inr (some x))], sh, gc_h sh I J A)
  refine gv_get hD rfl rfl S_x ⟨by decide, (gz_sh B_x)⟩ (gc_hA S_x rfl A_x_3) ?_
  show gv_X _ _ (7, [(0, .inr (.inr (some 48))), (1, .inl a1), (2, .inl a2), (3, .inl a3)], [.inr (.inr (some (x + 3)))], sh, gc_h sh I J A)
  refine gv_run 1 true hD (pcₚ := 8) (lvₚ := [(0, .inr (.inr (some 48))), (1, .inl a1), (2, .inl a2), (3, .inl a3)]) (stₚ := [.inl a1, .inr (.inr (some (x + 3)))]) (hₚ := gc_h sh I J A) (C := (True ∧ True)) rfl ⟨trivial, trivial⟩ ?_
  have f10 := gz_hi ((show 0 ≤ I (x + 3) (Int.toNat a1) ∧ I (x + 3) (Int.toNat a1) ≤ 24 from gc_in2 hI (gz_sh R_x_3) rfl rfl rfl))
  refine gv_iald hD rfl S_x_3 rfl ⟨by decide, (gz_sh B_x_3)⟩ ⟨by (/-25-/first | omega | (simp only [gz_hd] at *; omega)), by (/-26-/first | omega | (simp only [gz_hd] at *; omega))⟩ (gc_iI S_x_3 rfl) ?_
  show gv_X _ _ (9, [(0, .inr (.inr (some 48))), (1, .inl a1), (2, .inl a2), (3, .inl a3)], [.inl (I (x + 3) (Int.toNat a1))], sh, gc_h sh I J A)
  refine gv_run 1 true hD (pcₚ := 10) (lvₚ := [(0, .inr (.inr (some 48))), (1, .inl a1), (2, .inl a2), (3, .inl a3)]) (stₚ := [.inl a3, .inl (I (x + 3) (Int.toNat a1))]) (hₚ := gc_h sh I J A) (C := (True ∧ True)) rfl ⟨trivial, trivial⟩ ?_
  refine gv_icmp_eq (t := 15) hD rfl rfl ⟨⟨by (/-27-/first | (have o1 := gz_sh f10; omega) | (simp only [gz_hd] at *; omega)), by (/-28-/first | (have o1 := gz_sh f10; omega) | (simp only [gz_hd] at *; omega))⟩, ⟨by (/-29-/first | omega | (simp only [gz_hd] at *; omega)), by (/-30-/first | omega | (simp only [gz_hd] at *; omega))⟩⟩ (fun c11 => ?_) (fun c11 => ?_)
  · show gv_X _ _ (15, [(0, .inr (.inr (some 48))), (1, .inl a1), (2, .inl a2), (3, .inl a3)], [], sh, gc_h sh I J A)
    refine gv_run 2 true hD (pcₚ := 18) (lvₚ := [(4, .inl 0), (0, .inr (.inr (some 48))), (1, .inl a1), (2, .inl a2), (3, .inl a3)]) (stₚ := []) (hₚ := gc_h sh I J A) (C := ((True ∧ True) ∧ True)) rfl ⟨⟨trivial, trivial⟩, trivial⟩ ?_
    refine gv_pick [1, 2, 3, 4, 0] rfl ?_
    exact L18 _ 0 (Nat.lt_succ_self _) (by (/-31-/first | (and_intros <;> omega) | (simp only [gz_hd] at *; omega)))
  · show gv_X _ _ (13, [(0, .inr (.inr (some 48))), (1, .inl a1), (2, .inl a2), (3, .inl a3)], [], sh, gc_h sh I J A)
    refine gv_run 1 true hD (pcₚ := 14) (lvₚ := [(0, .inr (.inr (some 48))), (1, .inl a1), (2, .inl a2), (3, .inl a3)]) (stₚ := [.inl 0]) (hₚ := gc_h sh I J A) (C := (True ∧ True)) rfl ⟨trivial, trivial⟩ ?_
    exact gv_zret hD rfl (by (/-32-/first | omega | (simp only [gz_hd] at *; omega))) ⟨rfl, ⟨_, rfl, by (/-33-/first | (and_intros <;> omega) | (simp only [gz_hd] at *; omega))⟩⟩
set_option maxHeartbeats 8000000 in
set_option maxRecDepth 100000 in
theorem d_X0_putWay {ws0 : List Cond} {tb : String → gz_T} (hws : gc_Ws ws0) (htb : gc_tbs tb) (sh : gz_Sh) (ro : Nat → Nat) (I : gr_I) (J : gr_J) (A : gc_A) (hI : gc_Inv ro I) (t : Nat) (σ : Nat → Int) (wb : Int) (a1 : Int) (a2 : Int) (a3 : Int) (hb : gc_Base sh ro A) (h_t : gc_isTongue sh ro A t) (G_t : 144 ≤ t) (ha1 : (-384) ≤ a1 ∧ a1 ≤ 1535) (ha2 : 0 ≤ a2 ∧ a2 ≤ 16777215) (ha3 : 0 ≤ a3 ∧ a3 ≤ 4) (x0 : 0 ≤ a1 ∨ -1 - a1 < I t 13) (x1 : I 48 17 ≤ I 48 3) (x2 : gc_CH a3 I) (x3 : 0 ≤ a1 ∨ σ (Int.toNat (-1 - a1)) ≤ a3) (x4 : a1 < wb) (x5 : I 48 13 = (t : Int)) (KWV_I : gc_WV t I) (KWA_I : gc_WA σ I) (KWB_I : gc_WB wb I) : ∃ r hₚ, gz_Ev ws0 tb 2 (yX0_putWay, cX0_putWay, 5, none) [.inr (.inr (some 48)), .inl a1, .inl a2, .inl a3] sh (gc_h sh I J A) r sh hₚ 0 0 ∧ (∃ (Iₚ : gr_I) (Jₚ : gr_J), hₚ = gc_h sh Iₚ Jₚ A ∧ gc_Inv ro Iₚ ∧ (∀ q j : Nat, ((q = 48 ∧ j = 3) ∨ (q = 48 ∧ j = 6) ∨ (q = 48 ∧ j = 12) ∨ q = 51 ∨ q = 52 ∨ q = 53 ∨ q = 54 ∨ q = 55) ∨ Iₚ q j = I q j) ∧ (∀ q j : Nat, (False) ∨ Jₚ q j = J q j) ∧ gc_WV t Iₚ ∧ gc_WA σ Iₚ ∧ gc_WB wb Iₚ ∧ r = none ∧ (I 48 3 ≤ Iₚ 48 3) ∧ (Iₚ 48 12 = 1 ∨ Iₚ 48 12 = I 48 12)) := by
  have FI : ∀ q j : Nat, ((q = 48 ∧ j = 3) ∨ (q = 48 ∧ j = 6) ∨ (q = 48 ∧ j = 12) ∨ q = 51 ∨ q = 52 ∨ q = 53 ∨ q = 54 ∨ q = 55) ∨ I q j = I q j := fun _ _ => Or.inr rfl
  have FJ : ∀ q j : Nat, (False) ∨ J q j = J q j := fun _ _ => Or.inr rfl
  have A_48_19 : A 48 19 = some 58 := gc_bA_48_19 hb
  have A_48_4 : A 48 4 = some 51 := gc_bA_48_4 hb
  have A_48_5 : A 48 5 = some 52 := gc_bA_48_5 hb
  have A_48_7 : A 48 7 = some 53 := gc_bA_48_7 hb
  have A_48_8 : A 48 8 = some 54 := gc_bA_48_8 hb
  have A_48_9 : A 48 9 = some 55 := gc_bA_48_9 hb
  have B_48 := gz_hi (show 48 < 1000000 from by decide)
  have B_51 := gz_hi (show 51 < 1000000 from by decide)
  have B_52 := gz_hi (show 52 < 1000000 from by decide)
  have B_53 := gz_hi (show 53 < 1000000 from by decide)
  have B_54 := gz_hi (show 54 < 1000000 from by decide)
  have B_55 := gz_hi (show 55 < 1000000 from by decide)
  have B_58 := gz_hi (show 58 < 1000000 from by decide)
  have R_48 := gz_hi (show ro 48 = 49 from gc_bR_48 hb)
  have R_51 := gz_hi (show ro 51 = 45 from gc_bR_51 hb)
  have R_52 := gz_hi (show ro 52 = 13 from gc_bR_52 hb)
  have R_53 := gz_hi (show ro 53 = 44 from gc_bR_53 hb)
  have R_54 := gz_hi (show ro 54 = 46 from gc_bR_54 hb)
  have R_55 := gz_hi (show ro 55 = 44 from gc_bR_55 hb)
  have R_58 := gz_hi (show ro 58 = 44 from gc_bR_58 hb)
  have S_48 : sh[48]? = some (false, 0, 22) := gc_bS_48 hb
  have S_51 : sh[51]? = some (true, 1, 3000) := gc_bS_51 hb
  have S_52 : sh[52]? = some (true, 1, 3000) := gc_bS_52 hb
  have S_53 : sh[53]? = some (true, 1, 9000) := gc_bS_53 hb
  have S_54 : sh[54]? = some (true, 1, 9000) := gc_bS_54 hb
  have S_55 : sh[55]? = some (true, 1, 36000) := gc_bS_55 hb
  have S_58 : sh[58]? = some (true, 1, 4) := gc_bS_58 hb
  obtain ⟨S_t, R_t, B_t, A_t_0, h_t_1, A_t_1, h_t_3, A_t_2, S_t_5, R_t_5, B_t_5, A_t_3, S_t_6, R_t_6, B_t_6, A_t_4, h_t_7, A_t_5, S_t_9, R_t_9, B_t_9, A_t_7, S_t_10, R_t_10, B_t_10, A_t_8, h_t_11, A_t_9, S_t_13, R_t_13, B_t_13, A_t_10, S_t_14, R_t_14, B_t_14, A_t_12, S_t_15, R_t_15, B_t_15, A_t_14, S_t_16, R_t_16, B_t_16, A_t_15, h_t_17⟩ := id h_t
  replace R_t := gz_hi R_t
  replace B_t := gz_hi B_t
  replace R_t_5 := gz_hi R_t_5
  replace B_t_5 := gz_hi B_t_5
  replace R_t_6 := gz_hi R_t_6
  replace B_t_6 := gz_hi B_t_6
  replace R_t_9 := gz_hi R_t_9
  replace B_t_9 := gz_hi B_t_9
  replace R_t_10 := gz_hi R_t_10
  replace B_t_10 := gz_hi B_t_10
  replace R_t_13 := gz_hi R_t_13
  replace B_t_13 := gz_hi B_t_13
  replace R_t_14 := gz_hi R_t_14
  replace B_t_14 := gz_hi B_t_14
  replace R_t_15 := gz_hi R_t_15
  replace B_t_15 := gz_hi B_t_15
  replace R_t_16 := gz_hi R_t_16
  replace B_t_16 := gz_hi B_t_16
  obtain ⟨S_t_1, R_t_1, B_t_1, A_t_1_0, S_t_1_1, R_t_1_1, B_t_1_1, Q0_t_1, Q1_t_1, Q2_t_1⟩ := id h_t_1
  replace R_t_1 := gz_hi R_t_1
  replace B_t_1 := gz_hi B_t_1
  replace R_t_1_1 := gz_hi R_t_1_1
  replace B_t_1_1 := gz_hi B_t_1_1
  obtain ⟨S_t_3, R_t_3, B_t_3, A_t_3_0, S_t_3_1, R_t_3_1, B_t_3_1, Q0_t_3, Q1_t_3, Q2_t_3⟩ := id h_t_3
  replace R_t_3 := gz_hi R_t_3
  replace B_t_3 := gz_hi B_t_3
  replace R_t_3_1 := gz_hi R_t_3_1
  replace B_t_3_1 := gz_hi B_t_3_1
  obtain ⟨S_t_7, R_t_7, B_t_7, A_t_7_0, S_t_7_1, R_t_7_1, B_t_7_1, Q0_t_7, Q1_t_7, Q2_t_7⟩ := id h_t_7
  replace R_t_7 := gz_hi R_t_7
  replace B_t_7 := gz_hi B_t_7
  replace R_t_7_1 := gz_hi R_t_7_1
  replace B_t_7_1 := gz_hi B_t_7_1
  obtain ⟨S_t_11, R_t_11, B_t_11, A_t_11_0, S_t_11_1, R_t_11_1, B_t_11_1, Q0_t_11, Q1_t_11, Q2_t_11⟩ := id h_t_11
  replace R_t_11 := gz_hi R_t_11
  replace B_t_11 := gz_hi B_t_11
  replace R_t_11_1 := gz_hi R_t_11_1
  replace B_t_11_1 := gz_hi B_t_11_1
  obtain ⟨S_t_17, R_t_17, B_t_17, A_t_17_0, S_20, R_20, B_20, A_t_17_1, S_t_17_1, R_t_17_1, B_t_17_1, A_t_17_2, S_t_17_2, R_t_17_2, B_t_17_2, A_t_17_3, S_t_17_3, R_t_17_3, B_t_17_3, A_t_17_4, S_t_17_4, R_t_17_4, B_t_17_4, A_t_17_5, S_t_17_5, R_t_17_5, B_t_17_5, S_t_17_6, R_t_17_6, B_t_17_6, S_t_17_7, R_t_17_7, B_t_17_7⟩ := id h_t_17
  replace R_t_17 := gz_hi R_t_17
  replace B_t_17 := gz_hi B_t_17
  replace R_20 := gz_hi R_20
  replace B_20 := gz_hi B_20
  replace R_t_17_1 := gz_hi R_t_17_1
  replace B_t_17_1 := gz_hi B_t_17_1
  replace R_t_17_2 := gz_hi R_t_17_2
  replace B_t_17_2 := gz_hi B_t_17_2
  replace R_t_17_3 := gz_hi R_t_17_3
  replace B_t_17_3 := gz_hi B_t_17_3
  replace R_t_17_4 := gz_hi R_t_17_4
  replace B_t_17_4 := gz_hi B_t_17_4
  replace R_t_17_5 := gz_hi R_t_17_5
  replace B_t_17_5 := gz_hi B_t_17_5
  replace R_t_17_6 := gz_hi R_t_17_6
  replace B_t_17_6 := gz_hi B_t_17_6
  replace R_t_17_7 := gz_hi R_t_17_7
  replace B_t_17_7 := gz_hi B_t_17_7
  have hD : gv_D (gc_E0 ws0 tb 1 (yX0_putWay, cX0_putWay, 5, none) kX0_putWay) := gq_of oX0_putWay
  refine gc_ev0 (d := 1) (l := kX0_putWay) (Po := fun r hₚ => (∃ (Iₚ : gr_I) (Jₚ : gr_J), hₚ = gc_h sh Iₚ Jₚ A ∧ gc_Inv ro Iₚ ∧ (∀ q j : Nat, ((q = 48 ∧ j = 3) ∨ (q = 48 ∧ j = 6) ∨ (q = 48 ∧ j = 12) ∨ q = 51 ∨ q = 52 ∨ q = 53 ∨ q = 54 ∨ q = 55) ∨ Iₚ q j = I q j) ∧ (∀ q j : Nat, (False) ∨ Jₚ q j = J q j) ∧ gc_WV t Iₚ ∧ gc_WA σ Iₚ ∧ gc_WB wb Iₚ ∧ r = none ∧ (I 48 3 ≤ Iₚ 48 3) ∧ (Iₚ 48 12 = 1 ∨ Iₚ 48 12 = I 48 12))) htb rfl (Nat.le_of_ble_eq_true rfl) ?_
  have N_t__53 := gz_hi (show ¬ (t = 53) from by (/-0-/first | (have o1 := gz_sh B_t; have o2 := gz_sh B_t_10; have o3 := gz_sh B_t_13; have o4 := gz_sh B_t_14; have o5 := gz_sh B_t_15; have o6 := gz_sh B_t_16; have o7 := gz_sh B_t_17; have o8 := gz_sh B_t_17_1; have o9 := gz_sh B_t_17_2; have o10 := gz_sh B_t_17_3; have o11 := gz_sh B_t_17_4; have o12 := gz_sh B_t_17_5; have o13 := gz_sh B_t_17_6; have o14 := gz_sh B_t_17_7; have o15 := gz_sh B_t_5; have o16 := gz_sh B_t_6; have o17 := gz_sh B_t_9; omega) | (simp only [gz_hd] at *; omega)))
  have N_t__54 := gz_hi (show ¬ (t = 54) from by (/-1-/first | (have o1 := gz_sh B_t; have o2 := gz_sh B_t_10; have o3 := gz_sh B_t_13; have o4 := gz_sh B_t_14; have o5 := gz_sh B_t_15; have o6 := gz_sh B_t_16; have o7 := gz_sh B_t_17; have o8 := gz_sh B_t_17_1; have o9 := gz_sh B_t_17_2; have o10 := gz_sh B_t_17_3; have o11 := gz_sh B_t_17_4; have o12 := gz_sh B_t_17_5; have o13 := gz_sh B_t_17_6; have o14 := gz_sh B_t_17_7; have o15 := gz_sh B_t_5; have o16 := gz_sh B_t_6; have o17 := gz_sh B_t_9; omega) | (simp only [gz_hd] at *; omega)))
  have N_t__55 := gz_hi (show ¬ (t = 55) from by (/-2-/first | (have o1 := gz_sh B_t; have o2 := gz_sh B_t_10; have o3 := gz_sh B_t_13; have o4 := gz_sh B_t_14; have o5 := gz_sh B_t_15; have o6 := gz_sh B_t_16; have o7 := gz_sh B_t_17; have o8 := gz_sh B_t_17_1; have o9 := gz_sh B_t_17_2; have o10 := gz_sh B_t_17_3; have o11 := gz_sh B_t_17_4; have o12 := gz_sh B_t_17_5; have o13 := gz_sh B_t_17_6; have o14 := gz_sh B_t_17_7; have o15 := gz_sh B_t_5; have o16 := gz_sh B_t_6; have o17 := gz_sh B_t_9; omega) | (simp only [gz_hd] at *; omega)))
  have N_t__51 := gz_hi (show ¬ (t = 51) from by (/-3-/first | (have o1 := gz_sh B_t; have o2 := gz_sh B_t_10; have o3 := gz_sh B_t_13; have o4 := gz_sh B_t_14; have o5 := gz_sh B_t_15; have o6 := gz_sh B_t_16; have o7 := gz_sh B_t_17; have o8 := gz_sh B_t_17_1; have o9 := gz_sh B_t_17_2; have o10 := gz_sh B_t_17_3; have o11 := gz_sh B_t_17_4; have o12 := gz_sh B_t_17_5; have o13 := gz_sh B_t_17_6; have o14 := gz_sh B_t_17_7; have o15 := gz_sh B_t_5; have o16 := gz_sh B_t_6; have o17 := gz_sh B_t_9; omega) | (simp only [gz_hd] at *; omega)))
  have N_t__52 := gz_hi (show ¬ (t = 52) from by (/-4-/first | (have o1 := gz_sh B_t; have o2 := gz_sh B_t_10; have o3 := gz_sh B_t_13; have o4 := gz_sh B_t_14; have o5 := gz_sh B_t_15; have o6 := gz_sh B_t_16; have o7 := gz_sh B_t_17; have o8 := gz_sh B_t_17_1; have o9 := gz_sh B_t_17_2; have o10 := gz_sh B_t_17_3; have o11 := gz_sh B_t_17_4; have o12 := gz_sh B_t_17_5; have o13 := gz_sh B_t_17_6; have o14 := gz_sh B_t_17_7; have o15 := gz_sh B_t_5; have o16 := gz_sh B_t_6; have o17 := gz_sh B_t_9; omega) | (simp only [gz_hd] at *; omega)))
  have f1 := gz_hi ((gc_b_49_3 hI (gz_sh R_48)))
  have f2 := gz_hi ((gc_b_49_6 hI (gz_sh R_48)))
  have f3 := gz_hi ((gc_b_49_12 hI (gz_sh R_48)))
  have f4 := gz_hi ((gc_b_49_17 hI (gz_sh R_48)))
  have L6 : ∀ (n9 : Nat) (v4_7 : Int), (3001 - v4_7).toNat < n9 → (((-384) ≤ a1 ∧ a1 ≤ 1535) ∧ (0 ≤ a2 ∧ a2 ≤ 16777215) ∧ (0 ≤ a3 ∧ a3 ≤ 4) ∧ (0 ≤ v4_7 ∧ v4_7 ≤ 3000) ∧ (v4_7 ≤ I 48 3) ∧ (I 48 12 = I 48 12) ∧ (I 48 13 = (t : Int))) → gv_X (gc_E0 ws0 tb 1 (yX0_putWay, cX0_putWay, 5, none) kX0_putWay) (gv_Q cX0_putWay none sh (fun r hₚ => (∃ (Iₚ : gr_I) (Jₚ : gr_J), hₚ = gc_h sh Iₚ Jₚ A ∧ gc_Inv ro Iₚ ∧ (∀ q j : Nat, ((q = 48 ∧ j = 3) ∨ (q = 48 ∧ j = 6) ∨ (q = 48 ∧ j = 12) ∨ q = 51 ∨ q = 52 ∨ q = 53 ∨ q = 54 ∨ q = 55) ∨ Iₚ q j = I q j) ∧ (∀ q j : Nat, (False) ∨ Jₚ q j = J q j) ∧ gc_WV t Iₚ ∧ gc_WA σ Iₚ ∧ gc_WB wb Iₚ ∧ r = none ∧ (I 48 3 ≤ Iₚ 48 3) ∧ (Iₚ 48 12 = 1 ∨ Iₚ 48 12 = I 48 12)))) (6, [(0, .inr (.inr (some 48))), (1, .inl a1), (2, .inl a2), (3, .inl a3), (4, .inl v4_7)], [], sh, gc_h sh I J A) := by
    intro n9
    induction n9 with
    | zero => intro v4_7 hn; (/-5-/first | omega | (simp only [gz_hd] at *; omega))
    | succ n9 ih6 =>
      intro v4_7 hn m_7
      obtain ⟨ha1_7, ha2_7, ha3_7, hv4_7, e0_7, e1_7, e2_7⟩ := gz_h7 m_7
      have L32 : (((-384) ≤ a1 ∧ a1 ≤ 1535) ∧ (0 ≤ a2 ∧ a2 ≤ 16777215) ∧ (0 ≤ a3 ∧ a3 ≤ 4) ∧ (0 ≤ v4_7 ∧ v4_7 ≤ 3000) ∧ (v4_7 ≤ I 48 3) ∧ (I 48 12 = I 48 12) ∧ (I 48 13 = (t : Int))) → gv_X (gc_E0 ws0 tb 1 (yX0_putWay, cX0_putWay, 5, none) kX0_putWay) (gv_Q cX0_putWay none sh (fun r hₚ => (∃ (Iₚ : gr_I) (Jₚ : gr_J), hₚ = gc_h sh Iₚ Jₚ A ∧ gc_Inv ro Iₚ ∧ (∀ q j : Nat, ((q = 48 ∧ j = 3) ∨ (q = 48 ∧ j = 6) ∨ (q = 48 ∧ j = 12) ∨ q = 51 ∨ q = 52 ∨ q = 53 ∨ q = 54 ∨ q = 55) ∨ Iₚ q j = I q j) ∧ (∀ q j : Nat, (False) ∨ Jₚ q j = J q j) ∧ gc_WV t Iₚ ∧ gc_WA σ Iₚ ∧ gc_WB wb Iₚ ∧ r = none ∧ (I 48 3 ≤ Iₚ 48 3) ∧ (Iₚ 48 12 = 1 ∨ Iₚ 48 12 = I 48 12)))) (32, [(0, .inr (.inr (some 48))), (1, .inl a1), (2, .inl a2), (3, .inl a3), (4, .inl v4_7)], [], sh, gc_h sh I J A) := by
        intro m_14
        obtain ⟨ha1_14, ha2_14, ha3_14, hv4_7_14, e0_14, e1_14, e2_14⟩ := gz_h7 m_14
        have L50 : ((I 48 12 = I 48 12) ∧ (I 48 13 = (t : Int))) → gv_X (gc_E0 ws0 tb 1 (yX0_putWay, cX0_putWay, 5, none) kX0_putWay) (gv_Q cX0_putWay none sh (fun r hₚ => (∃ (Iₚ : gr_I) (Jₚ : gr_J), hₚ = gc_h sh Iₚ Jₚ A ∧ gc_Inv ro Iₚ ∧ (∀ q j : Nat, ((q = 48 ∧ j = 3) ∨ (q = 48 ∧ j = 6) ∨ (q = 48 ∧ j = 12) ∨ q = 51 ∨ q = 52 ∨ q = 53 ∨ q = 54 ∨ q = 55) ∨ Iₚ q j = I q j) ∧ (∀ q j : Nat, (False) ∨ Jₚ q j = J q j) ∧ gc_WV t Iₚ ∧ gc_WA σ Iₚ ∧ gc_WB wb Iₚ ∧ r = none ∧ (I 48 3 ≤ Iₚ 48 3) ∧ (Iₚ 48 12 = 1 ∨ Iₚ 48 12 = I 48 12)))) (50, [(0, .inr (.inr (some 48)))], [], sh, gc_h sh I J A) := by
          intro m_21
          obtain ⟨e0_21, e1_21⟩ := gz_h2 m_21
          refine gv_run 2 true hD (pcₚ := 52) (lvₚ := [(0, .inr (.inr (some 48)))]) (stₚ := [.inl 1, .inr (.inr (some 48))]) (hₚ := gc_h sh I J A) (C := ((True ∧ True) ∧ True)) rfl ⟨⟨trivial, trivial⟩, trivial⟩ ?_
          refine gv_put hD rfl rfl S_48 ⟨by decide, (gz_sh B_48)⟩ rfl (by (/-6-/first | omega | (simp only [gz_hd] at *; omega))) ?_
          refine gc_st (k := 12) hI S_48 rfl (gz_sh R_48) (lo := 0) (hi := 1) rfl rfl (by (/-7-/first | omega | (simp only [gz_hd] at *; omega))) (by (/-8-/first | omega | (simp only [gz_hd] at *; omega))) (fun I28 hI28 q29 p29 => ?_)
          have FI28 := gc_frs (W := fun q j => (q = 48 ∧ j = 3) ∨ (q = 48 ∧ j = 6) ∨ (q = 48 ∧ j = 12) ∨ q = 51 ∨ q = 52 ∨ q = 53 ∨ q = 54 ∨ q = 55) FI (Or.inr (Or.inr (Or.inl ⟨rfl, rfl⟩))) p29
          have t30 := gz_hi (p29 48 3 (fun h => absurd h.2 (by first | exact gz_ne rfl | decide)))
          have KWV_I28 := gc_WV_fr KWV_I (p29 48 6 (fun h => absurd h.2 (by first | exact gz_ne rfl | decide))) (p29 t 13 (fun h => absurd h.2 (by first | exact gz_ne rfl | decide))) (fun k => p29 54 k (fun h => absurd h.1 (by first | exact gz_ne rfl | decide)))
          have KWA_I28 := gc_WA_fr KWA_I (p29 48 6 (fun h => absurd h.2 (by first | exact gz_ne rfl | decide))) (Int.le_of_eq (p29 48 3 (fun h => absurd h.2 (by first | exact gz_ne rfl | decide))).symm) (fun k => p29 53 k (fun h => absurd h.1 (by first | exact gz_ne rfl | decide))) (fun k => p29 54 k (fun h => absurd h.1 (by first | exact gz_ne rfl | decide))) (fun k => p29 55 k (fun h => absurd h.1 (by first | exact gz_ne rfl | decide)))
          have KWB_I28 := gc_WB_fr KWB_I (p29 48 6 (fun h => absurd h.2 (by first | exact gz_ne rfl | decide))) (fun k => p29 54 k (fun h => absurd h.1 (by first | exact gz_ne rfl | decide)))
          show gv_X _ _ (55, [(0, .inr (.inr (some 48)))], [], sh, gc_h sh I28 J A)
          exact gv_vret hD rfl ⟨I28, J, rfl, hI28, FI28, FJ, KWV_I28, KWA_I28, KWB_I28, ⟨rfl, by (/-9-/first | (and_intros; (have o1 := gz_sh t30; omega); (omega)) | (simp only [gz_hd] at *; omega))⟩⟩
        have L94 : ∀ (I36 : gr_I) (J37 : gr_J) , gc_Inv ro I36 → (∀ q j : Nat, ((q = 48 ∧ j = 3) ∨ (q = 48 ∧ j = 6) ∨ (q = 48 ∧ j = 12) ∨ q = 51 ∨ q = 52 ∨ q = 53 ∨ q = 54 ∨ q = 55) ∨ I36 q j = I q j) → (∀ q j : Nat, (False) ∨ J37 q j = J q j) → gc_WV t I36 → gc_WA σ I36 → gc_WB wb I36 → (((-384) ≤ a1 ∧ a1 ≤ 1535) ∧ (0 ≤ a3 ∧ a3 ≤ 4) ∧ (0 ≤ v4_7 ∧ v4_7 ≤ 2999) ∧ (v4_7 ≤ 2999) ∧ (v4_7 < I36 48 3) ∧ (I36 48 6 ≤ 8999) ∧ (I 48 3 ≤ I36 48 3) ∧ (I36 t 13 = I t 13) ∧ (I36 48 12 = I 48 12) ∧ (I36 48 13 = (t : Int))) → gv_X (gc_E0 ws0 tb 1 (yX0_putWay, cX0_putWay, 5, none) kX0_putWay) (gv_Q cX0_putWay none sh (fun r hₚ => (∃ (Iₚ : gr_I) (Jₚ : gr_J), hₚ = gc_h sh Iₚ Jₚ A ∧ gc_Inv ro Iₚ ∧ (∀ q j : Nat, ((q = 48 ∧ j = 3) ∨ (q = 48 ∧ j = 6) ∨ (q = 48 ∧ j = 12) ∨ q = 51 ∨ q = 52 ∨ q = 53 ∨ q = 54 ∨ q = 55) ∨ Iₚ q j = I q j) ∧ (∀ q j : Nat, (False) ∨ Jₚ q j = J q j) ∧ gc_WV t Iₚ ∧ gc_WA σ Iₚ ∧ gc_WB wb Iₚ ∧ r = none ∧ (I 48 3 ≤ Iₚ 48 3) ∧ (Iₚ 48 12 = 1 ∨ Iₚ 48 12 = I 48 12)))) (94, [(0, .inr (.inr (some 48))), (1, .inl a1), (3, .inl a3), (4, .inl v4_7)], [], sh, gc_h sh I36 J37 A) := by
          intro I36 J37 hI36 FI36 FJ37 KWV_I36 KWA_I36 KWB_I36 m_38
          clear ha1_14 ha2_14 ha3_14 hv4_7_14 e0_14 e1_14 e2_14 ha1_7 ha2_7 ha3_7 hv4_7 e0_7 e1_7 e2_7
          obtain ⟨ha1_38, ha3_38, hv4_7_38, e0_38, e1_38, e2_38, e3_38, e4_38, e5_38, e6_38⟩ := gz_h10 m_38
          have f40 := gz_hi ((gc_b_49_6 hI36 (gz_sh R_48)))
          refine gv_run 1 true hD (pcₚ := 95) (lvₚ := [(0, .inr (.inr (some 48))), (1, .inl a1), (3, .inl a3), (4, .inl v4_7)]) (stₚ := [.inr (.inr (some 48))]) (hₚ := gc_h sh I36 J37 A) (C := (True ∧ True)) rfl ⟨trivial, trivial⟩ ?_
          refine gv_get hD rfl rfl S_48 ⟨by decide, (gz_sh B_48)⟩ (gc_hA S_48 rfl A_48_7) ?_
          show gv_X _ _ (98, [(0, .inr (.inr (some 48))), (1, .inl a1), (3, .inl a3), (4, .inl v4_7)], [.inr (.inr (some 53))], sh, gc_h sh I36 J37 A)
          refine gv_run 1 true hD (pcₚ := 99) (lvₚ := [(0, .inr (.inr (some 48))), (1, .inl a1), (3, .inl a3), (4, .inl v4_7)]) (stₚ := [.inr (.inr (some 48)), .inr (.inr (some 53))]) (hₚ := gc_h sh I36 J37 A) (C := (True ∧ True)) rfl ⟨trivial, trivial⟩ ?_
          refine gv_get hD rfl rfl S_48 ⟨by decide, (gz_sh B_48)⟩ (gc_hI S_48 rfl) ?_
          show gv_X _ _ (102, [(0, .inr (.inr (some 48))), (1, .inl a1), (3, .inl a3), (4, .inl v4_7)], [.inl (I36 48 6), .inr (.inr (some 53))], sh, gc_h sh I36 J37 A)
          refine gv_run 1 true hD (pcₚ := 104) (lvₚ := [(0, .inr (.inr (some 48))), (1, .inl a1), (3, .inl a3), (4, .inl v4_7)]) (stₚ := [.inl v4_7, .inl (I36 48 6), .inr (.inr (some 53))]) (hₚ := gc_h sh I36 J37 A) (C := (True ∧ True)) rfl ⟨trivial, trivial⟩ ?_
          refine gv_iast hD rfl S_53 ⟨by decide, (gz_sh B_53)⟩ ⟨by (/-10-/first | (have o1 := gz_sh f40; omega) | (simp only [gz_hd] at *; omega)), by (/-11-/first | (have o1 := gz_sh e2_38; omega) | (simp only [gz_hd] at *; omega))⟩ ?_
          refine gc_st hI36 S_53 rfl (gz_sh R_53) (lo := 0) (hi := 2999) rfl rfl (by (/-12-/first | (have o1 := gz_sh hv4_7_38; omega) | (simp only [gz_hd] at *; omega))) (by (/-13-/first | (have o1 := gz_sh e0_38; omega) | (simp only [gz_hd] at *; omega))) (fun I46 hI46 q47 p47 => ?_)
          have FI46 := gc_frs (W := fun q j => (q = 48 ∧ j = 3) ∨ (q = 48 ∧ j = 6) ∨ (q = 48 ∧ j = 12) ∨ q = 51 ∨ q = 52 ∨ q = 53 ∨ q = 54 ∨ q = 55) FI36 (Or.inr (Or.inr (Or.inr (Or.inr (Or.inr (Or.inl rfl)))))) p47
          have t48 := gz_hi (p47 48 3 (fun h => absurd h.1 (by first | exact gz_ne rfl | decide)))
          have t49 := gz_hi (p47 48 6 (fun h => absurd h.1 (by first | exact gz_ne rfl | decide)))
          have t50 := gz_hi (p47 48 12 (fun h => absurd h.1 (by first | exact gz_ne rfl | decide)))
          have t52 := gz_hi (p47 t 13 (fun h => absurd h.1 (gz_sh N_t__53)))
          have t53 := gz_hi (p47 48 13 (fun h => absurd h.1 (by first | exact gz_ne rfl | decide)))
          have KWV_I46 := gc_WV_fr KWV_I36 (p47 48 6 (fun h => absurd h.1 (by first | exact gz_ne rfl | decide))) (p47 t 13 (fun h => absurd h.1 (gz_sh N_t__53))) (fun k => p47 54 k (fun h => absurd h.1 (by first | exact gz_ne rfl | decide)))
          have KWB_I46 := gc_WB_fr KWB_I36 (p47 48 6 (fun h => absurd h.1 (by first | exact gz_ne rfl | decide))) (fun k => p47 54 k (fun h => absurd h.1 (by first | exact gz_ne rfl | decide)))
          show gv_X _ _ (105, [(0, .inr (.inr (some 48))), (1, .inl a1), (3, .inl a3), (4, .inl v4_7)], [], sh, gc_h sh I46 J37 A)
          refine gv_run 1 true hD (pcₚ := 106) (lvₚ := [(0, .inr (.inr (some 48))), (1, .inl a1), (3, .inl a3), (4, .inl v4_7)]) (stₚ := [.inr (.inr (some 48))]) (hₚ := gc_h sh I46 J37 A) (C := (True ∧ True)) rfl ⟨trivial, trivial⟩ ?_
          refine gv_get hD rfl rfl S_48 ⟨by decide, (gz_sh B_48)⟩ (gc_hA S_48 rfl A_48_8) ?_
          show gv_X _ _ (109, [(0, .inr (.inr (some 48))), (1, .inl a1), (3, .inl a3), (4, .inl v4_7)], [.inr (.inr (some 54))], sh, gc_h sh I46 J37 A)
          refine gv_run 1 true hD (pcₚ := 110) (lvₚ := [(0, .inr (.inr (some 48))), (1, .inl a1), (3, .inl a3), (4, .inl v4_7)]) (stₚ := [.inr (.inr (some 48)), .inr (.inr (some 54))]) (hₚ := gc_h sh I46 J37 A) (C := (True ∧ True)) rfl ⟨trivial, trivial⟩ ?_
          refine gv_get hD rfl rfl S_48 ⟨by decide, (gz_sh B_48)⟩ (gc_hI S_48 rfl) ?_
          show gv_X _ _ (113, [(0, .inr (.inr (some 48))), (1, .inl a1), (3, .inl a3), (4, .inl v4_7)], [.inl (I46 48 6), .inr (.inr (some 54))], sh, gc_h sh I46 J37 A)
          refine gv_run 1 true hD (pcₚ := 114) (lvₚ := [(0, .inr (.inr (some 48))), (1, .inl a1), (3, .inl a3), (4, .inl v4_7)]) (stₚ := [.inl a1, .inl (I46 48 6), .inr (.inr (some 54))]) (hₚ := gc_h sh I46 J37 A) (C := (True ∧ True)) rfl ⟨trivial, trivial⟩ ?_
          refine gv_iast hD rfl S_54 ⟨by decide, (gz_sh B_54)⟩ ⟨by (/-14-/first | (have o1 := gz_sh f40; have o2 := gz_sh t49; omega) | (simp only [gz_hd] at *; omega)), by (/-15-/first | (have o1 := gz_sh e2_38; have o2 := gz_sh t49; omega) | (simp only [gz_hd] at *; omega))⟩ ?_
          refine gc_st hI46 S_54 rfl (gz_sh R_54) (lo := (-384)) (hi := 1535) rfl rfl (by (/-16-/first | omega | (simp only [gz_hd] at *; omega))) (by (/-17-/first | omega | (simp only [gz_hd] at *; omega))) (fun I55 hI55 q56 p56 => ?_)
          have FI55 := gc_frs (W := fun q j => (q = 48 ∧ j = 3) ∨ (q = 48 ∧ j = 6) ∨ (q = 48 ∧ j = 12) ∨ q = 51 ∨ q = 52 ∨ q = 53 ∨ q = 54 ∨ q = 55) FI46 (Or.inr (Or.inr (Or.inr (Or.inr (Or.inr (Or.inr (Or.inl rfl))))))) p56
          have t57 := gz_hi (p56 48 3 (fun h => absurd h.1 (by first | exact gz_ne rfl | decide)))
          have t58 := gz_hi (p56 48 6 (fun h => absurd h.1 (by first | exact gz_ne rfl | decide)))
          have t59 := gz_hi (p56 48 12 (fun h => absurd h.1 (by first | exact gz_ne rfl | decide)))
          have t61 := gz_hi (p56 t 13 (fun h => absurd h.1 (gz_sh N_t__54)))
          have t62 := gz_hi (p56 48 13 (fun h => absurd h.1 (by first | exact gz_ne rfl | decide)))
          show gv_X _ _ (115, [(0, .inr (.inr (some 48))), (1, .inl a1), (3, .inl a3), (4, .inl v4_7)], [], sh, gc_h sh I55 J37 A)
          refine gv_run 1 true hD (pcₚ := 116) (lvₚ := [(0, .inr (.inr (some 48))), (1, .inl a1), (3, .inl a3), (4, .inl v4_7)]) (stₚ := [.inr (.inr (some 48))]) (hₚ := gc_h sh I55 J37 A) (C := (True ∧ True)) rfl ⟨trivial, trivial⟩ ?_
          refine gv_get hD rfl rfl S_48 ⟨by decide, (gz_sh B_48)⟩ (gc_hA S_48 rfl A_48_19) ?_
          show gv_X _ _ (119, [(0, .inr (.inr (some 48))), (1, .inl a1), (3, .inl a3), (4, .inl v4_7)], [.inr (.inr (some 58))], sh, gc_h sh I55 J37 A)
          refine gv_run 2 true hD (pcₚ := 121) (lvₚ := [(0, .inr (.inr (some 48))), (1, .inl a1), (3, .inl a3), (4, .inl v4_7)]) (stₚ := [.inr (.inr (some 48)), .inl 0, .inr (.inr (some 58))]) (hₚ := gc_h sh I55 J37 A) (C := ((True ∧ True) ∧ True)) rfl ⟨⟨trivial, trivial⟩, trivial⟩ ?_
          refine gv_get hD rfl rfl S_48 ⟨by decide, (gz_sh B_48)⟩ (gc_hA S_48 rfl A_48_9) ?_
          show gv_X _ _ (124, [(0, .inr (.inr (some 48))), (1, .inl a1), (3, .inl a3), (4, .inl v4_7)], [.inr (.inr (some 55)), .inl 0, .inr (.inr (some 58))], sh, gc_h sh I55 J37 A)
          refine gv_run 1 true hD (pcₚ := 125) (lvₚ := [(0, .inr (.inr (some 48))), (1, .inl a1), (3, .inl a3), (4, .inl v4_7)]) (stₚ := [.inr (.inr (some 48)), .inr (.inr (some 55)), .inl 0, .inr (.inr (some 58))]) (hₚ := gc_h sh I55 J37 A) (C := (True ∧ True)) rfl ⟨trivial, trivial⟩ ?_
          refine gv_get hD rfl rfl S_48 ⟨by decide, (gz_sh B_48)⟩ (gc_hI S_48 rfl) ?_
          show gv_X _ _ (128, [(0, .inr (.inr (some 48))), (1, .inl a1), (3, .inl a3), (4, .inl v4_7)], [.inl (I55 48 6), .inr (.inr (some 55)), .inl 0, .inr (.inr (some 58))], sh, gc_h sh I55 J37 A)
          refine gv_run 3 true hD (pcₚ := 131) (lvₚ := [(0, .inr (.inr (some 48))), (1, .inl a1), (3, .inl a3), (4, .inl v4_7)]) (stₚ := [.inl a3, .inl ((I55 48 6) * 4), .inr (.inr (some 55)), .inl 0, .inr (.inr (some 58))]) (hₚ := gc_h sh I55 J37 A) (C := (((True ∧ True) ∧ True) ∧ True)) rfl ⟨⟨⟨trivial, trivial⟩, trivial⟩, trivial⟩ ?_
          refine gv_copy hD rfl (gc_lC0_208 hws) (Nat.le_of_ble_eq_true rfl) ⟨(gz_sh B_58), (gz_sh B_55)⟩ S_58 S_55 (by decide) ⟨by decide, by decide⟩ ⟨by (/-18-/first | omega | (simp only [gz_hd] at *; omega)), by (/-19-/first | (have o1 := gz_sh f40; have o2 := gz_sh t49; have o3 := gz_sh t58; omega) | (simp only [gz_hd] at *; omega)), by (/-20-/first | omega | (simp only [gz_hd] at *; omega))⟩ (by (/-21-/first | omega | (simp only [gz_hd] at *; omega))) (by (/-22-/first | (have o1 := gz_sh e2_38; have o2 := gz_sh t49; have o3 := gz_sh t58; omega) | (simp only [gz_hd] at *; omega))) (fun h => absurd h (by first | exact gz_ne rfl | decide)) ?_
          refine gc_cp hI55 S_58 S_55 (by decide) (fun j hj => by have h9 := (gc_b_44 hI55 (gz_sh R_58) (Int.toNat 0 + j)); rw [(gz_sh R_55)]; exact ⟨by show 0 ≤ _; (/-23-/first | omega | (simp only [gz_hd] at *; omega)), by show _ ≤ 2999; (/-24-/first | omega | (simp only [gz_hd] at *; omega))⟩) (fun I65 hI65 p64 q64 => ?_)
          have FI65 := gc_frp (W := fun q j => (q = 48 ∧ j = 3) ∨ (q = 48 ∧ j = 6) ∨ (q = 48 ∧ j = 12) ∨ q = 51 ∨ q = 52 ∨ q = 53 ∨ q = 54 ∨ q = 55) (V := fun q j => q = 55 ∧ Int.toNat (((I55 48 6) * 4)) ≤ j ∧ j < Int.toNat (((I55 48 6) * 4)) + Int.toNat a3) FI55 (fun q j h => (Or.inr (Or.inr (Or.inr (Or.inr (Or.inr (Or.inr (Or.inr h.1)))))))) p64
          have t67 := gz_hi (p64 48 3 (fun h => absurd h.1 (by first | exact gz_ne rfl | decide)))
          have t68 := gz_hi (p64 48 6 (fun h => absurd h.1 (by first | exact gz_ne rfl | decide)))
          have t69 := gz_hi (p64 48 12 (fun h => absurd h.1 (by first | exact gz_ne rfl | decide)))
          have t71 := gz_hi (p64 t 13 (fun h => absurd h.1 (gz_sh N_t__55)))
          have t72 := gz_hi (p64 48 13 (fun h => absurd h.1 (by first | exact gz_ne rfl | decide)))
          show gv_X _ _ (134, [(0, .inr (.inr (some 48))), (1, .inl a1), (3, .inl a3), (4, .inl v4_7)], [], sh, gc_h sh I65 J37 A)
          refine gv_run 2 true hD (pcₚ := 136) (lvₚ := [(0, .inr (.inr (some 48))), (1, .inl a1), (3, .inl a3), (4, .inl v4_7)]) (stₚ := [.inr (.inr (some 48)), .inr (.inr (some 48))]) (hₚ := gc_h sh I65 J37 A) (C := ((True ∧ True) ∧ True)) rfl ⟨⟨trivial, trivial⟩, trivial⟩ ?_
          refine gv_get hD rfl rfl S_48 ⟨by decide, (gz_sh B_48)⟩ (gc_hI S_48 rfl) ?_
          show gv_X _ _ (139, [(0, .inr (.inr (some 48))), (1, .inl a1), (3, .inl a3), (4, .inl v4_7)], [.inl (I65 48 6), .inr (.inr (some 48))], sh, gc_h sh I65 J37 A)
          refine gv_run 2 true hD (pcₚ := 141) (lvₚ := [(0, .inr (.inr (some 48))), (1, .inl a1), (3, .inl a3), (4, .inl v4_7)]) (stₚ := [.inl ((I65 48 6) + 1), .inr (.inr (some 48))]) (hₚ := gc_h sh I65 J37 A) (C := ((True ∧ True) ∧ True)) rfl ⟨⟨trivial, trivial⟩, trivial⟩ ?_
          refine gv_put hD rfl rfl S_48 ⟨by decide, (gz_sh B_48)⟩ rfl trivial ?_
          refine gc_st (k := 6) hI65 S_48 rfl (gz_sh R_48) (lo := 0) (hi := 9000) rfl rfl (by (/-25-/first | (have o1 := gz_sh f40; have o2 := gz_sh t49; have o3 := gz_sh t58; have o4 := gz_sh t68; omega) | (simp only [gz_hd] at *; omega))) (by (/-26-/first | (have o1 := gz_sh e2_38; have o2 := gz_sh t49; have o3 := gz_sh t58; have o4 := gz_sh t68; omega) | (simp only [gz_hd] at *; omega))) (fun I80 hI80 q81 p81 => ?_)
          have FI80 := gc_frs (W := fun q j => (q = 48 ∧ j = 3) ∨ (q = 48 ∧ j = 6) ∨ (q = 48 ∧ j = 12) ∨ q = 51 ∨ q = 52 ∨ q = 53 ∨ q = 54 ∨ q = 55) FI65 (Or.inr (Or.inl ⟨rfl, rfl⟩)) p81
          have t82 := gz_hi (p81 48 3 (fun h => absurd h.2 (by first | exact gz_ne rfl | decide)))
          have t83 := gz_hi (p81 48 12 (fun h => absurd h.2 (by first | exact gz_ne rfl | decide)))
          have t85 := gz_hi (p81 t 13 (fun h => absurd h.2 (by first | exact gz_ne rfl | decide)))
          have t86 := gz_hi (p81 48 13 (fun h => absurd h.2 (by first | exact gz_ne rfl | decide)))
          show gv_X _ _ (144, [(0, .inr (.inr (some 48))), (1, .inl a1), (3, .inl a3), (4, .inl v4_7)], [], sh, gc_h sh I80 J37 A)
          exact gv_vret hD rfl ⟨I80, J37, rfl, hI80, FI80, FJ37, (gc_WV_push KWV_I36 (by (/-27-/first | (have o1 := gz_sh f40; omega) | (simp only [gz_hd] at *; omega))) (by (/-28-/first | (have o1 := gz_sh t49; have o2 := gz_sh t58; have o3 := gz_sh t68; omega) | (simp only [gz_hd] at *; omega))) (by (/-29-/first | (have o1 := gz_sh t52; have o2 := gz_sh t61; have o3 := gz_sh t71; have o4 := gz_sh t85; omega) | (simp only [gz_hd] at *; omega))) (fun k hk => by rw [p81 54 k (fun h => absurd h.1 (by (/-30-/first | omega | (simp only [gz_hd] at *; omega)))), p64 54 k (fun h => absurd h.1 (by (/-31-/first | omega | (simp only [gz_hd] at *; omega)))), p56 54 k (fun h => hk (by rw [h.2, show I46 48 6 = I36 48 6 from by (/-32-/first | (have o1 := gz_sh t49; omega) | (simp only [gz_hd] at *; omega))])), p47 54 k (fun h => absurd h.1 (by (/-33-/first | omega | (simp only [gz_hd] at *; omega))))]) (by have h1 : I80 54 (Int.toNat (I36 48 6)) = a1 := by { rw [show I36 48 6 = I46 48 6 from by (/-34-/first | (have o1 := gz_sh t49; omega) | (simp only [gz_hd] at *; omega))]; exact ((p81 54 (Int.toNat (I46 48 6)) (fun h => absurd h.1 (by (/-35-/first | omega | (simp only [gz_hd] at *; omega))))).trans (p64 54 (Int.toNat (I46 48 6)) (fun h => absurd h.1 (by (/-36-/first | omega | (simp only [gz_hd] at *; omega)))))).trans q56 }; (/-37-/first | (have o1 := gz_sh e4_38; omega) | (simp only [gz_hd] at *; omega)))), (gc_WA_push (m := (Int.toNat (I36 48 6))) (a := a1) KWA_I36 (by (/-38-/first | (have o1 := gz_sh f40; omega) | (simp only [gz_hd] at *; omega))) (by (/-39-/first | (have o1 := gz_sh f40; have o2 := gz_sh t49; have o3 := gz_sh t58; have o4 := gz_sh t68; omega) | (simp only [gz_hd] at *; omega))) (by (/-40-/first | (have o1 := gz_sh t48; have o2 := gz_sh t57; have o3 := gz_sh t67; have o4 := gz_sh t82; omega) | (simp only [gz_hd] at *; omega))) (fun k hk => ((((p81 53 k (fun h => absurd h.1 (by (/-41-/first | omega | (simp only [gz_hd] at *; omega))))).trans (p64 53 k (fun h => absurd h.1 (by (/-42-/first | omega | (simp only [gz_hd] at *; omega)))))).trans (p56 53 k (fun h => absurd h.1 (by (/-43-/first | omega | (simp only [gz_hd] at *; omega)))))).trans (p47 53 k (fun h => by have := h.2; (/-44-/first | omega | (simp only [gz_hd] at *; omega)))))) (fun k hk => ((((p81 54 k (fun h => absurd h.1 (by (/-45-/first | omega | (simp only [gz_hd] at *; omega))))).trans (p64 54 k (fun h => absurd h.1 (by (/-46-/first | omega | (simp only [gz_hd] at *; omega)))))).trans (p56 54 k (fun h => by have := h.2; (/-47-/first | (have o1 := gz_sh e2_38; have o2 := gz_sh f40; have o3 := gz_sh t49; have o4 := gz_sh t58; have o5 := gz_sh t68; omega) | (simp only [gz_hd] at *; omega))))).trans (p47 54 k (fun h => absurd h.1 (by (/-48-/first | omega | (simp only [gz_hd] at *; omega))))))) (fun k hk => ((((p81 55 k (fun h => absurd h.1 (by (/-49-/first | omega | (simp only [gz_hd] at *; omega))))).trans (p64 55 k (fun h => by have := h.2; (/-50-/first | (have o1 := gz_sh e2_38; have o2 := gz_sh f40; have o3 := gz_sh t49; have o4 := gz_sh t58; have o5 := gz_sh t68; omega) | (simp only [gz_hd] at *; omega))))).trans (p56 55 k (fun h => absurd h.1 (by (/-51-/first | omega | (simp only [gz_hd] at *; omega)))))).trans (p47 55 k (fun h => absurd h.1 (by (/-52-/first | omega | (simp only [gz_hd] at *; omega))))))) (by have h9 := ((((p81 53 (Int.toNat (I36 48 6)) (fun h => absurd h.1 (by (/-53-/first | omega | (simp only [gz_hd] at *; omega))))).trans (p64 53 (Int.toNat (I36 48 6)) (fun h => absurd h.1 (by (/-54-/first | omega | (simp only [gz_hd] at *; omega)))))).trans (p56 53 (Int.toNat (I36 48 6)) (fun h => absurd h.1 (by (/-55-/first | omega | (simp only [gz_hd] at *; omega))))))).trans q47; (/-56-/first | (have o1 := gz_sh e1_38; have o2 := gz_sh t48; have o3 := gz_sh t57; have o4 := gz_sh t67; have o5 := gz_sh t82; omega) | (simp only [gz_hd] at *; omega))) (by have h9 := (((p81 54 (Int.toNat (I46 48 6)) (fun h => absurd h.1 (by (/-57-/first | omega | (simp only [gz_hd] at *; omega))))).trans (p64 54 (Int.toNat (I46 48 6)) (fun h => absurd h.1 (by (/-58-/first | omega | (simp only [gz_hd] at *; omega))))))).trans q56; rw [show (Int.toNat (I46 48 6)) = (Int.toNat (I36 48 6)) from by (/-59-/first | (have o1 := gz_sh e2_38; have o2 := gz_sh f40; have o3 := gz_sh t49; have o4 := gz_sh t58; have o5 := gz_sh t68; omega) | (simp only [gz_hd] at *; omega))] at h9; exact h9) (fun ha s h0 h4 hs => by have hs3 : s < a3 := (by have := x3.resolve_left (by (/-60-/first | omega | (simp only [gz_hd] at *; omega))); (/-61-/first | omega | (simp only [gz_hd] at *; omega))); have h9 := q64 (Int.toNat s) (by (/-62-/first | omega | (simp only [gz_hd] at *; omega))); have h7 := x2 (Int.toNat s) (by (/-63-/first | omega | (simp only [gz_hd] at *; omega))); have h6 : I55 58 (Int.toNat 0 + Int.toNat s) = I 58 (Int.toNat s) := (by rw [show Int.toNat 0 + Int.toNat s = Int.toNat s from by (/-64-/first | omega | (simp only [gz_hd] at *; omega))]; exact (FI55 58 _).resolve_left (by (/-65-/first | omega | (simp only [gz_hd] at *; omega)))); have h5 : I80 55 (Int.toNat (((I55 48 6) * 4)) + Int.toNat s) = I65 55 (Int.toNat (((I55 48 6) * 4)) + Int.toNat s) := (p81 55 (Int.toNat (((I55 48 6) * 4)) + Int.toNat s) (fun h => absurd h.1 (by (/-66-/first | omega | (simp only [gz_hd] at *; omega))))); rw [show Int.toNat ((((Int.toNat (I36 48 6)) : Nat) : Int) * 4 + s) = (Int.toNat (((I55 48 6) * 4)) + Int.toNat s) from by (/-67-/first | (have o1 := gz_sh e2_38; have o2 := gz_sh f40; have o3 := gz_sh t49; have o4 := gz_sh t58; have o5 := gz_sh t68; omega) | (simp only [gz_hd] at *; omega))]; (/-68-/first | (have o1 := gz_sh e3_38; have o2 := gz_sh t48; have o3 := gz_sh t57; have o4 := gz_sh t67; have o5 := gz_sh t82; omega) | (simp only [gz_hd] at *; omega)))), (gc_WB_push KWB_I36 (by (/-69-/first | (have o1 := gz_sh f40; omega) | (simp only [gz_hd] at *; omega))) (by (/-70-/first | (have o1 := gz_sh t49; have o2 := gz_sh t58; have o3 := gz_sh t68; omega) | (simp only [gz_hd] at *; omega))) (fun k hk => by rw [p81 54 k (fun h => absurd h.1 (by (/-71-/first | omega | (simp only [gz_hd] at *; omega)))), p64 54 k (fun h => absurd h.1 (by (/-72-/first | omega | (simp only [gz_hd] at *; omega)))), p56 54 k (fun h => hk (by rw [h.2, show I46 48 6 = I36 48 6 from by (/-73-/first | (have o1 := gz_sh t49; omega) | (simp only [gz_hd] at *; omega))])), p47 54 k (fun h => absurd h.1 (by (/-74-/first | omega | (simp only [gz_hd] at *; omega))))]) (by have h1 : I80 54 (Int.toNat (I36 48 6)) = a1 := by { rw [show I36 48 6 = I46 48 6 from by (/-75-/first | (have o1 := gz_sh t49; omega) | (simp only [gz_hd] at *; omega))]; exact ((p81 54 (Int.toNat (I46 48 6)) (fun h => absurd h.1 (by (/-76-/first | omega | (simp only [gz_hd] at *; omega))))).trans (p64 54 (Int.toNat (I46 48 6)) (fun h => absurd h.1 (by (/-77-/first | omega | (simp only [gz_hd] at *; omega)))))).trans q56 }; (/-78-/first | omega | (simp only [gz_hd] at *; omega)))), ⟨rfl, by (/-79-/first | (and_intros; (have o1 := gz_sh e3_38; have o2 := gz_sh t48; have o3 := gz_sh t57; have o4 := gz_sh t67; have o5 := gz_sh t82; omega); (have o1 := gz_sh e5_38; have o2 := gz_sh t50; have o3 := gz_sh t59; have o4 := gz_sh t69; have o5 := gz_sh t83; omega)) | (simp only [gz_hd] at *; omega))⟩⟩
        refine gv_run 2 true hD (pcₚ := 37) (lvₚ := [(0, .inr (.inr (some 48))), (1, .inl a1), (2, .inl a2), (3, .inl a3), (4, .inl v4_7)]) (stₚ := [.inl 3000, .inl v4_7]) (hₚ := gc_h sh I J A) (C := ((True ∧ True) ∧ True)) rfl ⟨⟨trivial, trivial⟩, trivial⟩ ?_
        refine gv_icmp_ge (t := 50) hD rfl rfl ⟨⟨by (/-80-/first | (have o1 := gz_sh hv4_7; omega) | (simp only [gz_hd] at *; omega)), by (/-81-/first | (have o1 := gz_sh hv4_7; omega) | (simp only [gz_hd] at *; omega))⟩, ⟨by (/-82-/first | omega | (simp only [gz_hd] at *; omega)), by (/-83-/first | omega | (simp only [gz_hd] at *; omega))⟩⟩ (fun c88 => ?_) (fun c88 => ?_)
        · show gv_X _ _ (50, [(0, .inr (.inr (some 48))), (1, .inl a1), (2, .inl a2), (3, .inl a3), (4, .inl v4_7)], [], sh, gc_h sh I J A)
          refine gv_pick [0] rfl ?_
          exact L50 (by (/-84-/first | (and_intros <;> omega) | (simp only [gz_hd] at *; omega)))
        · show gv_X _ _ (40, [(0, .inr (.inr (some 48))), (1, .inl a1), (2, .inl a2), (3, .inl a3), (4, .inl v4_7)], [], sh, gc_h sh I J A)
          refine gv_run 1 true hD (pcₚ := 41) (lvₚ := [(0, .inr (.inr (some 48))), (1, .inl a1), (2, .inl a2), (3, .inl a3), (4, .inl v4_7)]) (stₚ := [.inr (.inr (some 48))]) (hₚ := gc_h sh I J A) (C := (True ∧ True)) rfl ⟨trivial, trivial⟩ ?_
          refine gv_get hD rfl rfl S_48 ⟨by decide, (gz_sh B_48)⟩ (gc_hI S_48 rfl) ?_
          show gv_X _ _ (44, [(0, .inr (.inr (some 48))), (1, .inl a1), (2, .inl a2), (3, .inl a3), (4, .inl v4_7)], [.inl (I 48 6)], sh, gc_h sh I J A)
          refine gv_run 1 true hD (pcₚ := 47) (lvₚ := [(0, .inr (.inr (some 48))), (1, .inl a1), (2, .inl a2), (3, .inl a3), (4, .inl v4_7)]) (stₚ := [.inl 9000, .inl (I 48 6)]) (hₚ := gc_h sh I J A) (C := (True ∧ True)) rfl ⟨trivial, trivial⟩ ?_
          refine gv_icmp_lt (t := 56) hD rfl rfl ⟨⟨by (/-85-/first | (have o1 := gz_sh f2; omega) | (simp only [gz_hd] at *; omega)), by (/-86-/first | (have o1 := gz_sh f2; omega) | (simp only [gz_hd] at *; omega))⟩, ⟨by (/-87-/first | omega | (simp only [gz_hd] at *; omega)), by (/-88-/first | omega | (simp only [gz_hd] at *; omega))⟩⟩ (fun c90 => ?_) (fun c90 => ?_)
          · show gv_X _ _ (56, [(0, .inr (.inr (some 48))), (1, .inl a1), (2, .inl a2), (3, .inl a3), (4, .inl v4_7)], [], sh, gc_h sh I J A)
            refine gv_run 2 true hD (pcₚ := 59) (lvₚ := [(0, .inr (.inr (some 48))), (1, .inl a1), (2, .inl a2), (3, .inl a3), (4, .inl v4_7)]) (stₚ := [.inr (.inr (some 48)), .inl v4_7]) (hₚ := gc_h sh I J A) (C := ((True ∧ True) ∧ True)) rfl ⟨⟨trivial, trivial⟩, trivial⟩ ?_
            refine gv_get hD rfl rfl S_48 ⟨by decide, (gz_sh B_48)⟩ (gc_hI S_48 rfl) ?_
            show gv_X _ _ (62, [(0, .inr (.inr (some 48))), (1, .inl a1), (2, .inl a2), (3, .inl a3), (4, .inl v4_7)], [.inl (I 48 3), .inl v4_7], sh, gc_h sh I J A)
            refine gv_icmp_ne (t := 94) hD rfl rfl ⟨⟨by (/-89-/first | (have o1 := gz_sh hv4_7; omega) | (simp only [gz_hd] at *; omega)), by (/-90-/first | omega | (simp only [gz_hd] at *; omega))⟩, ⟨by (/-91-/first | (have o1 := gz_sh f1; omega) | (simp only [gz_hd] at *; omega)), by (/-92-/first | (have o1 := gz_sh f1; omega) | (simp only [gz_hd] at *; omega))⟩⟩ (fun c92 => ?_) (fun c92 => ?_)
            · show gv_X _ _ (94, [(0, .inr (.inr (some 48))), (1, .inl a1), (2, .inl a2), (3, .inl a3), (4, .inl v4_7)], [], sh, gc_h sh I J A)
              refine gv_pick [0, 1, 3, 4] rfl ?_
              exact L94 I J hI FI FJ KWV_I KWA_I KWB_I (by (/-93-/first | (and_intros; (omega); (omega); (omega); (omega); (have o1 := gz_sh hv4_7; omega); (omega); (omega); (have o1 := gz_sh e0_7; omega); (omega); (omega); (omega); (omega); (omega)) | (simp only [gz_hd] at *; omega)))
            · show gv_X _ _ (65, [(0, .inr (.inr (some 48))), (1, .inl a1), (2, .inl a2), (3, .inl a3), (4, .inl v4_7)], [], sh, gc_h sh I J A)
              refine gv_run 1 true hD (pcₚ := 66) (lvₚ := [(0, .inr (.inr (some 48))), (1, .inl a1), (2, .inl a2), (3, .inl a3), (4, .inl v4_7)]) (stₚ := [.inr (.inr (some 48))]) (hₚ := gc_h sh I J A) (C := (True ∧ True)) rfl ⟨trivial, trivial⟩ ?_
              refine gv_get hD rfl rfl S_48 ⟨by decide, (gz_sh B_48)⟩ (gc_hA S_48 rfl A_48_4) ?_
              show gv_X _ _ (69, [(0, .inr (.inr (some 48))), (1, .inl a1), (2, .inl a2), (3, .inl a3), (4, .inl v4_7)], [.inr (.inr (some 51))], sh, gc_h sh I J A)
              refine gv_run 2 true hD (pcₚ := 72) (lvₚ := [(0, .inr (.inr (some 48))), (1, .inl a1), (2, .inl a2), (3, .inl a3), (4, .inl v4_7)]) (stₚ := [.inr (.inr (some 48)), .inl v4_7, .inr (.inr (some 51))]) (hₚ := gc_h sh I J A) (C := ((True ∧ True) ∧ True)) rfl ⟨⟨trivial, trivial⟩, trivial⟩ ?_
              have f93 := gz_hi ((gc_b_49_18 hI (gz_sh R_48)))
              refine gv_get hD rfl rfl S_48 ⟨by decide, (gz_sh B_48)⟩ (gc_hI S_48 rfl) ?_
              show gv_X _ _ (75, [(0, .inr (.inr (some 48))), (1, .inl a1), (2, .inl a2), (3, .inl a3), (4, .inl v4_7)], [.inl (I 48 18), .inl v4_7, .inr (.inr (some 51))], sh, gc_h sh I J A)
              refine gv_iast hD rfl S_51 ⟨by decide, (gz_sh B_51)⟩ ⟨by (/-94-/first | (have o1 := gz_sh hv4_7; omega) | (simp only [gz_hd] at *; omega)), by (/-95-/first | omega | (simp only [gz_hd] at *; omega))⟩ ?_
              refine gc_st hI S_51 rfl (gz_sh R_51) (lo := 0) (hi := 24) rfl rfl (by (/-96-/first | (have o1 := gz_sh f93; omega) | (simp only [gz_hd] at *; omega))) (by (/-97-/first | (have o1 := gz_sh f93; omega) | (simp only [gz_hd] at *; omega))) (fun I94 hI94 q95 p95 => ?_)
              have FI94 := gc_frs (W := fun q j => (q = 48 ∧ j = 3) ∨ (q = 48 ∧ j = 6) ∨ (q = 48 ∧ j = 12) ∨ q = 51 ∨ q = 52 ∨ q = 53 ∨ q = 54 ∨ q = 55) FI (Or.inr (Or.inr (Or.inr (Or.inl rfl)))) p95
              have t96 := gz_hi (p95 48 3 (fun h => absurd h.1 (by first | exact gz_ne rfl | decide)))
              have t97 := gz_hi (p95 48 6 (fun h => absurd h.1 (by first | exact gz_ne rfl | decide)))
              have t98 := gz_hi (p95 48 12 (fun h => absurd h.1 (by first | exact gz_ne rfl | decide)))
              have t100 := gz_hi (p95 t 13 (fun h => absurd h.1 (gz_sh N_t__51)))
              have t101 := gz_hi (p95 48 13 (fun h => absurd h.1 (by first | exact gz_ne rfl | decide)))
              have KWV_I94 := gc_WV_fr KWV_I (p95 48 6 (fun h => absurd h.1 (by first | exact gz_ne rfl | decide))) (p95 t 13 (fun h => absurd h.1 (gz_sh N_t__51))) (fun k => p95 54 k (fun h => absurd h.1 (by first | exact gz_ne rfl | decide)))
              have KWA_I94 := gc_WA_fr KWA_I (p95 48 6 (fun h => absurd h.1 (by first | exact gz_ne rfl | decide))) (Int.le_of_eq (p95 48 3 (fun h => absurd h.1 (by first | exact gz_ne rfl | decide))).symm) (fun k => p95 53 k (fun h => absurd h.1 (by first | exact gz_ne rfl | decide))) (fun k => p95 54 k (fun h => absurd h.1 (by first | exact gz_ne rfl | decide))) (fun k => p95 55 k (fun h => absurd h.1 (by first | exact gz_ne rfl | decide)))
              have KWB_I94 := gc_WB_fr KWB_I (p95 48 6 (fun h => absurd h.1 (by first | exact gz_ne rfl | decide))) (fun k => p95 54 k (fun h => absurd h.1 (by first | exact gz_ne rfl | decide)))
              show gv_X _ _ (76, [(0, .inr (.inr (some 48))), (1, .inl a1), (2, .inl a2), (3, .inl a3), (4, .inl v4_7)], [], sh, gc_h sh I94 J A)
              refine gv_run 1 true hD (pcₚ := 77) (lvₚ := [(0, .inr (.inr (some 48))), (1, .inl a1), (2, .inl a2), (3, .inl a3), (4, .inl v4_7)]) (stₚ := [.inr (.inr (some 48))]) (hₚ := gc_h sh I94 J A) (C := (True ∧ True)) rfl ⟨trivial, trivial⟩ ?_
              refine gv_get hD rfl rfl S_48 ⟨by decide, (gz_sh B_48)⟩ (gc_hA S_48 rfl A_48_5) ?_
              show gv_X _ _ (80, [(0, .inr (.inr (some 48))), (1, .inl a1), (2, .inl a2), (3, .inl a3), (4, .inl v4_7)], [.inr (.inr (some 52))], sh, gc_h sh I94 J A)
              refine gv_run 2 true hD (pcₚ := 83) (lvₚ := [(0, .inr (.inr (some 48))), (1, .inl a1), (2, .inl a2), (3, .inl a3), (4, .inl v4_7)]) (stₚ := [.inl a2, .inl v4_7, .inr (.inr (some 52))]) (hₚ := gc_h sh I94 J A) (C := ((True ∧ True) ∧ True)) rfl ⟨⟨trivial, trivial⟩, trivial⟩ ?_
              refine gv_iast hD rfl S_52 ⟨by decide, (gz_sh B_52)⟩ ⟨by (/-98-/first | (have o1 := gz_sh hv4_7; omega) | (simp only [gz_hd] at *; omega)), by (/-99-/first | omega | (simp only [gz_hd] at *; omega))⟩ ?_
              refine gc_st hI94 S_52 rfl (gz_sh R_52) (lo := 0) (hi := 16777215) rfl rfl (by (/-100-/first | omega | (simp only [gz_hd] at *; omega))) (by (/-101-/first | omega | (simp only [gz_hd] at *; omega))) (fun I102 hI102 q103 p103 => ?_)
              have FI102 := gc_frs (W := fun q j => (q = 48 ∧ j = 3) ∨ (q = 48 ∧ j = 6) ∨ (q = 48 ∧ j = 12) ∨ q = 51 ∨ q = 52 ∨ q = 53 ∨ q = 54 ∨ q = 55) FI94 (Or.inr (Or.inr (Or.inr (Or.inr (Or.inl rfl))))) p103
              have t104 := gz_hi (p103 48 3 (fun h => absurd h.1 (by first | exact gz_ne rfl | decide)))
              have t105 := gz_hi (p103 48 6 (fun h => absurd h.1 (by first | exact gz_ne rfl | decide)))
              have t106 := gz_hi (p103 48 12 (fun h => absurd h.1 (by first | exact gz_ne rfl | decide)))
              have t108 := gz_hi (p103 t 13 (fun h => absurd h.1 (gz_sh N_t__52)))
              have t109 := gz_hi (p103 48 13 (fun h => absurd h.1 (by first | exact gz_ne rfl | decide)))
              have KWV_I102 := gc_WV_fr KWV_I94 (p103 48 6 (fun h => absurd h.1 (by first | exact gz_ne rfl | decide))) (p103 t 13 (fun h => absurd h.1 (gz_sh N_t__52))) (fun k => p103 54 k (fun h => absurd h.1 (by first | exact gz_ne rfl | decide)))
              have KWA_I102 := gc_WA_fr KWA_I94 (p103 48 6 (fun h => absurd h.1 (by first | exact gz_ne rfl | decide))) (Int.le_of_eq (p103 48 3 (fun h => absurd h.1 (by first | exact gz_ne rfl | decide))).symm) (fun k => p103 53 k (fun h => absurd h.1 (by first | exact gz_ne rfl | decide))) (fun k => p103 54 k (fun h => absurd h.1 (by first | exact gz_ne rfl | decide))) (fun k => p103 55 k (fun h => absurd h.1 (by first | exact gz_ne rfl | decide)))
              have KWB_I102 := gc_WB_fr KWB_I94 (p103 48 6 (fun h => absurd h.1 (by first | exact gz_ne rfl | decide))) (fun k => p103 54 k (fun h => absurd h.1 (by first | exact gz_ne rfl | decide)))
              show gv_X _ _ (84, [(0, .inr (.inr (some 48))), (1, .inl a1), (2, .inl a2), (3, .inl a3), (4, .inl v4_7)], [], sh, gc_h sh I102 J A)
              refine gv_run 2 true hD (pcₚ := 86) (lvₚ := [(0, .inr (.inr (some 48))), (1, .inl a1), (2, .inl a2), (3, .inl a3), (4, .inl v4_7)]) (stₚ := [.inr (.inr (some 48)), .inr (.inr (some 48))]) (hₚ := gc_h sh I102 J A) (C := ((True ∧ True) ∧ True)) rfl ⟨⟨trivial, trivial⟩, trivial⟩ ?_
              refine gv_get hD rfl rfl S_48 ⟨by decide, (gz_sh B_48)⟩ (gc_hI S_48 rfl) ?_
              show gv_X _ _ (89, [(0, .inr (.inr (some 48))), (1, .inl a1), (2, .inl a2), (3, .inl a3), (4, .inl v4_7)], [.inl (I102 48 3), .inr (.inr (some 48))], sh, gc_h sh I102 J A)
              refine gv_run 2 true hD (pcₚ := 91) (lvₚ := [(0, .inr (.inr (some 48))), (1, .inl a1), (2, .inl a2), (3, .inl a3), (4, .inl v4_7)]) (stₚ := [.inl ((I102 48 3) + 1), .inr (.inr (some 48))]) (hₚ := gc_h sh I102 J A) (C := ((True ∧ True) ∧ True)) rfl ⟨⟨trivial, trivial⟩, trivial⟩ ?_
              refine gv_put hD rfl rfl S_48 ⟨by decide, (gz_sh B_48)⟩ rfl trivial ?_
              refine gc_st (k := 3) hI102 S_48 rfl (gz_sh R_48) (lo := 0) (hi := 3000) rfl rfl (by (/-102-/first | (have o1 := gz_sh hv4_7; have o2 := gz_sh t104; have o3 := gz_sh t96; omega) | (simp only [gz_hd] at *; omega))) (by (/-103-/first | (have o1 := gz_sh t104; have o2 := gz_sh t96; omega) | (simp only [gz_hd] at *; omega))) (fun I111 hI111 q112 p112 => ?_)
              have FI111 := gc_frs (W := fun q j => (q = 48 ∧ j = 3) ∨ (q = 48 ∧ j = 6) ∨ (q = 48 ∧ j = 12) ∨ q = 51 ∨ q = 52 ∨ q = 53 ∨ q = 54 ∨ q = 55) FI102 (Or.inl ⟨rfl, rfl⟩) p112
              have t113 := gz_hi (p112 48 6 (fun h => absurd h.2 (by first | exact gz_ne rfl | decide)))
              have t114 := gz_hi (p112 48 12 (fun h => absurd h.2 (by first | exact gz_ne rfl | decide)))
              have t116 := gz_hi (p112 t 13 (fun h => absurd h.2 (by first | exact gz_ne rfl | decide)))
              have t117 := gz_hi (p112 48 13 (fun h => absurd h.2 (by first | exact gz_ne rfl | decide)))
              have KWV_I111 := gc_WV_fr KWV_I102 (p112 48 6 (fun h => absurd h.2 (by first | exact gz_ne rfl | decide))) (p112 t 13 (fun h => absurd h.2 (by first | exact gz_ne rfl | decide))) (fun k => p112 54 k (fun h => absurd h.1 (by first | exact gz_ne rfl | decide)))
              have KWA_I111 := gc_WA_fr KWA_I102 (p112 48 6 (fun h => absurd h.2 (by first | exact gz_ne rfl | decide))) (by (/-104-/first | omega | (simp only [gz_hd] at *; omega))) (fun k => p112 53 k (fun h => absurd h.1 (by first | exact gz_ne rfl | decide))) (fun k => p112 54 k (fun h => absurd h.1 (by first | exact gz_ne rfl | decide))) (fun k => p112 55 k (fun h => absurd h.1 (by first | exact gz_ne rfl | decide)))
              have KWB_I111 := gc_WB_fr KWB_I102 (p112 48 6 (fun h => absurd h.2 (by first | exact gz_ne rfl | decide))) (fun k => p112 54 k (fun h => absurd h.1 (by first | exact gz_ne rfl | decide)))
              show gv_X _ _ (94, [(0, .inr (.inr (some 48))), (1, .inl a1), (2, .inl a2), (3, .inl a3), (4, .inl v4_7)], [], sh, gc_h sh I111 J A)
              refine gv_pick [0, 1, 3, 4] rfl ?_
              exact L94 I111 J hI111 FI111 FJ KWV_I111 KWA_I111 KWB_I111 (by (/-105-/first | (and_intros; (omega); (omega); (omega); (omega); (have o1 := gz_sh hv4_7; omega); (omega); (omega); (have o1 := gz_sh t104; have o2 := gz_sh t96; omega); (have o1 := gz_sh t105; have o2 := gz_sh t113; have o3 := gz_sh t97; omega); (have o1 := gz_sh t104; have o2 := gz_sh t96; omega); (have o1 := gz_sh t100; have o2 := gz_sh t108; have o3 := gz_sh t116; omega); (have o1 := gz_sh t106; have o2 := gz_sh t114; have o3 := gz_sh t98; omega); (have o1 := gz_sh t101; have o2 := gz_sh t109; have o3 := gz_sh t117; omega)) | (simp only [gz_hd] at *; omega)))
          · show gv_X _ _ (50, [(0, .inr (.inr (some 48))), (1, .inl a1), (2, .inl a2), (3, .inl a3), (4, .inl v4_7)], [], sh, gc_h sh I J A)
            refine gv_pick [0] rfl ?_
            exact L50 (by (/-106-/first | (and_intros <;> omega) | (simp only [gz_hd] at *; omega)))
      refine gv_run 2 true hD (pcₚ := 9) (lvₚ := [(0, .inr (.inr (some 48))), (1, .inl a1), (2, .inl a2), (3, .inl a3), (4, .inl v4_7)]) (stₚ := [.inr (.inr (some 48)), .inl v4_7]) (hₚ := gc_h sh I J A) (C := ((True ∧ True) ∧ True)) rfl ⟨⟨trivial, trivial⟩, trivial⟩ ?_
      refine gv_get hD rfl rfl S_48 ⟨by decide, (gz_sh B_48)⟩ (gc_hI S_48 rfl) ?_
      show gv_X _ _ (12, [(0, .inr (.inr (some 48))), (1, .inl a1), (2, .inl a2), (3, .inl a3), (4, .inl v4_7)], [.inl (I 48 3), .inl v4_7], sh, gc_h sh I J A)
      refine gv_icmp_ge (t := 32) hD rfl rfl ⟨⟨by (/-107-/first | (have o1 := gz_sh hv4_7; omega) | (simp only [gz_hd] at *; omega)), by (/-108-/first | (have o1 := gz_sh hv4_7; omega) | (simp only [gz_hd] at *; omega))⟩, ⟨by (/-109-/first | (have o1 := gz_sh f1; omega) | (simp only [gz_hd] at *; omega)), by (/-110-/first | (have o1 := gz_sh f1; omega) | (simp only [gz_hd] at *; omega))⟩⟩ (fun c120 => ?_) (fun c120 => ?_)
      · show gv_X _ _ (32, [(0, .inr (.inr (some 48))), (1, .inl a1), (2, .inl a2), (3, .inl a3), (4, .inl v4_7)], [], sh, gc_h sh I J A)
        exact L32 (by (/-111-/first | (and_intros; (omega); (omega); (omega); (omega); (omega); (omega); (have o1 := gz_sh hv4_7; omega); (have o1 := gz_sh hv4_7; omega); (have o1 := gz_sh e0_7; omega); (omega); (omega)) | (simp only [gz_hd] at *; omega)))
      · show gv_X _ _ (15, [(0, .inr (.inr (some 48))), (1, .inl a1), (2, .inl a2), (3, .inl a3), (4, .inl v4_7)], [], sh, gc_h sh I J A)
        refine gv_run 1 true hD (pcₚ := 16) (lvₚ := [(0, .inr (.inr (some 48))), (1, .inl a1), (2, .inl a2), (3, .inl a3), (4, .inl v4_7)]) (stₚ := [.inr (.inr (some 48))]) (hₚ := gc_h sh I J A) (C := (True ∧ True)) rfl ⟨trivial, trivial⟩ ?_
        refine gv_get hD rfl rfl S_48 ⟨by decide, (gz_sh B_48)⟩ (gc_hA S_48 rfl A_48_5) ?_
        show gv_X _ _ (19, [(0, .inr (.inr (some 48))), (1, .inl a1), (2, .inl a2), (3, .inl a3), (4, .inl v4_7)], [.inr (.inr (some 52))], sh, gc_h sh I J A)
        refine gv_run 1 true hD (pcₚ := 21) (lvₚ := [(0, .inr (.inr (some 48))), (1, .inl a1), (2, .inl a2), (3, .inl a3), (4, .inl v4_7)]) (stₚ := [.inl v4_7, .inr (.inr (some 52))]) (hₚ := gc_h sh I J A) (C := (True ∧ True)) rfl ⟨trivial, trivial⟩ ?_
        have f121 := gz_hi ((gc_b_13 hI (gz_sh R_52) (Int.toNat v4_7)))
        refine gv_iald hD rfl S_52 rfl ⟨by decide, (gz_sh B_52)⟩ ⟨by (/-112-/first | (have o1 := gz_sh hv4_7; omega) | (simp only [gz_hd] at *; omega)), by (/-113-/first | (have o1 := gz_sh f1; omega) | (simp only [gz_hd] at *; omega))⟩ (gc_iI S_52 rfl) ?_
        show gv_X _ _ (22, [(0, .inr (.inr (some 48))), (1, .inl a1), (2, .inl a2), (3, .inl a3), (4, .inl v4_7)], [.inl (I 52 (Int.toNat v4_7))], sh, gc_h sh I J A)
        refine gv_run 1 true hD (pcₚ := 23) (lvₚ := [(0, .inr (.inr (some 48))), (1, .inl a1), (2, .inl a2), (3, .inl a3), (4, .inl v4_7)]) (stₚ := [.inl a2, .inl (I 52 (Int.toNat v4_7))]) (hₚ := gc_h sh I J A) (C := (True ∧ True)) rfl ⟨trivial, trivial⟩ ?_
        refine gv_icmp_eq (t := 32) hD rfl rfl ⟨⟨by (/-114-/first | (have o1 := gz_sh f121; omega) | (simp only [gz_hd] at *; omega)), by (/-115-/first | (have o1 := gz_sh f121; omega) | (simp only [gz_hd] at *; omega))⟩, ⟨by (/-116-/first | omega | (simp only [gz_hd] at *; omega)), by (/-117-/first | omega | (simp only [gz_hd] at *; omega))⟩⟩ (fun c122 => ?_) (fun c122 => ?_)
        · show gv_X _ _ (32, [(0, .inr (.inr (some 48))), (1, .inl a1), (2, .inl a2), (3, .inl a3), (4, .inl v4_7)], [], sh, gc_h sh I J A)
          exact L32 (by (/-118-/first | (and_intros; (omega); (omega); (omega); (omega); (omega); (omega); (have o1 := gz_sh hv4_7; omega); (have o1 := gz_sh hv4_7; omega); (omega); (omega); (omega)) | (simp only [gz_hd] at *; omega)))
        · show gv_X _ _ (26, [(0, .inr (.inr (some 48))), (1, .inl a1), (2, .inl a2), (3, .inl a3), (4, .inl v4_7)], [], sh, gc_h sh I J A)
          refine gv_run 2 true hD (pcₚ := 6) (lvₚ := [(4, .inl (v4_7 + 1)), (0, .inr (.inr (some 48))), (1, .inl a1), (2, .inl a2), (3, .inl a3)]) (stₚ := []) (hₚ := gc_h sh I J A) (C := ((True ∧ True) ∧ True)) rfl ⟨⟨trivial, trivial⟩, trivial⟩ ?_
          refine gv_pick [1, 2, 3, 4, 0] rfl ?_
          exact ih6 (v4_7 + 1) (by (/-119-/first | (have o1 := gz_sh f1; have o2 := gz_sh hv4_7; omega) | (simp only [gz_hd] at *; omega))) (by (/-120-/first | (and_intros; (omega); (omega); (omega); (omega); (omega); (omega); (have o1 := gz_sh hv4_7; omega); (have o1 := gz_sh f1; omega); (omega); (omega); (omega)) | (simp only [gz_hd] at *; omega)))
  refine gv_run 1 true hD (pcₚ := 1) (lvₚ := [(0, .inr (.inr (some 48))), (1, .inl a1), (2, .inl a2), (3, .inl a3)]) (stₚ := [.inr (.inr (some 48))]) (hₚ := gc_h sh I J A) (C := (True ∧ True)) rfl ⟨trivial, trivial⟩ ?_
  refine gv_get hD rfl rfl S_48 ⟨by decide, (gz_sh B_48)⟩ (gc_hI S_48 rfl) ?_
  show gv_X _ _ (4, [(0, .inr (.inr (some 48))), (1, .inl a1), (2, .inl a2), (3, .inl a3)], [.inl (I 48 17)], sh, gc_h sh I J A)
  refine gv_run 1 true hD (pcₚ := 6) (lvₚ := [(4, .inl (I 48 17)), (0, .inr (.inr (some 48))), (1, .inl a1), (2, .inl a2), (3, .inl a3)]) (stₚ := []) (hₚ := gc_h sh I J A) (C := (True ∧ True)) rfl ⟨trivial, trivial⟩ ?_
  refine gv_pick [1, 2, 3, 4, 0] rfl ?_
  exact L6 _ (I 48 17) (Nat.lt_succ_self _) (by (/-121-/first | (and_intros; (omega); (omega); (omega); (omega); (omega); (omega); (have o1 := gz_sh f4; omega); (have o1 := gz_sh f4; omega); (omega); (omega); (omega)) | (simp only [gz_hd] at *; omega)))
