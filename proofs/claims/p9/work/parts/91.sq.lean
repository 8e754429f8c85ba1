/-! WAYS ARE ORDERED. -/
def gr_sw (I : gr_I) : Nat → Nat → Int
  | 0, _ => 0
  | k + 1, m => gr_sw I k m + gr_cw I (k : Int) m
theorem gr_sw_0 (I : gr_I) : ∀ k : Nat, gr_sw I k 0 = 0
  | 0 => rfl
  | k + 1 => by
    show gr_sw I k 0 + gr_cw I (k : Int) 0 = 0
    rw [gr_sw_0 I k]
    rfl
set_option maxHeartbeats 8000000 in
theorem gr_sw_s (I : gr_I) (m : Nat) : ∀ k : Nat, gr_sw I k (m + 1) = gr_sw I k m + (if 0 ≤ I 94 m ∧ I 94 m < (k : Int) then 1 else 0)
  | 0 => by
    show (0 : Int) = 0 + _
    rw [if_neg (by exact gz_m 0 (by omega))]
    rfl
  | k + 1 => by
    show gr_sw I k (m + 1) + (gr_cw I (k : Int) m + (if I 94 m = (k : Int) then 1 else 0)) = gr_sw I k m + gr_cw I (k : Int) m + _
    rw [gr_sw_s I m k]
    by_cases c : I 94 m = (k : Int)
    · rw [if_pos c, if_neg (by exact gz_m 1 (by omega)), if_pos (by exact gz_m 2 (by omega))]
      exact gz_m 3 (by omega)
    · rw [if_neg c]
      by_cases d : 0 ≤ I 94 m ∧ I 94 m < (k : Int)
      · rw [if_pos d, if_pos (by exact gz_m 4 (by omega))]
        exact gz_m 5 (by omega)
      · rw [if_neg d, if_neg (by exact gz_m 6 (by omega))]
        exact gz_m 7 (by omega)
theorem gr_sw_b (I : gr_I) (k : Nat) : ∀ m : Nat, 0 ≤ gr_sw I k m ∧ gr_sw I k m ≤ (m : Int)
  | 0 => by rw [gr_sw_0]; exact ⟨Int.le_refl _, Int.le_refl _⟩
  | m + 1 => by
    have h9 := gr_sw_b I k m
    rw [gr_sw_s]
    split <;> omega
theorem gr_sw_le (I : gr_I) (m : Nat) {k : Nat} : ∀ l : Nat, k ≤ l → gr_sw I k m ≤ gr_sw I l m
  | 0, h => by
    have e : k = 0 := by exact gz_m 0 (by omega)
    rw [e]
    exact Int.le_refl _
  | l + 1, h => by
    by_cases e : k = l + 1
    · rw [e]
      exact Int.le_refl _
    · have h9 := gr_sw_le I m (k := k) l (by exact gz_m 1 (by omega))
      have h8 := gr_cw_b (I := I) (x := (l : Int)) m
      show gr_sw I k m ≤ gr_sw I l m + gr_cw I (l : Int) m
      exact gz_m 2 (by omega)
theorem gr_cw_le {I : gr_I} {x : Int} {k : Nat} : ∀ m : Nat, k ≤ m → gr_cw I x k ≤ gr_cw I x m
  | 0, h => by
    have e : k = 0 := by exact gz_m 0 (by omega)
    rw [e]
    exact Int.le_refl _
  | m + 1, h => by
    by_cases e : k = m + 1
    · rw [e]
      exact Int.le_refl _
    · have h9 := gr_cw_le (I := I) (x := x) (k := k) m (by exact gz_m 1 (by omega))
      show gr_cw I x k ≤ gr_cw I x m + (if I 94 m = x then 1 else 0)
      split <;> exact gz_m 2 (by omega)
def gr_O1 (I0 : gr_I) (k a : Int) (I : gr_I) : Prop := a = gr_sw I0 (Int.toNat k) (Int.toNat (I0 0 158)) ∧ (∀ j : Nat, (j : Int) < k → I 91 j = gr_sw I0 j (Int.toNat (I0 0 158)) ∧ I 92 j = 0) ∧ ∀ j : Nat, k ≤ (j : Int) → (j : Int) < I0 0 157 → I 92 j = gr_cw I0 (j : Int) (Int.toNat (I0 0 158))
theorem gr_O1_in {I0 : gr_I} (h : gr_FC I0) : gr_O1 I0 0 0 I0 := ⟨rfl, fun j hj => by omega, fun j _ hj => h.2 j hj⟩
theorem gr_O1_b {I0 I : gr_I} {k a : Int} (h : gr_O1 I0 k a I) (h0 : 0 ≤ k) (hk : k < I0 0 157) (hy : 0 ≤ I0 0 158) : 0 ≤ a ∧ 0 ≤ I 92 (Int.toNat k) ∧ a + I 92 (Int.toNat k) ≤ I0 0 158 := by
  have h1 := gr_sw_b I0 (Int.toNat k) (Int.toNat (I0 0 158))
  have h2 := gr_sw_b I0 (Int.toNat k + 1) (Int.toNat (I0 0 158))
  have h3 := gr_cw_b (I := I0) (x := ((Int.toNat k : Nat) : Int)) (Int.toNat (I0 0 158))
  have h4 := h.2.2 (Int.toNat k) (by omega) (by omega)
  have h5 : gr_sw I0 (Int.toNat k + 1) (Int.toNat (I0 0 158)) = gr_sw I0 (Int.toNat k) (Int.toNat (I0 0 158)) + gr_cw I0 ((Int.toNat k : Nat) : Int) (Int.toNat (I0 0 158)) := rfl
  have h6 := h.1
  omega
theorem gr_O1_nx {I0 I I1 Iₚ : gr_I} {k a : Int} (h : gr_O1 I0 k a I) (h0 : 0 ≤ k) (hk : k < I0 0 157) (p1 : ∀ b j, ¬ (b = 91 ∧ j = Int.toNat k) → I1 b j = I b j) (q1 : I1 91 (Int.toNat k) = a) (p2 : ∀ b j, ¬ (b = 92 ∧ j = Int.toNat k) → Iₚ b j = I1 b j) (q2 : Iₚ 92 (Int.toNat k) = 0) : gr_O1 I0 (k + 1) (a + I1 92 (Int.toNat k)) Iₚ := by
  have e9 : Int.toNat (k + 1) = Int.toNat k + 1 := by omega
  have m9 := h.2.2 (Int.toNat k) (by omega) (by omega)
  refine ⟨?_, fun j hj => ?_, fun j hj hn => ?_⟩
  · rw [e9, p1 _ _ (fun q => absurd q.1 (by first | exact gz_ne rfl | decide)), m9]
    show a + _ = gr_sw I0 (Int.toNat k) _ + gr_cw I0 ((Int.toNat k : Nat) : Int) _
    rw [← h.1]
  · by_cases c : j = Int.toNat k
    · subst c
      rw [p2 _ _ (fun q => absurd q.1 (by first | exact gz_ne rfl | decide)), q1]
      exact ⟨h.1, q2⟩
    · rw [p2 _ _ (fun q => absurd q.1 (by first | exact gz_ne rfl | decide)), p1 _ _ (fun q => c q.2), p2 _ _ (fun q => c q.2), p1 _ _ (fun q => absurd q.1 (by first | exact gz_ne rfl | decide))]
      exact h.2.1 j (by omega)
  · rw [p2 _ _ (fun q => by have := q.2; omega), p1 _ _ (fun q => absurd q.1 (by first | exact gz_ne rfl | decide))]
    exact h.2.2 j (by omega) hn
def gr_O2 (I0 : gr_I) (y : Int) (I : gr_I) : Prop := ∀ j : Nat, (j : Int) < I0 0 157 → (I 91 j = gr_sw I0 j (Int.toNat (I0 0 158)) ∧ I 92 j = gr_cw I0 (j : Int) (Int.toNat y)) ∧ ∀ i : Nat, I 91 j ≤ (i : Int) → (i : Int) < I 91 j + I 92 j → I 99 i < I0 0 158 ∧ I0 94 (Int.toNat (I 99 i)) = (j : Int)
theorem gr_O2_in {I0 I : gr_I} {k a : Int} (h : gr_O1 I0 k a I) (hk : I0 0 157 ≤ k) : gr_O2 I0 0 I := fun j hj => by
  have h9 := h.2.1 j (by omega)
  refine ⟨⟨h9.1, by rw [h9.2]; rfl⟩, fun i hi hi2 => ?_⟩
  rw [h9.2] at hi2
  omega
theorem gr_O2_b {I0 I : gr_I} {y : Int} (h : gr_O2 I0 y I) (hc : gr_FC I0) (h0 : 0 ≤ y) (hy : y < I0 0 158) : 0 ≤ I 91 (Int.toNat (I0 94 (Int.toNat y))) ∧ 0 ≤ I 92 (Int.toNat (I0 94 (Int.toNat y))) ∧ I 91 (Int.toNat (I0 94 (Int.toNat y))) + I 92 (Int.toNat (I0 94 (Int.toNat y))) < I0 0 158 := by
  have n9 := hc.1 (Int.toNat y) (by omega)
  obtain ⟨⟨a1, a2⟩, _⟩ := h (Int.toNat (I0 94 (Int.toNat y))) (by omega)
  have h1 := gr_sw_b I0 (Int.toNat (I0 94 (Int.toNat y))) (Int.toNat (I0 0 158))
  have h2 := gr_sw_b I0 (Int.toNat (I0 94 (Int.toNat y)) + 1) (Int.toNat (I0 0 158))
  have h3 := gr_cw_b (I := I0) (x := ((Int.toNat (I0 94 (Int.toNat y)) : Nat) : Int)) (Int.toNat y)
  have h4 := gr_cw_le (I := I0) (x := ((Int.toNat (I0 94 (Int.toNat y)) : Nat) : Int)) (k := Int.toNat y + 1) (Int.toNat (I0 0 158)) (by omega)
  have h6 : gr_cw I0 ((Int.toNat (I0 94 (Int.toNat y)) : Nat) : Int) (Int.toNat y + 1) = gr_cw I0 ((Int.toNat (I0 94 (Int.toNat y)) : Nat) : Int) (Int.toNat y) + 1 := by
    show gr_cw I0 _ (Int.toNat y) + (if I0 94 (Int.toNat y) = _ then 1 else 0) = _
    rw [if_pos (by omega)]
  have h5 : gr_sw I0 (Int.toNat (I0 94 (Int.toNat y)) + 1) (Int.toNat (I0 0 158)) = gr_sw I0 (Int.toNat (I0 94 (Int.toNat y))) (Int.toNat (I0 0 158)) + gr_cw I0 ((Int.toNat (I0 94 (Int.toNat y)) : Nat) : Int) (Int.toNat (I0 0 158)) := rfl
  omega
theorem gr_O2_nx {I0 I I1 Iₚ : gr_I} {y : Int} {x i0 : Nat} (h : gr_O2 I0 y I) (hc : gr_FC I0) (h0 : 0 ≤ y) (hy : y < I0 0 158) (hx : (x : Int) = I0 94 (Int.toNat y)) (p1 : ∀ b j, ¬ (b = 92 ∧ j = x) → I1 b j = I b j) (q1 : I1 92 x = I 92 x + 1) (hi0 : (i0 : Int) = I 91 x + I 92 x) (p2 : ∀ b j, ¬ (b = 99 ∧ j = i0) → Iₚ b j = I1 b j) (q2 : Iₚ 99 i0 = y) : gr_O2 I0 (y + 1) Iₚ := fun j hj => by
  have e9 : Int.toNat (y + 1) = Int.toNat y + 1 := by omega
  obtain ⟨⟨a1, a2⟩, a3⟩ := h j hj
  have n9 := hc.1 (Int.toNat y) (by omega)
  obtain ⟨⟨b1, b2⟩, _⟩ := h x (by omega)
  have r1 : Iₚ 91 j = I 91 j := (p2 _ _ (fun q => absurd q.1 (by first | exact gz_ne rfl | decide))).trans (p1 _ _ (fun q => absurd q.1 (by first | exact gz_ne rfl | decide)))
  have seg : ∀ z : Nat, (z : Int) < I0 0 157 → gr_sw I0 z (Int.toNat (I0 0 158)) + gr_cw I0 (z : Int) (Int.toNat (I0 0 158)) = gr_sw I0 (z + 1) (Int.toNat (I0 0 158)) := fun z _ => rfl
  have cwl := fun z : Nat => gr_cw_le (I := I0) (x := (z : Int)) (k := Int.toNat y) (Int.toNat (I0 0 158)) (by omega)
  have cwx : gr_cw I0 (x : Int) (Int.toNat y + 1) = gr_cw I0 (x : Int) (Int.toNat y) + 1 := by
    show gr_cw I0 _ (Int.toNat y) + (if I0 94 (Int.toNat y) = _ then 1 else 0) = _
    rw [if_pos (by omega)]
  have cwl2 := gr_cw_le (I := I0) (x := (x : Int)) (k := Int.toNat y + 1) (Int.toNat (I0 0 158)) (by omega)
  have cb := fun z : Nat => gr_cw_b (I := I0) (x := (z : Int)) (Int.toNat y)
  by_cases c : j = x
  · subst c
    have r2 : Iₚ 92 j = I 92 j + 1 := (p2 _ _ (fun q => absurd q.1 (by first | exact gz_ne rfl | decide))).trans q1
    refine ⟨⟨by rw [r1]; exact a1, by rw [r2, a2, e9, cwx]⟩, fun i hi hi2 => ?_⟩
    rw [r1] at hi hi2
    rw [r2] at hi2
    by_cases d : i = i0
    · rw [d, q2]
      exact ⟨hy, by omega⟩
    · rw [p2 _ _ (fun q => d q.2), p1 _ _ (fun q => absurd q.1 (by first | exact gz_ne rfl | decide))]
      exact a3 i hi (by omega)
  · have r2 : Iₚ 92 j = I 92 j := (p2 _ _ (fun q => absurd q.1 (by first | exact gz_ne rfl | decide))).trans (p1 _ _ (fun q => c q.2))
    have cwj : gr_cw I0 (j : Int) (Int.toNat y + 1) = gr_cw I0 (j : Int) (Int.toNat y) := by
      show gr_cw I0 _ (Int.toNat y) + (if I0 94 (Int.toNat y) = _ then 1 else 0) = _
      rw [if_neg (by omega)]
      omega
    refine ⟨⟨by rw [r1]; exact a1, by rw [r2, a2, e9, cwj]⟩, fun i hi hi2 => ?_⟩
    rw [r1] at hi hi2
    rw [r2] at hi2
    have ne : ¬ i = i0 := fun e => by
      have s1 := seg j hj
      have s2 := seg x (by omega)
      have c1 := cwl j
      by_cases l : j < x
      · have u := gr_sw_le I0 (Int.toNat (I0 0 158)) (k := j + 1) x (by omega)
        have v := cb x
        omega
      · have u := gr_sw_le I0 (Int.toNat (I0 0 158)) (k := x + 1) j (by omega)
        have v := cb j
        omega
    rw [p2 _ _ (fun q => ne q.2), p1 _ _ (fun q => absurd q.1 (by first | exact gz_ne rfl | decide))]
    exact a3 i hi hi2
def gr_OR (I : gr_I) : Prop := ∀ j : Nat, (j : Int) < I 0 157 → (0 ≤ I 91 j ∧ 0 ≤ I 92 j ∧ I 91 j + I 92 j ≤ I 0 158) ∧ ∀ i : Nat, I 91 j ≤ (i : Int) → (i : Int) < I 91 j + I 92 j → (0 ≤ I 99 i ∧ I 99 i < I 0 158) ∧ I 94 (Int.toNat (I 99 i)) = (j : Int)
theorem gr_OR_in {I0 I : gr_I} {y : Int} (h : gr_O2 I0 y I) (hI : gr_Inv I) (hc : gr_FC I0) (hy : I0 0 158 = y) (h0 : 0 ≤ I0 0 158) (h1 : ∀ k, I 94 k = I0 94 k) (h2 : I 0 157 = I0 0 157) (h3 : I 0 158 = I0 0 158) : gr_OR I := fun j hj => by
  obtain ⟨⟨a1, a2⟩, a3⟩ := h j (by omega)
  have u1 := gr_sw_b I0 j (Int.toNat (I0 0 158))
  have u2 := gr_sw_b I0 (j + 1) (Int.toNat (I0 0 158))
  have u3 := gr_cw_b (I := I0) (x := (j : Int)) (Int.toNat (I0 0 158))
  have u4 : gr_sw I0 (j + 1) (Int.toNat (I0 0 158)) = gr_sw I0 j (Int.toNat (I0 0 158)) + gr_cw I0 (j : Int) (Int.toNat (I0 0 158)) := rfl
  rw [← hy] at a2
  refine ⟨⟨by omega, by omega, by omega⟩, fun i hi hi2 => ?_⟩
  have a9 := a3 i hi hi2
  have z := (gr_b_99 hI i)
  rw [h1, h3]
  exact ⟨⟨z.1, a9.1⟩, a9.2⟩
theorem gr_OR_at {I : gr_I} (h : gr_OR I) {x i : Int} (h0 : 0 ≤ x) (hx : x < I 0 157) (hi0 : I 91 (Int.toNat x) ≤ i) (hi : i < I 91 (Int.toNat x) + I 92 (Int.toNat x)) : (0 ≤ I 99 (Int.toNat i) ∧ I 99 (Int.toNat i) < I 0 158) ∧ I 94 (Int.toNat (I 99 (Int.toNat i))) = x := by
  obtain ⟨a, b⟩ := h (Int.toNat x) (by omega)
  have b9 := b (Int.toNat i) (by omega) (by omega)
  exact ⟨b9.1, by rw [b9.2]; omega⟩
theorem gr_OR_b {I : gr_I} (h : gr_OR I) {x : Int} (h0 : 0 ≤ x) (hx : x < I 0 157) : 0 ≤ I 91 (Int.toNat x) ∧ 0 ≤ I 92 (Int.toNat x) ∧ I 91 (Int.toNat x) + I 92 (Int.toNat x) ≤ I 0 158 := (h (Int.toNat x) (by omega)).1
theorem gr_OR_st {I Iₚ : gr_I} {x z : Int} {i0 : Nat} (h : gr_OR I) (h0 : 0 ≤ x) (hx : x < I 0 157) (hi0 : I 91 (Int.toNat x) ≤ (i0 : Int)) (hi : (i0 : Int) < I 91 (Int.toNat x) + I 92 (Int.toNat x)) (p : ∀ b j, ¬ (b = 99 ∧ j = i0) → Iₚ b j = I b j) (q : Iₚ 99 i0 = z) (hz : (0 ≤ z ∧ z < I 0 158) ∧ I 94 (Int.toNat z) = x) : gr_OR Iₚ := fun j hj => by
  have r : ∀ b : Nat, ¬ b = 99 → Iₚ b = I b := fun b hb => funext fun k => p b k (fun q => hb q.1)
  rw [r 0 (by decide)] at hj
  rw [r 0 (by decide), r 91 (by decide), r 92 (by decide), r 94 (by decide)]
  obtain ⟨a, b⟩ := h j hj
  refine ⟨a, fun i hi1 hi2 => ?_⟩
  by_cases c : i = i0
  · have b9 := b i hi1 hi2
    have b8 := gr_OR_at h h0 hx hi0 hi
    rw [Int.toNat_natCast] at b8
    rw [c] at b9 ⊢
    rw [q]
    exact ⟨hz.1, by rw [hz.2]; omega⟩
  · rw [p 99 i (fun q => c q.2)]
    exact b i hi1 hi2
set_option maxHeartbeats 8000000 in
set_option maxRecDepth 100000 in
theorem r_orderWays {ws0 : List Cond} {tb : String → gz_T} (hws : ∀ w ∈ gr_ws, w ∈ ws0) (htb : tb RX13 = gr_T) (ext : gz_Sh) (I : gr_I) (J : gr_J) (hI : gr_Inv I)   (x0 : gr_FC I) : ∃ r hₚ, gz_Ev ws0 tb 3 (yX13_orderWays, cX13_orderWays, 9, none) [.inr (.inr (some 0))] (gr_sh ++ ext) (gr_h I J) r (gr_sh ++ ext) hₚ 0 0 ∧ (∃ (Iₚ : gr_I) (Jₚ : gr_J), hₚ = gr_h Iₚ Jₚ ∧ gr_Inv Iₚ ∧ gr_fr [] [91, 92, 99] I Iₚ ∧ gr_fj [] [91, 92, 99] J Jₚ ∧ r = none ∧ (gr_OR Iₚ)) := by
  have FI : gr_fr [] [91, 92, 99] I I := fun _ _ _ => rfl
  have FJ : gr_fj [] [91, 92, 99] J J := fun _ _ _ => rfl
  have hD : gv_D (gr_E ws0 tb 2 (yX13_orderWays, cX13_orderWays, 9, none) kX13_orderWays) := gq_of oX13_orderWays
  refine gr_ev (d := 2) (l := kX13_orderWays) (Po := fun r hₚ => (∃ (Iₚ : gr_I) (Jₚ : gr_J), hₚ = gr_h Iₚ Jₚ ∧ gr_Inv Iₚ ∧ gr_fr [] [91, 92, 99] I Iₚ ∧ gr_fj [] [91, 92, 99] J Jₚ ∧ r = none ∧ (gr_OR Iₚ))) htb rfl (Nat.le_of_ble_eq_true rfl) ?_
  have f1 := gz_hi ((gr_b_0_157 hI))
  have L4 : ∀ (n : Nat) (I3 : gr_I) (J4 : gr_J) (v1_5 : Int) (v2_5 : Int), (3001 - v2_5).toNat < n → gr_Inv I3 → gr_fr [] [91, 92, 99] I I3 → gr_fj [] [91, 92, 99] J J4 → ((0 ≤ v1_5 ∧ v1_5 ≤ 9000) ∧ (0 ≤ v2_5 ∧ v2_5 ≤ 3000)) → (gr_O1 I v2_5 v1_5 I3) → gv_X (gr_E ws0 tb 2 (yX13_orderWays, cX13_orderWays, 9, none) kX13_orderWays) (gv_Q cX13_orderWays none (gr_sh ++ ext) (fun r hₚ => (∃ (Iₚ : gr_I) (Jₚ : gr_J), hₚ = gr_h Iₚ Jₚ ∧ gr_Inv Iₚ ∧ gr_fr [] [91, 92, 99] I Iₚ ∧ gr_fj [] [91, 92, 99] J Jₚ ∧ r = none ∧ (gr_OR Iₚ)))) (4, [(0, .inr (.inr (some 0))), (1, .inl v1_5), (2, .inl v2_5)], [], gr_sh ++ ext, gr_h I3 J4) := by
    intro n
    induction n with
    | zero => intro I3 J4 v1_5 v2_5 hn; (/-0-/first | omega | (simp only [gz_hd] at *; omega))
    | succ n ih4 =>
      intro I3 J4 v1_5 v2_5 hn hI3 FI3 FJ4 m_5 e0_5
      obtain ⟨hv1_5, hv2_5⟩ := gz_h2 m_5
      have f7 := gz_hi ((gr_b_0_158 hI3))
      have t8 := gz_hi (FI3 0 157 rfl)
      have t9 := gz_hi (FI3 0 158 rfl)
      have L43 : ∀ (n : Nat) (I10 : gr_I) (J11 : gr_J) (v2_12 : Int), (9001 - v2_12).toNat < n → gr_Inv I10 → gr_fr [] [91, 92, 99] I I10 → gr_fj [] [91, 92, 99] J J11 → ((0 ≤ v2_12 ∧ v2_12 ≤ 9000) ∧ (v2_12 ≤ I10 0 158)) → (gr_O2 I v2_12 I10) → gv_X (gr_E ws0 tb 2 (yX13_orderWays, cX13_orderWays, 9, none) kX13_orderWays) (gv_Q cX13_orderWays none (gr_sh ++ ext) (fun r hₚ => (∃ (Iₚ : gr_I) (Jₚ : gr_J), hₚ = gr_h Iₚ Jₚ ∧ gr_Inv Iₚ ∧ gr_fr [] [91, 92, 99] I Iₚ ∧ gr_fj [] [91, 92, 99] J Jₚ ∧ r = none ∧ (gr_OR Iₚ)))) (43, [(0, .inr (.inr (some 0))), (2, .inl v2_12)], [], gr_sh ++ ext, gr_h I10 J11) := by
        intro n
        induction n with
        | zero => intro I10 J11 v2_12 hn; (/-1-/first | omega | (simp only [gz_hd] at *; omega))
        | succ n ih43 =>
          intro I10 J11 v2_12 hn hI10 FI10 FJ11 m_12 e0_12
          clear hv1_5 hv2_5 f7 t8 t9
          obtain ⟨hv2_12, e1_12⟩ := gz_h2 m_12
          have f14 := gz_hi ((gr_b_0_158 hI10))
          have t16 := gz_hi (FI10 0 158 rfl)
          have L93 : ∀ (n : Nat) (I17 : gr_I) (J18 : gr_J) (v2_19 : Int), (3001 - v2_19).toNat < n → gr_Inv I17 → gr_fr [] [91, 92, 99] I I17 → gr_fj [] [91, 92, 99] J J18 → ((0 ≤ v2_19 ∧ v2_19 ≤ 3000)) → (gr_OR I17) → gv_X (gr_E ws0 tb 2 (yX13_orderWays, cX13_orderWays, 9, none) kX13_orderWays) (gv_Q cX13_orderWays none (gr_sh ++ ext) (fun r hₚ => (∃ (Iₚ : gr_I) (Jₚ : gr_J), hₚ = gr_h Iₚ Jₚ ∧ gr_Inv Iₚ ∧ gr_fr [] [91, 92, 99] I Iₚ ∧ gr_fj [] [91, 92, 99] J Jₚ ∧ r = none ∧ (gr_OR Iₚ)))) (93, [(0, .inr (.inr (some 0))), (2, .inl v2_19)], [], gr_sh ++ ext, gr_h I17 J18) := by
            intro n
            induction n with
            | zero => intro I17 J18 v2_19 hn; (/-2-/first | omega | (simp only [gz_hd] at *; omega))
            | succ n ih93 =>
              intro I17 J18 v2_19 hn hI17 FI17 FJ18 m_19 e0_19
              clear hv2_12 e1_12 f14 t16
              have hv2_19 := m_19
              have f20 := gz_hi ((gr_b_0_157 hI17))
              have f21 := gz_hi ((gr_b_0_158 hI17))
              have L122 : ∀ (n : Nat) (I24 : gr_I) (J25 : gr_J) (v3_26 : Int) (v4_26 : Int) (v5_26 : Int), (v5_26).toNat < n → gr_Inv I24 → gr_fr [] [91, 92, 99] I I24 → gr_fj [] [91, 92, 99] J J25 → ((0 ≤ v2_19 ∧ v2_19 ≤ 2999) ∧ (0 ≤ v3_26 ∧ v3_26 ≤ 9000) ∧ (0 ≤ v4_26 ∧ v4_26 ≤ 9000) ∧ (0 ≤ v5_26 ∧ v5_26 ≤ 4500) ∧ (v3_26 = I24 91 (Int.toNat v2_19)) ∧ (v4_26 = I24 92 (Int.toNat v2_19)) ∧ (0 ≤ v3_26) ∧ (v3_26 + v4_26 ≤ 9000) ∧ (v2_19 < I24 0 157)) → (gr_OR I24) → gv_X (gr_E ws0 tb 2 (yX13_orderWays, cX13_orderWays, 9, none) kX13_orderWays) (gv_Q cX13_orderWays none (gr_sh ++ ext) (fun r hₚ => (∃ (Iₚ : gr_I) (Jₚ : gr_J), hₚ = gr_h Iₚ Jₚ ∧ gr_Inv Iₚ ∧ gr_fr [] [91, 92, 99] I Iₚ ∧ gr_fj [] [91, 92, 99] J Jₚ ∧ r = none ∧ (gr_OR Iₚ)))) (122, [(0, .inr (.inr (some 0))), (2, .inl v2_19), (3, .inl v3_26), (4, .inl v4_26), (5, .inl v5_26)], [], gr_sh ++ ext, gr_h I24 J25) := by
                intro n
                induction n with
                | zero => intro I24 J25 v3_26 v4_26 v5_26 hn; (/-3-/first | omega | (simp only [gz_hd] at *; omega))
                | succ n ih122 =>
                  intro I24 J25 v3_26 v4_26 v5_26 hn hI24 FI24 FJ25 m_26 e0_26
                  clear hv2_19 f20 f21
                  obtain ⟨hv2_19_26, hv3_26, hv4_26, hv5_26, e1_26, e2_26, e3_26, e4_26, e5_26⟩ := gz_h9 m_26
                  have L131 : ∀ (n : Nat) (I31 : gr_I) (J32 : gr_J) (v6_33 : Int), (9001 - v6_33).toNat < n → gr_Inv I31 → gr_fr [] [91, 92, 99] I I31 → gr_fj [] [91, 92, 99] J J32 → ((0 ≤ v2_19 ∧ v2_19 ≤ 2999) ∧ (0 ≤ v3_26 ∧ v3_26 ≤ 9000) ∧ (0 ≤ v4_26 ∧ v4_26 ≤ 9000) ∧ (1 ≤ v5_26 ∧ v5_26 ≤ 4500) ∧ (1 ≤ v6_33 ∧ v6_33 ≤ 9000) ∧ (v3_26 = I31 91 (Int.toNat v2_19)) ∧ (v4_26 = I31 92 (Int.toNat v2_19)) ∧ (0 ≤ v3_26) ∧ (v3_26 + v4_26 ≤ 9000) ∧ (v2_19 < I31 0 157) ∧ (1 ≤ v5_26) ∧ (v5_26 ≤ v6_33)) → (gr_OR I31) → gv_X (gr_E ws0 tb 2 (yX13_orderWays, cX13_orderWays, 9, none) kX13_orderWays) (gv_Q cX13_orderWays none (gr_sh ++ ext) (fun r hₚ => (∃ (Iₚ : gr_I) (Jₚ : gr_J), hₚ = gr_h Iₚ Jₚ ∧ gr_Inv Iₚ ∧ gr_fr [] [91, 92, 99] I Iₚ ∧ gr_fj [] [91, 92, 99] J Jₚ ∧ r = none ∧ (gr_OR Iₚ)))) (131, [(0, .inr (.inr (some 0))), (2, .inl v2_19), (3, .inl v3_26), (4, .inl v4_26), (5, .inl v5_26), (6, .inl v6_33)], [], gr_sh ++ ext, gr_h I31 J32) := by
                    intro n
                    induction n with
                    | zero => intro I31 J32 v6_33 hn; (/-4-/first | omega | (simp only [gz_hd] at *; omega))
                    | succ n ih131 =>
                      intro I31 J32 v6_33 hn hI31 FI31 FJ32 m_33 e0_33
                      clear hv2_19_26 hv3_26 hv4_26 hv5_26 e1_26 e2_26 e3_26 e4_26 e5_26
                      obtain ⟨hv2_19_33, hv3_26_33, hv4_26_33, hv5_26_33, hv6_33, e1_33, e2_33, e3_33, e4_33, e5_33, e6_33, e7_33⟩ := gz_h12 m_33
                      have L153 : ∀ (n : Nat) (I38 : gr_I) (J39 : gr_J) (v7_40 : Int) (v8_40 : Int), (v8_40).toNat < n → gr_Inv I38 → gr_fr [] [91, 92, 99] I I38 → gr_fj [] [91, 92, 99] J J39 → ((0 ≤ v2_19 ∧ v2_19 ≤ 2999) ∧ (0 ≤ v3_26 ∧ v3_26 ≤ 9000) ∧ (2 ≤ v4_26 ∧ v4_26 ≤ 9000) ∧ (1 ≤ v5_26 ∧ v5_26 ≤ 4500) ∧ (1 ≤ v6_33 ∧ v6_33 ≤ 8999) ∧ (0 ≤ v7_40 ∧ v7_40 ≤ 8999) ∧ (0 ≤ v8_40 ∧ v8_40 ≤ 8999) ∧ (v3_26 = I38 91 (Int.toNat v2_19)) ∧ (v4_26 = I38 92 (Int.toNat v2_19)) ∧ (0 ≤ v3_26) ∧ (v3_26 + v4_26 ≤ 9000) ∧ (v2_19 < I38 0 157) ∧ (1 ≤ v5_26) ∧ (v5_26 ≤ v6_33) ∧ (v6_33 < v4_26) ∧ (v8_40 ≤ v6_33) ∧ (I38 94 (Int.toNat v7_40) = v2_19) ∧ (v7_40 < I38 0 158)) → (gr_OR I38) → gv_X (gr_E ws0 tb 2 (yX13_orderWays, cX13_orderWays, 9, none) kX13_orderWays) (gv_Q cX13_orderWays none (gr_sh ++ ext) (fun r hₚ => (∃ (Iₚ : gr_I) (Jₚ : gr_J), hₚ = gr_h Iₚ Jₚ ∧ gr_Inv Iₚ ∧ gr_fr [] [91, 92, 99] I Iₚ ∧ gr_fj [] [91, 92, 99] J Jₚ ∧ r = none ∧ (gr_OR Iₚ)))) (153, [(0, .inr (.inr (some 0))), (2, .inl v2_19), (3, .inl v3_26), (4, .inl v4_26), (5, .inl v5_26), (6, .inl v6_33), (7, .inl v7_40), (8, .inl v8_40)], [], gr_sh ++ ext, gr_h I38 J39) := by
                        intro n
                        induction n with
                        | zero => intro I38 J39 v7_40 v8_40 hn; (/-5-/first | omega | (simp only [gz_hd] at *; omega))
                        | succ n ih153 =>
                          intro I38 J39 v7_40 v8_40 hn hI38 FI38 FJ39 m_40 e0_40
                          clear hv2_19_33 hv3_26_33 hv4_26_33 hv5_26_33 hv6_33 e1_33 e2_33 e3_33 e4_33 e5_33 e6_33 e7_33
                          obtain ⟨hv2_19_40, hv3_26_40, hv4_26_40, hv5_26_40, hv6_33_40, hv7_40, hv8_40, e1_40, e2_40, e3_40, e4_40, e5_40, e6_40, e7_40, e8_40, e9_40, e10_40, e11_40⟩ := gz_h18 m_40
                          have L212 : ((0 ≤ v2_19 ∧ v2_19 ≤ 2999) ∧ (0 ≤ v3_26 ∧ v3_26 ≤ 9000) ∧ (2 ≤ v4_26 ∧ v4_26 ≤ 9000) ∧ (1 ≤ v5_26 ∧ v5_26 ≤ 4500) ∧ (1 ≤ v6_33 ∧ v6_33 ≤ 8999) ∧ (0 ≤ v7_40 ∧ v7_40 ≤ 8999) ∧ (0 ≤ v8_40 ∧ v8_40 ≤ 8999) ∧ (v3_26 = I38 91 (Int.toNat v2_19)) ∧ (v4_26 = I38 92 (Int.toNat v2_19)) ∧ (0 ≤ v3_26) ∧ (v3_26 + v4_26 ≤ 9000) ∧ (v2_19 < I38 0 157) ∧ (1 ≤ v5_26) ∧ (v5_26 ≤ v6_33) ∧ (v6_33 < v4_26) ∧ (v8_40 ≤ v6_33) ∧ (I38 94 (Int.toNat v7_40) = v2_19) ∧ (v7_40 < I38 0 158)) → (gr_OR I38) → gv_X (gr_E ws0 tb 2 (yX13_orderWays, cX13_orderWays, 9, none) kX13_orderWays) (gv_Q cX13_orderWays none (gr_sh ++ ext) (fun r hₚ => (∃ (Iₚ : gr_I) (Jₚ : gr_J), hₚ = gr_h Iₚ Jₚ ∧ gr_Inv Iₚ ∧ gr_fr [] [91, 92, 99] I Iₚ ∧ gr_fj [] [91, 92, 99] J Jₚ ∧ r = none ∧ (gr_OR Iₚ)))) (212, [(0, .inr (.inr (some 0))), (2, .inl v2_19), (3, .inl v3_26), (4, .inl v4_26), (5, .inl v5_26), (6, .inl v6_33), (7, .inl v7_40), (8, .inl v8_40)], [], gr_sh ++ ext, gr_h I38 J39) := by
                            intro m_45 e0_45
                            obtain ⟨hv2_19_45, hv3_26_45, hv4_26_45, hv5_26_45, hv6_33_45, hv7_40_45, hv8_40_45, e1_45, e2_45, e3_45, e4_45, e5_45, e6_45, e7_45, e8_45, e9_45, e10_45, e11_45⟩ := gz_h18 m_45
                            refine gv_run 6 true hD (pcₚ := 222) (lvₚ := [(0, .inr (.inr (some 0))), (2, .inl v2_19), (3, .inl v3_26), (4, .inl v4_26), (5, .inl v5_26), (6, .inl v6_33), (7, .inl v7_40), (8, .inl v8_40)]) (stₚ := [.inl v7_40, .inl (v3_26 + v8_40), .inr (.inr (some 99))]) (hₚ := gr_h I38 J39) (C := ((((((True ∧ True) ∧ True) ∧ True) ∧ True) ∧ True) ∧ True)) rfl ⟨⟨⟨⟨⟨⟨trivial, trivial⟩, trivial⟩, trivial⟩, trivial⟩, trivial⟩, trivial⟩ ?_
                            refine gv_run 1 true hD (pcₚ := 223) (lvₚ := [(0, .inr (.inr (some 0))), (2, .inl v2_19), (3, .inl v3_26), (4, .inl v4_26), (5, .inl v5_26), (6, .inl v6_33), (7, .inl v7_40), (8, .inl v8_40)]) (stₚ := []) (hₚ := gz_up (gr_h I38 J39) 99 (Int.toNat ((v3_26 + v8_40))) (.inl v7_40)) (C := (True ∧ (0 ≤ (v3_26 + v8_40) ∧ (v3_26 + v8_40) < ((9000 : Nat) : Int)))) rfl ⟨trivial, ⟨by (/-6-/first | (have o1 := gz_sh hv3_26_40; have o2 := gz_sh hv8_40; omega) | (simp only [gz_hd] at *; omega)), by (/-7-/first | (have o1 := gz_sh e4_40; have o2 := gz_sh e8_40; have o3 := gz_sh e9_40; omega) | (simp only [gz_hd] at *; omega))⟩⟩ ?_
                            refine gr_st hI38 FI38 rfl rfl ⟨⟨by show 0 ≤ _; (/-8-/first | (have o1 := gz_sh hv7_40; omega) | (simp only [gz_hd] at *; omega)), by show _ ≤ 8999; (/-9-/first | (have o1 := gz_sh hv7_40; omega) | (simp only [gz_hd] at *; omega))⟩, trivial⟩ (fun I50 hI50 FI50 q51 p51 => ?_)
                            have t52 := gz_hi (p51 0 157 (fun q => absurd q.1 (by first | exact gz_ne rfl | decide)))
                            have t54 := gz_hi (p51 91 (Int.toNat v2_19) (fun q => absurd q.1 (by first | exact gz_ne rfl | decide)))
                            have t55 := gz_hi (p51 92 (Int.toNat v2_19) (fun q => absurd q.1 (by first | exact gz_ne rfl | decide)))
                            have t56 := gz_hi (p51 94 (Int.toNat v7_40) (fun q => absurd q.1 (by first | exact gz_ne rfl | decide)))
                            refine gv_run 2 true hD (pcₚ := 131) (lvₚ := [(6, .inl (v6_33 + 1)), (0, .inr (.inr (some 0))), (2, .inl v2_19), (3, .inl v3_26), (4, .inl v4_26), (5, .inl v5_26), (7, .inl v7_40), (8, .inl v8_40)]) (stₚ := []) (hₚ := gr_h I50 J39) (C := ((True ∧ True) ∧ True)) rfl ⟨⟨trivial, trivial⟩, trivial⟩ ?_
                            refine gv_pick [1, 2, 3, 4, 5, 0] rfl ?_
                            exact ih131 I50 J39 (v6_33 + 1) (by (/-10-/first | (have o1 := gz_sh hv6_33_40; omega) | (simp only [gz_hd] at *; omega))) hI50 FI50 FJ39 (by (/-11-/first | (and_intros; (omega); (have o1 := gz_sh hv2_19_40; omega); (have o1 := gz_sh hv3_26_40; omega); (have o1 := gz_sh hv3_26_40; omega); (have o1 := gz_sh hv4_26_40; omega); (have o1 := gz_sh hv4_26_40; omega); (have o1 := gz_sh hv5_26_40; omega); (have o1 := gz_sh hv5_26_40; omega); (have o1 := gz_sh hv6_33_40; omega); (have o1 := gz_sh hv6_33_40; omega); (have o1 := gz_sh e1_40; have o2 := gz_sh t54; omega); (have o1 := gz_sh e2_40; have o2 := gz_sh t55; omega); (have o1 := gz_sh hv3_26_40; omega); (have o1 := gz_sh e4_40; omega); (have o1 := gz_sh e5_40; have o2 := gz_sh t52; omega); (have o1 := gz_sh hv5_26_40; omega); (have o1 := gz_sh e7_40; omega)) | (simp only [gz_hd] at *; omega))) (gr_OR_st (x := v2_19) e0_45 (by (/-12-/first | omega | (simp only [gz_hd] at *; omega))) (by (/-13-/first | (have o1 := gz_sh e5_45; omega) | (simp only [gz_hd] at *; omega))) (by (/-14-/first | (have o1 := gz_sh e1_40; have o2 := gz_sh hv3_26_40; have o3 := gz_sh hv8_40; have o4 := gz_sh t54; omega) | (simp only [gz_hd] at *; omega))) (by (/-15-/first | (have o1 := gz_sh e1_40; have o2 := gz_sh e2_40; have o3 := gz_sh e8_40; have o4 := gz_sh e9_40; have o5 := gz_sh hv3_26_40; have o6 := gz_sh hv4_26_40; omega) | (simp only [gz_hd] at *; omega))) p51 q51 ⟨⟨by (/-16-/first | (have o1 := gz_sh hv7_40; omega) | (simp only [gz_hd] at *; omega)), by (/-17-/first | (have o1 := gz_sh e11_45; omega) | (simp only [gz_hd] at *; omega))⟩, by (/-18-/first | (have o1 := gz_sh e10_45; omega) | (simp only [gz_hd] at *; omega))⟩)
                          refine gv_run 2 true hD (pcₚ := 157) (lvₚ := [(0, .inr (.inr (some 0))), (2, .inl v2_19), (3, .inl v3_26), (4, .inl v4_26), (5, .inl v5_26), (6, .inl v6_33), (7, .inl v7_40), (8, .inl v8_40)]) (stₚ := [.inl v5_26, .inl v8_40]) (hₚ := gr_h I38 J39) (C := ((True ∧ True) ∧ True)) rfl ⟨⟨trivial, trivial⟩, trivial⟩ ?_
                          refine gv_icmp_lt (t := 212) hD rfl rfl ⟨⟨by (/-19-/first | (have o1 := gz_sh hv8_40; omega) | (simp only [gz_hd] at *; omega)), by (/-20-/first | (have o1 := gz_sh hv8_40; omega) | (simp only [gz_hd] at *; omega))⟩, ⟨by (/-21-/first | (have o1 := gz_sh hv5_26_40; omega) | (simp only [gz_hd] at *; omega)), by (/-22-/first | (have o1 := gz_sh hv5_26_40; omega) | (simp only [gz_hd] at *; omega))⟩⟩ (fun c61 => ?_) (fun c61 => ?_)
                          · exact L212 (by (/-23-/first | (and_intros; (omega); (have o1 := gz_sh hv2_19_40; omega); (have o1 := gz_sh hv3_26_40; omega); (have o1 := gz_sh hv3_26_40; omega); (have o1 := gz_sh hv4_26_40; omega); (have o1 := gz_sh hv4_26_40; omega); (have o1 := gz_sh hv5_26_40; omega); (have o1 := gz_sh hv5_26_40; omega); (have o1 := gz_sh hv6_33_40; omega); (have o1 := gz_sh hv6_33_40; omega); (have o1 := gz_sh hv7_40; omega); (have o1 := gz_sh hv7_40; omega); (have o1 := gz_sh hv8_40; omega); (have o1 := gz_sh hv8_40; omega); (have o1 := gz_sh e1_40; omega); (have o1 := gz_sh e2_40; omega); (have o1 := gz_sh hv3_26_40; omega); (have o1 := gz_sh e4_40; omega); (have o1 := gz_sh e5_40; omega); (have o1 := gz_sh hv5_26_40; omega); (have o1 := gz_sh e7_40; omega); (have o1 := gz_sh e8_40; omega); (have o1 := gz_sh e9_40; omega); (have o1 := gz_sh e10_40; omega); (have o1 := gz_sh e11_40; omega)) | (simp only [gz_hd] at *; omega))) e0_40
                          · refine gv_run 7 true hD (pcₚ := 171) (lvₚ := [(0, .inr (.inr (some 0))), (2, .inl v2_19), (3, .inl v3_26), (4, .inl v4_26), (5, .inl v5_26), (6, .inl v6_33), (7, .inl v7_40), (8, .inl v8_40)]) (stₚ := [.inl v5_26, .inl (v3_26 + v8_40), .inr (.inr (some 99)), .inr (.inr (some 0))]) (hₚ := gr_h I38 J39) (C := (((((((True ∧ True) ∧ True) ∧ True) ∧ True) ∧ True) ∧ True) ∧ True)) rfl ⟨⟨⟨⟨⟨⟨⟨trivial, trivial⟩, trivial⟩, trivial⟩, trivial⟩, trivial⟩, trivial⟩, trivial⟩ ?_
                            have f62 := gz_hi ((gr_b_99 hI38 (Int.toNat (((v3_26 + v8_40) - v5_26)))))
                            refine gv_run 2 true hD (pcₚ := 173) (lvₚ := [(0, .inr (.inr (some 0))), (2, .inl v2_19), (3, .inl v3_26), (4, .inl v4_26), (5, .inl v5_26), (6, .inl v6_33), (7, .inl v7_40), (8, .inl v8_40)]) (stₚ := [.inl (I38 99 (Int.toNat (((v3_26 + v8_40) - v5_26)))), .inr (.inr (some 0))]) (hₚ := gr_h I38 J39) (C := ((True ∧ True) ∧ (0 ≤ (((v3_26 + v8_40) - v5_26)) ∧ (((v3_26 + v8_40) - v5_26)) < ((9000 : Nat) : Int)))) rfl ⟨⟨trivial, trivial⟩, ⟨by (/-24-/first | (have o1 := gz_sh hv3_26_40; omega) | (simp only [gz_hd] at *; omega)), by (/-25-/first | (have o1 := gz_sh e4_40; have o2 := gz_sh e8_40; have o3 := gz_sh e9_40; have o4 := gz_sh hv5_26_40; omega) | (simp only [gz_hd] at *; omega))⟩⟩ ?_
                            refine gv_run 1 true hD (pcₚ := 175) (lvₚ := [(0, .inr (.inr (some 0))), (2, .inl v2_19), (3, .inl v3_26), (4, .inl v4_26), (5, .inl v5_26), (6, .inl v6_33), (7, .inl v7_40), (8, .inl v8_40)]) (stₚ := [.inl v7_40, .inl (I38 99 (Int.toNat (((v3_26 + v8_40) - v5_26)))), .inr (.inr (some 0))]) (hₚ := gr_h I38 J39) (C := (True ∧ True)) rfl ⟨trivial, trivial⟩ ?_
                            obtain ⟨r63, h63, E63, P63⟩ := r_wayOrder (ws0 := ws0) (tb := tb) hws htb ext I38 J39 hI38 ((I38 99 (Int.toNat (((v3_26 + v8_40) - v5_26))))) v7_40 ⟨by (/-26-/first | (have o1 := gz_sh f62; omega) | (simp only [gz_hd] at *; omega)), by (/-27-/first | (have o1 := gz_sh f62; omega) | (simp only [gz_hd] at *; omega))⟩ ⟨by (/-28-/first | (have o1 := gz_sh hv7_40; omega) | (simp only [gz_hd] at *; omega)), by (/-29-/first | (have o1 := gz_sh hv7_40; omega) | (simp only [gz_hd] at *; omega))⟩ 
                            obtain ⟨rfl, ⟨z63, rfl, q63⟩⟩ := P63
                            replace q63 := gz_hi q63
                            refine gv_callV hD rfl (As := [.inl (I38 99 (Int.toNat (((v3_26 + v8_40) - v5_26)))), .inl v7_40]) (st := []) rfl (by decide) rfl rfl (gr_lV hws rfl) (Nat.le_of_ble_eq_true rfl) (gz_Ev_mono (d := 2) (by decide) E63) ?_
                            show gv_X _ _ (178, [(0, .inr (.inr (some 0))), (2, .inl v2_19), (3, .inl v3_26), (4, .inl v4_26), (5, .inl v5_26), (6, .inl v6_33), (7, .inl v7_40), (8, .inl v8_40)], [.inl z63], gr_sh ++ ext, gr_h I38 J39)
                            refine gv_if_le (t := 212) hD rfl rfl ⟨by (/-30-/first | (have o1 := gz_sh q63; omega) | (simp only [gz_hd] at *; omega)), by (/-31-/first | (have o1 := gz_sh q63; omega) | (simp only [gz_hd] at *; omega))⟩ (fun c64 => ?_) (fun c64 => ?_)
                            · exact L212 (by (/-32-/first | (and_intros; (omega); (have o1 := gz_sh hv2_19_40; omega); (have o1 := gz_sh hv3_26_40; omega); (have o1 := gz_sh hv3_26_40; omega); (have o1 := gz_sh hv4_26_40; omega); (have o1 := gz_sh hv4_26_40; omega); (have o1 := gz_sh hv5_26_40; omega); (have o1 := gz_sh hv5_26_40; omega); (have o1 := gz_sh hv6_33_40; omega); (have o1 := gz_sh hv6_33_40; omega); (have o1 := gz_sh hv7_40; omega); (have o1 := gz_sh hv7_40; omega); (have o1 := gz_sh hv8_40; omega); (have o1 := gz_sh hv8_40; omega); (have o1 := gz_sh e1_40; omega); (have o1 := gz_sh e2_40; omega); (have o1 := gz_sh hv3_26_40; omega); (have o1 := gz_sh e4_40; omega); (have o1 := gz_sh e5_40; omega); (have o1 := gz_sh hv5_26_40; omega); (have o1 := gz_sh e7_40; omega); (have o1 := gz_sh e8_40; omega); (have o1 := gz_sh e9_40; omega); (have o1 := gz_sh e10_40; omega); (have o1 := gz_sh e11_40; omega)) | (simp only [gz_hd] at *; omega))) e0_40
                            · refine gv_run 7 true hD (pcₚ := 193) (lvₚ := [(0, .inr (.inr (some 0))), (2, .inl v2_19), (3, .inl v3_26), (4, .inl v4_26), (5, .inl v5_26), (6, .inl v6_33), (7, .inl v7_40), (8, .inl v8_40)]) (stₚ := [.inr (.inr (some 99)), .inl (v3_26 + v8_40), .inr (.inr (some 99))]) (hₚ := gr_h I38 J39) (C := (((((((True ∧ True) ∧ True) ∧ True) ∧ True) ∧ True) ∧ True) ∧ True)) rfl ⟨⟨⟨⟨⟨⟨⟨trivial, trivial⟩, trivial⟩, trivial⟩, trivial⟩, trivial⟩, trivial⟩, trivial⟩ ?_
                              refine gv_run 6 true hD (pcₚ := 201) (lvₚ := [(0, .inr (.inr (some 0))), (2, .inl v2_19), (3, .inl v3_26), (4, .inl v4_26), (5, .inl v5_26), (6, .inl v6_33), (7, .inl v7_40), (8, .inl v8_40)]) (stₚ := [.inl (I38 99 (Int.toNat (((v3_26 + v8_40) - v5_26)))), .inl (v3_26 + v8_40), .inr (.inr (some 99))]) (hₚ := gr_h I38 J39) (C := ((((((True ∧ True) ∧ True) ∧ True) ∧ True) ∧ True) ∧ (0 ≤ (((v3_26 + v8_40) - v5_26)) ∧ (((v3_26 + v8_40) - v5_26)) < ((9000 : Nat) : Int)))) rfl ⟨⟨⟨⟨⟨⟨trivial, trivial⟩, trivial⟩, trivial⟩, trivial⟩, trivial⟩, ⟨by (/-33-/first | (have o1 := gz_sh hv3_26_40; omega) | (simp only [gz_hd] at *; omega)), by (/-34-/first | (have o1 := gz_sh e4_40; have o2 := gz_sh e8_40; have o3 := gz_sh e9_40; have o4 := gz_sh hv5_26_40; omega) | (simp only [gz_hd] at *; omega))⟩⟩ ?_
                              refine gv_run 1 true hD (pcₚ := 202) (lvₚ := [(0, .inr (.inr (some 0))), (2, .inl v2_19), (3, .inl v3_26), (4, .inl v4_26), (5, .inl v5_26), (6, .inl v6_33), (7, .inl v7_40), (8, .inl v8_40)]) (stₚ := []) (hₚ := gz_up (gr_h I38 J39) 99 (Int.toNat ((v3_26 + v8_40))) (.inl ((I38 99 (Int.toNat (((v3_26 + v8_40) - v5_26))))))) (C := (True ∧ (0 ≤ (v3_26 + v8_40) ∧ (v3_26 + v8_40) < ((9000 : Nat) : Int)))) rfl ⟨trivial, ⟨by (/-35-/first | (have o1 := gz_sh hv3_26_40; have o2 := gz_sh hv8_40; omega) | (simp only [gz_hd] at *; omega)), by (/-36-/first | (have o1 := gz_sh e4_40; have o2 := gz_sh e8_40; have o3 := gz_sh e9_40; omega) | (simp only [gz_hd] at *; omega))⟩⟩ ?_
                              refine gr_st hI38 FI38 rfl rfl ⟨⟨by show 0 ≤ _; (/-37-/first | (have o1 := gz_sh f62; omega) | (simp only [gz_hd] at *; omega)), by show _ ≤ 8999; (/-38-/first | (have o1 := gz_sh f62; omega) | (simp only [gz_hd] at *; omega))⟩, trivial⟩ (fun I66 hI66 FI66 q67 p67 => ?_)
                              have t68 := gz_hi (p67 0 157 (fun q => absurd q.1 (by first | exact gz_ne rfl | decide)))
                              have t69 := gz_hi (p67 0 158 (fun q => absurd q.1 (by first | exact gz_ne rfl | decide)))
                              have t70 := gz_hi (p67 91 (Int.toNat v2_19) (fun q => absurd q.1 (by first | exact gz_ne rfl | decide)))
                              have t71 := gz_hi (p67 92 (Int.toNat v2_19) (fun q => absurd q.1 (by first | exact gz_ne rfl | decide)))
                              have t72 := gz_hi (p67 94 (Int.toNat v7_40) (fun q => absurd q.1 (by first | exact gz_ne rfl | decide)))
                              refine gv_run 5 true hD (pcₚ := 153) (lvₚ := [(8, .inl (v8_40 - v5_26)), (0, .inr (.inr (some 0))), (2, .inl v2_19), (3, .inl v3_26), (4, .inl v4_26), (5, .inl v5_26), (6, .inl v6_33), (7, .inl v7_40)]) (stₚ := []) (hₚ := gr_h I66 J39) (C := (((((True ∧ True) ∧ True) ∧ True) ∧ True) ∧ True)) rfl ⟨⟨⟨⟨⟨trivial, trivial⟩, trivial⟩, trivial⟩, trivial⟩, trivial⟩ ?_
                              refine gv_pick [1, 2, 3, 4, 5, 6, 7, 0] rfl ?_
                              exact ih153 I66 J39 v7_40 (v8_40 - v5_26) (by (/-39-/first | (have o1 := gz_sh e10_40; have o2 := gz_sh e11_40; have o3 := gz_sh e1_40; have o4 := gz_sh e2_40; have o5 := gz_sh e4_40; have o6 := gz_sh e5_40; have o7 := gz_sh e7_40; have o8 := gz_sh e8_40; have o9 := gz_sh e9_40; have o10 := gz_sh hv2_19_40; have o11 := gz_sh hv3_26_40; have o12 := gz_sh hv4_26_40; have o13 := gz_sh hv5_26_40; have o14 := gz_sh hv6_33_40; have o15 := gz_sh hv7_40; have o16 := gz_sh hv8_40; have o17 := gz_sh t68; have o18 := gz_sh t69; have o19 := gz_sh t70; have o20 := gz_sh t71; have o21 := gz_sh t72; omega) | (simp only [gz_hd] at *; omega))) hI66 FI66 FJ39 (by (/-40-/first | (and_intros; (omega); (have o1 := gz_sh hv2_19_40; omega); (have o1 := gz_sh hv3_26_40; omega); (have o1 := gz_sh hv3_26_40; omega); (have o1 := gz_sh hv4_26_40; omega); (have o1 := gz_sh hv4_26_40; omega); (have o1 := gz_sh hv5_26_40; omega); (have o1 := gz_sh hv5_26_40; omega); (have o1 := gz_sh hv6_33_40; omega); (have o1 := gz_sh hv6_33_40; omega); (have o1 := gz_sh hv7_40; omega); (have o1 := gz_sh hv7_40; omega); (omega); (have o1 := gz_sh hv5_26_40; have o2 := gz_sh hv8_40; omega); (have o1 := gz_sh e1_40; have o2 := gz_sh t70; omega); (have o1 := gz_sh e2_40; have o2 := gz_sh t71; omega); (have o1 := gz_sh hv3_26_40; omega); (have o1 := gz_sh e4_40; omega); (have o1 := gz_sh e5_40; have o2 := gz_sh t68; omega); (have o1 := gz_sh hv5_26_40; omega); (have o1 := gz_sh e7_40; omega); (have o1 := gz_sh e8_40; omega); (have o1 := gz_sh e9_40; have o2 := gz_sh hv5_26_40; omega); (have o1 := gz_sh e10_40; have o2 := gz_sh t72; omega); (have o1 := gz_sh e11_40; have o2 := gz_sh t69; omega)) | (simp only [gz_hd] at *; omega))) (gr_OR_st (x := v2_19) e0_40 (by (/-41-/first | omega | (simp only [gz_hd] at *; omega))) (by (/-42-/first | (have o1 := gz_sh e5_40; omega) | (simp only [gz_hd] at *; omega))) (by (/-43-/first | (have o1 := gz_sh e1_40; have o2 := gz_sh hv3_26_40; have o3 := gz_sh hv5_26_40; have o4 := gz_sh hv8_40; have o5 := gz_sh t70; omega) | (simp only [gz_hd] at *; omega))) (by (/-44-/first | (have o1 := gz_sh e1_40; have o2 := gz_sh e2_40; have o3 := gz_sh e8_40; have o4 := gz_sh e9_40; have o5 := gz_sh hv3_26_40; have o6 := gz_sh hv8_40; omega) | (simp only [gz_hd] at *; omega))) p67 q67 (gr_OR_at e0_40 (by (/-45-/first | omega | (simp only [gz_hd] at *; omega))) (by (/-46-/first | (have o1 := gz_sh e5_40; omega) | (simp only [gz_hd] at *; omega))) (by (/-47-/first | (have o1 := gz_sh e1_40; omega) | (simp only [gz_hd] at *; omega))) (by (/-48-/first | (have o1 := gz_sh e1_40; have o2 := gz_sh e2_40; have o3 := gz_sh e8_40; have o4 := gz_sh e9_40; have o5 := gz_sh hv5_26_40; omega) | (simp only [gz_hd] at *; omega)))))
                      refine gv_run 2 true hD (pcₚ := 135) (lvₚ := [(0, .inr (.inr (some 0))), (2, .inl v2_19), (3, .inl v3_26), (4, .inl v4_26), (5, .inl v5_26), (6, .inl v6_33)]) (stₚ := [.inl v4_26, .inl v6_33]) (hₚ := gr_h I31 J32) (C := ((True ∧ True) ∧ True)) rfl ⟨⟨trivial, trivial⟩, trivial⟩ ?_
                      refine gv_icmp_ge (t := 229) hD rfl rfl ⟨⟨by (/-49-/first | (have o1 := gz_sh hv6_33; omega) | (simp only [gz_hd] at *; omega)), by (/-50-/first | (have o1 := gz_sh hv6_33; omega) | (simp only [gz_hd] at *; omega))⟩, ⟨by (/-51-/first | (have o1 := gz_sh hv4_26_33; omega) | (simp only [gz_hd] at *; omega)), by (/-52-/first | (have o1 := gz_sh hv4_26_33; omega) | (simp only [gz_hd] at *; omega))⟩⟩ (fun c77 => ?_) (fun c77 => ?_)
                      · have f78 := gz_hi (gw_div (x := v5_26) (y := 2) ⟨by (/-53-/first | (have o1 := gz_sh hv5_26_33; omega) | (simp only [gz_hd] at *; omega)), by (/-54-/first | (have o1 := gz_sh hv5_26_33; omega) | (simp only [gz_hd] at *; omega))⟩ ⟨by (/-55-/first | omega | (simp only [gz_hd] at *; omega)), by (/-56-/first | omega | (simp only [gz_hd] at *; omega))⟩)
                        refine gv_run 5 true hD (pcₚ := 122) (lvₚ := [(5, .inl ((Int32.ofInt v5_26 / Int32.ofInt 2).toInt)), (0, .inr (.inr (some 0))), (2, .inl v2_19), (3, .inl v3_26), (4, .inl v4_26), (6, .inl v6_33)]) (stₚ := []) (hₚ := gr_h I31 J32) (C := (((((True ∧ True) ∧ True) ∧ (gz_R 2 ∧ ¬ 2 = 0)) ∧ True) ∧ True)) rfl ⟨⟨⟨⟨⟨trivial, trivial⟩, trivial⟩, ⟨⟨by (/-57-/first | omega | (simp only [gz_hd] at *; omega)), by (/-58-/first | omega | (simp only [gz_hd] at *; omega))⟩, by (/-59-/first | omega | (simp only [gz_hd] at *; omega))⟩⟩, trivial⟩, trivial⟩ ?_
                        refine gv_pick [1, 2, 3, 4, 0] rfl ?_
                        exact ih122 I31 J32 v3_26 v4_26 (((Int32.ofInt v5_26 / Int32.ofInt 2).toInt)) (by (/-60-/first | (have o1 := gz_sh e7_33; have o2 := gz_sh f78; have o3 := gz_sh hv5_26_33; have o4 := gz_sh hv6_33; omega) | (simp only [gz_hd] at *; omega))) hI31 FI31 FJ32 (by (/-61-/first | (and_intros; (omega); (have o1 := gz_sh hv2_19_33; omega); (have o1 := gz_sh hv3_26_33; omega); (have o1 := gz_sh hv3_26_33; omega); (have o1 := gz_sh hv4_26_33; omega); (have o1 := gz_sh hv4_26_33; omega); (have o1 := gz_sh e1_33; have o2 := gz_sh e2_33; have o3 := gz_sh e4_33; have o4 := gz_sh e5_33; have o5 := gz_sh e7_33; have o6 := gz_sh f78; have o7 := gz_sh hv2_19_33; have o8 := gz_sh hv3_26_33; have o9 := gz_sh hv4_26_33; have o10 := gz_sh hv5_26_33; have o11 := gz_sh hv6_33; omega); (have o1 := gz_sh e1_33; have o2 := gz_sh e2_33; have o3 := gz_sh e4_33; have o4 := gz_sh e5_33; have o5 := gz_sh e7_33; have o6 := gz_sh f78; have o7 := gz_sh hv2_19_33; have o8 := gz_sh hv3_26_33; have o9 := gz_sh hv4_26_33; have o10 := gz_sh hv5_26_33; have o11 := gz_sh hv6_33; omega); (have o1 := gz_sh e1_33; omega); (have o1 := gz_sh e2_33; omega); (have o1 := gz_sh hv3_26_33; omega); (have o1 := gz_sh e4_33; omega); (have o1 := gz_sh e5_33; omega)) | (simp only [gz_hd] at *; omega))) e0_33
                      · have f79 := gz_hi ((gr_b_99 hI31 (Int.toNat ((v3_26 + v6_33)))))
                        refine gv_run 6 true hD (pcₚ := 147) (lvₚ := [(0, .inr (.inr (some 0))), (2, .inl v2_19), (3, .inl v3_26), (4, .inl v4_26), (5, .inl v5_26), (6, .inl v6_33)]) (stₚ := [.inl (I31 99 (Int.toNat ((v3_26 + v6_33))))]) (hₚ := gr_h I31 J32) (C := ((((((True ∧ True) ∧ True) ∧ True) ∧ True) ∧ True) ∧ (0 ≤ (v3_26 + v6_33) ∧ (v3_26 + v6_33) < ((9000 : Nat) : Int)))) rfl ⟨⟨⟨⟨⟨⟨trivial, trivial⟩, trivial⟩, trivial⟩, trivial⟩, trivial⟩, ⟨by (/-62-/first | (have o1 := gz_sh hv3_26_33; have o2 := gz_sh hv6_33; omega) | (simp only [gz_hd] at *; omega)), by (/-63-/first | (have o1 := gz_sh e4_33; omega) | (simp only [gz_hd] at *; omega))⟩⟩ ?_
                        have t80 := gz_hi (gr_OR_at e0_33 (x := v2_19) (i := (v3_26 + v6_33)) (by (/-64-/first | omega | (simp only [gz_hd] at *; omega))) (by (/-65-/first | (have o1 := gz_sh e5_33; omega) | (simp only [gz_hd] at *; omega))) (by (/-66-/first | (have o1 := gz_sh e1_33; have o2 := gz_sh hv6_33; omega) | (simp only [gz_hd] at *; omega))) (by (/-67-/first | (have o1 := gz_sh e1_33; have o2 := gz_sh e2_33; omega) | (simp only [gz_hd] at *; omega))))
                        refine gv_run 3 true hD (pcₚ := 153) (lvₚ := [(8, .inl v6_33), (7, .inl (I31 99 (Int.toNat ((v3_26 + v6_33))))), (0, .inr (.inr (some 0))), (2, .inl v2_19), (3, .inl v3_26), (4, .inl v4_26), (5, .inl v5_26), (6, .inl v6_33)]) (stₚ := []) (hₚ := gr_h I31 J32) (C := (((True ∧ True) ∧ True) ∧ True)) rfl ⟨⟨⟨trivial, trivial⟩, trivial⟩, trivial⟩ ?_
                        refine gv_pick [2, 3, 4, 5, 6, 7, 1, 0] rfl ?_
                        exact L153 _ I31 J32 ((I31 99 (Int.toNat ((v3_26 + v6_33))))) v6_33 (Nat.lt_succ_self _) hI31 FI31 FJ32 (by (/-68-/first | (and_intros; (omega); (have o1 := gz_sh hv2_19_33; omega); (have o1 := gz_sh hv3_26_33; omega); (have o1 := gz_sh hv3_26_33; omega); (have o1 := gz_sh hv6_33; omega); (have o1 := gz_sh hv4_26_33; omega); (have o1 := gz_sh hv5_26_33; omega); (have o1 := gz_sh hv5_26_33; omega); (have o1 := gz_sh hv6_33; omega); (have o1 := gz_sh hv4_26_33; omega); (have o1 := gz_sh f79; omega); (have o1 := gz_sh f79; omega); (have o1 := gz_sh hv6_33; omega); (have o1 := gz_sh hv4_26_33; omega); (have o1 := gz_sh e1_33; omega); (have o1 := gz_sh e2_33; omega); (have o1 := gz_sh hv3_26_33; omega); (have o1 := gz_sh e4_33; omega); (have o1 := gz_sh e5_33; omega); (have o1 := gz_sh hv5_26_33; omega); (have o1 := gz_sh e7_33; omega); (omega); (omega); (have o1 := gz_sh t80; omega); (have o1 := gz_sh t80; omega)) | (simp only [gz_hd] at *; omega))) e0_33
                  refine gv_run 1 true hD (pcₚ := 124) (lvₚ := [(0, .inr (.inr (some 0))), (2, .inl v2_19), (3, .inl v3_26), (4, .inl v4_26), (5, .inl v5_26)]) (stₚ := [.inl v5_26]) (hₚ := gr_h I24 J25) (C := (True ∧ True)) rfl ⟨trivial, trivial⟩ ?_
                  refine gv_if_le (t := 238) hD rfl rfl ⟨by (/-69-/first | (have o1 := gz_sh hv5_26; omega) | (simp only [gz_hd] at *; omega)), by (/-70-/first | (have o1 := gz_sh hv5_26; omega) | (simp only [gz_hd] at *; omega))⟩ (fun c81 => ?_) (fun c81 => ?_)
                  · refine gv_run 2 true hD (pcₚ := 93) (lvₚ := [(2, .inl (v2_19 + 1)), (0, .inr (.inr (some 0))), (3, .inl v3_26), (4, .inl v4_26), (5, .inl v5_26)]) (stₚ := []) (hₚ := gr_h I24 J25) (C := ((True ∧ True) ∧ True)) rfl ⟨⟨trivial, trivial⟩, trivial⟩ ?_
                    refine gv_pick [1, 0] rfl ?_
                    exact ih93 I24 J25 (v2_19 + 1) (by (/-71-/first | (have o1 := gz_sh hv2_19_26; have o2 := gz_sh hv5_26; omega) | (simp only [gz_hd] at *; omega))) hI24 FI24 FJ25 (by (/-72-/first | (and_intros; (omega); (have o1 := gz_sh hv2_19_26; omega)) | (simp only [gz_hd] at *; omega))) e0_26
                  · refine gv_run 2 true hD (pcₚ := 131) (lvₚ := [(6, .inl v5_26), (0, .inr (.inr (some 0))), (2, .inl v2_19), (3, .inl v3_26), (4, .inl v4_26), (5, .inl v5_26)]) (stₚ := []) (hₚ := gr_h I24 J25) (C := ((True ∧ True) ∧ True)) rfl ⟨⟨trivial, trivial⟩, trivial⟩ ?_
                    refine gv_pick [1, 2, 3, 4, 5, 0] rfl ?_
                    exact L131 _ I24 J25 v5_26 (Nat.lt_succ_self _) hI24 FI24 FJ25 (by (/-73-/first | (and_intros; (omega); (have o1 := gz_sh hv2_19_26; omega); (have o1 := gz_sh hv3_26; omega); (have o1 := gz_sh hv3_26; omega); (have o1 := gz_sh hv4_26; omega); (have o1 := gz_sh hv4_26; omega); (omega); (have o1 := gz_sh hv5_26; omega); (omega); (have o1 := gz_sh hv5_26; omega); (have o1 := gz_sh e1_26; omega); (have o1 := gz_sh e2_26; omega); (have o1 := gz_sh hv3_26; omega); (have o1 := gz_sh e4_26; omega); (have o1 := gz_sh e5_26; omega); (omega); (omega)) | (simp only [gz_hd] at *; omega))) e0_26
              refine gv_run 3 true hD (pcₚ := 98) (lvₚ := [(0, .inr (.inr (some 0))), (2, .inl v2_19)]) (stₚ := [.inl (I17 0 157), .inl v2_19]) (hₚ := gr_h I17 J18) (C := (((True ∧ True) ∧ True) ∧ True)) rfl ⟨⟨⟨trivial, trivial⟩, trivial⟩, trivial⟩ ?_
              refine gv_icmp_ge (t := 244) hD rfl rfl ⟨⟨by (/-74-/first | omega | (simp only [gz_hd] at *; omega)), by (/-75-/first | omega | (simp only [gz_hd] at *; omega))⟩, ⟨by (/-76-/first | (have o1 := gz_sh f20; omega) | (simp only [gz_hd] at *; omega)), by (/-77-/first | (have o1 := gz_sh f20; omega) | (simp only [gz_hd] at *; omega))⟩⟩ (fun c83 => ?_) (fun c83 => ?_)
              · exact gv_vret hD rfl ⟨I17, J18, rfl, hI17, FI17, FJ18, ⟨rfl, e0_19⟩⟩
              · have t84 := gz_hi (gr_OR_b e0_19 (x := v2_19) (by (/-78-/first | omega | (simp only [gz_hd] at *; omega))) (by (/-79-/first | omega | (simp only [gz_hd] at *; omega))))
                have f85 := gz_hi ((gr_b_91 hI17 (Int.toNat v2_19)))
                refine gv_run 4 true hD (pcₚ := 107) (lvₚ := [(0, .inr (.inr (some 0))), (2, .inl v2_19)]) (stₚ := [.inl (I17 91 (Int.toNat v2_19))]) (hₚ := gr_h I17 J18) (C := ((((True ∧ True) ∧ True) ∧ True) ∧ (0 ≤ v2_19 ∧ v2_19 < ((3001 : Nat) : Int)))) rfl ⟨⟨⟨⟨trivial, trivial⟩, trivial⟩, trivial⟩, ⟨by (/-80-/first | omega | (simp only [gz_hd] at *; omega)), by (/-81-/first | omega | (simp only [gz_hd] at *; omega))⟩⟩ ?_
                have f86 := gz_hi ((gr_b_92 hI17 (Int.toNat v2_19)))
                refine gv_run 5 true hD (pcₚ := 114) (lvₚ := [(3, .inl (I17 91 (Int.toNat v2_19))), (0, .inr (.inr (some 0))), (2, .inl v2_19)]) (stₚ := [.inl (I17 92 (Int.toNat v2_19))]) (hₚ := gr_h I17 J18) (C := (((((True ∧ True) ∧ True) ∧ True) ∧ True) ∧ (0 ≤ v2_19 ∧ v2_19 < ((3000 : Nat) : Int)))) rfl ⟨⟨⟨⟨⟨trivial, trivial⟩, trivial⟩, trivial⟩, trivial⟩, ⟨by (/-82-/first | omega | (simp only [gz_hd] at *; omega)), by (/-83-/first | (have o1 := gz_sh f20; omega) | (simp only [gz_hd] at *; omega))⟩⟩ ?_
                have f87 := gz_hi (gw_div (x := ((I17 92 (Int.toNat v2_19)))) (y := 2) ⟨by (/-84-/first | (have o1 := gz_sh t84; omega) | (simp only [gz_hd] at *; omega)), by (/-85-/first | (have o1 := gz_sh f86; omega) | (simp only [gz_hd] at *; omega))⟩ ⟨by (/-86-/first | omega | (simp only [gz_hd] at *; omega)), by (/-87-/first | omega | (simp only [gz_hd] at *; omega))⟩)
                refine gv_run 5 true hD (pcₚ := 122) (lvₚ := [(5, .inl ((Int32.ofInt ((I17 92 (Int.toNat v2_19))) / Int32.ofInt 2).toInt)), (4, .inl (I17 92 (Int.toNat v2_19))), (3, .inl (I17 91 (Int.toNat v2_19))), (0, .inr (.inr (some 0))), (2, .inl v2_19)]) (stₚ := []) (hₚ := gr_h I17 J18) (C := (((((True ∧ True) ∧ True) ∧ True) ∧ (gz_R 2 ∧ ¬ 2 = 0)) ∧ True)) rfl ⟨⟨⟨⟨⟨trivial, trivial⟩, trivial⟩, trivial⟩, ⟨⟨by (/-88-/first | omega | (simp only [gz_hd] at *; omega)), by (/-89-/first | omega | (simp only [gz_hd] at *; omega))⟩, by (/-90-/first | omega | (simp only [gz_hd] at *; omega))⟩⟩, trivial⟩ ?_
                refine gv_pick [3, 4, 2, 1, 0] rfl ?_
                exact L122 _ I17 J18 ((I17 91 (Int.toNat v2_19))) ((I17 92 (Int.toNat v2_19))) (((Int32.ofInt ((I17 92 (Int.toNat v2_19))) / Int32.ofInt 2).toInt)) (Nat.lt_succ_self _) hI17 FI17 FJ18 (by (/-91-/first | (and_intros; (omega); (have o1 := gz_sh f20; omega); (have o1 := gz_sh t84; omega); (have o1 := gz_sh f85; omega); (have o1 := gz_sh t84; omega); (have o1 := gz_sh f86; omega); (have o1 := gz_sh f20; have o2 := gz_sh f21; have o3 := gz_sh f85; have o4 := gz_sh f86; have o5 := gz_sh f87; have o6 := gz_sh t84; omega); (have o1 := gz_sh f20; have o2 := gz_sh f21; have o3 := gz_sh f85; have o4 := gz_sh f86; have o5 := gz_sh f87; have o6 := gz_sh t84; omega); (omega); (omega); (have o1 := gz_sh t84; omega); (have o1 := gz_sh f21; have o2 := gz_sh t84; omega); (omega)) | (simp only [gz_hd] at *; omega))) e0_19
          refine gv_run 3 true hD (pcₚ := 48) (lvₚ := [(0, .inr (.inr (some 0))), (2, .inl v2_12)]) (stₚ := [.inl (I10 0 158), .inl v2_12]) (hₚ := gr_h I10 J11) (C := (((True ∧ True) ∧ True) ∧ True)) rfl ⟨⟨⟨trivial, trivial⟩, trivial⟩, trivial⟩ ?_
          refine gv_icmp_ge (t := 91) hD rfl rfl ⟨⟨by (/-92-/first | (have o1 := gz_sh hv2_12; omega) | (simp only [gz_hd] at *; omega)), by (/-93-/first | (have o1 := gz_sh hv2_12; omega) | (simp only [gz_hd] at *; omega))⟩, ⟨by (/-94-/first | (have o1 := gz_sh f14; omega) | (simp only [gz_hd] at *; omega)), by (/-95-/first | (have o1 := gz_sh f14; omega) | (simp only [gz_hd] at *; omega))⟩⟩ (fun c89 => ?_) (fun c89 => ?_)
          · refine gv_run 2 true hD (pcₚ := 93) (lvₚ := [(2, .inl 0), (0, .inr (.inr (some 0)))]) (stₚ := []) (hₚ := gr_h I10 J11) (C := ((True ∧ True) ∧ True)) rfl ⟨⟨trivial, trivial⟩, trivial⟩ ?_
            refine gv_pick [1, 0] rfl ?_
            exact L93 _ I10 J11 0 (Nat.lt_succ_self _) hI10 FI10 FJ11 (by (/-96-/first | (and_intros <;> omega) | (simp only [gz_hd] at *; omega))) (gr_OR_in e0_12 hI10 x0 (by (/-97-/first | (have o1 := gz_sh e1_12; have o2 := gz_sh t16; omega) | (simp only [gz_hd] at *; omega))) (by (/-98-/first | (have o1 := gz_sh f14; have o2 := gz_sh t16; omega) | (simp only [gz_hd] at *; omega))) (fun k => FI10 94 k rfl) (FI10 0 157 rfl) (FI10 0 158 rfl))
          · have t90 := gz_hi (gr_O2_b e0_12 x0 (by (/-99-/first | (have o1 := gz_sh hv2_12; omega) | (simp only [gz_hd] at *; omega))) (by (/-100-/first | (have o1 := gz_sh t16; omega) | (simp only [gz_hd] at *; omega))))
            have t91 := gz_hi ((show I10 94 (Int.toNat v2_12) = I 94 (Int.toNat v2_12) from FI10 94 _ rfl))
            have t92 := gz_hi (x0.1 (Int.toNat v2_12) (by (/-101-/first | (have o1 := gz_sh t16; have o2 := gz_sh t90; omega) | (simp only [gz_hd] at *; omega))))
            have t93 := gz_hi ((show I10 91 (Int.toNat (I10 94 (Int.toNat v2_12))) = I10 91 (Int.toNat (I 94 (Int.toNat v2_12))) from by rw [FI10 94 _ rfl]))
            have t94 := gz_hi ((show I10 92 (Int.toNat (I10 94 (Int.toNat v2_12))) = I10 92 (Int.toNat (I 94 (Int.toNat v2_12))) from by rw [FI10 94 _ rfl]))
            refine gv_run 7 true hD (pcₚ := 64) (lvₚ := [(0, .inr (.inr (some 0))), (2, .inl v2_12)]) (stₚ := [.inl v2_12, .inr (.inr (some 94)), .inr (.inr (some 91)), .inr (.inr (some 99))]) (hₚ := gr_h I10 J11) (C := (((((((True ∧ True) ∧ True) ∧ True) ∧ True) ∧ True) ∧ True) ∧ True)) rfl ⟨⟨⟨⟨⟨⟨⟨trivial, trivial⟩, trivial⟩, trivial⟩, trivial⟩, trivial⟩, trivial⟩, trivial⟩ ?_
            have f95 := gz_hi ((gr_b_94 hI10 (Int.toNat v2_12)))
            refine gv_run 1 true hD (pcₚ := 65) (lvₚ := [(0, .inr (.inr (some 0))), (2, .inl v2_12)]) (stₚ := [.inl (I10 94 (Int.toNat v2_12)), .inr (.inr (some 91)), .inr (.inr (some 99))]) (hₚ := gr_h I10 J11) (C := (True ∧ (0 ≤ v2_12 ∧ v2_12 < ((9000 : Nat) : Int)))) rfl ⟨trivial, ⟨by (/-102-/first | (have o1 := gz_sh hv2_12; omega) | (simp only [gz_hd] at *; omega)), by (/-103-/first | (have o1 := gz_sh f14; omega) | (simp only [gz_hd] at *; omega))⟩⟩ ?_
            have f96 := gz_hi ((gr_b_91 hI10 (Int.toNat ((I10 94 (Int.toNat v2_12))))))
            refine gv_run 1 true hD (pcₚ := 66) (lvₚ := [(0, .inr (.inr (some 0))), (2, .inl v2_12)]) (stₚ := [.inl (I10 91 (Int.toNat ((I10 94 (Int.toNat v2_12))))), .inr (.inr (some 99))]) (hₚ := gr_h I10 J11) (C := (True ∧ (0 ≤ ((I10 94 (Int.toNat v2_12))) ∧ ((I10 94 (Int.toNat v2_12))) < ((3001 : Nat) : Int)))) rfl ⟨trivial, ⟨by (/-104-/first | (have o1 := gz_sh f95; omega) | (simp only [gz_hd] at *; omega)), by (/-105-/first | (have o1 := gz_sh f95; omega) | (simp only [gz_hd] at *; omega))⟩⟩ ?_
            refine gv_run 6 true hD (pcₚ := 76) (lvₚ := [(0, .inr (.inr (some 0))), (2, .inl v2_12)]) (stₚ := [.inl (I10 94 (Int.toNat v2_12)), .inr (.inr (some 92)), .inl (I10 91 (Int.toNat ((I10 94 (Int.toNat v2_12))))), .inr (.inr (some 99))]) (hₚ := gr_h I10 J11) (C := ((((((True ∧ True) ∧ True) ∧ True) ∧ True) ∧ True) ∧ (0 ≤ v2_12 ∧ v2_12 < ((9000 : Nat) : Int)))) rfl ⟨⟨⟨⟨⟨⟨trivial, trivial⟩, trivial⟩, trivial⟩, trivial⟩, trivial⟩, ⟨by (/-106-/first | (have o1 := gz_sh hv2_12; omega) | (simp only [gz_hd] at *; omega)), by (/-107-/first | (have o1 := gz_sh f14; omega) | (simp only [gz_hd] at *; omega))⟩⟩ ?_
            have f98 := gz_hi ((gr_b_92 hI10 (Int.toNat ((I10 94 (Int.toNat v2_12))))))
            refine gv_run 2 true hD (pcₚ := 78) (lvₚ := [(0, .inr (.inr (some 0))), (2, .inl v2_12)]) (stₚ := [.inl (I10 92 (Int.toNat ((I10 94 (Int.toNat v2_12))))), .inl (I10 94 (Int.toNat v2_12)), .inr (.inr (some 92)), .inl (I10 91 (Int.toNat ((I10 94 (Int.toNat v2_12))))), .inr (.inr (some 99))]) (hₚ := gr_h I10 J11) (C := ((True ∧ True) ∧ (0 ≤ ((I10 94 (Int.toNat v2_12))) ∧ ((I10 94 (Int.toNat v2_12))) < ((3000 : Nat) : Int)))) rfl ⟨⟨trivial, trivial⟩, ⟨by (/-108-/first | (have o1 := gz_sh f95; omega) | (simp only [gz_hd] at *; omega)), by (/-109-/first | (have o1 := gz_sh f95; omega) | (simp only [gz_hd] at *; omega))⟩⟩ ?_
            refine gv_run 3 true hD (pcₚ := 81) (lvₚ := [(0, .inr (.inr (some 0))), (2, .inl v2_12)]) (stₚ := [.inl ((I10 92 (Int.toNat ((I10 94 (Int.toNat v2_12))))) + 1), .inl (I10 94 (Int.toNat v2_12)), .inr (.inr (some 92)), .inl (I10 92 (Int.toNat ((I10 94 (Int.toNat v2_12))))), .inl (I10 91 (Int.toNat ((I10 94 (Int.toNat v2_12))))), .inr (.inr (some 99))]) (hₚ := gr_h I10 J11) (C := (((True ∧ True) ∧ True) ∧ True)) rfl ⟨⟨⟨trivial, trivial⟩, trivial⟩, trivial⟩ ?_
            refine gv_run 1 true hD (pcₚ := 82) (lvₚ := [(0, .inr (.inr (some 0))), (2, .inl v2_12)]) (stₚ := [.inl (I10 92 (Int.toNat ((I10 94 (Int.toNat v2_12))))), .inl (I10 91 (Int.toNat ((I10 94 (Int.toNat v2_12))))), .inr (.inr (some 99))]) (hₚ := gz_up (gr_h I10 J11) 92 (Int.toNat ((I10 94 (Int.toNat v2_12)))) (.inl (((I10 92 (Int.toNat ((I10 94 (Int.toNat v2_12))))) + 1)))) (C := (True ∧ (0 ≤ ((I10 94 (Int.toNat v2_12))) ∧ ((I10 94 (Int.toNat v2_12))) < ((3000 : Nat) : Int)))) rfl ⟨trivial, ⟨by (/-110-/first | (have o1 := gz_sh f95; omega) | (simp only [gz_hd] at *; omega)), by (/-111-/first | (have o1 := gz_sh f95; omega) | (simp only [gz_hd] at *; omega))⟩⟩ ?_
            refine gr_st hI10 FI10 rfl rfl ⟨⟨by show 0 ≤ _; (/-112-/first | (have o1 := gz_sh f98; omega) | (simp only [gz_hd] at *; omega)), by show _ ≤ 9000; (/-113-/first | (have o1 := gz_sh f14; have o2 := gz_sh t16; have o3 := gz_sh t90; have o4 := gz_sh t94; omega) | (simp only [gz_hd] at *; omega))⟩, trivial⟩ (fun I99 hI99 FI99 q100 p100 => ?_)
            have t102 := gz_hi (p100 0 158 (fun q => absurd q.1 (by first | exact gz_ne rfl | decide)))
            refine gv_run 3 true hD (pcₚ := 85) (lvₚ := [(0, .inr (.inr (some 0))), (2, .inl v2_12)]) (stₚ := []) (hₚ := gz_up (gr_h I99 J11) 99 (Int.toNat (((I10 91 (Int.toNat ((I10 94 (Int.toNat v2_12))))) + (I10 92 (Int.toNat ((I10 94 (Int.toNat v2_12)))))))) (.inl v2_12)) (C := (((True ∧ True) ∧ True) ∧ (0 ≤ (((I10 91 (Int.toNat ((I10 94 (Int.toNat v2_12))))) + (I10 92 (Int.toNat ((I10 94 (Int.toNat v2_12))))))) ∧ (((I10 91 (Int.toNat ((I10 94 (Int.toNat v2_12))))) + (I10 92 (Int.toNat ((I10 94 (Int.toNat v2_12))))))) < ((9000 : Nat) : Int)))) rfl ⟨⟨⟨trivial, trivial⟩, trivial⟩, ⟨by (/-114-/first | (have o1 := gz_sh f96; have o2 := gz_sh f98; omega) | (simp only [gz_hd] at *; omega)), by (/-115-/first | (have o1 := gz_sh f14; have o2 := gz_sh t16; have o3 := gz_sh t90; have o4 := gz_sh t93; have o5 := gz_sh t94; omega) | (simp only [gz_hd] at *; omega))⟩⟩ ?_
            refine gr_st hI99 FI99 rfl rfl ⟨⟨by show 0 ≤ _; (/-116-/first | (have o1 := gz_sh hv2_12; omega) | (simp only [gz_hd] at *; omega)), by show _ ≤ 8999; (/-117-/first | (have o1 := gz_sh f14; omega) | (simp only [gz_hd] at *; omega))⟩, trivial⟩ (fun I108 hI108 FI108 q109 p109 => ?_)
            have t111 := gz_hi (p109 0 158 (fun q => absurd q.1 (by first | exact gz_ne rfl | decide)))
            refine gv_run 2 true hD (pcₚ := 43) (lvₚ := [(2, .inl (v2_12 + 1)), (0, .inr (.inr (some 0)))]) (stₚ := []) (hₚ := gr_h I108 J11) (C := ((True ∧ True) ∧ True)) rfl ⟨⟨trivial, trivial⟩, trivial⟩ ?_
            refine gv_pick [1, 0] rfl ?_
            exact ih43 I108 J11 (v2_12 + 1) (by (/-118-/first | (have o1 := gz_sh f14; have o2 := gz_sh hv2_12; have o3 := gz_sh t102; have o4 := gz_sh t111; omega) | (simp only [gz_hd] at *; omega))) hI108 FI108 FJ11 (by (/-119-/first | (and_intros; (have o1 := gz_sh hv2_12; omega); (have o1 := gz_sh f14; omega); (have o1 := gz_sh t102; have o2 := gz_sh t111; omega)) | (simp only [gz_hd] at *; omega))) (gr_O2_nx (x := (Int.toNat ((I10 94 (Int.toNat v2_12))))) (i0 := (Int.toNat (((I10 91 (Int.toNat ((I10 94 (Int.toNat v2_12))))) + (I10 92 (Int.toNat ((I10 94 (Int.toNat v2_12))))))))) e0_12 x0 (by (/-120-/first | (have o1 := gz_sh hv2_12; omega) | (simp only [gz_hd] at *; omega))) (by (/-121-/first | (have o1 := gz_sh t16; omega) | (simp only [gz_hd] at *; omega))) (by (/-122-/first | (have o1 := gz_sh t91; have o2 := gz_sh t92; omega) | (simp only [gz_hd] at *; omega))) p100 (by (/-123-/first | omega | (simp only [gz_hd] at *; omega))) (by (/-124-/first | (have o1 := gz_sh f96; have o2 := gz_sh f98; omega) | (simp only [gz_hd] at *; omega))) p109 q109)
      refine gv_run 3 true hD (pcₚ := 9) (lvₚ := [(0, .inr (.inr (some 0))), (1, .inl v1_5), (2, .inl v2_5)]) (stₚ := [.inl (I3 0 157), .inl v2_5]) (hₚ := gr_h I3 J4) (C := (((True ∧ True) ∧ True) ∧ True)) rfl ⟨⟨⟨trivial, trivial⟩, trivial⟩, trivial⟩ ?_
      refine gv_icmp_ge (t := 41) hD rfl rfl ⟨⟨by (/-125-/first | (have o1 := gz_sh hv2_5; omega) | (simp only [gz_hd] at *; omega)), by (/-126-/first | (have o1 := gz_sh hv2_5; omega) | (simp only [gz_hd] at *; omega))⟩, ⟨by (/-127-/first | (have o1 := gz_sh f1; have o2 := gz_sh t8; omega) | (simp only [gz_hd] at *; omega)), by (/-128-/first | (have o1 := gz_sh f1; have o2 := gz_sh t8; omega) | (simp only [gz_hd] at *; omega))⟩⟩ (fun c119 => ?_) (fun c119 => ?_)
      · refine gv_run 2 true hD (pcₚ := 43) (lvₚ := [(2, .inl 0), (0, .inr (.inr (some 0))), (1, .inl v1_5)]) (stₚ := []) (hₚ := gr_h I3 J4) (C := ((True ∧ True) ∧ True)) rfl ⟨⟨trivial, trivial⟩, trivial⟩ ?_
        refine gv_pick [1, 0] rfl ?_
        exact L43 _ I3 J4 0 (Nat.lt_succ_self _) hI3 FI3 FJ4 (by (/-129-/first | (and_intros; (omega); (omega); (have o1 := gz_sh f7; omega)) | (simp only [gz_hd] at *; omega))) (gr_O2_in e0_5 (by (/-130-/first | (have o1 := gz_sh t8; omega) | (simp only [gz_hd] at *; omega))))
      · have t120 := gz_hi (gr_O1_b e0_5 (by (/-131-/first | (have o1 := gz_sh hv2_5; omega) | (simp only [gz_hd] at *; omega))) (by (/-132-/first | (have o1 := gz_sh t8; omega) | (simp only [gz_hd] at *; omega))) (by (/-133-/first | (have o1 := gz_sh f7; have o2 := gz_sh t9; omega) | (simp only [gz_hd] at *; omega))))
        refine gv_run 4 true hD (pcₚ := 18) (lvₚ := [(0, .inr (.inr (some 0))), (1, .inl v1_5), (2, .inl v2_5)]) (stₚ := [.inl v1_5, .inl v2_5, .inr (.inr (some 91))]) (hₚ := gr_h I3 J4) (C := ((((True ∧ True) ∧ True) ∧ True) ∧ True)) rfl ⟨⟨⟨⟨trivial, trivial⟩, trivial⟩, trivial⟩, trivial⟩ ?_
        refine gv_run 1 true hD (pcₚ := 19) (lvₚ := [(0, .inr (.inr (some 0))), (1, .inl v1_5), (2, .inl v2_5)]) (stₚ := []) (hₚ := gz_up (gr_h I3 J4) 91 (Int.toNat v2_5) (.inl v1_5)) (C := (True ∧ (0 ≤ v2_5 ∧ v2_5 < ((3001 : Nat) : Int)))) rfl ⟨trivial, ⟨by (/-134-/first | (have o1 := gz_sh hv2_5; omega) | (simp only [gz_hd] at *; omega)), by (/-135-/first | (have o1 := gz_sh hv2_5; omega) | (simp only [gz_hd] at *; omega))⟩⟩ ?_
        refine gr_st hI3 FI3 rfl rfl ⟨⟨by show 0 ≤ _; (/-136-/first | (have o1 := gz_sh hv1_5; omega) | (simp only [gz_hd] at *; omega)), by show _ ≤ 9000; (/-137-/first | (have o1 := gz_sh hv1_5; omega) | (simp only [gz_hd] at *; omega))⟩, trivial⟩ (fun I121 hI121 FI121 q122 p122 => ?_)
        have t123 := gz_hi (p122 0 157 (fun q => absurd q.1 (by first | exact gz_ne rfl | decide)))
        have t124 := gz_hi (p122 0 158 (fun q => absurd q.1 (by first | exact gz_ne rfl | decide)))
        have t125 := gz_hi (p122 92 (Int.toNat v2_5) (fun q => absurd q.1 (by first | exact gz_ne rfl | decide)))
        have f130 := gz_hi ((gr_b_92 hI121 (Int.toNat v2_5)))
        refine gv_run 5 true hD (pcₚ := 26) (lvₚ := [(0, .inr (.inr (some 0))), (1, .inl v1_5), (2, .inl v2_5)]) (stₚ := [.inl (I121 92 (Int.toNat v2_5)), .inl v1_5]) (hₚ := gr_h I121 J4) (C := (((((True ∧ True) ∧ True) ∧ True) ∧ True) ∧ (0 ≤ v2_5 ∧ v2_5 < ((3000 : Nat) : Int)))) rfl ⟨⟨⟨⟨⟨trivial, trivial⟩, trivial⟩, trivial⟩, trivial⟩, ⟨by (/-138-/first | (have o1 := gz_sh hv2_5; omega) | (simp only [gz_hd] at *; omega)), by (/-139-/first | (have o1 := gz_sh f1; have o2 := gz_sh t8; omega) | (simp only [gz_hd] at *; omega))⟩⟩ ?_
        refine gv_run 6 true hD (pcₚ := 34) (lvₚ := [(1, .inl (v1_5 + (I121 92 (Int.toNat v2_5)))), (0, .inr (.inr (some 0))), (2, .inl v2_5)]) (stₚ := [.inl 0, .inl v2_5, .inr (.inr (some 92))]) (hₚ := gr_h I121 J4) (C := ((((((True ∧ True) ∧ True) ∧ True) ∧ True) ∧ True) ∧ True)) rfl ⟨⟨⟨⟨⟨⟨trivial, trivial⟩, trivial⟩, trivial⟩, trivial⟩, trivial⟩, trivial⟩ ?_
        refine gv_run 1 true hD (pcₚ := 35) (lvₚ := [(1, .inl (v1_5 + (I121 92 (Int.toNat v2_5)))), (0, .inr (.inr (some 0))), (2, .inl v2_5)]) (stₚ := []) (hₚ := gz_up (gr_h I121 J4) 92 (Int.toNat v2_5) (.inl 0)) (C := (True ∧ (0 ≤ v2_5 ∧ v2_5 < ((3000 : Nat) : Int)))) rfl ⟨trivial, ⟨by (/-140-/first | (have o1 := gz_sh hv2_5; omega) | (simp only [gz_hd] at *; omega)), by (/-141-/first | (have o1 := gz_sh f1; have o2 := gz_sh t8; omega) | (simp only [gz_hd] at *; omega))⟩⟩ ?_
        refine gr_st hI121 FI121 rfl rfl ⟨⟨by show 0 ≤ _; (/-142-/first | omega | (simp only [gz_hd] at *; omega)), by show _ ≤ 9000; (/-143-/first | omega | (simp only [gz_hd] at *; omega))⟩, trivial⟩ (fun I131 hI131 FI131 q132 p132 => ?_)
        have t133 := gz_hi (p132 0 157 (fun q => absurd q.1 (by first | exact gz_ne rfl | decide)))
        have t134 := gz_hi (p132 0 158 (fun q => absurd q.1 (by first | exact gz_ne rfl | decide)))
        have t135 := gz_hi (p132 91 (Int.toNat v2_5) (fun q => absurd q.1 (by first | exact gz_ne rfl | decide)))
        refine gv_run 2 true hD (pcₚ := 4) (lvₚ := [(2, .inl (v2_5 + 1)), (1, .inl (v1_5 + (I121 92 (Int.toNat v2_5)))), (0, .inr (.inr (some 0)))]) (stₚ := []) (hₚ := gr_h I131 J4) (C := ((True ∧ True) ∧ True)) rfl ⟨⟨trivial, trivial⟩, trivial⟩ ?_
        refine gv_pick [2, 1, 0] rfl ?_
        exact ih4 I131 J4 ((v1_5 + (I121 92 (Int.toNat v2_5)))) (v2_5 + 1) (by (/-144-/first | (have o1 := gz_sh f1; have o2 := gz_sh hv2_5; have o3 := gz_sh t123; have o4 := gz_sh t133; have o5 := gz_sh t8; omega) | (simp only [gz_hd] at *; omega))) hI131 FI131 FJ4 (by (/-145-/first | (and_intros; (have o1 := gz_sh f130; have o2 := gz_sh hv1_5; omega); (have o1 := gz_sh f7; have o2 := gz_sh t120; have o3 := gz_sh t125; have o4 := gz_sh t9; omega); (have o1 := gz_sh hv2_5; omega); (have o1 := gz_sh f1; have o2 := gz_sh t8; omega)) | (simp only [gz_hd] at *; omega))) (gr_O1_nx e0_5 (by (/-146-/first | (have o1 := gz_sh hv2_5; omega) | (simp only [gz_hd] at *; omega))) (by (/-147-/first | (have o1 := gz_sh t8; omega) | (simp only [gz_hd] at *; omega))) p122 q122 p132 q132)
  refine gv_run 4 true hD (pcₚ := 4) (lvₚ := [(2, .inl 0), (1, .inl 0), (0, .inr (.inr (some 0)))]) (stₚ := []) (hₚ := gr_h I J) (C := ((((True ∧ True) ∧ True) ∧ True) ∧ True)) rfl ⟨⟨⟨⟨trivial, trivial⟩, trivial⟩, trivial⟩, trivial⟩ ?_
  refine gv_pick [2, 1, 0] rfl ?_
  exact L4 _ I J 0 0 (Nat.lt_succ_self _) hI FI FJ (by (/-148-/first | (and_intros <;> omega) | (simp only [gz_hd] at *; omega))) (gr_O1_in x0)
