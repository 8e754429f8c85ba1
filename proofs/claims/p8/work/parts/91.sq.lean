/-! WAYS ARE ORDERED. -/
def gr_sw (I : gr_I) : Nat → Nat → Int
  | 0, _ => 0
  | k + 1, m => gr_sw I k m + gr_cw I (k : Int) m
theorem gr_sw_0 (I : gr_I) : ∀ k : Nat, gr_sw I k 0 = 0
  | 0 => rfl
  | k + 1 => by
    show gr_sw I k 0 + gr_cw I (k : Int) 0 = 0
    rw [gr_sw_0 I k]
    rfl
set_option maxHeartbeats 8000000 in
theorem gr_sw_s (I : gr_I) (m : Nat) : ∀ k : Nat, gr_sw I k (m + 1) = gr_sw I k m + (if 0 ≤ I 94 m ∧ I 94 m < (k : Int) then 1 else 0)
  | 0 => by
    show (0 : Int) = 0 + _
    rw [if_neg (by exact gz_m 0 (by omega))]
    rfl
  | k + 1 => by
    show gr_sw I k (m + 1) + (gr_cw I (k : Int) m + (if I 94 m = (k : Int) then 1 else 0)) = gr_sw I k m + gr_cw I (k : Int) m + _
    rw [gr_sw_s I m k]
    by_cases c : I 94 m = (k : Int)
    · rw [if_pos c, if_neg (by exact gz_m 1 (by omega)), if_pos (by exact gz_m 2 (by omega))]
      exact gz_m 3 (by omega)
    · rw [if_neg c]
      by_cases d : 0 ≤ I 94 m ∧ I 94 m < (k : Int)
      · rw [if_pos d, if_pos (by exact gz_m 4 (by omega))]
        exact gz_m 5 (by omega)
      · rw [if_neg d, if_neg (by exact gz_m 6 (by omega))]
        exact gz_m 7 (by omega)
theorem gr_sw_b (I : gr_I) (k : Nat) : ∀ m : Nat, 0 ≤ gr_sw I k m ∧ gr_sw I k m ≤ (m : Int)
  | 0 => by rw [gr_sw_0]; exact ⟨Int.le_refl _, Int.le_refl _⟩
  | m + 1 => by
    have h9 := gr_sw_b I k m
    rw [gr_sw_s]
    split <;> omega
theorem gr_sw_le (I : gr_I) (m : Nat) {k : Nat} : ∀ l : Nat, k ≤ l → gr_sw I k m ≤ gr_sw I l m
  | 0, h => by
    have e : k = 0 := by exact gz_m 0 (by omega)
    rw [e]
    exact Int.le_refl _
  | l + 1, h => by
    by_cases e : k = l + 1
    · rw [e]
      exact Int.le_refl _
    · have h9 := gr_sw_le I m (k := k) l (by exact gz_m 1 (by omega))
      have h8 := gr_cw_b (I := I) (x := (l : Int)) m
      show gr_sw I k m ≤ gr_sw I l m + gr_cw I (l : Int) m
      exact gz_m 2 (by omega)
theorem gr_cw_le {I : gr_I} {x : Int} {k : Nat} : ∀ m : Nat, k ≤ m → gr_cw I x k ≤ gr_cw I x m
  | 0, h => by
    have e : k = 0 := by exact gz_m 0 (by omega)
    rw [e]
    exact Int.le_refl _
  | m + 1, h => by
    by_cases e : k = m + 1
    · rw [e]
      exact Int.le_refl _
    · have h9 := gr_cw_le (I := I) (x := x) (k := k) m (by exact gz_m 1 (by omega))
      show gr_cw I x k ≤ gr_cw I x m + (if I 94 m = x then 1 else 0)
      split <;> exact gz_m 2 (by omega)
def gr_O1 (I0 : gr_I) (k a : Int) (I : gr_I) : Prop := a = gr_sw I0 (Int.toNat k) (Int.toNat (I0 0 158)) ∧ (∀ j : Nat, (j : Int) < k → I 91 j = gr_sw I0 j (Int.toNat (I0 0 158)) ∧ I 92 j = 0) ∧ ∀ j : Nat, k ≤ (j : Int) → (j : Int) < I0 0 157 → I 92 j = gr_cw I0 (j : Int) (Int.toNat (I0 0 158))
theorem gr_O1_in {I0 : gr_I} (h : gr_FC I0) : gr_O1 I0 0 0 I0 := ⟨rfl, fun j hj => by omega, fun j _ hj => h.2 j hj⟩
set_option maxHeartbeats 8000000 in
theorem gr_O1_b {I0 I : gr_I} {k a : Int} (h : gr_O1 I0 k a I) (h0 : 0 ≤ k) (hk : k < I0 0 157) (hy : 0 ≤ I0 0 158) : 0 ≤ a ∧ 0 ≤ I 92 (Int.toNat k) ∧ a + I 92 (Int.toNat k) ≤ I0 0 158 := by
  have h1 := gr_sw_b I0 (Int.toNat k) (Int.toNat (I0 0 158))
  have h2 := gr_sw_b I0 (Int.toNat k + 1) (Int.toNat (I0 0 158))
  have h3 := gr_cw_b (I := I0) (x := ((Int.toNat k : Nat) : Int)) (Int.toNat (I0 0 158))
  have h4 := h.2.2 (Int.toNat k) (by exact gz_m 0 (by omega)) (by exact gz_m 1 (by omega))
  have h5 : gr_sw I0 (Int.toNat k + 1) (Int.toNat (I0 0 158)) = gr_sw I0 (Int.toNat k) (Int.toNat (I0 0 158)) + gr_cw I0 ((Int.toNat k : Nat) : Int) (Int.toNat (I0 0 158)) := rfl
  have h6 := h.1
  exact gz_m 2 (by omega)
theorem gr_O1_nx {I0 I I1 I' : gr_I} {k a : Int} (h : gr_O1 I0 k a I) (h0 : 0 ≤ k) (hk : k < I0 0 157) (p1 : ∀ b j, ¬ (b = 91 ∧ j = Int.toNat k) → I1 b j = I b j) (q1 : I1 91 (Int.toNat k) = a) (p2 : ∀ b j, ¬ (b = 92 ∧ j = Int.toNat k) → I' b j = I1 b j) (q2 : I' 92 (Int.toNat k) = 0) : gr_O1 I0 (k + 1) (a + I1 92 (Int.toNat k)) I' := by
  have e9 : Int.toNat (k + 1) = Int.toNat k + 1 := by exact gz_m 0 (by omega)
  have m9 := h.2.2 (Int.toNat k) (by exact gz_m 1 (by omega)) (by exact gz_m 2 (by omega))
  refine ⟨?_, fun j hj => ?_, fun j hj hn => ?_⟩
  · rw [e9, p1 _ _ (fun q => absurd q.1 (by decide)), m9]
    show a + _ = gr_sw I0 (Int.toNat k) _ + gr_cw I0 ((Int.toNat k : Nat) : Int) _
    rw [← h.1]
  · by_cases c : j = Int.toNat k
    · subst c
      rw [p2 _ _ (fun q => absurd q.1 (by decide)), q1]
      exact ⟨h.1, q2⟩
    · rw [p2 _ _ (fun q => absurd q.1 (by decide)), p1 _ _ (fun q => c q.2), p2 _ _ (fun q => c q.2), p1 _ _ (fun q => absurd q.1 (by decide))]
      exact h.2.1 j (by exact gz_m 3 (by omega))
  · rw [p2 _ _ (fun q => by have := q.2; exact gz_m 4 (by omega)), p1 _ _ (fun q => absurd q.1 (by decide))]
    exact h.2.2 j (by exact gz_m 5 (by omega)) hn
def gr_O2 (I0 : gr_I) (y : Int) (I : gr_I) : Prop := ∀ j : Nat, (j : Int) < I0 0 157 → (I 91 j = gr_sw I0 j (Int.toNat (I0 0 158)) ∧ I 92 j = gr_cw I0 (j : Int) (Int.toNat y)) ∧ ∀ i : Nat, I 91 j ≤ (i : Int) → (i : Int) < I 91 j + I 92 j → I 99 i < I0 0 158 ∧ I0 94 (Int.toNat (I 99 i)) = (j : Int)
theorem gr_O2_in {I0 I : gr_I} {k a : Int} (h : gr_O1 I0 k a I) (hk : I0 0 157 ≤ k) : gr_O2 I0 0 I := fun j hj => by
  have h9 := h.2.1 j (by omega)
  refine ⟨⟨h9.1, by rw [h9.2]; rfl⟩, fun i hi hi2 => ?_⟩
  rw [h9.2] at hi2
  omega
set_option maxHeartbeats 8000000 in
theorem gr_O2_b {I0 I : gr_I} {y : Int} (h : gr_O2 I0 y I) (hc : gr_FC I0) (h0 : 0 ≤ y) (hy : y < I0 0 158) : 0 ≤ I 91 (Int.toNat (I0 94 (Int.toNat y))) ∧ 0 ≤ I 92 (Int.toNat (I0 94 (Int.toNat y))) ∧ I 91 (Int.toNat (I0 94 (Int.toNat y))) + I 92 (Int.toNat (I0 94 (Int.toNat y))) < I0 0 158 := by
  have n9 := hc.1 (Int.toNat y) (by exact gz_m 0 (by omega))
  obtain ⟨⟨a1, a2⟩, _⟩ := h (Int.toNat (I0 94 (Int.toNat y))) (by exact gz_m 1 (by omega))
  have h1 := gr_sw_b I0 (Int.toNat (I0 94 (Int.toNat y))) (Int.toNat (I0 0 158))
  have h2 := gr_sw_b I0 (Int.toNat (I0 94 (Int.toNat y)) + 1) (Int.toNat (I0 0 158))
  have h3 := gr_cw_b (I := I0) (x := ((Int.toNat (I0 94 (Int.toNat y)) : Nat) : Int)) (Int.toNat y)
  have h4 := gr_cw_le (I := I0) (x := ((Int.toNat (I0 94 (Int.toNat y)) : Nat) : Int)) (k := Int.toNat y + 1) (Int.toNat (I0 0 158)) (by exact gz_m 2 (by omega))
  have h6 : gr_cw I0 ((Int.toNat (I0 94 (Int.toNat y)) : Nat) : Int) (Int.toNat y + 1) = gr_cw I0 ((Int.toNat (I0 94 (Int.toNat y)) : Nat) : Int) (Int.toNat y) + 1 := by
    show gr_cw I0 _ (Int.toNat y) + (if I0 94 (Int.toNat y) = _ then 1 else 0) = _
    rw [if_pos (by exact gz_m 3 (by omega))]
  have h5 : gr_sw I0 (Int.toNat (I0 94 (Int.toNat y)) + 1) (Int.toNat (I0 0 158)) = gr_sw I0 (Int.toNat (I0 94 (Int.toNat y))) (Int.toNat (I0 0 158)) + gr_cw I0 ((Int.toNat (I0 94 (Int.toNat y)) : Nat) : Int) (Int.toNat (I0 0 158)) := rfl
  exact gz_m 4 (by omega)
theorem gr_O2_nx {I0 I I1 I' : gr_I} {y : Int} {x i0 : Nat} (h : gr_O2 I0 y I) (hc : gr_FC I0) (h0 : 0 ≤ y) (hy : y < I0 0 158) (hx : (x : Int) = I0 94 (Int.toNat y)) (p1 : ∀ b j, ¬ (b = 92 ∧ j = x) → I1 b j = I b j) (q1 : I1 92 x = I 92 x + 1) (hi0 : (i0 : Int) = I 91 x + I 92 x) (p2 : ∀ b j, ¬ (b = 99 ∧ j = i0) → I' b j = I1 b j) (q2 : I' 99 i0 = y) : gr_O2 I0 (y + 1) I' := fun j hj => by
  have e9 : Int.toNat (y + 1) = Int.toNat y + 1 := by exact gz_m 0 (by omega)
  obtain ⟨⟨a1, a2⟩, a3⟩ := h j hj
  have n9 := hc.1 (Int.toNat y) (by exact gz_m 1 (by omega))
  obtain ⟨⟨b1, b2⟩, _⟩ := h x (by exact gz_m 2 (by omega))
  have r1 : I' 91 j = I 91 j := (p2 _ _ (fun q => absurd q.1 (by decide))).trans (p1 _ _ (fun q => absurd q.1 (by decide)))
  have seg : ∀ z : Nat, (z : Int) < I0 0 157 → gr_sw I0 z (Int.toNat (I0 0 158)) + gr_cw I0 (z : Int) (Int.toNat (I0 0 158)) = gr_sw I0 (z + 1) (Int.toNat (I0 0 158)) := fun z _ => rfl
  have cwl := fun z : Nat => gr_cw_le (I := I0) (x := (z : Int)) (k := Int.toNat y) (Int.toNat (I0 0 158)) (by exact gz_m 3 (by omega))
  have cwx : gr_cw I0 (x : Int) (Int.toNat y + 1) = gr_cw I0 (x : Int) (Int.toNat y) + 1 := by
    show gr_cw I0 _ (Int.toNat y) + (if I0 94 (Int.toNat y) = _ then 1 else 0) = _
    rw [if_pos (by exact gz_m 4 (by omega))]
  have cwl2 := gr_cw_le (I := I0) (x := (x : Int)) (k := Int.toNat y + 1) (Int.toNat (I0 0 158)) (by exact gz_m 5 (by omega))
  have cb := fun z : Nat => gr_cw_b (I := I0) (x := (z : Int)) (Int.toNat y)
  by_cases c : j = x
  · subst c
    have r2 : I' 92 j = I 92 j + 1 := (p2 _ _ (fun q => absurd q.1 (by decide))).trans q1
    refine ⟨⟨by rw [r1]; exact a1, by rw [r2, a2, e9, cwx]⟩, fun i hi hi2 => ?_⟩
    rw [r1] at hi hi2
    rw [r2] at hi2
    by_cases d : i = i0
    · rw [d, q2]
      exact ⟨hy, by exact gz_m 6 (by omega)⟩
    · rw [p2 _ _ (fun q => d q.2), p1 _ _ (fun q => absurd q.1 (by decide))]
      exact a3 i hi (by exact gz_m 7 (by omega))
  · have r2 : I' 92 j = I 92 j := (p2 _ _ (fun q => absurd q.1 (by decide))).trans (p1 _ _ (fun q => c q.2))
    have cwj : gr_cw I0 (j : Int) (Int.toNat y + 1) = gr_cw I0 (j : Int) (Int.toNat y) := by
      show gr_cw I0 _ (Int.toNat y) + (if I0 94 (Int.toNat y) = _ then 1 else 0) = _
      rw [if_neg (by exact gz_m 8 (by omega))]
      exact gz_m 9 (by omega)
    refine ⟨⟨by rw [r1]; exact a1, by rw [r2, a2, e9, cwj]⟩, fun i hi hi2 => ?_⟩
    rw [r1] at hi hi2
    rw [r2] at hi2
    have ne : ¬ i = i0 := fun e => by
      have s1 := seg j hj
      have s2 := seg x (by exact gz_m 10 (by omega))
      have c1 := cwl j
      by_cases l : j < x
      · have u := gr_sw_le I0 (Int.toNat (I0 0 158)) (k := j + 1) x (by exact gz_m 11 (by omega))
        have v := cb x
        exact gz_m 12 (by omega)
      · have u := gr_sw_le I0 (Int.toNat (I0 0 158)) (k := x + 1) j (by exact gz_m 13 (by omega))
        have v := cb j
        exact gz_m 14 (by omega)
    rw [p2 _ _ (fun q => ne q.2), p1 _ _ (fun q => absurd q.1 (by decide))]
    exact a3 i hi hi2
def gr_OR (I : gr_I) : Prop := ∀ j : Nat, (j : Int) < I 0 157 → (0 ≤ I 91 j ∧ 0 ≤ I 92 j ∧ I 91 j + I 92 j ≤ I 0 158) ∧ ∀ i : Nat, I 91 j ≤ (i : Int) → (i : Int) < I 91 j + I 92 j → (0 ≤ I 99 i ∧ I 99 i < I 0 158) ∧ I 94 (Int.toNat (I 99 i)) = (j : Int)
theorem gr_OR_in {I0 I : gr_I} {y : Int} (h : gr_O2 I0 y I) (hI : gr_Inv I) (hc : gr_FC I0) (hy : I0 0 158 = y) (h0 : 0 ≤ I0 0 158) (h1 : ∀ k, I 94 k = I0 94 k) (h2 : I 0 157 = I0 0 157) (h3 : I 0 158 = I0 0 158) : gr_OR I := fun j hj => by
  obtain ⟨⟨a1, a2⟩, a3⟩ := h j (by exact gz_m 0 (by omega))
  have u1 := gr_sw_b I0 j (Int.toNat (I0 0 158))
  have u2 := gr_sw_b I0 (j + 1) (Int.toNat (I0 0 158))
  have u3 := gr_cw_b (I := I0) (x := (j : Int)) (Int.toNat (I0 0 158))
  have u4 : gr_sw I0 (j + 1) (Int.toNat (I0 0 158)) = gr_sw I0 j (Int.toNat (I0 0 158)) + gr_cw I0 (j : Int) (Int.toNat (I0 0 158)) := rfl
  rw [← hy] at a2
  refine ⟨⟨by exact gz_m 1 (by omega), by exact gz_m 2 (by omega), by exact gz_m 3 (by omega)⟩, fun i hi hi2 => ?_⟩
  have a9 := a3 i hi hi2
  have z := (gr_b_99 hI i)
  rw [h1, h3]
  exact ⟨⟨z.1, a9.1⟩, a9.2⟩
set_option maxHeartbeats 8000000 in
theorem gr_OR_at {I : gr_I} (h : gr_OR I) {x i : Int} (h0 : 0 ≤ x) (hx : x < I 0 157) (hi0 : I 91 (Int.toNat x) ≤ i) (hi : i < I 91 (Int.toNat x) + I 92 (Int.toNat x)) : (0 ≤ I 99 (Int.toNat i) ∧ I 99 (Int.toNat i) < I 0 158) ∧ I 94 (Int.toNat (I 99 (Int.toNat i))) = x := by
  obtain ⟨a, b⟩ := h (Int.toNat x) (by exact gz_m 0 (by omega))
  have b9 := b (Int.toNat i) (by exact gz_m 1 (by omega)) (by exact gz_m 2 (by omega))
  exact ⟨b9.1, by rw [b9.2]; exact gz_m 3 (by omega)⟩
theorem gr_OR_b {I : gr_I} (h : gr_OR I) {x : Int} (h0 : 0 ≤ x) (hx : x < I 0 157) : 0 ≤ I 91 (Int.toNat x) ∧ 0 ≤ I 92 (Int.toNat x) ∧ I 91 (Int.toNat x) + I 92 (Int.toNat x) ≤ I 0 158 := (h (Int.toNat x) (by omega)).1
theorem gr_OR_st {I I' : gr_I} {x z : Int} {i0 : Nat} (h : gr_OR I) (h0 : 0 ≤ x) (hx : x < I 0 157) (hi0 : I 91 (Int.toNat x) ≤ (i0 : Int)) (hi : (i0 : Int) < I 91 (Int.toNat x) + I 92 (Int.toNat x)) (p : ∀ b j, ¬ (b = 99 ∧ j = i0) → I' b j = I b j) (q : I' 99 i0 = z) (hz : (0 ≤ z ∧ z < I 0 158) ∧ I 94 (Int.toNat z) = x) : gr_OR I' := fun j hj => by
  have r : ∀ b : Nat, ¬ b = 99 → I' b = I b := fun b hb => funext fun k => p b k (fun q => hb q.1)
  rw [r 0 (by decide)] at hj
  rw [r 0 (by decide), r 91 (by decide), r 92 (by decide), r 94 (by decide)]
  obtain ⟨a, b⟩ := h j hj
  refine ⟨a, fun i hi1 hi2 => ?_⟩
  by_cases c : i = i0
  · have b9 := b i hi1 hi2
    have b8 := gr_OR_at h h0 hx hi0 hi
    rw [Int.toNat_natCast] at b8
    rw [c] at b9 ⊢
    rw [q]
    exact ⟨hz.1, by rw [hz.2]; omega⟩
  · rw [p 99 i (fun q => c q.2)]
    exact b i hi1 hi2
set_option maxHeartbeats 8000000 in
set_option maxRecDepth 100000 in
theorem r_orderWays {ws0 : List Cond} {tb : String → gz_T} (hws : ∀ w ∈ gr_ws, w ∈ ws0) (htb : tb RX13 = gr_T) (ext : gz_Sh) (I : gr_I) (J : gr_J) (hI : gr_Inv I)   (x0 : gr_FC I) : ∃ r h', gz_Ev ws0 tb 3 (yX13_orderWays, cX13_orderWays, 9, none) [.inr (.inr (some 0))] (gr_sh ++ ext) (gr_h I J) r (gr_sh ++ ext) h' 0 0 ∧ (∃ (I' : gr_I) (J' : gr_J), h' = gr_h I' J' ∧ gr_Inv I' ∧ gr_fr [] [91, 92, 99] I I' ∧ gr_fj [] [91, 92, 99] J J' ∧ r = none ∧ (gr_OR I')) := by
  have FI : gr_fr [] [91, 92, 99] I I := fun _ _ _ => rfl
  have FJ : gr_fj [] [91, 92, 99] J J := fun _ _ _ => rfl
  have hD : gv_D (gr_E ws0 tb 2 (yX13_orderWays, cX13_orderWays, 9, none) kX13_orderWays) := gq_of oX13_orderWays
  refine gr_ev (d := 2) (l := kX13_orderWays) (Po := fun r h' => (∃ (I' : gr_I) (J' : gr_J), h' = gr_h I' J' ∧ gr_Inv I' ∧ gr_fr [] [91, 92, 99] I I' ∧ gr_fj [] [91, 92, 99] J J' ∧ r = none ∧ (gr_OR I'))) htb rfl (Nat.le_of_ble_eq_true rfl) ?_
  have f1 := (gr_b_0_157 hI)
  have f2 := (gr_b_0_158 hI)
  have L4 : ∀ (n : Nat) (I3 : gr_I) (J4 : gr_J) (v1_5 : Int) (v2_5 : Int), (3001 - v2_5).toNat < n → gr_Inv I3 → gr_fr [] [91, 92, 99] I I3 → gr_fj [] [91, 92, 99] J J4 → ((0 ≤ v1_5 ∧ v1_5 ≤ 9000) ∧ (0 ≤ v2_5 ∧ v2_5 ≤ 3000)) → (gr_O1 I v2_5 v1_5 I3) → gv_X (gr_E ws0 tb 2 (yX13_orderWays, cX13_orderWays, 9, none) kX13_orderWays) (gv_Q cX13_orderWays none (gr_sh ++ ext) (fun r h' => (∃ (I' : gr_I) (J' : gr_J), h' = gr_h I' J' ∧ gr_Inv I' ∧ gr_fr [] [91, 92, 99] I I' ∧ gr_fj [] [91, 92, 99] J J' ∧ r = none ∧ (gr_OR I')))) (4, [(0, .inr (.inr (some 0))), (1, .inl v1_5), (2, .inl v2_5)], [], gr_sh ++ ext, gr_h I3 J4) := by
    intro n
    induction n with
    | zero => intro I3 J4 v1_5 v2_5 hn; exact gz_m 0 (by omega)
    | succ n ih4 =>
      intro I3 J4 v1_5 v2_5 hn hI3 FI3 FJ4 m_5 e0_5
      obtain ⟨hv1_5, hv2_5⟩ := m_5
      have f6 := (gr_b_0_157 hI3)
      have f7 := (gr_b_0_158 hI3)
      have t8 := FI3 0 157 rfl
      have t9 := FI3 0 158 rfl
      have L43 : ∀ (n : Nat) (I10 : gr_I) (J11 : gr_J) (v2_12 : Int), (9001 - v2_12).toNat < n → gr_Inv I10 → gr_fr [] [91, 92, 99] I I10 → gr_fj [] [91, 92, 99] J J11 → ((0 ≤ v2_12 ∧ v2_12 ≤ 9000) ∧ (v2_12 ≤ I10 0 158)) → (gr_O2 I v2_12 I10) → gv_X (gr_E ws0 tb 2 (yX13_orderWays, cX13_orderWays, 9, none) kX13_orderWays) (gv_Q cX13_orderWays none (gr_sh ++ ext) (fun r h' => (∃ (I' : gr_I) (J' : gr_J), h' = gr_h I' J' ∧ gr_Inv I' ∧ gr_fr [] [91, 92, 99] I I' ∧ gr_fj [] [91, 92, 99] J J' ∧ r = none ∧ (gr_OR I')))) (43, [(0, .inr (.inr (some 0))), (2, .inl v2_12)], [], gr_sh ++ ext, gr_h I10 J11) := by
        intro n
        induction n with
        | zero => intro I10 J11 v2_12 hn; exact gz_m 1 (by omega)
        | succ n ih43 =>
          intro I10 J11 v2_12 hn hI10 FI10 FJ11 m_12 e0_12
          clear hv1_5 hv2_5 f6 f7 t8 t9
          obtain ⟨hv2_12, e1_12⟩ := m_12
          have f13 := (gr_b_0_157 hI10)
          have f14 := (gr_b_0_158 hI10)
          have t15 := FI10 0 157 rfl
          have t16 := FI10 0 158 rfl
          have L93 : ∀ (n : Nat) (I17 : gr_I) (J18 : gr_J) (v2_19 : Int), (3001 - v2_19).toNat < n → gr_Inv I17 → gr_fr [] [91, 92, 99] I I17 → gr_fj [] [91, 92, 99] J J18 → ((0 ≤ v2_19 ∧ v2_19 ≤ 3000)) → (gr_OR I17) → gv_X (gr_E ws0 tb 2 (yX13_orderWays, cX13_orderWays, 9, none) kX13_orderWays) (gv_Q cX13_orderWays none (gr_sh ++ ext) (fun r h' => (∃ (I' : gr_I) (J' : gr_J), h' = gr_h I' J' ∧ gr_Inv I' ∧ gr_fr [] [91, 92, 99] I I' ∧ gr_fj [] [91, 92, 99] J J' ∧ r = none ∧ (gr_OR I')))) (93, [(0, .inr (.inr (some 0))), (2, .inl v2_19)], [], gr_sh ++ ext, gr_h I17 J18) := by
            intro n
            induction n with
            | zero => intro I17 J18 v2_19 hn; exact gz_m 2 (by omega)
            | succ n ih93 =>
              intro I17 J18 v2_19 hn hI17 FI17 FJ18 m_19 e0_19
              clear hv2_12 e1_12 f13 f14 t15 t16
              have hv2_19 := m_19
              have f20 := (gr_b_0_157 hI17)
              have f21 := (gr_b_0_158 hI17)
              have t22 := FI17 0 157 rfl
              have t23 := FI17 0 158 rfl
              have L122 : ∀ (n : Nat) (I24 : gr_I) (J25 : gr_J) (v3_26 : Int) (v4_26 : Int) (v5_26 : Int), (v5_26).toNat < n → gr_Inv I24 → gr_fr [] [91, 92, 99] I I24 → gr_fj [] [91, 92, 99] J J25 → ((0 ≤ v2_19 ∧ v2_19 ≤ 2999) ∧ (0 ≤ v3_26 ∧ v3_26 ≤ 9000) ∧ (0 ≤ v4_26 ∧ v4_26 ≤ 9000) ∧ (0 ≤ v5_26 ∧ v5_26 ≤ 4500) ∧ (v3_26 = I24 91 (Int.toNat v2_19)) ∧ (v4_26 = I24 92 (Int.toNat v2_19)) ∧ (0 ≤ v3_26) ∧ (v3_26 + v4_26 ≤ 9000) ∧ (v2_19 < I24 0 157)) → (gr_OR I24) → gv_X (gr_E ws0 tb 2 (yX13_orderWays, cX13_orderWays, 9, none) kX13_orderWays) (gv_Q cX13_orderWays none (gr_sh ++ ext) (fun r h' => (∃ (I' : gr_I) (J' : gr_J), h' = gr_h I' J' ∧ gr_Inv I' ∧ gr_fr [] [91, 92, 99] I I' ∧ gr_fj [] [91, 92, 99] J J' ∧ r = none ∧ (gr_OR I')))) (122, [(0, .inr (.inr (some 0))), (2, .inl v2_19), (3, .inl v3_26), (4, .inl v4_26), (5, .inl v5_26)], [], gr_sh ++ ext, gr_h I24 J25) := by
                intro n
                induction n with
                | zero => intro I24 J25 v3_26 v4_26 v5_26 hn; exact gz_m 3 (by omega)
                | succ n ih122 =>
                  intro I24 J25 v3_26 v4_26 v5_26 hn hI24 FI24 FJ25 m_26 e0_26
                  clear hv2_19 f20 f21 t22 t23
                  obtain ⟨hv2_19_26, hv3_26, hv4_26, hv5_26, e1_26, e2_26, e3_26, e4_26, e5_26⟩ := m_26
                  have f27 := (gr_b_0_157 hI24)
                  have f28 := (gr_b_0_158 hI24)
                  have t29 := FI24 0 157 rfl
                  have t30 := FI24 0 158 rfl
                  have L131 : ∀ (n : Nat) (I31 : gr_I) (J32 : gr_J) (v6_33 : Int), (9001 - v6_33).toNat < n → gr_Inv I31 → gr_fr [] [91, 92, 99] I I31 → gr_fj [] [91, 92, 99] J J32 → ((0 ≤ v2_19 ∧ v2_19 ≤ 2999) ∧ (0 ≤ v3_26 ∧ v3_26 ≤ 9000) ∧ (0 ≤ v4_26 ∧ v4_26 ≤ 9000) ∧ (1 ≤ v5_26 ∧ v5_26 ≤ 4500) ∧ (1 ≤ v6_33 ∧ v6_33 ≤ 9000) ∧ (v3_26 = I31 91 (Int.toNat v2_19)) ∧ (v4_26 = I31 92 (Int.toNat v2_19)) ∧ (0 ≤ v3_26) ∧ (v3_26 + v4_26 ≤ 9000) ∧ (v2_19 < I31 0 157) ∧ (1 ≤ v5_26) ∧ (v5_26 ≤ v6_33)) → (gr_OR I31) → gv_X (gr_E ws0 tb 2 (yX13_orderWays, cX13_orderWays, 9, none) kX13_orderWays) (gv_Q cX13_orderWays none (gr_sh ++ ext) (fun r h' => (∃ (I' : gr_I) (J' : gr_J), h' = gr_h I' J' ∧ gr_Inv I' ∧ gr_fr [] [91, 92, 99] I I' ∧ gr_fj [] [91, 92, 99] J J' ∧ r = none ∧ (gr_OR I')))) (131, [(0, .inr (.inr (some 0))), (2, .inl v2_19), (3, .inl v3_26), (4, .inl v4_26), (5, .inl v5_26), (6, .inl v6_33)], [], gr_sh ++ ext, gr_h I31 J32) := by
                    intro n
                    induction n with
                    | zero => intro I31 J32 v6_33 hn; exact gz_m 4 (by omega)
                    | succ n ih131 =>
                      intro I31 J32 v6_33 hn hI31 FI31 FJ32 m_33 e0_33
                      clear hv2_19_26 hv3_26 hv4_26 hv5_26 e1_26 e2_26 e3_26 e4_26 e5_26 f27 f28 t29 t30
                      obtain ⟨hv2_19_33, hv3_26_33, hv4_26_33, hv5_26_33, hv6_33, e1_33, e2_33, e3_33, e4_33, e5_33, e6_33, e7_33⟩ := m_33
                      have f34 := (gr_b_0_157 hI31)
                      have f35 := (gr_b_0_158 hI31)
                      have t36 := FI31 0 157 rfl
                      have t37 := FI31 0 158 rfl
                      have L153 : ∀ (n : Nat) (I38 : gr_I) (J39 : gr_J) (v7_40 : Int) (v8_40 : Int), (v8_40).toNat < n → gr_Inv I38 → gr_fr [] [91, 92, 99] I I38 → gr_fj [] [91, 92, 99] J J39 → ((0 ≤ v2_19 ∧ v2_19 ≤ 2999) ∧ (0 ≤ v3_26 ∧ v3_26 ≤ 9000) ∧ (2 ≤ v4_26 ∧ v4_26 ≤ 9000) ∧ (1 ≤ v5_26 ∧ v5_26 ≤ 4500) ∧ (1 ≤ v6_33 ∧ v6_33 ≤ 8999) ∧ (0 ≤ v7_40 ∧ v7_40 ≤ 8999) ∧ (0 ≤ v8_40 ∧ v8_40 ≤ 8999) ∧ (v3_26 = I38 91 (Int.toNat v2_19)) ∧ (v4_26 = I38 92 (Int.toNat v2_19)) ∧ (0 ≤ v3_26) ∧ (v3_26 + v4_26 ≤ 9000) ∧ (v2_19 < I38 0 157) ∧ (1 ≤ v5_26) ∧ (v5_26 ≤ v6_33) ∧ (v6_33 < v4_26) ∧ (v8_40 ≤ v6_33) ∧ (I38 94 (Int.toNat v7_40) = v2_19) ∧ (v7_40 < I38 0 158)) → (gr_OR I38) → gv_X (gr_E ws0 tb 2 (yX13_orderWays, cX13_orderWays, 9, none) kX13_orderWays) (gv_Q cX13_orderWays none (gr_sh ++ ext) (fun r h' => (∃ (I' : gr_I) (J' : gr_J), h' = gr_h I' J' ∧ gr_Inv I' ∧ gr_fr [] [91, 92, 99] I I' ∧ gr_fj [] [91, 92, 99] J J' ∧ r = none ∧ (gr_OR I')))) (153, [(0, .inr (.inr (some 0))), (2, .inl v2_19), (3, .inl v3_26), (4, .inl v4_26), (5, .inl v5_26), (6, .inl v6_33), (7, .inl v7_40), (8, .inl v8_40)], [], gr_sh ++ ext, gr_h I38 J39) := by
                        intro n
                        induction n with
                        | zero => intro I38 J39 v7_40 v8_40 hn; exact gz_m 5 (by omega)
                        | succ n ih153 =>
                          intro I38 J39 v7_40 v8_40 hn hI38 FI38 FJ39 m_40 e0_40
                          clear hv2_19_33 hv3_26_33 hv4_26_33 hv5_26_33 hv6_33 e1_33 e2_33 e3_33 e4_33 e5_33 e6_33 e7_33 f34 f35 t36 t37
                          obtain ⟨hv2_19_40, hv3_26_40, hv4_26_40, hv5_26_40, hv6_33_40, hv7_40, hv8_40, e1_40, e2_40, e3_40, e4_40, e5_40, e6_40, e7_40, e8_40, e9_40, e10_40, e11_40⟩ := m_40
                          have f41 := (gr_b_0_157 hI38)
                          have f42 := (gr_b_0_158 hI38)
                          have t43 := FI38 0 157 rfl
                          have t44 := FI38 0 158 rfl
                          have L212 : ((0 ≤ v2_19 ∧ v2_19 ≤ 2999) ∧ (0 ≤ v3_26 ∧ v3_26 ≤ 9000) ∧ (2 ≤ v4_26 ∧ v4_26 ≤ 9000) ∧ (1 ≤ v5_26 ∧ v5_26 ≤ 4500) ∧ (1 ≤ v6_33 ∧ v6_33 ≤ 8999) ∧ (0 ≤ v7_40 ∧ v7_40 ≤ 8999) ∧ (0 ≤ v8_40 ∧ v8_40 ≤ 8999) ∧ (v3_26 = I38 91 (Int.toNat v2_19)) ∧ (v4_26 = I38 92 (Int.toNat v2_19)) ∧ (0 ≤ v3_26) ∧ (v3_26 + v4_26 ≤ 9000) ∧ (v2_19 < I38 0 157) ∧ (1 ≤ v5_26) ∧ (v5_26 ≤ v6_33) ∧ (v6_33 < v4_26) ∧ (v8_40 ≤ v6_33) ∧ (I38 94 (Int.toNat v7_40) = v2_19) ∧ (v7_40 < I38 0 158)) → (gr_OR I38) → gv_X (gr_E ws0 tb 2 (yX13_orderWays, cX13_orderWays, 9, none) kX13_orderWays) (gv_Q cX13_orderWays none (gr_sh ++ ext) (fun r h' => (∃ (I' : gr_I) (J' : gr_J), h' = gr_h I' J' ∧ gr_Inv I' ∧ gr_fr [] [91, 92, 99] I I' ∧ gr_fj [] [91, 92, 99] J J' ∧ r = none ∧ (gr_OR I')))) (212, [(0, .inr (.inr (some 0))), (2, .inl v2_19), (3, .inl v3_26), (4, .inl v4_26), (5, .inl v5_26), (6, .inl v6_33), (7, .inl v7_40), (8, .inl v8_40)], [], gr_sh ++ ext, gr_h I38 J39) := by
                            intro m_45 e0_45
                            obtain ⟨hv2_19_45, hv3_26_45, hv4_26_45, hv5_26_45, hv6_33_45, hv7_40_45, hv8_40_45, e1_45, e2_45, e3_45, e4_45, e5_45, e6_45, e7_45, e8_45, e9_45, e10_45, e11_45⟩ := m_45
                            have f46 := (gr_b_0_157 hI38)
                            have f47 := (gr_b_0_158 hI38)
                            have t48 := FI38 0 157 rfl
                            have t49 := FI38 0 158 rfl
                            refine gv_run 6 true hD (pc' := 222) (lv' := [(0, .inr (.inr (some 0))), (2, .inl v2_19), (3, .inl v3_26), (4, .inl v4_26), (5, .inl v5_26), (6, .inl v6_33), (7, .inl v7_40), (8, .inl v8_40)]) (st' := [.inl v7_40, .inl (v3_26 + v8_40), .inr (.inr (some 99))]) (h' := gr_h I38 J39) (C := ((((((True ∧ True) ∧ True) ∧ True) ∧ True) ∧ True) ∧ True)) rfl ⟨⟨⟨⟨⟨⟨trivial, trivial⟩, trivial⟩, trivial⟩, trivial⟩, trivial⟩, trivial⟩ ?_
                            refine gv_run 1 true hD (pc' := 223) (lv' := [(0, .inr (.inr (some 0))), (2, .inl v2_19), (3, .inl v3_26), (4, .inl v4_26), (5, .inl v5_26), (6, .inl v6_33), (7, .inl v7_40), (8, .inl v8_40)]) (st' := []) (h' := gz_up (gr_h I38 J39) 99 (Int.toNat ((v3_26 + v8_40))) (.inl v7_40)) (C := (True ∧ (0 ≤ (v3_26 + v8_40) ∧ (v3_26 + v8_40) < ((9000 : Nat) : Int)))) rfl ⟨trivial, ⟨by exact gz_m 6 (by omega), by exact gz_m 7 (by omega)⟩⟩ ?_
                            refine gr_st hI38 FI38 rfl rfl ⟨⟨by show 0 ≤ _; exact gz_m 8 (by omega), by show _ ≤ 8999; exact gz_m 9 (by omega)⟩, trivial⟩ (fun I50 hI50 FI50 q51 p51 => ?_)
                            have t52 := p51 0 157 (fun q => absurd q.1 (by decide))
                            have t53 := p51 0 158 (fun q => absurd q.1 (by decide))
                            have t54 := p51 91 (Int.toNat v2_19) (fun q => absurd q.1 (by decide))
                            have t55 := p51 92 (Int.toNat v2_19) (fun q => absurd q.1 (by decide))
                            have t56 := p51 94 (Int.toNat v7_40) (fun q => absurd q.1 (by decide))
                            have f57 := (gr_b_0_157 hI50)
                            have f58 := (gr_b_0_158 hI50)
                            have t59 := FI50 0 157 rfl
                            have t60 := FI50 0 158 rfl
                            refine gv_run 2 true hD (pc' := 131) (lv' := [(6, .inl (v6_33 + 1)), (0, .inr (.inr (some 0))), (2, .inl v2_19), (3, .inl v3_26), (4, .inl v4_26), (5, .inl v5_26), (7, .inl v7_40), (8, .inl v8_40)]) (st' := []) (h' := gr_h I50 J39) (C := ((True ∧ True) ∧ True)) rfl ⟨⟨trivial, trivial⟩, trivial⟩ ?_
                            refine gv_pick [1, 2, 3, 4, 5, 0] rfl ?_
                            exact ih131 I50 J39 (v6_33 + 1) (by exact gz_m 10 (by omega)) hI50 FI50 FJ39 (by exact gz_m 11 (by omega)) (gr_OR_st (x := v2_19) e0_45 (by exact gz_m 12 (by omega)) (by exact gz_m 13 (by omega)) (by exact gz_m 14 (by omega)) (by exact gz_m 15 (by omega)) p51 q51 ⟨⟨by exact gz_m 16 (by omega), by exact gz_m 17 (by omega)⟩, by exact gz_m 18 (by omega)⟩)
                          refine gv_run 2 true hD (pc' := 157) (lv' := [(0, .inr (.inr (some 0))), (2, .inl v2_19), (3, .inl v3_26), (4, .inl v4_26), (5, .inl v5_26), (6, .inl v6_33), (7, .inl v7_40), (8, .inl v8_40)]) (st' := [.inl v5_26, .inl v8_40]) (h' := gr_h I38 J39) (C := ((True ∧ True) ∧ True)) rfl ⟨⟨trivial, trivial⟩, trivial⟩ ?_
                          refine gv_icmp_lt (t := 212) hD rfl rfl ⟨⟨by exact gz_m 19 (by omega), by exact gz_m 20 (by omega)⟩, ⟨by exact gz_m 21 (by omega), by exact gz_m 22 (by omega)⟩⟩ (fun c61 => ?_) (fun c61 => ?_)
                          · exact L212 (by exact gz_m 23 (by omega)) e0_40
                          · refine gv_run 7 true hD (pc' := 171) (lv' := [(0, .inr (.inr (some 0))), (2, .inl v2_19), (3, .inl v3_26), (4, .inl v4_26), (5, .inl v5_26), (6, .inl v6_33), (7, .inl v7_40), (8, .inl v8_40)]) (st' := [.inl v5_26, .inl (v3_26 + v8_40), .inr (.inr (some 99)), .inr (.inr (some 0))]) (h' := gr_h I38 J39) (C := (((((((True ∧ True) ∧ True) ∧ True) ∧ True) ∧ True) ∧ True) ∧ True)) rfl ⟨⟨⟨⟨⟨⟨⟨trivial, trivial⟩, trivial⟩, trivial⟩, trivial⟩, trivial⟩, trivial⟩, trivial⟩ ?_
                            have f62 := (gr_b_99 hI38 (Int.toNat (((v3_26 + v8_40) - v5_26))))
                            refine gv_run 2 true hD (pc' := 173) (lv' := [(0, .inr (.inr (some 0))), (2, .inl v2_19), (3, .inl v3_26), (4, .inl v4_26), (5, .inl v5_26), (6, .inl v6_33), (7, .inl v7_40), (8, .inl v8_40)]) (st' := [.inl (I38 99 (Int.toNat (((v3_26 + v8_40) - v5_26)))), .inr (.inr (some 0))]) (h' := gr_h I38 J39) (C := ((True ∧ True) ∧ (0 ≤ (((v3_26 + v8_40) - v5_26)) ∧ (((v3_26 + v8_40) - v5_26)) < ((9000 : Nat) : Int)))) rfl ⟨⟨trivial, trivial⟩, ⟨by exact gz_m 24 (by omega), by exact gz_m 25 (by omega)⟩⟩ ?_
                            refine gv_run 1 true hD (pc' := 175) (lv' := [(0, .inr (.inr (some 0))), (2, .inl v2_19), (3, .inl v3_26), (4, .inl v4_26), (5, .inl v5_26), (6, .inl v6_33), (7, .inl v7_40), (8, .inl v8_40)]) (st' := [.inl v7_40, .inl (I38 99 (Int.toNat (((v3_26 + v8_40) - v5_26)))), .inr (.inr (some 0))]) (h' := gr_h I38 J39) (C := (True ∧ True)) rfl ⟨trivial, trivial⟩ ?_
                            obtain ⟨r63, h63, E63, P63⟩ := r_wayOrder (ws0 := ws0) (tb := tb) hws htb ext I38 J39 hI38 ((I38 99 (Int.toNat (((v3_26 + v8_40) - v5_26))))) v7_40 ⟨by exact gz_m 26 (by omega), by exact gz_m 27 (by omega)⟩ ⟨by exact gz_m 28 (by omega), by exact gz_m 29 (by omega)⟩ 
                            obtain ⟨rfl, ⟨z63, rfl, q63⟩⟩ := P63
                            refine gv_callV hD rfl (As := [.inl (I38 99 (Int.toNat (((v3_26 + v8_40) - v5_26)))), .inl v7_40]) (st := []) rfl (by decide) rfl rfl (gr_lV hws rfl) (Nat.le_of_ble_eq_true rfl) (gz_Ev_mono (d := 2) (by decide) E63) ?_
                            show gv_X _ _ (178, [(0, .inr (.inr (some 0))), (2, .inl v2_19), (3, .inl v3_26), (4, .inl v4_26), (5, .inl v5_26), (6, .inl v6_33), (7, .inl v7_40), (8, .inl v8_40)], [.inl z63], gr_sh ++ ext, gr_h I38 J39)
                            refine gv_if_le (t := 212) hD rfl rfl ⟨by exact gz_m 30 (by omega), by exact gz_m 31 (by omega)⟩ (fun c64 => ?_) (fun c64 => ?_)
                            · exact L212 (by exact gz_m 32 (by omega)) e0_40
                            · refine gv_run 7 true hD (pc' := 193) (lv' := [(0, .inr (.inr (some 0))), (2, .inl v2_19), (3, .inl v3_26), (4, .inl v4_26), (5, .inl v5_26), (6, .inl v6_33), (7, .inl v7_40), (8, .inl v8_40)]) (st' := [.inr (.inr (some 99)), .inl (v3_26 + v8_40), .inr (.inr (some 99))]) (h' := gr_h I38 J39) (C := (((((((True ∧ True) ∧ True) ∧ True) ∧ True) ∧ True) ∧ True) ∧ True)) rfl ⟨⟨⟨⟨⟨⟨⟨trivial, trivial⟩, trivial⟩, trivial⟩, trivial⟩, trivial⟩, trivial⟩, trivial⟩ ?_
                              have f65 := (gr_b_99 hI38 (Int.toNat (((v3_26 + v8_40) - v5_26))))
                              refine gv_run 6 true hD (pc' := 201) (lv' := [(0, .inr (.inr (some 0))), (2, .inl v2_19), (3, .inl v3_26), (4, .inl v4_26), (5, .inl v5_26), (6, .inl v6_33), (7, .inl v7_40), (8, .inl v8_40)]) (st' := [.inl (I38 99 (Int.toNat (((v3_26 + v8_40) - v5_26)))), .inl (v3_26 + v8_40), .inr (.inr (some 99))]) (h' := gr_h I38 J39) (C := ((((((True ∧ True) ∧ True) ∧ True) ∧ True) ∧ True) ∧ (0 ≤ (((v3_26 + v8_40) - v5_26)) ∧ (((v3_26 + v8_40) - v5_26)) < ((9000 : Nat) : Int)))) rfl ⟨⟨⟨⟨⟨⟨trivial, trivial⟩, trivial⟩, trivial⟩, trivial⟩, trivial⟩, ⟨by exact gz_m 33 (by omega), by exact gz_m 34 (by omega)⟩⟩ ?_
                              refine gv_run 1 true hD (pc' := 202) (lv' := [(0, .inr (.inr (some 0))), (2, .inl v2_19), (3, .inl v3_26), (4, .inl v4_26), (5, .inl v5_26), (6, .inl v6_33), (7, .inl v7_40), (8, .inl v8_40)]) (st' := []) (h' := gz_up (gr_h I38 J39) 99 (Int.toNat ((v3_26 + v8_40))) (.inl ((I38 99 (Int.toNat (((v3_26 + v8_40) - v5_26))))))) (C := (True ∧ (0 ≤ (v3_26 + v8_40) ∧ (v3_26 + v8_40) < ((9000 : Nat) : Int)))) rfl ⟨trivial, ⟨by exact gz_m 35 (by omega), by exact gz_m 36 (by omega)⟩⟩ ?_
                              refine gr_st hI38 FI38 rfl rfl ⟨⟨by show 0 ≤ _; exact gz_m 37 (by omega), by show _ ≤ 8999; exact gz_m 38 (by omega)⟩, trivial⟩ (fun I66 hI66 FI66 q67 p67 => ?_)
                              have t68 := p67 0 157 (fun q => absurd q.1 (by decide))
                              have t69 := p67 0 158 (fun q => absurd q.1 (by decide))
                              have t70 := p67 91 (Int.toNat v2_19) (fun q => absurd q.1 (by decide))
                              have t71 := p67 92 (Int.toNat v2_19) (fun q => absurd q.1 (by decide))
                              have t72 := p67 94 (Int.toNat v7_40) (fun q => absurd q.1 (by decide))
                              have f73 := (gr_b_0_157 hI66)
                              have f74 := (gr_b_0_158 hI66)
                              have t75 := FI66 0 157 rfl
                              have t76 := FI66 0 158 rfl
                              refine gv_run 5 true hD (pc' := 153) (lv' := [(8, .inl (v8_40 - v5_26)), (0, .inr (.inr (some 0))), (2, .inl v2_19), (3, .inl v3_26), (4, .inl v4_26), (5, .inl v5_26), (6, .inl v6_33), (7, .inl v7_40)]) (st' := []) (h' := gr_h I66 J39) (C := (((((True ∧ True) ∧ True) ∧ True) ∧ True) ∧ True)) rfl ⟨⟨⟨⟨⟨trivial, trivial⟩, trivial⟩, trivial⟩, trivial⟩, trivial⟩ ?_
                              refine gv_pick [1, 2, 3, 4, 5, 6, 7, 0] rfl ?_
                              exact ih153 I66 J39 v7_40 (v8_40 - v5_26) (by exact gz_m 39 (by omega)) hI66 FI66 FJ39 (by exact gz_m 40 (by omega)) (gr_OR_st (x := v2_19) e0_40 (by exact gz_m 41 (by omega)) (by exact gz_m 42 (by omega)) (by exact gz_m 43 (by omega)) (by exact gz_m 44 (by omega)) p67 q67 (gr_OR_at e0_40 (by exact gz_m 45 (by omega)) (by exact gz_m 46 (by omega)) (by exact gz_m 47 (by omega)) (by exact gz_m 48 (by omega))))
                      refine gv_run 2 true hD (pc' := 135) (lv' := [(0, .inr (.inr (some 0))), (2, .inl v2_19), (3, .inl v3_26), (4, .inl v4_26), (5, .inl v5_26), (6, .inl v6_33)]) (st' := [.inl v4_26, .inl v6_33]) (h' := gr_h I31 J32) (C := ((True ∧ True) ∧ True)) rfl ⟨⟨trivial, trivial⟩, trivial⟩ ?_
                      refine gv_icmp_ge (t := 229) hD rfl rfl ⟨⟨by exact gz_m 49 (by omega), by exact gz_m 50 (by omega)⟩, ⟨by exact gz_m 51 (by omega), by exact gz_m 52 (by omega)⟩⟩ (fun c77 => ?_) (fun c77 => ?_)
                      · have f78 := gw_div (x := v5_26) (y := 2) ⟨by exact gz_m 53 (by omega), by exact gz_m 54 (by omega)⟩ ⟨by exact gz_m 55 (by omega), by exact gz_m 56 (by omega)⟩
                        refine gv_run 5 true hD (pc' := 122) (lv' := [(5, .inl ((Int32.ofInt v5_26 / Int32.ofInt 2).toInt)), (0, .inr (.inr (some 0))), (2, .inl v2_19), (3, .inl v3_26), (4, .inl v4_26), (6, .inl v6_33)]) (st' := []) (h' := gr_h I31 J32) (C := (((((True ∧ True) ∧ True) ∧ (gz_R 2 ∧ ¬ 2 = 0)) ∧ True) ∧ True)) rfl ⟨⟨⟨⟨⟨trivial, trivial⟩, trivial⟩, ⟨⟨by exact gz_m 57 (by omega), by exact gz_m 58 (by omega)⟩, by exact gz_m 59 (by omega)⟩⟩, trivial⟩, trivial⟩ ?_
                        refine gv_pick [1, 2, 3, 4, 0] rfl ?_
                        exact ih122 I31 J32 v3_26 v4_26 (((Int32.ofInt v5_26 / Int32.ofInt 2).toInt)) (by exact gz_m 60 (by omega)) hI31 FI31 FJ32 (by exact gz_m 61 (by omega)) e0_33
                      · have f79 := (gr_b_99 hI31 (Int.toNat ((v3_26 + v6_33))))
                        refine gv_run 6 true hD (pc' := 147) (lv' := [(0, .inr (.inr (some 0))), (2, .inl v2_19), (3, .inl v3_26), (4, .inl v4_26), (5, .inl v5_26), (6, .inl v6_33)]) (st' := [.inl (I31 99 (Int.toNat ((v3_26 + v6_33))))]) (h' := gr_h I31 J32) (C := ((((((True ∧ True) ∧ True) ∧ True) ∧ True) ∧ True) ∧ (0 ≤ (v3_26 + v6_33) ∧ (v3_26 + v6_33) < ((9000 : Nat) : Int)))) rfl ⟨⟨⟨⟨⟨⟨trivial, trivial⟩, trivial⟩, trivial⟩, trivial⟩, trivial⟩, ⟨by exact gz_m 62 (by omega), by exact gz_m 63 (by omega)⟩⟩ ?_
                        have t80 := gr_OR_at e0_33 (x := v2_19) (i := (v3_26 + v6_33)) (by exact gz_m 64 (by omega)) (by exact gz_m 65 (by omega)) (by exact gz_m 66 (by omega)) (by exact gz_m 67 (by omega))
                        refine gv_run 3 true hD (pc' := 153) (lv' := [(8, .inl v6_33), (7, .inl (I31 99 (Int.toNat ((v3_26 + v6_33))))), (0, .inr (.inr (some 0))), (2, .inl v2_19), (3, .inl v3_26), (4, .inl v4_26), (5, .inl v5_26), (6, .inl v6_33)]) (st' := []) (h' := gr_h I31 J32) (C := (((True ∧ True) ∧ True) ∧ True)) rfl ⟨⟨⟨trivial, trivial⟩, trivial⟩, trivial⟩ ?_
                        refine gv_pick [2, 3, 4, 5, 6, 7, 1, 0] rfl ?_
                        exact L153 _ I31 J32 ((I31 99 (Int.toNat ((v3_26 + v6_33))))) v6_33 (Nat.lt_succ_self _) hI31 FI31 FJ32 (by exact gz_m 68 (by omega)) e0_33
                  refine gv_run 1 true hD (pc' := 124) (lv' := [(0, .inr (.inr (some 0))), (2, .inl v2_19), (3, .inl v3_26), (4, .inl v4_26), (5, .inl v5_26)]) (st' := [.inl v5_26]) (h' := gr_h I24 J25) (C := (True ∧ True)) rfl ⟨trivial, trivial⟩ ?_
                  refine gv_if_le (t := 238) hD rfl rfl ⟨by exact gz_m 69 (by omega), by exact gz_m 70 (by omega)⟩ (fun c81 => ?_) (fun c81 => ?_)
                  · refine gv_run 2 true hD (pc' := 93) (lv' := [(2, .inl (v2_19 + 1)), (0, .inr (.inr (some 0))), (3, .inl v3_26), (4, .inl v4_26), (5, .inl v5_26)]) (st' := []) (h' := gr_h I24 J25) (C := ((True ∧ True) ∧ True)) rfl ⟨⟨trivial, trivial⟩, trivial⟩ ?_
                    refine gv_pick [1, 0] rfl ?_
                    exact ih93 I24 J25 (v2_19 + 1) (by exact gz_m 71 (by omega)) hI24 FI24 FJ25 (by exact gz_m 72 (by omega)) e0_26
                  · refine gv_run 2 true hD (pc' := 131) (lv' := [(6, .inl v5_26), (0, .inr (.inr (some 0))), (2, .inl v2_19), (3, .inl v3_26), (4, .inl v4_26), (5, .inl v5_26)]) (st' := []) (h' := gr_h I24 J25) (C := ((True ∧ True) ∧ True)) rfl ⟨⟨trivial, trivial⟩, trivial⟩ ?_
                    refine gv_pick [1, 2, 3, 4, 5, 0] rfl ?_
                    exact L131 _ I24 J25 v5_26 (Nat.lt_succ_self _) hI24 FI24 FJ25 (by exact gz_m 73 (by omega)) e0_26
              have f82 := (gr_b_0_157 hI17)
              refine gv_run 3 true hD (pc' := 98) (lv' := [(0, .inr (.inr (some 0))), (2, .inl v2_19)]) (st' := [.inl (I17 0 157), .inl v2_19]) (h' := gr_h I17 J18) (C := (((True ∧ True) ∧ True) ∧ True)) rfl ⟨⟨⟨trivial, trivial⟩, trivial⟩, trivial⟩ ?_
              refine gv_icmp_ge (t := 244) hD rfl rfl ⟨⟨by exact gz_m 74 (by omega), by exact gz_m 75 (by omega)⟩, ⟨by exact gz_m 76 (by omega), by exact gz_m 77 (by omega)⟩⟩ (fun c83 => ?_) (fun c83 => ?_)
              · exact gv_vret hD rfl ⟨I17, J18, rfl, hI17, FI17, FJ18, ⟨rfl, e0_19⟩⟩
              · have t84 := gr_OR_b e0_19 (x := v2_19) (by exact gz_m 78 (by omega)) (by exact gz_m 79 (by omega))
                have f85 := (gr_b_91 hI17 (Int.toNat v2_19))
                refine gv_run 4 true hD (pc' := 107) (lv' := [(0, .inr (.inr (some 0))), (2, .inl v2_19)]) (st' := [.inl (I17 91 (Int.toNat v2_19))]) (h' := gr_h I17 J18) (C := ((((True ∧ True) ∧ True) ∧ True) ∧ (0 ≤ v2_19 ∧ v2_19 < ((3001 : Nat) : Int)))) rfl ⟨⟨⟨⟨trivial, trivial⟩, trivial⟩, trivial⟩, ⟨by exact gz_m 80 (by omega), by exact gz_m 81 (by omega)⟩⟩ ?_
                have f86 := (gr_b_92 hI17 (Int.toNat v2_19))
                refine gv_run 5 true hD (pc' := 114) (lv' := [(3, .inl (I17 91 (Int.toNat v2_19))), (0, .inr (.inr (some 0))), (2, .inl v2_19)]) (st' := [.inl (I17 92 (Int.toNat v2_19))]) (h' := gr_h I17 J18) (C := (((((True ∧ True) ∧ True) ∧ True) ∧ True) ∧ (0 ≤ v2_19 ∧ v2_19 < ((3000 : Nat) : Int)))) rfl ⟨⟨⟨⟨⟨trivial, trivial⟩, trivial⟩, trivial⟩, trivial⟩, ⟨by exact gz_m 82 (by omega), by exact gz_m 83 (by omega)⟩⟩ ?_
                have f87 := gw_div (x := ((I17 92 (Int.toNat v2_19)))) (y := 2) ⟨by exact gz_m 84 (by omega), by exact gz_m 85 (by omega)⟩ ⟨by exact gz_m 86 (by omega), by exact gz_m 87 (by omega)⟩
                refine gv_run 5 true hD (pc' := 122) (lv' := [(5, .inl ((Int32.ofInt ((I17 92 (Int.toNat v2_19))) / Int32.ofInt 2).toInt)), (4, .inl (I17 92 (Int.toNat v2_19))), (3, .inl (I17 91 (Int.toNat v2_19))), (0, .inr (.inr (some 0))), (2, .inl v2_19)]) (st' := []) (h' := gr_h I17 J18) (C := (((((True ∧ True) ∧ True) ∧ True) ∧ (gz_R 2 ∧ ¬ 2 = 0)) ∧ True)) rfl ⟨⟨⟨⟨⟨trivial, trivial⟩, trivial⟩, trivial⟩, ⟨⟨by exact gz_m 88 (by omega), by exact gz_m 89 (by omega)⟩, by exact gz_m 90 (by omega)⟩⟩, trivial⟩ ?_
                refine gv_pick [3, 4, 2, 1, 0] rfl ?_
                exact L122 _ I17 J18 ((I17 91 (Int.toNat v2_19))) ((I17 92 (Int.toNat v2_19))) (((Int32.ofInt ((I17 92 (Int.toNat v2_19))) / Int32.ofInt 2).toInt)) (Nat.lt_succ_self _) hI17 FI17 FJ18 (by exact gz_m 91 (by omega)) e0_19
          have f88 := (gr_b_0_158 hI10)
          refine gv_run 3 true hD (pc' := 48) (lv' := [(0, .inr (.inr (some 0))), (2, .inl v2_12)]) (st' := [.inl (I10 0 158), .inl v2_12]) (h' := gr_h I10 J11) (C := (((True ∧ True) ∧ True) ∧ True)) rfl ⟨⟨⟨trivial, trivial⟩, trivial⟩, trivial⟩ ?_
          refine gv_icmp_ge (t := 91) hD rfl rfl ⟨⟨by exact gz_m 92 (by omega), by exact gz_m 93 (by omega)⟩, ⟨by exact gz_m 94 (by omega), by exact gz_m 95 (by omega)⟩⟩ (fun c89 => ?_) (fun c89 => ?_)
          · refine gv_run 2 true hD (pc' := 93) (lv' := [(2, .inl 0), (0, .inr (.inr (some 0)))]) (st' := []) (h' := gr_h I10 J11) (C := ((True ∧ True) ∧ True)) rfl ⟨⟨trivial, trivial⟩, trivial⟩ ?_
            refine gv_pick [1, 0] rfl ?_
            exact L93 _ I10 J11 0 (Nat.lt_succ_self _) hI10 FI10 FJ11 (by exact gz_m 96 (by omega)) (gr_OR_in e0_12 hI10 x0 (by exact gz_m 97 (by omega)) (by exact gz_m 98 (by omega)) (fun k => FI10 94 k rfl) (FI10 0 157 rfl) (FI10 0 158 rfl))
          · have t90 := gr_O2_b e0_12 x0 (by exact gz_m 99 (by omega)) (by exact gz_m 100 (by omega))
            have t91 := (show I10 94 (Int.toNat v2_12) = I 94 (Int.toNat v2_12) from FI10 94 _ rfl)
            have t92 := x0.1 (Int.toNat v2_12) (by exact gz_m 101 (by omega))
            have t93 := (show I10 91 (Int.toNat (I10 94 (Int.toNat v2_12))) = I10 91 (Int.toNat (I 94 (Int.toNat v2_12))) from by rw [FI10 94 _ rfl])
            have t94 := (show I10 92 (Int.toNat (I10 94 (Int.toNat v2_12))) = I10 92 (Int.toNat (I 94 (Int.toNat v2_12))) from by rw [FI10 94 _ rfl])
            refine gv_run 7 true hD (pc' := 64) (lv' := [(0, .inr (.inr (some 0))), (2, .inl v2_12)]) (st' := [.inl v2_12, .inr (.inr (some 94)), .inr (.inr (some 91)), .inr (.inr (some 99))]) (h' := gr_h I10 J11) (C := (((((((True ∧ True) ∧ True) ∧ True) ∧ True) ∧ True) ∧ True) ∧ True)) rfl ⟨⟨⟨⟨⟨⟨⟨trivial, trivial⟩, trivial⟩, trivial⟩, trivial⟩, trivial⟩, trivial⟩, trivial⟩ ?_
            have f95 := (gr_b_94 hI10 (Int.toNat v2_12))
            refine gv_run 1 true hD (pc' := 65) (lv' := [(0, .inr (.inr (some 0))), (2, .inl v2_12)]) (st' := [.inl (I10 94 (Int.toNat v2_12)), .inr (.inr (some 91)), .inr (.inr (some 99))]) (h' := gr_h I10 J11) (C := (True ∧ (0 ≤ v2_12 ∧ v2_12 < ((9000 : Nat) : Int)))) rfl ⟨trivial, ⟨by exact gz_m 102 (by omega), by exact gz_m 103 (by omega)⟩⟩ ?_
            have f96 := (gr_b_91 hI10 (Int.toNat ((I10 94 (Int.toNat v2_12)))))
            refine gv_run 1 true hD (pc' := 66) (lv' := [(0, .inr (.inr (some 0))), (2, .inl v2_12)]) (st' := [.inl (I10 91 (Int.toNat ((I10 94 (Int.toNat v2_12))))), .inr (.inr (some 99))]) (h' := gr_h I10 J11) (C := (True ∧ (0 ≤ ((I10 94 (Int.toNat v2_12))) ∧ ((I10 94 (Int.toNat v2_12))) < ((3001 : Nat) : Int)))) rfl ⟨trivial, ⟨by exact gz_m 104 (by omega), by exact gz_m 105 (by omega)⟩⟩ ?_
            have f97 := (gr_b_94 hI10 (Int.toNat v2_12))
            refine gv_run 6 true hD (pc' := 76) (lv' := [(0, .inr (.inr (some 0))), (2, .inl v2_12)]) (st' := [.inl (I10 94 (Int.toNat v2_12)), .inr (.inr (some 92)), .inl (I10 91 (Int.toNat ((I10 94 (Int.toNat v2_12))))), .inr (.inr (some 99))]) (h' := gr_h I10 J11) (C := ((((((True ∧ True) ∧ True) ∧ True) ∧ True) ∧ True) ∧ (0 ≤ v2_12 ∧ v2_12 < ((9000 : Nat) : Int)))) rfl ⟨⟨⟨⟨⟨⟨trivial, trivial⟩, trivial⟩, trivial⟩, trivial⟩, trivial⟩, ⟨by exact gz_m 106 (by omega), by exact gz_m 107 (by omega)⟩⟩ ?_
            have f98 := (gr_b_92 hI10 (Int.toNat ((I10 94 (Int.toNat v2_12)))))
            refine gv_run 2 true hD (pc' := 78) (lv' := [(0, .inr (.inr (some 0))), (2, .inl v2_12)]) (st' := [.inl (I10 92 (Int.toNat ((I10 94 (Int.toNat v2_12))))), .inl (I10 94 (Int.toNat v2_12)), .inr (.inr (some 92)), .inl (I10 91 (Int.toNat ((I10 94 (Int.toNat v2_12))))), .inr (.inr (some 99))]) (h' := gr_h I10 J11) (C := ((True ∧ True) ∧ (0 ≤ ((I10 94 (Int.toNat v2_12))) ∧ ((I10 94 (Int.toNat v2_12))) < ((3000 : Nat) : Int)))) rfl ⟨⟨trivial, trivial⟩, ⟨by exact gz_m 108 (by omega), by exact gz_m 109 (by omega)⟩⟩ ?_
            refine gv_run 3 true hD (pc' := 81) (lv' := [(0, .inr (.inr (some 0))), (2, .inl v2_12)]) (st' := [.inl ((I10 92 (Int.toNat ((I10 94 (Int.toNat v2_12))))) + 1), .inl (I10 94 (Int.toNat v2_12)), .inr (.inr (some 92)), .inl (I10 92 (Int.toNat ((I10 94 (Int.toNat v2_12))))), .inl (I10 91 (Int.toNat ((I10 94 (Int.toNat v2_12))))), .inr (.inr (some 99))]) (h' := gr_h I10 J11) (C := (((True ∧ True) ∧ True) ∧ True)) rfl ⟨⟨⟨trivial, trivial⟩, trivial⟩, trivial⟩ ?_
            refine gv_run 1 true hD (pc' := 82) (lv' := [(0, .inr (.inr (some 0))), (2, .inl v2_12)]) (st' := [.inl (I10 92 (Int.toNat ((I10 94 (Int.toNat v2_12))))), .inl (I10 91 (Int.toNat ((I10 94 (Int.toNat v2_12))))), .inr (.inr (some 99))]) (h' := gz_up (gr_h I10 J11) 92 (Int.toNat ((I10 94 (Int.toNat v2_12)))) (.inl (((I10 92 (Int.toNat ((I10 94 (Int.toNat v2_12))))) + 1)))) (C := (True ∧ (0 ≤ ((I10 94 (Int.toNat v2_12))) ∧ ((I10 94 (Int.toNat v2_12))) < ((3000 : Nat) : Int)))) rfl ⟨trivial, ⟨by exact gz_m 110 (by omega), by exact gz_m 111 (by omega)⟩⟩ ?_
            refine gr_st hI10 FI10 rfl rfl ⟨⟨by show 0 ≤ _; exact gz_m 112 (by omega), by show _ ≤ 9000; exact gz_m 113 (by omega)⟩, trivial⟩ (fun I99 hI99 FI99 q100 p100 => ?_)
            have t101 := p100 0 157 (fun q => absurd q.1 (by decide))
            have t102 := p100 0 158 (fun q => absurd q.1 (by decide))
            have t103 := p100 91 (Int.toNat v2_12) (fun q => absurd q.1 (by decide))
            have f104 := (gr_b_0_157 hI99)
            have f105 := (gr_b_0_158 hI99)
            have t106 := FI99 0 157 rfl
            have t107 := FI99 0 158 rfl
            refine gv_run 3 true hD (pc' := 85) (lv' := [(0, .inr (.inr (some 0))), (2, .inl v2_12)]) (st' := []) (h' := gz_up (gr_h I99 J11) 99 (Int.toNat (((I10 91 (Int.toNat ((I10 94 (Int.toNat v2_12))))) + (I10 92 (Int.toNat ((I10 94 (Int.toNat v2_12)))))))) (.inl v2_12)) (C := (((True ∧ True) ∧ True) ∧ (0 ≤ (((I10 91 (Int.toNat ((I10 94 (Int.toNat v2_12))))) + (I10 92 (Int.toNat ((I10 94 (Int.toNat v2_12))))))) ∧ (((I10 91 (Int.toNat ((I10 94 (Int.toNat v2_12))))) + (I10 92 (Int.toNat ((I10 94 (Int.toNat v2_12))))))) < ((9000 : Nat) : Int)))) rfl ⟨⟨⟨trivial, trivial⟩, trivial⟩, ⟨by exact gz_m 114 (by omega), by exact gz_m 115 (by omega)⟩⟩ ?_
            refine gr_st hI99 FI99 rfl rfl ⟨⟨by show 0 ≤ _; exact gz_m 116 (by omega), by show _ ≤ 8999; exact gz_m 117 (by omega)⟩, trivial⟩ (fun I108 hI108 FI108 q109 p109 => ?_)
            have t110 := p109 0 157 (fun q => absurd q.1 (by decide))
            have t111 := p109 0 158 (fun q => absurd q.1 (by decide))
            have t112 := p109 91 (Int.toNat v2_12) (fun q => absurd q.1 (by decide))
            have t113 := p109 92 (Int.toNat v2_12) (fun q => absurd q.1 (by decide))
            have f114 := (gr_b_0_157 hI108)
            have f115 := (gr_b_0_158 hI108)
            have t116 := FI108 0 157 rfl
            have t117 := FI108 0 158 rfl
            refine gv_run 2 true hD (pc' := 43) (lv' := [(2, .inl (v2_12 + 1)), (0, .inr (.inr (some 0)))]) (st' := []) (h' := gr_h I108 J11) (C := ((True ∧ True) ∧ True)) rfl ⟨⟨trivial, trivial⟩, trivial⟩ ?_
            refine gv_pick [1, 0] rfl ?_
            exact ih43 I108 J11 (v2_12 + 1) (by exact gz_m 118 (by omega)) hI108 FI108 FJ11 (by exact gz_m 119 (by omega)) (gr_O2_nx (x := (Int.toNat ((I10 94 (Int.toNat v2_12))))) (i0 := (Int.toNat (((I10 91 (Int.toNat ((I10 94 (Int.toNat v2_12))))) + (I10 92 (Int.toNat ((I10 94 (Int.toNat v2_12))))))))) e0_12 x0 (by exact gz_m 120 (by omega)) (by exact gz_m 121 (by omega)) (by exact gz_m 122 (by omega)) p100 (by exact gz_m 123 (by omega)) (by exact gz_m 124 (by omega)) p109 q109)
      have f118 := (gr_b_0_157 hI3)
      refine gv_run 3 true hD (pc' := 9) (lv' := [(0, .inr (.inr (some 0))), (1, .inl v1_5), (2, .inl v2_5)]) (st' := [.inl (I3 0 157), .inl v2_5]) (h' := gr_h I3 J4) (C := (((True ∧ True) ∧ True) ∧ True)) rfl ⟨⟨⟨trivial, trivial⟩, trivial⟩, trivial⟩ ?_
      refine gv_icmp_ge (t := 41) hD rfl rfl ⟨⟨by exact gz_m 125 (by omega), by exact gz_m 126 (by omega)⟩, ⟨by exact gz_m 127 (by omega), by exact gz_m 128 (by omega)⟩⟩ (fun c119 => ?_) (fun c119 => ?_)
      · refine gv_run 2 true hD (pc' := 43) (lv' := [(2, .inl 0), (0, .inr (.inr (some 0))), (1, .inl v1_5)]) (st' := []) (h' := gr_h I3 J4) (C := ((True ∧ True) ∧ True)) rfl ⟨⟨trivial, trivial⟩, trivial⟩ ?_
        refine gv_pick [1, 0] rfl ?_
        exact L43 _ I3 J4 0 (Nat.lt_succ_self _) hI3 FI3 FJ4 (by exact gz_m 129 (by omega)) (gr_O2_in e0_5 (by exact gz_m 130 (by omega)))
      · have t120 := gr_O1_b e0_5 (by exact gz_m 131 (by omega)) (by exact gz_m 132 (by omega)) (by exact gz_m 133 (by omega))
        refine gv_run 4 true hD (pc' := 18) (lv' := [(0, .inr (.inr (some 0))), (1, .inl v1_5), (2, .inl v2_5)]) (st' := [.inl v1_5, .inl v2_5, .inr (.inr (some 91))]) (h' := gr_h I3 J4) (C := ((((True ∧ True) ∧ True) ∧ True) ∧ True)) rfl ⟨⟨⟨⟨trivial, trivial⟩, trivial⟩, trivial⟩, trivial⟩ ?_
        refine gv_run 1 true hD (pc' := 19) (lv' := [(0, .inr (.inr (some 0))), (1, .inl v1_5), (2, .inl v2_5)]) (st' := []) (h' := gz_up (gr_h I3 J4) 91 (Int.toNat v2_5) (.inl v1_5)) (C := (True ∧ (0 ≤ v2_5 ∧ v2_5 < ((3001 : Nat) : Int)))) rfl ⟨trivial, ⟨by exact gz_m 134 (by omega), by exact gz_m 135 (by omega)⟩⟩ ?_
        refine gr_st hI3 FI3 rfl rfl ⟨⟨by show 0 ≤ _; exact gz_m 136 (by omega), by show _ ≤ 9000; exact gz_m 137 (by omega)⟩, trivial⟩ (fun I121 hI121 FI121 q122 p122 => ?_)
        have t123 := p122 0 157 (fun q => absurd q.1 (by decide))
        have t124 := p122 0 158 (fun q => absurd q.1 (by decide))
        have t125 := p122 92 (Int.toNat v2_5) (fun q => absurd q.1 (by decide))
        have f126 := (gr_b_0_157 hI121)
        have f127 := (gr_b_0_158 hI121)
        have t128 := FI121 0 157 rfl
        have t129 := FI121 0 158 rfl
        have f130 := (gr_b_92 hI121 (Int.toNat v2_5))
        refine gv_run 5 true hD (pc' := 26) (lv' := [(0, .inr (.inr (some 0))), (1, .inl v1_5), (2, .inl v2_5)]) (st' := [.inl (I121 92 (Int.toNat v2_5)), .inl v1_5]) (h' := gr_h I121 J4) (C := (((((True ∧ True) ∧ True) ∧ True) ∧ True) ∧ (0 ≤ v2_5 ∧ v2_5 < ((3000 : Nat) : Int)))) rfl ⟨⟨⟨⟨⟨trivial, trivial⟩, trivial⟩, trivial⟩, trivial⟩, ⟨by exact gz_m 138 (by omega), by exact gz_m 139 (by omega)⟩⟩ ?_
        refine gv_run 6 true hD (pc' := 34) (lv' := [(1, .inl (v1_5 + (I121 92 (Int.toNat v2_5)))), (0, .inr (.inr (some 0))), (2, .inl v2_5)]) (st' := [.inl 0, .inl v2_5, .inr (.inr (some 92))]) (h' := gr_h I121 J4) (C := ((((((True ∧ True) ∧ True) ∧ True) ∧ True) ∧ True) ∧ True)) rfl ⟨⟨⟨⟨⟨⟨trivial, trivial⟩, trivial⟩, trivial⟩, trivial⟩, trivial⟩, trivial⟩ ?_
        refine gv_run 1 true hD (pc' := 35) (lv' := [(1, .inl (v1_5 + (I121 92 (Int.toNat v2_5)))), (0, .inr (.inr (some 0))), (2, .inl v2_5)]) (st' := []) (h' := gz_up (gr_h I121 J4) 92 (Int.toNat v2_5) (.inl 0)) (C := (True ∧ (0 ≤ v2_5 ∧ v2_5 < ((3000 : Nat) : Int)))) rfl ⟨trivial, ⟨by exact gz_m 140 (by omega), by exact gz_m 141 (by omega)⟩⟩ ?_
        refine gr_st hI121 FI121 rfl rfl ⟨⟨by show 0 ≤ _; exact gz_m 142 (by omega), by show _ ≤ 9000; exact gz_m 143 (by omega)⟩, trivial⟩ (fun I131 hI131 FI131 q132 p132 => ?_)
        have t133 := p132 0 157 (fun q => absurd q.1 (by decide))
        have t134 := p132 0 158 (fun q => absurd q.1 (by decide))
        have t135 := p132 91 (Int.toNat v2_5) (fun q => absurd q.1 (by decide))
        have f136 := (gr_b_0_157 hI131)
        have f137 := (gr_b_0_158 hI131)
        have t138 := FI131 0 157 rfl
        have t139 := FI131 0 158 rfl
        refine gv_run 2 true hD (pc' := 4) (lv' := [(2, .inl (v2_5 + 1)), (1, .inl (v1_5 + (I121 92 (Int.toNat v2_5)))), (0, .inr (.inr (some 0)))]) (st' := []) (h' := gr_h I131 J4) (C := ((True ∧ True) ∧ True)) rfl ⟨⟨trivial, trivial⟩, trivial⟩ ?_
        refine gv_pick [2, 1, 0] rfl ?_
        exact ih4 I131 J4 ((v1_5 + (I121 92 (Int.toNat v2_5)))) (v2_5 + 1) (by exact gz_m 144 (by omega)) hI131 FI131 FJ4 (by exact gz_m 145 (by omega)) (gr_O1_nx e0_5 (by exact gz_m 146 (by omega)) (by exact gz_m 147 (by omega)) p122 q122 p132 q132)
  refine gv_run 4 true hD (pc' := 4) (lv' := [(2, .inl 0), (1, .inl 0), (0, .inr (.inr (some 0)))]) (st' := []) (h' := gr_h I J) (C := ((((True ∧ True) ∧ True) ∧ True) ∧ True)) rfl ⟨⟨⟨⟨trivial, trivial⟩, trivial⟩, trivial⟩, trivial⟩ ?_
  refine gv_pick [2, 1, 0] rfl ?_
  exact L4 _ I J 0 0 (Nat.lt_succ_self _) hI FI FJ (by exact gz_m 148 (by omega)) (gr_O1_in x0)
