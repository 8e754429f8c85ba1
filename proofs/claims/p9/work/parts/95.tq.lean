/-! PARITY, the class's side: LIN: how many there may be; every argument stands -/
def gs_cs (g : Nat → Int) (n : Nat) : Nat → Int
  | 0 => 0
  | m + 1 => gs_cs g n m + gs_cf g (m : Int) n
theorem gs_cs_0 {g : Nat → Int} : ∀ m : Nat, gs_cs g 0 m = 0
  | 0 => rfl
  | m + 1 => by
    show gs_cs g 0 m + 0 = 0
    rw [gs_cs_0 m]
    rfl
set_option maxHeartbeats 8000000 in
theorem gs_cs_s {g : Nat → Int} {n : Nat} (h : 0 ≤ g n) : ∀ m : Nat, gs_cs g (n + 1) m = gs_cs g n m + (if g n < (m : Int) then 1 else 0)
  | 0 => by
    rw [if_neg (by exact gz_m 0 (by omega))]
    rfl
  | m + 1 => by
    show gs_cs g (n + 1) m + (gs_cf g (m : Int) n + (if g n = (m : Int) then 1 else 0)) = gs_cs g n m + gs_cf g (m : Int) n + (if g n < ((m + 1 : Nat) : Int) then 1 else 0)
    rw [gs_cs_s h m]
    by_cases c : g n = (m : Int)
    · rw [if_pos c, if_neg (by exact gz_m 1 (by omega)), if_pos (by exact gz_m 2 (by omega))]
      exact gz_m 3 (by omega)
    · rw [if_neg c]
      by_cases d : g n < (m : Int)
      · rw [if_pos d, if_pos (by exact gz_m 4 (by omega))]
        exact gz_m 5 (by omega)
      · rw [if_neg d, if_neg (by exact gz_m 6 (by omega))]
        exact gz_m 7 (by omega)
theorem gs_cs_n {g : Nat → Int} {m : Nat} : ∀ n : Nat, (∀ i : Nat, i < n → 0 ≤ g i ∧ g i < (m : Int)) → gs_cs g n m = (n : Int)
  | 0, _ => gs_cs_0 m
  | n + 1, h => by
    rw [gs_cs_s (h n (by exact gz_m 0 (by omega))).1, if_pos (h n (by exact gz_m 1 (by omega))).2, gs_cs_n n (fun i hi => h i (by exact gz_m 2 (by omega)))]
    exact gz_m 3 (by omega)
theorem gs_cs_b {g : Nat → Int} {n : Nat} {f : Int} (h : ∀ x : Int, 0 ≤ x → gs_cf g x n ≤ 4) (hf : gs_cf g f n < 4) (h0 : 0 ≤ f) : ∀ m : Nat, gs_cs g n m ≤ 4 * (m : Int) - (if f < (m : Int) then 1 else 0)
  | 0 => by
    rw [if_neg (by exact gz_m 0 (by omega))]
    show (0 : Int) ≤ _
    exact gz_m 1 (by omega)
  | m + 1 => by
    have a := gs_cs_b h hf h0 m
    have b := h (m : Int) (by exact gz_m 2 (by omega))
    show gs_cs g n m + gs_cf g (m : Int) n ≤ _
    by_cases c : f = (m : Int)
    · rw [c] at hf
      rw [if_neg (by exact gz_m 3 (by omega))] at a
      rw [if_pos (by exact gz_m 4 (by omega))]
      exact gz_m 5 (by omega)
    · by_cases d : f < (m : Int)
      · rw [if_pos d] at a
        rw [if_pos (by exact gz_m 6 (by omega))]
        exact gz_m 7 (by omega)
      · rw [if_neg d] at a
        rw [if_neg (by exact gz_m 8 (by omega))]
        exact gz_m 9 (by omega)
/-- while a function has fewer than 4 LINS there is room for one more -/
theorem gs_cf_room {g : Nat → Int} {n : Nat} {f : Int} (hg : ∀ i : Nat, i < n → 0 ≤ g i ∧ g i < 96) (h : ∀ x : Int, 0 ≤ x → gs_cf g x n ≤ 4) (hf : gs_cf g f n < 4) (h0 : 0 ≤ f ∧ f < 96) : n < 384 := by
  have a := gs_cs_n (m := 96) n hg
  have b := gs_cs_b h hf h0.1 96
  rw [if_pos (by omega)] at b
  omega
set_option maxHeartbeats 8000000 in
theorem gs_all_i {a : Nat → Int} : ∀ (m k : Nat), gs_all a m k = 1 ↔ ∀ j : Nat, k ≤ j → j < k + m → 0 ≤ a j
  | 0, k => ⟨fun _ j h1 h2 => absurd h2 (by exact gz_m 0 (by omega)), fun _ => rfl⟩
  | m + 1, k => by
    show (if a k < 0 then 0 else gs_all a m (k + 1)) = 1 ↔ _
    by_cases c : a k < 0
    · rw [if_pos c]
      exact ⟨fun h => absurd h (by first | exact gz_ne rfl | decide), fun h => absurd (h k (Nat.le_refl _) (by exact gz_m 1 (by omega))) (by exact gz_m 2 (by omega))⟩
    · rw [if_neg c, gs_all_i m (k + 1)]
      refine ⟨fun h j h1 h2 => ?_, fun h j h1 h2 => h j (by exact gz_m 3 (by omega)) (by exact gz_m 4 (by omega))⟩
      by_cases e : j = k
      · rw [e]
        exact gz_m 5 (by omega)
      · exact h j (by exact gz_m 6 (by omega)) (by exact gz_m 7 (by omega))
theorem gs_c1_so {I : gr_I} {a1 : Nat} {nf : Int} {a : Nat → Int} (h : gs_SO I a1 nf a) {j : Nat} (hj : j < 4) : gc_c1 (I (a1 + 6) j) = if (j : Int) < nf ∧ 0 ≤ a j then 1 else 0 := by
  have x := h j hj
  by_cases c : 0 ≤ I (a1 + 6) j
  · rw [gc_c1p c, if_pos (x.mp c)]
  · rw [gc_c1n (by omega), if_neg (fun e => c (x.mpr e))]
/-- fewer slots than arguments: not every argument stands -/
theorem gs_slots {I : gr_I} {a1 : Nat} {nf : Int} {a : Nat → Int} (ct : gc_CT a1 I) (h : gs_SO I a1 nf a) (hn : 1 ≤ nf ∧ nf ≤ 4) : I a1 8 < nf ↔ ¬ gs_all a (Int.toNat nf) 0 = 1 := by
  unfold gc_CT at ct
  rw [gs_c1_so h (j := 0) (by decide), gs_c1_so h (j := 1) (by decide), gs_c1_so h (j := 2) (by decide), gs_c1_so h (j := 3) (by decide)] at ct
  have b : ∀ j : Nat, (if (j : Int) < nf ∧ 0 ≤ a j then (1 : Int) else 0) ≤ (if (j : Int) < nf then 1 else 0) ∧ 0 ≤ (if (j : Int) < nf ∧ 0 ≤ a j then (1 : Int) else 0) ∧ (¬ (0 ≤ a j) → (if (j : Int) < nf ∧ 0 ≤ a j then (1 : Int) else 0) = 0) ∧ ((j : Int) < nf → 0 ≤ a j → (if (j : Int) < nf ∧ 0 ≤ a j then (1 : Int) else 0) = 1) ∧ (¬ (j : Int) < nf → (if (j : Int) < nf ∧ 0 ≤ a j then (1 : Int) else 0) = 0) := fun j => by
    by_cases c : (j : Int) < nf
    · by_cases d : 0 ≤ a j
      · rw [if_pos ⟨c, d⟩, if_pos c]
        exact ⟨by omega, by omega, fun e => absurd d e, fun _ _ => rfl, fun e => absurd c e⟩
      · rw [if_neg (fun e => d e.2), if_pos c]
        exact ⟨by omega, by omega, fun _ => rfl, fun _ e => absurd e d, fun e => absurd c e⟩
    · rw [if_neg (fun e => c e.1), if_neg c]
      exact ⟨by omega, by omega, fun _ => rfl, fun e => absurd e c, fun _ => rfl⟩
  have b0 := b 0
  have b1 := b 1
  have b2 := b 2
  have b3 := b 3
  rw [gs_all_i]
  constructor
  · intro hl hall
    have q : ∀ j : Nat, (j : Int) < nf → (if (j : Int) < nf ∧ 0 ≤ a j then (1 : Int) else 0) = 1 := fun j hj => (b j).2.2.2.1 hj (hall j (by omega) (by omega))
    rcases (show nf = 1 ∨ nf = 2 ∨ nf = 3 ∨ nf = 4 from by omega) with e | e | e | e
    · have := q 0 (by omega)
      omega
    · have := q 0 (by omega)
      have := q 1 (by omega)
      omega
    · have := q 0 (by omega)
      have := q 1 (by omega)
      have := q 2 (by omega)
      omega
    · have := q 0 (by omega)
      have := q 1 (by omega)
      have := q 2 (by omega)
      have := q 3 (by omega)
      omega
  · intro hn9
    apply Classical.byContradiction
    intro hge
    refine hn9 (fun j _ hj => ?_)
    apply Classical.byContradiction
    intro hj0
    have c0 : ∀ i : Nat, (if (i : Int) < nf ∧ 0 ≤ a i then (1 : Int) else 0) ≤ 1 ∧ (¬ (i : Int) < nf → (if (i : Int) < nf ∧ 0 ≤ a i then (1 : Int) else 0) = 0) := fun i => ⟨by by_cases c : (i : Int) < nf ∧ 0 ≤ a i; (rw [if_pos c]; omega); (rw [if_neg c]; omega), (b i).2.2.2.2⟩
    have d0 := c0 0
    have d1 := c0 1
    have d2 := c0 2
    have d3 := c0 3
    have z := (b j).2.2.1 hj0
    rcases (show j = 0 ∨ j = 1 ∨ j = 2 ∨ j = 3 from by omega) with e | e | e | e <;> subst e <;> clear b0 b1 b2 b3 b c0 <;> omega
