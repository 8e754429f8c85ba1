/-! THE FIRST STATE: what the constructor leaves has all that the House keeps. -/
def gk_I0 : gr_I := fun p k => if p = 1 then (if k = 5 then -1 else 0) else if p = 39 then (if k = 2 then -1 else 0) else if p = 48 then (if k = 13 then -1 else if k = 14 then -1 else 0) else if p = 61 then (if k = 2 then -1 else if k = 10 then 1 else 0) else if p = 74 then (if k = 1 then -1 else 0) else if p = 86 then (if k = 4 then 1 else if k = 5 then 1 else 0) else 0
def gk_J0 : gr_J := fun _ _ => 0
def gk_A0 : gc_A := fun p k => gc_rf gc_rfl p k
def gk_r0 : Nat → Nat := fun p => gr_nth gc_brl p
theorem gk_nd_le : ∀ (l : List Int) (d : Int) (k : Nat), l.all (fun z => decide (z ≤ 0)) = true → d ≤ 0 → gc_nd l d k ≤ 0
  | [], _, _, _, hd => hd
  | x :: l, d, 0, h, _ => by
    rw [List.all_cons, Bool.and_eq_true] at h
    exact of_decide_eq_true h.1
  | x :: l, d, k + 1, h, hd => by
    rw [List.all_cons, Bool.and_eq_true] at h
    exact gk_nd_le l d k h.2 hd
theorem gk_nd_ge : ∀ (l : List Int) (d : Int) (k : Nat), l.all (fun z => decide (0 ≤ z)) = true → 0 ≤ d → 0 ≤ gc_nd l d k
  | [], _, _, _, hd => hd
  | x :: l, d, 0, h, _ => by
    rw [List.all_cons, Bool.and_eq_true] at h
    exact of_decide_eq_true h.1
  | x :: l, d, k + 1, h, hd => by
    rw [List.all_cons, Bool.and_eq_true] at h
    exact gk_nd_ge l d k h.2 hd
theorem gk_np_le : ∀ (L : List (Nat × List Int × Int)) (r : Nat), L.all (fun x => x.2.1.all (fun z => decide (z ≤ 0)) && decide (x.2.2 ≤ 0)) = true → (gc_np L r).2.1.all (fun z => decide (z ≤ 0)) = true ∧ (gc_np L r).2.2 ≤ 0
  | [], _, _ => ⟨rfl, Int.le_refl 0⟩
  | x :: L, 0, h => by
    rw [List.all_cons, Bool.and_eq_true, Bool.and_eq_true] at h
    exact ⟨h.1.1, of_decide_eq_true h.1.2⟩
  | x :: L, r + 1, h => by
    rw [List.all_cons, Bool.and_eq_true] at h
    exact gk_np_le L r h.2
theorem gk_np_ge : ∀ (L : List (Nat × List Int × Int)) (r : Nat), L.all (fun x => x.2.1.all (fun z => decide (0 ≤ z)) && decide (0 ≤ x.2.2)) = true → (gc_np L r).2.1.all (fun z => decide (0 ≤ z)) = true ∧ 0 ≤ (gc_np L r).2.2
  | [], _, _ => ⟨rfl, Int.le_refl 0⟩
  | x :: L, 0, h => by
    rw [List.all_cons, Bool.and_eq_true, Bool.and_eq_true] at h
    exact ⟨h.1.1, of_decide_eq_true h.1.2⟩
  | x :: L, r + 1, h => by
    rw [List.all_cons, Bool.and_eq_true] at h
    exact gk_np_ge L r h.2
theorem gk_at_le : ∀ (x : Nat × List Int × Int) (k : Nat), x.2.1.all (fun z => decide (z ≤ 0)) = true ∧ x.2.2 ≤ 0 → gc_at x k ≤ 0
  | (0, l, d), k, h => gk_nd_le l d k h.1 h.2
  | (m + 1, l, d), k, h => gk_nd_le l d (k % (m + 1)) h.1 h.2
theorem gk_at_ge : ∀ (x : Nat × List Int × Int) (k : Nat), x.2.1.all (fun z => decide (0 ≤ z)) = true ∧ 0 ≤ x.2.2 → 0 ≤ gc_at x k
  | (0, l, d), k, h => gk_nd_ge l d k h.1 h.2
  | (m + 1, l, d), k, h => gk_nd_ge l d (k % (m + 1)) h.1 h.2
/-- 0 is in the range of every role -/
theorem gk_0 (r k : Nat) : gc_lo r k ≤ 0 ∧ 0 ≤ gc_hi r k := ⟨gk_at_le _ k (gk_np_le gc_rl r (by decide +kernel)), gk_at_ge _ k (gk_np_ge gc_rh r (by decide +kernel))⟩
theorem gk_inv : gc_Inv gk_r0 gk_I0 := fun p k => by
  unfold gk_I0
  have h0 := gk_0 (gk_r0 p) k
  by_cases h1 : p = 1
  · subst h1
    rw [if_pos rfl]
    by_cases h : k = 5
    · subst h
      decide
    · rw [if_neg h]
      exact h0
  rw [if_neg h1]
  by_cases h2 : p = 39
  · subst h2
    rw [if_pos rfl]
    by_cases h : k = 2
    · subst h
      decide
    · rw [if_neg h]
      exact h0
  rw [if_neg h2]
  by_cases h3 : p = 48
  · subst h3
    rw [if_pos rfl]
    by_cases h : k = 13
    · subst h
      decide
    · rw [if_neg h]
      by_cases g : k = 14
      · subst g
        decide
      · rw [if_neg g]
        exact h0
  rw [if_neg h3]
  by_cases h4 : p = 61
  · subst h4
    rw [if_pos rfl]
    by_cases h : k = 2
    · subst h
      decide
    · rw [if_neg h]
      by_cases g : k = 10
      · subst g
        decide
      · rw [if_neg g]
        exact h0
  rw [if_neg h4]
  by_cases h5 : p = 74
  · subst h5
    rw [if_pos rfl]
    by_cases h : k = 1
    · subst h
      decide
    · rw [if_neg h]
      exact h0
  rw [if_neg h5]
  by_cases h6 : p = 86
  · subst h6
    rw [if_pos rfl]
    by_cases h : k = 4
    · subst h
      decide
    · rw [if_neg h]
      by_cases g : k = 5
      · subst g
        decide
      · rw [if_neg g]
        exact h0
  rw [if_neg h6]
  exact h0
theorem gk_b (p k : Nat) : -1 ≤ gk_I0 p k ∧ gk_I0 p k ≤ 1 := by
  unfold gk_I0
  repeat' split
  all_goals omega
theorem gk_rf : ∀ (l : List (Nat × Nat × Nat)) (p k q : Nat), gc_rf l p k = some q → ∃ x ∈ l, x.1 = p ∧ x.2.2 = q
  | [], _, _, _, h => by cases h
  | x :: l, p, k, q, h => by
    unfold gc_rf at h
    cases hb : (Nat.beq x.1 p && Nat.beq x.2.1 k) with
    | true =>
      rw [hb] at h
      rw [Bool.and_eq_true] at hb
      exact ⟨x, List.mem_cons_self, Nat.eq_of_beq_eq_true hb.1, Option.some.inj h⟩
    | false =>
      rw [hb] at h
      obtain ⟨y, h1, h2⟩ := gk_rf l p k q h
      exact ⟨y, List.mem_cons_of_mem _ h1, h2⟩
theorem gk_rfa : ∀ x ∈ gc_rfl, x.1 < 144 ∧ ¬ x.1 = 10 ∧ x.2.2 < 144 := by decide +kernel
theorem gk_A (p k q : Nat) (h : gk_A0 p k = some q) : p < 144 ∧ ¬ p = 10 ∧ q < 144 := by
  obtain ⟨x, hx, rfl, rfl⟩ := gk_rf _ _ _ _ h
  exact gk_rfa x hx
theorem gk_len : gc_bs.length = 144 := by decide +kernel
theorem gk_ob : ∀ p : Fin 144, ∀ ci n, gc_bs[p.val]? = some (false, ci, n) → p.val ≤ 106 := by
  have h : ∀ p : Fin 144, (match gc_bs[p.val]? with | some (false, _, _) => decide (p.val ≤ 106) | _ => true) = true := by decide +kernel
  intro p ci n hp
  have h9 := h p
  rw [hp] at h9
  exact of_decide_eq_true h9
theorem gk_nth : ∀ (l : List Nat) (k : Nat) (f : Nat → Bool), f 0 = true → l.all f = true → f (gr_nth l k) = true
  | [], _, _, h0, _ => h0
  | x :: l, 0, f, _, h => by
    rw [List.all_cons, Bool.and_eq_true] at h
    exact h.1
  | x :: l, k + 1, f, h0, h => by
    rw [List.all_cons, Bool.and_eq_true] at h
    exact gk_nth l k f h0 h.2
theorem gk_nlt : ∀ (L : List (List Nat)) (ci k : Nat) (f : Nat → Bool), f 0 = true → L.all (fun l => l.all f) = true → f (gr_nth (gc_nl L ci) k) = true
  | [], _, k, f, h0, _ => gk_nth [] k f h0 rfl
  | x :: L, 0, k, f, h0, h => by
    rw [List.all_cons, Bool.and_eq_true] at h
    exact gk_nth x k f h0 h.1
  | x :: L, ci + 1, k, f, h0, h => by
    rw [List.all_cons, Bool.and_eq_true] at h
    exact gk_nlt L ci k f h0 h.2
def gk_f (c : Nat) : Bool := decide (c < 10 ∨ ((c - 10) % 1000 ≤ 6 ∧ (c - 10) / 1000 ≤ 1))
theorem gk_ty {p k n : Nat} (hp : p < 144) (h : gc_ty gc_bs p k = n + 10) : p ≤ 106 ∧ n % 1000 ≤ 6 ∧ n / 1000 ≤ 1 := by
  unfold gc_ty at h
  cases hx : gc_bs[p]? with
  | none =>
    rw [hx] at h
    have h : 0 = n + 10 := h
    omega
  | some x =>
    rw [hx] at h
    obtain ⟨b, ci, m⟩ := x
    cases b with
    | true =>
      have h : cond (Nat.beq ci 2) 1 (cond (Nat.ble ci 3) 0 2) = n + 10 := h
      cases h1 : Nat.beq ci 2 with
      | true =>
        rw [h1] at h
        have h : 1 = n + 10 := h
        omega
      | false =>
        rw [h1] at h
        have h : cond (Nat.ble ci 3) 0 2 = n + 10 := h
        cases h2 : Nat.ble ci 3 with
        | true =>
          rw [h2] at h
          have h : 0 = n + 10 := h
          omega
        | false =>
          rw [h2] at h
          have h : 2 = n + 10 := h
          omega
    | false =>
      have h : gr_nth (gc_nl gc_ts ci) k = n + 10 := h
      have h9 := gk_nlt gc_ts ci k gk_f rfl (by decide +kernel)
      rw [h] at h9
      have h8 : n + 10 < 10 ∨ ((n + 10 - 10) % 1000 ≤ 6 ∧ (n + 10 - 10) / 1000 ≤ 1) := of_decide_eq_true h9
      have h7 := gk_ob ⟨p, hp⟩ ci m hx
      rw [Nat.add_sub_cancel] at h8
      refine ⟨h7, ?_, ?_⟩
      · rcases h8 with h8 | h8
        · omega
        · exact h8.1
      · rcases h8 with h8 | h8
        · omega
        · exact h8.2
def gk_m (i k : Nat) (c : Nat) : gz_V := match c with
  | 0 => .inl (gk_I0 i k)
  | 1 => .inr (.inl (gk_J0 i k))
  | 2 => .inr (.inr (gk_A0 i k))
  | 5 => .inr (.inr (if gk_I0 i k < 0 then none else some (Int.toNat (gk_I0 i k))))
  | n + 10 => .inr (.inr (some (i + n % 1000 + (n / 1000 + 1) * Int.toNat (gk_I0 i k))))
  | _ => .inl 0
theorem gk_wf : gz_wf gc_bs (gc_h gc_bs gk_I0 gk_J0 gk_A0) := fun i hi k => by
  rw [gk_len] at hi
  have hb := gk_b i k
  rw [show gc_h gc_bs gk_I0 gk_J0 gk_A0 i k = gk_m i k (gc_ty gc_bs i k) from rfl]
  generalize hc : gc_ty gc_bs i k = c
  match c, hc with
  | 0, _ => exact True.intro
  | 1, _ => exact True.intro
  | 2, _ =>
    show gz_okv gc_bs.length (.inr (.inr (gk_A0 i k)))
    cases hA : gk_A0 i k with
    | none => exact True.intro
    | some q => exact Or.inl (by rw [gk_len]; exact (gk_A i k q hA).2.2)
  | 3, _ => exact True.intro
  | 4, _ => exact True.intro
  | 5, _ =>
    show gz_okv gc_bs.length (.inr (.inr (if gk_I0 i k < 0 then none else some (Int.toNat (gk_I0 i k)))))
    by_cases h : gk_I0 i k < 0
    · rw [if_pos h]
      exact True.intro
    · rw [if_neg h]
      exact Or.inl (by rw [gk_len]; omega)
  | 6, _ => exact True.intro
  | 7, _ => exact True.intro
  | 8, _ => exact True.intro
  | 9, _ => exact True.intro
  | n + 10, hc =>
    obtain ⟨h1, h2, h3⟩ := gk_ty hi hc
    have h4 : (n / 1000 + 1) * Int.toNat (gk_I0 i k) ≤ 2 * 1 := Nat.mul_le_mul (by omega) (by omega)
    exact Or.inl (by rw [gk_len]; omega)
theorem gk_z : gc_Z gc_bs gk_I0 gk_J0 gk_A0 := fun i hi k => by
  rw [gk_len] at hi
  refine ⟨?_, rfl, ?_⟩
  · unfold gk_I0
    rw [if_neg (by omega), if_neg (by omega), if_neg (by omega), if_neg (by omega), if_neg (by omega), if_neg (by omega)]
  · cases h : gk_A0 i k with
    | none => rfl
    | some q => exact absurd (gk_A i k q h).1 (by omega)
/-- the first state has all that the House keeps -/
theorem gk_HS : gh_HS gc_bs gk_r0 gk_I0 gk_J0 gk_A0 :=
  ⟨⟨⟨[], (List.append_nil _).symm⟩, fun _ _ => rfl, fun _ _ _ h => h⟩, gk_inv, ⟨gk_wf, gk_z⟩, ⟨fun i t _ h => absurd rfl (gk_A 10 i t h).2.1, fun i j t _ _ h _ => absurd rfl (gk_A 10 i t h).2.1⟩,
    fun i hi => by
      have h8 : gk_I0 8 1 = 0 := rfl
      omega,
    fun f _ h => by
      have h8 : gk_I0 15 f = 0 := rfl
      omega, by decide⟩
theorem gk_HC : gh_HC gc_bs gk_r0 gk_A0 gk_I0 :=
  ⟨fun k _ => by
      have h1 : gk_I0 49 k = 0 := rfl
      have h2 : gk_I0 50 k = 0 := rfl
      omega,
    fun k _ _ => by
      have h1 : gk_I0 49 k = 0 := rfl
      have h2 : gk_I0 50 k = 0 := rfl
      omega, by decide, Or.inl rfl,
    fun i hi => by
      have h8 : gk_I0 100 9 = 0 := rfl
      omega,
    fun i t _ h => absurd rfl (gk_A 10 i t h).2.1, fun p _ => Or.inl rfl, Or.inl ⟨rfl, rfl⟩⟩
