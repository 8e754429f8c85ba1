theorem gc_z1 : ∀ k, gc_lo 1 k ≤ 0 ∧ 0 ≤ gc_hi 1 k := fun k => ⟨show (-128) ≤ (0 : Int) from by decide, show (0 : Int) ≤ 127 from by decide⟩
theorem gc_z6 : ∀ k, gc_lo 6 k ≤ 0 ∧ 0 ≤ gc_hi 6 k := fun k => match k with
  | 0 => ⟨by decide, by decide⟩
  | 1 => ⟨by decide, by decide⟩
  | _ + 2 => ⟨show (-2147483648) ≤ (0 : Int) from by decide, show (0 : Int) ≤ 2147483647 from by decide⟩
theorem gc_z7 : ∀ k, gc_lo 7 k ≤ 0 ∧ 0 ≤ gc_hi 7 k := fun k => match k with
  | 0 => ⟨by decide, by decide⟩
  | 1 => ⟨by decide, by decide⟩
  | _ + 2 => ⟨show (-2147483648) ≤ (0 : Int) from by decide, show (0 : Int) ≤ 2147483647 from by decide⟩
theorem gc_z8 : ∀ k, gc_lo 8 k ≤ 0 ∧ 0 ≤ gc_hi 8 k := fun k => match k with
  | 0 => ⟨by decide, by decide⟩
  | 1 => ⟨by decide, by decide⟩
  | _ + 2 => ⟨show (-2147483648) ≤ (0 : Int) from by decide, show (0 : Int) ≤ 2147483647 from by decide⟩
theorem gc_z10 : ∀ k, gc_lo 10 k ≤ 0 ∧ 0 ≤ gc_hi 10 k := fun k => match k with
  | 0 => ⟨by decide, by decide⟩
  | 1 => ⟨by decide, by decide⟩
  | _ + 2 => ⟨show (-2147483648) ≤ (0 : Int) from by decide, show (0 : Int) ≤ 2147483647 from by decide⟩
theorem gc_z23 : ∀ k, gc_lo 23 k ≤ 0 ∧ 0 ≤ gc_hi 23 k := fun k => match k with
  | 0 => ⟨by decide, by decide⟩
  | 1 => ⟨by decide, by decide⟩
  | 2 => ⟨by decide, by decide⟩
  | 3 => ⟨by decide, by decide⟩
  | 4 => ⟨by decide, by decide⟩
  | 5 => ⟨by decide, by decide⟩
  | 6 => ⟨by decide, by decide⟩
  | 7 => ⟨by decide, by decide⟩
  | 8 => ⟨by decide, by decide⟩
  | 9 => ⟨by decide, by decide⟩
  | 10 => ⟨by decide, by decide⟩
  | 11 => ⟨by decide, by decide⟩
  | 12 => ⟨by decide, by decide⟩
  | 13 => ⟨by decide, by decide⟩
  | 14 => ⟨by decide, by decide⟩
  | 15 => ⟨by decide, by decide⟩
  | _ + 16 => ⟨show (-2147483648) ≤ (0 : Int) from by decide, show (0 : Int) ≤ 2147483647 from by decide⟩
theorem gc_z24 : ∀ k, gc_lo 24 k ≤ 0 ∧ 0 ≤ gc_hi 24 k := fun k => match k with
  | 0 => ⟨by decide, by decide⟩
  | 1 => ⟨by decide, by decide⟩
  | 2 => ⟨by decide, by decide⟩
  | 3 => ⟨by decide, by decide⟩
  | 4 => ⟨by decide, by decide⟩
  | 5 => ⟨by decide, by decide⟩
  | 6 => ⟨by decide, by decide⟩
  | 7 => ⟨by decide, by decide⟩
  | 8 => ⟨by decide, by decide⟩
  | 9 => ⟨by decide, by decide⟩
  | _ + 10 => ⟨show (-2147483648) ≤ (0 : Int) from by decide, show (0 : Int) ≤ 2147483647 from by decide⟩
theorem gc_z30 : ∀ k, gc_lo 30 k ≤ 0 ∧ 0 ≤ gc_hi 30 k := fun k => ⟨show 0 ≤ (0 : Int) from by decide, show (0 : Int) ≤ 7 from by decide⟩
theorem gc_z31 : ∀ k, gc_lo 31 k ≤ 0 ∧ 0 ≤ gc_hi 31 k := fun k => ⟨show 0 ≤ (0 : Int) from by decide, show (0 : Int) ≤ 6 from by decide⟩
theorem gc_z32 : ∀ k, gc_lo 32 k ≤ 0 ∧ 0 ≤ gc_hi 32 k := fun k => ⟨show 0 ≤ (0 : Int) from by decide, show (0 : Int) ≤ 24 from by decide⟩
theorem gc_z33 : ∀ k, gc_lo 33 k ≤ 0 ∧ 0 ≤ gc_hi 33 k := fun k => ⟨show (-1) ≤ (0 : Int) from by decide, show (0 : Int) ≤ 24 from by decide⟩
theorem gc_z34 : ∀ k, gc_lo 34 k ≤ 0 ∧ 0 ≤ gc_hi 34 k := fun k => ⟨show (-1) ≤ (0 : Int) from by decide, show (0 : Int) ≤ 1535 from by decide⟩
theorem gc_z35 : ∀ k, gc_lo 35 k ≤ 0 ∧ 0 ≤ gc_hi 35 k := fun k => ⟨show 0 ≤ (0 : Int) from by decide, show (0 : Int) ≤ 1535 from by decide⟩
theorem gc_z39 : ∀ k, gc_lo 39 k ≤ 0 ∧ 0 ≤ gc_hi 39 k := fun k => by
  have h : k % 3 < 3 := Nat.mod_lt _ (by decide)
  rw [show gc_lo 39 k = gc_lo 39 (k % 3) from gc_at_mod (x := gc_np gc_rl 39) (m := 2) rfl rfl, show gc_hi 39 k = gc_hi 39 (k % 3) from gc_at_mod (x := gc_np gc_rh 39) (m := 2) rfl rfl]
  revert h
  generalize k % 3 = c
  intro h
  match c, h with
  | 0, _ => exact ⟨by decide, by decide⟩
  | 1, _ => exact ⟨by decide, by decide⟩
  | 2, _ => exact ⟨by decide, by decide⟩
  | _ + 3, h => exact absurd h (by omega)
theorem gc_z40 : ∀ k, gc_lo 40 k ≤ 0 ∧ 0 ≤ gc_hi 40 k := fun k => by
  have h : k % 11 < 11 := Nat.mod_lt _ (by decide)
  rw [show gc_lo 40 k = gc_lo 40 (k % 11) from gc_at_mod (x := gc_np gc_rl 40) (m := 10) rfl rfl, show gc_hi 40 k = gc_hi 40 (k % 11) from gc_at_mod (x := gc_np gc_rh 40) (m := 10) rfl rfl]
  revert h
  generalize k % 11 = c
  intro h
  match c, h with
  | 0, _ => exact ⟨by decide, by decide⟩
  | 1, _ => exact ⟨by decide, by decide⟩
  | 2, _ => exact ⟨by decide, by decide⟩
  | 3, _ => exact ⟨by decide, by decide⟩
  | 4, _ => exact ⟨by decide, by decide⟩
  | 5, _ => exact ⟨by decide, by decide⟩
  | 6, _ => exact ⟨by decide, by decide⟩
  | 7, _ => exact ⟨by decide, by decide⟩
  | 8, _ => exact ⟨by decide, by decide⟩
  | 9, _ => exact ⟨by decide, by decide⟩
  | 10, _ => exact ⟨by decide, by decide⟩
  | _ + 11, h => exact absurd h (by omega)
theorem gc_z41 : ∀ k, gc_lo 41 k ≤ 0 ∧ 0 ≤ gc_hi 41 k := fun k => by
  have h : k % 25 < 25 := Nat.mod_lt _ (by decide)
  rw [show gc_lo 41 k = gc_lo 41 (k % 25) from gc_at_mod (x := gc_np gc_rl 41) (m := 24) rfl rfl, show gc_hi 41 k = gc_hi 41 (k % 25) from gc_at_mod (x := gc_np gc_rh 41) (m := 24) rfl rfl]
  revert h
  generalize k % 25 = c
  intro h
  match c, h with
  | 0, _ => exact ⟨by decide, by decide⟩
  | 1, _ => exact ⟨by decide, by decide⟩
  | 2, _ => exact ⟨by decide, by decide⟩
  | 3, _ => exact ⟨by decide, by decide⟩
  | 4, _ => exact ⟨by decide, by decide⟩
  | 5, _ => exact ⟨by decide, by decide⟩
  | 6, _ => exact ⟨by decide, by decide⟩
  | 7, _ => exact ⟨by decide, by decide⟩
  | 8, _ => exact ⟨by decide, by decide⟩
  | 9, _ => exact ⟨by decide, by decide⟩
  | 10, _ => exact ⟨by decide, by decide⟩
  | 11, _ => exact ⟨by decide, by decide⟩
  | 12, _ => exact ⟨by decide, by decide⟩
  | 13, _ => exact ⟨by decide, by decide⟩
  | 14, _ => exact ⟨by decide, by decide⟩
  | 15, _ => exact ⟨by decide, by decide⟩
  | 16, _ => exact ⟨by decide, by decide⟩
  | 17, _ => exact ⟨by decide, by decide⟩
  | 18, _ => exact ⟨by decide, by decide⟩
  | 19, _ => exact ⟨by decide, by decide⟩
  | 20, _ => exact ⟨by decide, by decide⟩
  | 21, _ => exact ⟨by decide, by decide⟩
  | 22, _ => exact ⟨by decide, by decide⟩
  | 23, _ => exact ⟨by decide, by decide⟩
  | 24, _ => exact ⟨by decide, by decide⟩
  | _ + 25, h => exact absurd h (by omega)
def gc_roT : List Nat := [23, 6, 0, 10, 0, 30, 31, 7, 0, 0, 41, 8, 0, 32, 39, 40, 0, 24, 1, 33, 34, 34, 35, 1, 1]
theorem gc_roT0 : ∀ d k, gc_lo (gr_nth gc_roT d) k ≤ 0 ∧ 0 ≤ gc_hi (gr_nth gc_roT d) k := fun d k => match d with
  | 0 => gc_z23 k
  | 1 => gc_z6 k
  | 2 => gc_z0 k
  | 3 => gc_z10 k
  | 4 => gc_z0 k
  | 5 => gc_z30 k
  | 6 => gc_z31 k
  | 7 => gc_z7 k
  | 8 => gc_z0 k
  | 9 => gc_z0 k
  | 10 => gc_z41 k
  | 11 => gc_z8 k
  | 12 => gc_z0 k
  | 13 => gc_z32 k
  | 14 => gc_z39 k
  | 15 => gc_z40 k
  | 16 => gc_z0 k
  | 17 => gc_z24 k
  | 18 => gc_z1 k
  | 19 => gc_z33 k
  | 20 => gc_z34 k
  | 21 => gc_z34 k
  | 22 => gc_z35 k
  | 23 => gc_z1 k
  | 24 => gc_z1 k
  | _ + 25 => gc_z0 k
theorem gc_aq9 {sh t : gz_Sh} {n i q : Nat} {x : Bool × Nat × Nat} (hn : sh.length = n) (hq : q = n + i) (h : t[i]? = some x) : (sh ++ t)[q]? = some x := by
  subst hq
  subst hn
  rw [List.getElem?_append_right (Nat.le_add_right _ _), Nat.add_sub_cancel_left]
  exact h
theorem gc_apl {sh t : gz_Sh} {q : Nat} {x : Bool × Nat × Nat} (h : sh[q]? = some x) : (sh ++ t)[q]? = some x := by
  rw [List.getElem?_append_left (List.getElem?_eq_some_iff.mp h).1]
  exact h
theorem gc_tA_lt {A : gc_A} {p q k : Nat} (h : q < p) : gc_tA A p q k = A q k := by
  have h0 : ¬ q = p := by omega
  have h1 : ¬ q = p + 1 := by omega
  have h3 : ¬ q = p + 3 := by omega
  have h7 : ¬ q = p + 7 := by omega
  have h11 : ¬ q = p + 11 := by omega
  have h17 : ¬ q = p + 17 := by omega
  unfold gc_tA
  simp [gc_u, h0, h1, h3, h7, h11, h17]
theorem gc_tA_0_0 {A : gc_A} {p : Nat} : gc_tA A p p 0 = some (p + 1) := by
  unfold gc_tA
  simp [gc_u]
theorem gc_tA_1_0 {A : gc_A} {p : Nat} : gc_tA A p (p + 1) 0 = some (p + 2) := by
  unfold gc_tA
  simp [gc_u]
theorem gc_tA_0_1 {A : gc_A} {p : Nat} : gc_tA A p p 1 = some (p + 3) := by
  unfold gc_tA
  simp [gc_u]
theorem gc_tA_3_0 {A : gc_A} {p : Nat} : gc_tA A p (p + 3) 0 = some (p + 4) := by
  unfold gc_tA
  simp [gc_u]
theorem gc_tA_0_2 {A : gc_A} {p : Nat} : gc_tA A p p 2 = some (p + 5) := by
  unfold gc_tA
  simp [gc_u]
theorem gc_tA_0_3 {A : gc_A} {p : Nat} : gc_tA A p p 3 = some (p + 6) := by
  unfold gc_tA
  simp [gc_u]
theorem gc_tA_0_4 {A : gc_A} {p : Nat} : gc_tA A p p 4 = some (p + 7) := by
  unfold gc_tA
  simp [gc_u]
theorem gc_tA_7_0 {A : gc_A} {p : Nat} : gc_tA A p (p + 7) 0 = some (p + 8) := by
  unfold gc_tA
  simp [gc_u]
theorem gc_tA_0_5 {A : gc_A} {p : Nat} : gc_tA A p p 5 = some (p + 9) := by
  unfold gc_tA
  simp [gc_u]
theorem gc_tA_0_7 {A : gc_A} {p : Nat} : gc_tA A p p 7 = some (p + 10) := by
  unfold gc_tA
  simp [gc_u]
theorem gc_tA_0_8 {A : gc_A} {p : Nat} : gc_tA A p p 8 = some (p + 11) := by
  unfold gc_tA
  simp [gc_u]
theorem gc_tA_11_0 {A : gc_A} {p : Nat} : gc_tA A p (p + 11) 0 = some (p + 12) := by
  unfold gc_tA
  simp [gc_u]
theorem gc_tA_0_9 {A : gc_A} {p : Nat} : gc_tA A p p 9 = some (p + 13) := by
  unfold gc_tA
  simp [gc_u]
theorem gc_tA_0_10 {A : gc_A} {p : Nat} : gc_tA A p p 10 = some (p + 14) := by
  unfold gc_tA
  simp [gc_u]
theorem gc_tA_0_12 {A : gc_A} {p : Nat} : gc_tA A p p 12 = some (p + 15) := by
  unfold gc_tA
  simp [gc_u]
theorem gc_tA_0_14 {A : gc_A} {p : Nat} : gc_tA A p p 14 = some (p + 16) := by
  unfold gc_tA
  simp [gc_u]
theorem gc_tA_0_15 {A : gc_A} {p : Nat} : gc_tA A p p 15 = some (p + 17) := by
  unfold gc_tA
  simp [gc_u]
theorem gc_tA_17_0 {A : gc_A} {p : Nat} : gc_tA A p (p + 17) 0 = some 20 := by
  unfold gc_tA
  simp [gc_u]
theorem gc_tA_17_1 {A : gc_A} {p : Nat} : gc_tA A p (p + 17) 1 = some (p + 18) := by
  unfold gc_tA
  simp [gc_u]
theorem gc_tA_17_2 {A : gc_A} {p : Nat} : gc_tA A p (p + 17) 2 = some (p + 19) := by
  unfold gc_tA
  simp [gc_u]
theorem gc_tA_17_3 {A : gc_A} {p : Nat} : gc_tA A p (p + 17) 3 = some (p + 20) := by
  unfold gc_tA
  simp [gc_u]
theorem gc_tA_17_4 {A : gc_A} {p : Nat} : gc_tA A p (p + 17) 4 = some (p + 21) := by
  unfold gc_tA
  simp [gc_u]
theorem gc_tA_17_5 {A : gc_A} {p : Nat} : gc_tA A p (p + 17) 5 = some (p + 22) := by
  unfold gc_tA
  simp [gc_u]
def gc_MK (sh : gz_Sh) (ro : Nat → Nat) (I : gr_I) (J : gr_J) (A : gc_A) (a s : Nat) (shₚ : gz_Sh) (ro' : Nat → Nat) (Iₚ : gr_I) (Jₚ : gr_J) (Aₚ : gc_A) (t : Nat) : Prop := gc_ext sh ro A shₚ ro' Aₚ ∧ gc_Inv ro' Iₚ ∧ gc_OK shₚ Iₚ Jₚ Aₚ ∧ (gc_isTongue shₚ ro' Aₚ t ∧ 144 ≤ t ∧ Aₚ 10 (Int.toNat (I 8 1)) = some t) ∧ (∀ q k, q < sh.length → ¬ (q = 10 ∧ k = Int.toNat (I 8 1)) → Aₚ q k = A q k) ∧ (Iₚ 8 1 = I 8 1 + 1 ∧ Iₚ (t + 1) 1 = 0 ∧ Iₚ (t + 3) 1 = 0 ∧ Iₚ (t + 7) 1 = 0 ∧ Iₚ (t + 11) 1 = 0 ∧ Iₚ t 6 = 0 ∧ Iₚ t 11 = 0 ∧ Iₚ t 13 = 0) ∧ (∀ q j : Nat, q < sh.length → ((q = (t + 1) ∧ j = 1) ∨ (q = (t + 3) ∧ j = 1) ∨ (q = (t + 7) ∧ j = 1) ∨ (q = (t + 11) ∧ j = 1) ∨ (q = t ∧ j = 6) ∨ (q = t ∧ j = 11) ∨ (q = t ∧ j = 13) ∨ (q = 8 ∧ j = 1)) ∨ Iₚ q j = I q j) ∧ (∀ q j : Nat, q < sh.length → q = 9 ∨ Jₚ q j = J q j) ∧ ((A 10 (Int.toNat (I 8 1)) = some t ∧ shₚ = sh ∧ ro' = ro ∧ Aₚ = A ∧ a = 0 ∧ s = 0) ∨ (A 10 (Int.toNat (I 8 1)) = none ∧ t = sh.length ∧ shₚ.length = sh.length + 25 ∧ a = 25 ∧ s = 45714 ∧ (∀ j, Iₚ (t + 10) j = 0) ∧ gc_FB (t + 17) 0 Iₚ ∧ Iₚ (t + 17) 8 = 0 ∧ ¬ Iₚ (t + 17) 6 = Iₚ (t + 17) 7 ∧ Iₚ (t + 17) 9 = 0))
theorem gc_Yaas5 {E : gv_E} {Q : gz_S → Nat → Nat → Prop} {pc i w n m : Nat} {j : Int} {lv : List (Nat × gz_V)} {st : List gz_V} {sh : gz_Sh} {I : gr_I} {J : gr_J} {A : gc_A} (hD : gv_D E) (hi : E.2.2.2.2.2.2 pc = some .aastore) (hs : sh[i]? = some (true, 5, n)) (hw : sh[w]? = some (false, 11, m)) (hb : i < 1000000 ∧ w < 1000000 ∧ n < 2147483648) (hj : 0 ≤ j ∧ j < (n : Int)) (kk : gv_Y E Q (pc + 1, lv, st, sh, gc_h sh I J (gc_u A i (Int.toNat j) (some w)))) : gv_Y E Q (pc, lv, .inr (.inr (some w)) :: .inl j :: .inr (.inr (some i)) :: st, sh, gc_h sh I J A) := by
  refine gv_Yone (u' := (pc + 1, lv, st, sh, gz_up (gc_h sh I J A) i (Int.toNat j) (.inr (.inr (some w))))) (a := 0) (s := 0) (Or.inr (Or.inr (Or.inr (Or.inr (Or.inr (Or.inr (Or.inr (Or.inr (Or.inl (Or.inr (Or.inr (Or.inr (Or.inl ⟨i, w, 5, n, m, j, st, hD pc _ hi, rfl, hb.1, hb.2.1, hs, hb.2.2, hj.1, hj.2, Or.inr (Or.inl ⟨rfl, hw⟩), rfl, rfl, rfl⟩))))))))))))) ?_
  rw [gc_hUA hs rfl]
  obtain ⟨n9, v, a, s, g, q⟩ := kk
  exact ⟨n9, v, a, s, g, (show Q v (0 + a) (0 + s) from by rw [Nat.zero_add, Nat.zero_add]; exact q)⟩
