def gc_lr (n q : Nat) (ro : Nat → Nat) (l : List Nat) : Nat := if q < n then ro q else gr_nth l (q - n)
theorem gc_lr_lt {n q : Nat} {ro : Nat → Nat} {l : List Nat} (h : q < n) : gc_lr n q ro l = ro q := if_pos h
theorem gc_lr_ge {n d : Nat} {ro : Nat → Nat} {l : List Nat} : gc_lr n (n + d) ro l = gr_nth l d := by
  unfold gc_lr
  rw [if_neg (by omega), Nat.add_sub_cancel_left]
theorem gc_Inv_lr {ro : Nat → Nat} {sh : gz_Sh} {I : gr_I} {J : gr_J} {A : gc_A} {l : List Nat} (hI : gc_Inv ro I) (hz : gc_Z sh I J A) (h0 : ∀ d k, gc_lo (gr_nth l d) k ≤ 0 ∧ 0 ≤ gc_hi (gr_nth l d) k) : gc_Inv (fun q => gc_lr sh.length q ro l) I := fun q k => by
  by_cases e : q < sh.length
  · show gc_lo (gc_lr sh.length q ro l) k ≤ I q k ∧ I q k ≤ gc_hi (gc_lr sh.length q ro l) k
    rw [gc_lr_lt e]
    exact hI q k
  · show gc_lo (gc_lr sh.length q ro l) k ≤ I q k ∧ I q k ≤ gc_hi (gc_lr sh.length q ro l) k
    obtain ⟨d, rfl⟩ : ∃ d, q = sh.length + d := ⟨q - sh.length, by omega⟩
    rw [gc_lr_ge, (hz (sh.length + d) (by omega) k).1]
    exact h0 d k
theorem gc_linS8 {sh : gz_Sh} {ro : Nat → Nat} {A : gc_A} {p : Nat} (h : gc_isLin sh ro A p) : sh[p + 8]? = some (true, 1, 18) := by
  obtain ⟨b0, b1, b2, b3, b4, b5, b6, b7, b8, b9, b10, b11, b12, b13, b14, b15, b16, b17, b18, b19, b20, b21, b22, b23, b24, b25, b26, b27, b28, b29, b30, b31, b32, b33, b34⟩ := h
  exact b32
theorem gc_z0 : ∀ k, gc_lo 0 k ≤ 0 ∧ 0 ≤ gc_hi 0 k := fun k => ⟨show (-2147483648) ≤ (0 : Int) from by decide, show (0 : Int) ≤ 2147483647 from by decide⟩
theorem gc_z13 : ∀ k, gc_lo 13 k ≤ 0 ∧ 0 ≤ gc_hi 13 k := fun k => ⟨show 0 ≤ (0 : Int) from by decide, show (0 : Int) ≤ 16777215 from by decide⟩
theorem gc_z14 : ∀ k, gc_lo 14 k ≤ 0 ∧ 0 ≤ gc_hi 14 k := fun k => match k with
  | 0 => ⟨by decide, by decide⟩
  | 1 => ⟨by decide, by decide⟩
  | 2 => ⟨by decide, by decide⟩
  | 3 => ⟨by decide, by decide⟩
  | 4 => ⟨by decide, by decide⟩
  | 5 => ⟨by decide, by decide⟩
  | 6 => ⟨by decide, by decide⟩
  | 7 => ⟨by decide, by decide⟩
  | 8 => ⟨by decide, by decide⟩
  | 9 => ⟨by decide, by decide⟩
  | 10 => ⟨by decide, by decide⟩
  | 11 => ⟨by decide, by decide⟩
  | 12 => ⟨by decide, by decide⟩
  | 13 => ⟨by decide, by decide⟩
  | 14 => ⟨by decide, by decide⟩
  | 15 => ⟨by decide, by decide⟩
  | _ + 16 => ⟨show (-2147483648) ≤ (0 : Int) from by decide, show (0 : Int) ≤ 2147483647 from by decide⟩
theorem gc_z15 : ∀ k, gc_lo 15 k ≤ 0 ∧ 0 ≤ gc_hi 15 k := fun k => ⟨show (-1) ≤ (0 : Int) from by decide, show (0 : Int) ≤ 3 from by decide⟩
theorem gc_z16 : ∀ k, gc_lo 16 k ≤ 0 ∧ 0 ≤ gc_hi 16 k := fun k => ⟨show 0 ≤ (0 : Int) from by decide, show (0 : Int) ≤ 2000 from by decide⟩
theorem gc_z17 : ∀ k, gc_lo 17 k ≤ 0 ∧ 0 ≤ gc_hi 17 k := fun k => ⟨show 0 ≤ (0 : Int) from by decide, show (0 : Int) ≤ 24 from by decide⟩
theorem gc_z18 : ∀ k, gc_lo 18 k ≤ 0 ∧ 0 ≤ gc_hi 18 k := fun k => ⟨show 0 ≤ (0 : Int) from by decide, show (0 : Int) ≤ 3 from by decide⟩
theorem gc_z19 : ∀ k, gc_lo 19 k ≤ 0 ∧ 0 ≤ gc_hi 19 k := fun k => ⟨show (-1) ≤ (0 : Int) from by decide, show (0 : Int) ≤ 3 from by decide⟩
theorem gc_z20 : ∀ k, gc_lo 20 k ≤ 0 ∧ 0 ≤ gc_hi 20 k := fun k => by
  have h : k % 3 < 3 := Nat.mod_lt _ (by decide)
  rw [show gc_lo 20 k = gc_lo 20 (k % 3) from gc_at_mod (x := gc_np gc_rl 20) (m := 2) rfl rfl, show gc_hi 20 k = gc_hi 20 (k % 3) from gc_at_mod (x := gc_np gc_rh 20) (m := 2) rfl rfl]
  revert h
  generalize k % 3 = c
  intro h
  match c, h with
  | 0, _ => exact ⟨by decide, by decide⟩
  | 1, _ => exact ⟨by decide, by decide⟩
  | 2, _ => exact ⟨by decide, by decide⟩
  | _ + 3, h => exact absurd h (by omega)
theorem gc_z21 : ∀ k, gc_lo 21 k ≤ 0 ∧ 0 ≤ gc_hi 21 k := fun k => by
  have h : k % 3 < 3 := Nat.mod_lt _ (by decide)
  rw [show gc_lo 21 k = gc_lo 21 (k % 3) from gc_at_mod (x := gc_np gc_rl 21) (m := 2) rfl rfl, show gc_hi 21 k = gc_hi 21 (k % 3) from gc_at_mod (x := gc_np gc_rh 21) (m := 2) rfl rfl]
  revert h
  generalize k % 3 = c
  intro h
  match c, h with
  | 0, _ => exact ⟨by decide, by decide⟩
  | 1, _ => exact ⟨by decide, by decide⟩
  | 2, _ => exact ⟨by decide, by decide⟩
  | _ + 3, h => exact absurd h (by omega)
def gc_roL : List Nat := [14, 15, 16, 17, 18, 13, 19, 20, 21]
theorem gc_roL0 : ∀ d k, gc_lo (gr_nth gc_roL d) k ≤ 0 ∧ 0 ≤ gc_hi (gr_nth gc_roL d) k := fun d k => match d with
  | 0 => gc_z14 k
  | 1 => gc_z15 k
  | 2 => gc_z16 k
  | 3 => gc_z17 k
  | 4 => gc_z18 k
  | 5 => gc_z13 k
  | 6 => gc_z19 k
  | 7 => gc_z20 k
  | 8 => gc_z21 k
  | _ + 9 => gc_z0 k
def gc_RL (B : Int) (sh : gz_Sh) (ro : Nat → Nat) (I : gr_I) (J : gr_J) (A : gc_A) (t : Nat) (z : Int) (a s : Nat) (shₚ : gz_Sh) (ro' : Nat → Nat) (Iₚ : gr_I) (Jₚ : gr_J) (Aₚ : gc_A) : Prop := (0 ≤ z ∧ z ≤ 1) ∧ (a ≤ 9 ∧ s ≤ 82) ∧ shₚ.length ≤ sh.length + 9 ∧ gc_ext sh ro A shₚ ro' Aₚ ∧ gc_Inv ro' Iₚ ∧ gc_OK shₚ Iₚ Jₚ Aₚ ∧ gc_LT Iₚ ∧ gc_TK Iₚ ∧ (∀ q j : Nat, q < sh.length → ((q = 39 ∧ j = 3) ∨ (q = 39 ∧ j = 4) ∨ (q = 23 ∧ j = 5) ∨ (q = 23 ∧ j = 6) ∨ (q = 23 ∧ j = 7) ∨ (q = 23 ∧ j = 8) ∨ (q = 1 ∧ j = 17) ∨ (q = 1 ∧ j = 18) ∨ q = 20 ∨ (q = 39 ∧ j = 6) ∨ (q = 39 ∧ j = 7) ∨ (q = t ∧ j = 13)) ∨ Iₚ q j = I q j) ∧ (∀ q j : Nat, q < sh.length → ((q = 23 ∧ j = 9)) ∨ Jₚ q j = J q j) ∧ (Iₚ 23 1 = I 23 1 ∧ I 23 5 ≤ Iₚ 23 5 ∧ Iₚ 1 17 + Iₚ 23 1 ≤ B + Iₚ 23 5) ∧ ((z = 0 ∧ Iₚ t 13 = I t 13 ∧ ∀ q k, q < sh.length → Aₚ q k = A q k) ∨ (z = 1 ∧ Iₚ t 13 = I t 13 + 1 ∧ I t 13 ≤ 383 ∧ (∀ q k, q < sh.length → ¬ (q = t + 16 ∧ k = Int.toNat (I t 13)) → Aₚ q k = A q k) ∧ ∃ L, 144 ≤ L ∧ sh.length ≤ L ∧ Aₚ (t + 16) (Int.toNat (I t 13)) = some L ∧ gc_isLin shₚ ro' Aₚ L ∧ gc_LI L (Iₚ L 4) Iₚ ∧ gc_CT L Iₚ ∧ gc_UN L Iₚ ∧ (1 ≤ Iₚ L 4 ∧ 0 ≤ Iₚ L 1 ∧ Iₚ L 1 < Iₚ 4 1 ∧ Iₚ L 0 = I t 13 ∧ Iₚ 12 (Int.toNat (Iₚ L 1)) ≤ Iₚ L 8)))
theorem gc_Yaas {E : gv_E} {Q : gz_S → Nat → Nat → Prop} {pc i w n m : Nat} {j : Int} {lv : List (Nat × gz_V)} {st : List gz_V} {sh : gz_Sh} {I : gr_I} {J : gr_J} {A : gc_A} (hD : gv_D E) (hi : E.2.2.2.2.2.2 pc = some .aastore) (hs : sh[i]? = some (true, 4, n)) (hw : sh[w]? = some (false, 3, m)) (hb : i < 1000000 ∧ w < 1000000 ∧ n < 2147483648) (hj : 0 ≤ j ∧ j < (n : Int)) (kk : gv_Y E Q (pc + 1, lv, st, sh, gc_h sh I J (gc_u A i (Int.toNat j) (some w)))) : gv_Y E Q (pc, lv, .inr (.inr (some w)) :: .inl j :: .inr (.inr (some i)) :: st, sh, gc_h sh I J A) := by
  refine gv_Yone (u' := (pc + 1, lv, st, sh, gz_up (gc_h sh I J A) i (Int.toNat j) (.inr (.inr (some w))))) (a := 0) (s := 0) (Or.inr (Or.inr (Or.inr (Or.inr (Or.inr (Or.inr (Or.inr (Or.inr (Or.inl (Or.inr (Or.inr (Or.inr (Or.inl ⟨i, w, 4, n, m, j, st, hD pc _ hi, rfl, hb.1, hb.2.1, hs, hb.2.2, hj.1, hj.2, Or.inl ⟨rfl, hw⟩, rfl, rfl, rfl⟩))))))))))))) ?_
  rw [gc_hUA hs rfl]
  obtain ⟨n9, v, a, s, g, q⟩ := kk
  exact ⟨n9, v, a, s, g, (show Q v (0 + a) (0 + s) from by rw [Nat.zero_add, Nat.zero_add]; exact q)⟩
