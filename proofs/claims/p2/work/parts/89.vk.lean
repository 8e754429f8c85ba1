theorem gc_z1 : ∀ k, gc_lo 1 k ≤ 0 ∧ 0 ≤ gc_hi 1 k := fun k => ⟨show (-128) ≤ (0 : Int) from by decide, show (0 : Int) ≤ 127 from by decide⟩
theorem gc_z6 : ∀ k, gc_lo 6 k ≤ 0 ∧ 0 ≤ gc_hi 6 k := fun k => match k with
  | 0 => ⟨by decide, by decide⟩
  | 1 => ⟨by decide, by decide⟩
  | _ + 2 => ⟨show (-2147483648) ≤ (0 : Int) from by decide, show (0 : Int) ≤ 2147483647 from by decide⟩
theorem gc_z7 : ∀ k, gc_lo 7 k ≤ 0 ∧ 0 ≤ gc_hi 7 k := fun k => match k with
  | 0 => ⟨by decide, by decide⟩
  | 1 => ⟨by decide, by decide⟩
  | _ + 2 => ⟨show (-2147483648) ≤ (0 : Int) from by decide, show (0 : Int) ≤ 2147483647 from by decide⟩
theorem gc_z8 : ∀ k, gc_lo 8 k ≤ 0 ∧ 0 ≤ gc_hi 8 k := fun k => match k with
  | 0 => ⟨by decide, by decide⟩
  | 1 => ⟨by decide, by decide⟩
  | _ + 2 => ⟨show (-2147483648) ≤ (0 : Int) from by decide, show (0 : Int) ≤ 2147483647 from by decide⟩
theorem gc_z10 : ∀ k, gc_lo 10 k ≤ 0 ∧ 0 ≤ gc_hi 10 k := fun k => match k with
  | 0 => ⟨by decide, by decide⟩
  | 1 => ⟨by decide, by decide⟩
  | _ + 2 => ⟨show (-2147483648) ≤ (0 : Int) from by decide, show (0 : Int) ≤ 2147483647 from by decide⟩
theorem gc_z23 : ∀ k, gc_lo 23 k ≤ 0 ∧ 0 ≤ gc_hi 23 k := fun k => match k with
  | 0 => ⟨by decide, by decide⟩
  | 1 => ⟨by decide, by decide⟩
  | 2 => ⟨by decide, by decide⟩
  | 3 => ⟨by decide, by decide⟩
  | 4 => ⟨by decide, by decide⟩
  | 5 => ⟨by decide, by decide⟩
  | 6 => ⟨by decide, by decide⟩
  | 7 => ⟨by decide, by decide⟩
  | 8 => ⟨by decide, by decide⟩
  | 9 => ⟨by decide, by decide⟩
  | 10 => ⟨by decide, by decide⟩
  | 11 => ⟨by decide, by decide⟩
  | 12 => ⟨by decide, by decide⟩
  | 13 => ⟨by decide, by decide⟩
  | 14 => ⟨by decide, by decide⟩
  | 15 => ⟨by decide, by decide⟩
  | _ + 16 => ⟨show (-2147483648) ≤ (0 : Int) from by decide, show (0 : Int) ≤ 2147483647 from by decide⟩
theorem gc_z24 : ∀ k, gc_lo 24 k ≤ 0 ∧ 0 ≤ gc_hi 24 k := fun k => match k with
  | 0 => ⟨by decide, by decide⟩
  | 1 => ⟨by decide, by decide⟩
  | 2 => ⟨by decide, by decide⟩
  | 3 => ⟨by decide, by decide⟩
  | 4 => ⟨by decide, by decide⟩
  | 5 => ⟨by decide, by decide⟩
  | 6 => ⟨by decide, by decide⟩
  | 7 => ⟨by decide, by decide⟩
  | 8 => ⟨by decide, by decide⟩
  | 9 => ⟨by decide, by decide⟩
  | _ + 10 => ⟨show (-2147483648) ≤ (0 : Int) from by decide, show (0 : Int) ≤ 2147483647 from by decide⟩
theorem gc_z30 : ∀ k, gc_lo 30 k ≤ 0 ∧ 0 ≤ gc_hi 30 k := fun k => ⟨show 0 ≤ (0 : Int) from by decide, show (0 : Int) ≤ 7 from by decide⟩
theorem gc_z31 : ∀ k, gc_lo 31 k ≤ 0 ∧ 0 ≤ gc_hi 31 k := fun k => ⟨show 0 ≤ (0 : Int) from by decide, show (0 : Int) ≤ 6 from by decide⟩
theorem gc_z32 : ∀ k, gc_lo 32 k ≤ 0 ∧ 0 ≤ gc_hi 32 k := fun k => ⟨show 0 ≤ (0 : Int) from by decide, show (0 : Int) ≤ 24 from by decide⟩
theorem gc_z33 : ∀ k, gc_lo 33 k ≤ 0 ∧ 0 ≤ gc_hi 33 k := fun k => ⟨show (-1) ≤ (0 : Int) from by decide, show (0 : Int) ≤ 24 from by decide⟩
theorem gc_z34 : ∀ k, gc_lo 34 k ≤ 0 ∧ 0 ≤ gc_hi 34 k := fun k => ⟨show (-1) ≤ (0 : Int) from by decide, show (0 : Int) ≤ 1535 from by decide⟩
theorem gc_z35 : ∀ k, gc_lo 35 k ≤ 0 ∧ 0 ≤ gc_hi 35 k := fun k => ⟨show 0 ≤ (0 : Int) from by decide, show (0 : Int) ≤ 1535 from by decide⟩
theorem gc_z39 : ∀ k, gc_lo 39 k ≤ 0 ∧ 0 ≤ gc_hi 39 k := fun k => by
  have h : k % 3 < 3 := Nat.mod_lt _ (by decide)
  rw [show gc_lo 39 k = gc_lo 39 (k % 3) from gc_at_mod (x := gc_np gc_rl 39) (m := 2) rfl rfl, show gc_hi 39 k = gc_hi 39 (k % 3) from gc_at_mod (x := gc_np gc_rh 39) (m := 2) rfl rfl]
  revert h
  generalize k % 3 = c
  intro h
  match c, h with
  | 0, _ => exact ⟨by decide, by decide⟩
  | 1, _ => exact ⟨by decide, by decide⟩
  | 2, _ => exact ⟨by decide, by decide⟩
  | _ + 3, h => exact absurd h (by omega)
theorem gc_z40 : ∀ k, gc_lo 40 k ≤ 0 ∧ 0 ≤ gc_hi 40 k := fun k => by
  have h : k % 11 < 11 := Nat.mod_lt _ (by decide)
  rw [show gc_lo 40 k = gc_lo 40 (k % 11) from gc_at_mod (x := gc_np gc_rl 40) (m := 10) rfl rfl, show gc_hi 40 k = gc_hi 40 (k % 11) from gc_at_mod (x := gc_np gc_rh 40) (m := 10) rfl rfl]
  revert h
  generalize k % 11 = c
  intro h
  match c, h with
  | 0, _ => exact ⟨by decide, by decide⟩
  | 1, _ => exact ⟨by decide, by decide⟩
  | 2, _ => exact ⟨by decide, by decide⟩
  | 3, _ => exact ⟨by decide, by decide⟩
  | 4, _ => exact ⟨by decide, by decide⟩
  | 5, _ => exact ⟨by decide, by decide⟩
  | 6, _ => exact ⟨by decide, by decide⟩
  | 7, _ => exact ⟨by decide, by decide⟩
  | 8, _ => exact ⟨by decide, by decide⟩
  | 9, _ => exact ⟨by decide, by decide⟩
  | 10, _ => exact ⟨by decide, by decide⟩
  | _ + 11, h => exact absurd h (by omega)
theorem gc_z41 : ∀ k, gc_lo 41 k ≤ 0 ∧ 0 ≤ gc_hi 41 k := fun k => by
  have h : k % 25 < 25 := Nat.mod_lt _ (by decide)
  rw [show gc_lo 41 k = gc_lo 41 (k % 25) from gc_at_mod (x := gc_np gc_rl 41) (m := 24) rfl rfl, show gc_hi 41 k = gc_hi 41 (k % 25) from gc_at_mod (x := gc_np gc_rh 41) (m := 24) rfl rfl]
  revert h
  generalize k % 25 = c
  intro h
  match c, h with
  | 0, _ => exact ⟨by decide, by decide⟩
  | 1, _ => exact ⟨by decide, by decide⟩
  | 2, _ => exact ⟨by decide, by decide⟩
  | 3, _ => exact ⟨by decide, by decide⟩
  | 4, _ => exact ⟨by decide, by decide⟩
  | 5, _ => exact ⟨by decide, by decide⟩
  | 6, _ => exact ⟨by decide, by decide⟩
  | 7, _ => exact ⟨by decide, by decide⟩
  | 8, _ => exact ⟨by decide, by decide⟩
  | 9, _ => exact ⟨by decide, by decide⟩
  | 10, _ => exact ⟨by decide, by decide⟩
  | 11, _ => exact ⟨by decide, by decide⟩
  | 12, _ => exact ⟨by decide, by decide⟩
  | 13, _ => exact ⟨by decide, by decide⟩
  | 14, _ => exact ⟨by decide, by decide⟩
  | 15, _ => exact ⟨by decide, by decide⟩
  | 16, _ => exact ⟨by decide, by decide⟩
  | 17, _ => exact ⟨by decide, by decide⟩
  | 18, _ => exact ⟨by decide, by decide⟩
  | 19, _ => exact ⟨by decide, by decide⟩
  | 20, _ => exact ⟨by decide, by decide⟩
  | 21, _ => exact ⟨by decide, by decide⟩
  | 22, _ => exact ⟨by decide, by decide⟩
  | 23, _ => exact ⟨by decide, by decide⟩
  | 24, _ => exact ⟨by decide, by decide⟩
  | _ + 25, h => exact absurd h (by omega)
def gc_roT : List Nat := [23, 6, 0, 10, 0, 30, 31, 7, 0, 0, 41, 8, 0, 32, 39, 40, 0, 24, 1, 33, 34, 34, 35, 1, 1]
theorem gc_roT0 : ∀ d k, gc_lo (gr_nth gc_roT d) k ≤ 0 ∧ 0 ≤ gc_hi (gr_nth gc_roT d) k := fun d k => match d with
  | 0 => gc_z23 k
  | 1 => gc_z6 k
  | 2 => gc_z0 k
  | 3 => gc_z10 k
  | 4 => gc_z0 k
  | 5 => gc_z30 k
  | 6 => gc_z31 k
  | 7 => gc_z7 k
  | 8 => gc_z0 k
  | 9 => gc_z0 k
  | 10 => gc_z41 k
  | 11 => gc_z8 k
  | 12 => gc_z0 k
  | 13 => gc_z32 k
  | 14 => gc_z39 k
  | 15 => gc_z40 k
  | 16 => gc_z0 k
  | 17 => gc_z24 k
  | 18 => gc_z1 k
  | 19 => gc_z33 k
  | 20 => gc_z34 k
  | 21 => gc_z34 k
  | 22 => gc_z35 k
  | 23 => gc_z1 k
  | 24 => gc_z1 k
  | _ + 25 => gc_z0 k
theorem gc_aq9 {sh t : gz_Sh} {n i q : Nat} {x : Bool × Nat × Nat} (hn : sh.length = n) (hq : q = n + i) (h : t[i]? = some x) : (sh ++ t)[q]? = some x := by
  subst hq
  subst hn
  rw [List.getElem?_append_right (Nat.le_add_right _ _), Nat.add_sub_cancel_left]
  exact h
theorem gc_apl {sh t : gz_Sh} {q : Nat} {x : Bool × Nat × Nat} (h : sh[q]? = some x) : (sh ++ t)[q]? = some x := by
  rw [List.getElem?_append_left (List.getElem?_eq_some_iff.mp h).1]
  exact h
theorem gc_tA_lt {A : gc_A} {p q k : Nat} (h : q < p) : gc_tA A p q k = A q k := by
  have h0 : ¬ q = p := by omega
  have h1 : ¬ q = p + 1 := by omega
  have h3 : ¬ q = p + 3 := by omega
  have h7 : ¬ q = p + 7 := by omega
  have h11 : ¬ q = p + 11 := by omega
  have h17 : ¬ q = p + 17 := by omega
  unfold gc_tA
  simp [gc_u, h0, h1, h3, h7, h11, h17]
theorem gc_tA_0_0 {A : gc_A} {p : Nat} : gc_tA A p p 0 = some (p + 1) := by
  unfold gc_tA
  simp [gc_u]
theorem gc_tA_1_0 {A : gc_A} {p : Nat} : gc_tA A p (p + 1) 0 = some (p + 2) := by
  unfold gc_tA
  simp [gc_u]
theorem gc_tA_0_1 {A : gc_A} {p : Nat} : gc_tA A p p 1 = some (p + 3) := by
  unfold gc_tA
  simp [gc_u]
theorem gc_tA_3_0 {A : gc_A} {p : Nat} : gc_tA A p (p + 3) 0 = some (p + 4) := by
  unfold gc_tA
  simp [gc_u]
theorem gc_tA_0_2 {A : gc_A} {p : Nat} : gc_tA A p p 2 = some (p + 5) := by
  unfold gc_tA
  simp [gc_u]
theorem gc_tA_0_3 {A : gc_A} {p : Nat} : gc_tA A p p 3 = some (p + 6) := by
  unfold gc_tA
  simp [gc_u]
theorem gc_tA_0_4 {A : gc_A} {p : Nat} : gc_tA A p p 4 = some (p + 7) := by
  unfold gc_tA
  simp [gc_u]
theorem gc_tA_7_0 {A : gc_A} {p : Nat} : gc_tA A p (p + 7) 0 = some (p + 8) := by
  unfold gc_tA
  simp [gc_u]
theorem gc_tA_0_5 {A : gc_A} {p : Nat} : gc_tA A p p 5 = some (p + 9) := by
  unfold gc_tA
  simp [gc_u]
theorem gc_tA_0_7 {A : gc_A} {p : Nat} : gc_tA A p p 7 = some (p + 10) := by
  unfold gc_tA
  simp [gc_u]
theorem gc_tA_0_8 {A : gc_A} {p : Nat} : gc_tA A p p 8 = some (p + 11) := by
  unfold gc_tA
  simp [gc_u]
theorem gc_tA_11_0 {A : gc_A} {p : Nat} : gc_tA A p (p + 11) 0 = some (p + 12) := by
  unfold gc_tA
  simp [gc_u]
theorem gc_tA_0_9 {A : gc_A} {p : Nat} : gc_tA A p p 9 = some (p + 13) := by
  unfold gc_tA
  simp [gc_u]
theorem gc_tA_0_10 {A : gc_A} {p : Nat} : gc_tA A p p 10 = some (p + 14) := by
  unfold gc_tA
  simp [gc_u]
theorem gc_tA_0_12 {A : gc_A} {p : Nat} : gc_tA A p p 12 = some (p + 15) := by
  unfold gc_tA
  simp [gc_u]
theorem gc_tA_0_14 {A : gc_A} {p : Nat} : gc_tA A p p 14 = some (p + 16) := by
  unfold gc_tA
  simp [gc_u]
theorem gc_tA_0_15 {A : gc_A} {p : Nat} : gc_tA A p p 15 = some (p + 17) := by
  unfold gc_tA
  simp [gc_u]
theorem gc_tA_17_0 {A : gc_A} {p : Nat} : gc_tA A p (p + 17) 0 = some 20 := by
  unfold gc_tA
  simp [gc_u]
theorem gc_tA_17_1 {A : gc_A} {p : Nat} : gc_tA A p (p + 17) 1 = some (p + 18) := by
  unfold gc_tA
  simp [gc_u]
theorem gc_tA_17_2 {A : gc_A} {p : Nat} : gc_tA A p (p + 17) 2 = some (p + 19) := by
  unfold gc_tA
  simp [gc_u]
theorem gc_tA_17_3 {A : gc_A} {p : Nat} : gc_tA A p (p + 17) 3 = some (p + 20) := by
  unfold gc_tA
  simp [gc_u]
theorem gc_tA_17_4 {A : gc_A} {p : Nat} : gc_tA A p (p + 17) 4 = some (p + 21) := by
  unfold gc_tA
  simp [gc_u]
theorem gc_tA_17_5 {A : gc_A} {p : Nat} : gc_tA A p (p + 17) 5 = some (p + 22) := by
  unfold gc_tA
  simp [gc_u]
def gc_MK (sh : gz_Sh) (ro : Nat → Nat) (I : gr_I) (J : gr_J) (A : gc_A) (a s : Nat) (sh' : gz_Sh) (ro' : Nat → Nat) (I' : gr_I) (J' : gr_J) (A' : gc_A) (t : Nat) : Prop := gc_ext sh ro A sh' ro' A' ∧ gc_Inv ro' I' ∧ gc_OK sh' I' J' A' ∧ (gc_isTongue sh' ro' A' t ∧ 144 ≤ t ∧ A' 10 (Int.toNat (I 8 1)) = some t) ∧ (∀ q k, q < sh.length → ¬ (q = 10 ∧ k = Int.toNat (I 8 1)) → A' q k = A q k) ∧ (I' 8 1 = I 8 1 + 1 ∧ I' (t + 1) 1 = 0 ∧ I' (t + 3) 1 = 0 ∧ I' (t + 7) 1 = 0 ∧ I' (t + 11) 1 = 0 ∧ I' t 6 = 0 ∧ I' t 11 = 0 ∧ I' t 13 = 0) ∧ (∀ q j : Nat, q < sh.length → ((q = (t + 1) ∧ j = 1) ∨ (q = (t + 3) ∧ j = 1) ∨ (q = (t + 7) ∧ j = 1) ∨ (q = (t + 11) ∧ j = 1) ∨ (q = t ∧ j = 6) ∨ (q = t ∧ j = 11) ∨ (q = t ∧ j = 13) ∨ (q = 8 ∧ j = 1)) ∨ I' q j = I q j) ∧ (∀ q j : Nat, q < sh.length → q = 9 ∨ J' q j = J q j) ∧ ((A 10 (Int.toNat (I 8 1)) = some t ∧ sh' = sh ∧ ro' = ro ∧ A' = A ∧ a = 0 ∧ s = 0) ∨ (A 10 (Int.toNat (I 8 1)) = none ∧ t = sh.length ∧ sh'.length = sh.length + 25 ∧ a = 25 ∧ s = 45714 ∧ (∀ j, I' (t + 10) j = 0) ∧ gc_FB (t + 17) 0 I' ∧ I' (t + 17) 8 = 0))
theorem gc_Yaas5 {E : gv_E} {Q : gz_S → Nat → Nat → Prop} {pc i w n m : Nat} {j : Int} {lv : List (Nat × gz_V)} {st : List gz_V} {sh : gz_Sh} {I : gr_I} {J : gr_J} {A : gc_A} (hD : gv_D E) (hi : E.2.2.2.2.2.2 pc = some .aastore) (hs : sh[i]? = some (true, 5, n)) (hw : sh[w]? = some (false, 11, m)) (hb : i < 1000000 ∧ w < 1000000 ∧ n < 2147483648) (hj : 0 ≤ j ∧ j < (n : Int)) (kk : gv_Y E Q (pc + 1, lv, st, sh, gc_h sh I J (gc_u A i (Int.toNat j) (some w)))) : gv_Y E Q (pc, lv, .inr (.inr (some w)) :: .inl j :: .inr (.inr (some i)) :: st, sh, gc_h sh I J A) := by
  refine gv_Yone (u' := (pc + 1, lv, st, sh, gz_up (gc_h sh I J A) i (Int.toNat j) (.inr (.inr (some w))))) (a := 0) (s := 0) (Or.inr (Or.inr (Or.inr (Or.inr (Or.inr (Or.inr (Or.inr (Or.inr (Or.inl (Or.inr (Or.inr (Or.inr (Or.inl ⟨i, w, 5, n, m, j, st, hD pc _ hi, rfl, hb.1, hb.2.1, hs, hb.2.2, hj.1, hj.2, Or.inr (Or.inl ⟨rfl, hw⟩), rfl, rfl, rfl⟩))))))))))))) ?_
  rw [gc_hUA hs rfl]
  obtain ⟨n9, v, a, s, g, q⟩ := kk
  exact ⟨n9, v, a, s, g, (show Q v (0 + a) (0 + s) from by rw [Nat.zero_add, Nat.zero_add]; exact q)⟩
set_option maxHeartbeats 4000000 in
set_option maxRecDepth 100000 in
theorem e_X8_makeTongue {ws0 : List Cond} {tb : String → gz_T} (hw : gc_Wn ws0) (hws : gc_Ws ws0) (htb : gc_tbs tb) (sh : gz_Sh) (ro : Nat → Nat) (I : gr_I) (J : gr_J) (A : gc_A) (hI : gc_Inv ro I) (a1 : Int64) (hb : gc_Base sh ro A) (x0 : I 8 1 ≤ 7) (hT : ∀ t, A 10 (Int.toNat (I 8 1)) = some t → gc_isTongue sh ro A t ∧ 144 ≤ t) (hok : gc_OK sh I J A) (hlen : sh.length + 25 ≤ 1000000) : ∃ (a s : Nat) (sh' : gz_Sh) (ro' : Nat → Nat) (I' : gr_I) (J' : gr_J) (A' : gc_A) (t : Nat), gz_Ev ws0 tb 9 (yX8_makeTongue, cX8_makeTongue, 4, none) [.inr (.inr (some 1)), .inr (.inl a1)] sh (gc_h sh I J A) none sh' (gc_h sh' I' J' A') a s ∧ gc_MK sh ro I J A a s sh' ro' I' J' A' t := by
  have h144 := gc_Base_len hb
  have hD : gv_D (gc_E8 ws0 tb 8 (yX8_makeTongue, cX8_makeTongue, 4, none) kX8_makeTongue) := gq_ok oX8_makeTongue
  have S10 : sh[10]? = some (true, 5, 8) := gc_bS hb rfl
  have S1 : sh[1]? = some (false, 8, 21) := gc_bS hb rfl
  have A14 : A 1 4 = some 10 := gc_bA hb rfl
  have A1p : A 1 16 = some 20 := gc_bA hb rfl
  have i8 : 0 ≤ I 8 1 ∧ I 8 1 ≤ 8 := gc_in hI (gc_bR hb (by decide) rfl) rfl rfl
  suffices hY : gv_Y (gc_E8 ws0 tb 8 (yX8_makeTongue, cX8_makeTongue, 4, none) kX8_makeTongue) (fun v a s => ∃ (sh' : gz_Sh) (ro' : Nat → Nat) (I' : gr_I) (J' : gr_J) (A' : gc_A) (t : Nat), gz_fin cX8_makeTongue none v none ∧ v.2.2.2.1 = sh' ∧ v.2.2.2.2 = gc_h sh' I' J' A' ∧ gc_MK sh ro I J A a s sh' ro' I' J' A' t) (0, [(0, .inr (.inr (some 1))), (1, .inr (.inl a1))], [], sh, gc_h sh I J A) by
    obtain ⟨n, v, a, s, h1, sh', ro', I', J', A', t, h2, h3, h4, h5⟩ := hY
    refine ⟨a, s, sh', ro', I', J', A', t, Or.inr (Or.inr ⟨by decide, Nat.le_of_ble_eq_true rfl, n, v, ?_, h2, h3, h4⟩), h5⟩
    show gz_to (gz_do ws0 RX8 (tb RX8) cX8_makeTongue 4 (gz_Ev ws0 tb 8)) n _ v a s
    rw [gc_tb8 htb]
    exact h1
  obtain ⟨L, hL⟩ : ∃ L, sh.length = L := ⟨_, rfl⟩
  refine gv_YofX (d_X8_makeTongue_h hws htb sh ro I J A hI a1 hb x0 (fun v3 s1 m => ?_))
  obtain ⟨m0, m1, m2, m3, m4⟩ := m
  subst m4
  subst m2
  refine gv_Xz ?_
  cases hA : A 10 (Int.toNat (I 8 1)) with
  | some t =>
    obtain ⟨hTt, G⟩ := hT t hA
    refine gv_lift (fun hk => gv_aald hD rfl S10 ⟨by decide, by decide⟩ ⟨by decide, by decide⟩ ⟨by omega, by omega⟩ ((gc_aA S10 rfl).trans hA) hk) ?_
    refine gv_lift (fun hk => gv_run 1 true hD (pc' := 41) (lv' := [(0, .inr (.inr (some 1))), (1, .inr (.inl a1)), (3, .inl (I 8 1))]) (st' := []) (h' := gc_h sh I J A) (C := (True ∧ True)) rfl ⟨trivial, trivial⟩ hk) ?_
    refine gv_YofX (gv_Xm (fun v h => ?_) (d_X8_makeTongue_t hws htb sh ro I J A hI t a1 (I 8 1) hb hTt G ⟨by omega, by omega⟩ hA rfl))
    obtain ⟨r, hf, hs9, I', J', e1, e2, e3, e4, rfl, z0, z1, z2, z3, z4, z5, z6, z7⟩ := h
    have hTu := hTt
    obtain ⟨b0, b1, b2, b3, b4, b5, b6, b7, b8, b9, b10, b11, b12, b13, b14, b15, b16, b17, b18, b19, b20, b21, b22, b23, b24, b25, b26, b27, b28, b29, b30, b31, b32, b33, b34, b35, b36, b37, b38, b39, b40, b41, b42, b43, b44⟩ := hTu
    have ok9 : gc_OK sh I' J' A := gc_OK_fr hok (fun q j => (e3 q j).imp (fun h => by
        rcases h with ⟨rfl, rfl⟩ | ⟨rfl, rfl⟩ | ⟨rfl, rfl⟩ | ⟨rfl, rfl⟩ | ⟨rfl, rfl⟩ | ⟨rfl, rfl⟩ | ⟨rfl, rfl⟩ | ⟨rfl, rfl⟩
        · exact ⟨gc_x_lt b4.1, gc_tyx b4.1⟩
        · exact ⟨gc_x_lt b6.1, gc_tyx b6.1⟩
        · exact ⟨gc_x_lt b16.1, gc_tyx b16.1⟩
        · exact ⟨gc_x_lt b26.1, gc_tyx b26.1⟩
        · exact ⟨gc_x_lt b0, gc_tyx b0⟩
        · exact ⟨gc_x_lt b0, gc_tyx b0⟩
        · exact ⟨gc_x_lt b0, gc_tyx b0⟩
        · exact ⟨gc_x_lt (gc_bS hb (p := 8) rfl), gc_tyx (gc_bS hb (p := 8) rfl)⟩
        ) id) (fun q j => (e4 q j).imp (fun h => by omega) id)
    exact gv_Yend ⟨sh, ro, I', J', A, t, hf, hs9, e1, gc_x_refl, e2, ok9, ⟨hTt, G, hA⟩, fun q k _ _ => rfl, ⟨z7, z0, z1, z2, z3, z4, z5, z6⟩, fun q j _ => e3 q j, fun q j _ => e4 q j, Or.inl ⟨hA, rfl, rfl, rfl, rfl, rfl⟩⟩
  | none =>
    refine gv_lift (fun hk => gv_aald hD rfl S10 ⟨by decide, by decide⟩ ⟨by decide, by decide⟩ ⟨by omega, by omega⟩ ((gc_aA S10 rfl).trans hA) hk) ?_
    refine gv_lift (fun hk => gv_run 2 true hD (pc' := 25) (lv' := [(0, .inr (.inr (some 1))), (1, .inr (.inl a1)), (3, .inl (I 8 1))]) (st' := [.inr (.inr (some 1))]) (h' := gc_h sh I J A) (C := ((True ∧ True) ∧ True)) rfl ⟨⟨trivial, trivial⟩, trivial⟩ hk) ?_
    refine gv_lift (fun hk => gv_get hD rfl rfl S1 ⟨by decide, by decide⟩ (gc_hA S1 rfl A14) hk) ?_
    refine gv_lift (fun hk => gv_run 1 true hD (pc' := 29) (lv' := [(0, .inr (.inr (some 1))), (1, .inr (.inl a1)), (3, .inl (I 8 1))]) (st' := [.inl (I 8 1), .inr (.inr (some 10))]) (h' := gc_h sh I J A) (C := (True ∧ True)) rfl ⟨trivial, trivial⟩ hk) ?_
    refine gc_Ynew hD (ix := 3) (ci := 11) (n := 16) (r := L) (C := RX11) (T := TX11) (ty := tyX11) rfl rfl (gc_lN11 hw (hw.1 _ (List.mem_of_getElem? (i := 24) rfl))) (by omega) hok (gc_okc (Or.inl (by omega)) (gc_okc trivial (gc_okc trivial gc_ok0))) (gc_oks trivial (gc_oks (Or.inl (by omega)) gc_ok0)) gc_dy11 hL.symm ?_
    have ok1 := gc_OKx (x := (false, 11, 16)) hok (gc_nth2 (l := gc_nl gc_ts 11) rfl)
    have ln0 : (sh ++ [(false, 11, 16)]).length = L + 1 := gc_len1 hL
    have S0_0 := gc_gl (x := (false, 11, 16)) (sh := sh) (p := L) hL.symm
    refine gv_lift (fun hk => gv_run 2 true hD (pc' := 34) (lv' := [(0, .inr (.inr (some 1))), (1, .inr (.inl a1)), (3, .inl (I 8 1))]) (st' := [.inr (.inr (some 1)), .inr (.inr (some L)), .inr (.inr (some L)), .inl (I 8 1), .inr (.inr (some 10))]) (h' := gc_h (sh ++ [(false, 11, 16)]) I J A) (C := ((True ∧ True) ∧ True)) rfl ⟨⟨trivial, trivial⟩, trivial⟩ hk) ?_
    refine gv_lift (fun hk => gv_get hD rfl rfl (gc_apl S1) ⟨by decide, by decide⟩ (gc_hA (gc_apl S1) rfl A1p) hk) ?_
    have hI2 : gc_Inv (fun q => gc_lr sh.length q ro gc_roT) I := gc_Inv_lr hI hok.2 gc_roT0
    have R0 : (fun q => gc_lr sh.length q ro gc_roT) (L + 0) = 23 := by
      show gc_lr sh.length (L + 0) ro gc_roT = 23
      rw [← hL, gc_lr_ge]
      rfl
    have R1 : (fun q => gc_lr sh.length q ro gc_roT) (L + 1) = 6 := by
      show gc_lr sh.length (L + 1) ro gc_roT = 6
      rw [← hL, gc_lr_ge]
      rfl
    have R2 : (fun q => gc_lr sh.length q ro gc_roT) (L + 2) = 0 := by
      show gc_lr sh.length (L + 2) ro gc_roT = 0
      rw [← hL, gc_lr_ge]
      rfl
    have R3 : (fun q => gc_lr sh.length q ro gc_roT) (L + 3) = 10 := by
      show gc_lr sh.length (L + 3) ro gc_roT = 10
      rw [← hL, gc_lr_ge]
      rfl
    have R4 : (fun q => gc_lr sh.length q ro gc_roT) (L + 4) = 0 := by
      show gc_lr sh.length (L + 4) ro gc_roT = 0
      rw [← hL, gc_lr_ge]
      rfl
    have R5 : (fun q => gc_lr sh.length q ro gc_roT) (L + 5) = 30 := by
      show gc_lr sh.length (L + 5) ro gc_roT = 30
      rw [← hL, gc_lr_ge]
      rfl
    have R6 : (fun q => gc_lr sh.length q ro gc_roT) (L + 6) = 31 := by
      show gc_lr sh.length (L + 6) ro gc_roT = 31
      rw [← hL, gc_lr_ge]
      rfl
    have R7 : (fun q => gc_lr sh.length q ro gc_roT) (L + 7) = 7 := by
      show gc_lr sh.length (L + 7) ro gc_roT = 7
      rw [← hL, gc_lr_ge]
      rfl
    have R8 : (fun q => gc_lr sh.length q ro gc_roT) (L + 8) = 0 := by
      show gc_lr sh.length (L + 8) ro gc_roT = 0
      rw [← hL, gc_lr_ge]
      rfl
    have R9 : (fun q => gc_lr sh.length q ro gc_roT) (L + 9) = 0 := by
      show gc_lr sh.length (L + 9) ro gc_roT = 0
      rw [← hL, gc_lr_ge]
      rfl
    have R10 : (fun q => gc_lr sh.length q ro gc_roT) (L + 10) = 41 := by
      show gc_lr sh.length (L + 10) ro gc_roT = 41
      rw [← hL, gc_lr_ge]
      rfl
    have R11 : (fun q => gc_lr sh.length q ro gc_roT) (L + 11) = 8 := by
      show gc_lr sh.length (L + 11) ro gc_roT = 8
      rw [← hL, gc_lr_ge]
      rfl
    have R12 : (fun q => gc_lr sh.length q ro gc_roT) (L + 12) = 0 := by
      show gc_lr sh.length (L + 12) ro gc_roT = 0
      rw [← hL, gc_lr_ge]
      rfl
    have R13 : (fun q => gc_lr sh.length q ro gc_roT) (L + 13) = 32 := by
      show gc_lr sh.length (L + 13) ro gc_roT = 32
      rw [← hL, gc_lr_ge]
      rfl
    have R14 : (fun q => gc_lr sh.length q ro gc_roT) (L + 14) = 39 := by
      show gc_lr sh.length (L + 14) ro gc_roT = 39
      rw [← hL, gc_lr_ge]
      rfl
    have R15 : (fun q => gc_lr sh.length q ro gc_roT) (L + 15) = 40 := by
      show gc_lr sh.length (L + 15) ro gc_roT = 40
      rw [← hL, gc_lr_ge]
      rfl
    have R16 : (fun q => gc_lr sh.length q ro gc_roT) (L + 16) = 0 := by
      show gc_lr sh.length (L + 16) ro gc_roT = 0
      rw [← hL, gc_lr_ge]
      rfl
    have R17 : (fun q => gc_lr sh.length q ro gc_roT) (L + 17) = 24 := by
      show gc_lr sh.length (L + 17) ro gc_roT = 24
      rw [← hL, gc_lr_ge]
      rfl
    have R18 : (fun q => gc_lr sh.length q ro gc_roT) (L + 18) = 1 := by
      show gc_lr sh.length (L + 18) ro gc_roT = 1
      rw [← hL, gc_lr_ge]
      rfl
    have R19 : (fun q => gc_lr sh.length q ro gc_roT) (L + 19) = 33 := by
      show gc_lr sh.length (L + 19) ro gc_roT = 33
      rw [← hL, gc_lr_ge]
      rfl
    have R20 : (fun q => gc_lr sh.length q ro gc_roT) (L + 20) = 34 := by
      show gc_lr sh.length (L + 20) ro gc_roT = 34
      rw [← hL, gc_lr_ge]
      rfl
    have R21 : (fun q => gc_lr sh.length q ro gc_roT) (L + 21) = 34 := by
      show gc_lr sh.length (L + 21) ro gc_roT = 34
      rw [← hL, gc_lr_ge]
      rfl
    have R22 : (fun q => gc_lr sh.length q ro gc_roT) (L + 22) = 35 := by
      show gc_lr sh.length (L + 22) ro gc_roT = 35
      rw [← hL, gc_lr_ge]
      rfl
    have R23 : (fun q => gc_lr sh.length q ro gc_roT) (L + 23) = 1 := by
      show gc_lr sh.length (L + 23) ro gc_roT = 1
      rw [← hL, gc_lr_ge]
      rfl
    have R24 : (fun q => gc_lr sh.length q ro gc_roT) (L + 24) = 1 := by
      show gc_lr sh.length (L + 24) ro gc_roT = 1
      rw [← hL, gc_lr_ge]
      rfl
    have hrH : (fun q => gc_lr sh.length q ro gc_roT) (L + 17 + 4) = 34 := R21
    obtain ⟨I9, EV, hI9, gF, qF, okT⟩ := m_X11_init hw hws htb 5 (J := J) (A := A) (p := L) hI2 R17 hrH ln0 (by omega) S0_0 (by omega) ok1
    refine gc_Yspec hD (ix := 104) (M := (yX11_init, cX11_init, 2, none)) (As := [.inr (.inr (some 20))]) (b := L) (st := [.inr (.inr (some L)), .inl (I 8 1), .inr (.inr (some 10))]) rfl ⟨(hw.1 _ (List.mem_of_getElem? (i := 25) rfl)), (hw.1 _ (List.mem_of_getElem? (i := 27) rfl)), (hw.1 _ (List.mem_of_getElem? (i := 26) rfl)), rfl, rfl, ⟨by decide +kernel, by decide +kernel, by decide +kernel⟩, Nat.le_of_ble_eq_true rfl, Or.inl (hw.1 _ (List.mem_of_getElem? (i := 28) rfl))⟩ rfl (Nat.le_of_ble_eq_true rfl) EV (gc_okc (Or.inl (by omega)) (gc_okc trivial (gc_okc trivial gc_ok0))) (gc_oks (Or.inl (by omega)) (gc_oks trivial (gc_oks (Or.inl (by omega)) gc_ok0))) ?_
    have ln2 : ((sh ++ [(false, 11, 16)]) ++ gc_tS).length = L + 25 := by
      rw [List.length_append, ln0]
      rfl
    have S0 : ((sh ++ [(false, 11, 16)]) ++ gc_tS)[L]? = some (false, 11, 16) := gc_apl S0_0
    have S10o := S10
    have S1 : ((sh ++ [(false, 11, 16)]) ++ gc_tS)[L + 1]? = some (false, 4, 2) := gc_aq9 ln0 (i := 0) (by omega) rfl
    have S2 : ((sh ++ [(false, 11, 16)]) ++ gc_tS)[L + 2]? = some (true, 2, 8) := gc_aq9 ln0 (i := 1) (by omega) rfl
    have S3 : ((sh ++ [(false, 11, 16)]) ++ gc_tS)[L + 3]? = some (false, 4, 2) := gc_aq9 ln0 (i := 2) (by omega) rfl
    have S4 : ((sh ++ [(false, 11, 16)]) ++ gc_tS)[L + 4]? = some (true, 2, 48) := gc_aq9 ln0 (i := 3) (by omega) rfl
    have S5 : ((sh ++ [(false, 11, 16)]) ++ gc_tS)[L + 5]? = some (true, 1, 48) := gc_aq9 ln0 (i := 4) (by omega) rfl
    have S6 : ((sh ++ [(false, 11, 16)]) ++ gc_tS)[L + 6]? = some (true, 1, 48) := gc_aq9 ln0 (i := 5) (by omega) rfl
    have S7 : ((sh ++ [(false, 11, 16)]) ++ gc_tS)[L + 7]? = some (false, 4, 2) := gc_aq9 ln0 (i := 6) (by omega) rfl
    have S8 : ((sh ++ [(false, 11, 16)]) ++ gc_tS)[L + 8]? = some (true, 2, 16) := gc_aq9 ln0 (i := 7) (by omega) rfl
    have S9 : ((sh ++ [(false, 11, 16)]) ++ gc_tS)[L + 9]? = some (true, 1, 16) := gc_aq9 ln0 (i := 8) (by omega) rfl
    have S10 : ((sh ++ [(false, 11, 16)]) ++ gc_tS)[L + 10]? = some (true, 1, 600) := gc_aq9 ln0 (i := 9) (by omega) rfl
    have S11 : ((sh ++ [(false, 11, 16)]) ++ gc_tS)[L + 11]? = some (false, 4, 2) := gc_aq9 ln0 (i := 10) (by omega) rfl
    have S12 : ((sh ++ [(false, 11, 16)]) ++ gc_tS)[L + 12]? = some (true, 2, 24) := gc_aq9 ln0 (i := 11) (by omega) rfl
    have S13 : ((sh ++ [(false, 11, 16)]) ++ gc_tS)[L + 13]? = some (true, 1, 24) := gc_aq9 ln0 (i := 12) (by omega) rfl
    have S14 : ((sh ++ [(false, 11, 16)]) ++ gc_tS)[L + 14]? = some (true, 1, 1728) := gc_aq9 ln0 (i := 13) (by omega) rfl
    have S15 : ((sh ++ [(false, 11, 16)]) ++ gc_tS)[L + 15]? = some (true, 1, 704) := gc_aq9 ln0 (i := 14) (by omega) rfl
    have S16 : ((sh ++ [(false, 11, 16)]) ++ gc_tS)[L + 16]? = some (true, 4, 384) := gc_aq9 ln0 (i := 15) (by omega) rfl
    have S17 : ((sh ++ [(false, 11, 16)]) ++ gc_tS)[L + 17]? = some (false, 2, 10) := gc_aq9 ln0 (i := 16) (by omega) rfl
    have S18 : ((sh ++ [(false, 11, 16)]) ++ gc_tS)[L + 18]? = some (true, 0, 36864) := gc_aq9 ln0 (i := 17) (by omega) rfl
    have S19 : ((sh ++ [(false, 11, 16)]) ++ gc_tS)[L + 19]? = some (true, 1, 1536) := gc_aq9 ln0 (i := 18) (by omega) rfl
    have S20 : ((sh ++ [(false, 11, 16)]) ++ gc_tS)[L + 20]? = some (true, 1, 1536) := gc_aq9 ln0 (i := 19) (by omega) rfl
    have S21 : ((sh ++ [(false, 11, 16)]) ++ gc_tS)[L + 21]? = some (true, 1, 512) := gc_aq9 ln0 (i := 20) (by omega) rfl
    have S22 : ((sh ++ [(false, 11, 16)]) ++ gc_tS)[L + 22]? = some (true, 1, 1536) := gc_aq9 ln0 (i := 21) (by omega) rfl
    have S23 : ((sh ++ [(false, 11, 16)]) ++ gc_tS)[L + 23]? = some (true, 0, 24) := gc_aq9 ln0 (i := 22) (by omega) rfl
    have S24 : ((sh ++ [(false, 11, 16)]) ++ gc_tS)[L + 24]? = some (true, 0, 24) := gc_aq9 ln0 (i := 23) (by omega) rfl
    have hx1 : gc_ext sh ro A ((sh ++ [(false, 11, 16)]) ++ gc_tS) (fun q => gc_lr sh.length q ro gc_roT) (gc_tA A L) := ⟨⟨(false, 11, 16) :: gc_tS, by rw [List.append_assoc]; rfl⟩, fun q hq => gc_lr_lt hq, fun q k x hs _ => gc_tA_lt (by have := gc_x_lt hs; omega)⟩
    have hT1 : gc_isTongue ((sh ++ [(false, 11, 16)]) ++ gc_tS) (fun q => gc_lr sh.length q ro gc_roT) (gc_tA A L) L := ⟨S0, R0, by omega, gc_tA_0_0, ⟨S1, R1, by omega, gc_tA_1_0, S2, R2, by omega, rfl, rfl, by decide⟩, gc_tA_0_1, ⟨S3, R3, by omega, gc_tA_3_0, S4, R4, by omega, rfl, rfl, by decide⟩, gc_tA_0_2, S5, R5, by omega, gc_tA_0_3, S6, R6, by omega, gc_tA_0_4, ⟨S7, R7, by omega, gc_tA_7_0, S8, R8, by omega, rfl, rfl, by decide⟩, gc_tA_0_5, S9, R9, by omega, gc_tA_0_7, S10, R10, by omega, gc_tA_0_8, ⟨S11, R11, by omega, gc_tA_11_0, S12, R12, by omega, rfl, rfl, by decide⟩, gc_tA_0_9, S13, R13, by omega, gc_tA_0_10, S14, R14, by omega, gc_tA_0_12, S15, R15, by omega, gc_tA_0_14, S16, R16, by omega, gc_tA_0_15, ⟨S17, R17, by omega, gc_tA_17_0, gc_apl (gc_apl (gc_bS hb rfl)), (gc_lr_lt (by omega)).trans (gc_bR hb (by decide) rfl), by decide, gc_tA_17_1, S18, R18, by omega, gc_tA_17_2, S19, R19, by omega, gc_tA_17_3, S20, R20, by omega, gc_tA_17_4, S21, R21, by omega, gc_tA_17_5, S22, R22, by omega, S23, R23, by omega, S24, R24, by omega⟩⟩
    have S10b := gc_x_sh hx1 S10o
    refine gc_Yaas5 hD rfl S10b S0 ⟨by decide, by omega, by decide⟩ ⟨by omega, by omega⟩ ?_
    have hx3 : gc_ext ((sh ++ [(false, 11, 16)]) ++ gc_tS) (fun q => gc_lr sh.length q ro gc_roT) (gc_tA A L) ((sh ++ [(false, 11, 16)]) ++ gc_tS) (fun q => gc_lr sh.length q ro gc_roT) (gc_u (gc_tA A L) 10 (Int.toNat (I 8 1)) (some L)) := ⟨⟨[], (List.append_nil _).symm⟩, fun _ _ => rfl, fun q k x hs h4 => by
        have e : ¬ q = 10 := fun h9 => by
            subst h9
            rw [S10b] at hs
            cases hs
            cases h4
        unfold gc_u
        rw [if_neg e]⟩
    have ok3 := gc_OKu (k := (Int.toNat (I 8 1))) (q := L) okT S10b rfl (by omega)
    have hA3 : (gc_u (gc_tA A L) 10 (Int.toNat (I 8 1)) (some L)) 10 (Int.toNat (I 8 1)) = some L := by simp [gc_u]
    have hx := gc_x_trans hx1 hx3
    have hT3 := gc_isTongue_x hx3 hT1
    refine gv_YofX (gv_Xm (fun v h => ?_) (d_X8_makeTongue_t hws htb ((sh ++ [(false, 11, 16)]) ++ gc_tS) (fun q => gc_lr sh.length q ro gc_roT) I9 J (gc_u (gc_tA A L) 10 (Int.toNat (I 8 1)) (some L)) hI9 L a1 (I 8 1) (gc_Base_x hx hb) hT3 (by omega) ⟨by omega, by omega⟩ hA3 (show I 8 1 = I9 8 1 from ((gF 8 1).resolve_left (by omega)).symm)))
    obtain ⟨r, hf, hs9, I', J', e1, e2, e3, e4, rfl, z0, z1, z2, z3, z4, z5, z6, z7⟩ := h
    have ok9 : gc_OK ((sh ++ [(false, 11, 16)]) ++ gc_tS) I' J' (gc_u (gc_tA A L) 10 (Int.toNat (I 8 1)) (some L)) := gc_OK_fr ok3 (fun q j => (e3 q j).imp (fun h => by
        rcases h with ⟨rfl, rfl⟩ | ⟨rfl, rfl⟩ | ⟨rfl, rfl⟩ | ⟨rfl, rfl⟩ | ⟨rfl, rfl⟩ | ⟨rfl, rfl⟩ | ⟨rfl, rfl⟩ | ⟨rfl, rfl⟩
        · exact ⟨gc_x_lt S1, gc_tyx S1⟩
        · exact ⟨gc_x_lt S3, gc_tyx S3⟩
        · exact ⟨gc_x_lt S7, gc_tyx S7⟩
        · exact ⟨gc_x_lt S11, gc_tyx S11⟩
        · exact ⟨gc_x_lt S0, gc_tyx S0⟩
        · exact ⟨gc_x_lt S0, gc_tyx S0⟩
        · exact ⟨gc_x_lt S0, gc_tyx S0⟩
        · exact ⟨gc_x_lt (gc_x_sh hx (gc_bS hb (p := 8) rfl)), gc_tyx (gc_x_sh hx (gc_bS hb (p := 8) rfl))⟩
        ) id) (fun q j => (e4 q j).imp (fun h => by omega) id)
    have fI : ∀ q j : Nat, q < sh.length → I9 q j = I q j := fun q j hq => (gF q j).resolve_left (by omega)
    refine gv_Yend ⟨((sh ++ [(false, 11, 16)]) ++ gc_tS), (fun q => gc_lr sh.length q ro gc_roT), I', J', (gc_u (gc_tA A L) 10 (Int.toNat (I 8 1)) (some L)), L, hf, hs9, e1, hx, e2, ok9, ⟨hT3, by omega, hA3⟩, fun q k hq hne => ?_, ⟨by have := fI 8 1 (by omega); omega, z0, z1, z2, z3, z4, z5, z6⟩, fun q j hq => (e3 q j).imp id (fun h => h.trans (fI q j hq)), fun q j hq => e4 q j, Or.inr ⟨hA, hL.symm, by omega, rfl, rfl, fun j => ?_, ⟨fun h hh => ?_, fun d => Or.inl ?_⟩, ?_⟩⟩
    · have e5 : (gc_u (gc_tA A L) 10 (Int.toNat (I 8 1)) (some L)) q k = (gc_tA A L) q k := by
        unfold gc_u
        by_cases h1 : q = 10
        · rw [if_pos h1, if_neg (fun h2 => hne ⟨h1, h2⟩)]
        · rw [if_neg h1]
      rw [e5]
      exact gc_tA_lt (by omega)
    · rw [(e3 (L + 10) j).resolve_left (by omega), (gF (L + 10) j).resolve_left (by omega)]
      exact (hok.2 (L + 10) (by omega) j).1
    · rw [(e3 (L + 17 + 4) h).resolve_left (by omega), qF.2 h hh]
      decide
    · rw [(e3 (L + 17 + 3) d).resolve_left (by omega), (gF (L + 17 + 3) d).resolve_left (by omega)]
      exact Int.le_of_eq (hok.2 (L + 17 + 3) (by omega) d).1
    · rw [(e3 (L + 17) 8).resolve_left (by omega), (gF (L + 17) 8).resolve_left (by omega)]
      exact (hok.2 (L + 17) (by omega) 8).1
