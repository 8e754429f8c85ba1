/-! FORMS of CELLS out of tokens, and out of the reference's tables (p9 to p13): rows 33, 34 (where the parts begin, how many; -1: it lacks), 35 (parts, field 42 of them), 51 (letters, field 59) -/
abbrev fo_c : Type := Option (Int × (Int → Int))
abbrev fo_e : Type := Int × fo_c
/-- the parts as bytes -/
def fo_pb (Λ : Nat → Int) (p : Int) : Int × (Int → Int) := if p < 0 then (1, fun _ => -p) else (so_n p, so_cut (so_n p) (fun i => Λ (Int.toNat (so_o p + i))))
def fo_ex (Λ : Nat → Int) (f : Nat → Int) : Nat → Int × (Int → Int)
  | 0 => (0, fun _ => 0)
  | k + 1 => ((fo_ex Λ f k).1 + (fo_pb Λ (f k)).1, so_app (fo_ex Λ f k).2 (fo_ex Λ f k).1 (fo_pb Λ (f k)).1 (fo_pb Λ (f k)).2)
/-- a part is good, among n letters -/
def fo_okb (n : Int) (Λ : Nat → Int) (p : Int) : Prop := (-3 ≤ p ∧ p < 0) ∨ ((0 ≤ p ∧ p ≤ 65535) ∧ p / 16 + p % 16 ≤ n ∧ ∀ i : Int, 0 ≤ i → i < p % 16 → 3 < Λ (Int.toNat (p / 16 + i)))
/-- a CELL's FORM -/
def fo_rx (Λ P : Nat → Int) (a m : Int) : fo_c := if m < 0 then none else some (fo_ex Λ (fun j => P (Int.toNat (a + (j : Int)))) (Int.toNat m))
def fo_okr (nL nP : Int) (Λ P : Nat → Int) (a m : Int) : Prop := m < 0 ∨ ((0 ≤ a ∧ a + m ≤ nP) ∧ ∀ j : Int, 0 ≤ j → j < m → fo_okb nL Λ (P (Int.toNat (a + j))))
/-- parts that are kept stay -/
def gr_PTs (I Iₚ : gr_I) : Prop := I 0 42 ≤ Iₚ 0 42 ∧ ∀ j : Nat, (j : Int) < I 0 42 → Iₚ 35 j = I 35 j
section F9
variable {β : Int → Int} {N p q : Int} {I0 I I1 I2 I3 Iₚ : gr_I} {J Jₚ : gr_J} {n n' k x a m : Int} {Λ Λ' P P' : Nat → Int} {f f' : Nat → Int}
theorem gr_PTs_rf : gr_PTs I I := ⟨Int.le_refl _, fun _ _ => rfl⟩
theorem gr_PTs_tr (h : gr_PTs I0 I) (hₚ : gr_PTs I Iₚ) : gr_PTs I0 Iₚ := ⟨Int.le_trans h.1 hₚ.1, fun j hj => (hₚ.2 j (Int.lt_of_lt_of_le hj h.1)).trans (h.2 j hj)⟩
theorem gr_PTs_fr (h : gr_PTs I0 I) (h1 : ∀ k, Iₚ 35 k = I 35 k) (h2 : Iₚ 0 42 = I 0 42) : gr_PTs I0 Iₚ := ⟨by rw [h2]; exact h.1, fun j hj => (h1 j).trans (h.2 j hj)⟩
theorem gr_PTs_n (h : gr_PTs I0 I) (p : ∀ b j, ¬ (b = 0 ∧ j = 42) → Iₚ b j = I b j) (hz : I 0 42 ≤ Iₚ 0 42) : gr_PTs I0 Iₚ := ⟨Int.le_trans h.1 hz, fun j hj => (p 35 j (fun q => absurd q.1 (by first | exact gz_ne rfl | decide))).trans (h.2 j hj)⟩
theorem gr_PTs_s {k : Nat} (h : gr_PTs I0 I) (p : ∀ b j, ¬ (b = 35 ∧ j = k) → Iₚ b j = I b j) (hz : I0 0 42 ≤ (k : Int)) : gr_PTs I0 Iₚ := ⟨by rw [p 0 42 (fun q => absurd q.1 (by first | exact gz_ne rfl | decide))]; exact h.1, fun j hj => (p 35 j (fun q => by have := q.2; omega)).trans (h.2 j hj)⟩
def gr_LV (I Iₚ : gr_I) : Prop := gr_LKs I Iₚ ∧ gr_PTs I Iₚ
theorem gr_LV_rf : gr_LV I I := ⟨gr_LKs_rf, gr_PTs_rf⟩
theorem fo_pb_kp (h : fo_okb n Λ p) (l : ∀ j : Nat, (j : Int) < n → Λ' j = Λ j) : fo_pb Λ' p = fo_pb Λ p := by
  unfold fo_pb
  rcases h with h | h
  · rw [if_pos h.2, if_pos h.2]
  · rw [if_neg (show ¬ p < 0 by omega), if_neg (show ¬ p < 0 by omega), so_nv h.1, so_ov h.1]
    exact congrArg (Prod.mk (p % 16)) (so_cut_eq (fun i a b => l _ (by have := h.2.1; omega)))
theorem fo_okb_kp (h : fo_okb n Λ p) (l : ∀ j : Nat, (j : Int) < n → Λ' j = Λ j) (hn : n ≤ n') : fo_okb n' Λ' p := by
  rcases h with h | h
  · exact Or.inl h
  · refine Or.inr ⟨h.1, by have := h.2.1; omega, fun i a b => ?_⟩
    rw [l _ (by have := h.2.1; omega)]
    exact h.2.2 i a b
set_option maxHeartbeats 8000000 in
theorem fo_ex_kp : ∀ {k : Nat}, (∀ j : Nat, j < k → fo_okb n Λ (f j) ∧ f' j = f j) → (∀ j : Nat, (j : Int) < n → Λ' j = Λ j) → fo_ex Λ' f' k = fo_ex Λ f k
  | 0, _, _ => rfl
  | k + 1, h, l => by
    show ((fo_ex Λ' f' k).1 + (fo_pb Λ' (f' k)).1, so_app (fo_ex Λ' f' k).2 (fo_ex Λ' f' k).1 (fo_pb Λ' (f' k)).1 (fo_pb Λ' (f' k)).2) = _
    rw [fo_ex_kp (k := k) (fun j hj => h j (by exact gz_m 0 (by omega))) l, (h k (by exact gz_m 1 (by omega))).2, fo_pb_kp (h k (by exact gz_m 2 (by omega))).1 l]
    rfl
theorem fo_rx_kp {nP : Int} (h : fo_okr n nP Λ P a m) (l : ∀ j : Nat, (j : Int) < n → Λ' j = Λ j) (l2 : ∀ j : Nat, (j : Int) < nP → P' j = P j) : fo_rx Λ' P' a m = fo_rx Λ P a m := by
  unfold fo_rx
  by_cases c : m < 0
  · rw [if_pos c, if_pos c]
  · rw [if_neg c, if_neg c]
    have o := h.resolve_left c
    refine congrArg some (fo_ex_kp (n := n) (fun j hj => ⟨o.2 (j : Int) (by omega) (by omega), l2 _ (by have := o.1; omega)⟩) l)
theorem fo_okr_kp {nP nP' : Int} (h : fo_okr n nP Λ P a m) (l : ∀ j : Nat, (j : Int) < n → Λ' j = Λ j) (l2 : ∀ j : Nat, (j : Int) < nP → P' j = P j) (hn : n ≤ n') (hp : nP ≤ nP') : fo_okr n' nP' Λ' P' a m := by
  rcases h with h | h
  · exact Or.inl h
  · refine Or.inr ⟨⟨h.1.1, by have := h.1.2; omega⟩, fun j a b => ?_⟩
    rw [l2 _ (by have := h.1; omega)]
    exact fo_okb_kp (h.2 j a b) l hn
/-! tokens -/
def gs_tb (β : Int → Int) (N q : Int) : Int × (Int → Int) := if gs_T β N q = 2 then (1, fun _ => gs_V β N q) else gs_tl β N q
def gs_fe (β : Int → Int) (N q : Int) : Nat → Int × (Int → Int)
  | 0 => (0, fun _ => 0)
  | k + 1 => ((gs_fe β N q k).1 + (gs_tb β N (gs_sp β N (2 * k) q)).1, so_app (gs_fe β N q k).2 (gs_fe β N q k).1 (gs_tb β N (gs_sp β N (2 * k) q)).1 (gs_tb β N (gs_sp β N (2 * k) q)).2)
def gs_fc (β : Int → Int) (N : Int) : Nat → Int → Nat
  | 0, _ => 0
  | m + 1, q => if gs_T β N (gs_X β N q) = 43 then gs_fc β N m (gs_X β N (gs_X β N q)) + 1 else 1
def gs_frm (β : Int → Int) (N q : Int) : Int × (Int → Int) := gs_fe β N q (gs_fc β N 1002 q)
theorem gs_fc_s {m : Nat} (h : gs_T β N (gs_X β N q) = 43) : gs_fc β N (m + 1) q = gs_fc β N m (gs_X β N (gs_X β N q)) + 1 := if_pos h
theorem gs_fc_e {m : Nat} (h : ¬ gs_T β N (gs_X β N q) = 43) : gs_fc β N (m + 1) q = 1 := if_neg h
set_option maxHeartbeats 8000000 in
/-- letters are letters -/
theorem gs_le_l : ∀ (m : Nat) (k i : Int), k ≤ i → i < gs_le β m k → 97 ≤ β i ∧ β i ≤ 122
  | 0, k, i, h1, h2 => absurd h2 (by show ¬ i < k; exact gz_m 0 (by omega))
  | m + 1, k, i, h1, h2 => by
    have h3 : i < (if 97 ≤ β k ∧ β k ≤ 122 then gs_le β m (k + 1) else k) := h2
    by_cases c : 97 ≤ β k ∧ β k ≤ 122
    · rw [if_pos c] at h3
      by_cases d : i = k
      · rw [d]
        exact c
      · exact gs_le_l m (k + 1) i (by exact gz_m 1 (by omega)) h3
    · rw [if_neg c] at h3
      exact gz_m 2 (by omega)
theorem gs_T3_l (h : gs_T β N p = 3) : ∀ i : Int, 0 ≤ i → i < gs_X β N p - gs_A β N p - 2 → 97 ≤ β (gs_A β N p + 1 + i) ∧ β (gs_A β N p + 1 + i) ≤ 122 := by
  unfold gs_T at h
  by_cases c1 : N ≤ gs_S β N p
  · rw [if_pos c1] at h
    omega
  · rw [if_neg c1] at h
    by_cases c2 : 97 ≤ β (gs_S β N p) ∧ β (gs_S β N p) ≤ 122
    · rw [if_pos c2] at h
      omega
    · rw [if_neg c2] at h
      by_cases c3 : 48 ≤ β (gs_S β N p) ∧ β (gs_S β N p) ≤ 57
      · rw [if_pos c3] at h
        omega
      · rw [if_neg c3] at h
        by_cases c4 : β (gs_S β N p) = 39
        · have eX : gs_X β N p = gs_le β 12 (gs_S β N p + 1) + 1 := by
            unfold gs_X
            rw [if_neg c1, if_neg c2, if_neg c3, if_pos c4]
          have eA : gs_A β N p = gs_S β N p := by
            unfold gs_A
            rw [if_neg c1]
          intro i a b
          rw [eX, eA] at b
          rw [eA]
          exact gs_le_l 12 (gs_S β N p + 1) (gs_S β N p + 1 + i) (by omega) (by omega)
        · rw [if_neg c4] at h
          by_cases c5 : 0 ≤ gz_ixf (β (gs_S β N p))
          · rw [if_pos c5] at h
            have := gs_ix c5
            omega
          · rw [if_neg c5] at h
            omega
/-- k parts are read: over the tables I0 that were there -/
def gs_f2 (β : Int → Int) (N : Int) (I0 : gr_I) (p : Int) (I1 : gr_I) (k : Nat) : Prop := I1 0 42 = I0 0 42 + (k : Int) ∧ fo_ex (I1 51) (fun j => I1 35 (Int.toNat (I0 0 42 + (j : Int)))) k = gs_fe β N p k ∧ ∀ j : Int, 0 ≤ j → j < (k : Int) → fo_okb (I1 0 59) (I1 51) (I1 35 (Int.toNat (I0 0 42 + j)))
theorem gs_f2_0 : gs_f2 β N I p I 0 := ⟨by omega, rfl, fun j a b => absurd b (by omega)⟩
theorem gs_f2_kp {k : Nat} (h : gs_f2 β N I0 p I1 k) (h0 : 0 ≤ I0 0 42) (l : gr_LKs I1 I2) (e42 : I2 0 42 = I1 0 42) (e35 : ∀ j : Nat, (j : Int) < I1 0 42 → I2 35 j = I1 35 j) : gs_f2 β N I0 p I2 k := by
  obtain ⟨h1, h2, h3⟩ := h
  refine ⟨e42.trans h1, ?_, fun j a b => ?_⟩
  · rw [← h2]
    exact fo_ex_kp (n := I1 0 59) (fun j hj => ⟨h3 (j : Int) (by omega) (by omega), e35 _ (by omega)⟩) l.2
  · rw [e35 _ (by omega)]
    exact fo_okb_kp (h3 j a b) l.2 l.1
/-- one part more: y is stored behind the others, its letters are there -/
theorem gs_f2_s {k c : Nat} {y : Int} (h : gs_f2 β N I0 p I1 k) (h0 : 0 ≤ I0 0 42) (pf : ∀ b j, ¬ (b = 0 ∧ j = 42) → I2 b j = I1 b j) (qf : I2 0 42 = I1 0 42 + 1) (l : gr_LKs I2 I3) (e42 : I3 0 42 = I2 0 42) (e35 : ∀ j : Nat, I3 35 j = I2 35 j) (hc : c = Int.toNat (I1 0 42)) (ps : ∀ b j, ¬ (b = 35 ∧ j = c) → Iₚ b j = I3 b j) (qs : Iₚ 35 c = y) (hy : fo_pb (I3 51) y = gs_tb β N (gs_sp β N (2 * k) p)) (ok : fo_okb (I3 0 59) (I3 51) y) : gs_f2 β N I0 p Iₚ (k + 1) := by
  subst hc
  obtain ⟨h1, h2, h3⟩ := h
  have l1 : gr_LKs I1 I3 := gr_LKs_tr (gr_LKs_fr gr_LKs_rf (fun j => pf 51 j (fun q => absurd q.1 (by first | exact gz_ne rfl | decide))) (pf 0 59 (by decide))) l
  have f51 : Iₚ 51 = I3 51 := funext fun j => ps 51 j (fun q => absurd q.1 (by first | exact gz_ne rfl | decide))
  have e59 : Iₚ 0 59 = I3 0 59 := ps 0 59 (fun q => absurd q.1 (by first | exact gz_ne rfl | decide))
  have r : ∀ j : Int, 0 ≤ j → j < (k : Int) → Iₚ 35 (Int.toNat (I0 0 42 + j)) = I1 35 (Int.toNat (I0 0 42 + j)) := fun j a b => (ps 35 _ (fun q => by have := q.2; omega)).trans ((e35 _).trans (pf 35 _ (fun q => absurd q.1 (by first | exact gz_ne rfl | decide))))
  have rk : Iₚ 35 (Int.toNat (I0 0 42 + (k : Int))) = y := by
    rw [show I0 0 42 + (k : Int) = I1 0 42 from by omega]
    exact qs
  refine ⟨(ps 0 42 (fun q => absurd q.1 (by first | exact gz_ne rfl | decide))).trans (by rw [e42, qf]; omega), ?_, fun j a b => ?_⟩
  · show ((fo_ex (Iₚ 51) _ k).1 + (fo_pb (Iₚ 51) (Iₚ 35 (Int.toNat (I0 0 42 + (k : Int))))).1, so_app (fo_ex (Iₚ 51) _ k).2 (fo_ex (Iₚ 51) _ k).1 (fo_pb (Iₚ 51) (Iₚ 35 (Int.toNat (I0 0 42 + (k : Int))))).1 (fo_pb (Iₚ 51) (Iₚ 35 (Int.toNat (I0 0 42 + (k : Int))))).2) = _
    rw [rk, f51, hy, show fo_ex (I3 51) (fun j => Iₚ 35 (Int.toNat (I0 0 42 + (j : Int)))) k = gs_fe β N p k from (fo_ex_kp (n := I1 0 59) (fun j hj => ⟨h3 (j : Int) (by omega) (by omega), r (j : Int) (by omega) (by omega)⟩) l1.2).trans h2]
    rfl
  · by_cases c : j = (k : Int)
    · rw [c, rk, e59, f51]
      exact ok
    · rw [r j a (by omega), e59, f51]
      exact fo_okb_kp (h3 j a (by omega)) l1.2 l1.1
theorem gs_f2_rx {k : Nat} (h : gs_f2 β N I0 p I1 k) : fo_rx (I1 51) (I1 35) (I0 0 42) (k : Int) = some (gs_fe β N p k) := by
  unfold fo_rx
  rw [if_neg (show ¬ (k : Int) < 0 by omega), show Int.toNat (k : Int) = k from by omega]
  exact congrArg some h.2.1
theorem gs_f2_ok {k : Nat} (h : gs_f2 β N I0 p I1 k) (h0 : 0 ≤ I0 0 42) : fo_okr (I1 0 59) (I1 0 42) (I1 51) (I1 35) (I0 0 42) (k : Int) := Or.inr ⟨⟨h0, by have := h.1; omega⟩, fun j a b => h.2.2 j a b⟩
theorem fo_pb_st {v : Int} (hT : gs_T β N q = 2) (hv : v = gs_V β N q) (h : 1 ≤ v ∧ v ≤ 3) : fo_pb Λ (-v) = gs_tb β N q := by
  unfold fo_pb gs_tb
  rw [if_pos (show -v < 0 by omega), if_pos hT, Int.neg_neg, hv]
theorem fo_pb_lt (hT : gs_T β N q = 3) (h : gs_itx I0 I a x (0, gs_tl β N q)) (h0 : 0 ≤ x) : fo_pb (I 51) x = gs_tb β N q := by
  unfold fo_pb gs_tb
  rw [if_neg (show ¬ x < 0 by omega), if_neg (show ¬ gs_T β N q = 2 by omega)]
  have e := h.1
  unfold so_rx at e
  rw [if_neg (show ¬ x = -2147483648 by omega), if_neg (show ¬ x < 0 by omega)] at e
  exact congrArg Prod.snd e
theorem fo_okb_lt (h : gs_itx I0 I a x (0, gs_tl β N q)) (h0 : 0 ≤ x) (hl : ∀ i : Int, 0 ≤ i → i < gs_X β N q - gs_A β N q - 2 → 97 ≤ β (gs_A β N q + 1 + i)) : fo_okb (I 0 59) (I 51) x := by
  have o := (h.2.resolve_left (fun c => by omega)).resolve_left (fun c => by have := c.1; omega)
  refine Or.inr ⟨o.1, o.2, fun i i0 i1 => ?_⟩
  have e := h.1
  unfold so_rx at e
  rw [if_neg (show ¬ x = -2147483648 by omega), if_neg (show ¬ x < 0 by omega), so_nv o.1, so_ov o.1] at e
  have e1 : x % 16 = gs_X β N q - gs_A β N q - 2 := congrArg (fun z => z.2.1) e
  have e2 : so_cut (x % 16) (fun i => I 51 (Int.toNat (x / 16 + i))) = so_cut (gs_X β N q - gs_A β N q - 2) (fun i => β (gs_A β N q + 1 + i)) := congrArg (fun z => z.2.2) e
  have e3 := congrFun e2 i
  rw [so_cut_i i0 i1, so_cut_i i0 (by omega)] at e3
  have e4 : I 51 (Int.toNat (x / 16 + i)) = β (gs_A β N q + 1 + i) := e3
  have := hl i i0 (by omega)
  omega
end F9
