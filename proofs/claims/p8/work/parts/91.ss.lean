/-! THE DEAREST FIRST: what stands of a node's trees. -/
def gr_dg : Int → Nat → Int
  | z, 0 => z % 16
  | z, k + 1 => gr_dg (z / 16) k
theorem gr_dg_0 {z r : Int} (hr : 0 ≤ r ∧ r ≤ 15) : gr_dg (16 * z + r) 0 = r := by
  show (16 * z + r) % 16 = r
  omega
theorem gr_dg_s {z r : Int} {k : Nat} (hr : 0 ≤ r ∧ r ≤ 15) : gr_dg (16 * z + r) (k + 1) = gr_dg z k := by
  show gr_dg ((16 * z + r) / 16) k = gr_dg z k
  rw [show (16 * z + r) / 16 = z from by omega]
/-- an entry of node x: its way i stands among its ways, its ranks z are ranks of what stands of the arguments, which are lower nodes -/
def gr_E1 (I : gr_I) (x i z : Int) : Prop := 0 ≤ I 97 (Int.toNat (I 99 (Int.toNat i))) → ∀ a : Nat, (a : Int) < I 6 (Int.toNat (I 95 (Int.toNat (I 99 (Int.toNat i))))) → (0 ≤ I 98 (4 * Int.toNat (I 99 (Int.toNat i)) + a) ∧ I 98 (4 * Int.toNat (I 99 (Int.toNat i)) + a) < x) ∧ gr_dg z (Int.toNat (I 6 (Int.toNat (I 95 (Int.toNat (I 99 (Int.toNat i))))) - 1 - (a : Int))) < I 105 (Int.toNat (I 98 (4 * Int.toNat (I 99 (Int.toNat i)) + a)))
def gr_T1 (I : gr_I) (x r : Nat) : Prop := (I 91 x ≤ I 107 (16 * x + r) ∧ I 107 (16 * x + r) < I 91 x + I 92 x) ∧ gr_E1 I (x : Int) (I 107 (16 * x + r)) (I 108 (16 * x + r))
def gr_TP (k : Int) (I : gr_I) : Prop := ∀ x r : Nat, (x : Int) < k → (r : Int) < I 105 x → gr_T1 I x r
def gr_TQ (k n h : Int) (I : gr_I) : Prop := gr_TP k I ∧ ∀ r : Nat, (r : Int) < n → ¬ (r : Int) = h → gr_T1 I (Int.toNat k) r
/-- rows that an entry is told by, as they were -/
def gr_SM (I I' : gr_I) : Prop := (∀ j, I' 97 j = I 97 j) ∧ (∀ j, I' 99 j = I 99 j) ∧ (∀ j, I' 6 j = I 6 j) ∧ (∀ j, I' 95 j = I 95 j) ∧ (∀ j, I' 98 j = I 98 j) ∧ (∀ j, I' 91 j = I 91 j) ∧ ∀ j, I' 92 j = I 92 j
theorem gr_SM_tr {I I1 I2 : gr_I} (h : gr_SM I I1) (g : gr_SM I1 I2) : gr_SM I I2 := by
  obtain ⟨a1, a2, a3, a4, a5, a6, a7⟩ := h
  obtain ⟨b1, b2, b3, b4, b5, b6, b7⟩ := g
  exact ⟨fun j => (b1 j).trans (a1 j), fun j => (b2 j).trans (a2 j), fun j => (b3 j).trans (a3 j), fun j => (b4 j).trans (a4 j), fun j => (b5 j).trans (a5 j), fun j => (b6 j).trans (a6 j), fun j => (b7 j).trans (a7 j)⟩
theorem gr_SM_r {b : Nat} {k : Nat} {I I' : gr_I} (hb : ¬ b = 97 ∧ ¬ b = 99 ∧ ¬ b = 6 ∧ ¬ b = 95 ∧ ¬ b = 98 ∧ ¬ b = 91 ∧ ¬ b = 92) (p : ∀ c j, ¬ (c = b ∧ j = k) → I' c j = I c j) : gr_SM I I' := by
  obtain ⟨h1, h2, h3, h4, h5, h6, h7⟩ := hb
  exact ⟨fun j => p _ _ (fun q => h1 q.1.symm), fun j => p _ _ (fun q => h2 q.1.symm), fun j => p _ _ (fun q => h3 q.1.symm), fun j => p _ _ (fun q => h4 q.1.symm), fun j => p _ _ (fun q => h5 q.1.symm), fun j => p _ _ (fun q => h6 q.1.symm), fun j => p _ _ (fun q => h7 q.1.symm)⟩
theorem gr_E1_x {I I' : gr_I} {x i z : Int} (h : gr_E1 I x i z) (s : gr_SM I I') (ht : ∀ j : Nat, (j : Int) < x → I' 105 j = I 105 j) : gr_E1 I' x i z := by
  obtain ⟨a1, a2, a3, a4, a5, a6, a7⟩ := s
  unfold gr_E1
  intro h0 a ha
  rw [a2, a1] at h0
  rw [a2, a4, a3] at ha
  have h9 := h h0 a ha
  rw [a2, a4, a3, a5, ht _ (by omega)]
  exact h9
theorem gr_T1_x {I I' : gr_I} {x r : Nat} (h : gr_T1 I x r) (s : gr_SM I I') (ht : ∀ j : Nat, (j : Int) < (x : Int) → I' 105 j = I 105 j) (h1 : I' 107 (16 * x + r) = I 107 (16 * x + r)) (h2 : I' 108 (16 * x + r) = I 108 (16 * x + r)) : gr_T1 I' x r := by
  have s9 := s
  obtain ⟨a1, a2, a3, a4, a5, a6, a7⟩ := s
  unfold gr_T1
  rw [a6, a7, h1, h2]
  exact ⟨h.1, gr_E1_x h.2 s9 ht⟩
set_option maxHeartbeats 8000000 in
theorem gr_TP_x {I I' : gr_I} {k : Int} (h : gr_TP k I) (s : gr_SM I I') (ht : ∀ j : Nat, (j : Int) < k → I' 105 j = I 105 j) (h1 : ∀ j : Nat, (j : Int) < 16 * k → I' 107 j = I 107 j) (h2 : ∀ j : Nat, (j : Int) < 16 * k → I' 108 j = I 108 j) (hr : ∀ j, I 105 j ≤ 16) : gr_TP k I' := fun x r hx hr9 => by
  rw [ht x hx] at hr9
  have h16 := hr x
  exact gr_T1_x (h x r hx hr9) s (fun j hj => ht j (by exact gz_m 0 (by omega))) (h1 _ (by exact gz_m 1 (by omega))) (h2 _ (by exact gz_m 2 (by omega)))
theorem gr_tn16 {I : gr_I} (hI : gr_Inv I) (j : Nat) : I 105 j ≤ 16 := (gr_b_105 hI j).2
theorem gr_TQ_in {I : gr_I} {k n h : Int} (h0 : 0 ≤ k) (hp : gr_TP (k + 1) I) (hn : ∀ r : Nat, (r : Int) < n → ¬ (r : Int) = h → (r : Int) < I 105 (Int.toNat k)) : gr_TQ k n h I := ⟨fun x r hx hr => hp x r (by omega) hr, fun r h1 h2 => hp (Int.toNat k) r (by omega) (hn r h1 h2)⟩
theorem gr_TQ_mv {I I1 I2 I' : gr_I} {k n h : Int} {i1 i2 i3 j2 j3 : Nat} (hI : gr_Inv I) (h0 : 0 ≤ k) (hq : gr_TQ k n h I) (hh : 1 ≤ h) (hn : h ≤ n) (hi2 : (i2 : Int) = 16 * k + h) (hi3 : (i3 : Int) = 16 * k + h) (hj2 : (j2 : Int) = 16 * k + h - 1) (hj3 : (j3 : Int) = 16 * k + h - 1) (p1 : ∀ b j, ¬ (b = 106 ∧ j = i1) → I1 b j = I b j) (p2 : ∀ b j, ¬ (b = 107 ∧ j = i2) → I2 b j = I1 b j) (q2 : I2 107 i2 = I1 107 j2) (p3 : ∀ b j, ¬ (b = 108 ∧ j = i3) → I' b j = I2 b j) (q3 : I' 108 i3 = I2 108 j3) : gr_TQ k n (h - 1) I' := by
  have s : gr_SM I I' := gr_SM_tr (gr_SM_r (by decide) p1) (gr_SM_tr (gr_SM_r (by decide) p2) (gr_SM_r (by decide) p3))
  have tn : ∀ j : Nat, I' 105 j = I 105 j := fun j => (p3 _ _ (fun q => absurd q.1 (by decide))).trans ((p2 _ _ (fun q => absurd q.1 (by decide))).trans (p1 _ _ (fun q => absurd q.1 (by decide))))
  have tw : ∀ j : Nat, ¬ j = i2 → I' 107 j = I 107 j := fun j hj => (p3 _ _ (fun q => absurd q.1 (by decide))).trans ((p2 _ _ (fun q => hj q.2)).trans (p1 _ _ (fun q => absurd q.1 (by decide))))
  have tk : ∀ j : Nat, ¬ j = i3 → I' 108 j = I 108 j := fun j hj => (p3 _ _ (fun q => hj q.2)).trans ((p2 _ _ (fun q => absurd q.1 (by decide))).trans (p1 _ _ (fun q => absurd q.1 (by decide))))
  refine ⟨gr_TP_x hq.1 s (fun j _ => tn j) (fun j hj => tw j (by exact gz_m 0 (by omega))) (fun j hj => tk j (by exact gz_m 1 (by omega))) (gr_tn16 hI), fun r hr hne => ?_⟩
  by_cases c : (r : Int) = h
  · have e := hq.2 (Int.toNat (h - 1)) (by exact gz_m 2 (by omega)) (by exact gz_m 3 (by omega))
    have ei : 16 * Int.toNat k + Int.toNat (h - 1) = j2 := by exact gz_m 4 (by omega)
    have e2 : 16 * Int.toNat k + r = i2 := by exact gz_m 5 (by omega)
    have e3 : i3 = i2 := by exact gz_m 6 (by omega)
    have w2 : I' 107 i2 = I 107 j2 := by rw [p3 _ _ (fun q => absurd q.1 (by decide)), q2, p1 _ _ (fun q => absurd q.1 (by decide))]
    have w3 : I' 108 i2 = I 108 j2 := by rw [← e3, q3, show j3 = j2 from by exact gz_m 7 (by omega), p2 _ _ (fun q => absurd q.1 (by decide)), p1 _ _ (fun q => absurd q.1 (by decide))]
    unfold gr_T1 at e ⊢
    rw [ei] at e
    rw [e2, w2, w3, s.2.2.2.2.2.1, s.2.2.2.2.2.2]
    exact ⟨e.1, gr_E1_x e.2 s (fun j _ => tn j)⟩
  · exact gr_T1_x (hq.2 r hr c) s (fun j _ => tn j) (tw _ (by exact gz_m 8 (by omega))) (tk _ (by exact gz_m 9 (by omega)))
set_option maxHeartbeats 8000000 in
theorem gr_TQ_fl {I I1 I2 I' : gr_I} {k n h i z : Int} {i1 i2 i3 : Nat} (hI : gr_Inv I) (h0 : 0 ≤ k) (hq : gr_TQ k n h I) (hh : 0 ≤ h) (hi2 : (i2 : Int) = 16 * k + h) (hi3 : (i3 : Int) = 16 * k + h) (p1 : ∀ b j, ¬ (b = 106 ∧ j = i1) → I1 b j = I b j) (p2 : ∀ b j, ¬ (b = 107 ∧ j = i2) → I2 b j = I1 b j) (q2 : I2 107 i2 = i) (p3 : ∀ b j, ¬ (b = 108 ∧ j = i3) → I' b j = I2 b j) (q3 : I' 108 i3 = z) (e : gr_E1 I k i z) (e1 : I 91 (Int.toNat k) ≤ i) (e2 : i < I 91 (Int.toNat k) + I 92 (Int.toNat k)) : gr_TQ k n (-1) I' := by
  have s : gr_SM I I' := gr_SM_tr (gr_SM_r (by decide) p1) (gr_SM_tr (gr_SM_r (by decide) p2) (gr_SM_r (by decide) p3))
  have tn : ∀ j : Nat, I' 105 j = I 105 j := fun j => (p3 _ _ (fun q => absurd q.1 (by decide))).trans ((p2 _ _ (fun q => absurd q.1 (by decide))).trans (p1 _ _ (fun q => absurd q.1 (by decide))))
  have tw : ∀ j : Nat, ¬ j = i2 → I' 107 j = I 107 j := fun j hj => (p3 _ _ (fun q => absurd q.1 (by decide))).trans ((p2 _ _ (fun q => hj q.2)).trans (p1 _ _ (fun q => absurd q.1 (by decide))))
  have tk : ∀ j : Nat, ¬ j = i3 → I' 108 j = I 108 j := fun j hj => (p3 _ _ (fun q => hj q.2)).trans ((p2 _ _ (fun q => absurd q.1 (by decide))).trans (p1 _ _ (fun q => absurd q.1 (by decide))))
  refine ⟨gr_TP_x hq.1 s (fun j _ => tn j) (fun j hj => tw j (by exact gz_m 0 (by omega))) (fun j hj => tk j (by exact gz_m 1 (by omega))) (gr_tn16 hI), fun r hr hne => ?_⟩
  by_cases c : (r : Int) = h
  · have e2' : 16 * Int.toNat k + r = i2 := by exact gz_m 2 (by omega)
    have e3 : i3 = i2 := by exact gz_m 3 (by omega)
    have w2 : I' 107 i2 = i := by rw [p3 _ _ (fun q => absurd q.1 (by decide)), q2]
    have w3 : I' 108 i2 = z := by rw [← e3, q3]
    unfold gr_T1
    rw [e2', w2, w3, s.2.2.2.2.2.1, s.2.2.2.2.2.2, show ((Int.toNat k : Nat) : Int) = k from by exact gz_m 4 (by omega)]
    exact ⟨⟨e1, e2⟩, gr_E1_x e s (fun j _ => tn j)⟩
  · exact gr_T1_x (hq.2 r hr c) s (fun j _ => tn j) (tw _ (by exact gz_m 5 (by omega))) (tk _ (by exact gz_m 6 (by omega)))
theorem gr_TP_of {I : gr_I} {k n : Int} (h0 : 0 ≤ k) (hq : gr_TQ k n (-1) I) (hn : I 105 (Int.toNat k) ≤ n) : gr_TP (k + 1) I := fun x r hx hr => by
  by_cases c : (x : Int) < k
  · exact hq.1 x r c hr
  · have e : x = Int.toNat k := by exact gz_m 0 (by omega)
    rw [e] at hr ⊢
    exact hq.2 r (by exact gz_m 1 (by omega)) (by exact gz_m 2 (by omega))
theorem gr_TP_up {I I' : gr_I} {k n : Int} (hI : gr_Inv I) (h0 : 0 ≤ k) (hq : gr_TQ k n (-1) I) (p : ∀ b j, ¬ (b = 105 ∧ j = Int.toNat k) → I' b j = I b j) (hn : I' 105 (Int.toNat k) ≤ n) : gr_TP (k + 1) I' := by
  have s : gr_SM I I' := gr_SM_r (by decide) p
  have tn : ∀ j : Nat, (j : Int) < k → I' 105 j = I 105 j := fun j hj => p _ _ (fun q => by have := q.2; exact gz_m 0 (by omega))
  intro x r hx hr
  by_cases c : (x : Int) < k
  · rw [tn x c] at hr
    exact gr_T1_x (hq.1 x r c hr) s (fun j hj => tn j (by exact gz_m 1 (by omega))) (p _ _ (fun q => absurd q.1 (by decide))) (p _ _ (fun q => absurd q.1 (by decide)))
  · have e : x = Int.toNat k := by exact gz_m 2 (by omega)
    subst e
    exact gr_T1_x (hq.2 r (by exact gz_m 3 (by omega)) (by exact gz_m 4 (by omega))) s (fun j hj => tn j (by exact gz_m 5 (by omega))) (p _ _ (fun q => absurd q.1 (by decide))) (p _ _ (fun q => absurd q.1 (by decide)))
def gr_TS (k : Int) (I I' : gr_I) : Prop := ∀ x : Nat, ¬ (x : Int) = k → I' 105 x = I 105 x
theorem gr_TS_rf (k : Int) (I : gr_I) : gr_TS k I I := fun _ _ => rfl
theorem gr_TS_tr {k : Int} {I I1 I2 : gr_I} (h : gr_TS k I I1) (g : gr_TS k I1 I2) : gr_TS k I I2 := fun x hx => (g x hx).trans (h x hx)
theorem gr_SM_F {I I' : gr_I} {fs as : List Nat} (F : gr_fr fs as I I') (hr : (!(as.elem 97) && !(as.elem 99) && !(as.elem 6) && !(as.elem 95) && !(as.elem 98) && !(as.elem 91) && !(as.elem 92)) = true := by rfl) : gr_SM I I' := by
  simp only [Bool.and_eq_true, Bool.not_eq_true'] at hr
  obtain ⟨⟨⟨⟨⟨⟨a1, a2⟩, a3⟩, a4⟩, a5⟩, a6⟩, a7⟩ := hr
  exact ⟨fun k => F _ k a1, fun k => F _ k a2, fun k => F _ k a3, fun k => F _ k a4, fun k => F _ k a5, fun k => F _ k a6, fun k => F _ k a7⟩
set_option maxHeartbeats 8000000 in
set_option maxRecDepth 100000 in
theorem r_tops_f {ws0 : List Cond} {tb : String → gz_T} (hws : ∀ w ∈ gr_ws, w ∈ ws0) (htb : tb RX13 = gr_T) (ext : gz_Sh) (I : gr_I) (J : gr_J) (hI : gr_Inv I) (a1 : Int) (a2 : Int) (a3 : Int) (a4 : Int) (ha1 : 0 ≤ a1 ∧ a1 ≤ 2999) (ha2 : (-2147483648) ≤ a2 ∧ a2 ≤ 2147483647) (ha3 : 0 ≤ a3 ∧ a3 ≤ 8999) (ha4 : 0 ≤ a4 ∧ a4 ≤ 65535) (x0 : gr_TP (a1 + 1) I) (x1 : gr_E1 I a1 a3 a4) (x2 : I 91 (Int.toNat a1) ≤ a3) (x3 : a3 < I 91 (Int.toNat a1) + I 92 (Int.toNat a1)) : ∃ r h', gz_Ev ws0 tb 2 (yX13_tops, cX13_tops, 7, none) [.inr (.inr (some 0)), .inl a1, .inl a2, .inl a3, .inl a4] (gr_sh ++ ext) (gr_h I J) r (gr_sh ++ ext) h' 0 0 ∧ (∃ (I' : gr_I) (J' : gr_J), h' = gr_h I' J' ∧ gr_Inv I' ∧ gr_fr [] [105, 106, 107, 108] I I' ∧ gr_fj [] [105, 106, 107, 108] J J' ∧ r = none ∧ (gr_TP (a1 + 1) I') ∧ (gr_TS a1 I I')) := by
  have FI : gr_fr [] [105, 106, 107, 108] I I := fun _ _ _ => rfl
  have FJ : gr_fj [] [105, 106, 107, 108] J J := fun _ _ _ => rfl
  have hD : gv_D (gr_E ws0 tb 1 (yX13_tops, cX13_tops, 7, none) kX13_tops) := gq_of oX13_tops
  refine gr_ev (d := 1) (l := kX13_tops) (Po := fun r h' => (∃ (I' : gr_I) (J' : gr_J), h' = gr_h I' J' ∧ gr_Inv I' ∧ gr_fr [] [105, 106, 107, 108] I I' ∧ gr_fj [] [105, 106, 107, 108] J J' ∧ r = none ∧ (gr_TP (a1 + 1) I') ∧ (gr_TS a1 I I'))) htb rfl (Nat.le_of_ble_eq_true rfl) ?_
  have L42 : ∀ (n : Nat) (I1 : gr_I) (J2 : gr_J) (v5_3 : Int) (v6_3 : Int), (v5_3 - (-1)).toNat < n → gr_Inv I1 → gr_fr [] [105, 106, 107, 108] I I1 → gr_fj [] [105, 106, 107, 108] J J2 → ((0 ≤ a1 ∧ a1 ≤ 2999) ∧ ((-2147483648) ≤ a2 ∧ a2 ≤ 2147483647) ∧ (0 ≤ a3 ∧ a3 ≤ 8999) ∧ (0 ≤ a4 ∧ a4 ≤ 65535) ∧ (0 ≤ v5_3 ∧ v5_3 ≤ 15) ∧ (0 ≤ v6_3 ∧ v6_3 ≤ 47984) ∧ (v6_3 = 16 * a1) ∧ (I1 105 (Int.toNat a1) = I 105 (Int.toNat a1)) ∧ (I 105 (Int.toNat a1) ≤ 16) ∧ (v5_3 ≤ I 105 (Int.toNat a1))) → (gr_TQ a1 (if I 105 (Int.toNat a1) < 16 then I 105 (Int.toNat a1) + 1 else 16) v5_3 I1) → (gr_TS a1 I I1) → gv_X (gr_E ws0 tb 1 (yX13_tops, cX13_tops, 7, none) kX13_tops) (gv_Q cX13_tops none (gr_sh ++ ext) (fun r h' => (∃ (I' : gr_I) (J' : gr_J), h' = gr_h I' J' ∧ gr_Inv I' ∧ gr_fr [] [105, 106, 107, 108] I I' ∧ gr_fj [] [105, 106, 107, 108] J J' ∧ r = none ∧ (gr_TP (a1 + 1) I') ∧ (gr_TS a1 I I')))) (42, [(0, .inr (.inr (some 0))), (1, .inl a1), (2, .inl a2), (3, .inl a3), (4, .inl a4), (5, .inl v5_3), (6, .inl v6_3)], [], gr_sh ++ ext, gr_h I1 J2) := by
    intro n
    induction n with
    | zero => intro I1 J2 v5_3 v6_3 hn; exact gz_m 0 (by omega)
    | succ n ih42 =>
      intro I1 J2 v5_3 v6_3 hn hI1 FI1 FJ2 m_3 e0_3 e1_3
      obtain ⟨ha1_3, ha2_3, ha3_3, ha4_3, hv5_3, hv6_3, e2_3, e3_3, e4_3, e5_3⟩ := m_3
      have L137 : ((0 ≤ a1 ∧ a1 ≤ 2999) ∧ ((-2147483648) ≤ a2 ∧ a2 ≤ 2147483647) ∧ (0 ≤ a3 ∧ a3 ≤ 8999) ∧ (0 ≤ a4 ∧ a4 ≤ 65535) ∧ (0 ≤ v5_3 ∧ v5_3 ≤ 15) ∧ (0 ≤ v6_3 ∧ v6_3 ≤ 47984) ∧ (v6_3 = 16 * a1) ∧ (I1 105 (Int.toNat a1) = I 105 (Int.toNat a1)) ∧ (I 105 (Int.toNat a1) ≤ 16) ∧ (v5_3 ≤ I 105 (Int.toNat a1))) → (gr_TQ a1 (if I 105 (Int.toNat a1) < 16 then I 105 (Int.toNat a1) + 1 else 16) v5_3 I1) → (gr_TS a1 I I1) → gv_X (gr_E ws0 tb 1 (yX13_tops, cX13_tops, 7, none) kX13_tops) (gv_Q cX13_tops none (gr_sh ++ ext) (fun r h' => (∃ (I' : gr_I) (J' : gr_J), h' = gr_h I' J' ∧ gr_Inv I' ∧ gr_fr [] [105, 106, 107, 108] I I' ∧ gr_fj [] [105, 106, 107, 108] J J' ∧ r = none ∧ (gr_TP (a1 + 1) I') ∧ (gr_TS a1 I I')))) (137, [(0, .inr (.inr (some 0))), (1, .inl a1), (2, .inl a2), (3, .inl a3), (4, .inl a4), (5, .inl v5_3), (6, .inl v6_3)], [], gr_sh ++ ext, gr_h I1 J2) := by
        intro m_4 e0_4 e1_4
        obtain ⟨ha1_4, ha2_4, ha3_4, ha4_4, hv5_3_4, hv6_3_4, e2_4, e3_4, e4_4, e5_4⟩ := m_4
        have L192 : ∀ (I5 : gr_I) (J6 : gr_J) , gr_Inv I5 → gr_fr [] [105, 106, 107, 108] I I5 → gr_fj [] [105, 106, 107, 108] J J6 → (gr_TP (a1 + 1) I5) → (gr_TS a1 I I5) → gv_X (gr_E ws0 tb 1 (yX13_tops, cX13_tops, 7, none) kX13_tops) (gv_Q cX13_tops none (gr_sh ++ ext) (fun r h' => (∃ (I' : gr_I) (J' : gr_J), h' = gr_h I' J' ∧ gr_Inv I' ∧ gr_fr [] [105, 106, 107, 108] I I' ∧ gr_fj [] [105, 106, 107, 108] J J' ∧ r = none ∧ (gr_TP (a1 + 1) I') ∧ (gr_TS a1 I I')))) (192, [], [], gr_sh ++ ext, gr_h I5 J6) := by
          intro I5 J6 hI5 FI5 FJ6 e0_7 e1_7
          clear ha1_4 ha2_4 ha3_4 ha4_4 hv5_3_4 hv6_3_4 e2_4 e3_4 e4_4 e5_4 ha1_3 ha2_3 ha3_3 ha4_3 hv5_3 hv6_3 e2_3 e3_3 e4_3 e5_3
          exact gv_vret hD rfl ⟨I5, J6, rfl, hI5, FI5, FJ6, ⟨rfl, e0_7, e1_7⟩⟩
        refine gv_run 6 true hD (pc' := 147) (lv' := [(0, .inr (.inr (some 0))), (1, .inl a1), (2, .inl a2), (3, .inl a3), (4, .inl a4), (5, .inl v5_3), (6, .inl v6_3)]) (st' := [.inl a2, .inl (v6_3 + v5_3), .inr (.inr (some 106))]) (h' := gr_h I1 J2) (C := ((((((True ∧ True) ∧ True) ∧ True) ∧ True) ∧ True) ∧ True)) rfl ⟨⟨⟨⟨⟨⟨trivial, trivial⟩, trivial⟩, trivial⟩, trivial⟩, trivial⟩, trivial⟩ ?_
        refine gv_run 1 true hD (pc' := 148) (lv' := [(0, .inr (.inr (some 0))), (1, .inl a1), (2, .inl a2), (3, .inl a3), (4, .inl a4), (5, .inl v5_3), (6, .inl v6_3)]) (st' := []) (h' := gz_up (gr_h I1 J2) 106 (Int.toNat ((v6_3 + v5_3))) (.inl a2)) (C := (True ∧ (0 ≤ (v6_3 + v5_3) ∧ (v6_3 + v5_3) < ((48000 : Nat) : Int)))) rfl ⟨trivial, ⟨by exact gz_m 1 (by omega), by exact gz_m 2 (by omega)⟩⟩ ?_
        refine gr_st hI1 FI1 rfl rfl ⟨⟨by show (-2147483648) ≤ _; exact gz_m 3 (by omega), by show _ ≤ 2147483647; exact gz_m 4 (by omega)⟩, trivial⟩ (fun I8 hI8 FI8 q9 p9 => ?_)
        have t10 := p9 105 (Int.toNat a1) (fun q => absurd q.1 (by decide))
        refine gv_run 6 true hD (pc' := 158) (lv' := [(0, .inr (.inr (some 0))), (1, .inl a1), (2, .inl a2), (3, .inl a3), (4, .inl a4), (5, .inl v5_3), (6, .inl v6_3)]) (st' := [.inl a3, .inl (v6_3 + v5_3), .inr (.inr (some 107))]) (h' := gr_h I8 J2) (C := ((((((True ∧ True) ∧ True) ∧ True) ∧ True) ∧ True) ∧ True)) rfl ⟨⟨⟨⟨⟨⟨trivial, trivial⟩, trivial⟩, trivial⟩, trivial⟩, trivial⟩, trivial⟩ ?_
        refine gv_run 1 true hD (pc' := 159) (lv' := [(0, .inr (.inr (some 0))), (1, .inl a1), (2, .inl a2), (3, .inl a3), (4, .inl a4), (5, .inl v5_3), (6, .inl v6_3)]) (st' := []) (h' := gz_up (gr_h I8 J2) 107 (Int.toNat ((v6_3 + v5_3))) (.inl a3)) (C := (True ∧ (0 ≤ (v6_3 + v5_3) ∧ (v6_3 + v5_3) < ((48000 : Nat) : Int)))) rfl ⟨trivial, ⟨by exact gz_m 5 (by omega), by exact gz_m 6 (by omega)⟩⟩ ?_
        refine gr_st hI8 FI8 rfl rfl ⟨⟨by show 0 ≤ _; exact gz_m 7 (by omega), by show _ ≤ 8999; exact gz_m 8 (by omega)⟩, trivial⟩ (fun I11 hI11 FI11 q12 p12 => ?_)
        have t13 := p12 105 (Int.toNat a1) (fun q => absurd q.1 (by decide))
        refine gv_run 6 true hD (pc' := 170) (lv' := [(0, .inr (.inr (some 0))), (1, .inl a1), (2, .inl a2), (3, .inl a3), (4, .inl a4), (5, .inl v5_3), (6, .inl v6_3)]) (st' := [.inl a4, .inl (v6_3 + v5_3), .inr (.inr (some 108))]) (h' := gr_h I11 J2) (C := ((((((True ∧ True) ∧ True) ∧ True) ∧ True) ∧ True) ∧ True)) rfl ⟨⟨⟨⟨⟨⟨trivial, trivial⟩, trivial⟩, trivial⟩, trivial⟩, trivial⟩, trivial⟩ ?_
        refine gv_run 1 true hD (pc' := 171) (lv' := [(0, .inr (.inr (some 0))), (1, .inl a1), (2, .inl a2), (3, .inl a3), (4, .inl a4), (5, .inl v5_3), (6, .inl v6_3)]) (st' := []) (h' := gz_up (gr_h I11 J2) 108 (Int.toNat ((v6_3 + v5_3))) (.inl a4)) (C := (True ∧ (0 ≤ (v6_3 + v5_3) ∧ (v6_3 + v5_3) < ((48000 : Nat) : Int)))) rfl ⟨trivial, ⟨by exact gz_m 9 (by omega), by exact gz_m 10 (by omega)⟩⟩ ?_
        refine gr_st hI11 FI11 rfl rfl ⟨⟨by show 0 ≤ _; exact gz_m 11 (by omega), by show _ ≤ 65535; exact gz_m 12 (by omega)⟩, trivial⟩ (fun I14 hI14 FI14 q15 p15 => ?_)
        have t16 := p15 105 (Int.toNat a1) (fun q => absurd q.1 (by decide))
        have f17 := (gr_b_105 hI14 (Int.toNat a1))
        refine gv_run 4 true hD (pc' := 177) (lv' := [(0, .inr (.inr (some 0))), (1, .inl a1), (2, .inl a2), (3, .inl a3), (4, .inl a4), (5, .inl v5_3), (6, .inl v6_3)]) (st' := [.inl (I14 105 (Int.toNat a1))]) (h' := gr_h I14 J2) (C := ((((True ∧ True) ∧ True) ∧ True) ∧ (0 ≤ a1 ∧ a1 < ((3000 : Nat) : Int)))) rfl ⟨⟨⟨⟨trivial, trivial⟩, trivial⟩, trivial⟩, ⟨by exact gz_m 13 (by omega), by exact gz_m 14 (by omega)⟩⟩ ?_
        refine gv_run 1 true hD (pc' := 179) (lv' := [(0, .inr (.inr (some 0))), (1, .inl a1), (2, .inl a2), (3, .inl a3), (4, .inl a4), (5, .inl v5_3), (6, .inl v6_3)]) (st' := [.inl 16, .inl (I14 105 (Int.toNat a1))]) (h' := gr_h I14 J2) (C := (True ∧ True)) rfl ⟨trivial, trivial⟩ ?_
        refine gv_icmp_ge (t := 192) hD rfl rfl ⟨⟨by exact gz_m 15 (by omega), by exact gz_m 16 (by omega)⟩, ⟨by exact gz_m 17 (by omega), by exact gz_m 18 (by omega)⟩⟩ (fun c18 => ?_) (fun c18 => ?_)
        · refine gv_pick [] rfl ?_
          exact L192 I14 J2 hI14 FI14 FJ2 (gr_TP_of (by exact gz_m 19 (by omega)) (gr_TQ_fl hI1 (by exact gz_m 20 (by omega)) e0_4 (by exact gz_m 21 (by omega)) (by exact gz_m 22 (by omega)) (by exact gz_m 23 (by omega)) p9 p12 q12 p15 q15 (gr_E1_x x1 (gr_SM_F FI1) (fun j hj => e1_4 j (by exact gz_m 24 (by omega)))) (by rw [FI1 91 _ rfl]; exact x2) (by rw [FI1 91 _ rfl, FI1 92 _ rfl]; exact x3)) (by exact gz_m 25 (by omega))) (gr_TS_tr e1_4 (fun x hx => by rw [p15 105 x (fun q => absurd q.1 (by decide)), p12 105 x (fun q => absurd q.1 (by decide)), p9 105 x (fun q => absurd q.1 (by decide))]))
        · have f19 := (gr_b_105 hI14 (Int.toNat a1))
          refine gv_run 5 true hD (pc' := 189) (lv' := [(0, .inr (.inr (some 0))), (1, .inl a1), (2, .inl a2), (3, .inl a3), (4, .inl a4), (5, .inl v5_3), (6, .inl v6_3)]) (st' := [.inl (I14 105 (Int.toNat a1)), .inl a1, .inr (.inr (some 105))]) (h' := gr_h I14 J2) (C := (((((True ∧ True) ∧ True) ∧ True) ∧ True) ∧ (0 ≤ a1 ∧ a1 < ((3000 : Nat) : Int)))) rfl ⟨⟨⟨⟨⟨trivial, trivial⟩, trivial⟩, trivial⟩, trivial⟩, ⟨by exact gz_m 26 (by omega), by exact gz_m 27 (by omega)⟩⟩ ?_
          refine gv_run 3 true hD (pc' := 192) (lv' := [(0, .inr (.inr (some 0))), (1, .inl a1), (2, .inl a2), (3, .inl a3), (4, .inl a4), (5, .inl v5_3), (6, .inl v6_3)]) (st' := []) (h' := gz_up (gr_h I14 J2) 105 (Int.toNat a1) (.inl (((I14 105 (Int.toNat a1)) + 1)))) (C := (((True ∧ True) ∧ True) ∧ (0 ≤ a1 ∧ a1 < ((3000 : Nat) : Int)))) rfl ⟨⟨⟨trivial, trivial⟩, trivial⟩, ⟨by exact gz_m 28 (by omega), by exact gz_m 29 (by omega)⟩⟩ ?_
          refine gr_st hI14 FI14 rfl rfl ⟨⟨by show 0 ≤ _; exact gz_m 30 (by omega), by show _ ≤ 16; exact gz_m 31 (by omega)⟩, trivial⟩ (fun I20 hI20 FI20 q21 p21 => ?_)
          refine gv_pick [] rfl ?_
          exact L192 I20 J2 hI20 FI20 FJ2 (gr_TP_up hI14 (by exact gz_m 32 (by omega)) (gr_TQ_fl hI1 (by exact gz_m 33 (by omega)) e0_4 (by exact gz_m 34 (by omega)) (by exact gz_m 35 (by omega)) (by exact gz_m 36 (by omega)) p9 p12 q12 p15 q15 (gr_E1_x x1 (gr_SM_F FI1) (fun j hj => e1_4 j (by exact gz_m 37 (by omega)))) (by rw [FI1 91 _ rfl]; exact x2) (by rw [FI1 91 _ rfl, FI1 92 _ rfl]; exact x3)) p21 (by exact gz_m 38 (by omega))) (gr_TS_tr e1_4 (fun x hx => by rw [p21 105 x (fun q => hx (by have := q.2; exact gz_m 39 (by omega))), p15 105 x (fun q => absurd q.1 (by decide)), p12 105 x (fun q => absurd q.1 (by decide)), p9 105 x (fun q => absurd q.1 (by decide))]))
      refine gv_run 1 true hD (pc' := 44) (lv' := [(0, .inr (.inr (some 0))), (1, .inl a1), (2, .inl a2), (3, .inl a3), (4, .inl a4), (5, .inl v5_3), (6, .inl v6_3)]) (st' := [.inl v5_3]) (h' := gr_h I1 J2) (C := (True ∧ True)) rfl ⟨trivial, trivial⟩ ?_
      refine gv_if_le (t := 137) hD rfl rfl ⟨by exact gz_m 40 (by omega), by exact gz_m 41 (by omega)⟩ (fun c22 => ?_) (fun c22 => ?_)
      · exact L137 (by exact gz_m 42 (by omega)) e0_3 e1_3
      · refine gv_run 7 true hD (pc' := 57) (lv' := [(0, .inr (.inr (some 0))), (1, .inl a1), (2, .inl a2), (3, .inl a3), (4, .inl a4), (5, .inl v5_3), (6, .inl v6_3)]) (st' := [.inl (v6_3 + v5_3), .inl a4, .inl a3, .inl a2, .inr (.inr (some 0))]) (h' := gr_h I1 J2) (C := (((((((True ∧ True) ∧ True) ∧ True) ∧ True) ∧ True) ∧ True) ∧ True)) rfl ⟨⟨⟨⟨⟨⟨⟨trivial, trivial⟩, trivial⟩, trivial⟩, trivial⟩, trivial⟩, trivial⟩, trivial⟩ ?_
        refine gv_run 2 true hD (pc' := 59) (lv' := [(0, .inr (.inr (some 0))), (1, .inl a1), (2, .inl a2), (3, .inl a3), (4, .inl a4), (5, .inl v5_3), (6, .inl v6_3)]) (st' := [.inl ((v6_3 + v5_3) - 1), .inl a4, .inl a3, .inl a2, .inr (.inr (some 0))]) (h' := gr_h I1 J2) (C := ((True ∧ True) ∧ True)) rfl ⟨⟨trivial, trivial⟩, trivial⟩ ?_
        obtain ⟨r23, h23, E23, P23⟩ := r_ahead (ws0 := ws0) (tb := tb) hws htb ext I1 J2 hI1 a2 a3 a4 (((v6_3 + v5_3) - 1)) ⟨by exact gz_m 43 (by omega), by exact gz_m 44 (by omega)⟩ ⟨by exact gz_m 45 (by omega), by exact gz_m 46 (by omega)⟩ ⟨by exact gz_m 47 (by omega), by exact gz_m 48 (by omega)⟩ ⟨by exact gz_m 49 (by omega), by exact gz_m 50 (by omega)⟩ 
        obtain ⟨rfl, ⟨z23, rfl, q23⟩⟩ := P23
        refine gv_callV hD rfl (As := [.inl a2, .inl a3, .inl a4, .inl ((v6_3 + v5_3) - 1)]) (st := []) rfl (by decide) rfl rfl (gr_lV hws rfl) (Nat.le_of_ble_eq_true rfl) (gz_Ev_mono (d := 1) (by decide) E23) ?_
        show gv_X _ _ (62, [(0, .inr (.inr (some 0))), (1, .inl a1), (2, .inl a2), (3, .inl a3), (4, .inl a4), (5, .inl v5_3), (6, .inl v6_3)], [.inl z23], gr_sh ++ ext, gr_h I1 J2)
        refine gv_if_eq (t := 137) hD rfl rfl ⟨by exact gz_m 51 (by omega), by exact gz_m 52 (by omega)⟩ (fun c24 => ?_) (fun c24 => ?_)
        · exact L137 (by exact gz_m 53 (by omega)) e0_3 e1_3
        · refine gv_run 7 true hD (pc' := 78) (lv' := [(0, .inr (.inr (some 0))), (1, .inl a1), (2, .inl a2), (3, .inl a3), (4, .inl a4), (5, .inl v5_3), (6, .inl v6_3)]) (st' := [.inr (.inr (some 106)), .inl (v6_3 + v5_3), .inr (.inr (some 106))]) (h' := gr_h I1 J2) (C := (((((((True ∧ True) ∧ True) ∧ True) ∧ True) ∧ True) ∧ True) ∧ True)) rfl ⟨⟨⟨⟨⟨⟨⟨trivial, trivial⟩, trivial⟩, trivial⟩, trivial⟩, trivial⟩, trivial⟩, trivial⟩ ?_
          have f25 := (gr_b_106 hI1 (Int.toNat (((v6_3 + v5_3) - 1))))
          refine gv_run 6 true hD (pc' := 86) (lv' := [(0, .inr (.inr (some 0))), (1, .inl a1), (2, .inl a2), (3, .inl a3), (4, .inl a4), (5, .inl v5_3), (6, .inl v6_3)]) (st' := [.inl (I1 106 (Int.toNat (((v6_3 + v5_3) - 1)))), .inl (v6_3 + v5_3), .inr (.inr (some 106))]) (h' := gr_h I1 J2) (C := ((((((True ∧ True) ∧ True) ∧ True) ∧ True) ∧ True) ∧ (0 ≤ (((v6_3 + v5_3) - 1)) ∧ (((v6_3 + v5_3) - 1)) < ((48000 : Nat) : Int)))) rfl ⟨⟨⟨⟨⟨⟨trivial, trivial⟩, trivial⟩, trivial⟩, trivial⟩, trivial⟩, ⟨by exact gz_m 54 (by omega), by exact gz_m 55 (by omega)⟩⟩ ?_
          refine gv_run 1 true hD (pc' := 87) (lv' := [(0, .inr (.inr (some 0))), (1, .inl a1), (2, .inl a2), (3, .inl a3), (4, .inl a4), (5, .inl v5_3), (6, .inl v6_3)]) (st' := []) (h' := gz_up (gr_h I1 J2) 106 (Int.toNat ((v6_3 + v5_3))) (.inl ((I1 106 (Int.toNat (((v6_3 + v5_3) - 1))))))) (C := (True ∧ (0 ≤ (v6_3 + v5_3) ∧ (v6_3 + v5_3) < ((48000 : Nat) : Int)))) rfl ⟨trivial, ⟨by exact gz_m 56 (by omega), by exact gz_m 57 (by omega)⟩⟩ ?_
          refine gr_st hI1 FI1 rfl rfl ⟨⟨by show (-2147483648) ≤ _; exact gz_m 58 (by omega), by show _ ≤ 2147483647; exact gz_m 59 (by omega)⟩, trivial⟩ (fun I26 hI26 FI26 q27 p27 => ?_)
          have t28 := p27 105 (Int.toNat a1) (fun q => absurd q.1 (by decide))
          refine gv_run 7 true hD (pc' := 100) (lv' := [(0, .inr (.inr (some 0))), (1, .inl a1), (2, .inl a2), (3, .inl a3), (4, .inl a4), (5, .inl v5_3), (6, .inl v6_3)]) (st' := [.inr (.inr (some 107)), .inl (v6_3 + v5_3), .inr (.inr (some 107))]) (h' := gr_h I26 J2) (C := (((((((True ∧ True) ∧ True) ∧ True) ∧ True) ∧ True) ∧ True) ∧ True)) rfl ⟨⟨⟨⟨⟨⟨⟨trivial, trivial⟩, trivial⟩, trivial⟩, trivial⟩, trivial⟩, trivial⟩, trivial⟩ ?_
          have f29 := (gr_b_107 hI26 (Int.toNat (((v6_3 + v5_3) - 1))))
          refine gv_run 6 true hD (pc' := 108) (lv' := [(0, .inr (.inr (some 0))), (1, .inl a1), (2, .inl a2), (3, .inl a3), (4, .inl a4), (5, .inl v5_3), (6, .inl v6_3)]) (st' := [.inl (I26 107 (Int.toNat (((v6_3 + v5_3) - 1)))), .inl (v6_3 + v5_3), .inr (.inr (some 107))]) (h' := gr_h I26 J2) (C := ((((((True ∧ True) ∧ True) ∧ True) ∧ True) ∧ True) ∧ (0 ≤ (((v6_3 + v5_3) - 1)) ∧ (((v6_3 + v5_3) - 1)) < ((48000 : Nat) : Int)))) rfl ⟨⟨⟨⟨⟨⟨trivial, trivial⟩, trivial⟩, trivial⟩, trivial⟩, trivial⟩, ⟨by exact gz_m 60 (by omega), by exact gz_m 61 (by omega)⟩⟩ ?_
          refine gv_run 1 true hD (pc' := 109) (lv' := [(0, .inr (.inr (some 0))), (1, .inl a1), (2, .inl a2), (3, .inl a3), (4, .inl a4), (5, .inl v5_3), (6, .inl v6_3)]) (st' := []) (h' := gz_up (gr_h I26 J2) 107 (Int.toNat ((v6_3 + v5_3))) (.inl ((I26 107 (Int.toNat (((v6_3 + v5_3) - 1))))))) (C := (True ∧ (0 ≤ (v6_3 + v5_3) ∧ (v6_3 + v5_3) < ((48000 : Nat) : Int)))) rfl ⟨trivial, ⟨by exact gz_m 62 (by omega), by exact gz_m 63 (by omega)⟩⟩ ?_
          refine gr_st hI26 FI26 rfl rfl ⟨⟨by show 0 ≤ _; exact gz_m 64 (by omega), by show _ ≤ 8999; exact gz_m 65 (by omega)⟩, trivial⟩ (fun I30 hI30 FI30 q31 p31 => ?_)
          have t32 := p31 105 (Int.toNat a1) (fun q => absurd q.1 (by decide))
          refine gv_run 7 true hD (pc' := 122) (lv' := [(0, .inr (.inr (some 0))), (1, .inl a1), (2, .inl a2), (3, .inl a3), (4, .inl a4), (5, .inl v5_3), (6, .inl v6_3)]) (st' := [.inr (.inr (some 108)), .inl (v6_3 + v5_3), .inr (.inr (some 108))]) (h' := gr_h I30 J2) (C := (((((((True ∧ True) ∧ True) ∧ True) ∧ True) ∧ True) ∧ True) ∧ True)) rfl ⟨⟨⟨⟨⟨⟨⟨trivial, trivial⟩, trivial⟩, trivial⟩, trivial⟩, trivial⟩, trivial⟩, trivial⟩ ?_
          have f33 := (gr_b_108 hI30 (Int.toNat (((v6_3 + v5_3) - 1))))
          refine gv_run 6 true hD (pc' := 130) (lv' := [(0, .inr (.inr (some 0))), (1, .inl a1), (2, .inl a2), (3, .inl a3), (4, .inl a4), (5, .inl v5_3), (6, .inl v6_3)]) (st' := [.inl (I30 108 (Int.toNat (((v6_3 + v5_3) - 1)))), .inl (v6_3 + v5_3), .inr (.inr (some 108))]) (h' := gr_h I30 J2) (C := ((((((True ∧ True) ∧ True) ∧ True) ∧ True) ∧ True) ∧ (0 ≤ (((v6_3 + v5_3) - 1)) ∧ (((v6_3 + v5_3) - 1)) < ((48000 : Nat) : Int)))) rfl ⟨⟨⟨⟨⟨⟨trivial, trivial⟩, trivial⟩, trivial⟩, trivial⟩, trivial⟩, ⟨by exact gz_m 66 (by omega), by exact gz_m 67 (by omega)⟩⟩ ?_
          refine gv_run 1 true hD (pc' := 131) (lv' := [(0, .inr (.inr (some 0))), (1, .inl a1), (2, .inl a2), (3, .inl a3), (4, .inl a4), (5, .inl v5_3), (6, .inl v6_3)]) (st' := []) (h' := gz_up (gr_h I30 J2) 108 (Int.toNat ((v6_3 + v5_3))) (.inl ((I30 108 (Int.toNat (((v6_3 + v5_3) - 1))))))) (C := (True ∧ (0 ≤ (v6_3 + v5_3) ∧ (v6_3 + v5_3) < ((48000 : Nat) : Int)))) rfl ⟨trivial, ⟨by exact gz_m 68 (by omega), by exact gz_m 69 (by omega)⟩⟩ ?_
          refine gr_st hI30 FI30 rfl rfl ⟨⟨by show 0 ≤ _; exact gz_m 70 (by omega), by show _ ≤ 65535; exact gz_m 71 (by omega)⟩, trivial⟩ (fun I34 hI34 FI34 q35 p35 => ?_)
          have t36 := p35 105 (Int.toNat a1) (fun q => absurd q.1 (by decide))
          refine gv_run 2 true hD (pc' := 42) (lv' := [(5, .inl (v5_3 + (-1))), (0, .inr (.inr (some 0))), (1, .inl a1), (2, .inl a2), (3, .inl a3), (4, .inl a4), (6, .inl v6_3)]) (st' := []) (h' := gr_h I34 J2) (C := ((True ∧ True) ∧ True)) rfl ⟨⟨trivial, trivial⟩, trivial⟩ ?_
          refine gv_pick [1, 2, 3, 4, 5, 0, 6] rfl ?_
          exact ih42 I34 J2 ((v5_3 + (-1))) v6_3 (by exact gz_m 72 (by omega)) hI34 FI34 FJ2 (by exact gz_m 73 (by omega)) (gr_TQ_mv hI1 (by exact gz_m 74 (by omega)) e0_3 (by exact gz_m 75 (by omega)) (by exact gz_m 76 (by omega)) (by exact gz_m 77 (by omega)) (by exact gz_m 78 (by omega)) (by exact gz_m 79 (by omega)) (by exact gz_m 80 (by omega)) p27 p31 q31 p35 q35) (gr_TS_tr e1_3 (fun x hx => by rw [p35 105 x (fun q => absurd q.1 (by decide)), p31 105 x (fun q => absurd q.1 (by decide)), p27 105 x (fun q => absurd q.1 (by decide))]))
  have f37 := (gr_b_105 hI (Int.toNat a1))
  refine gv_run 4 true hD (pc' := 6) (lv' := [(0, .inr (.inr (some 0))), (1, .inl a1), (2, .inl a2), (3, .inl a3), (4, .inl a4)]) (st' := [.inl (I 105 (Int.toNat a1))]) (h' := gr_h I J) (C := ((((True ∧ True) ∧ True) ∧ True) ∧ (0 ≤ a1 ∧ a1 < ((3000 : Nat) : Int)))) rfl ⟨⟨⟨⟨trivial, trivial⟩, trivial⟩, trivial⟩, ⟨by exact gz_m 81 (by omega), by exact gz_m 82 (by omega)⟩⟩ ?_
  refine gv_run 7 true hD (pc' := 18) (lv' := [(6, .inl (16 * a1)), (5, .inl (I 105 (Int.toNat a1))), (0, .inr (.inr (some 0))), (1, .inl a1), (2, .inl a2), (3, .inl a3), (4, .inl a4)]) (st' := [.inl 16, .inl (I 105 (Int.toNat a1))]) (h' := gr_h I J) (C := (((((((True ∧ True) ∧ True) ∧ True) ∧ True) ∧ True) ∧ True) ∧ True)) rfl ⟨⟨⟨⟨⟨⟨⟨trivial, trivial⟩, trivial⟩, trivial⟩, trivial⟩, trivial⟩, trivial⟩, trivial⟩ ?_
  refine gv_icmp_ne (t := 42) hD rfl rfl ⟨⟨by exact gz_m 83 (by omega), by exact gz_m 84 (by omega)⟩, ⟨by exact gz_m 85 (by omega), by exact gz_m 86 (by omega)⟩⟩ (fun c38 => ?_) (fun c38 => ?_)
  · refine gv_pick [2, 3, 4, 5, 6, 1, 0] rfl ?_
    exact L42 _ I J ((I 105 (Int.toNat a1))) (16 * a1) (Nat.lt_succ_self _) hI FI FJ (by exact gz_m 87 (by omega)) (gr_TQ_in (by exact gz_m 88 (by omega)) x0 (fun r h1 h2 => by exact gz_m 89 (by omega))) (gr_TS_rf _ _)
  · refine gv_run 7 true hD (pc' := 31) (lv' := [(6, .inl (16 * a1)), (5, .inl (I 105 (Int.toNat a1))), (0, .inr (.inr (some 0))), (1, .inl a1), (2, .inl a2), (3, .inl a3), (4, .inl a4)]) (st' := [.inl ((16 * a1) + 15), .inl a4, .inl a3, .inl a2, .inr (.inr (some 0))]) (h' := gr_h I J) (C := (((((((True ∧ True) ∧ True) ∧ True) ∧ True) ∧ True) ∧ True) ∧ True)) rfl ⟨⟨⟨⟨⟨⟨⟨trivial, trivial⟩, trivial⟩, trivial⟩, trivial⟩, trivial⟩, trivial⟩, trivial⟩ ?_
    obtain ⟨r39, h39, E39, P39⟩ := r_ahead (ws0 := ws0) (tb := tb) hws htb ext I J hI a2 a3 a4 (((16 * a1) + 15)) ⟨by exact gz_m 90 (by omega), by exact gz_m 91 (by omega)⟩ ⟨by exact gz_m 92 (by omega), by exact gz_m 93 (by omega)⟩ ⟨by exact gz_m 94 (by omega), by exact gz_m 95 (by omega)⟩ ⟨by exact gz_m 96 (by omega), by exact gz_m 97 (by omega)⟩ 
    obtain ⟨rfl, ⟨z39, rfl, q39⟩⟩ := P39
    refine gv_callV hD rfl (As := [.inl a2, .inl a3, .inl a4, .inl ((16 * a1) + 15)]) (st := []) rfl (by decide) rfl rfl (gr_lV hws rfl) (Nat.le_of_ble_eq_true rfl) (gz_Ev_mono (d := 1) (by decide) E39) ?_
    show gv_X _ _ (34, [(6, .inl (16 * a1)), (5, .inl (I 105 (Int.toNat a1))), (0, .inr (.inr (some 0))), (1, .inl a1), (2, .inl a2), (3, .inl a3), (4, .inl a4)], [.inl z39], gr_sh ++ ext, gr_h I J)
    refine gv_if_ne (t := 38) hD rfl rfl ⟨by exact gz_m 98 (by omega), by exact gz_m 99 (by omega)⟩ (fun c40 => ?_) (fun c40 => ?_)
    · refine gv_run 2 true hD (pc' := 42) (lv' := [(5, .inl 15), (6, .inl (16 * a1)), (0, .inr (.inr (some 0))), (1, .inl a1), (2, .inl a2), (3, .inl a3), (4, .inl a4)]) (st' := []) (h' := gr_h I J) (C := ((True ∧ True) ∧ True)) rfl ⟨⟨trivial, trivial⟩, trivial⟩ ?_
      refine gv_pick [2, 3, 4, 5, 6, 0, 1] rfl ?_
      exact L42 _ I J 15 (16 * a1) (Nat.lt_succ_self _) hI FI FJ (by exact gz_m 100 (by omega)) (gr_TQ_in (by exact gz_m 101 (by omega)) x0 (fun r h1 h2 => by exact gz_m 102 (by omega))) (gr_TS_rf _ _)
    · exact gv_vret hD rfl ⟨I, J, rfl, hI, FI, FJ, ⟨rfl, x0, (gr_TS_rf _ _)⟩⟩
