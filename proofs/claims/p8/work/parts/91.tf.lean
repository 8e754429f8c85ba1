/-! ITEMS ARE PUT. -/
set_option maxHeartbeats 8000000 in
theorem gr_ng_rm {g : Nat → Int} {o K : Nat} (h : g (o + K) < 0) : ∀ n : Nat, (K < n → gr_ng (fun j => if j = o + K then 0 else g j) o n + 1 = gr_ng g o n) ∧ (¬ K < n → gr_ng (fun j => if j = o + K then 0 else g j) o n = gr_ng g o n)
  | 0 => ⟨fun q => by exact gz_m 0 (by omega), fun _ => rfl⟩
  | n + 1 => by
    have ih := gr_ng_rm (g := g) (o := o) (K := K) h n
    have e1 : gr_ng (fun j => if j = o + K then 0 else g j) o (n + 1) = gr_ng (fun j => if j = o + K then 0 else g j) o n + (if (if o + n = o + K then 0 else g (o + n)) < 0 then 1 else 0) := rfl
    have e2 : gr_ng g o (n + 1) = gr_ng g o n + (if g (o + n) < 0 then 1 else 0) := rfl
    rw [e1, e2]
    by_cases c : n = K
    · subst c
      rw [if_pos rfl, if_neg (by exact gz_m 1 (by omega)), if_pos h, ih.2 (by exact gz_m 2 (by omega))]
      exact ⟨fun _ => by exact gz_m 3 (by omega), fun q => by exact gz_m 4 (by omega)⟩
    · rw [show (if o + n = o + K then (0 : Int) else g (o + n)) = g (o + n) from if_neg (by exact gz_m 5 (by omega))]
      refine ⟨fun q => ?_, fun q => ?_⟩
      · have := ih.1 (by exact gz_m 6 (by omega))
        exact gz_m 7 (by omega)
      · rw [ih.2 (by exact gz_m 8 (by omega))]
theorem gr_ng_cov {o n : Nat} : ∀ (M : Nat) (g : Nat → Int), (∀ a : Nat, a < M → ∃ k : Nat, k < n ∧ g (o + k) = -1 - (a : Int)) → (M : Int) ≤ gr_ng g o n
  | 0, g, _ => gr_ng_0 g o n
  | M + 1, g, h => by
    obtain ⟨K, k1, k2⟩ := h M (by exact gz_m 0 (by omega))
    have ih := gr_ng_cov (o := o) (n := n) M (fun j => if j = o + K then 0 else g j) (fun a ha => by
      obtain ⟨k, k3, k4⟩ := h a (by exact gz_m 1 (by omega))
      refine ⟨k, k3, ?_⟩
      show (if o + k = o + K then 0 else g (o + k)) = _
      rw [if_neg (fun q => by
        have e : k = K := by exact gz_m 2 (by omega)
        rw [e, k2] at k4
        exact gz_m 3 (by omega))]
      exact k4)
    have r := (gr_ng_rm (g := g) (o := o) (K := K) (by exact gz_m 4 (by omega)) n).1 k1
    exact gz_m 5 (by omega)
/-- an item's argument is one of the function's -/
theorem gr_LW_ar {x k : Nat} {I : gr_I} (lw : gr_LW x I) (h0 : 0 ≤ I 6 (Int.toNat (I 41 x))) (hk : (k : Int) < I 42 x) (hn : I 43 (6 * x + k) < 0) : -1 - I 43 (6 * x + k) < I 6 (Int.toNat (I 41 x)) := by
  by_cases c : -1 - I 43 (6 * x + k) < I 6 (Int.toNat (I 41 x))
  · exact c
  · exfalso
    have r := (gr_ng_rm (g := I 43) (o := 6 * x) (K := k) hn (Int.toNat (I 42 x))).1 (by exact gz_m 0 (by omega))
    have u := gr_ng_cov (o := 6 * x) (n := Int.toNat (I 42 x)) (Int.toNat (I 6 (Int.toNat (I 41 x)))) (fun j => if j = 6 * x + k then 0 else I 43 j) (fun a ha => by
      obtain ⟨j, j1, j2⟩ := lw.2.1 a (by exact gz_m 1 (by omega))
      refine ⟨j, by exact gz_m 2 (by omega), ?_⟩
      show (if 6 * x + j = 6 * x + k then 0 else I 43 (6 * x + j)) = _
      rw [if_neg (fun q => by
        have e : j = k := by exact gz_m 3 (by omega)
        rw [e] at j2
        exact gz_m 4 (by omega))]
      exact j2)
    rw [lw.2.2.1] at r
    exact gz_m 5 (by omega)
theorem gr_LW_a {x m : Int} {I : gr_I} (lw : gr_LW (Int.toNat x) I) (hI : gr_Inv I) (hx : 0 ≤ x) (h0 : 0 ≤ m) (hm : m < I 42 (Int.toNat x)) (hn : I 43 (Int.toNat (6 * x + m)) < 0) : -1 - I 43 (Int.toNat (6 * x + m)) < I 6 (Int.toNat (I 41 (Int.toNat x))) := by
  have f := (gr_b_6 hI (Int.toNat (I 41 (Int.toNat x))))
  rw [show Int.toNat (6 * x + m) = 6 * Int.toNat x + Int.toNat m from by omega] at hn ⊢
  exact gr_LW_ar lw f.1 (by omega) hn
theorem gr_LW_1 {x : Nat} {I : gr_I} (lw : gr_LW x I) (h : 1 ≤ I 6 (Int.toNat (I 41 x))) : 1 ≤ I 42 x := by
  obtain ⟨k, k1, _⟩ := lw.2.1 0 (by omega)
  omega
theorem gr_LW_F {x : Nat} {I I' : gr_I} {fs as : List Nat} (h : gr_LW x I) (F : gr_fr fs as I I') (hr : (!(as.elem 41) && !(as.elem 42) && !(as.elem 45) && !(as.elem 43) && !(as.elem 46) && !(as.elem 47) && !(as.elem 6) && !(as.elem 7) && !(as.elem 8) && !(fs.elem 3)) = true := by rfl) : gr_LW x I' := by
  simp only [Bool.and_eq_true, Bool.not_eq_true'] at hr
  obtain ⟨⟨⟨⟨⟨⟨⟨⟨⟨a1, a2⟩, a3⟩, a4⟩, a5⟩, a6⟩, a7⟩, a8⟩, a9⟩, a10⟩ := hr
  exact gr_LW_c h (F _ _ a1) (F _ _ a2) (F _ _ a3) (fun _ _ => F _ _ a4) (fun _ _ => F _ _ a5) (fun _ _ => F _ _ a6) (by rw [F 0 _ a10]; exact h.1.1) (F _ _ a7) (fun _ _ => F _ _ a8) (F _ _ a9)
/-- where a node's arguments stand in the tree -/
def gr_AK (k m : Int) (I : gr_I) : Prop := ∀ a : Int, 0 ≤ a → a < m → k < I 122 (Int.toNat (4 * k + a)) ∧ I 122 (Int.toNat (4 * k + a)) ≤ 59
def gr_PSs (a : Int) (I I' : gr_I) : Prop := ∀ j : Nat, (j : Int) < a → I' 123 j = I 123 j
theorem gr_PSs_rf (a : Int) (I : gr_I) : gr_PSs a I I := fun _ _ => rfl
theorem gr_PSs_tr {a b : Int} {I I1 I2 : gr_I} (h : gr_PSs a I I1) (g : gr_PSs b I1 I2) (hb : a ≤ b) : gr_PSs a I I2 := fun j hj => (g j (by omega)).trans (h j hj)
set_option maxHeartbeats 8000000 in
theorem gr_zs_c {I I' : gr_I} {x : Nat} : ∀ m : Nat, (∀ j, j < m → I' 43 (6 * x + j) = I 43 (6 * x + j)) → (∀ j, j < m → I 43 (6 * x + j) < 0 → I' 117 (Int.toNat (I' 123 j)) = I 117 (Int.toNat (I 123 j))) → gr_zs I' x m = gr_zs I x m
  | 0, _, _ => rfl
  | m + 1, h1, h2 => by
    show gr_zs I' x m + 1 + gr_ln I' x m = gr_zs I x m + 1 + gr_ln I x m
    rw [gr_zs_c m (fun j hj => h1 j (by exact gz_m 0 (by omega))) (fun j hj => h2 j (by exact gz_m 1 (by omega)))]
    unfold gr_ln
    rw [h1 m (by exact gz_m 2 (by omega))]
    by_cases c : 0 ≤ I 43 (6 * x + m)
    · rw [if_pos c, if_pos c]
    · rw [if_neg c, if_neg c, h2 m (by exact gz_m 3 (by omega)) (by exact gz_m 4 (by omega))]
theorem gr_zs_ar {k x it z : Int} {I I' : gr_I} (hI : gr_Inv I) (hx : 0 ≤ x) (h0 : 0 ≤ it) (hP : gr_PKo k x it I) (ps : gr_PSs it I I') (ok : gr_OKs k I I') (lt : ∀ j, I' 43 j = I 43 j) (hn : I 43 (Int.toNat (6 * x + it)) < 0) (q : I' 123 (Int.toNat it) = z) : gr_zs I' (Int.toNat x) (Int.toNat (it + 1)) = gr_zs I (Int.toNat x) (Int.toNat it) + 1 + I' 117 (Int.toNat z) := by
  rw [gr_zs_1 h0, gr_ln_a hx h0 (by rw [lt]; exact gz_m 0 (by omega)), q, gr_zs_c (Int.toNat it) (fun j _ => lt _) (fun j hj hl => by
    rw [ps j (by exact gz_m 1 (by omega))]
    have z9 := (gr_b_123 hI j)
    have p9 := hP j (by exact gz_m 2 (by omega)) hl
    exact ok _ (by exact gz_m 3 (by omega)))]
theorem gr_PKo_nx {k x it z : Int} {I I' : gr_I} (h0 : 0 ≤ it) (hP : gr_PKo k x it I) (ps : gr_PSs it I I') (lt : ∀ j, I' 43 j = I 43 j) (q : I' 123 (Int.toNat it) = z) (hz : z < 24 * k ∨ 24 * k + 24 ≤ z) : gr_PKo k x (it + 1) I' := fun j hj hl => by
  rw [lt] at hl
  by_cases c : (j : Int) < it
  · rw [ps j c]
    exact hP j c hl
  · rw [show j = Int.toNat it from by omega, q]
    exact hz
theorem gr_PKo_t {k x it : Int} {I : gr_I} (hx : 0 ≤ x) (h0 : 0 ≤ it) (hP : gr_PKo k x it I) (hn : 0 ≤ I 43 (Int.toNat (6 * x + it))) : gr_PKo k x (it + 1) I := fun j hj hl => by
  by_cases c : (j : Int) < it
  · exact hP j c hl
  · rw [show 6 * Int.toNat x + j = Int.toNat (6 * x + it) from by omega] at hl
    omega
set_option maxHeartbeats 8000000 in
set_option maxRecDepth 100000 in
theorem r_puts {ws0 : List Cond} {tb : String → gz_T} (hws : ∀ w ∈ gr_ws, w ∈ ws0) (htb : tb RX13 = gr_T) (ext : gz_Sh) : ∀ (nr : Nat) (I : gr_I) (J : gr_J) (hI : gr_Inv I) (a1 : Int) (a2 : Int) (a3 : Int) (a4 : Int) (a5 : Int) (ha1 : 0 ≤ a1 ∧ a1 ≤ 59) (ha2 : 0 ≤ a2 ∧ a2 ≤ 3071) (ha3 : 0 ≤ a3 ∧ a3 ≤ 6) (ha4 : (-2147483648) ≤ a4 ∧ a4 ≤ 2147483647) (ha5 : (-1) ≤ a5 ∧ a5 ≤ 401) (x0 : gr_LW (Int.toNat a2) I) (x1 : gr_OX I) (x2 : a5 = gr_zs I (Int.toNat a2) (Int.toNat a3)) (x3 : gr_PKo a1 a2 a3 I) (x4 : a3 ≤ I 42 (Int.toNat a2)) (x5 : gr_AK a1 (I 6 (Int.toNat (I 41 (Int.toNat a2)))) I) (x6 : 1 ≤ I 6 (Int.toNat (I 41 (Int.toNat a2)))) (_ : (6 - a3).toNat < nr), ∃ r h', gz_Ev ws0 tb (2 + nr) (yX13_puts, cX13_puts, 12, none) [.inr (.inr (some 0)), .inl a1, .inl a2, .inl a3, .inl a4, .inl a5] (gr_sh ++ ext) (gr_h I J) r (gr_sh ++ ext) h' 0 0 ∧ (∃ (I' : gr_I) (J' : gr_J), h' = gr_h I' J' ∧ gr_Inv I' ∧ gr_fr [] [100, 101, 116, 117, 118, 119, 120, 121, 123] I I' ∧ gr_fj [] [100, 101, 116, 117, 118, 119, 120, 121, 123] J J' ∧ r = none ∧ (gr_OX I') ∧ (gr_OKs a1 I I') ∧ (gr_PSs a3 I I')) := by
  intro nr
  induction nr with
  | zero => intro I J hI a1 a2 a3 a4 a5 ha1 ha2 ha3 ha4 ha5 x0 x1 x2 x3 x4 x5 x6 hnr; exact gz_m 0 (by omega)
  | succ nr ihR =>
  intro I J hI a1 a2 a3 a4 a5 ha1 ha2 ha3 ha4 ha5 x0 x1 x2 x3 x4 x5 x6 hnr
  have FI : gr_fr [] [100, 101, 116, 117, 118, 119, 120, 121, 123] I I := fun _ _ _ => rfl
  have FJ : gr_fj [] [100, 101, 116, 117, 118, 119, 120, 121, 123] J J := fun _ _ _ => rfl
  have hD : gv_D (gr_E ws0 tb (2 + nr) (yX13_puts, cX13_puts, 12, none) kX13_puts) := gq_of oX13_puts
  refine gr_ev (d := (2 + nr)) (l := kX13_puts) (Po := fun r h' => (∃ (I' : gr_I) (J' : gr_J), h' = gr_h I' J' ∧ gr_Inv I' ∧ gr_fr [] [100, 101, 116, 117, 118, 119, 120, 121, 123] I I' ∧ gr_fj [] [100, 101, 116, 117, 118, 119, 120, 121, 123] J J' ∧ r = none ∧ (gr_OX I') ∧ (gr_OKs a1 I I') ∧ (gr_PSs a3 I I'))) htb rfl (Nat.le_of_ble_eq_true rfl) ?_
  have L92 : ∀ (n : Nat) (I1 : gr_I) (J2 : gr_J) (v7_3 : Int) (v8_3 : Int) (v9_3 : Int), (25 - v9_3).toNat < n → gr_Inv I1 → gr_fr [] [100, 101, 116, 117, 118, 119, 120, 121, 123] I I1 → gr_fj [] [100, 101, 116, 117, 118, 119, 120, 121, 123] J J2 → ((0 ≤ a1 ∧ a1 ≤ 59) ∧ (0 ≤ a2 ∧ a2 ≤ 3071) ∧ (0 ≤ a3 ∧ a3 ≤ 6) ∧ ((-2147483648) ≤ a4 ∧ a4 ≤ 2147483647) ∧ ((-1) ≤ a5 ∧ a5 ≤ 200) ∧ (0 ≤ v7_3 ∧ v7_3 ≤ 3) ∧ (0 ≤ v8_3 ∧ v8_3 ≤ 59) ∧ (0 ≤ v9_3 ∧ v9_3 ≤ 24) ∧ (I 43 (Int.toNat (6 * a2 + a3)) < 0) ∧ (v7_3 = -1 - I 43 (Int.toNat (6 * a2 + a3))) ∧ (a1 < v8_3 ∧ v8_3 ≤ 59) ∧ (a3 < I 42 (Int.toNat a2)) ∧ (a5 ≤ 200) ∧ (I 42 (Int.toNat a2) ≤ 6)) → (gr_OX I1) → (gr_OKs a1 I I1) → (gr_PSs a3 I I1) → gv_X (gr_E ws0 tb (2 + nr) (yX13_puts, cX13_puts, 12, none) kX13_puts) (gv_Q cX13_puts none (gr_sh ++ ext) (fun r h' => (∃ (I' : gr_I) (J' : gr_J), h' = gr_h I' J' ∧ gr_Inv I' ∧ gr_fr [] [100, 101, 116, 117, 118, 119, 120, 121, 123] I I' ∧ gr_fj [] [100, 101, 116, 117, 118, 119, 120, 121, 123] J J' ∧ r = none ∧ (gr_OX I') ∧ (gr_OKs a1 I I') ∧ (gr_PSs a3 I I')))) (92, [(0, .inr (.inr (some 0))), (1, .inl a1), (2, .inl a2), (3, .inl a3), (4, .inl a4), (5, .inl a5), (7, .inl v7_3), (8, .inl v8_3), (9, .inl v9_3)], [], gr_sh ++ ext, gr_h I1 J2) := by
    intro n
    induction n with
    | zero => intro I1 J2 v7_3 v8_3 v9_3 hn; exact gz_m 1 (by omega)
    | succ n ih92 =>
      intro I1 J2 v7_3 v8_3 v9_3 hn hI1 FI1 FJ2 m_3 e0_3 e1_3 e2_3
      obtain ⟨ha1_3, ha2_3, ha3_3, ha4_3, ha5_3, hv7_3, hv8_3, hv9_3, e3_3, e4_3, e5_3, e6_3, e7_3, e8_3⟩ := m_3
      have L198 : ∀ (I4 : gr_I) (J5 : gr_J) , gr_Inv I4 → gr_fr [] [100, 101, 116, 117, 118, 119, 120, 121, 123] I I4 → gr_fj [] [100, 101, 116, 117, 118, 119, 120, 121, 123] J J5 → ((0 ≤ a1 ∧ a1 ≤ 59) ∧ (0 ≤ a2 ∧ a2 ≤ 3071) ∧ (0 ≤ a3 ∧ a3 ≤ 6) ∧ ((-2147483648) ≤ a4 ∧ a4 ≤ 2147483647) ∧ ((-1) ≤ a5 ∧ a5 ≤ 200) ∧ (0 ≤ v7_3 ∧ v7_3 ≤ 3) ∧ (0 ≤ v8_3 ∧ v8_3 ≤ 59) ∧ (0 ≤ v9_3 ∧ v9_3 ≤ 23) ∧ (I 43 (Int.toNat (6 * a2 + a3)) < 0) ∧ (v7_3 = -1 - I 43 (Int.toNat (6 * a2 + a3))) ∧ (a1 < v8_3 ∧ v8_3 ≤ 59) ∧ (a3 < I 42 (Int.toNat a2)) ∧ (a5 ≤ 200) ∧ (I 42 (Int.toNat a2) ≤ 6)) → (gr_OX I4) → (gr_OKs a1 I I4) → (gr_PSs a3 I I4) → gv_X (gr_E ws0 tb (2 + nr) (yX13_puts, cX13_puts, 12, none) kX13_puts) (gv_Q cX13_puts none (gr_sh ++ ext) (fun r h' => (∃ (I' : gr_I) (J' : gr_J), h' = gr_h I' J' ∧ gr_Inv I' ∧ gr_fr [] [100, 101, 116, 117, 118, 119, 120, 121, 123] I I' ∧ gr_fj [] [100, 101, 116, 117, 118, 119, 120, 121, 123] J J' ∧ r = none ∧ (gr_OX I') ∧ (gr_OKs a1 I I') ∧ (gr_PSs a3 I I')))) (198, [(0, .inr (.inr (some 0))), (1, .inl a1), (2, .inl a2), (3, .inl a3), (4, .inl a4), (5, .inl a5), (7, .inl v7_3), (8, .inl v8_3), (9, .inl v9_3)], [], gr_sh ++ ext, gr_h I4 J5) := by
        intro I4 J5 hI4 FI4 FJ5 m_6 e0_6 e1_6 e2_6
        clear ha1_3 ha2_3 ha3_3 ha4_3 ha5_3 hv7_3 hv8_3 hv9_3 e3_3 e4_3 e5_3 e6_3 e7_3 e8_3
        obtain ⟨ha1_6, ha2_6, ha3_6, ha4_6, ha5_6, hv7_3_6, hv8_3_6, hv9_3_6, e3_6, e4_6, e5_6, e6_6, e7_6, e8_6⟩ := m_6
        refine gv_run 2 true hD (pc' := 92) (lv' := [(9, .inl (v9_3 + 1)), (0, .inr (.inr (some 0))), (1, .inl a1), (2, .inl a2), (3, .inl a3), (4, .inl a4), (5, .inl a5), (7, .inl v7_3), (8, .inl v8_3)]) (st' := []) (h' := gr_h I4 J5) (C := ((True ∧ True) ∧ True)) rfl ⟨⟨trivial, trivial⟩, trivial⟩ ?_
        refine gv_pick [1, 2, 3, 4, 5, 6, 7, 8, 0] rfl ?_
        exact ih92 I4 J5 v7_3 v8_3 (v9_3 + 1) (by exact gz_m 2 (by omega)) hI4 FI4 FJ5 (by exact gz_m 3 (by omega)) e0_6 e1_6 e2_6
      have f7 := (gr_b_121 hI1 (Int.toNat v8_3))
      refine gv_run 5 true hD (pc' := 101) (lv' := [(0, .inr (.inr (some 0))), (1, .inl a1), (2, .inl a2), (3, .inl a3), (4, .inl a4), (5, .inl a5), (7, .inl v7_3), (8, .inl v8_3), (9, .inl v9_3)]) (st' := [.inl (I1 121 (Int.toNat v8_3)), .inl v9_3]) (h' := gr_h I1 J2) (C := (((((True ∧ True) ∧ True) ∧ True) ∧ True) ∧ (0 ≤ v8_3 ∧ v8_3 < ((60 : Nat) : Int)))) rfl ⟨⟨⟨⟨⟨trivial, trivial⟩, trivial⟩, trivial⟩, trivial⟩, ⟨by exact gz_m 4 (by omega), by exact gz_m 5 (by omega)⟩⟩ ?_
      refine gv_icmp_ge (t := 204) hD rfl rfl ⟨⟨by exact gz_m 6 (by omega), by exact gz_m 7 (by omega)⟩, ⟨by exact gz_m 8 (by omega), by exact gz_m 9 (by omega)⟩⟩ (fun c8 => ?_) (fun c8 => ?_)
      · exact gv_vret hD rfl ⟨I1, J2, rfl, hI1, FI1, FJ2, ⟨rfl, e0_3, e1_3, e2_3⟩⟩
      · refine gv_run 7 true hD (pc' := 116) (lv' := [(0, .inr (.inr (some 0))), (1, .inl a1), (2, .inl a2), (3, .inl a3), (4, .inl a4), (5, .inl a5), (7, .inl v7_3), (8, .inl v8_3), (9, .inl v9_3)]) (st' := [.inl ((24 * v8_3) + v9_3), .inr (.inr (some 120))]) (h' := gr_h I1 J2) (C := (((((((True ∧ True) ∧ True) ∧ True) ∧ True) ∧ True) ∧ True) ∧ True)) rfl ⟨⟨⟨⟨⟨⟨⟨trivial, trivial⟩, trivial⟩, trivial⟩, trivial⟩, trivial⟩, trivial⟩, trivial⟩ ?_
        have f9 := (gr_b_120 hI1 (Int.toNat (((24 * v8_3) + v9_3))))
        refine gv_run 1 true hD (pc' := 117) (lv' := [(0, .inr (.inr (some 0))), (1, .inl a1), (2, .inl a2), (3, .inl a3), (4, .inl a4), (5, .inl a5), (7, .inl v7_3), (8, .inl v8_3), (9, .inl v9_3)]) (st' := [.inl (I1 120 (Int.toNat (((24 * v8_3) + v9_3))))]) (h' := gr_h I1 J2) (C := (True ∧ (0 ≤ (((24 * v8_3) + v9_3)) ∧ (((24 * v8_3) + v9_3)) < ((1440 : Nat) : Int)))) rfl ⟨trivial, ⟨by exact gz_m 10 (by omega), by exact gz_m 11 (by omega)⟩⟩ ?_
        have t10 := gr_OX_at e0_3 (k := v8_3) (i := v9_3) ⟨by exact gz_m 12 (by omega), by exact gz_m 13 (by omega)⟩ (by exact gz_m 14 (by omega)) (by exact gz_m 15 (by omega))
        have t11 := (show (I1 120 (Int.toNat (((24 * v8_3) + v9_3)))) = I1 120 (Int.toNat (24 * v8_3 + v9_3)) from rfl)
        have f12 := (gr_b_118 hI1 (Int.toNat ((I1 120 (Int.toNat (((24 * v8_3) + v9_3)))))))
        refine gv_run 5 true hD (pc' := 126) (lv' := [(10, .inl (I1 120 (Int.toNat (((24 * v8_3) + v9_3))))), (0, .inr (.inr (some 0))), (1, .inl a1), (2, .inl a2), (3, .inl a3), (4, .inl a4), (5, .inl a5), (7, .inl v7_3), (8, .inl v8_3), (9, .inl v9_3)]) (st' := [.inl (I1 118 (Int.toNat ((I1 120 (Int.toNat (((24 * v8_3) + v9_3)))))))]) (h' := gr_h I1 J2) (C := (((((True ∧ True) ∧ True) ∧ True) ∧ True) ∧ (0 ≤ ((I1 120 (Int.toNat (((24 * v8_3) + v9_3))))) ∧ ((I1 120 (Int.toNat (((24 * v8_3) + v9_3))))) < ((1440 : Nat) : Int)))) rfl ⟨⟨⟨⟨⟨trivial, trivial⟩, trivial⟩, trivial⟩, trivial⟩, ⟨by exact gz_m 16 (by omega), by exact gz_m 17 (by omega)⟩⟩ ?_
        refine gv_run 7 true hD (pc' := 136) (lv' := [(10, .inl (I1 120 (Int.toNat (((24 * v8_3) + v9_3))))), (0, .inr (.inr (some 0))), (1, .inl a1), (2, .inl a2), (3, .inl a3), (4, .inl a4), (5, .inl a5), (7, .inl v7_3), (8, .inl v8_3), (9, .inl v9_3)]) (st' := [.inl ((6 * a2) + a3), .inr (.inr (some 44)), .inl (I1 118 (Int.toNat ((I1 120 (Int.toNat (((24 * v8_3) + v9_3)))))))]) (h' := gr_h I1 J2) (C := (((((((True ∧ True) ∧ True) ∧ True) ∧ True) ∧ True) ∧ True) ∧ True)) rfl ⟨⟨⟨⟨⟨⟨⟨trivial, trivial⟩, trivial⟩, trivial⟩, trivial⟩, trivial⟩, trivial⟩, trivial⟩ ?_
        have f13 := (gr_b_44 hI1 (Int.toNat (((6 * a2) + a3))))
        refine gv_run 1 true hD (pc' := 137) (lv' := [(10, .inl (I1 120 (Int.toNat (((24 * v8_3) + v9_3))))), (0, .inr (.inr (some 0))), (1, .inl a1), (2, .inl a2), (3, .inl a3), (4, .inl a4), (5, .inl a5), (7, .inl v7_3), (8, .inl v8_3), (9, .inl v9_3)]) (st' := [.inl (I1 44 (Int.toNat (((6 * a2) + a3)))), .inl (I1 118 (Int.toNat ((I1 120 (Int.toNat (((24 * v8_3) + v9_3)))))))]) (h' := gr_h I1 J2) (C := (True ∧ (0 ≤ (((6 * a2) + a3)) ∧ (((6 * a2) + a3)) < ((18432 : Nat) : Int)))) rfl ⟨trivial, ⟨by exact gz_m 18 (by omega), by exact gz_m 19 (by omega)⟩⟩ ?_
        rw [FI1 44 (Int.toNat (((6 * a2) + a3))) rfl]
        have f14 := (gr_b_44 hI (Int.toNat (((6 * a2) + a3))))
        obtain ⟨r15, h15, E15, P15⟩ := r_fitted (ws0 := ws0) (tb := tb) hws htb ext I1 J2 hI1 ((I1 118 (Int.toNat ((I1 120 (Int.toNat (((24 * v8_3) + v9_3)))))))) ((I 44 (Int.toNat (((6 * a2) + a3))))) ⟨by exact gz_m 20 (by omega), by exact gz_m 21 (by omega)⟩ ⟨by exact gz_m 22 (by omega), by exact gz_m 23 (by omega)⟩ 
        obtain ⟨rfl, ⟨z15, rfl, q15⟩⟩ := P15
        refine gv_callS hD rfl (As := [.inl (I1 118 (Int.toNat ((I1 120 (Int.toNat (((24 * v8_3) + v9_3))))))), .inl (I 44 (Int.toNat (((6 * a2) + a3))))]) (st := []) rfl (gr_lS hws rfl) (Nat.le_of_ble_eq_true rfl) (gz_Ev_mono (d := 1) (by exact gz_m 24 (by omega)) E15) ?_
        show gv_X _ _ (140, [(10, .inl (I1 120 (Int.toNat (((24 * v8_3) + v9_3))))), (0, .inr (.inr (some 0))), (1, .inl a1), (2, .inl a2), (3, .inl a3), (4, .inl a4), (5, .inl a5), (7, .inl v7_3), (8, .inl v8_3), (9, .inl v9_3)], [.inl z15], gr_sh ++ ext, gr_h I1 J2)
        refine gv_run 2 true hD (pc' := 144) (lv' := [(11, .inl z15), (10, .inl (I1 120 (Int.toNat (((24 * v8_3) + v9_3))))), (0, .inr (.inr (some 0))), (1, .inl a1), (2, .inl a2), (3, .inl a3), (4, .inl a4), (5, .inl a5), (7, .inl v7_3), (8, .inl v8_3), (9, .inl v9_3)]) (st' := [.inl z15]) (h' := gr_h I1 J2) (C := ((True ∧ True) ∧ True)) rfl ⟨⟨trivial, trivial⟩, trivial⟩ ?_
        refine gv_if_ge (t := 150) hD rfl rfl ⟨by exact gz_m 25 (by omega), by exact gz_m 26 (by omega)⟩ (fun c16 => ?_) (fun c16 => ?_)
        · refine gv_run 4 true hD (pc' := 158) (lv' := [(11, .inl z15), (10, .inl (I1 120 (Int.toNat (((24 * v8_3) + v9_3))))), (0, .inr (.inr (some 0))), (1, .inl a1), (2, .inl a2), (3, .inl a3), (4, .inl a4), (5, .inl a5), (7, .inl v7_3), (8, .inl v8_3), (9, .inl v9_3)]) (st' := [.inl z15, .inl v7_3, .inr (.inr (some 100))]) (h' := gr_h I1 J2) (C := ((((True ∧ True) ∧ True) ∧ True) ∧ True)) rfl ⟨⟨⟨⟨trivial, trivial⟩, trivial⟩, trivial⟩, trivial⟩ ?_
          refine gv_run 1 true hD (pc' := 159) (lv' := [(11, .inl z15), (10, .inl (I1 120 (Int.toNat (((24 * v8_3) + v9_3))))), (0, .inr (.inr (some 0))), (1, .inl a1), (2, .inl a2), (3, .inl a3), (4, .inl a4), (5, .inl a5), (7, .inl v7_3), (8, .inl v8_3), (9, .inl v9_3)]) (st' := []) (h' := gz_up (gr_h I1 J2) 100 (Int.toNat v7_3) (.inl z15)) (C := (True ∧ (0 ≤ v7_3 ∧ v7_3 < ((4 : Nat) : Int)))) rfl ⟨trivial, ⟨by exact gz_m 27 (by omega), by exact gz_m 28 (by omega)⟩⟩ ?_
          refine gr_st hI1 FI1 rfl rfl ⟨⟨by show 0 ≤ _; exact gz_m 29 (by omega), by show _ ≤ 16777215; exact gz_m 30 (by omega)⟩, trivial⟩ (fun I17 hI17 FI17 q18 p18 => ?_)
          refine gv_run 4 true hD (pc' := 166) (lv' := [(11, .inl z15), (10, .inl (I1 120 (Int.toNat (((24 * v8_3) + v9_3))))), (0, .inr (.inr (some 0))), (1, .inl a1), (2, .inl a2), (3, .inl a3), (4, .inl a4), (5, .inl a5), (7, .inl v7_3), (8, .inl v8_3), (9, .inl v9_3)]) (st' := [.inl (I1 120 (Int.toNat (((24 * v8_3) + v9_3)))), .inl a3, .inr (.inr (some 123))]) (h' := gr_h I17 J2) (C := ((((True ∧ True) ∧ True) ∧ True) ∧ True)) rfl ⟨⟨⟨⟨trivial, trivial⟩, trivial⟩, trivial⟩, trivial⟩ ?_
          refine gv_run 1 true hD (pc' := 167) (lv' := [(11, .inl z15), (10, .inl (I1 120 (Int.toNat (((24 * v8_3) + v9_3))))), (0, .inr (.inr (some 0))), (1, .inl a1), (2, .inl a2), (3, .inl a3), (4, .inl a4), (5, .inl a5), (7, .inl v7_3), (8, .inl v8_3), (9, .inl v9_3)]) (st' := []) (h' := gz_up (gr_h I17 J2) 123 (Int.toNat a3) (.inl ((I1 120 (Int.toNat (((24 * v8_3) + v9_3))))))) (C := (True ∧ (0 ≤ a3 ∧ a3 < ((6 : Nat) : Int)))) rfl ⟨trivial, ⟨by exact gz_m 31 (by omega), by exact gz_m 32 (by omega)⟩⟩ ?_
          refine gr_st hI17 FI17 rfl rfl ⟨⟨by show 0 ≤ _; exact gz_m 33 (by omega), by show _ ≤ 1439; exact gz_m 34 (by omega)⟩, trivial⟩ (fun I19 hI19 FI19 q20 p20 => ?_)
          refine gv_run 7 true hD (pc' := 175) (lv' := [(11, .inl z15), (10, .inl (I1 120 (Int.toNat (((24 * v8_3) + v9_3))))), (0, .inr (.inr (some 0))), (1, .inl a1), (2, .inl a2), (3, .inl a3), (4, .inl a4), (5, .inl a5), (7, .inl v7_3), (8, .inl v8_3), (9, .inl v9_3)]) (st' := [.inl a4, .inl (a3 + 1), .inl a2, .inl a1, .inr (.inr (some 0))]) (h' := gr_h I19 J2) (C := (((((((True ∧ True) ∧ True) ∧ True) ∧ True) ∧ True) ∧ True) ∧ True)) rfl ⟨⟨⟨⟨⟨⟨⟨trivial, trivial⟩, trivial⟩, trivial⟩, trivial⟩, trivial⟩, trivial⟩, trivial⟩ ?_
          have f21 := (gr_b_119 hI19 (Int.toNat ((I1 120 (Int.toNat (((24 * v8_3) + v9_3)))))))
          refine gv_run 4 true hD (pc' := 182) (lv' := [(11, .inl z15), (10, .inl (I1 120 (Int.toNat (((24 * v8_3) + v9_3))))), (0, .inr (.inr (some 0))), (1, .inl a1), (2, .inl a2), (3, .inl a3), (4, .inl a4), (5, .inl a5), (7, .inl v7_3), (8, .inl v8_3), (9, .inl v9_3)]) (st' := [.inl (I19 119 (Int.toNat ((I1 120 (Int.toNat (((24 * v8_3) + v9_3))))))), .inl a4, .inl (a3 + 1), .inl a2, .inl a1, .inr (.inr (some 0))]) (h' := gr_h I19 J2) (C := ((((True ∧ True) ∧ True) ∧ True) ∧ (0 ≤ ((I1 120 (Int.toNat (((24 * v8_3) + v9_3))))) ∧ ((I1 120 (Int.toNat (((24 * v8_3) + v9_3))))) < ((1440 : Nat) : Int)))) rfl ⟨⟨⟨⟨trivial, trivial⟩, trivial⟩, trivial⟩, ⟨by exact gz_m 35 (by omega), by exact gz_m 36 (by omega)⟩⟩ ?_
          refine gv_run 1 true hD (pc' := 183) (lv' := [(11, .inl z15), (10, .inl (I1 120 (Int.toNat (((24 * v8_3) + v9_3))))), (0, .inr (.inr (some 0))), (1, .inl a1), (2, .inl a2), (3, .inl a3), (4, .inl a4), (5, .inl a5), (7, .inl v7_3), (8, .inl v8_3), (9, .inl v9_3)]) (st' := [.inl (a4 + ((I19 119 (Int.toNat ((I1 120 (Int.toNat (((24 * v8_3) + v9_3))))))))), .inl (a3 + 1), .inl a2, .inl a1, .inr (.inr (some 0))]) (h' := gr_h I19 J2) (C := (True ∧ True)) rfl ⟨trivial, trivial⟩ ?_
          refine gv_wr ?_
          have f22 := gw_any (Int32.ofInt (a4 + ((I19 119 (Int.toNat ((I1 120 (Int.toNat (((24 * v8_3) + v9_3))))))))))
          have f23 := (gr_b_117 hI19 (Int.toNat ((I1 120 (Int.toNat (((24 * v8_3) + v9_3)))))))
          refine gv_run 7 true hD (pc' := 194) (lv' := [(11, .inl z15), (10, .inl (I1 120 (Int.toNat (((24 * v8_3) + v9_3))))), (0, .inr (.inr (some 0))), (1, .inl a1), (2, .inl a2), (3, .inl a3), (4, .inl a4), (5, .inl a5), (7, .inl v7_3), (8, .inl v8_3), (9, .inl v9_3)]) (st' := [.inl (I19 117 (Int.toNat ((I1 120 (Int.toNat (((24 * v8_3) + v9_3))))))), .inl (a5 + 1), .inl ((Int32.ofInt (a4 + ((I19 119 (Int.toNat ((I1 120 (Int.toNat (((24 * v8_3) + v9_3)))))))))).toInt), .inl (a3 + 1), .inl a2, .inl a1, .inr (.inr (some 0))]) (h' := gr_h I19 J2) (C := (((((((True ∧ True) ∧ True) ∧ True) ∧ True) ∧ True) ∧ True) ∧ (0 ≤ ((I1 120 (Int.toNat (((24 * v8_3) + v9_3))))) ∧ ((I1 120 (Int.toNat (((24 * v8_3) + v9_3))))) < ((1440 : Nat) : Int)))) rfl ⟨⟨⟨⟨⟨⟨⟨trivial, trivial⟩, trivial⟩, trivial⟩, trivial⟩, trivial⟩, trivial⟩, ⟨by exact gz_m 37 (by omega), by exact gz_m 38 (by omega)⟩⟩ ?_
          refine gv_run 1 true hD (pc' := 195) (lv' := [(11, .inl z15), (10, .inl (I1 120 (Int.toNat (((24 * v8_3) + v9_3))))), (0, .inr (.inr (some 0))), (1, .inl a1), (2, .inl a2), (3, .inl a3), (4, .inl a4), (5, .inl a5), (7, .inl v7_3), (8, .inl v8_3), (9, .inl v9_3)]) (st' := [.inl ((a5 + 1) + (I19 117 (Int.toNat ((I1 120 (Int.toNat (((24 * v8_3) + v9_3)))))))), .inl ((Int32.ofInt (a4 + ((I19 119 (Int.toNat ((I1 120 (Int.toNat (((24 * v8_3) + v9_3)))))))))).toInt), .inl (a3 + 1), .inl a2, .inl a1, .inr (.inr (some 0))]) (h' := gr_h I19 J2) (C := (True ∧ True)) rfl ⟨trivial, trivial⟩ ?_
          have t24 := gr_zs_ar hI (k := a1) (by exact gz_m 39 (by omega)) (by exact gz_m 40 (by omega)) x3 (gr_PSs_tr (b := a3) (gr_PSs_tr (b := a3) e2_3 (fun j _ => p18 123 j (fun q => absurd q.1 (by decide))) (by exact gz_m 41 (by omega))) (fun j hj => p20 123 j (fun q => by have h8 := q.2; exact gz_m 42 (by omega))) (by exact gz_m 43 (by omega))) (gr_OKs_tr (gr_OKs_tr e1_3 (fun s _ => p18 117 s (fun q => absurd q.1 (by decide)))) (fun s _ => p20 117 s (fun q => absurd q.1 (by decide)))) (fun j => FI19 43 j rfl) (by exact gz_m 44 (by omega)) q20
          have t25 := gr_zs_m hI (x := (Int.toNat a2)) (k := 0) (Int.toNat a3) (by exact gz_m 45 (by omega))
          have t26 := (show gr_zs I (Int.toNat a2) 0 = -1 from rfl)
          obtain ⟨r27, h27, E27, P27⟩ := ihR I19 J2 hI19 a1 a2 (a3 + 1) (((Int32.ofInt (a4 + ((I19 119 (Int.toNat ((I1 120 (Int.toNat (((24 * v8_3) + v9_3)))))))))).toInt)) (((a5 + 1) + (I19 117 (Int.toNat ((I1 120 (Int.toNat (((24 * v8_3) + v9_3))))))))) ⟨by exact gz_m 46 (by omega), by exact gz_m 47 (by omega)⟩ ⟨by exact gz_m 48 (by omega), by exact gz_m 49 (by omega)⟩ ⟨by exact gz_m 50 (by omega), by exact gz_m 51 (by omega)⟩ ⟨by exact gz_m 52 (by omega), by exact gz_m 53 (by omega)⟩ ⟨by exact gz_m 54 (by omega), by exact gz_m 55 (by omega)⟩ (gr_LW_F x0 FI19) (gr_OX_fr (gr_OX_fr e0_3 (fun j => p18 121 j (fun q => absurd q.1 (by decide))) (fun j => p18 120 j (fun q => absurd q.1 (by decide)))) (fun j => p20 121 j (fun q => absurd q.1 (by decide))) (fun j => p20 120 j (fun q => absurd q.1 (by decide)))) (by exact gz_m 56 (by omega)) (gr_PKo_nx (by exact gz_m 57 (by omega)) x3 (gr_PSs_tr (b := a3) (gr_PSs_tr (b := a3) e2_3 (fun j _ => p18 123 j (fun q => absurd q.1 (by decide))) (by exact gz_m 58 (by omega))) (fun j hj => p20 123 j (fun q => by have h8 := q.2; exact gz_m 59 (by omega))) (by exact gz_m 60 (by omega))) (fun j => FI19 43 j rfl) q20 (by exact gz_m 61 (by omega))) (by rw [FI19 42 _ rfl]; exact gz_m 62 (by omega)) (by rw [FI19 41 _ rfl, FI19 6 _ rfl]; exact fun a h1 h2 => by rw [FI19 122 _ rfl]; exact x5 a h1 h2) (by rw [FI19 41 _ rfl, FI19 6 _ rfl]; exact x6) (by exact gz_m 63 (by omega))
          obtain ⟨I28, J29, rfl, hI28, g27, k27, ⟨rfl, q27⟩⟩ := P27
          have FI28 := gr_frt FI19 g27 rfl rfl
          have FJ29 := gr_fjt FJ2 k27 rfl rfl
          refine gv_callV hD rfl (As := [.inl a1, .inl a2, .inl (a3 + 1), .inl ((Int32.ofInt (a4 + ((I19 119 (Int.toNat ((I1 120 (Int.toNat (((24 * v8_3) + v9_3)))))))))).toInt), .inl ((a5 + 1) + (I19 117 (Int.toNat ((I1 120 (Int.toNat (((24 * v8_3) + v9_3))))))))]) (st := []) rfl (by decide) rfl rfl (gr_lV hws rfl) (Nat.le_of_ble_eq_true rfl) (gz_Ev_mono (d := (2 + nr)) (Nat.le_refl _) E27) ?_
          show gv_X _ _ (198, [(11, .inl z15), (10, .inl (I1 120 (Int.toNat (((24 * v8_3) + v9_3))))), (0, .inr (.inr (some 0))), (1, .inl a1), (2, .inl a2), (3, .inl a3), (4, .inl a4), (5, .inl a5), (7, .inl v7_3), (8, .inl v8_3), (9, .inl v9_3)], [], gr_sh ++ ext, gr_h I28 J29)
          refine gv_pick [2, 3, 4, 5, 6, 7, 8, 9, 10] rfl ?_
          exact L198 I28 J29 hI28 FI28 FJ29 (by exact gz_m 64 (by omega)) q27.1 (gr_OKs_tr (gr_OKs_tr (gr_OKs_tr e1_3 (fun s _ => p18 117 s (fun q => absurd q.1 (by decide)))) (fun s _ => p20 117 s (fun q => absurd q.1 (by decide)))) q27.2.1) (gr_PSs_tr (b := (a3 + 1)) (gr_PSs_tr (b := a3) (gr_PSs_tr (b := a3) e2_3 (fun j _ => p18 123 j (fun q => absurd q.1 (by decide))) (by exact gz_m 65 (by omega))) (fun j hj => p20 123 j (fun q => by have h8 := q.2; exact gz_m 66 (by omega))) (by exact gz_m 67 (by omega))) q27.2.2 (by exact gz_m 68 (by omega)))
        · refine gv_run 1 true hD (pc' := 198) (lv' := [(11, .inl z15), (10, .inl (I1 120 (Int.toNat (((24 * v8_3) + v9_3))))), (0, .inr (.inr (some 0))), (1, .inl a1), (2, .inl a2), (3, .inl a3), (4, .inl a4), (5, .inl a5), (7, .inl v7_3), (8, .inl v8_3), (9, .inl v9_3)]) (st' := []) (h' := gr_h I1 J2) (C := (True ∧ True)) rfl ⟨trivial, trivial⟩ ?_
          refine gv_pick [2, 3, 4, 5, 6, 7, 8, 9, 10] rfl ?_
          exact L198 I1 J2 hI1 FI1 FJ2 (by exact gz_m 69 (by omega)) e0_3 e1_3 e2_3
  have t30 := x0.1
  refine gv_run 2 true hD (pc' := 5) (lv' := [(0, .inr (.inr (some 0))), (1, .inl a1), (2, .inl a2), (3, .inl a3), (4, .inl a4), (5, .inl a5)]) (st' := [.inl 200, .inl a5]) (h' := gr_h I J) (C := ((True ∧ True) ∧ True)) rfl ⟨⟨trivial, trivial⟩, trivial⟩ ?_
  refine gv_icmp_le (t := 9) hD rfl rfl ⟨⟨by exact gz_m 70 (by omega), by exact gz_m 71 (by omega)⟩, ⟨by exact gz_m 72 (by omega), by exact gz_m 73 (by omega)⟩⟩ (fun c31 => ?_) (fun c31 => ?_)
  · have f32 := (gr_b_42 hI (Int.toNat a2))
    refine gv_run 5 true hD (pc' := 16) (lv' := [(0, .inr (.inr (some 0))), (1, .inl a1), (2, .inl a2), (3, .inl a3), (4, .inl a4), (5, .inl a5)]) (st' := [.inl (I 42 (Int.toNat a2)), .inl a3]) (h' := gr_h I J) (C := (((((True ∧ True) ∧ True) ∧ True) ∧ True) ∧ (0 ≤ a2 ∧ a2 < ((3072 : Nat) : Int)))) rfl ⟨⟨⟨⟨⟨trivial, trivial⟩, trivial⟩, trivial⟩, trivial⟩, ⟨by exact gz_m 74 (by omega), by exact gz_m 75 (by omega)⟩⟩ ?_
    refine gv_icmp_ne (t := 30) hD rfl rfl ⟨⟨by exact gz_m 76 (by omega), by exact gz_m 77 (by omega)⟩, ⟨by exact gz_m 78 (by omega), by exact gz_m 79 (by omega)⟩⟩ (fun c33 => ?_) (fun c33 => ?_)
    · refine gv_run 7 true hD (pc' := 40) (lv' := [(0, .inr (.inr (some 0))), (1, .inl a1), (2, .inl a2), (3, .inl a3), (4, .inl a4), (5, .inl a5)]) (st' := [.inl ((6 * a2) + a3), .inr (.inr (some 43))]) (h' := gr_h I J) (C := (((((((True ∧ True) ∧ True) ∧ True) ∧ True) ∧ True) ∧ True) ∧ True)) rfl ⟨⟨⟨⟨⟨⟨⟨trivial, trivial⟩, trivial⟩, trivial⟩, trivial⟩, trivial⟩, trivial⟩, trivial⟩ ?_
      have f34 := (show (-4) ≤ I 43 (Int.toNat (((6 * a2) + a3))) ∧ I 43 (Int.toNat (((6 * a2) + a3))) ≤ 32015 from (hI 43 (Int.toNat (((6 * a2) + a3)))).1)
      refine gv_run 1 true hD (pc' := 41) (lv' := [(0, .inr (.inr (some 0))), (1, .inl a1), (2, .inl a2), (3, .inl a3), (4, .inl a4), (5, .inl a5)]) (st' := [.inl (I 43 (Int.toNat (((6 * a2) + a3))))]) (h' := gr_h I J) (C := (True ∧ (0 ≤ (((6 * a2) + a3)) ∧ (((6 * a2) + a3)) < ((18432 : Nat) : Int)))) rfl ⟨trivial, ⟨by exact gz_m 80 (by omega), by exact gz_m 81 (by omega)⟩⟩ ?_
      refine gv_run 2 true hD (pc' := 45) (lv' := [(6, .inl (I 43 (Int.toNat (((6 * a2) + a3))))), (0, .inr (.inr (some 0))), (1, .inl a1), (2, .inl a2), (3, .inl a3), (4, .inl a4), (5, .inl a5)]) (st' := [.inl (I 43 (Int.toNat (((6 * a2) + a3))))]) (h' := gr_h I J) (C := ((True ∧ True) ∧ True)) rfl ⟨⟨trivial, trivial⟩, trivial⟩ ?_
      refine gv_if_lt (t := 70) hD rfl rfl ⟨by exact gz_m 82 (by omega), by exact gz_m 83 (by omega)⟩ (fun c35 => ?_) (fun c35 => ?_)
      · refine gv_run 4 true hD (pc' := 76) (lv' := [(7, .inl ((-1) - (I 43 (Int.toNat (((6 * a2) + a3)))))), (6, .inl (I 43 (Int.toNat (((6 * a2) + a3))))), (0, .inr (.inr (some 0))), (1, .inl a1), (2, .inl a2), (3, .inl a3), (4, .inl a4), (5, .inl a5)]) (st' := []) (h' := gr_h I J) (C := ((((True ∧ True) ∧ True) ∧ True) ∧ True)) rfl ⟨⟨⟨⟨trivial, trivial⟩, trivial⟩, trivial⟩, trivial⟩ ?_
        have t36 := gr_LW_a x0 hI (m := a3) (by exact gz_m 84 (by omega)) (by exact gz_m 85 (by omega)) (by exact gz_m 86 (by omega)) (by exact gz_m 87 (by omega))
        have t37 := x5 (-1 - I 43 (Int.toNat (6 * a2 + a3))) (by exact gz_m 88 (by omega)) (by exact gz_m 89 (by omega))
        refine gv_run 7 true hD (pc' := 86) (lv' := [(7, .inl ((-1) - (I 43 (Int.toNat (((6 * a2) + a3)))))), (6, .inl (I 43 (Int.toNat (((6 * a2) + a3))))), (0, .inr (.inr (some 0))), (1, .inl a1), (2, .inl a2), (3, .inl a3), (4, .inl a4), (5, .inl a5)]) (st' := [.inl ((4 * a1) + ((-1) - (I 43 (Int.toNat (((6 * a2) + a3)))))), .inr (.inr (some 122))]) (h' := gr_h I J) (C := (((((((True ∧ True) ∧ True) ∧ True) ∧ True) ∧ True) ∧ True) ∧ True)) rfl ⟨⟨⟨⟨⟨⟨⟨trivial, trivial⟩, trivial⟩, trivial⟩, trivial⟩, trivial⟩, trivial⟩, trivial⟩ ?_
        have f38 := (gr_b_122 hI (Int.toNat (((4 * a1) + ((-1) - (I 43 (Int.toNat (((6 * a2) + a3)))))))))
        refine gv_run 1 true hD (pc' := 87) (lv' := [(7, .inl ((-1) - (I 43 (Int.toNat (((6 * a2) + a3)))))), (6, .inl (I 43 (Int.toNat (((6 * a2) + a3))))), (0, .inr (.inr (some 0))), (1, .inl a1), (2, .inl a2), (3, .inl a3), (4, .inl a4), (5, .inl a5)]) (st' := [.inl (I 122 (Int.toNat (((4 * a1) + ((-1) - (I 43 (Int.toNat (((6 * a2) + a3)))))))))]) (h' := gr_h I J) (C := (True ∧ (0 ≤ (((4 * a1) + ((-1) - (I 43 (Int.toNat (((6 * a2) + a3))))))) ∧ (((4 * a1) + ((-1) - (I 43 (Int.toNat (((6 * a2) + a3))))))) < ((240 : Nat) : Int)))) rfl ⟨trivial, ⟨by exact gz_m 90 (by omega), by exact gz_m 91 (by omega)⟩⟩ ?_
        have t39 := (show (I 122 (Int.toNat (((4 * a1) + ((-1) - (I 43 (Int.toNat (((6 * a2) + a3))))))))) = I 122 (Int.toNat (4 * a1 + (-1 - I 43 (Int.toNat (6 * a2 + a3))))) from congrArg (I 122) (congrArg Int.toNat (by exact gz_m 92 (by omega))))
        refine gv_run 3 true hD (pc' := 92) (lv' := [(9, .inl 0), (8, .inl (I 122 (Int.toNat (((4 * a1) + ((-1) - (I 43 (Int.toNat (((6 * a2) + a3)))))))))), (7, .inl ((-1) - (I 43 (Int.toNat (((6 * a2) + a3)))))), (6, .inl (I 43 (Int.toNat (((6 * a2) + a3))))), (0, .inr (.inr (some 0))), (1, .inl a1), (2, .inl a2), (3, .inl a3), (4, .inl a4), (5, .inl a5)]) (st' := []) (h' := gr_h I J) (C := (((True ∧ True) ∧ True) ∧ True)) rfl ⟨⟨⟨trivial, trivial⟩, trivial⟩, trivial⟩ ?_
        refine gv_pick [4, 5, 6, 7, 8, 9, 2, 1, 0] rfl ?_
        exact L92 _ I J (((-1) - (I 43 (Int.toNat (((6 * a2) + a3)))))) ((I 122 (Int.toNat (((4 * a1) + ((-1) - (I 43 (Int.toNat (((6 * a2) + a3)))))))))) 0 (Nat.lt_succ_self _) hI FI FJ (by exact gz_m 93 (by omega)) x1 (gr_OKs_rf _ _) (gr_PSs_rf _ _)
      · have t40 := gr_zs_1 (I := I) (x := (Int.toNat a2)) (m := a3) (by exact gz_m 94 (by omega))
        have t41 := gr_ln_t (I := I) (x := a2) (m := a3) (by exact gz_m 95 (by omega)) (by exact gz_m 96 (by omega)) (by exact gz_m 97 (by omega))
        have t42 := gr_zs_b hI (x := (Int.toNat a2)) (m := a3) (n := I 42 (Int.toNat a2)) (by exact gz_m 98 (by omega)) (by exact gz_m 99 (by omega))
        refine gv_run 7 true hD (pc' := 56) (lv' := [(6, .inl (I 43 (Int.toNat (((6 * a2) + a3))))), (0, .inr (.inr (some 0))), (1, .inl a1), (2, .inl a2), (3, .inl a3), (4, .inl a4), (5, .inl a5)]) (st' := [.inl a4, .inl (a3 + 1), .inl a2, .inl a1, .inr (.inr (some 0))]) (h' := gr_h I J) (C := (((((((True ∧ True) ∧ True) ∧ True) ∧ True) ∧ True) ∧ True) ∧ True)) rfl ⟨⟨⟨⟨⟨⟨⟨trivial, trivial⟩, trivial⟩, trivial⟩, trivial⟩, trivial⟩, trivial⟩, trivial⟩ ?_
        have f43 := gw_and (x := ((I 43 (Int.toNat (((6 * a2) + a3)))))) (y := 15) ⟨by exact gz_m 100 (by omega), by exact gz_m 101 (by omega)⟩
        refine gv_run 7 true hD (pc' := 66) (lv' := [(6, .inl (I 43 (Int.toNat (((6 * a2) + a3))))), (0, .inr (.inr (some 0))), (1, .inl a1), (2, .inl a2), (3, .inl a3), (4, .inl a4), (5, .inl a5)]) (st' := [.inl ((a5 + 1) + ((Int32.ofInt ((I 43 (Int.toNat (((6 * a2) + a3))))) &&& Int32.ofInt 15).toInt)), .inl a4, .inl (a3 + 1), .inl a2, .inl a1, .inr (.inr (some 0))]) (h' := gr_h I J) (C := (((((((True ∧ True) ∧ True) ∧ True) ∧ True) ∧ True) ∧ True) ∧ True)) rfl ⟨⟨⟨⟨⟨⟨⟨trivial, trivial⟩, trivial⟩, trivial⟩, trivial⟩, trivial⟩, trivial⟩, trivial⟩ ?_
        obtain ⟨r44, h44, E44, P44⟩ := ihR I J hI a1 a2 (a3 + 1) a4 (((a5 + 1) + ((Int32.ofInt ((I 43 (Int.toNat (((6 * a2) + a3))))) &&& Int32.ofInt 15).toInt))) ⟨by exact gz_m 102 (by omega), by exact gz_m 103 (by omega)⟩ ⟨by exact gz_m 104 (by omega), by exact gz_m 105 (by omega)⟩ ⟨by exact gz_m 106 (by omega), by exact gz_m 107 (by omega)⟩ ⟨by exact gz_m 108 (by omega), by exact gz_m 109 (by omega)⟩ ⟨by exact gz_m 110 (by omega), by exact gz_m 111 (by omega)⟩ x0 x1 (by exact gz_m 112 (by omega)) (gr_PKo_t (by exact gz_m 113 (by omega)) (by exact gz_m 114 (by omega)) x3 (by exact gz_m 115 (by omega))) (by exact gz_m 116 (by omega)) x5 (by exact gz_m 117 (by omega)) (by exact gz_m 118 (by omega))
        obtain ⟨I45, J46, rfl, hI45, g44, k44, ⟨rfl, q44⟩⟩ := P44
        have FI45 := gr_frt FI g44 rfl rfl
        have FJ46 := gr_fjt FJ k44 rfl rfl
        refine gv_callV hD rfl (As := [.inl a1, .inl a2, .inl (a3 + 1), .inl a4, .inl ((a5 + 1) + ((Int32.ofInt ((I 43 (Int.toNat (((6 * a2) + a3))))) &&& Int32.ofInt 15).toInt))]) (st := []) rfl (by decide) rfl rfl (gr_lV hws rfl) (Nat.le_of_ble_eq_true rfl) (gz_Ev_mono (d := (2 + nr)) (Nat.le_refl _) E44) ?_
        show gv_X _ _ (69, [(6, .inl (I 43 (Int.toNat (((6 * a2) + a3))))), (0, .inr (.inr (some 0))), (1, .inl a1), (2, .inl a2), (3, .inl a3), (4, .inl a4), (5, .inl a5)], [], gr_sh ++ ext, gr_h I45 J46)
        exact gv_vret hD rfl ⟨I45, J46, rfl, hI45, FI45, FJ46, ⟨rfl, q44.1, (gr_OKs_tr (gr_OKs_rf _ _) q44.2.1), (gr_PSs_tr (b := (a3 + 1)) (gr_PSs_rf _ _) q44.2.2 (by exact gz_m 119 (by omega)))⟩⟩
    · refine gv_run 5 true hD (pc' := 26) (lv' := [(0, .inr (.inr (some 0))), (1, .inl a1), (2, .inl a2), (3, .inl a3), (4, .inl a4), (5, .inl a5)]) (st' := [.inl a5, .inl a4, .inl a2, .inl a1, .inr (.inr (some 0))]) (h' := gr_h I J) (C := (((((True ∧ True) ∧ True) ∧ True) ∧ True) ∧ True)) rfl ⟨⟨⟨⟨⟨trivial, trivial⟩, trivial⟩, trivial⟩, trivial⟩, trivial⟩ ?_
      have t47 := gr_LW_1 x0 x6
      have t48 := gr_zs_m hI (x := (Int.toNat a2)) (k := 0) (Int.toNat a3) (by exact gz_m 120 (by omega))
      have t49 := (show gr_zs I (Int.toNat a2) 0 = -1 from rfl)
      obtain ⟨r50, h50, E50, P50⟩ := r_ready (ws0 := ws0) (tb := tb) hws htb ext I J hI a1 a2 a4 a5 ⟨by exact gz_m 121 (by omega), by exact gz_m 122 (by omega)⟩ ⟨by exact gz_m 123 (by omega), by exact gz_m 124 (by omega)⟩ ⟨by exact gz_m 125 (by omega), by exact gz_m 126 (by omega)⟩ ⟨by exact gz_m 127 (by omega), by exact gz_m 128 (by omega)⟩ (gr_SD_of x0 (by exact gz_m 129 (by omega))) x1 (by rw [← (show a3 = I 42 (Int.toNat a2) from by exact gz_m 130 (by omega))]; exact x2) (by rw [← (show a3 = I 42 (Int.toNat a2) from by exact gz_m 131 (by omega))]; exact x3) (by exact gz_m 132 (by omega))
      obtain ⟨I51, J52, rfl, hI51, g50, k50, ⟨rfl, q50⟩⟩ := P50
      have FI51 := gr_frt FI g50 rfl rfl
      have FJ52 := gr_fjt FJ k50 rfl rfl
      refine gv_callV hD rfl (As := [.inl a1, .inl a2, .inl a4, .inl a5]) (st := []) rfl (by decide) rfl rfl (gr_lV hws rfl) (Nat.le_of_ble_eq_true rfl) (gz_Ev_mono (d := 2) (by exact gz_m 133 (by omega)) E50) ?_
      show gv_X _ _ (29, [(0, .inr (.inr (some 0))), (1, .inl a1), (2, .inl a2), (3, .inl a3), (4, .inl a4), (5, .inl a5)], [], gr_sh ++ ext, gr_h I51 J52)
      exact gv_vret hD rfl ⟨I51, J52, rfl, hI51, FI51, FJ52, ⟨rfl, q50.1, (gr_OKs_tr (gr_OKs_rf _ _) q50.2), (gr_PSs_tr (b := a3) (gr_PSs_rf _ _) (fun j _ => g50 123 j rfl) (by exact gz_m 134 (by omega)))⟩⟩
  · exact gv_vret hD rfl ⟨I, J, rfl, hI, FI, FJ, ⟨rfl, x1, (gr_OKs_rf _ _), (gr_PSs_rf _ _)⟩⟩
