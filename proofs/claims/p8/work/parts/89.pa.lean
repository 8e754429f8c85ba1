def gc_mf (I : gr_I) (f j : Nat) : Int := I 16 (f * 40 + j)
theorem gc_mf_at {I : gr_I} {f i : Int} (h : 0 ≤ f ∧ 0 ≤ i) : I 16 (Int.toNat ((f * 40) + i)) = gc_mf I (Int.toNat f) (Int.toNat i) := by
  unfold gc_mf
  rw [show Int.toNat ((f * 40) + i) = Int.toNat f * 40 + Int.toNat i from by omega]
def gc_MT (I : gr_I) (f : Nat) : Prop := gc_TC (gc_mf I f) (I 15 f) ∧ ∀ k : Nat, (k : Int) < I 15 f → -3 - I 12 f ≤ gc_mf I f k
def gc_SM (I0 I : gr_I) (T : Nat) : Nat → Int
  | 0 => 0
  | k + 1 => gc_SM I0 I T k + gc_N (gc_mf I0 (Int.toNat (I0 T (Int.toNat (I 92 k))))) (Int.toNat (I 93 k))
def gc_PS (I0 I : gr_I) (T : Nat) (n m : Int) : Prop := ∀ k : Nat, (k : Int) < m → (k : Int) ≤ I 92 k ∧ I 92 k < n ∧ 0 ≤ I 93 k ∧ I 93 k ≤ I0 15 (Int.toNat (I0 T (Int.toNat (I 92 k))))
set_option maxHeartbeats 8000000 in
theorem gc_SM_fr {I0 I I' : gr_I} {T : Nat} : ∀ {m : Nat}, (∀ k, k < m → I' 92 k = I 92 k) → (∀ k, k < m → I' 93 k = I 93 k) → gc_SM I0 I' T m = gc_SM I0 I T m
  | 0, _, _ => rfl
  | m + 1, h1, h2 => by
    show gc_SM I0 I' T m + _ = gc_SM I0 I T m + _
    rw [gc_SM_fr (m := m) (fun k hk => h1 k (by exact gz_m 0 (by omega))) (fun k hk => h2 k (by exact gz_m 1 (by omega))), h1 m (by exact gz_m 2 (by omega)), h2 m (by exact gz_m 3 (by omega))]
theorem gc_SM_at {I0 I : gr_I} {T : Nat} {v : Int} (h : 1 ≤ v) : gc_SM I0 I T (Int.toNat v) = gc_SM I0 I T (Int.toNat (v - 1)) + gc_N (gc_mf I0 (Int.toNat (I0 T (Int.toNat (I 92 (Int.toNat (v - 1))))))) (Int.toNat (I 93 (Int.toNat (v - 1)))) := by
  rw [show Int.toNat v = Int.toNat (v - 1) + 1 from by omega]
  rfl
theorem gc_N_nn {f : Nat → Int} {n v : Int} (h : gc_TC f n) (hv : 0 ≤ v ∧ v ≤ n) : 0 ≤ gc_N f (Int.toNat v) ∧ (v < n → 1 ≤ gc_N f (Int.toNat v)) ∧ (n ≤ v → gc_N f (Int.toNat v) = 0) := by
  by_cases e : v < n
  · have := h.2.1 (Int.toNat v) (by exact gz_m 0 (by omega))
    exact ⟨by exact gz_m 1 (by omega), fun _ => this, fun h2 => by exact gz_m 2 (by omega)⟩
  · have h1 := h.2.2
    rw [show n = v from by exact gz_m 3 (by omega)] at h1
    exact ⟨by exact gz_m 4 (by omega), fun h2 => absurd h2 e, fun _ => h1⟩
theorem gc_SM_nn {I0 I : gr_I} {T : Nat} {n m : Int} (hM : ∀ i : Nat, (i : Int) < n → gc_MT I0 (Int.toNat (I0 T i))) (hP : gc_PS I0 I T n m) : ∀ k : Nat, (k : Int) ≤ m → 0 ≤ gc_SM I0 I T k
  | 0, _ => Int.le_refl _
  | k + 1, h => by
    have h1 := gc_SM_nn hM hP k (by exact gz_m 0 (by omega))
    obtain ⟨a, b, c, d⟩ := hP k (by exact gz_m 1 (by omega))
    have h2 := gc_N_nn (v := I 93 k) (hM (Int.toNat (I 92 k)) (by exact gz_m 2 (by omega))).1 ⟨c, d⟩
    show 0 ≤ gc_SM I0 I T k + gc_N _ _
    exact gz_m 3 (by omega)
set_option maxHeartbeats 8000000 in
theorem gc_pt_pop {I0 I I2 : gr_I} {T : Nat} {n m : Int} (hP : gc_PS I0 I T n m) (hm : 1 ≤ m) (p : ∀ q j, ¬ (q = 93 ∧ j = Int.toNat (m - 1)) → I2 q j = I q j) : gc_PS I0 I2 T n (m + (-1)) ∧ gc_SM I0 I2 T (Int.toNat (m + (-1))) = gc_SM I0 I T (Int.toNat (m - 1)) := by
  refine ⟨fun k hk => ?_, ?_⟩
  · rw [p 92 k (fun h => absurd h.1 (by decide)), p 93 k (fun h => by have := h.2; exact gz_m 0 (by omega))]
    exact hP k (by exact gz_m 1 (by omega))
  · rw [show Int.toNat (m + (-1)) = Int.toNat (m - 1) from by exact gz_m 2 (by omega)]
    exact gc_SM_fr (fun k hk => p 92 k (fun h => absurd h.1 (by decide))) (fun k hk => p 93 k (fun h => by have := h.2; exact gz_m 3 (by omega)))
theorem gc_pt_in {I0 I I2 : gr_I} {T : Nat} {n m : Int} (hP : gc_PS I0 I T n m) (hm : 1 ≤ m) (p : ∀ q j, ¬ (q = 93 ∧ j = Int.toNat (m - 1)) → I2 q j = I q j) (hq : I2 93 (Int.toNat (m - 1)) = I 93 (Int.toNat (m - 1)) + 1) (hb : I 93 (Int.toNat (m - 1)) < I0 15 (Int.toNat (I0 T (Int.toNat (I 92 (Int.toNat (m - 1))))))) : gc_PS I0 I2 T n m ∧ gc_SM I0 I2 T (Int.toNat m) = gc_SM I0 I T (Int.toNat m) + gc_nw (gc_mf I0 (Int.toNat (I0 T (Int.toNat (I 92 (Int.toNat (m - 1)))))) (Int.toNat (I 93 (Int.toNat (m - 1))))) := by
  have h92 : ∀ k, I2 92 k = I 92 k := fun k => p 92 k (fun h => absurd h.1 (by decide))
  have h0 := hP (Int.toNat (m - 1)) (by exact gz_m 0 (by omega))
  refine ⟨fun k hk => ?_, ?_⟩
  · rw [h92]
    by_cases e : k = Int.toNat (m - 1)
    · subst e
      rw [hq]
      exact ⟨h0.1, h0.2.1, by exact gz_m 1 (by omega), by exact gz_m 2 (by omega)⟩
    · rw [p 93 k (fun h => e h.2)]
      exact hP k hk
  · rw [gc_SM_at hm, gc_SM_at (I := I) hm, h92, hq, gc_N_nx h0.2.2.1, gc_SM_fr (I := I) (fun k hk => h92 k) (fun k hk => p 93 k (fun h => by have := h.2; exact gz_m 3 (by omega)))]
    exact gz_m 4 (by omega)
theorem gc_pt_pu {I0 I I3 I4 : gr_I} {T : Nat} {n m c : Int} (hP : gc_PS I0 I T n m) (hm : 0 ≤ m) (p3 : ∀ q j, ¬ (q = 92 ∧ j = Int.toNat m) → I3 q j = I q j) (q3 : I3 92 (Int.toNat m) = c) (p4 : ∀ q j, ¬ (q = 93 ∧ j = Int.toNat m) → I4 q j = I3 q j) (q4 : I4 93 (Int.toNat m) = 0) (hc : m ≤ c ∧ c < n) (h15 : 0 ≤ I0 15 (Int.toNat (I0 T (Int.toNat c)))) : gc_PS I0 I4 T n (m + 1) ∧ gc_SM I0 I4 T (Int.toNat (m + 1)) = gc_SM I0 I T (Int.toNat m) + 1 := by
  have a92 : I4 92 (Int.toNat m) = c := (p4 92 _ (fun h => absurd h.1 (by decide))).trans q3
  have e92 : ∀ k, ¬ k = Int.toNat m → I4 92 k = I 92 k := fun k hk => (p4 92 k (fun h => absurd h.1 (by decide))).trans (p3 92 k (fun h => hk h.2))
  have e93 : ∀ k, ¬ k = Int.toNat m → I4 93 k = I 93 k := fun k hk => (p4 93 k (fun h => hk h.2)).trans (p3 93 k (fun h => absurd h.1 (by decide)))
  refine ⟨fun k hk => ?_, ?_⟩
  · by_cases e : k = Int.toNat m
    · subst e
      rw [a92, q4]
      exact ⟨by exact gz_m 0 (by omega), hc.2, Int.le_refl _, h15⟩
    · rw [e92 k e, e93 k e]
      exact hP k (by exact gz_m 1 (by omega))
  · rw [gc_SM_at (by exact gz_m 2 (by omega)), show m + 1 - 1 = m from by exact gz_m 3 (by omega), a92, q4, gc_SM_fr (I := I) (fun k hk => e92 k (by exact gz_m 4 (by omega))) (fun k hk => e93 k (by exact gz_m 5 (by omega)))]
    rfl
set_option maxHeartbeats 8000000 in
set_option maxRecDepth 100000 in
theorem d_X10_putTogether {ws0 : List Cond} {tb : String → gz_T} (hws : gc_Ws ws0) (htb : gc_tbs tb) (sh : gz_Sh) (ro : Nat → Nat) (I : gr_I) (J : gr_J) (A : gc_A) (hI : gc_Inv ro I) (m : Nat) (o : Nat) (a1 : Nat) (a2 : Int) (hb : gc_Base sh ro A) (S_a1 : sh[a1]? = some (true, 1, m)) (R_a1 : ro a1 = 37) (B_a1 : a1 < 1000000) (M_a1 : m < 2147483648) (ha2 : 0 ≤ a2 ∧ a2 ≤ 60) (x0 : 86 + 1 + 2 * Int.toNat (I 86 2) = o) (x1 : o = 87 ∨ o = 89) (x2 : gc_wtr I a1 a2) (x3 : a2 ≤ m) (x4 : m = 60) (x5 : 115 ≤ a1 ∧ a1 ≤ 123) (x6 : ∀ i : Nat, (i : Int) < a2 → gc_MT I (Int.toNat (I a1 i))) : ∃ r h', gz_Ev ws0 tb 2 (yX10_putTogether, cX10_putTogether, 9, (some .boolean)) [.inr (.inr (some 86)), .inr (.inr (some a1)), .inl a2] sh (gc_h sh I J A) r sh h' 0 0 ∧ (∃ (I' : gr_I) (J' : gr_J), h' = gc_h sh I' J' A ∧ gc_Inv ro I' ∧ (∀ q j : Nat, (q = o ∨ (q = 86 ∧ j = 1) ∨ q = 91 ∨ q = 22 ∨ q = 92 ∨ q = 93) ∨ I' q j = I q j) ∧ (∀ q j : Nat, (q = 88 ∨ q = 90) ∨ J' q j = J q j) ∧ (∃ z : Int, r = some (.inl z) ∧ 0 ≤ z ∧ z ≤ 1 ∧ (z = 0 ∨ gc_TC (I' o) (I' 86 1)) ∧ (z = 0 ∨ gc_ub (I' o) (I' 86 1) 41) ∧ (I' 86 2 = I 86 2 ∧ I' 86 4 = I 86 4))) := by
  have FI : ∀ q j : Nat, (q = o ∨ (q = 86 ∧ j = 1) ∨ q = 91 ∨ q = 22 ∨ q = 92 ∨ q = 93) ∨ I q j = I q j := fun _ _ => Or.inr rfl
  have FJ : ∀ q j : Nat, (q = 88 ∨ q = 90) ∨ J q j = J q j := fun _ _ => Or.inr rfl
  have A_1_10 : A 1 10 = some 15 := gc_bA hb rfl
  have A_1_11 : A 1 11 = some 16 := gc_bA hb rfl
  have A_1_12 : A 1 12 = some 17 := gc_bA hb rfl
  have A_86_0 : A 86 0 = some 1 := gc_bA hb rfl
  have A_86_6 : A 86 6 = some 91 := gc_bA hb rfl
  have A_86_7 : A 86 7 = some 92 := gc_bA hb rfl
  have A_86_8 : A 86 8 = some 93 := gc_bA hb rfl
  have B_1 : 1 < 1000000 := by decide
  have B_15 : 15 < 1000000 := by decide
  have B_16 : 16 < 1000000 := by decide
  have B_17 : 17 < 1000000 := by decide
  have B_86 : 86 < 1000000 := by decide
  have B_88 : 88 < 1000000 := by decide
  have B_90 : 90 < 1000000 := by decide
  have B_91 : 91 < 1000000 := by decide
  have B_92 : 92 < 1000000 := by decide
  have B_93 : 93 < 1000000 := by decide
  have R_15 : ro 15 = 28 := gc_bR hb (by decide) rfl
  have R_16 : ro 16 = 50 := gc_bR hb (by decide) rfl
  have R_86 : ro 86 = 74 := gc_bR hb (by decide) rfl
  have R_88 : ro 88 = 0 := gc_bR hb (by decide) rfl
  have R_90 : ro 90 = 0 := gc_bR hb (by decide) rfl
  have R_91 : ro 91 = 38 := gc_bR hb (by decide) rfl
  have R_92 : ro 92 = 60 := gc_bR hb (by decide) rfl
  have R_93 : ro 93 = 60 := gc_bR hb (by decide) rfl
  have S_1 : sh[1]? = some (false, 8, 21) := gc_bS hb rfl
  have S_15 : sh[15]? = some (true, 1, 96) := gc_bS hb rfl
  have S_16 : sh[16]? = some (true, 1, 3840) := gc_bS hb rfl
  have S_17 : sh[17]? = some (true, 2, 3840) := gc_bS hb rfl
  have S_86 : sh[86]? = some (false, 10, 19) := gc_bS hb rfl
  have S_88 : sh[88]? = some (true, 2, 300) := gc_bS hb rfl
  have S_90 : sh[90]? = some (true, 2, 300) := gc_bS hb rfl
  have S_91 : sh[91]? = some (true, 1, 240) := gc_bS hb rfl
  have S_92 : sh[92]? = some (true, 1, 300) := gc_bS hb rfl
  have S_93 : sh[93]? = some (true, 1, 300) := gc_bS hb rfl
  have S_o : sh[o]? = some (true, 1, 300) := by
    rcases (show o = 87 ∨ o = 89 from by exact gz_m 0 (by omega)) with h9 | h9 <;> rw [h9] <;> exact gc_bS hb rfl
  have R_o : ro o = 77 := by
    rcases (show o = 87 ∨ o = 89 from by exact gz_m 1 (by omega)) with h9 | h9 <;> rw [h9] <;> exact gc_bR hb (by decide) rfl
  have B_o : o < 1000000 := by exact gz_m 2 (by omega)
  have hD : gv_D (gc_E10 ws0 tb 1 (yX10_putTogether, cX10_putTogether, 9, (some .boolean)) kX10_putTogether) := gq_of oX10_putTogether
  refine gc_ev10 (d := 1) (l := kX10_putTogether) (Po := fun r h' => (∃ (I' : gr_I) (J' : gr_J), h' = gc_h sh I' J' A ∧ gc_Inv ro I' ∧ (∀ q j : Nat, (q = o ∨ (q = 86 ∧ j = 1) ∨ q = 91 ∨ q = 22 ∨ q = 92 ∨ q = 93) ∨ I' q j = I q j) ∧ (∀ q j : Nat, (q = 88 ∨ q = 90) ∨ J' q j = J q j) ∧ (∃ z : Int, r = some (.inl z) ∧ 0 ≤ z ∧ z ≤ 1 ∧ (z = 0 ∨ gc_TC (I' o) (I' 86 1)) ∧ (z = 0 ∨ gc_ub (I' o) (I' 86 1) 41) ∧ (I' 86 2 = I 86 2 ∧ I' 86 4 = I 86 4)))) htb rfl (Nat.le_of_ble_eq_true rfl) ?_
  have N_86__o : ¬ (86 = o) := by exact gz_m 3 (by omega)
  have f1 := (show 0 ≤ I 86 1 ∧ I 86 1 ≤ 300 from gc_in hI R_86 rfl rfl)
  have f2 := (show 0 ≤ I 86 2 ∧ I 86 2 ≤ 1 from gc_in hI R_86 rfl rfl)
  have f3 := (show 0 ≤ I 86 4 ∧ I 86 4 ≤ 1 from gc_in hI R_86 rfl rfl)
  have L37 : ∀ (n9 : Nat) (I4 : gr_I) (J5 : gr_J) (v3_6 : Int) (v4_6 : Int), (2000001 - v4_6).toNat < n9 → gc_Inv ro I4 → (∀ q j : Nat, (q = o ∨ (q = 86 ∧ j = 1) ∨ q = 91 ∨ q = 22 ∨ q = 92 ∨ q = 93) ∨ I4 q j = I q j) → (∀ q j : Nat, (q = 88 ∨ q = 90) ∨ J5 q j = J q j) → ((0 ≤ v3_6 ∧ v3_6 ≤ 60) ∧ (0 ≤ v4_6 ∧ v4_6 ≤ 2000000) ∧ (v3_6 ≤ a2) ∧ (I4 86 2 = I 86 2) ∧ (I4 86 4 = I 86 4)) → (gc_PS I I4 a1 a2 v3_6) → (gc_tg (I4 o) (I4 86 1) 41) → (gc_N (I4 o) (Int.toNat (I4 86 1)) = gc_SM I I4 a1 (Int.toNat v3_6)) → (gc_cd I I4 a1 91 a2 (-1)) → gv_X (gc_E10 ws0 tb 1 (yX10_putTogether, cX10_putTogether, 9, (some .boolean)) kX10_putTogether) (gv_Q cX10_putTogether (some .boolean) sh (fun r h' => (∃ (I' : gr_I) (J' : gr_J), h' = gc_h sh I' J' A ∧ gc_Inv ro I' ∧ (∀ q j : Nat, (q = o ∨ (q = 86 ∧ j = 1) ∨ q = 91 ∨ q = 22 ∨ q = 92 ∨ q = 93) ∨ I' q j = I q j) ∧ (∀ q j : Nat, (q = 88 ∨ q = 90) ∨ J' q j = J q j) ∧ (∃ z : Int, r = some (.inl z) ∧ 0 ≤ z ∧ z ≤ 1 ∧ (z = 0 ∨ gc_TC (I' o) (I' 86 1)) ∧ (z = 0 ∨ gc_ub (I' o) (I' 86 1) 41) ∧ (I' 86 2 = I 86 2 ∧ I' 86 4 = I 86 4))))) (37, [(0, .inr (.inr (some 86))), (1, .inr (.inr (some a1))), (3, .inl v3_6), (4, .inl v4_6)], [], sh, gc_h sh I4 J5 A) := by
    intro n9
    induction n9 with
    | zero => intro I4 J5 v3_6 v4_6 hn; exact gz_m 4 (by omega)
    | succ n9 ih37 =>
      intro I4 J5 v3_6 v4_6 hn hI4 FI4 FJ5 m_6 e0_6 e1_6 e2_6 e3_6
      obtain ⟨hv3_6, hv4_6, e4_6, e5_6, e6_6⟩ := m_6
      have f7 := (show 0 ≤ I4 86 1 ∧ I4 86 1 ≤ 300 from gc_in hI4 R_86 rfl rfl)
      have f8 := (show 0 ≤ I4 86 2 ∧ I4 86 2 ≤ 1 from gc_in hI4 R_86 rfl rfl)
      have f9 := (show 0 ≤ I4 86 4 ∧ I4 86 4 ≤ 1 from gc_in hI4 R_86 rfl rfl)
      have L214 : ∀ (I10 : gr_I) (J11 : gr_J) (v3_12 : Int), gc_Inv ro I10 → (∀ q j : Nat, (q = o ∨ (q = 86 ∧ j = 1) ∨ q = 91 ∨ q = 22 ∨ q = 92 ∨ q = 93) ∨ I10 q j = I q j) → (∀ q j : Nat, (q = 88 ∨ q = 90) ∨ J11 q j = J q j) → ((0 ≤ v3_12 ∧ v3_12 ≤ 60) ∧ (0 ≤ v4_6 ∧ v4_6 ≤ 1999999) ∧ (v3_12 ≤ a2) ∧ (I10 86 2 = I 86 2) ∧ (I10 86 4 = I 86 4)) → (gc_PS I I10 a1 a2 v3_12) → (gc_tg (I10 o) (I10 86 1) 41) → (gc_N (I10 o) (Int.toNat (I10 86 1)) = gc_SM I I10 a1 (Int.toNat v3_12)) → (gc_cd I I10 a1 91 a2 (-1)) → gv_X (gc_E10 ws0 tb 1 (yX10_putTogether, cX10_putTogether, 9, (some .boolean)) kX10_putTogether) (gv_Q cX10_putTogether (some .boolean) sh (fun r h' => (∃ (I' : gr_I) (J' : gr_J), h' = gc_h sh I' J' A ∧ gc_Inv ro I' ∧ (∀ q j : Nat, (q = o ∨ (q = 86 ∧ j = 1) ∨ q = 91 ∨ q = 22 ∨ q = 92 ∨ q = 93) ∨ I' q j = I q j) ∧ (∀ q j : Nat, (q = 88 ∨ q = 90) ∨ J' q j = J q j) ∧ (∃ z : Int, r = some (.inl z) ∧ 0 ≤ z ∧ z ≤ 1 ∧ (z = 0 ∨ gc_TC (I' o) (I' 86 1)) ∧ (z = 0 ∨ gc_ub (I' o) (I' 86 1) 41) ∧ (I' 86 2 = I 86 2 ∧ I' 86 4 = I 86 4))))) (214, [(0, .inr (.inr (some 86))), (1, .inr (.inr (some a1))), (3, .inl v3_12), (4, .inl v4_6)], [], sh, gc_h sh I10 J11 A) := by
        intro I10 J11 v3_12 hI10 FI10 FJ11 m_12 e0_12 e1_12 e2_12 e3_12
        clear hv3_6 hv4_6 e4_6 e5_6 e6_6 f7 f8 f9
        obtain ⟨hv3_12, hv4_6_12, e4_12, e5_12, e6_12⟩ := m_12
        have f13 := (show 0 ≤ I10 86 1 ∧ I10 86 1 ≤ 300 from gc_in hI10 R_86 rfl rfl)
        have f14 := (show 0 ≤ I10 86 2 ∧ I10 86 2 ≤ 1 from gc_in hI10 R_86 rfl rfl)
        have f15 := (show 0 ≤ I10 86 4 ∧ I10 86 4 ≤ 1 from gc_in hI10 R_86 rfl rfl)
        refine gv_run 2 true hD (pc' := 37) (lv' := [(4, .inl (v4_6 + 1)), (0, .inr (.inr (some 86))), (1, .inr (.inr (some a1))), (3, .inl v3_12)]) (st' := []) (h' := gc_h sh I10 J11 A) (C := ((True ∧ True) ∧ True)) rfl ⟨⟨trivial, trivial⟩, trivial⟩ ?_
        refine gv_pick [1, 2, 3, 0] rfl ?_
        exact ih37 I10 J11 v3_12 (v4_6 + 1) (by exact gz_m 5 (by omega)) hI10 FI10 FJ11 (by exact gz_m 6 (by omega)) e0_12 e1_12 e2_12 e3_12
      have L220 : ((0 ≤ v3_6 ∧ v3_6 ≤ 60) ∧ (I4 86 2 = I 86 2) ∧ (I4 86 4 = I 86 4)) → gv_X (gc_E10 ws0 tb 1 (yX10_putTogether, cX10_putTogether, 9, (some .boolean)) kX10_putTogether) (gv_Q cX10_putTogether (some .boolean) sh (fun r h' => (∃ (I' : gr_I) (J' : gr_J), h' = gc_h sh I' J' A ∧ gc_Inv ro I' ∧ (∀ q j : Nat, (q = o ∨ (q = 86 ∧ j = 1) ∨ q = 91 ∨ q = 22 ∨ q = 92 ∨ q = 93) ∨ I' q j = I q j) ∧ (∀ q j : Nat, (q = 88 ∨ q = 90) ∨ J' q j = J q j) ∧ (∃ z : Int, r = some (.inl z) ∧ 0 ≤ z ∧ z ≤ 1 ∧ (z = 0 ∨ gc_TC (I' o) (I' 86 1)) ∧ (z = 0 ∨ gc_ub (I' o) (I' 86 1) 41) ∧ (I' 86 2 = I 86 2 ∧ I' 86 4 = I 86 4))))) (220, [(3, .inl v3_6)], [], sh, gc_h sh I4 J5 A) := by
        intro m_16
        obtain ⟨hv3_6_16, e0_16, e1_16⟩ := m_16
        have f17 := (show 0 ≤ I4 86 1 ∧ I4 86 1 ≤ 300 from gc_in hI4 R_86 rfl rfl)
        have f18 := (show 0 ≤ I4 86 2 ∧ I4 86 2 ≤ 1 from gc_in hI4 R_86 rfl rfl)
        have f19 := (show 0 ≤ I4 86 4 ∧ I4 86 4 ≤ 1 from gc_in hI4 R_86 rfl rfl)
        have L229 : ∀ (s0_20 : Int), ((0 ≤ s0_20 ∧ s0_20 ≤ 1) ∧ (I4 86 2 = I 86 2) ∧ (I4 86 4 = I 86 4)) → (s0_20 = 0 ∨ gc_TC (I4 o) (I4 86 1)) → (s0_20 = 0 ∨ gc_ub (I4 o) (I4 86 1) 41) → gv_X (gc_E10 ws0 tb 1 (yX10_putTogether, cX10_putTogether, 9, (some .boolean)) kX10_putTogether) (gv_Q cX10_putTogether (some .boolean) sh (fun r h' => (∃ (I' : gr_I) (J' : gr_J), h' = gc_h sh I' J' A ∧ gc_Inv ro I' ∧ (∀ q j : Nat, (q = o ∨ (q = 86 ∧ j = 1) ∨ q = 91 ∨ q = 22 ∨ q = 92 ∨ q = 93) ∨ I' q j = I q j) ∧ (∀ q j : Nat, (q = 88 ∨ q = 90) ∨ J' q j = J q j) ∧ (∃ z : Int, r = some (.inl z) ∧ 0 ≤ z ∧ z ≤ 1 ∧ (z = 0 ∨ gc_TC (I' o) (I' 86 1)) ∧ (z = 0 ∨ gc_ub (I' o) (I' 86 1) 41) ∧ (I' 86 2 = I 86 2 ∧ I' 86 4 = I 86 4))))) (229, [], [.inl s0_20], sh, gc_h sh I4 J5 A) := by
          intro s0_20 m_20 e0_20 e1_20
          obtain ⟨hs0_20, e2_20, e3_20⟩ := m_20
          have f21 := (show 0 ≤ I4 86 1 ∧ I4 86 1 ≤ 300 from gc_in hI4 R_86 rfl rfl)
          have f22 := (show 0 ≤ I4 86 2 ∧ I4 86 2 ≤ 1 from gc_in hI4 R_86 rfl rfl)
          have f23 := (show 0 ≤ I4 86 4 ∧ I4 86 4 ≤ 1 from gc_in hI4 R_86 rfl rfl)
          exact gv_zret hD rfl (by exact gz_m 7 (by omega)) ⟨I4, J5, rfl, hI4, FI4, FJ5, ⟨_, rfl, by exact gz_m 8 (by omega), by exact gz_m 9 (by omega), e0_20, e1_20, by exact gz_m 10 (by omega)⟩⟩
        refine gv_run 1 true hD (pc' := 221) (lv' := [(3, .inl v3_6)]) (st' := [.inl v3_6]) (h' := gc_h sh I4 J5 A) (C := (True ∧ True)) rfl ⟨trivial, trivial⟩ ?_
        refine gv_if_ne (t := 228) hD rfl rfl ⟨by exact gz_m 11 (by omega), by exact gz_m 12 (by omega)⟩ (fun c24 => ?_) (fun c24 => ?_)
        · show gv_X _ _ (228, [(3, .inl v3_6)], [], sh, gc_h sh I4 J5 A)
          refine gv_run 1 true hD (pc' := 229) (lv' := [(3, .inl v3_6)]) (st' := [.inl 0]) (h' := gc_h sh I4 J5 A) (C := (True ∧ True)) rfl ⟨trivial, trivial⟩ ?_
          refine gv_pick [] rfl ?_
          exact L229 0 (by exact gz_m 13 (by omega)) (Or.inl (by exact gz_m 14 (by omega))) (Or.inl (by exact gz_m 15 (by omega)))
        · show gv_X _ _ (224, [(3, .inl v3_6)], [], sh, gc_h sh I4 J5 A)
          refine gv_run 2 true hD (pc' := 229) (lv' := [(3, .inl v3_6)]) (st' := [.inl 1]) (h' := gc_h sh I4 J5 A) (C := ((True ∧ True) ∧ True)) rfl ⟨⟨trivial, trivial⟩, trivial⟩ ?_
          refine gv_pick [] rfl ?_
          exact L229 1 (by exact gz_m 16 (by omega)) (Or.inr ⟨by exact gz_m 17 (by omega), fun k hk => (e1_6 k hk).1, by have h9 := e2_6; rw [show v3_6 = 0 from by exact gz_m 18 (by omega)] at h9; exact h9⟩) (Or.inr (fun k hk => (e1_6 k hk).2))
      refine gv_run 2 true hD (pc' := 41) (lv' := [(0, .inr (.inr (some 86))), (1, .inr (.inr (some a1))), (3, .inl v3_6), (4, .inl v4_6)]) (st' := [.inl 2000000, .inl v4_6]) (h' := gc_h sh I4 J5 A) (C := ((True ∧ True) ∧ True)) rfl ⟨⟨trivial, trivial⟩, trivial⟩ ?_
      refine gv_icmp_ge (t := 220) hD rfl rfl ⟨⟨by exact gz_m 19 (by omega), by exact gz_m 20 (by omega)⟩, ⟨by exact gz_m 21 (by omega), by exact gz_m 22 (by omega)⟩⟩ (fun c25 => ?_) (fun c25 => ?_)
      · show gv_X _ _ (220, [(0, .inr (.inr (some 86))), (1, .inr (.inr (some a1))), (3, .inl v3_6), (4, .inl v4_6)], [], sh, gc_h sh I4 J5 A)
        refine gv_pick [2] rfl ?_
        exact L220 (by exact gz_m 23 (by omega))
      · show gv_X _ _ (44, [(0, .inr (.inr (some 86))), (1, .inr (.inr (some a1))), (3, .inl v3_6), (4, .inl v4_6)], [], sh, gc_h sh I4 J5 A)
        refine gv_run 1 true hD (pc' := 45) (lv' := [(0, .inr (.inr (some 86))), (1, .inr (.inr (some a1))), (3, .inl v3_6), (4, .inl v4_6)]) (st' := [.inl v3_6]) (h' := gc_h sh I4 J5 A) (C := (True ∧ True)) rfl ⟨trivial, trivial⟩ ?_
        refine gv_if_le (t := 220) hD rfl rfl ⟨by exact gz_m 24 (by omega), by exact gz_m 25 (by omega)⟩ (fun c26 => ?_) (fun c26 => ?_)
        · show gv_X _ _ (220, [(0, .inr (.inr (some 86))), (1, .inr (.inr (some a1))), (3, .inl v3_6), (4, .inl v4_6)], [], sh, gc_h sh I4 J5 A)
          refine gv_pick [2] rfl ?_
          exact L220 (by exact gz_m 26 (by omega))
        · show gv_X _ _ (48, [(0, .inr (.inr (some 86))), (1, .inr (.inr (some a1))), (3, .inl v3_6), (4, .inl v4_6)], [], sh, gc_h sh I4 J5 A)
          have t27 := e0_6 (Int.toNat (v3_6 - 1)) (by exact gz_m 27 (by omega))
          have t28 := (show 0 ≤ I 15 (Int.toNat (I a1 (Int.toNat (I4 92 (Int.toNat (v3_6 - 1)))))) ∧ I 15 (Int.toNat (I a1 (Int.toNat (I4 92 (Int.toNat (v3_6 - 1)))))) ≤ 40 from gc_in hI R_15 rfl rfl)
          refine gv_run 1 true hD (pc' := 49) (lv' := [(0, .inr (.inr (some 86))), (1, .inr (.inr (some a1))), (3, .inl v3_6), (4, .inl v4_6)]) (st' := [.inr (.inr (some 86))]) (h' := gc_h sh I4 J5 A) (C := (True ∧ True)) rfl ⟨trivial, trivial⟩ ?_
          refine gv_get hD rfl rfl S_86 ⟨by decide, B_86⟩ (gc_hA S_86 rfl A_86_7) ?_
          show gv_X _ _ (52, [(0, .inr (.inr (some 86))), (1, .inr (.inr (some a1))), (3, .inl v3_6), (4, .inl v4_6)], [.inr (.inr (some 92))], sh, gc_h sh I4 J5 A)
          refine gv_run 3 true hD (pc' := 55) (lv' := [(0, .inr (.inr (some 86))), (1, .inr (.inr (some a1))), (3, .inl v3_6), (4, .inl v4_6)]) (st' := [.inl (v3_6 - 1), .inr (.inr (some 92))]) (h' := gc_h sh I4 J5 A) (C := (((True ∧ True) ∧ True) ∧ True)) rfl ⟨⟨⟨trivial, trivial⟩, trivial⟩, trivial⟩ ?_
          have f29 := (show 0 ≤ I4 92 (Int.toNat (v3_6 - 1)) ∧ I4 92 (Int.toNat (v3_6 - 1)) ≤ 400 from gc_in hI4 R_92 rfl rfl)
          refine gv_iald hD rfl S_92 rfl ⟨by decide, B_92⟩ ⟨by exact gz_m 28 (by omega), by exact gz_m 29 (by omega)⟩ (gc_iI S_92 rfl) ?_
          show gv_X _ _ (56, [(0, .inr (.inr (some 86))), (1, .inr (.inr (some a1))), (3, .inl v3_6), (4, .inl v4_6)], [.inl (I4 92 (Int.toNat (v3_6 - 1)))], sh, gc_h sh I4 J5 A)
          refine gv_run 1 true hD (pc' := 58) (lv' := [(5, .inl (I4 92 (Int.toNat (v3_6 - 1)))), (0, .inr (.inr (some 86))), (1, .inr (.inr (some a1))), (3, .inl v3_6), (4, .inl v4_6)]) (st' := []) (h' := gc_h sh I4 J5 A) (C := (True ∧ True)) rfl ⟨trivial, trivial⟩ ?_
          refine gv_run 2 true hD (pc' := 61) (lv' := [(5, .inl (I4 92 (Int.toNat (v3_6 - 1)))), (0, .inr (.inr (some 86))), (1, .inr (.inr (some a1))), (3, .inl v3_6), (4, .inl v4_6)]) (st' := [.inl (I4 92 (Int.toNat (v3_6 - 1))), .inr (.inr (some a1))]) (h' := gc_h sh I4 J5 A) (C := ((True ∧ True) ∧ True)) rfl ⟨⟨trivial, trivial⟩, trivial⟩ ?_
          have f30 := (show 0 ≤ I4 a1 (Int.toNat ((I4 92 (Int.toNat (v3_6 - 1))))) ∧ I4 a1 (Int.toNat ((I4 92 (Int.toNat (v3_6 - 1))))) ≤ 95 from gc_in hI4 R_a1 rfl rfl)
          refine gv_iald hD rfl S_a1 rfl ⟨by exact gz_m 30 (by omega), B_a1⟩ ⟨by exact gz_m 31 (by omega), by exact gz_m 32 (by omega)⟩ (gc_iI S_a1 rfl) ?_
          show gv_X _ _ (62, [(5, .inl (I4 92 (Int.toNat (v3_6 - 1)))), (0, .inr (.inr (some 86))), (1, .inr (.inr (some a1))), (3, .inl v3_6), (4, .inl v4_6)], [.inl (I4 a1 (Int.toNat ((I4 92 (Int.toNat (v3_6 - 1))))))], sh, gc_h sh I4 J5 A)
          refine gv_run 2 true hD (pc' := 65) (lv' := [(6, .inl (I4 a1 (Int.toNat ((I4 92 (Int.toNat (v3_6 - 1))))))), (5, .inl (I4 92 (Int.toNat (v3_6 - 1)))), (0, .inr (.inr (some 86))), (1, .inr (.inr (some a1))), (3, .inl v3_6), (4, .inl v4_6)]) (st' := [.inr (.inr (some 86))]) (h' := gc_h sh I4 J5 A) (C := ((True ∧ True) ∧ True)) rfl ⟨⟨trivial, trivial⟩, trivial⟩ ?_
          refine gv_get hD rfl rfl S_86 ⟨by decide, B_86⟩ (gc_hA S_86 rfl A_86_8) ?_
          show gv_X _ _ (68, [(6, .inl (I4 a1 (Int.toNat ((I4 92 (Int.toNat (v3_6 - 1))))))), (5, .inl (I4 92 (Int.toNat (v3_6 - 1)))), (0, .inr (.inr (some 86))), (1, .inr (.inr (some a1))), (3, .inl v3_6), (4, .inl v4_6)], [.inr (.inr (some 93))], sh, gc_h sh I4 J5 A)
          refine gv_run 4 true hD (pc' := 72) (lv' := [(6, .inl (I4 a1 (Int.toNat ((I4 92 (Int.toNat (v3_6 - 1))))))), (5, .inl (I4 92 (Int.toNat (v3_6 - 1)))), (0, .inr (.inr (some 86))), (1, .inr (.inr (some a1))), (3, .inl v3_6), (4, .inl v4_6)]) (st' := [.inl (v3_6 - 1), .inr (.inr (some 93)), .inl (v3_6 - 1), .inr (.inr (some 93))]) (h' := gc_h sh I4 J5 A) (C := ((((True ∧ True) ∧ True) ∧ True) ∧ True)) rfl ⟨⟨⟨⟨trivial, trivial⟩, trivial⟩, trivial⟩, trivial⟩ ?_
          have f31 := (show 0 ≤ I4 93 (Int.toNat (v3_6 - 1)) ∧ I4 93 (Int.toNat (v3_6 - 1)) ≤ 400 from gc_in hI4 R_93 rfl rfl)
          refine gv_iald hD rfl S_93 rfl ⟨by decide, B_93⟩ ⟨by exact gz_m 33 (by omega), by exact gz_m 34 (by omega)⟩ (gc_iI S_93 rfl) ?_
          show gv_X _ _ (73, [(6, .inl (I4 a1 (Int.toNat ((I4 92 (Int.toNat (v3_6 - 1))))))), (5, .inl (I4 92 (Int.toNat (v3_6 - 1)))), (0, .inr (.inr (some 86))), (1, .inr (.inr (some a1))), (3, .inl v3_6), (4, .inl v4_6)], [.inl (I4 93 (Int.toNat (v3_6 - 1))), .inl (v3_6 - 1), .inr (.inr (some 93))], sh, gc_h sh I4 J5 A)
          refine gv_run 3 true hD (pc' := 76) (lv' := [(6, .inl (I4 a1 (Int.toNat ((I4 92 (Int.toNat (v3_6 - 1))))))), (5, .inl (I4 92 (Int.toNat (v3_6 - 1)))), (0, .inr (.inr (some 86))), (1, .inr (.inr (some a1))), (3, .inl v3_6), (4, .inl v4_6)]) (st' := [.inl ((I4 93 (Int.toNat (v3_6 - 1))) + 1), .inl (v3_6 - 1), .inr (.inr (some 93)), .inl (I4 93 (Int.toNat (v3_6 - 1)))]) (h' := gc_h sh I4 J5 A) (C := (((True ∧ True) ∧ True) ∧ True)) rfl ⟨⟨⟨trivial, trivial⟩, trivial⟩, trivial⟩ ?_
          refine gv_iast hD rfl S_93 ⟨by decide, B_93⟩ ⟨by exact gz_m 35 (by omega), by exact gz_m 36 (by omega)⟩ ?_
          refine gc_st hI4 S_93 rfl R_93 (lo := 0) (hi := 400) rfl rfl (by exact gz_m 37 (by omega)) (by exact gz_m 38 (by omega)) (fun I32 hI32 q33 p33 => ?_)
          have FI32 := gc_frs (W := fun q j => q = o ∨ (q = 86 ∧ j = 1) ∨ q = 91 ∨ q = 22 ∨ q = 92 ∨ q = 93) FI4 (Or.inr (Or.inr (Or.inr (Or.inr (Or.inr rfl))))) p33
          have t34 := p33 86 1 (fun h => absurd h.1 (by decide))
          have t35 := p33 86 2 (fun h => absurd h.1 (by decide))
          have t36 := p33 86 4 (fun h => absurd h.1 (by decide))
          show gv_X _ _ (77, [(6, .inl (I4 a1 (Int.toNat ((I4 92 (Int.toNat (v3_6 - 1))))))), (5, .inl (I4 92 (Int.toNat (v3_6 - 1)))), (0, .inr (.inr (some 86))), (1, .inr (.inr (some a1))), (3, .inl v3_6), (4, .inl v4_6)], [.inl (I4 93 (Int.toNat (v3_6 - 1)))], sh, gc_h sh I32 J5 A)
          refine gv_run 1 true hD (pc' := 79) (lv' := [(7, .inl (I4 93 (Int.toNat (v3_6 - 1)))), (6, .inl (I4 a1 (Int.toNat ((I4 92 (Int.toNat (v3_6 - 1))))))), (5, .inl (I4 92 (Int.toNat (v3_6 - 1)))), (0, .inr (.inr (some 86))), (1, .inr (.inr (some a1))), (3, .inl v3_6), (4, .inl v4_6)]) (st' := []) (h' := gc_h sh I32 J5 A) (C := (True ∧ True)) rfl ⟨trivial, trivial⟩ ?_
          have t37 := (show ((I4 a1 (Int.toNat ((I4 92 (Int.toNat (v3_6 - 1))))))) = I a1 (Int.toNat (I4 92 (Int.toNat (v3_6 - 1)))) from (FI4 a1 _).resolve_left (by exact gz_m 39 (by omega)))
          have t38 := (show I 15 (Int.toNat ((I4 a1 (Int.toNat ((I4 92 (Int.toNat (v3_6 - 1)))))))) = I 15 (Int.toNat (I a1 (Int.toNat (I4 92 (Int.toNat (v3_6 - 1)))))) from by rw [show ((I4 a1 (Int.toNat ((I4 92 (Int.toNat (v3_6 - 1))))))) = I a1 (Int.toNat (I4 92 (Int.toNat (v3_6 - 1)))) from (FI4 a1 _).resolve_left (by exact gz_m 40 (by omega))])
          have t39 := (FI32 15 (Int.toNat ((I4 a1 (Int.toNat ((I4 92 (Int.toNat (v3_6 - 1))))))))).resolve_left (by exact gz_m 41 (by omega))
          have t40 := gc_SM_at (I0 := I) (I := I4) (T := a1) (v := v3_6) (by exact gz_m 42 (by omega))
          have t41 := gc_SM_nn x6 e0_6 (Int.toNat (v3_6 - 1)) (by exact gz_m 43 (by omega))
          have t42 := gc_N_nn (v := ((I4 93 (Int.toNat (v3_6 - 1))))) (x6 (Int.toNat (I4 92 (Int.toNat (v3_6 - 1)))) (by exact gz_m 44 (by omega))).1 ⟨by exact gz_m 45 (by omega), by exact gz_m 46 (by omega)⟩
          refine gv_run 2 true hD (pc' := 82) (lv' := [(7, .inl (I4 93 (Int.toNat (v3_6 - 1)))), (6, .inl (I4 a1 (Int.toNat ((I4 92 (Int.toNat (v3_6 - 1))))))), (5, .inl (I4 92 (Int.toNat (v3_6 - 1)))), (0, .inr (.inr (some 86))), (1, .inr (.inr (some a1))), (3, .inl v3_6), (4, .inl v4_6)]) (st' := [.inr (.inr (some 86)), .inl (I4 93 (Int.toNat (v3_6 - 1)))]) (h' := gc_h sh I32 J5 A) (C := ((True ∧ True) ∧ True)) rfl ⟨⟨trivial, trivial⟩, trivial⟩ ?_
          refine gv_get hD rfl rfl S_86 ⟨by decide, B_86⟩ (gc_hA S_86 rfl A_86_0) ?_
          show gv_X _ _ (85, [(7, .inl (I4 93 (Int.toNat (v3_6 - 1)))), (6, .inl (I4 a1 (Int.toNat ((I4 92 (Int.toNat (v3_6 - 1))))))), (5, .inl (I4 92 (Int.toNat (v3_6 - 1)))), (0, .inr (.inr (some 86))), (1, .inr (.inr (some a1))), (3, .inl v3_6), (4, .inl v4_6)], [.inr (.inr (some 1)), .inl (I4 93 (Int.toNat (v3_6 - 1)))], sh, gc_h sh I32 J5 A)
          refine gv_get hD rfl rfl S_1 ⟨by decide, B_1⟩ (gc_hA S_1 rfl A_1_10) ?_
          show gv_X _ _ (88, [(7, .inl (I4 93 (Int.toNat (v3_6 - 1)))), (6, .inl (I4 a1 (Int.toNat ((I4 92 (Int.toNat (v3_6 - 1))))))), (5, .inl (I4 92 (Int.toNat (v3_6 - 1)))), (0, .inr (.inr (some 86))), (1, .inr (.inr (some a1))), (3, .inl v3_6), (4, .inl v4_6)], [.inr (.inr (some 15)), .inl (I4 93 (Int.toNat (v3_6 - 1)))], sh, gc_h sh I32 J5 A)
          refine gv_run 1 true hD (pc' := 90) (lv' := [(7, .inl (I4 93 (Int.toNat (v3_6 - 1)))), (6, .inl (I4 a1 (Int.toNat ((I4 92 (Int.toNat (v3_6 - 1))))))), (5, .inl (I4 92 (Int.toNat (v3_6 - 1)))), (0, .inr (.inr (some 86))), (1, .inr (.inr (some a1))), (3, .inl v3_6), (4, .inl v4_6)]) (st' := [.inl (I4 a1 (Int.toNat ((I4 92 (Int.toNat (v3_6 - 1)))))), .inr (.inr (some 15)), .inl (I4 93 (Int.toNat (v3_6 - 1)))]) (h' := gc_h sh I32 J5 A) (C := (True ∧ True)) rfl ⟨trivial, trivial⟩ ?_
          have f43 := (show 0 ≤ I32 15 (Int.toNat ((I4 a1 (Int.toNat ((I4 92 (Int.toNat (v3_6 - 1)))))))) ∧ I32 15 (Int.toNat ((I4 a1 (Int.toNat ((I4 92 (Int.toNat (v3_6 - 1)))))))) ≤ 40 from gc_in hI32 R_15 rfl rfl)
          refine gv_iald hD rfl S_15 rfl ⟨by decide, B_15⟩ ⟨by exact gz_m 47 (by omega), by exact gz_m 48 (by omega)⟩ (gc_iI S_15 rfl) ?_
          show gv_X _ _ (91, [(7, .inl (I4 93 (Int.toNat (v3_6 - 1)))), (6, .inl (I4 a1 (Int.toNat ((I4 92 (Int.toNat (v3_6 - 1))))))), (5, .inl (I4 92 (Int.toNat (v3_6 - 1)))), (0, .inr (.inr (some 86))), (1, .inr (.inr (some a1))), (3, .inl v3_6), (4, .inl v4_6)], [.inl (I32 15 (Int.toNat ((I4 a1 (Int.toNat ((I4 92 (Int.toNat (v3_6 - 1))))))))), .inl (I4 93 (Int.toNat (v3_6 - 1)))], sh, gc_h sh I32 J5 A)
          refine gv_icmp_lt (t := 100) hD rfl rfl ⟨⟨by exact gz_m 49 (by omega), by exact gz_m 50 (by omega)⟩, ⟨by exact gz_m 51 (by omega), by exact gz_m 52 (by omega)⟩⟩ (fun c44 => ?_) (fun c44 => ?_)
          · show gv_X _ _ (100, [(7, .inl (I4 93 (Int.toNat (v3_6 - 1)))), (6, .inl (I4 a1 (Int.toNat ((I4 92 (Int.toNat (v3_6 - 1))))))), (5, .inl (I4 92 (Int.toNat (v3_6 - 1)))), (0, .inr (.inr (some 86))), (1, .inr (.inr (some a1))), (3, .inl v3_6), (4, .inl v4_6)], [], sh, gc_h sh I32 J5 A)
            refine gv_run 1 true hD (pc' := 101) (lv' := [(7, .inl (I4 93 (Int.toNat (v3_6 - 1)))), (6, .inl (I4 a1 (Int.toNat ((I4 92 (Int.toNat (v3_6 - 1))))))), (5, .inl (I4 92 (Int.toNat (v3_6 - 1)))), (0, .inr (.inr (some 86))), (1, .inr (.inr (some a1))), (3, .inl v3_6), (4, .inl v4_6)]) (st' := [.inr (.inr (some 86))]) (h' := gc_h sh I32 J5 A) (C := (True ∧ True)) rfl ⟨trivial, trivial⟩ ?_
            refine gv_get hD rfl rfl S_86 ⟨by decide, B_86⟩ (gc_hA S_86 rfl A_86_0) ?_
            show gv_X _ _ (104, [(7, .inl (I4 93 (Int.toNat (v3_6 - 1)))), (6, .inl (I4 a1 (Int.toNat ((I4 92 (Int.toNat (v3_6 - 1))))))), (5, .inl (I4 92 (Int.toNat (v3_6 - 1)))), (0, .inr (.inr (some 86))), (1, .inr (.inr (some a1))), (3, .inl v3_6), (4, .inl v4_6)], [.inr (.inr (some 1))], sh, gc_h sh I32 J5 A)
            refine gv_get hD rfl rfl S_1 ⟨by decide, B_1⟩ (gc_hA S_1 rfl A_1_11) ?_
            show gv_X _ _ (107, [(7, .inl (I4 93 (Int.toNat (v3_6 - 1)))), (6, .inl (I4 a1 (Int.toNat ((I4 92 (Int.toNat (v3_6 - 1))))))), (5, .inl (I4 92 (Int.toNat (v3_6 - 1)))), (0, .inr (.inr (some 86))), (1, .inr (.inr (some a1))), (3, .inl v3_6), (4, .inl v4_6)], [.inr (.inr (some 16))], sh, gc_h sh I32 J5 A)
            refine gv_run 5 true hD (pc' := 115) (lv' := [(7, .inl (I4 93 (Int.toNat (v3_6 - 1)))), (6, .inl (I4 a1 (Int.toNat ((I4 92 (Int.toNat (v3_6 - 1))))))), (5, .inl (I4 92 (Int.toNat (v3_6 - 1)))), (0, .inr (.inr (some 86))), (1, .inr (.inr (some a1))), (3, .inl v3_6), (4, .inl v4_6)]) (st' := [.inl (((I4 a1 (Int.toNat ((I4 92 (Int.toNat (v3_6 - 1)))))) * 40) + (I4 93 (Int.toNat (v3_6 - 1)))), .inr (.inr (some 16))]) (h' := gc_h sh I32 J5 A) (C := (((((True ∧ True) ∧ True) ∧ True) ∧ True) ∧ True)) rfl ⟨⟨⟨⟨⟨trivial, trivial⟩, trivial⟩, trivial⟩, trivial⟩, trivial⟩ ?_
            have f45 := (show (-7) ≤ I32 16 (Int.toNat ((((I4 a1 (Int.toNat ((I4 92 (Int.toNat (v3_6 - 1)))))) * 40) + (I4 93 (Int.toNat (v3_6 - 1)))))) ∧ I32 16 (Int.toNat ((((I4 a1 (Int.toNat ((I4 92 (Int.toNat (v3_6 - 1)))))) * 40) + (I4 93 (Int.toNat (v3_6 - 1)))))) ≤ 41 from gc_in hI32 R_16 rfl rfl)
            refine gv_iald hD rfl S_16 rfl ⟨by decide, B_16⟩ ⟨by exact gz_m 53 (by omega), by exact gz_m 54 (by omega)⟩ (gc_iI S_16 rfl) ?_
            show gv_X _ _ (116, [(7, .inl (I4 93 (Int.toNat (v3_6 - 1)))), (6, .inl (I4 a1 (Int.toNat ((I4 92 (Int.toNat (v3_6 - 1))))))), (5, .inl (I4 92 (Int.toNat (v3_6 - 1)))), (0, .inr (.inr (some 86))), (1, .inr (.inr (some a1))), (3, .inl v3_6), (4, .inl v4_6)], [.inl (I32 16 (Int.toNat ((((I4 a1 (Int.toNat ((I4 92 (Int.toNat (v3_6 - 1)))))) * 40) + (I4 93 (Int.toNat (v3_6 - 1)))))))], sh, gc_h sh I32 J5 A)
            have t46 := (show (I32 16 (Int.toNat ((((I4 a1 (Int.toNat ((I4 92 (Int.toNat (v3_6 - 1)))))) * 40) + (I4 93 (Int.toNat (v3_6 - 1))))))) = gc_mf I (Int.toNat (I a1 (Int.toNat (I4 92 (Int.toNat (v3_6 - 1)))))) (Int.toNat ((I4 93 (Int.toNat (v3_6 - 1))))) from by rw [← show ((I4 a1 (Int.toNat ((I4 92 (Int.toNat (v3_6 - 1))))))) = I a1 (Int.toNat (I4 92 (Int.toNat (v3_6 - 1)))) from (FI4 a1 _).resolve_left (by exact gz_m 55 (by omega)), ← gc_mf_at (by exact gz_m 56 (by omega))]; exact (FI32 16 _).resolve_left (by exact gz_m 57 (by omega)))
            have t47 := (x6 (Int.toNat (I4 92 (Int.toNat (v3_6 - 1)))) (by exact gz_m 58 (by omega))).2 (Int.toNat ((I4 93 (Int.toNat (v3_6 - 1))))) (by exact gz_m 59 (by omega))
            have t48 := gc_nwc (gc_mf I (Int.toNat (I a1 (Int.toNat (I4 92 (Int.toNat (v3_6 - 1)))))) (Int.toNat ((I4 93 (Int.toNat (v3_6 - 1))))))
            have t49 := gc_nwc ((I32 16 (Int.toNat ((((I4 a1 (Int.toNat ((I4 92 (Int.toNat (v3_6 - 1)))))) * 40) + (I4 93 (Int.toNat (v3_6 - 1))))))))
            refine gv_run 3 true hD (pc' := 122) (lv' := [(8, .inl (I32 16 (Int.toNat ((((I4 a1 (Int.toNat ((I4 92 (Int.toNat (v3_6 - 1)))))) * 40) + (I4 93 (Int.toNat (v3_6 - 1)))))))), (7, .inl (I4 93 (Int.toNat (v3_6 - 1)))), (6, .inl (I4 a1 (Int.toNat ((I4 92 (Int.toNat (v3_6 - 1))))))), (5, .inl (I4 92 (Int.toNat (v3_6 - 1)))), (0, .inr (.inr (some 86))), (1, .inr (.inr (some a1))), (3, .inl v3_6), (4, .inl v4_6)]) (st' := [.inl (-4), .inl (I32 16 (Int.toNat ((((I4 a1 (Int.toNat ((I4 92 (Int.toNat (v3_6 - 1)))))) * 40) + (I4 93 (Int.toNat (v3_6 - 1)))))))]) (h' := gc_h sh I32 J5 A) (C := (((True ∧ True) ∧ True) ∧ True)) rfl ⟨⟨⟨trivial, trivial⟩, trivial⟩, trivial⟩ ?_
            refine gv_icmp_gt (t := 159) hD rfl rfl ⟨⟨by exact gz_m 60 (by omega), by exact gz_m 61 (by omega)⟩, ⟨by exact gz_m 62 (by omega), by exact gz_m 63 (by omega)⟩⟩ (fun c50 => ?_) (fun c50 => ?_)
            · show gv_X _ _ (159, [(8, .inl (I32 16 (Int.toNat ((((I4 a1 (Int.toNat ((I4 92 (Int.toNat (v3_6 - 1)))))) * 40) + (I4 93 (Int.toNat (v3_6 - 1)))))))), (7, .inl (I4 93 (Int.toNat (v3_6 - 1)))), (6, .inl (I4 a1 (Int.toNat ((I4 92 (Int.toNat (v3_6 - 1))))))), (5, .inl (I4 92 (Int.toNat (v3_6 - 1)))), (0, .inr (.inr (some 86))), (1, .inr (.inr (some a1))), (3, .inl v3_6), (4, .inl v4_6)], [], sh, gc_h sh I32 J5 A)
              refine gv_run 1 true hD (pc' := 160) (lv' := [(8, .inl (I32 16 (Int.toNat ((((I4 a1 (Int.toNat ((I4 92 (Int.toNat (v3_6 - 1)))))) * 40) + (I4 93 (Int.toNat (v3_6 - 1)))))))), (7, .inl (I4 93 (Int.toNat (v3_6 - 1)))), (6, .inl (I4 a1 (Int.toNat ((I4 92 (Int.toNat (v3_6 - 1))))))), (5, .inl (I4 92 (Int.toNat (v3_6 - 1)))), (0, .inr (.inr (some 86))), (1, .inr (.inr (some a1))), (3, .inl v3_6), (4, .inl v4_6)]) (st' := [.inr (.inr (some 86))]) (h' := gc_h sh I32 J5 A) (C := (True ∧ True)) rfl ⟨trivial, trivial⟩ ?_
              have f51 := (show 0 ≤ I32 86 1 ∧ I32 86 1 ≤ 300 from gc_in hI32 R_86 rfl rfl)
              refine gv_get hD rfl rfl S_86 ⟨by decide, B_86⟩ (gc_hI S_86 rfl) ?_
              show gv_X _ _ (163, [(8, .inl (I32 16 (Int.toNat ((((I4 a1 (Int.toNat ((I4 92 (Int.toNat (v3_6 - 1)))))) * 40) + (I4 93 (Int.toNat (v3_6 - 1)))))))), (7, .inl (I4 93 (Int.toNat (v3_6 - 1)))), (6, .inl (I4 a1 (Int.toNat ((I4 92 (Int.toNat (v3_6 - 1))))))), (5, .inl (I4 92 (Int.toNat (v3_6 - 1)))), (0, .inr (.inr (some 86))), (1, .inr (.inr (some a1))), (3, .inl v3_6), (4, .inl v4_6)], [.inl (I32 86 1)], sh, gc_h sh I32 J5 A)
              refine gv_run 1 true hD (pc' := 166) (lv' := [(8, .inl (I32 16 (Int.toNat ((((I4 a1 (Int.toNat ((I4 92 (Int.toNat (v3_6 - 1)))))) * 40) + (I4 93 (Int.toNat (v3_6 - 1)))))))), (7, .inl (I4 93 (Int.toNat (v3_6 - 1)))), (6, .inl (I4 a1 (Int.toNat ((I4 92 (Int.toNat (v3_6 - 1))))))), (5, .inl (I4 92 (Int.toNat (v3_6 - 1)))), (0, .inr (.inr (some 86))), (1, .inr (.inr (some a1))), (3, .inl v3_6), (4, .inl v4_6)]) (st' := [.inl 300, .inl (I32 86 1)]) (h' := gc_h sh I32 J5 A) (C := (True ∧ True)) rfl ⟨trivial, trivial⟩ ?_
              refine gv_icmp_ne (t := 171) hD rfl rfl ⟨⟨by exact gz_m 64 (by omega), by exact gz_m 65 (by omega)⟩, ⟨by exact gz_m 66 (by omega), by exact gz_m 67 (by omega)⟩⟩ (fun c52 => ?_) (fun c52 => ?_)
              · show gv_X _ _ (171, [(8, .inl (I32 16 (Int.toNat ((((I4 a1 (Int.toNat ((I4 92 (Int.toNat (v3_6 - 1)))))) * 40) + (I4 93 (Int.toNat (v3_6 - 1)))))))), (7, .inl (I4 93 (Int.toNat (v3_6 - 1)))), (6, .inl (I4 a1 (Int.toNat ((I4 92 (Int.toNat (v3_6 - 1))))))), (5, .inl (I4 92 (Int.toNat (v3_6 - 1)))), (0, .inr (.inr (some 86))), (1, .inr (.inr (some a1))), (3, .inl v3_6), (4, .inl v4_6)], [], sh, gc_h sh I32 J5 A)
                refine gv_run 1 true hD (pc' := 172) (lv' := [(8, .inl (I32 16 (Int.toNat ((((I4 a1 (Int.toNat ((I4 92 (Int.toNat (v3_6 - 1)))))) * 40) + (I4 93 (Int.toNat (v3_6 - 1)))))))), (7, .inl (I4 93 (Int.toNat (v3_6 - 1)))), (6, .inl (I4 a1 (Int.toNat ((I4 92 (Int.toNat (v3_6 - 1))))))), (5, .inl (I4 92 (Int.toNat (v3_6 - 1)))), (0, .inr (.inr (some 86))), (1, .inr (.inr (some a1))), (3, .inl v3_6), (4, .inl v4_6)]) (st' := [.inr (.inr (some 86))]) (h' := gc_h sh I32 J5 A) (C := (True ∧ True)) rfl ⟨trivial, trivial⟩ ?_
                refine gv_get hD rfl rfl S_86 ⟨by decide, B_86⟩ (gc_hS (n := 1001) (q := o) S_86 rfl (by exact gz_m 68 (by omega))) ?_
                show gv_X _ _ (175, [(8, .inl (I32 16 (Int.toNat ((((I4 a1 (Int.toNat ((I4 92 (Int.toNat (v3_6 - 1)))))) * 40) + (I4 93 (Int.toNat (v3_6 - 1)))))))), (7, .inl (I4 93 (Int.toNat (v3_6 - 1)))), (6, .inl (I4 a1 (Int.toNat ((I4 92 (Int.toNat (v3_6 - 1))))))), (5, .inl (I4 92 (Int.toNat (v3_6 - 1)))), (0, .inr (.inr (some 86))), (1, .inr (.inr (some a1))), (3, .inl v3_6), (4, .inl v4_6)], [.inr (.inr (some o))], sh, gc_h sh I32 J5 A)
                refine gv_run 1 true hD (pc' := 176) (lv' := [(8, .inl (I32 16 (Int.toNat ((((I4 a1 (Int.toNat ((I4 92 (Int.toNat (v3_6 - 1)))))) * 40) + (I4 93 (Int.toNat (v3_6 - 1)))))))), (7, .inl (I4 93 (Int.toNat (v3_6 - 1)))), (6, .inl (I4 a1 (Int.toNat ((I4 92 (Int.toNat (v3_6 - 1))))))), (5, .inl (I4 92 (Int.toNat (v3_6 - 1)))), (0, .inr (.inr (some 86))), (1, .inr (.inr (some a1))), (3, .inl v3_6), (4, .inl v4_6)]) (st' := [.inr (.inr (some 86)), .inr (.inr (some o))]) (h' := gc_h sh I32 J5 A) (C := (True ∧ True)) rfl ⟨trivial, trivial⟩ ?_
                have f53 := (show 0 ≤ I32 86 1 ∧ I32 86 1 ≤ 300 from gc_in hI32 R_86 rfl rfl)
                refine gv_get hD rfl rfl S_86 ⟨by decide, B_86⟩ (gc_hI S_86 rfl) ?_
                show gv_X _ _ (179, [(8, .inl (I32 16 (Int.toNat ((((I4 a1 (Int.toNat ((I4 92 (Int.toNat (v3_6 - 1)))))) * 40) + (I4 93 (Int.toNat (v3_6 - 1)))))))), (7, .inl (I4 93 (Int.toNat (v3_6 - 1)))), (6, .inl (I4 a1 (Int.toNat ((I4 92 (Int.toNat (v3_6 - 1))))))), (5, .inl (I4 92 (Int.toNat (v3_6 - 1)))), (0, .inr (.inr (some 86))), (1, .inr (.inr (some a1))), (3, .inl v3_6), (4, .inl v4_6)], [.inl (I32 86 1), .inr (.inr (some o))], sh, gc_h sh I32 J5 A)
                refine gv_run 1 true hD (pc' := 181) (lv' := [(8, .inl (I32 16 (Int.toNat ((((I4 a1 (Int.toNat ((I4 92 (Int.toNat (v3_6 - 1)))))) * 40) + (I4 93 (Int.toNat (v3_6 - 1)))))))), (7, .inl (I4 93 (Int.toNat (v3_6 - 1)))), (6, .inl (I4 a1 (Int.toNat ((I4 92 (Int.toNat (v3_6 - 1))))))), (5, .inl (I4 92 (Int.toNat (v3_6 - 1)))), (0, .inr (.inr (some 86))), (1, .inr (.inr (some a1))), (3, .inl v3_6), (4, .inl v4_6)]) (st' := [.inl (I32 16 (Int.toNat ((((I4 a1 (Int.toNat ((I4 92 (Int.toNat (v3_6 - 1)))))) * 40) + (I4 93 (Int.toNat (v3_6 - 1))))))), .inl (I32 86 1), .inr (.inr (some o))]) (h' := gc_h sh I32 J5 A) (C := (True ∧ True)) rfl ⟨trivial, trivial⟩ ?_
                refine gv_iast hD rfl S_o ⟨by decide, B_o⟩ ⟨by exact gz_m 69 (by omega), by exact gz_m 70 (by omega)⟩ ?_
                refine gc_st hI32 S_o rfl R_o (lo := (-3)) (hi := 1000000) rfl rfl (by exact gz_m 71 (by omega)) (by exact gz_m 72 (by omega)) (fun I54 hI54 q55 p55 => ?_)
                have FI54 := gc_frs (W := fun q j => q = o ∨ (q = 86 ∧ j = 1) ∨ q = 91 ∨ q = 22 ∨ q = 92 ∨ q = 93) FI32 (Or.inl rfl) p55
                have t56 := p55 86 1 (fun h => absurd h.1 N_86__o)
                have t57 := p55 86 2 (fun h => absurd h.1 N_86__o)
                have t58 := p55 86 4 (fun h => absurd h.1 N_86__o)
                show gv_X _ _ (182, [(8, .inl (I32 16 (Int.toNat ((((I4 a1 (Int.toNat ((I4 92 (Int.toNat (v3_6 - 1)))))) * 40) + (I4 93 (Int.toNat (v3_6 - 1)))))))), (7, .inl (I4 93 (Int.toNat (v3_6 - 1)))), (6, .inl (I4 a1 (Int.toNat ((I4 92 (Int.toNat (v3_6 - 1))))))), (5, .inl (I4 92 (Int.toNat (v3_6 - 1)))), (0, .inr (.inr (some 86))), (1, .inr (.inr (some a1))), (3, .inl v3_6), (4, .inl v4_6)], [], sh, gc_h sh I54 J5 A)
                refine gv_run 1 true hD (pc' := 183) (lv' := [(8, .inl (I32 16 (Int.toNat ((((I4 a1 (Int.toNat ((I4 92 (Int.toNat (v3_6 - 1)))))) * 40) + (I4 93 (Int.toNat (v3_6 - 1)))))))), (7, .inl (I4 93 (Int.toNat (v3_6 - 1)))), (6, .inl (I4 a1 (Int.toNat ((I4 92 (Int.toNat (v3_6 - 1))))))), (5, .inl (I4 92 (Int.toNat (v3_6 - 1)))), (0, .inr (.inr (some 86))), (1, .inr (.inr (some a1))), (3, .inl v3_6), (4, .inl v4_6)]) (st' := [.inr (.inr (some 86))]) (h' := gc_h sh I54 J5 A) (C := (True ∧ True)) rfl ⟨trivial, trivial⟩ ?_
                have f60 := (show 0 ≤ I54 86 3 ∧ I54 86 3 ≤ 1 from gc_in hI54 R_86 rfl rfl)
                obtain ⟨f59_, hq_f59_, S_f59, R_f59, B_f59, D_f59⟩ := gc_sw (p := 86) (d := 2) (s := 2) (z := I54 86 3) (show 0 ≤ I54 86 3 ∧ I54 86 3 ≤ 1 from gc_in hI54 R_86 rfl rfl) S_88 R_88 B_88 S_90 R_90 B_90
                refine gv_get hD rfl rfl S_86 ⟨by decide, B_86⟩ (gc_hS (n := 1002) S_86 rfl hq_f59_) ?_
                show gv_X _ _ (186, [(8, .inl (I32 16 (Int.toNat ((((I4 a1 (Int.toNat ((I4 92 (Int.toNat (v3_6 - 1)))))) * 40) + (I4 93 (Int.toNat (v3_6 - 1)))))))), (7, .inl (I4 93 (Int.toNat (v3_6 - 1)))), (6, .inl (I4 a1 (Int.toNat ((I4 92 (Int.toNat (v3_6 - 1))))))), (5, .inl (I4 92 (Int.toNat (v3_6 - 1)))), (0, .inr (.inr (some 86))), (1, .inr (.inr (some a1))), (3, .inl v3_6), (4, .inl v4_6)], [.inr (.inr (some f59_))], sh, gc_h sh I54 J5 A)
                refine gv_run 2 true hD (pc' := 188) (lv' := [(8, .inl (I32 16 (Int.toNat ((((I4 a1 (Int.toNat ((I4 92 (Int.toNat (v3_6 - 1)))))) * 40) + (I4 93 (Int.toNat (v3_6 - 1)))))))), (7, .inl (I4 93 (Int.toNat (v3_6 - 1)))), (6, .inl (I4 a1 (Int.toNat ((I4 92 (Int.toNat (v3_6 - 1))))))), (5, .inl (I4 92 (Int.toNat (v3_6 - 1)))), (0, .inr (.inr (some 86))), (1, .inr (.inr (some a1))), (3, .inl v3_6), (4, .inl v4_6)]) (st' := [.inr (.inr (some 86)), .inr (.inr (some 86)), .inr (.inr (some f59_))]) (h' := gc_h sh I54 J5 A) (C := ((True ∧ True) ∧ True)) rfl ⟨⟨trivial, trivial⟩, trivial⟩ ?_
                have f61 := (show 0 ≤ I54 86 1 ∧ I54 86 1 ≤ 300 from gc_in hI54 R_86 rfl rfl)
                refine gv_get hD rfl rfl S_86 ⟨by decide, B_86⟩ (gc_hI S_86 rfl) ?_
                show gv_X _ _ (191, [(8, .inl (I32 16 (Int.toNat ((((I4 a1 (Int.toNat ((I4 92 (Int.toNat (v3_6 - 1)))))) * 40) + (I4 93 (Int.toNat (v3_6 - 1)))))))), (7, .inl (I4 93 (Int.toNat (v3_6 - 1)))), (6, .inl (I4 a1 (Int.toNat ((I4 92 (Int.toNat (v3_6 - 1))))))), (5, .inl (I4 92 (Int.toNat (v3_6 - 1)))), (0, .inr (.inr (some 86))), (1, .inr (.inr (some a1))), (3, .inl v3_6), (4, .inl v4_6)], [.inl (I54 86 1), .inr (.inr (some 86)), .inr (.inr (some f59_))], sh, gc_h sh I54 J5 A)
                refine gv_run 3 true hD (pc' := 194) (lv' := [(8, .inl (I32 16 (Int.toNat ((((I4 a1 (Int.toNat ((I4 92 (Int.toNat (v3_6 - 1)))))) * 40) + (I4 93 (Int.toNat (v3_6 - 1)))))))), (7, .inl (I4 93 (Int.toNat (v3_6 - 1)))), (6, .inl (I4 a1 (Int.toNat ((I4 92 (Int.toNat (v3_6 - 1))))))), (5, .inl (I4 92 (Int.toNat (v3_6 - 1)))), (0, .inr (.inr (some 86))), (1, .inr (.inr (some a1))), (3, .inl v3_6), (4, .inl v4_6)]) (st' := [.inl ((I54 86 1) + 1), .inr (.inr (some 86)), .inl (I54 86 1), .inr (.inr (some f59_))]) (h' := gc_h sh I54 J5 A) (C := (((True ∧ True) ∧ True) ∧ True)) rfl ⟨⟨⟨trivial, trivial⟩, trivial⟩, trivial⟩ ?_
                refine gv_put hD rfl rfl S_86 ⟨by decide, B_86⟩ rfl trivial ?_
                refine gc_st (k := 1) hI54 S_86 rfl R_86 (lo := 0) (hi := 300) rfl rfl (by exact gz_m 73 (by omega)) (by exact gz_m 74 (by omega)) (fun I62 hI62 q63 p63 => ?_)
                have FI62 := gc_frs (W := fun q j => q = o ∨ (q = 86 ∧ j = 1) ∨ q = 91 ∨ q = 22 ∨ q = 92 ∨ q = 93) FI54 (Or.inr (Or.inl ⟨rfl, rfl⟩)) p63
                have t64 := p63 86 2 (fun h => absurd h.2 (by decide))
                have t65 := p63 86 4 (fun h => absurd h.2 (by decide))
                have f66 := (show 0 ≤ I62 86 1 ∧ I62 86 1 ≤ 300 from gc_in hI62 R_86 rfl rfl)
                show gv_X _ _ (197, [(8, .inl (I32 16 (Int.toNat ((((I4 a1 (Int.toNat ((I4 92 (Int.toNat (v3_6 - 1)))))) * 40) + (I4 93 (Int.toNat (v3_6 - 1)))))))), (7, .inl (I4 93 (Int.toNat (v3_6 - 1)))), (6, .inl (I4 a1 (Int.toNat ((I4 92 (Int.toNat (v3_6 - 1))))))), (5, .inl (I4 92 (Int.toNat (v3_6 - 1)))), (0, .inr (.inr (some 86))), (1, .inr (.inr (some a1))), (3, .inl v3_6), (4, .inl v4_6)], [.inl (I54 86 1), .inr (.inr (some f59_))], sh, gc_h sh I62 J5 A)
                refine gv_run 1 true hD (pc' := 198) (lv' := [(8, .inl (I32 16 (Int.toNat ((((I4 a1 (Int.toNat ((I4 92 (Int.toNat (v3_6 - 1)))))) * 40) + (I4 93 (Int.toNat (v3_6 - 1)))))))), (7, .inl (I4 93 (Int.toNat (v3_6 - 1)))), (6, .inl (I4 a1 (Int.toNat ((I4 92 (Int.toNat (v3_6 - 1))))))), (5, .inl (I4 92 (Int.toNat (v3_6 - 1)))), (0, .inr (.inr (some 86))), (1, .inr (.inr (some a1))), (3, .inl v3_6), (4, .inl v4_6)]) (st' := [.inr (.inr (some 86)), .inl (I54 86 1), .inr (.inr (some f59_))]) (h' := gc_h sh I62 J5 A) (C := (True ∧ True)) rfl ⟨trivial, trivial⟩ ?_
                refine gv_get hD rfl rfl S_86 ⟨by decide, B_86⟩ (gc_hA S_86 rfl A_86_0) ?_
                show gv_X _ _ (201, [(8, .inl (I32 16 (Int.toNat ((((I4 a1 (Int.toNat ((I4 92 (Int.toNat (v3_6 - 1)))))) * 40) + (I4 93 (Int.toNat (v3_6 - 1)))))))), (7, .inl (I4 93 (Int.toNat (v3_6 - 1)))), (6, .inl (I4 a1 (Int.toNat ((I4 92 (Int.toNat (v3_6 - 1))))))), (5, .inl (I4 92 (Int.toNat (v3_6 - 1)))), (0, .inr (.inr (some 86))), (1, .inr (.inr (some a1))), (3, .inl v3_6), (4, .inl v4_6)], [.inr (.inr (some 1)), .inl (I54 86 1), .inr (.inr (some f59_))], sh, gc_h sh I62 J5 A)
                refine gv_get hD rfl rfl S_1 ⟨by decide, B_1⟩ (gc_hA S_1 rfl A_1_12) ?_
                show gv_X _ _ (204, [(8, .inl (I32 16 (Int.toNat ((((I4 a1 (Int.toNat ((I4 92 (Int.toNat (v3_6 - 1)))))) * 40) + (I4 93 (Int.toNat (v3_6 - 1)))))))), (7, .inl (I4 93 (Int.toNat (v3_6 - 1)))), (6, .inl (I4 a1 (Int.toNat ((I4 92 (Int.toNat (v3_6 - 1))))))), (5, .inl (I4 92 (Int.toNat (v3_6 - 1)))), (0, .inr (.inr (some 86))), (1, .inr (.inr (some a1))), (3, .inl v3_6), (4, .inl v4_6)], [.inr (.inr (some 17)), .inl (I54 86 1), .inr (.inr (some f59_))], sh, gc_h sh I62 J5 A)
                refine gv_run 5 true hD (pc' := 212) (lv' := [(8, .inl (I32 16 (Int.toNat ((((I4 a1 (Int.toNat ((I4 92 (Int.toNat (v3_6 - 1)))))) * 40) + (I4 93 (Int.toNat (v3_6 - 1)))))))), (7, .inl (I4 93 (Int.toNat (v3_6 - 1)))), (6, .inl (I4 a1 (Int.toNat ((I4 92 (Int.toNat (v3_6 - 1))))))), (5, .inl (I4 92 (Int.toNat (v3_6 - 1)))), (0, .inr (.inr (some 86))), (1, .inr (.inr (some a1))), (3, .inl v3_6), (4, .inl v4_6)]) (st' := [.inl (((I4 a1 (Int.toNat ((I4 92 (Int.toNat (v3_6 - 1)))))) * 40) + (I4 93 (Int.toNat (v3_6 - 1)))), .inr (.inr (some 17)), .inl (I54 86 1), .inr (.inr (some f59_))]) (h' := gc_h sh I62 J5 A) (C := (((((True ∧ True) ∧ True) ∧ True) ∧ True) ∧ True)) rfl ⟨⟨⟨⟨⟨trivial, trivial⟩, trivial⟩, trivial⟩, trivial⟩, trivial⟩ ?_
                refine gv_lald hD rfl S_17 rfl ⟨by decide, B_17⟩ ⟨by exact gz_m 75 (by omega), by exact gz_m 76 (by omega)⟩ (gc_jJ S_17 rfl) ?_
                show gv_X _ _ (213, [(8, .inl (I32 16 (Int.toNat ((((I4 a1 (Int.toNat ((I4 92 (Int.toNat (v3_6 - 1)))))) * 40) + (I4 93 (Int.toNat (v3_6 - 1)))))))), (7, .inl (I4 93 (Int.toNat (v3_6 - 1)))), (6, .inl (I4 a1 (Int.toNat ((I4 92 (Int.toNat (v3_6 - 1))))))), (5, .inl (I4 92 (Int.toNat (v3_6 - 1)))), (0, .inr (.inr (some 86))), (1, .inr (.inr (some a1))), (3, .inl v3_6), (4, .inl v4_6)], [.inr (.inl (J5 17 (Int.toNat ((((I4 a1 (Int.toNat ((I4 92 (Int.toNat (v3_6 - 1)))))) * 40) + (I4 93 (Int.toNat (v3_6 - 1)))))))), .inl (I54 86 1), .inr (.inr (some f59_))], sh, gc_h sh I62 J5 A)
                refine gv_last hD rfl S_f59 ⟨by decide, B_f59⟩ ⟨by exact gz_m 77 (by omega), by exact gz_m 78 (by omega)⟩ ?_
                refine gc_stJ S_f59 rfl (fun J67 q68 p68 => ?_)
                have FJ67 := gc_frs (W := fun q j => q = 88 ∨ q = 90) FJ5 (show f59_ = 88 ∨ f59_ = 90 from by exact gz_m 79 (by omega)) p68
                show gv_X _ _ (214, [(8, .inl (I32 16 (Int.toNat ((((I4 a1 (Int.toNat ((I4 92 (Int.toNat (v3_6 - 1)))))) * 40) + (I4 93 (Int.toNat (v3_6 - 1)))))))), (7, .inl (I4 93 (Int.toNat (v3_6 - 1)))), (6, .inl (I4 a1 (Int.toNat ((I4 92 (Int.toNat (v3_6 - 1))))))), (5, .inl (I4 92 (Int.toNat (v3_6 - 1)))), (0, .inr (.inr (some 86))), (1, .inr (.inr (some a1))), (3, .inl v3_6), (4, .inl v4_6)], [], sh, gc_h sh I62 J67 A)
                refine gv_pick [4, 5, 6, 7] rfl ?_
                exact L214 I62 J67 v3_6 hI62 FI62 FJ67 (by exact gz_m 80 (by omega)) (fun k hk => by rw [show I62 92 k = I32 92 k from ((p63 92 k (fun h => absurd h.1 (by exact gz_m 81 (by omega)))).trans (p55 92 k (fun h => absurd h.1 (by exact gz_m 82 (by omega))))), show I62 93 k = I32 93 k from ((p63 93 k (fun h => absurd h.1 (by exact gz_m 83 (by omega)))).trans (p55 93 k (fun h => absurd h.1 (by exact gz_m 84 (by omega)))))]; exact (gc_pt_in e0_6 (by exact gz_m 85 (by omega)) p33 q33 (by exact gz_m 86 (by omega))).1 k hk) (by rw [show I62 o = I54 o from funext (fun k => (p63 o k (fun h => absurd h.1 (by exact gz_m 87 (by omega))))), show I62 86 1 = I32 86 1 + 1 from by exact gz_m 88 (by omega)]; exact gc_tg_st (I := I32) (by rw [show I32 o = I4 o from funext (fun k => p33 o k (fun h => absurd h.1 (by exact gz_m 89 (by omega))))]; exact (fun k hk => e1_6 k (by exact gz_m 90 (by omega)))) (by exact gz_m 91 (by omega)) p55 (by rw [show I32 o = I4 o from funext (fun k => p33 o k (fun h => absurd h.1 (by exact gz_m 92 (by omega)))), show I32 86 1 = I4 86 1 from by exact gz_m 93 (by omega)]; exact gz_m 94 (by omega)) (by exact gz_m 95 (by omega))) (by rw [show I62 o = I54 o from funext (fun k => (p63 o k (fun h => absurd h.1 (by exact gz_m 96 (by omega))))), show I62 86 1 = I32 86 1 + 1 from by exact gz_m 97 (by omega), gc_N_st (by exact gz_m 98 (by omega)) p55, q55, show I32 o = I4 o from funext (fun k => p33 o k (fun h => absurd h.1 (by exact gz_m 99 (by omega)))), show I32 86 1 = I4 86 1 from by exact gz_m 100 (by omega), gc_SM_fr (I := I32) (fun k _ => ((p63 92 k (fun h => absurd h.1 (by exact gz_m 101 (by omega)))).trans (p55 92 k (fun h => absurd h.1 (by exact gz_m 102 (by omega)))))) (fun k _ => ((p63 93 k (fun h => absurd h.1 (by exact gz_m 103 (by omega)))).trans (p55 93 k (fun h => absurd h.1 (by exact gz_m 104 (by omega)))))), (gc_pt_in e0_6 (by exact gz_m 105 (by omega)) p33 q33 (by exact gz_m 106 (by omega))).2]; have h9 := e2_6; exact gz_m 107 (by omega)) (gc_cd_fr e3_6 (fun k => (((p63 91 k (fun h => absurd h.1 (by exact gz_m 108 (by omega)))).trans (p55 91 k (fun h => absurd h.1 (by exact gz_m 109 (by omega))))).trans (p33 91 k (fun h => absurd h.1 (by exact gz_m 110 (by omega)))))))
              · show gv_X _ _ (169, [(8, .inl (I32 16 (Int.toNat ((((I4 a1 (Int.toNat ((I4 92 (Int.toNat (v3_6 - 1)))))) * 40) + (I4 93 (Int.toNat (v3_6 - 1)))))))), (7, .inl (I4 93 (Int.toNat (v3_6 - 1)))), (6, .inl (I4 a1 (Int.toNat ((I4 92 (Int.toNat (v3_6 - 1))))))), (5, .inl (I4 92 (Int.toNat (v3_6 - 1)))), (0, .inr (.inr (some 86))), (1, .inr (.inr (some a1))), (3, .inl v3_6), (4, .inl v4_6)], [], sh, gc_h sh I32 J5 A)
                refine gv_run 1 true hD (pc' := 170) (lv' := [(8, .inl (I32 16 (Int.toNat ((((I4 a1 (Int.toNat ((I4 92 (Int.toNat (v3_6 - 1)))))) * 40) + (I4 93 (Int.toNat (v3_6 - 1)))))))), (7, .inl (I4 93 (Int.toNat (v3_6 - 1)))), (6, .inl (I4 a1 (Int.toNat ((I4 92 (Int.toNat (v3_6 - 1))))))), (5, .inl (I4 92 (Int.toNat (v3_6 - 1)))), (0, .inr (.inr (some 86))), (1, .inr (.inr (some a1))), (3, .inl v3_6), (4, .inl v4_6)]) (st' := [.inl 0]) (h' := gc_h sh I32 J5 A) (C := (True ∧ True)) rfl ⟨trivial, trivial⟩ ?_
                exact gv_zret hD rfl (by exact gz_m 111 (by omega)) ⟨I32, J5, rfl, hI32, FI32, FJ5, ⟨_, rfl, by exact gz_m 112 (by omega), by exact gz_m 113 (by omega), (Or.inl rfl), (Or.inl rfl), by exact gz_m 114 (by omega)⟩⟩
            · show gv_X _ _ (125, [(8, .inl (I32 16 (Int.toNat ((((I4 a1 (Int.toNat ((I4 92 (Int.toNat (v3_6 - 1)))))) * 40) + (I4 93 (Int.toNat (v3_6 - 1)))))))), (7, .inl (I4 93 (Int.toNat (v3_6 - 1)))), (6, .inl (I4 a1 (Int.toNat ((I4 92 (Int.toNat (v3_6 - 1))))))), (5, .inl (I4 92 (Int.toNat (v3_6 - 1)))), (0, .inr (.inr (some 86))), (1, .inr (.inr (some a1))), (3, .inl v3_6), (4, .inl v4_6)], [], sh, gc_h sh I32 J5 A)
              refine gv_run 1 true hD (pc' := 126) (lv' := [(8, .inl (I32 16 (Int.toNat ((((I4 a1 (Int.toNat ((I4 92 (Int.toNat (v3_6 - 1)))))) * 40) + (I4 93 (Int.toNat (v3_6 - 1)))))))), (7, .inl (I4 93 (Int.toNat (v3_6 - 1)))), (6, .inl (I4 a1 (Int.toNat ((I4 92 (Int.toNat (v3_6 - 1))))))), (5, .inl (I4 92 (Int.toNat (v3_6 - 1)))), (0, .inr (.inr (some 86))), (1, .inr (.inr (some a1))), (3, .inl v3_6), (4, .inl v4_6)]) (st' := [.inr (.inr (some 86))]) (h' := gc_h sh I32 J5 A) (C := (True ∧ True)) rfl ⟨trivial, trivial⟩ ?_
              refine gv_get hD rfl rfl S_86 ⟨by decide, B_86⟩ (gc_hA S_86 rfl A_86_7) ?_
              show gv_X _ _ (129, [(8, .inl (I32 16 (Int.toNat ((((I4 a1 (Int.toNat ((I4 92 (Int.toNat (v3_6 - 1)))))) * 40) + (I4 93 (Int.toNat (v3_6 - 1)))))))), (7, .inl (I4 93 (Int.toNat (v3_6 - 1)))), (6, .inl (I4 a1 (Int.toNat ((I4 92 (Int.toNat (v3_6 - 1))))))), (5, .inl (I4 92 (Int.toNat (v3_6 - 1)))), (0, .inr (.inr (some 86))), (1, .inr (.inr (some a1))), (3, .inl v3_6), (4, .inl v4_6)], [.inr (.inr (some 92))], sh, gc_h sh I32 J5 A)
              refine gv_run 2 true hD (pc' := 131) (lv' := [(8, .inl (I32 16 (Int.toNat ((((I4 a1 (Int.toNat ((I4 92 (Int.toNat (v3_6 - 1)))))) * 40) + (I4 93 (Int.toNat (v3_6 - 1)))))))), (7, .inl (I4 93 (Int.toNat (v3_6 - 1)))), (6, .inl (I4 a1 (Int.toNat ((I4 92 (Int.toNat (v3_6 - 1))))))), (5, .inl (I4 92 (Int.toNat (v3_6 - 1)))), (0, .inr (.inr (some 86))), (1, .inr (.inr (some a1))), (3, .inl v3_6), (4, .inl v4_6)]) (st' := [.inr (.inr (some 86)), .inl v3_6, .inr (.inr (some 92))]) (h' := gc_h sh I32 J5 A) (C := ((True ∧ True) ∧ True)) rfl ⟨⟨trivial, trivial⟩, trivial⟩ ?_
              refine gv_get hD rfl rfl S_86 ⟨by decide, B_86⟩ (gc_hA S_86 rfl A_86_6) ?_
              show gv_X _ _ (134, [(8, .inl (I32 16 (Int.toNat ((((I4 a1 (Int.toNat ((I4 92 (Int.toNat (v3_6 - 1)))))) * 40) + (I4 93 (Int.toNat (v3_6 - 1)))))))), (7, .inl (I4 93 (Int.toNat (v3_6 - 1)))), (6, .inl (I4 a1 (Int.toNat ((I4 92 (Int.toNat (v3_6 - 1))))))), (5, .inl (I4 92 (Int.toNat (v3_6 - 1)))), (0, .inr (.inr (some 86))), (1, .inr (.inr (some a1))), (3, .inl v3_6), (4, .inl v4_6)], [.inr (.inr (some 91)), .inl v3_6, .inr (.inr (some 92))], sh, gc_h sh I32 J5 A)
              refine gv_run 7 true hD (pc' := 144) (lv' := [(8, .inl (I32 16 (Int.toNat ((((I4 a1 (Int.toNat ((I4 92 (Int.toNat (v3_6 - 1)))))) * 40) + (I4 93 (Int.toNat (v3_6 - 1)))))))), (7, .inl (I4 93 (Int.toNat (v3_6 - 1)))), (6, .inl (I4 a1 (Int.toNat ((I4 92 (Int.toNat (v3_6 - 1))))))), (5, .inl (I4 92 (Int.toNat (v3_6 - 1)))), (0, .inr (.inr (some 86))), (1, .inr (.inr (some a1))), (3, .inl v3_6), (4, .inl v4_6)]) (st' := [.inl ((((I4 92 (Int.toNat (v3_6 - 1))) * 4) + (-4)) - (I32 16 (Int.toNat ((((I4 a1 (Int.toNat ((I4 92 (Int.toNat (v3_6 - 1)))))) * 40) + (I4 93 (Int.toNat (v3_6 - 1)))))))), .inr (.inr (some 91)), .inl v3_6, .inr (.inr (some 92))]) (h' := gc_h sh I32 J5 A) (C := (((((((True ∧ True) ∧ True) ∧ True) ∧ True) ∧ True) ∧ True) ∧ True)) rfl ⟨⟨⟨⟨⟨⟨⟨trivial, trivial⟩, trivial⟩, trivial⟩, trivial⟩, trivial⟩, trivial⟩, trivial⟩ ?_
              have t69 := (show ((I4 92 (Int.toNat (v3_6 - 1)))) < I32 91 (Int.toNat (((((I4 92 (Int.toNat (v3_6 - 1))) * 4) + (-4)) - (I32 16 (Int.toNat ((((I4 a1 (Int.toNat ((I4 92 (Int.toNat (v3_6 - 1)))))) * 40) + (I4 93 (Int.toNat (v3_6 - 1)))))))))) ∧ I32 91 (Int.toNat (((((I4 92 (Int.toNat (v3_6 - 1))) * 4) + (-4)) - (I32 16 (Int.toNat ((((I4 a1 (Int.toNat ((I4 92 (Int.toNat (v3_6 - 1)))))) * 40) + (I4 93 (Int.toNat (v3_6 - 1)))))))))) < a2 from by have h9 := e3_6 (Int.toNat ((I4 92 (Int.toNat (v3_6 - 1))))) (Int.toNat (-4 - ((I32 16 (Int.toNat ((((I4 a1 (Int.toNat ((I4 92 (Int.toNat (v3_6 - 1)))))) * 40) + (I4 93 (Int.toNat (v3_6 - 1)))))))))) (by exact gz_m 115 (by omega)) (by exact gz_m 116 (by omega)) (by rw [show ((Int.toNat ((I4 92 (Int.toNat (v3_6 - 1)))) : Nat)) = Int.toNat ((I4 92 (Int.toNat (v3_6 - 1)))) from rfl]; exact gz_m 117 (by omega)); rw [show 4 * Int.toNat ((I4 92 (Int.toNat (v3_6 - 1)))) + Int.toNat (-4 - ((I32 16 (Int.toNat ((((I4 a1 (Int.toNat ((I4 92 (Int.toNat (v3_6 - 1)))))) * 40) + (I4 93 (Int.toNat (v3_6 - 1))))))))) = Int.toNat (((((I4 92 (Int.toNat (v3_6 - 1))) * 4) + (-4)) - (I32 16 (Int.toNat ((((I4 a1 (Int.toNat ((I4 92 (Int.toNat (v3_6 - 1)))))) * 40) + (I4 93 (Int.toNat (v3_6 - 1))))))))) from by exact gz_m 118 (by omega)] at h9; rw [show I32 91 (Int.toNat (((((I4 92 (Int.toNat (v3_6 - 1))) * 4) + (-4)) - (I32 16 (Int.toNat ((((I4 a1 (Int.toNat ((I4 92 (Int.toNat (v3_6 - 1)))))) * 40) + (I4 93 (Int.toNat (v3_6 - 1)))))))))) = I4 91 (Int.toNat (((((I4 92 (Int.toNat (v3_6 - 1))) * 4) + (-4)) - (I32 16 (Int.toNat ((((I4 a1 (Int.toNat ((I4 92 (Int.toNat (v3_6 - 1)))))) * 40) + (I4 93 (Int.toNat (v3_6 - 1)))))))))) from (p33 91 _ (fun h => absurd h.1 (by exact gz_m 119 (by omega))))]; exact gz_m 120 (by omega))
              have f70 := (show 0 ≤ I32 91 (Int.toNat (((((I4 92 (Int.toNat (v3_6 - 1))) * 4) + (-4)) - (I32 16 (Int.toNat ((((I4 a1 (Int.toNat ((I4 92 (Int.toNat (v3_6 - 1)))))) * 40) + (I4 93 (Int.toNat (v3_6 - 1)))))))))) ∧ I32 91 (Int.toNat (((((I4 92 (Int.toNat (v3_6 - 1))) * 4) + (-4)) - (I32 16 (Int.toNat ((((I4 a1 (Int.toNat ((I4 92 (Int.toNat (v3_6 - 1)))))) * 40) + (I4 93 (Int.toNat (v3_6 - 1)))))))))) ≤ 59 from gc_in hI32 R_91 rfl rfl)
              refine gv_iald hD rfl S_91 rfl ⟨by decide, B_91⟩ ⟨by exact gz_m 121 (by omega), by exact gz_m 122 (by omega)⟩ (gc_iI S_91 rfl) ?_
              show gv_X _ _ (145, [(8, .inl (I32 16 (Int.toNat ((((I4 a1 (Int.toNat ((I4 92 (Int.toNat (v3_6 - 1)))))) * 40) + (I4 93 (Int.toNat (v3_6 - 1)))))))), (7, .inl (I4 93 (Int.toNat (v3_6 - 1)))), (6, .inl (I4 a1 (Int.toNat ((I4 92 (Int.toNat (v3_6 - 1))))))), (5, .inl (I4 92 (Int.toNat (v3_6 - 1)))), (0, .inr (.inr (some 86))), (1, .inr (.inr (some a1))), (3, .inl v3_6), (4, .inl v4_6)], [.inl (I32 91 (Int.toNat (((((I4 92 (Int.toNat (v3_6 - 1))) * 4) + (-4)) - (I32 16 (Int.toNat ((((I4 a1 (Int.toNat ((I4 92 (Int.toNat (v3_6 - 1)))))) * 40) + (I4 93 (Int.toNat (v3_6 - 1))))))))))), .inl v3_6, .inr (.inr (some 92))], sh, gc_h sh I32 J5 A)
              refine gv_iast hD rfl S_92 ⟨by decide, B_92⟩ ⟨by exact gz_m 123 (by omega), by exact gz_m 124 (by omega)⟩ ?_
              refine gc_st hI32 S_92 rfl R_92 (lo := 0) (hi := 400) rfl rfl (by exact gz_m 125 (by omega)) (by exact gz_m 126 (by omega)) (fun I71 hI71 q72 p72 => ?_)
              have FI71 := gc_frs (W := fun q j => q = o ∨ (q = 86 ∧ j = 1) ∨ q = 91 ∨ q = 22 ∨ q = 92 ∨ q = 93) FI32 (Or.inr (Or.inr (Or.inr (Or.inr (Or.inl rfl))))) p72
              have t73 := p72 86 1 (fun h => absurd h.1 (by decide))
              have t74 := p72 86 2 (fun h => absurd h.1 (by decide))
              have t75 := p72 86 4 (fun h => absurd h.1 (by decide))
              show gv_X _ _ (146, [(8, .inl (I32 16 (Int.toNat ((((I4 a1 (Int.toNat ((I4 92 (Int.toNat (v3_6 - 1)))))) * 40) + (I4 93 (Int.toNat (v3_6 - 1)))))))), (7, .inl (I4 93 (Int.toNat (v3_6 - 1)))), (6, .inl (I4 a1 (Int.toNat ((I4 92 (Int.toNat (v3_6 - 1))))))), (5, .inl (I4 92 (Int.toNat (v3_6 - 1)))), (0, .inr (.inr (some 86))), (1, .inr (.inr (some a1))), (3, .inl v3_6), (4, .inl v4_6)], [], sh, gc_h sh I71 J5 A)
              refine gv_run 1 true hD (pc' := 147) (lv' := [(8, .inl (I32 16 (Int.toNat ((((I4 a1 (Int.toNat ((I4 92 (Int.toNat (v3_6 - 1)))))) * 40) + (I4 93 (Int.toNat (v3_6 - 1)))))))), (7, .inl (I4 93 (Int.toNat (v3_6 - 1)))), (6, .inl (I4 a1 (Int.toNat ((I4 92 (Int.toNat (v3_6 - 1))))))), (5, .inl (I4 92 (Int.toNat (v3_6 - 1)))), (0, .inr (.inr (some 86))), (1, .inr (.inr (some a1))), (3, .inl v3_6), (4, .inl v4_6)]) (st' := [.inr (.inr (some 86))]) (h' := gc_h sh I71 J5 A) (C := (True ∧ True)) rfl ⟨trivial, trivial⟩ ?_
              refine gv_get hD rfl rfl S_86 ⟨by decide, B_86⟩ (gc_hA S_86 rfl A_86_8) ?_
              show gv_X _ _ (150, [(8, .inl (I32 16 (Int.toNat ((((I4 a1 (Int.toNat ((I4 92 (Int.toNat (v3_6 - 1)))))) * 40) + (I4 93 (Int.toNat (v3_6 - 1)))))))), (7, .inl (I4 93 (Int.toNat (v3_6 - 1)))), (6, .inl (I4 a1 (Int.toNat ((I4 92 (Int.toNat (v3_6 - 1))))))), (5, .inl (I4 92 (Int.toNat (v3_6 - 1)))), (0, .inr (.inr (some 86))), (1, .inr (.inr (some a1))), (3, .inl v3_6), (4, .inl v4_6)], [.inr (.inr (some 93))], sh, gc_h sh I71 J5 A)
              refine gv_run 2 true hD (pc' := 152) (lv' := [(8, .inl (I32 16 (Int.toNat ((((I4 a1 (Int.toNat ((I4 92 (Int.toNat (v3_6 - 1)))))) * 40) + (I4 93 (Int.toNat (v3_6 - 1)))))))), (7, .inl (I4 93 (Int.toNat (v3_6 - 1)))), (6, .inl (I4 a1 (Int.toNat ((I4 92 (Int.toNat (v3_6 - 1))))))), (5, .inl (I4 92 (Int.toNat (v3_6 - 1)))), (0, .inr (.inr (some 86))), (1, .inr (.inr (some a1))), (3, .inl v3_6), (4, .inl v4_6)]) (st' := [.inl 0, .inl v3_6, .inr (.inr (some 93))]) (h' := gc_h sh I71 J5 A) (C := ((True ∧ True) ∧ True)) rfl ⟨⟨trivial, trivial⟩, trivial⟩ ?_
              refine gv_iast hD rfl S_93 ⟨by decide, B_93⟩ ⟨by exact gz_m 127 (by omega), by exact gz_m 128 (by omega)⟩ ?_
              refine gc_st hI71 S_93 rfl R_93 (lo := 0) (hi := 400) rfl rfl (by exact gz_m 129 (by omega)) (by exact gz_m 130 (by omega)) (fun I76 hI76 q77 p77 => ?_)
              have FI76 := gc_frs (W := fun q j => q = o ∨ (q = 86 ∧ j = 1) ∨ q = 91 ∨ q = 22 ∨ q = 92 ∨ q = 93) FI71 (Or.inr (Or.inr (Or.inr (Or.inr (Or.inr rfl))))) p77
              have t78 := p77 86 1 (fun h => absurd h.1 (by decide))
              have t79 := p77 86 2 (fun h => absurd h.1 (by decide))
              have t80 := p77 86 4 (fun h => absurd h.1 (by decide))
              show gv_X _ _ (153, [(8, .inl (I32 16 (Int.toNat ((((I4 a1 (Int.toNat ((I4 92 (Int.toNat (v3_6 - 1)))))) * 40) + (I4 93 (Int.toNat (v3_6 - 1)))))))), (7, .inl (I4 93 (Int.toNat (v3_6 - 1)))), (6, .inl (I4 a1 (Int.toNat ((I4 92 (Int.toNat (v3_6 - 1))))))), (5, .inl (I4 92 (Int.toNat (v3_6 - 1)))), (0, .inr (.inr (some 86))), (1, .inr (.inr (some a1))), (3, .inl v3_6), (4, .inl v4_6)], [], sh, gc_h sh I76 J5 A)
              refine gv_run 2 true hD (pc' := 214) (lv' := [(3, .inl (v3_6 + 1)), (8, .inl (I32 16 (Int.toNat ((((I4 a1 (Int.toNat ((I4 92 (Int.toNat (v3_6 - 1)))))) * 40) + (I4 93 (Int.toNat (v3_6 - 1)))))))), (7, .inl (I4 93 (Int.toNat (v3_6 - 1)))), (6, .inl (I4 a1 (Int.toNat ((I4 92 (Int.toNat (v3_6 - 1))))))), (5, .inl (I4 92 (Int.toNat (v3_6 - 1)))), (0, .inr (.inr (some 86))), (1, .inr (.inr (some a1))), (4, .inl v4_6)]) (st' := []) (h' := gc_h sh I76 J5 A) (C := ((True ∧ True) ∧ True)) rfl ⟨⟨trivial, trivial⟩, trivial⟩ ?_
              refine gv_pick [5, 6, 0, 7] rfl ?_
              exact L214 I76 J5 (v3_6 + 1) hI76 FI76 FJ5 (by exact gz_m 131 (by omega)) (gc_pt_pu (gc_pt_in e0_6 (by exact gz_m 132 (by omega)) p33 q33 (by exact gz_m 133 (by omega))).1 (by exact gz_m 134 (by omega)) p72 q72 p77 q77 (by exact gz_m 135 (by omega)) (show 0 ≤ I 15 _ ∧ I 15 _ ≤ 40 from gc_in hI R_15 rfl rfl).1).1 (by rw [show I76 o = I4 o from funext (fun k => (((p77 o k (fun h => absurd h.1 (by exact gz_m 136 (by omega)))).trans (p72 o k (fun h => absurd h.1 (by exact gz_m 137 (by omega))))).trans (p33 o k (fun h => absurd h.1 (by exact gz_m 138 (by omega)))))), show I76 86 1 = I4 86 1 from by exact gz_m 139 (by omega)]; exact e1_6) (by rw [show I76 o = I4 o from funext (fun k => (((p77 o k (fun h => absurd h.1 (by exact gz_m 140 (by omega)))).trans (p72 o k (fun h => absurd h.1 (by exact gz_m 141 (by omega))))).trans (p33 o k (fun h => absurd h.1 (by exact gz_m 142 (by omega)))))), show I76 86 1 = I4 86 1 from by exact gz_m 143 (by omega), (gc_pt_pu (gc_pt_in e0_6 (by exact gz_m 144 (by omega)) p33 q33 (by exact gz_m 145 (by omega))).1 (by exact gz_m 146 (by omega)) p72 q72 p77 q77 (by exact gz_m 147 (by omega)) (show 0 ≤ I 15 _ ∧ I 15 _ ≤ 40 from gc_in hI R_15 rfl rfl).1).2, (gc_pt_in e0_6 (by exact gz_m 148 (by omega)) p33 q33 (by exact gz_m 149 (by omega))).2]; have h9 := e2_6; exact gz_m 150 (by omega)) (gc_cd_fr e3_6 (fun k => (((p77 91 k (fun h => absurd h.1 (by exact gz_m 151 (by omega)))).trans (p72 91 k (fun h => absurd h.1 (by exact gz_m 152 (by omega))))).trans (p33 91 k (fun h => absurd h.1 (by exact gz_m 153 (by omega)))))))
          · show gv_X _ _ (94, [(7, .inl (I4 93 (Int.toNat (v3_6 - 1)))), (6, .inl (I4 a1 (Int.toNat ((I4 92 (Int.toNat (v3_6 - 1))))))), (5, .inl (I4 92 (Int.toNat (v3_6 - 1)))), (0, .inr (.inr (some 86))), (1, .inr (.inr (some a1))), (3, .inl v3_6), (4, .inl v4_6)], [], sh, gc_h sh I32 J5 A)
            refine gv_run 2 true hD (pc' := 214) (lv' := [(3, .inl (v3_6 + (-1))), (7, .inl (I4 93 (Int.toNat (v3_6 - 1)))), (6, .inl (I4 a1 (Int.toNat ((I4 92 (Int.toNat (v3_6 - 1))))))), (5, .inl (I4 92 (Int.toNat (v3_6 - 1)))), (0, .inr (.inr (some 86))), (1, .inr (.inr (some a1))), (4, .inl v4_6)]) (st' := []) (h' := gc_h sh I32 J5 A) (C := ((True ∧ True) ∧ True)) rfl ⟨⟨trivial, trivial⟩, trivial⟩ ?_
            refine gv_pick [4, 5, 0, 6] rfl ?_
            exact L214 I32 J5 ((v3_6 + (-1))) hI32 FI32 FJ5 (by exact gz_m 154 (by omega)) (gc_pt_pop e0_6 (by exact gz_m 155 (by omega)) p33).1 (by rw [show I32 o = I4 o from funext (fun k => (p33 o k (fun h => absurd h.1 (by exact gz_m 156 (by omega))))), show I32 86 1 = I4 86 1 from by exact gz_m 157 (by omega)]; exact e1_6) (by rw [show I32 o = I4 o from funext (fun k => (p33 o k (fun h => absurd h.1 (by exact gz_m 158 (by omega))))), show I32 86 1 = I4 86 1 from by exact gz_m 159 (by omega), (gc_pt_pop e0_6 (by exact gz_m 160 (by omega)) p33).2]; have h9 := e2_6; exact gz_m 161 (by omega)) (gc_cd_fr e3_6 (fun k => (p33 91 k (fun h => absurd h.1 (by exact gz_m 162 (by omega))))))
  refine gv_run 1 true hD (pc' := 1) (lv' := [(0, .inr (.inr (some 86))), (1, .inr (.inr (some a1))), (2, .inl a2)]) (st' := [.inr (.inr (some 86))]) (h' := gc_h sh I J A) (C := (True ∧ True)) rfl ⟨trivial, trivial⟩ ?_
  refine gv_get hD rfl rfl S_86 ⟨by decide, B_86⟩ (gc_hA S_86 rfl A_86_0) ?_
  show gv_X _ _ (4, [(0, .inr (.inr (some 86))), (1, .inr (.inr (some a1))), (2, .inl a2)], [.inr (.inr (some 1))], sh, gc_h sh I J A)
  refine gv_run 3 true hD (pc' := 7) (lv' := [(0, .inr (.inr (some 86))), (1, .inr (.inr (some a1))), (2, .inl a2)]) (st' := [.inr (.inr (some 86)), .inl a2, .inr (.inr (some a1)), .inr (.inr (some 1))]) (h' := gc_h sh I J A) (C := (((True ∧ True) ∧ True) ∧ True)) rfl ⟨⟨⟨trivial, trivial⟩, trivial⟩, trivial⟩ ?_
  refine gv_get hD rfl rfl S_86 ⟨by decide, B_86⟩ (gc_hA S_86 rfl A_86_6) ?_
  show gv_X _ _ (10, [(0, .inr (.inr (some 86))), (1, .inr (.inr (some a1))), (2, .inl a2)], [.inr (.inr (some 91)), .inl a2, .inr (.inr (some a1)), .inr (.inr (some 1))], sh, gc_h sh I J A)
  obtain ⟨r81, h81, E81, P81⟩ := d_X8_findChildren_w (ws0 := ws0) (tb := tb) hws htb sh ro I J A hI  m 240 a1 a2 91 hb S_a1 R_a1 B_a1 (by exact gz_m 163 (by omega)) S_91 R_91 B_91 (by decide)  ⟨by exact gz_m 164 (by omega), by exact gz_m 165 (by omega)⟩ x2 (by exact gz_m 166 (by omega)) (by exact gz_m 167 (by omega)) (by exact gz_m 168 (by omega)) (by exact gz_m 169 (by omega)) 
  obtain ⟨I82, J83, rfl, hI82, g81, k81, ⟨rfl, q81⟩⟩ := P81
  have FI82 := gc_frc (W := fun q j => q = o ∨ (q = 86 ∧ j = 1) ∨ q = 91 ∨ q = 22 ∨ q = 92 ∨ q = 93) (V := fun q j => q = 91 ∨ q = 22) FI (fun q j h => (h.elim (fun h => (Or.inr (Or.inr (Or.inl h)))) (fun h => (Or.inr (Or.inr (Or.inr (Or.inl h))))))) g81
  have t84 := (g81 86 1).resolve_left (fun h => h.elim (fun h => absurd h (by decide)) (fun h => absurd h (by decide)))
  have t85 := (g81 86 2).resolve_left (fun h => h.elim (fun h => absurd h (by decide)) (fun h => absurd h (by decide)))
  have t86 := (g81 86 4).resolve_left (fun h => h.elim (fun h => absurd h (by decide)) (fun h => absurd h (by decide)))
  obtain rfl : J = J83 := funext fun q => funext fun j => ((k81 q j).resolve_left id).symm
  refine gv_callV hD rfl (As := [.inr (.inr (some a1)), .inl a2, .inr (.inr (some 91))]) (st := []) rfl B_1 S_1 rfl (gc_lV10 hws rfl) (Nat.le_of_ble_eq_true rfl) (gz_Ev_mono (d := 1) (by decide) E81) ?_
  show gv_X _ _ (13, [(0, .inr (.inr (some 86))), (1, .inr (.inr (some a1))), (2, .inl a2)], [], sh, gc_h sh I82 J A)
  have t87 := (show 1 ≤ a2 from by rcases Int.lt_or_le 0 a2 with h9 | h9; (· exact gz_m 170 (by omega)); (· exfalso; have h8 := x2.2; rw [show Int.toNat a2 = 0 from by exact gz_m 171 (by omega)] at h8; exact absurd (show (1 : Int) = 0 from h8) (by decide)))
  refine gv_run 2 true hD (pc' := 15) (lv' := [(0, .inr (.inr (some 86))), (1, .inr (.inr (some a1))), (2, .inl a2)]) (st' := [.inl 0, .inr (.inr (some 86))]) (h' := gc_h sh I82 J A) (C := ((True ∧ True) ∧ True)) rfl ⟨⟨trivial, trivial⟩, trivial⟩ ?_
  refine gv_put hD rfl rfl S_86 ⟨by decide, B_86⟩ rfl trivial ?_
  refine gc_st (k := 1) hI82 S_86 rfl R_86 (lo := 0) (hi := 300) rfl rfl (by exact gz_m 172 (by omega)) (by exact gz_m 173 (by omega)) (fun I88 hI88 q89 p89 => ?_)
  have FI88 := gc_frs (W := fun q j => q = o ∨ (q = 86 ∧ j = 1) ∨ q = 91 ∨ q = 22 ∨ q = 92 ∨ q = 93) FI82 (Or.inr (Or.inl ⟨rfl, rfl⟩)) p89
  have t90 := p89 86 2 (fun h => absurd h.2 (by decide))
  have t91 := p89 86 4 (fun h => absurd h.2 (by decide))
  have f92 := (show 0 ≤ I88 86 1 ∧ I88 86 1 ≤ 300 from gc_in hI88 R_86 rfl rfl)
  show gv_X _ _ (18, [(0, .inr (.inr (some 86))), (1, .inr (.inr (some a1))), (2, .inl a2)], [], sh, gc_h sh I88 J A)
  refine gv_run 3 true hD (pc' := 21) (lv' := [(3, .inl 1), (0, .inr (.inr (some 86))), (1, .inr (.inr (some a1))), (2, .inl a2)]) (st' := [.inr (.inr (some 86))]) (h' := gc_h sh I88 J A) (C := (((True ∧ True) ∧ True) ∧ True)) rfl ⟨⟨⟨trivial, trivial⟩, trivial⟩, trivial⟩ ?_
  refine gv_get hD rfl rfl S_86 ⟨by decide, B_86⟩ (gc_hA S_86 rfl A_86_7) ?_
  show gv_X _ _ (24, [(3, .inl 1), (0, .inr (.inr (some 86))), (1, .inr (.inr (some a1))), (2, .inl a2)], [.inr (.inr (some 92))], sh, gc_h sh I88 J A)
  refine gv_run 2 true hD (pc' := 26) (lv' := [(3, .inl 1), (0, .inr (.inr (some 86))), (1, .inr (.inr (some a1))), (2, .inl a2)]) (st' := [.inl 0, .inl 0, .inr (.inr (some 92))]) (h' := gc_h sh I88 J A) (C := ((True ∧ True) ∧ True)) rfl ⟨⟨trivial, trivial⟩, trivial⟩ ?_
  refine gv_iast hD rfl S_92 ⟨by decide, B_92⟩ ⟨by exact gz_m 174 (by omega), by exact gz_m 175 (by omega)⟩ ?_
  refine gc_st (k := 0) hI88 S_92 rfl R_92 (lo := 0) (hi := 400) rfl rfl (by exact gz_m 176 (by omega)) (by exact gz_m 177 (by omega)) (fun I93 hI93 q94 p94 => ?_)
  have FI93 := gc_frs (W := fun q j => q = o ∨ (q = 86 ∧ j = 1) ∨ q = 91 ∨ q = 22 ∨ q = 92 ∨ q = 93) FI88 (Or.inr (Or.inr (Or.inr (Or.inr (Or.inl rfl))))) p94
  have t95 := p94 86 1 (fun h => absurd h.2 (by decide))
  have t96 := p94 86 2 (fun h => absurd h.2 (by decide))
  have t97 := p94 86 4 (fun h => absurd h.2 (by decide))
  show gv_X _ _ (27, [(3, .inl 1), (0, .inr (.inr (some 86))), (1, .inr (.inr (some a1))), (2, .inl a2)], [], sh, gc_h sh I93 J A)
  refine gv_run 1 true hD (pc' := 28) (lv' := [(3, .inl 1), (0, .inr (.inr (some 86))), (1, .inr (.inr (some a1))), (2, .inl a2)]) (st' := [.inr (.inr (some 86))]) (h' := gc_h sh I93 J A) (C := (True ∧ True)) rfl ⟨trivial, trivial⟩ ?_
  refine gv_get hD rfl rfl S_86 ⟨by decide, B_86⟩ (gc_hA S_86 rfl A_86_8) ?_
  show gv_X _ _ (31, [(3, .inl 1), (0, .inr (.inr (some 86))), (1, .inr (.inr (some a1))), (2, .inl a2)], [.inr (.inr (some 93))], sh, gc_h sh I93 J A)
  refine gv_run 2 true hD (pc' := 33) (lv' := [(3, .inl 1), (0, .inr (.inr (some 86))), (1, .inr (.inr (some a1))), (2, .inl a2)]) (st' := [.inl 0, .inl 0, .inr (.inr (some 93))]) (h' := gc_h sh I93 J A) (C := ((True ∧ True) ∧ True)) rfl ⟨⟨trivial, trivial⟩, trivial⟩ ?_
  refine gv_iast hD rfl S_93 ⟨by decide, B_93⟩ ⟨by exact gz_m 178 (by omega), by exact gz_m 179 (by omega)⟩ ?_
  refine gc_st (k := 0) hI93 S_93 rfl R_93 (lo := 0) (hi := 400) rfl rfl (by exact gz_m 180 (by omega)) (by exact gz_m 181 (by omega)) (fun I98 hI98 q99 p99 => ?_)
  have FI98 := gc_frs (W := fun q j => q = o ∨ (q = 86 ∧ j = 1) ∨ q = 91 ∨ q = 22 ∨ q = 92 ∨ q = 93) FI93 (Or.inr (Or.inr (Or.inr (Or.inr (Or.inr rfl))))) p99
  have t100 := p99 86 1 (fun h => absurd h.2 (by decide))
  have t101 := p99 86 2 (fun h => absurd h.2 (by decide))
  have t102 := p99 86 4 (fun h => absurd h.2 (by decide))
  show gv_X _ _ (34, [(3, .inl 1), (0, .inr (.inr (some 86))), (1, .inr (.inr (some a1))), (2, .inl a2)], [], sh, gc_h sh I98 J A)
  refine gv_run 2 true hD (pc' := 37) (lv' := [(4, .inl 0), (3, .inl 1), (0, .inr (.inr (some 86))), (1, .inr (.inr (some a1))), (2, .inl a2)]) (st' := []) (h' := gc_h sh I98 J A) (C := ((True ∧ True) ∧ True)) rfl ⟨⟨trivial, trivial⟩, trivial⟩ ?_
  refine gv_pick [2, 3, 1, 0] rfl ?_
  exact L37 _ I98 J 1 0 (Nat.lt_succ_self _) hI98 FI98 FJ (by exact gz_m 182 (by omega)) (fun k hk => by have e9 : k = 0 := (by exact gz_m 183 (by omega)); subst e9; rw [show I98 92 0 = 0 from ((p99 92 0 (fun h => absurd h.1 (by exact gz_m 184 (by omega))))).trans q94, show I98 93 0 = 0 from q99]; exact ⟨by exact gz_m 185 (by omega), by exact gz_m 186 (by omega), by exact gz_m 187 (by omega), (show 0 ≤ I 15 _ ∧ I 15 _ ≤ 40 from gc_in hI R_15 rfl rfl).1⟩) (fun k hk => by exact gz_m 188 (by omega)) (by rw [show Int.toNat (I98 86 1) = 0 from by exact gz_m 189 (by omega), gc_SM_at (by exact gz_m 190 (by omega))]; show (1 : Int) = 0 + gc_N _ (Int.toNat (I98 93 0)); rw [show I98 93 0 = 0 from q99]; rfl) (gc_cd_fr q81 (fun k => (((p99 91 k (fun h => absurd h.1 (by exact gz_m 191 (by omega)))).trans (p94 91 k (fun h => absurd h.1 (by exact gz_m 192 (by omega))))).trans (p89 91 k (fun h => absurd h.1 (by exact gz_m 193 (by omega)))))))
