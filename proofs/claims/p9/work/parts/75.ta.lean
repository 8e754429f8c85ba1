def gc_nw (z : Int) : Int := if z = -1 then 1 else if z = -2 then 0 else -1
theorem gc_nwc (z : Int) : (z = -1 ∧ gc_nw z = 1) ∨ (z = -2 ∧ gc_nw z = 0) ∨ (¬ z = -1 ∧ ¬ z = -2 ∧ gc_nw z = -1) := by
  unfold gc_nw
  split
  · exact Or.inl ⟨by assumption, rfl⟩
  · split
    · exact Or.inr (Or.inl ⟨by assumption, rfl⟩)
    · exact Or.inr (Or.inr ⟨by assumption, by assumption, rfl⟩)
def gc_N (f : Nat → Int) : Nat → Int
  | 0 => 1
  | k + 1 => gc_N f k + gc_nw (f k)
theorem gc_N_eq {f g : Nat → Int} : ∀ {n : Nat}, (∀ k, k < n → f k = g k) → gc_N f n = gc_N g n
  | 0, _ => rfl
  | n + 1, h => by
    show gc_N f n + gc_nw (f n) = gc_N g n + gc_nw (g n)
    rw [gc_N_eq (n := n) (fun k hk => h k (by omega)), h n (by omega)]
theorem gc_N_nx {f : Nat → Int} {v : Int} (h : 0 ≤ v) : gc_N f (Int.toNat (v + 1)) = gc_N f (Int.toNat v) + gc_nw (f (Int.toNat v)) := by
  rw [show Int.toNat (v + 1) = Int.toNat v + 1 from by omega]
  rfl
theorem gc_N_2 {f : Nat → Int} {v : Int} (h : 0 ≤ v) : gc_N f (Int.toNat (v + 2)) = gc_N f (Int.toNat v) + gc_nw (f (Int.toNat v)) + gc_nw (f (Int.toNat (v + 1))) := by
  rw [show Int.toNat (v + 2) = Int.toNat v + 1 + 1 from by omega, show Int.toNat (v + 1) = Int.toNat v + 1 from by omega]
  rfl
set_option maxHeartbeats 8000000 in
theorem gc_N_sh {f g : Nat → Int} {a c : Nat} : ∀ {m : Nat}, (∀ j, j < m → gc_nw (g (a + j)) = gc_nw (f (c + j))) → gc_N g (a + m) - gc_N g a = gc_N f (c + m) - gc_N f c
  | 0, _ => by
    show gc_N g a - gc_N g a = gc_N f c - gc_N f c
    exact gz_m 0 (by omega)
  | m + 1, h => by
    have h1 := gc_N_sh (m := m) (fun j hj => h j (by exact gz_m 1 (by omega)))
    have h2 := h m (by exact gz_m 2 (by omega))
    show gc_N g (a + m) + gc_nw (g (a + m)) - gc_N g a = gc_N f (c + m) + gc_nw (f (c + m)) - gc_N f c
    exact gz_m 3 (by omega)
def gc_TC (f : Nat → Int) (n : Int) : Prop := 0 ≤ n ∧ (∀ k : Nat, (k : Int) < n → 1 ≤ gc_N f k) ∧ gc_N f (Int.toNat n) = 0
def gc_ub (f : Nat → Int) (n b : Int) : Prop := ∀ k : Nat, (k : Int) < n → f k ≤ b
def gc_tg (f : Nat → Int) (n b : Int) : Prop := ∀ k : Nat, (k : Int) < n → 1 ≤ gc_N f k ∧ f k ≤ b
def gc_sg (f : Nat → Int) (a b : Int) : Prop := ∀ k : Nat, a ≤ (k : Int) → (k : Int) < b → gc_N f (Int.toNat a) ≤ gc_N f k
theorem gc_TC_lt {f : Nat → Int} {n v : Int} (h : gc_TC f n) (hv : 0 ≤ v ∧ v ≤ n) (hN : 1 ≤ gc_N f (Int.toNat v)) : v < n := by
  rcases Int.lt_or_le v n with h1 | h1
  · exact h1
  · have h2 := h.2.2
    rw [show n = v from by omega] at h2
    omega
theorem gc_tg_st {I Iₚ : gr_I} {u : Nat} {m B : Int} (h : gc_tg (I u) m B) (h0 : 0 ≤ m) (p : ∀ q j, ¬ (q = u ∧ j = Int.toNat m) → Iₚ q j = I q j) (hN : 1 ≤ gc_N (I u) (Int.toNat m)) (hz : Iₚ u (Int.toNat m) ≤ B) : gc_tg (Iₚ u) (m + 1) B := fun k hk => by
  have hE : gc_N (Iₚ u) k = gc_N (I u) k := gc_N_eq (fun j hj => p u j (fun h9 => by have := h9.2; omega))
  by_cases e : k = Int.toNat m
  · rw [hE, e]
    exact ⟨hN, hz⟩
  · rw [hE, p u k (fun h9 => e h9.2)]
    exact h k (by omega)
theorem gc_N_st {I Iₚ : gr_I} {u : Nat} {m : Int} (h0 : 0 ≤ m) (p : ∀ q j, ¬ (q = u ∧ j = Int.toNat m) → Iₚ q j = I q j) : gc_N (Iₚ u) (Int.toNat (m + 1)) = gc_N (I u) (Int.toNat m) + gc_nw (Iₚ u (Int.toNat m)) := by
  rw [gc_N_nx h0, gc_N_eq (fun j hj => p u j (fun h9 => by have := h9.2; omega))]
theorem gc_TC_cp {f g gₚ : Nat → Int} {n a c B : Int} (hC : gc_TC f n) (hu : gc_ub f n B) (hg : gc_tg g a B) (hN : gc_N g (Int.toNat a) = gc_N f (Int.toNat c)) (h0 : 0 ≤ a ∧ 0 ≤ c ∧ c ≤ n) (e1 : ∀ k, k < Int.toNat a → gₚ k = g k) (e2 : ∀ j, j < Int.toNat (n - c) → gₚ (Int.toNat a + j) = f (Int.toNat c + j)) : gc_TC gₚ (a + (n - c)) ∧ gc_ub gₚ (a + (n - c)) B := by
  have hA : ∀ k, k ≤ Int.toNat a → gc_N gₚ k = gc_N g k := fun k hk => gc_N_eq (fun j hj => e1 j (by omega))
  have hS : ∀ j, j ≤ Int.toNat (n - c) → gc_N gₚ (Int.toNat a + j) = gc_N f (Int.toNat c + j) := fun j hj => by
    have h1 := gc_N_sh (f := f) (g := gₚ) (a := Int.toNat a) (c := Int.toNat c) (m := j) (fun i hi => by rw [e2 i (by omega)])
    have h2 := hA (Int.toNat a) (Nat.le_refl _)
    omega
  refine ⟨⟨by omega, fun k hk => ?_, ?_⟩, fun k hk => ?_⟩
  · by_cases e : k < Int.toNat a
    · rw [hA k (by omega)]
      exact (hg k (by omega)).1
    · rw [show k = Int.toNat a + (k - Int.toNat a) from by omega, hS _ (by omega)]
      exact hC.2.1 _ (by omega)
  · rw [show Int.toNat (a + (n - c)) = Int.toNat a + Int.toNat (n - c) from by omega, hS _ (Nat.le_refl _), show Int.toNat c + Int.toNat (n - c) = Int.toNat n from by omega]
    exact hC.2.2
  · by_cases e : k < Int.toNat a
    · rw [e1 k e]
      exact (hg k (by omega)).2
    · have h1 := e2 (k - Int.toNat a) (by omega)
      rw [show Int.toNat a + (k - Int.toNat a) = k from by omega] at h1
      rw [h1]
      exact hu _ (by omega)
set_option maxHeartbeats 8000000 in
set_option maxRecDepth 100000 in
theorem d_X10_endOf {ws0 : List Cond} {tb : String → gz_T} (hws : gc_Ws ws0) (htb : gc_tbs tb) (sh : gz_Sh) (ro : Nat → Nat) (I : gr_I) (J : gr_J) (A : gc_A) (hI : gc_Inv ro I) (o : Nat) (a1 : Int) (hb : gc_Base sh ro A) (ha1 : 0 ≤ a1 ∧ a1 ≤ 300) (x0 : 86 + 1 + 2 * Int.toNat (I 86 2) = o) (x1 : o = 87 ∨ o = 89) (x2 : gc_TC (I o) (I 86 1)) (x3 : a1 < I 86 1) : ∃ r hₚ, gz_Ev ws0 tb 1 (yX10_endOf, cX10_endOf, 4, (some .int)) [.inr (.inr (some 86)), .inl a1] sh (gc_h sh I J A) r sh hₚ 0 0 ∧ (hₚ = gc_h sh I J A ∧ (∃ z : Int, r = some (.inl z) ∧ 0 ≤ z ∧ z ≤ 300 ∧ (a1 < z) ∧ (z ≤ I 86 1) ∧ (gc_N (I o) (Int.toNat z) = gc_N (I o) (Int.toNat a1) - 1) ∧ (∀ k : Nat, a1 ≤ (k : Int) → (k : Int) < z → gc_N (I o) (Int.toNat a1) ≤ gc_N (I o) k))) := by
  have B_86 := gz_hi (show 86 < 1000000 from by decide)
  have R_86 := gz_hi (show ro 86 = 74 from gc_bR_86 hb)
  have S_86 : sh[86]? = some (false, 10, 19) := gc_bS_86 hb
  have S_o : sh[o]? = some (true, 1, 300) := by
    rcases (show o = 87 ∨ o = 89 from by (/-0-/first | omega | (simp only [gz_hd] at *; omega))) with h9 | h9 <;> rw [h9] <;> exact gc_bS hb rfl
  have R_o : gz_hd (ro o = 77) := by
    refine gz_hi ?_
    rcases (show o = 87 ∨ o = 89 from by (/-1-/first | omega | (simp only [gz_hd] at *; omega))) with h9 | h9 <;> rw [h9] <;> exact gc_bR hb (by decide) rfl
  have B_o := gz_hi (show o < 1000000 from by (/-2-/first | omega | (simp only [gz_hd] at *; omega)))
  have hD : gv_D (gc_E10 ws0 tb 0 (yX10_endOf, cX10_endOf, 4, (some .int)) kX10_endOf) := gq_of oX10_endOf
  refine gc_ev10 (d := 0) (l := kX10_endOf) (Po := fun r hₚ => (hₚ = gc_h sh I J A ∧ (∃ z : Int, r = some (.inl z) ∧ 0 ≤ z ∧ z ≤ 300 ∧ (a1 < z) ∧ (z ≤ I 86 1) ∧ (gc_N (I o) (Int.toNat z) = gc_N (I o) (Int.toNat a1) - 1) ∧ (∀ k : Nat, a1 ≤ (k : Int) → (k : Int) < z → gc_N (I o) (Int.toNat a1) ≤ gc_N (I o) k)))) htb rfl (Nat.le_of_ble_eq_true rfl) ?_
  have f1 := gz_hi ((gc_b_74_1 hI (gz_sh R_86)))
  have L4 : ∀ (n9 : Nat) (v2_3 : Int) (v3_3 : Int), (301 - v3_3).toNat < n9 → ((0 ≤ v2_3 ∧ v2_3 ≤ 301) ∧ (0 ≤ v3_3 ∧ v3_3 ≤ 300) ∧ (v2_3 = gc_N (I o) (Int.toNat (v3_3)) - gc_N (I o) (Int.toNat a1) + 1) ∧ (0 ≤ v2_3) ∧ (a1 ≤ v3_3) ∧ (v2_3 ≤ v3_3 - a1 + 1) ∧ (v3_3 ≤ I 86 1) ∧ (a1 < v3_3 ∨ v2_3 = 1)) → (∀ k : Nat, a1 ≤ (k : Int) → (k : Int) < v3_3 → gc_N (I o) (Int.toNat a1) ≤ gc_N (I o) k) → gv_X (gc_E10 ws0 tb 0 (yX10_endOf, cX10_endOf, 4, (some .int)) kX10_endOf) (gv_Q cX10_endOf (some .int) sh (fun r hₚ => (hₚ = gc_h sh I J A ∧ (∃ z : Int, r = some (.inl z) ∧ 0 ≤ z ∧ z ≤ 300 ∧ (a1 < z) ∧ (z ≤ I 86 1) ∧ (gc_N (I o) (Int.toNat z) = gc_N (I o) (Int.toNat a1) - 1) ∧ (∀ k : Nat, a1 ≤ (k : Int) → (k : Int) < z → gc_N (I o) (Int.toNat a1) ≤ gc_N (I o) k))))) (4, [(0, .inr (.inr (some 86))), (2, .inl v2_3), (3, .inl v3_3)], [], sh, gc_h sh I J A) := by
    intro n9
    induction n9 with
    | zero => intro v2_3 v3_3 hn; (/-3-/first | omega | (simp only [gz_hd] at *; omega))
    | succ n9 ih4 =>
      intro v2_3 v3_3 hn m_3 e0_3
      obtain ⟨hv2_3, hv3_3, e1_3, e2_3, e3_3, e4_3, e5_3, e6_3⟩ := gz_h8 m_3
      have L46 : ∀ (v2_6 : Int), ((0 ≤ v2_6 ∧ v2_6 ≤ 301) ∧ (0 ≤ v3_3 ∧ v3_3 ≤ 299) ∧ (v2_6 = gc_N (I o) (Int.toNat (v3_3 + 1)) - gc_N (I o) (Int.toNat a1) + 1) ∧ (0 ≤ v2_6) ∧ (a1 ≤ v3_3) ∧ (v2_6 ≤ v3_3 + 1 - a1 + 1) ∧ (v3_3 < I 86 1)) → (∀ k : Nat, a1 ≤ (k : Int) → (k : Int) < v3_3 + 1 → gc_N (I o) (Int.toNat a1) ≤ gc_N (I o) k) → gv_X (gc_E10 ws0 tb 0 (yX10_endOf, cX10_endOf, 4, (some .int)) kX10_endOf) (gv_Q cX10_endOf (some .int) sh (fun r hₚ => (hₚ = gc_h sh I J A ∧ (∃ z : Int, r = some (.inl z) ∧ 0 ≤ z ∧ z ≤ 300 ∧ (a1 < z) ∧ (z ≤ I 86 1) ∧ (gc_N (I o) (Int.toNat z) = gc_N (I o) (Int.toNat a1) - 1) ∧ (∀ k : Nat, a1 ≤ (k : Int) → (k : Int) < z → gc_N (I o) (Int.toNat a1) ≤ gc_N (I o) k))))) (46, [(0, .inr (.inr (some 86))), (2, .inl v2_6), (3, .inl v3_3)], [], sh, gc_h sh I J A) := by
        intro v2_6 m_6 e0_6
        obtain ⟨hv2_6, hv3_3_6, e1_6, e2_6, e3_6, e4_6, e5_6⟩ := gz_h7 m_6
        refine gv_run 2 true hD (pcₚ := 4) (lvₚ := [(3, .inl (v3_3 + 1)), (0, .inr (.inr (some 86))), (2, .inl v2_6)]) (stₚ := []) (hₚ := gc_h sh I J A) (C := ((True ∧ True) ∧ True)) rfl ⟨⟨trivial, trivial⟩, trivial⟩ ?_
        refine gv_pick [1, 2, 0] rfl ?_
        exact ih4 v2_6 (v3_3 + 1) (by (/-4-/first | (have o1 := gz_sh e6_3; have o2 := gz_sh hv3_3; have o3 := gz_sh hv3_3_6; omega) | (simp only [gz_hd] at *; omega))) (by (/-5-/first | (and_intros; (have o1 := gz_sh hv2_6; omega); (have o1 := gz_sh hv2_6; omega); (have o1 := gz_sh hv3_3; omega); (have o1 := gz_sh hv3_3_6; omega); (have o1 := gz_sh e1_6; omega); (have o1 := gz_sh hv2_6; omega); (have o1 := gz_sh e3_3; omega); (have o1 := gz_sh e4_6; omega); (have o1 := gz_sh e5_6; omega); (have o1 := gz_sh e3_3; omega)) | (simp only [gz_hd] at *; omega))) e0_6
      have L52 : ((0 ≤ v3_3 ∧ v3_3 ≤ 300) ∧ (v3_3 ≤ I 86 1) ∧ (a1 < v3_3)) → (∀ k : Nat, a1 ≤ (k : Int) → (k : Int) < v3_3 → gc_N (I o) (Int.toNat a1) ≤ gc_N (I o) k) → (gc_N (I o) (Int.toNat v3_3) = gc_N (I o) (Int.toNat a1) - 1) → gv_X (gc_E10 ws0 tb 0 (yX10_endOf, cX10_endOf, 4, (some .int)) kX10_endOf) (gv_Q cX10_endOf (some .int) sh (fun r hₚ => (hₚ = gc_h sh I J A ∧ (∃ z : Int, r = some (.inl z) ∧ 0 ≤ z ∧ z ≤ 300 ∧ (a1 < z) ∧ (z ≤ I 86 1) ∧ (gc_N (I o) (Int.toNat z) = gc_N (I o) (Int.toNat a1) - 1) ∧ (∀ k : Nat, a1 ≤ (k : Int) → (k : Int) < z → gc_N (I o) (Int.toNat a1) ≤ gc_N (I o) k))))) (52, [(3, .inl v3_3)], [], sh, gc_h sh I J A) := by
        intro m_9 e0_9 e1_9
        obtain ⟨hv3_3_9, e2_9, e3_9⟩ := gz_h3 m_9
        refine gv_run 1 true hD (pcₚ := 53) (lvₚ := [(3, .inl v3_3)]) (stₚ := [.inl v3_3]) (hₚ := gc_h sh I J A) (C := (True ∧ True)) rfl ⟨trivial, trivial⟩ ?_
        exact gv_iret hD rfl ⟨rfl, ⟨_, rfl, by (/-6-/first | (have o1 := gz_sh hv3_3; omega) | (simp only [gz_hd] at *; omega)), by (/-7-/first | (have o1 := gz_sh hv3_3; omega) | (simp only [gz_hd] at *; omega)), by (/-8-/first | (have o1 := gz_sh e3_9; omega) | (simp only [gz_hd] at *; omega)), by (/-9-/first | (have o1 := gz_sh e2_9; omega) | (simp only [gz_hd] at *; omega)), by (/-10-/first | omega | (simp only [gz_hd] at *; omega)), e0_9⟩⟩
      refine gv_run 2 true hD (pcₚ := 6) (lvₚ := [(0, .inr (.inr (some 86))), (2, .inl v2_3), (3, .inl v3_3)]) (stₚ := [.inr (.inr (some 86)), .inl v3_3]) (hₚ := gc_h sh I J A) (C := ((True ∧ True) ∧ True)) rfl ⟨⟨trivial, trivial⟩, trivial⟩ ?_
      refine gv_get hD rfl rfl S_86 ⟨by decide, (gz_sh B_86)⟩ (gc_hI S_86 rfl) ?_
      show gv_X _ _ (9, [(0, .inr (.inr (some 86))), (2, .inl v2_3), (3, .inl v3_3)], [.inl (I 86 1), .inl v3_3], sh, gc_h sh I J A)
      have t13 := gz_hi (x2.2.1 (Int.toNat a1) (by (/-11-/first | omega | (simp only [gz_hd] at *; omega))))
      refine gv_icmp_ge (t := 52) hD rfl rfl ⟨⟨by (/-12-/first | (have o1 := gz_sh hv3_3; omega) | (simp only [gz_hd] at *; omega)), by (/-13-/first | (have o1 := gz_sh hv3_3; omega) | (simp only [gz_hd] at *; omega))⟩, ⟨by (/-14-/first | (have o1 := gz_sh f1; omega) | (simp only [gz_hd] at *; omega)), by (/-15-/first | (have o1 := gz_sh f1; omega) | (simp only [gz_hd] at *; omega))⟩⟩ (fun c14 => ?_) (fun c14 => ?_)
      · show gv_X _ _ (52, [(0, .inr (.inr (some 86))), (2, .inl v2_3), (3, .inl v3_3)], [], sh, gc_h sh I J A)
        refine gv_pick [2] rfl ?_
        exact L52 (by (/-16-/first | (and_intros; (have o1 := gz_sh hv3_3; omega); (have o1 := gz_sh hv3_3; omega); (have o1 := gz_sh e5_3; omega); (omega)) | (simp only [gz_hd] at *; omega))) e0_3 (by rcases Int.lt_or_le v3_3 (I 86 1) with h9 | h9; (· (/-17-/first | (have o1 := gz_sh e5_3; omega) | (simp only [gz_hd] at *; omega))); (· have h8 : gc_N (I o) (Int.toNat v3_3) = 0 := (by rw [show v3_3 = I 86 1 from by (/-18-/first | (have o1 := gz_sh e5_3; omega) | (simp only [gz_hd] at *; omega))]; exact x2.2.2); (/-19-/first | (have o1 := gz_sh e1_3; have o2 := gz_sh hv2_3; have o3 := gz_sh t13; omega) | (simp only [gz_hd] at *; omega))))
      · show gv_X _ _ (12, [(0, .inr (.inr (some 86))), (2, .inl v2_3), (3, .inl v3_3)], [], sh, gc_h sh I J A)
        refine gv_run 1 true hD (pcₚ := 13) (lvₚ := [(0, .inr (.inr (some 86))), (2, .inl v2_3), (3, .inl v3_3)]) (stₚ := [.inl v2_3]) (hₚ := gc_h sh I J A) (C := (True ∧ True)) rfl ⟨trivial, trivial⟩ ?_
        refine gv_if_le (t := 52) hD rfl rfl ⟨by (/-20-/first | (have o1 := gz_sh hv2_3; omega) | (simp only [gz_hd] at *; omega)), by (/-21-/first | (have o1 := gz_sh hv2_3; omega) | (simp only [gz_hd] at *; omega))⟩ (fun c15 => ?_) (fun c15 => ?_)
        · show gv_X _ _ (52, [(0, .inr (.inr (some 86))), (2, .inl v2_3), (3, .inl v3_3)], [], sh, gc_h sh I J A)
          refine gv_pick [2] rfl ?_
          exact L52 (by (/-22-/first | (and_intros; (have o1 := gz_sh hv3_3; omega); (have o1 := gz_sh hv3_3; omega); (omega); (have o1 := gz_sh e6_3; omega)) | (simp only [gz_hd] at *; omega))) e0_3 (by rcases Int.lt_or_le v3_3 (I 86 1) with h9 | h9; (· (/-23-/first | (have o1 := gz_sh e1_3; have o2 := gz_sh hv2_3; omega) | (simp only [gz_hd] at *; omega))); (· have h8 : gc_N (I o) (Int.toNat v3_3) = 0 := (by rw [show v3_3 = I 86 1 from by (/-24-/first | omega | (simp only [gz_hd] at *; omega))]; exact x2.2.2); (/-25-/first | omega | (simp only [gz_hd] at *; omega))))
        · show gv_X _ _ (16, [(0, .inr (.inr (some 86))), (2, .inl v2_3), (3, .inl v3_3)], [], sh, gc_h sh I J A)
          have t16 := gz_hi (gc_N_nx (f := I o) (v := v3_3) (by (/-26-/first | (have o1 := gz_sh hv3_3; omega) | (simp only [gz_hd] at *; omega))))
          have t17 := gz_hi (gc_nwc (I o (Int.toNat v3_3)))
          refine gv_run 1 true hD (pcₚ := 17) (lvₚ := [(0, .inr (.inr (some 86))), (2, .inl v2_3), (3, .inl v3_3)]) (stₚ := [.inr (.inr (some 86))]) (hₚ := gc_h sh I J A) (C := (True ∧ True)) rfl ⟨trivial, trivial⟩ ?_
          refine gv_get hD rfl rfl S_86 ⟨by decide, (gz_sh B_86)⟩ (gc_hS (n := 1001) (q := o) S_86 rfl (by (/-27-/first | omega | (simp only [gz_hd] at *; omega)))) ?_
          show gv_X _ _ (20, [(0, .inr (.inr (some 86))), (2, .inl v2_3), (3, .inl v3_3)], [.inr (.inr (some o))], sh, gc_h sh I J A)
          refine gv_run 1 true hD (pcₚ := 21) (lvₚ := [(0, .inr (.inr (some 86))), (2, .inl v2_3), (3, .inl v3_3)]) (stₚ := [.inl v3_3, .inr (.inr (some o))]) (hₚ := gc_h sh I J A) (C := (True ∧ True)) rfl ⟨trivial, trivial⟩ ?_
          have f18 := gz_hi ((show (-3) ≤ I o (Int.toNat v3_3) ∧ I o (Int.toNat v3_3) ≤ 1000000 from gc_in2 hI (gz_sh R_o) rfl rfl rfl))
          refine gv_iald hD rfl S_o rfl ⟨by decide, (gz_sh B_o)⟩ ⟨by (/-28-/first | (have o1 := gz_sh hv3_3; omega) | (simp only [gz_hd] at *; omega)), by (/-29-/first | (have o1 := gz_sh f1; omega) | (simp only [gz_hd] at *; omega))⟩ (gc_iI S_o rfl) ?_
          show gv_X _ _ (22, [(0, .inr (.inr (some 86))), (2, .inl v2_3), (3, .inl v3_3)], [.inl (I o (Int.toNat v3_3))], sh, gc_h sh I J A)
          refine gv_run 1 true hD (pcₚ := 23) (lvₚ := [(0, .inr (.inr (some 86))), (2, .inl v2_3), (3, .inl v3_3)]) (stₚ := [.inl (-1), .inl (I o (Int.toNat v3_3))]) (hₚ := gc_h sh I J A) (C := (True ∧ True)) rfl ⟨trivial, trivial⟩ ?_
          refine gv_icmp_ne (t := 32) hD rfl rfl ⟨⟨by (/-30-/first | (have o1 := gz_sh f18; omega) | (simp only [gz_hd] at *; omega)), by (/-31-/first | (have o1 := gz_sh f18; omega) | (simp only [gz_hd] at *; omega))⟩, ⟨by (/-32-/first | omega | (simp only [gz_hd] at *; omega)), by (/-33-/first | omega | (simp only [gz_hd] at *; omega))⟩⟩ (fun c19 => ?_) (fun c19 => ?_)
          · show gv_X _ _ (32, [(0, .inr (.inr (some 86))), (2, .inl v2_3), (3, .inl v3_3)], [], sh, gc_h sh I J A)
            refine gv_run 1 true hD (pcₚ := 33) (lvₚ := [(0, .inr (.inr (some 86))), (2, .inl v2_3), (3, .inl v3_3)]) (stₚ := [.inr (.inr (some 86))]) (hₚ := gc_h sh I J A) (C := (True ∧ True)) rfl ⟨trivial, trivial⟩ ?_
            refine gv_get hD rfl rfl S_86 ⟨by decide, (gz_sh B_86)⟩ (gc_hS (n := 1001) (q := o) S_86 rfl (by (/-34-/first | omega | (simp only [gz_hd] at *; omega)))) ?_
            show gv_X _ _ (36, [(0, .inr (.inr (some 86))), (2, .inl v2_3), (3, .inl v3_3)], [.inr (.inr (some o))], sh, gc_h sh I J A)
            refine gv_run 1 true hD (pcₚ := 37) (lvₚ := [(0, .inr (.inr (some 86))), (2, .inl v2_3), (3, .inl v3_3)]) (stₚ := [.inl v3_3, .inr (.inr (some o))]) (hₚ := gc_h sh I J A) (C := (True ∧ True)) rfl ⟨trivial, trivial⟩ ?_
            refine gv_iald hD rfl S_o rfl ⟨by decide, (gz_sh B_o)⟩ ⟨by (/-35-/first | (have o1 := gz_sh hv3_3; omega) | (simp only [gz_hd] at *; omega)), by (/-36-/first | (have o1 := gz_sh f1; omega) | (simp only [gz_hd] at *; omega))⟩ (gc_iI S_o rfl) ?_
            show gv_X _ _ (38, [(0, .inr (.inr (some 86))), (2, .inl v2_3), (3, .inl v3_3)], [.inl (I o (Int.toNat v3_3))], sh, gc_h sh I J A)
            refine gv_run 1 true hD (pcₚ := 40) (lvₚ := [(0, .inr (.inr (some 86))), (2, .inl v2_3), (3, .inl v3_3)]) (stₚ := [.inl (-2), .inl (I o (Int.toNat v3_3))]) (hₚ := gc_h sh I J A) (C := (True ∧ True)) rfl ⟨trivial, trivial⟩ ?_
            refine gv_icmp_eq (t := 46) hD rfl rfl ⟨⟨by (/-37-/first | (have o1 := gz_sh f18; omega) | (simp only [gz_hd] at *; omega)), by (/-38-/first | (have o1 := gz_sh f18; omega) | (simp only [gz_hd] at *; omega))⟩, ⟨by (/-39-/first | omega | (simp only [gz_hd] at *; omega)), by (/-40-/first | omega | (simp only [gz_hd] at *; omega))⟩⟩ (fun c21 => ?_) (fun c21 => ?_)
            · show gv_X _ _ (46, [(0, .inr (.inr (some 86))), (2, .inl v2_3), (3, .inl v3_3)], [], sh, gc_h sh I J A)
              exact L46 v2_3 (by (/-41-/first | (and_intros; (omega); (have o1 := gz_sh hv2_3; omega); (have o1 := gz_sh hv3_3; omega); (have o1 := gz_sh f1; omega); (have o1 := gz_sh e1_3; have o2 := gz_sh t16; have o3 := gz_sh t17; omega); (omega); (have o1 := gz_sh e3_3; omega); (have o1 := gz_sh e4_3; omega); (omega)) | (simp only [gz_hd] at *; omega))) (fun k h1 h2 => if h : (k : Int) < v3_3 then e0_3 k h1 h else (by rw [show k = Int.toNat v3_3 from by (/-42-/first | omega | (simp only [gz_hd] at *; omega))]; (/-43-/first | (have o1 := gz_sh e1_3; omega) | (simp only [gz_hd] at *; omega))))
            · show gv_X _ _ (43, [(0, .inr (.inr (some 86))), (2, .inl v2_3), (3, .inl v3_3)], [], sh, gc_h sh I J A)
              refine gv_run 1 true hD (pcₚ := 46) (lvₚ := [(2, .inl (v2_3 + (-1))), (0, .inr (.inr (some 86))), (3, .inl v3_3)]) (stₚ := []) (hₚ := gc_h sh I J A) (C := (True ∧ True)) rfl ⟨trivial, trivial⟩ ?_
              refine gv_pick [1, 0, 2] rfl ?_
              exact L46 ((v2_3 + (-1))) (by (/-44-/first | (and_intros; (omega); (have o1 := gz_sh hv2_3; omega); (have o1 := gz_sh hv3_3; omega); (have o1 := gz_sh f1; omega); (have o1 := gz_sh e1_3; have o2 := gz_sh e3_3; have o3 := gz_sh e4_3; have o4 := gz_sh f1; have o5 := gz_sh f18; have o6 := gz_sh hv2_3; have o7 := gz_sh hv3_3; have o8 := gz_sh t16; have o9 := gz_sh t17; omega); (omega); (have o1 := gz_sh e3_3; omega); (have o1 := gz_sh e4_3; omega); (omega)) | (simp only [gz_hd] at *; omega))) (fun k h1 h2 => if h : (k : Int) < v3_3 then e0_3 k h1 h else (by rw [show k = Int.toNat v3_3 from by (/-45-/first | omega | (simp only [gz_hd] at *; omega))]; (/-46-/first | (have o1 := gz_sh e1_3; omega) | (simp only [gz_hd] at *; omega))))
          · show gv_X _ _ (26, [(0, .inr (.inr (some 86))), (2, .inl v2_3), (3, .inl v3_3)], [], sh, gc_h sh I J A)
            refine gv_run 2 true hD (pcₚ := 46) (lvₚ := [(2, .inl (v2_3 + 1)), (0, .inr (.inr (some 86))), (3, .inl v3_3)]) (stₚ := []) (hₚ := gc_h sh I J A) (C := ((True ∧ True) ∧ True)) rfl ⟨⟨trivial, trivial⟩, trivial⟩ ?_
            refine gv_pick [1, 0, 2] rfl ?_
            exact L46 (v2_3 + 1) (by (/-47-/first | (and_intros; (omega); (have o1 := gz_sh e4_3; have o2 := gz_sh f1; omega); (have o1 := gz_sh hv3_3; omega); (have o1 := gz_sh f1; omega); (have o1 := gz_sh e1_3; have o2 := gz_sh t16; have o3 := gz_sh t17; omega); (omega); (have o1 := gz_sh e3_3; omega); (have o1 := gz_sh e4_3; omega); (omega)) | (simp only [gz_hd] at *; omega))) (fun k h1 h2 => if h : (k : Int) < v3_3 then e0_3 k h1 h else (by rw [show k = Int.toNat v3_3 from by (/-48-/first | omega | (simp only [gz_hd] at *; omega))]; (/-49-/first | (have o1 := gz_sh e1_3; omega) | (simp only [gz_hd] at *; omega))))
  refine gv_run 4 true hD (pcₚ := 4) (lvₚ := [(3, .inl a1), (2, .inl 1), (0, .inr (.inr (some 86))), (1, .inl a1)]) (stₚ := []) (hₚ := gc_h sh I J A) (C := ((((True ∧ True) ∧ True) ∧ True) ∧ True)) rfl ⟨⟨⟨⟨trivial, trivial⟩, trivial⟩, trivial⟩, trivial⟩ ?_
  refine gv_pick [2, 1, 0] rfl ?_
  exact L4 _ 1 a1 (Nat.lt_succ_self _) (by (/-50-/first | (and_intros <;> omega) | (simp only [gz_hd] at *; omega))) (fun k h1 h2 => by (/-51-/first | omega | (simp only [gz_hd] at *; omega)))
