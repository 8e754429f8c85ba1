/-! THE HOUSE, method by method: what stays of the store (gh_SE), and how the rest is handed on. -/
def gh_okc (sh : gz_Sh) (c q : Nat) (z : Int) : Prop := c = 0 ∨ (c = 5 ∧ z < (sh.length : Int)) ∨ ∃ n, c = n + 10 ∧ q + n % 1000 + (n / 1000 + 1) * Int.toNat z < sh.length
theorem gh_OK_g {sh : gz_Sh} {I Iₚ : gr_I} {J Jₚ : gr_J} {A : gc_A} (h : gc_OK sh I J A) (hI : ∀ q j, (q < sh.length ∧ gh_okc sh (gc_ty sh q j) q (Iₚ q j)) ∨ Iₚ q j = I q j) (hJ : ∀ q j, q < sh.length ∨ Jₚ q j = J q j) : gc_OK sh Iₚ Jₚ A := by
  refine ⟨fun i hi k => ?_, fun i hi k => ?_⟩
  · have h9 := h.1 i hi k
    revert h9
    unfold gc_h
    rcases hI i k with ⟨_, e⟩ | e
    · intro _
      rcases e with e | ⟨e, hz⟩ | ⟨n, e, hz⟩
      · rw [e]
        exact trivial
      · rw [e]
        show gz_okv sh.length (.inr (.inr (if Iₚ i k < 0 then none else some (Int.toNat (Iₚ i k)))))
        by_cases h0 : Iₚ i k < 0
        · rw [if_pos h0]
          exact trivial
        · rw [if_neg h0]
          exact Or.inl (by omega)
      · rw [e]
        show gz_okv sh.length (.inr (.inr (some (i + n % 1000 + (n / 1000 + 1) * Int.toNat (Iₚ i k)))))
        exact Or.inl hz
    · rw [e]
      generalize gc_ty sh i k = c
      match c with
      | 0 => exact id
      | 1 => exact fun _ => trivial
      | 2 => exact id
      | 3 => exact id
      | 4 => exact id
      | 5 => exact id
      | 6 => exact id
      | 7 => exact id
      | 8 => exact id
      | 9 => exact id
      | n + 10 => exact id
  · obtain ⟨a, b, c⟩ := h.2 i hi k
    refine ⟨?_, ?_, c⟩
    · rcases hI i k with ⟨e, _⟩ | e
      · omega
      · rw [e]; exact a
    · rcases hJ i k with e | e
      · omega
      · rw [e]; exact b
/-- an int, a place, one of two rows -/
theorem gh_ok0 {sh : gz_Sh} {q j : Nat} {x : Bool × Nat × Nat} {z : Int} (hs : sh[q]? = some x) (ht : gc_tx x j = 0) : q < sh.length ∧ gh_okc sh (gc_ty sh q j) q z := ⟨gc_x_lt hs, Or.inl ((gc_tyx hs).trans ht)⟩
theorem gh_ok5 {sh : gz_Sh} {q j : Nat} {x : Bool × Nat × Nat} {z : Int} (hs : sh[q]? = some x) (ht : gc_tx x j = 5) (hz : z < (sh.length : Int)) : q < sh.length ∧ gh_okc sh (gc_ty sh q j) q z := ⟨gc_x_lt hs, Or.inr (Or.inl ⟨(gc_tyx hs).trans ht, hz⟩)⟩
theorem gh_okn {sh : gz_Sh} {q j n : Nat} {x : Bool × Nat × Nat} {z : Int} (hs : sh[q]? = some x) (ht : gc_tx x j = n + 10) (hz : q + n % 1000 + (n / 1000 + 1) * Int.toNat z < sh.length) : q < sh.length ∧ gh_okc sh (gc_ty sh q j) q z := ⟨gc_x_lt hs, Or.inr (Or.inr ⟨n, (gc_tyx hs).trans ht, hz⟩)⟩
def gh_SE (sh : gz_Sh) (ro : Nat → Nat) (A : gc_A) (I Iₚ : gr_I) (J Jₚ : gr_J) : Prop := (∀ q j : Nat, 1 ≤ q → q ≤ 21 → Iₚ q j = I q j) ∧ (∀ i t d j : Nat, i < 8 → A 10 i = some t → d < 17 → Iₚ (t + d) j = I (t + d) j) ∧ (∀ q, gc_isLin sh ro A q → 144 ≤ q → ∀ d k, d ≤ 8 → Iₚ (q + d) k = I (q + d) k) ∧ ∀ q j : Nat, q ≤ 21 ∨ 144 ≤ q → Jₚ q j = J q j
/-- what touches neither the store nor lins: one tongue's forms at most -/
theorem gh_HS_k {sh : gz_Sh} {ro : Nat → Nat} {I Iₚ : gr_I} {J Jₚ : gr_J} {A : gc_A} {i t : Nat} (hs : gh_HS sh ro I J A) (hi : i < 8) (ht : A 10 i = some t) (hIₚ : gc_Inv ro Iₚ) (hok' : gc_OK sh Iₚ Jₚ A) (g : ∀ q j : Nat, ((22 ≤ q ∧ q < 144) ∨ q = 0 ∨ (t + 17 ≤ q ∧ q < t + 25)) ∨ Iₚ q j = I q j) (gJ : ∀ q j : Nat, (22 ≤ q ∧ q < 144) ∨ Jₚ q j = J q j) : gh_HS sh ro Iₚ Jₚ A ∧ gh_SE sh ro A I Iₚ J Jₚ := by
  have hT := hs.2.2.2.1
  have Tt := hT.1 i t hi ht
  refine ⟨gh_HS_o hs hIₚ hok' (fun q j => (g q j).imp (fun h => ?_) id), fun q j h1 h2 => (g q j).resolve_left (by omega), fun k u d j hk hu hd => (g (u + d) j).resolve_left (fun h => ?_), fun q g1 g2 d k hd => (g (q + d) k).resolve_left (fun h => ?_), fun q j h => (gJ q j).resolve_left (by omega)⟩
  · rcases h with h | h | h
    · exact Or.inl h
    · exact Or.inr (Or.inl h)
    · exact Or.inr (Or.inr ⟨i, t, hi, ht, h.1, h.2⟩)
  · have Tu := hT.1 k u hk hu
    have dj := gc_dj_TT Tu.1 Tt.1
    omega
  · have dj := gc_dj_LT g1 Tt.1
    omega
theorem gh_HS_n {sh : gz_Sh} {ro : Nat → Nat} {I Iₚ : gr_I} {J Jₚ : gr_J} {A : gc_A} (hs : gh_HS sh ro I J A) (hIₚ : gc_Inv ro Iₚ) (hok' : gc_OK sh Iₚ Jₚ A) (g : ∀ q j : Nat, ((22 ≤ q ∧ q < 144) ∨ q = 0) ∨ Iₚ q j = I q j) (gJ : ∀ q j : Nat, (22 ≤ q ∧ q < 144) ∨ Jₚ q j = J q j) : gh_HS sh ro Iₚ Jₚ A ∧ gh_SE sh ro A I Iₚ J Jₚ := by
  have hT := hs.2.2.2.1
  refine ⟨gh_HS_o hs hIₚ hok' (fun q j => (g q j).imp (fun h => h.imp id Or.inl) id), fun q j h1 h2 => (g q j).resolve_left (by omega), fun k u d j hk hu hd => (g (u + d) j).resolve_left (fun h => ?_), fun q g1 g2 d k hd => (g (q + d) k).resolve_left (by omega), fun q j h => (gJ q j).resolve_left (by omega)⟩
  have Tu := hT.1 k u hk hu
  omega
/-- forms -/
theorem gh_SE_tb {sh : gz_Sh} {ro : Nat → Nat} {I Iₚ : gr_I} {J Jₚ : gr_J} {A : gc_A} {i t : Nat} (se : gh_SE sh ro A I Iₚ J Jₚ) (hi : i < 8) (ht : A 10 i = some t) : gh_tb I Iₚ t := by
  have e6 := se.2.1 i t 0 6 hi ht (by decide)
  have e11 := se.2.1 i t 0 11 hi ht (by decide)
  rw [Nat.add_zero] at e6 e11
  exact ⟨fun j => se.1 20 j (by decide) (by decide), fun d j _ h2 => se.2.1 i t d j hi ht (by omega), e6, e11⟩
theorem gh_FBT_fr {sh : gz_Sh} {ro : Nat → Nat} {I Iₚ : gr_I} {J Jₚ : gr_J} {A : gc_A} (h : gh_FBT A I) (se : gh_SE sh ro A I Iₚ J Jₚ) (e : ∀ i t d j : Nat, i < 8 → A 10 i = some t → 17 ≤ d → d < 25 → Iₚ (t + d) j = I (t + d) j) : gh_FBT A Iₚ := fun i t hi ht => by
  obtain ⟨a, b, c, ne, k9⟩ := h i t hi ht
  have e8 := e i t 17 8 hi ht (by decide) (by decide)
  have e11 := se.2.1 i t 0 11 hi ht (by decide)
  have e81 := se.1 8 1 (by decide) (by decide)
  rw [Nat.add_zero] at e11
  refine ⟨by rw [e8]; exact gc_FB_fr a (fun k => e i t 21 k hi ht (by decide) (by decide)) (fun k => e i t 20 k hi ht (by decide) (by decide)), fun h9 => ?_, fun h9 => ?_, by rw [e i t 17 6 hi ht (by decide) (by decide), e i t 17 7 hi ht (by decide) (by decide)]; exact ne, gh_K9_s k9 e81 (gh_SE_tb se hi ht) (gh_BD_same (fun d j h1 h2 _ => e i t d j hi ht h1 (by omega))) ne (fun _ => e i t 17 9 hi ht (by decide) (by decide))⟩
  · have := b (by omega)
    omega
  · have := c (by omega)
    omega
theorem gh_FBT_t {sh : gz_Sh} {ro : Nat → Nat} {I Iₚ : gr_I} {J Jₚ : gr_J} {A : gc_A} {i t : Nat} (hT : gh_TT sh ro A I) (h : gh_FBT A I) (se : gh_SE sh ro A I Iₚ J Jₚ) (hi : i < 8) (hl : (i : Int) < I 8 1) (ht : A 10 i = some t) (g : ∀ q j : Nat, 144 ≤ q → (t + 17 ≤ q ∧ q < t + 25) ∨ Iₚ q j = I q j) (n1 : gc_FB (t + 17) (24 * Iₚ (t + 17) 8) Iₚ) (n2 : Iₚ (t + 17) 8 ≤ I t 11) (n3 : ¬ I (t + 17) 6 = I (t + 17) 7 → ¬ Iₚ (t + 17) 6 = Iₚ (t + 17) 7) (n4 : gh_BD I t Iₚ) : gh_FBT A Iₚ := fun k u hk hu => by
  have e11 := se.2.1 k u 0 11 hk hu (by decide)
  have e81 := se.1 8 1 (by decide) (by decide)
  rw [Nat.add_zero] at e11
  by_cases hut : u = t
  · have hki : k = i := hT.2 k i u hk hi hu (by rw [hut]; exact ht)
    rw [hut] at e11 ⊢
    exact ⟨n1, fun _ => by omega, fun h9 => by omega, n3 (h i t hi ht).2.2.2.1, gh_K9_s (hki ▸ (h i t hi ht).2.2.2.2) e81 (gh_SE_tb se hi ht) n4 (h i t hi ht).2.2.2.1 (fun h9 => by omega)⟩
  · have Tu := hT.1 k u hk hu
    have dj := gc_dj_TT Tu.1 (hT.1 i t hi ht).1
    have e : ∀ d j : Nat, 17 ≤ d → d < 25 → Iₚ (u + d) j = I (u + d) j := fun d j h1 h2 => (g (u + d) j (by omega)).resolve_left (by omega)
    obtain ⟨a, b, c, ne, k9⟩ := h k u hk hu
    have e8 := e 17 8 (by decide) (by decide)
    refine ⟨by rw [e8]; exact gc_FB_fr a (fun j => e 21 j (by decide) (by decide)) (fun j => e 20 j (by decide) (by decide)), fun h9 => ?_, fun h9 => ?_, by rw [e 17 6 (by decide) (by decide), e 17 7 (by decide) (by decide)]; exact ne, gh_K9_s k9 e81 (gh_SE_tb se hk hu) (gh_BD_same (fun d j h1 h2 _ => e d j h1 (by omega))) ne (fun _ => e 17 9 (by decide) (by decide))⟩
    · have := b (by omega)
      omega
    · have := c (by omega)
      omega
/-- trees: one place -/
theorem gh_TRE_1 {sh : gz_Sh} {ro : Nat → Nat} {I Iₚ : gr_I} {J Jₚ : gr_J} {A : gc_A} {p : Nat} (h : gh_TRE I) (se : gh_SE sh ro A I Iₚ J Jₚ) (e4 : ∀ k, k < 8 → ¬ k = p → Iₚ 124 k = I 124 k) (e : ∀ k j : Nat, k < 8 → ¬ k = p → Iₚ (115 + k) j = I (115 + k) j) (n : Iₚ 124 p = 0 ∨ (gc_wtr Iₚ (115 + p) (Iₚ 124 p) ∧ gc_rg (115 + p) Iₚ (Iₚ 124 p) 0 (Iₚ 4 1 - 1))) : gh_TRE Iₚ := fun k hk => by
  by_cases hkp : k = p
  · rw [hkp]
    exact n
  · rw [e4 k hk hkp]
    have e41 := se.1 4 1 (by decide) (by decide)
    exact (h k hk).imp id (fun g => ⟨gh_wtr_fu g.1 g.2 (fun j _ => se.1 12 j (by decide) (by decide)) (fun j => e k j hk hkp), fun j a b => by
      rw [e k _ hk hkp]
      have h9 := g.2 j a b
      omega⟩)
theorem gh_TRE_k {sh : gz_Sh} {ro : Nat → Nat} {I Iₚ : gr_I} {J Jₚ : gr_J} {A : gc_A} (h : gh_TRE I) (se : gh_SE sh ro A I Iₚ J Jₚ) (e : ∀ q j : Nat, 115 ≤ q → q ≤ 124 → ¬ q = 123 → Iₚ q j = I q j) : gh_TRE Iₚ := gh_TRE_fr h (fun j _ => se.1 12 j (by decide) (by decide)) (by have := se.1 4 1 (by decide) (by decide); omega) (fun p _ => e 124 p (by decide) (by decide) (by decide)) (fun p k hp => e (115 + p) k (by omega) (by omega) (by omega))
/-- chart and ranking untouched -/
theorem gh_RKO_fr {sh : gz_Sh} {ro : Nat → Nat} {I Iₚ : gr_I} {J Jₚ : gr_J} {A : gc_A} (hs : gh_HS sh ro I J A) (h : gh_RKO A I) (se : gh_SE sh ro A I Iₚ J Jₚ) (e : ∀ q j : Nat, 48 ≤ q → q ≤ 73 → Iₚ q j = I q j) : gh_RKO A Iₚ := by
  rcases h with ⟨d1, d2⟩ | ⟨d1, i, t, d2, d3, d4, d5⟩
  · exact Or.inl ⟨(e 61 3 (by decide) (by decide)).trans d1, (e 61 15 (by decide) (by decide)).trans d2⟩
  · have h81 : 0 ≤ I 8 1 ∧ I 8 1 ≤ 8 := gc_in hs.2.1 (gc_bR hs.1 (by decide) rfl) rfl rfl
    obtain ⟨u, w1, w2, _⟩ := hs.2.2.2.2.1 i d2
    cases w1.symm.trans d3
    have e13 := se.2.1 i t 0 13 (by omega) d3 (by decide)
    have e11 := se.2.1 i t 0 11 (by omega) d3 (by decide)
    rw [Nat.add_zero] at e13 e11
    have e81 := se.1 8 1 (by decide) (by decide)
    exact Or.inr ⟨(e 61 3 (by decide) (by decide)).trans d1, i, t, by omega, d3, (e 61 2 (by decide) (by decide)).trans d4, gh_RK1_fr (shₚ := sh) (ro' := ro) d5 e w2 (by omega) (by omega) (fun _ _ => rfl) se.2.2.1 (fun k => (show (0 : Int) ≤ I 69 k ∧ I 69 k ≤ 8999 from gc_in hs.2.1 (gc_bR hs.1 (by decide) rfl) rfl rfl).1)⟩
