/-! ADD AND MODULE: the two calls that make objects. -/
theorem gk_add {ws0 : List Cond} {tb : String → gz_T} (hw : gc_Wc ws0) (hws : gc_Ws ws0) (htb : gc_tbs tb) {sh : gz_Sh} {ro : Nat → Nat} {I : gr_I} {J : gr_J} {A : gc_A} (hs : gh_HS sh ro I J A) (hc : gh_HC sh ro A I) (a1 : Int) (ra1 : (-2147483648) ≤ a1 ∧ a1 ≤ 2147483647) (h9 : I 100 9 ≤ 99) (hlen : sh.length + 1 ≤ 1000000) : ((0 ≤ a1 ∧ a1 < I 8 1) ∧ ∃ (z : Int) (a s : Nat) (shₚ : gz_Sh) (ro' : Nat → Nat) (Iₚ : gr_I) (Jₚ : gr_J) (Aₚ : gc_A), gz_Ev ws0 tb 100 (yX12_add, cX12_add, 3, (some .int)) [.inr (.inr (some 0)), .inl a1] sh (gc_h sh I J A) (some (.inl z)) shₚ (gc_h shₚ Iₚ Jₚ Aₚ) a s ∧ gh_AD sh ro I A a s shₚ ro' Iₚ Jₚ Aₚ ∧ ∀ q j : Nat, Jₚ q j = J q j) ∨ (¬ (0 ≤ a1 ∧ a1 < I 8 1) ∧ gk_T ws0 tb (yX12_add, cX12_add, 3, (some .int)) [.inr (.inr (some 0)), .inl a1] sh I J A px_IAE) := by
  by_cases c : 0 ≤ a1 ∧ a1 < I 8 1
  · obtain ⟨z, a, s, shₚ, ro', Iₚ, Jₚ, Aₚ, E9, K9⟩ := hh_add hw hws htb hs hc a1 c h9 hlen
    exact Or.inl ⟨c, z, a, s, shₚ, ro', Iₚ, Jₚ, Aₚ, gz_Ev_mono (d := 98) (by decide) E9, K9⟩
  · exact Or.inr ⟨c, ht_add_t hws htb hs a1 ra1 (by omega)⟩
