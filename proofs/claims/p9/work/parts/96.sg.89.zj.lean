/-! THE RANKING OPEN OR CLOSED: one theorem each. -/
theorem hh_trees {ws0 : List Cond} {tb : String → gz_T} (hws : gc_Ws ws0) (htb : gc_tbs tb) {sh : gz_Sh} {ro : Nat → Nat} {I : gr_I} {J : gr_J} {A : gc_A} (hs : gh_HS sh ro I J A) (hc : gh_HC sh ro A I) : ∃ (z : Int64) (Iₚ : gr_I) (Jₚ : gr_J), gz_Ev ws0 tb 100 (yX12_trees, cX12_trees, 1, (some .long)) [.inr (.inr (some 0))] sh (gc_h sh I J A) (some (.inr (.inl z))) sh (gc_h sh Iₚ Jₚ A) 0 0 ∧ gh_K sh ro A I J Iₚ Jₚ (I 23 1) 0 := by
  rcases hc.2.2.2.2.2.2.2 with cl | ⟨o1, i, t, hi, ht, o2, rk⟩
  · exact hh_trees_c hws htb hs hc cl
  · exact hh_trees_o hws htb hs hc i t hi ht o1 o2 rk
theorem hh_price {ws0 : List Cond} {tb : String → gz_T} (hws : gc_Ws ws0) (htb : gc_tbs tb) {sh : gz_Sh} {ro : Nat → Nat} {I : gr_I} {J : gr_J} {A : gc_A} (hs : gh_HS sh ro I J A) (hc : gh_HC sh ro A I) (a1 : Int) (ra1 : (-2147483648) ≤ a1 ∧ a1 ≤ 2147483647) : ∃ (z : Int) (Iₚ : gr_I) (Jₚ : gr_J), gz_Ev ws0 tb 100 (yX12_price, cX12_price, 2, (some .int)) [.inr (.inr (some 0)), .inl a1] sh (gc_h sh I J A) (some (.inl z)) sh (gc_h sh Iₚ Jₚ A) 0 0 ∧ gh_K sh ro A I J Iₚ Jₚ (I 23 1) 0 := by
  rcases hc.2.2.2.2.2.2.2 with cl | ⟨o1, i, t, hi, ht, o2, rk⟩
  · exact hh_price_c hws htb hs hc a1 ra1 cl
  · exact hh_price_o hws htb hs hc a1 ra1 i t hi ht o1 o2 rk
theorem hh_bar {ws0 : List Cond} {tb : String → gz_T} (hws : gc_Ws ws0) (htb : gc_tbs tb) {sh : gz_Sh} {ro : Nat → Nat} {I : gr_I} {J : gr_J} {A : gc_A} (hs : gh_HS sh ro I J A) (hc : gh_HC sh ro A I) (a1 : Int) (a2 : Int) (h1 : 0 ≤ a1 ∧ a1 < I 4 1) (ra2 : 0 ≤ a2 ∧ a2 ≤ 1) : ∃ (z : Int64) (Iₚ : gr_I) (Jₚ : gr_J), gz_Ev ws0 tb 100 (yX12_bar, cX12_bar, 3, (some .long)) [.inr (.inr (some 0)), .inl a1, .inl a2] sh (gc_h sh I J A) (some (.inr (.inl z))) sh (gc_h sh Iₚ Jₚ A) 0 0 ∧ gh_K sh ro A I J Iₚ Jₚ (I 23 1) 0 := by
  rcases hc.2.2.2.2.2.2.2 with cl | ⟨o1, i, t, hi, ht, o2, rk⟩
  · exact hh_bar_c hws htb hs hc a1 a2 h1 ra2 cl
  · exact hh_bar_o hws htb hs hc a1 a2 h1 ra2 i t hi ht o1 o2 rk
theorem hh_reading {ws0 : List Cond} {tb : String → gz_T} (hws : gc_Ws ws0) (htb : gc_tbs tb) {sh : gz_Sh} {ro : Nat → Nat} {I : gr_I} {J : gr_J} {A : gc_A} (hs : gh_HS sh ro I J A) (hc : gh_HC sh ro A I) (a1 : Int) (a2 : Int) (ra1 : (-2147483648) ≤ a1 ∧ a1 ≤ 2147483647) (ra2 : 0 ≤ a2 ∧ a2 ≤ 7) : ∃ (z : Int) (Iₚ : gr_I) (Jₚ : gr_J), gz_Ev ws0 tb 100 (yX12_reading, cX12_reading, 4, (some .int)) [.inr (.inr (some 0)), .inl a1, .inl a2] sh (gc_h sh I J A) (some (.inl z)) sh (gc_h sh Iₚ Jₚ A) 0 0 ∧ gh_K sh ro A I J Iₚ Jₚ (I 23 1) 0 := by
  rcases hc.2.2.2.2.2.2.2 with cl | ⟨o1, i, t, hi, ht, o2, rk⟩
  · exact hh_reading_c hws htb hs hc a1 a2 ra1 ra2 cl
  · exact hh_reading_o hws htb hs hc a1 a2 ra1 ra2 i t hi ht o1 o2 rk
