/-! EVERY CALL: it answers, and what the House keeps is kept; or it throws, and nothing has changed. -/
def gk_R (ws0 : List Cond) (tb : String → gz_T) (M : gx_M) (av : List gz_V) (sh : gz_Sh) (ro : Nat → Nat) (I : gr_I) (J : gr_J) (A : gc_A) (tp : Int) (ν : Nat) : Prop := ∃ (r : gz_V) (Iₚ : gr_I) (Jₚ : gr_J), gz_Ev ws0 tb 100 M av sh (gc_h sh I J A) (some r) sh (gc_h sh Iₚ Jₚ A) 0 0 ∧ gh_K sh ro A I J Iₚ Jₚ tp ν
def gk_T (ws0 : List Cond) (tb : String → gz_T) (M : gx_M) (av : List gz_V) (sh : gz_Sh) (I : gr_I) (J : gr_J) (A : gc_A) (E : String) : Prop := gt_Th ws0 tb 100 M av sh (gc_h sh I J A) E sh (gc_h sh I J A) 1 6
theorem gk_rule {ws0 : List Cond} {tb : String → gz_T} (hws : gc_Ws ws0) (htb : gc_tbs tb) {sh : gz_Sh} {ro : Nat → Nat} {I : gr_I} {J : gr_J} {A : gc_A} (hs : gh_HS sh ro I J A) (hc : gh_HC sh ro A I) : gk_R ws0 tb (yX12_rule, cX12_rule, 1, (some .int)) [.inr (.inr (some 0))] sh ro I J A (I 23 1) 0 := by
  obtain ⟨z, Iₚ, Jₚ, E9, K9⟩ := hh_rule hws htb hs hc
  exact ⟨_, Iₚ, Jₚ, E9, K9⟩
theorem gk_out {ws0 : List Cond} {tb : String → gz_T} (hws : gc_Ws ws0) (htb : gc_tbs tb) {sh : gz_Sh} {ro : Nat → Nat} {I : gr_I} {J : gr_J} {A : gc_A} (hs : gh_HS sh ro I J A) (hc : gh_HC sh ro A I) (a1 : Int) (ra1 : (-2147483648) ≤ a1 ∧ a1 ≤ 2147483647) : gk_R ws0 tb (yX12_out, cX12_out, 2, (some .int)) [.inr (.inr (some 0)), .inl a1] sh ro I J A (I 23 1) 0 := by
  obtain ⟨z, Iₚ, Jₚ, E9, K9⟩ := hh_out hws htb hs hc a1 ra1
  exact ⟨_, Iₚ, Jₚ, E9, K9⟩
theorem gk_candidate {ws0 : List Cond} {tb : String → gz_T} (hws : gc_Ws ws0) (htb : gc_tbs tb) {sh : gz_Sh} {ro : Nat → Nat} {I : gr_I} {J : gr_J} {A : gc_A} (hs : gh_HS sh ro I J A) (hc : gh_HC sh ro A I) (a1 : Int) (ra1 : (-2147483648) ≤ a1 ∧ a1 ≤ 2147483647) : gk_R ws0 tb (yX12_candidate, cX12_candidate, 2, (some .int)) [.inr (.inr (some 0)), .inl a1] sh ro I J A (I 23 1) 0 := by
  obtain ⟨z, Iₚ, Jₚ, E9, K9⟩ := hh_candidate hws htb hs hc a1 ra1
  exact ⟨_, Iₚ, Jₚ, E9, K9⟩
theorem gk_trees {ws0 : List Cond} {tb : String → gz_T} (hws : gc_Ws ws0) (htb : gc_tbs tb) {sh : gz_Sh} {ro : Nat → Nat} {I : gr_I} {J : gr_J} {A : gc_A} (hs : gh_HS sh ro I J A) (hc : gh_HC sh ro A I) : gk_R ws0 tb (yX12_trees, cX12_trees, 1, (some .long)) [.inr (.inr (some 0))] sh ro I J A (I 23 1) 0 := by
  obtain ⟨z, Iₚ, Jₚ, E9, K9⟩ := hh_trees hws htb hs hc
  exact ⟨_, Iₚ, Jₚ, E9, K9⟩
theorem gk_price {ws0 : List Cond} {tb : String → gz_T} (hws : gc_Ws ws0) (htb : gc_tbs tb) {sh : gz_Sh} {ro : Nat → Nat} {I : gr_I} {J : gr_J} {A : gc_A} (hs : gh_HS sh ro I J A) (hc : gh_HC sh ro A I) (a1 : Int) (ra1 : (-2147483648) ≤ a1 ∧ a1 ≤ 2147483647) : gk_R ws0 tb (yX12_price, cX12_price, 2, (some .int)) [.inr (.inr (some 0)), .inl a1] sh ro I J A (I 23 1) 0 := by
  obtain ⟨z, Iₚ, Jₚ, E9, K9⟩ := hh_price hws htb hs hc a1 ra1
  exact ⟨_, Iₚ, Jₚ, E9, K9⟩
theorem gk_feed {ws0 : List Cond} {tb : String → gz_T} (hws : gc_Ws ws0) (htb : gc_tbs tb) {sh : gz_Sh} {ro : Nat → Nat} {I : gr_I} {J : gr_J} {A : gc_A} (hs : gh_HS sh ro I J A) (hc : gh_HC sh ro A I) (a1 : Int) (a2 : Int) (a3 : Int) (a4 : Int) (a5 : Int) (ra1 : (-2147483648) ≤ a1 ∧ a1 ≤ 2147483647) (ra2 : (-2147483648) ≤ a2 ∧ a2 ≤ 2147483647) (ra3 : (-2147483648) ≤ a3 ∧ a3 ≤ 2147483647) (ra4 : (-2147483648) ≤ a4 ∧ a4 ≤ 2147483647) (ra5 : (-2147483648) ≤ a5 ∧ a5 ≤ 2147483647) : ((I 23 1 ≤ 980) ∧ gk_R ws0 tb (yX12_feed, cX12_feed, 6, (some .int)) [.inr (.inr (some 0)), .inl a1, .inl a2, .inl a3, .inl a4, .inl a5] sh ro I J A (I 23 1 + 20) 0) ∨ (¬ (I 23 1 ≤ 980) ∧ gk_T ws0 tb (yX12_feed, cX12_feed, 6, (some .int)) [.inr (.inr (some 0)), .inl a1, .inl a2, .inl a3, .inl a4, .inl a5] sh I J A px_ISE) := by
  by_cases c : I 23 1 ≤ 980
  · left
    refine ⟨c, ?_⟩
    obtain ⟨z, Iₚ, Jₚ, E9, K9, _⟩ := hh_feed hws htb hs hc a1 a2 a3 a4 a5 ra1 ra2 ra3 ra4 ra5 c
    exact ⟨_, Iₚ, Jₚ, E9, K9⟩
  · right
    refine ⟨c, ?_⟩
    exact ht_feed hws htb hs a1 a2 a3 a4 a5 ra1 ra2 ra3 ra4 ra5 (by omega)
theorem gk_end {ws0 : List Cond} {tb : String → gz_T} (hws : gc_Ws ws0) (htb : gc_tbs tb) {sh : gz_Sh} {ro : Nat → Nat} {I : gr_I} {J : gr_J} {A : gc_A} (hs : gh_HS sh ro I J A) (hc : gh_HC sh ro A I) (a1 : Int) (ra1 : (-2147483648) ≤ a1 ∧ a1 ≤ 2147483647) : ((0 ≤ a1 ∧ a1 ≤ I 23 1) ∧ gk_R ws0 tb (yX12_end, cX12_end, 2, (some .int)) [.inr (.inr (some 0)), .inl a1] sh ro I J A (a1) 0) ∨ (¬ (0 ≤ a1 ∧ a1 ≤ I 23 1) ∧ gk_T ws0 tb (yX12_end, cX12_end, 2, (some .int)) [.inr (.inr (some 0)), .inl a1] sh I J A px_IAE) := by
  by_cases c : 0 ≤ a1 ∧ a1 ≤ I 23 1
  · left
    refine ⟨c, ?_⟩
    obtain ⟨z, Iₚ, Jₚ, E9, K9⟩ := hh_end hws htb hs hc a1 c
    exact ⟨_, Iₚ, Jₚ, E9, K9⟩
  · right
    refine ⟨c, ?_⟩
    exact ht_end hws htb hs a1 ra1 (by omega)
theorem gk_number {ws0 : List Cond} {tb : String → gz_T} (hws : gc_Ws ws0) (htb : gc_tbs tb) {sh : gz_Sh} {ro : Nat → Nat} {I : gr_I} {J : gr_J} {A : gc_A} (hs : gh_HS sh ro I J A) (hc : gh_HC sh ro A I) (a1 : Int) (a2 : Int) (ra1 : (-2147483648) ≤ a1 ∧ a1 ≤ 2147483647) (ra2 : (-2147483648) ≤ a2 ∧ a2 ≤ 2147483647) : (((0 ≤ a2 ∧ a2 ≤ 2) ∨ (3 ≤ a2 ∧ a2 ≤ 5 ∧ 0 ≤ a1 ∧ a1 < I 8 1)) ∧ gk_R ws0 tb (yX12_number, cX12_number, 6, (some .int)) [.inr (.inr (some 0)), .inl a1, .inl a2] sh ro I J A (0) 0) ∨ (¬ ((0 ≤ a2 ∧ a2 ≤ 2) ∨ (3 ≤ a2 ∧ a2 ≤ 5 ∧ 0 ≤ a1 ∧ a1 < I 8 1)) ∧ gk_T ws0 tb (yX12_number, cX12_number, 6, (some .int)) [.inr (.inr (some 0)), .inl a1, .inl a2] sh I J A px_IAE) := by
  by_cases c : (0 ≤ a2 ∧ a2 ≤ 2) ∨ (3 ≤ a2 ∧ a2 ≤ 5 ∧ 0 ≤ a1 ∧ a1 < I 8 1)
  · left
    refine ⟨c, ?_⟩
    by_cases d0 : a2 = 0
    · skip
      obtain ⟨z, Iₚ, Jₚ, E9, K9⟩ := hh_number_0 hws htb hs hc a1 a2 ra1 ⟨by omega, by omega⟩
      exact ⟨_, Iₚ, Jₚ, E9, K9⟩
    by_cases d1 : a2 = 1
    · skip
      obtain ⟨z, Iₚ, Jₚ, E9, K9⟩ := hh_number_1 hws htb hs hc a1 a2 ra1 ⟨by omega, by omega⟩
      exact ⟨_, Iₚ, Jₚ, E9, K9⟩
    by_cases d2 : a2 = 2
    · skip
      obtain ⟨z, Iₚ, Jₚ, E9, K9⟩ := hh_number_2 hws htb hs hc a1 a2 ra1 ⟨by omega, by omega⟩
      exact ⟨_, Iₚ, Jₚ, E9, K9⟩
    by_cases d3 : a2 = 3
    · skip
      obtain ⟨z, Iₚ, Jₚ, E9, K9⟩ := hh_number_3 hws htb hs hc a1 a2 ⟨by omega, by omega⟩ ⟨by omega, by omega⟩
      exact ⟨_, Iₚ, Jₚ, E9, K9⟩
    by_cases d4 : a2 = 4
    · skip
      obtain ⟨z, Iₚ, Jₚ, E9, K9⟩ := hh_number_4 hws htb hs hc a1 a2 ⟨by omega, by omega⟩ ⟨by omega, by omega⟩
      exact ⟨_, Iₚ, Jₚ, E9, K9⟩
    obtain ⟨z, Iₚ, Jₚ, E9, K9⟩ := hh_number_5 hws htb hs hc a1 a2 ⟨by omega, by omega⟩ ⟨by omega, by omega⟩
    exact ⟨_, Iₚ, Jₚ, E9, K9⟩
  · right
    refine ⟨c, ?_⟩
    by_cases d : 3 ≤ a2 ∧ a2 ≤ 5
    · exact ht_number_t hws htb hs a1 a2 ra1 ra2 (by omega) d
    · exact ht_number_w hws htb hs a1 a2 ra1 ra2 (by omega)
theorem gk_sounds {ws0 : List Cond} {tb : String → gz_T} (hws : gc_Ws ws0) (htb : gc_tbs tb) {sh : gz_Sh} {ro : Nat → Nat} {I : gr_I} {J : gr_J} {A : gc_A} (hs : gh_HS sh ro I J A) (hc : gh_HC sh ro A I) (a1 : Int) (ra1 : (-2147483648) ≤ a1 ∧ a1 ≤ 2147483647) : ((0 ≤ a1 ∧ a1 < I 8 1) ∧ gk_R ws0 tb (yX12_sounds, cX12_sounds, 4, (some .int)) [.inr (.inr (some 0)), .inl a1] sh ro I J A (0) 0) ∨ (¬ (0 ≤ a1 ∧ a1 < I 8 1) ∧ gk_T ws0 tb (yX12_sounds, cX12_sounds, 4, (some .int)) [.inr (.inr (some 0)), .inl a1] sh I J A px_IAE) := by
  by_cases c : 0 ≤ a1 ∧ a1 < I 8 1
  · left
    refine ⟨c, ?_⟩
    obtain ⟨z, Iₚ, Jₚ, E9, K9⟩ := hh_sounds hws htb hs hc a1 c
    exact ⟨_, Iₚ, Jₚ, E9, K9⟩
  · right
    refine ⟨c, ?_⟩
    exact ht_sounds_t hws htb hs a1 ra1 (by omega)
theorem gk_analyse {ws0 : List Cond} {tb : String → gz_T} (hws : gc_Ws ws0) (htb : gc_tbs tb) {sh : gz_Sh} {ro : Nat → Nat} {I : gr_I} {J : gr_J} {A : gc_A} (hs : gh_HS sh ro I J A) (hc : gh_HC sh ro A I) (a1 : Int) (ra1 : (-2147483648) ≤ a1 ∧ a1 ≤ 2147483647) : ((0 ≤ a1 ∧ a1 < I 8 1) ∧ gk_R ws0 tb (yX12_analyse, cX12_analyse, 4, (some .int)) [.inr (.inr (some 0)), .inl a1] sh ro I J A (0) 1) ∨ (¬ (0 ≤ a1 ∧ a1 < I 8 1) ∧ gk_T ws0 tb (yX12_analyse, cX12_analyse, 4, (some .int)) [.inr (.inr (some 0)), .inl a1] sh I J A px_IAE) := by
  by_cases c : 0 ≤ a1 ∧ a1 < I 8 1
  · left
    refine ⟨c, ?_⟩
    obtain ⟨z, Iₚ, Jₚ, E9, K9⟩ := hh_analyse hws htb hs hc a1 c
    exact ⟨_, Iₚ, Jₚ, E9, K9⟩
  · right
    refine ⟨c, ?_⟩
    exact ht_analyse_t hws htb hs a1 ra1 (by omega)
theorem gk_guess {ws0 : List Cond} {tb : String → gz_T} (hws : gc_Ws ws0) (htb : gc_tbs tb) {sh : gz_Sh} {ro : Nat → Nat} {I : gr_I} {J : gr_J} {A : gc_A} (hs : gh_HS sh ro I J A) (hc : gh_HC sh ro A I) (a1 : Int) (ra1 : (-2147483648) ≤ a1 ∧ a1 ≤ 2147483647) : ((0 ≤ a1 ∧ a1 < I 8 1) ∧ gk_R ws0 tb (yX12_guess, cX12_guess, 4, (some .int)) [.inr (.inr (some 0)), .inl a1] sh ro I J A (0) 2) ∨ (¬ (0 ≤ a1 ∧ a1 < I 8 1) ∧ gk_T ws0 tb (yX12_guess, cX12_guess, 4, (some .int)) [.inr (.inr (some 0)), .inl a1] sh I J A px_IAE) := by
  by_cases c : 0 ≤ a1 ∧ a1 < I 8 1
  · left
    refine ⟨c, ?_⟩
    obtain ⟨z, Iₚ, Jₚ, E9, K9⟩ := hh_guess hws htb hs hc a1 c
    exact ⟨_, Iₚ, Jₚ, E9, K9⟩
  · right
    refine ⟨c, ?_⟩
    exact ht_guess_t hws htb hs a1 ra1 (by omega)
theorem gk_ask {ws0 : List Cond} {tb : String → gz_T} (hws : gc_Ws ws0) (htb : gc_tbs tb) {sh : gz_Sh} {ro : Nat → Nat} {I : gr_I} {J : gr_J} {A : gc_A} (hs : gh_HS sh ro I J A) (hc : gh_HC sh ro A I) (a1 : Int) (ra1 : (-2147483648) ≤ a1 ∧ a1 ≤ 2147483647) : ((0 ≤ a1 ∧ a1 < I 8 1) ∧ gk_R ws0 tb (yX12_ask, cX12_ask, 4, (some .int)) [.inr (.inr (some 0)), .inl a1] sh ro I J A (0) 3) ∨ (¬ (0 ≤ a1 ∧ a1 < I 8 1) ∧ gk_T ws0 tb (yX12_ask, cX12_ask, 4, (some .int)) [.inr (.inr (some 0)), .inl a1] sh I J A px_IAE) := by
  by_cases c : 0 ≤ a1 ∧ a1 < I 8 1
  · left
    refine ⟨c, ?_⟩
    obtain ⟨z, Iₚ, Jₚ, E9, K9⟩ := hh_ask hws htb hs hc a1 c
    exact ⟨_, Iₚ, Jₚ, E9, K9⟩
  · right
    refine ⟨c, ?_⟩
    exact ht_ask_t hws htb hs a1 ra1 (by omega)
theorem gk_analysis {ws0 : List Cond} {tb : String → gz_T} (hws : gc_Ws ws0) (htb : gc_tbs tb) {sh : gz_Sh} {ro : Nat → Nat} {I : gr_I} {J : gr_J} {A : gc_A} (hs : gh_HS sh ro I J A) (hc : gh_HC sh ro A I) (a1 : Int) (a2 : Int) (ra1 : (-2147483648) ≤ a1 ∧ a1 ≤ 2147483647) (ra2 : (-2147483648) ≤ a2 ∧ a2 ≤ 2147483647) : ((0 ≤ a2 ∧ a2 ≤ 11) ∧ gk_R ws0 tb (yX12_analysis, cX12_analysis, 3, (some .int)) [.inr (.inr (some 0)), .inl a1, .inl a2] sh ro I J A (I 23 1) 0) ∨ (¬ (0 ≤ a2 ∧ a2 ≤ 11) ∧ gk_T ws0 tb (yX12_analysis, cX12_analysis, 3, (some .int)) [.inr (.inr (some 0)), .inl a1, .inl a2] sh I J A px_IAE) := by
  by_cases c : 0 ≤ a2 ∧ a2 ≤ 11
  · left
    refine ⟨c, ?_⟩
    obtain ⟨z, Iₚ, Jₚ, E9, K9⟩ := hh_analysis hws htb hs hc a1 a2 ra1 c
    exact ⟨_, Iₚ, Jₚ, E9, K9⟩
  · right
    refine ⟨c, ?_⟩
    exact ht_analysis_w hws htb hs a1 a2 ra1 ra2 (by omega)
theorem gk_guessed {ws0 : List Cond} {tb : String → gz_T} (hws : gc_Ws ws0) (htb : gc_tbs tb) {sh : gz_Sh} {ro : Nat → Nat} {I : gr_I} {J : gr_J} {A : gc_A} (hs : gh_HS sh ro I J A) (hc : gh_HC sh ro A I) (a1 : Int) (a2 : Int) (ra1 : (-2147483648) ≤ a1 ∧ a1 ≤ 2147483647) (ra2 : (-2147483648) ≤ a2 ∧ a2 ≤ 2147483647) : ((0 ≤ a2 ∧ a2 ≤ 3) ∧ gk_R ws0 tb (yX12_guessed, cX12_guessed, 3, (some .int)) [.inr (.inr (some 0)), .inl a1, .inl a2] sh ro I J A (I 23 1) 0) ∨ (¬ (0 ≤ a2 ∧ a2 ≤ 3) ∧ gk_T ws0 tb (yX12_guessed, cX12_guessed, 3, (some .int)) [.inr (.inr (some 0)), .inl a1, .inl a2] sh I J A px_IAE) := by
  by_cases c : 0 ≤ a2 ∧ a2 ≤ 3
  · left
    refine ⟨c, ?_⟩
    obtain ⟨z, Iₚ, Jₚ, E9, K9⟩ := hh_guessed hws htb hs hc a1 a2 ra1 c
    exact ⟨_, Iₚ, Jₚ, E9, K9⟩
  · right
    refine ⟨c, ?_⟩
    exact ht_guessed_w hws htb hs a1 a2 ra1 ra2 (by omega)
theorem gk_hit {ws0 : List Cond} {tb : String → gz_T} (hws : gc_Ws ws0) (htb : gc_tbs tb) {sh : gz_Sh} {ro : Nat → Nat} {I : gr_I} {J : gr_J} {A : gc_A} (hs : gh_HS sh ro I J A) (hc : gh_HC sh ro A I) (a1 : Int) (a2 : Int) (ra1 : (-2147483648) ≤ a1 ∧ a1 ≤ 2147483647) (ra2 : (-2147483648) ≤ a2 ∧ a2 ≤ 2147483647) : ((0 ≤ a2 ∧ a2 ≤ 1) ∧ gk_R ws0 tb (yX12_hit, cX12_hit, 3, (some .int)) [.inr (.inr (some 0)), .inl a1, .inl a2] sh ro I J A (I 23 1) 0) ∨ (¬ (0 ≤ a2 ∧ a2 ≤ 1) ∧ gk_T ws0 tb (yX12_hit, cX12_hit, 3, (some .int)) [.inr (.inr (some 0)), .inl a1, .inl a2] sh I J A px_IAE) := by
  by_cases c : 0 ≤ a2 ∧ a2 ≤ 1
  · left
    refine ⟨c, ?_⟩
    obtain ⟨z, Iₚ, Jₚ, E9, K9⟩ := hh_hit hws htb hs hc a1 a2 ra1 c
    exact ⟨_, Iₚ, Jₚ, E9, K9⟩
  · right
    refine ⟨c, ?_⟩
    exact ht_hit_w hws htb hs a1 a2 ra1 ra2 (by omega)
theorem gk_parse {ws0 : List Cond} {tb : String → gz_T} (hws : gc_Ws ws0) (htb : gc_tbs tb) {sh : gz_Sh} {ro : Nat → Nat} {I : gr_I} {J : gr_J} {A : gc_A} (hs : gh_HS sh ro I J A) (hc : gh_HC sh ro A I) (a1 : Int) (a2 : Int) (ra1 : (-2147483648) ≤ a1 ∧ a1 ≤ 2147483647) (ra2 : (-2147483648) ≤ a2 ∧ a2 ≤ 2147483647) : ((0 ≤ a1 ∧ a1 < I 8 1 ∧ 0 ≤ a2 ∧ a2 < I 2 1) ∧ gk_R ws0 tb (yX12_parse, cX12_parse, 5, (some .int)) [.inr (.inr (some 0)), .inl a1, .inl a2] sh ro I J A (0) 0) ∨ (¬ (0 ≤ a1 ∧ a1 < I 8 1 ∧ 0 ≤ a2 ∧ a2 < I 2 1) ∧ gk_T ws0 tb (yX12_parse, cX12_parse, 5, (some .int)) [.inr (.inr (some 0)), .inl a1, .inl a2] sh I J A px_IAE) := by
  by_cases c : 0 ≤ a1 ∧ a1 < I 8 1 ∧ 0 ≤ a2 ∧ a2 < I 2 1
  · left
    refine ⟨c, ?_⟩
    obtain ⟨z, Iₚ, Jₚ, E9, K9⟩ := hh_parse hws htb hs hc a1 a2 ⟨c.1, c.2.1⟩ c.2.2
    exact ⟨_, Iₚ, Jₚ, E9, K9⟩
  · right
    refine ⟨c, ?_⟩
    by_cases d : 0 ≤ a1 ∧ a1 < I 8 1
    · exact ht_parse_k hws htb hs a1 a2 ra1 ra2 d (by omega)
    · exact ht_parse_t hws htb hs a1 a2 ra1 ra2 (by omega)
theorem gk_mend {ws0 : List Cond} {tb : String → gz_T} (hws : gc_Ws ws0) (htb : gc_tbs tb) {sh : gz_Sh} {ro : Nat → Nat} {I : gr_I} {J : gr_J} {A : gc_A} (hs : gh_HS sh ro I J A) (hc : gh_HC sh ro A I) (a1 : Int) (a2 : Int) (ra1 : (-2147483648) ≤ a1 ∧ a1 ≤ 2147483647) (ra2 : (-2147483648) ≤ a2 ∧ a2 ≤ 2147483647) : ((0 ≤ a1 ∧ a1 < I 8 1 ∧ 0 ≤ a2 ∧ a2 < I 2 1) ∧ gk_R ws0 tb (yX12_mend, cX12_mend, 10, (some .int)) [.inr (.inr (some 0)), .inl a1, .inl a2] sh ro I J A (0) 0) ∨ (¬ (0 ≤ a1 ∧ a1 < I 8 1 ∧ 0 ≤ a2 ∧ a2 < I 2 1) ∧ gk_T ws0 tb (yX12_mend, cX12_mend, 10, (some .int)) [.inr (.inr (some 0)), .inl a1, .inl a2] sh I J A px_IAE) := by
  by_cases c : 0 ≤ a1 ∧ a1 < I 8 1 ∧ 0 ≤ a2 ∧ a2 < I 2 1
  · left
    refine ⟨c, ?_⟩
    obtain ⟨z, Iₚ, Jₚ, E9, K9⟩ := hh_mend hws htb hs hc a1 a2 ⟨c.1, c.2.1⟩ c.2.2
    exact ⟨_, Iₚ, Jₚ, E9, K9⟩
  · right
    refine ⟨c, ?_⟩
    by_cases d : 0 ≤ a1 ∧ a1 < I 8 1
    · exact ht_mend_k hws htb hs a1 a2 ra1 ra2 d (by omega)
    · exact ht_mend_t hws htb hs a1 a2 ra1 ra2 (by omega)
theorem gk_bar {ws0 : List Cond} {tb : String → gz_T} (hws : gc_Ws ws0) (htb : gc_tbs tb) {sh : gz_Sh} {ro : Nat → Nat} {I : gr_I} {J : gr_J} {A : gc_A} (hs : gh_HS sh ro I J A) (hc : gh_HC sh ro A I) (a1 : Int) (a2 : Int) (ra1 : (-2147483648) ≤ a1 ∧ a1 ≤ 2147483647) (ra2 : (-2147483648) ≤ a2 ∧ a2 ≤ 2147483647) (ba2 : 0 ≤ a2 ∧ a2 ≤ 1) : ((0 ≤ a1 ∧ a1 < I 4 1) ∧ gk_R ws0 tb (yX12_bar, cX12_bar, 3, (some .long)) [.inr (.inr (some 0)), .inl a1, .inl a2] sh ro I J A (I 23 1) 0) ∨ (¬ (0 ≤ a1 ∧ a1 < I 4 1) ∧ gk_T ws0 tb (yX12_bar, cX12_bar, 3, (some .long)) [.inr (.inr (some 0)), .inl a1, .inl a2] sh I J A px_IAE) := by
  by_cases c : 0 ≤ a1 ∧ a1 < I 4 1
  · left
    refine ⟨c, ?_⟩
    obtain ⟨z, Iₚ, Jₚ, E9, K9⟩ := hh_bar hws htb hs hc a1 a2 c ba2
    exact ⟨_, Iₚ, Jₚ, E9, K9⟩
  · right
    refine ⟨c, ?_⟩
    exact ht_bar hws htb hs a1 a2 ra1 ra2 (by omega)
theorem gk_reading {ws0 : List Cond} {tb : String → gz_T} (hws : gc_Ws ws0) (htb : gc_tbs tb) {sh : gz_Sh} {ro : Nat → Nat} {I : gr_I} {J : gr_J} {A : gc_A} (hs : gh_HS sh ro I J A) (hc : gh_HC sh ro A I) (a1 : Int) (a2 : Int) (ra1 : (-2147483648) ≤ a1 ∧ a1 ≤ 2147483647) (ra2 : (-2147483648) ≤ a2 ∧ a2 ≤ 2147483647) : ((0 ≤ a2 ∧ a2 ≤ 7) ∧ gk_R ws0 tb (yX12_reading, cX12_reading, 4, (some .int)) [.inr (.inr (some 0)), .inl a1, .inl a2] sh ro I J A (I 23 1) 0) ∨ (¬ (0 ≤ a2 ∧ a2 ≤ 7) ∧ gk_T ws0 tb (yX12_reading, cX12_reading, 4, (some .int)) [.inr (.inr (some 0)), .inl a1, .inl a2] sh I J A px_IAE) := by
  by_cases c : 0 ≤ a2 ∧ a2 ≤ 7
  · left
    refine ⟨c, ?_⟩
    obtain ⟨z, Iₚ, Jₚ, E9, K9⟩ := hh_reading hws htb hs hc a1 a2 ra1 c
    exact ⟨_, Iₚ, Jₚ, E9, K9⟩
  · right
    refine ⟨c, ?_⟩
    exact ht_reading_p hws htb hs a1 a2 ra1 ra2 (by omega)
theorem gk_tree {ws0 : List Cond} {tb : String → gz_T} (hws : gc_Ws ws0) (htb : gc_tbs tb) {sh : gz_Sh} {ro : Nat → Nat} {I : gr_I} {J : gr_J} {A : gc_A} (hs : gh_HS sh ro I J A) (hc : gh_HC sh ro A I) (a1 : Int) (ra1 : (-2147483648) ≤ a1 ∧ a1 ≤ 2147483647) : ((0 ≤ a1 ∧ a1 ≤ 7) ∧ gk_R ws0 tb (yX12_tree, cX12_tree, 3, (some .int)) [.inr (.inr (some 0)), .inl a1] sh ro I J A (0) 0) ∨ (¬ (0 ≤ a1 ∧ a1 ≤ 7) ∧ gk_T ws0 tb (yX12_tree, cX12_tree, 3, (some .int)) [.inr (.inr (some 0)), .inl a1] sh I J A px_IAE) := by
  by_cases c : 0 ≤ a1 ∧ a1 ≤ 7
  · left
    refine ⟨c, ?_⟩
    obtain ⟨z, Iₚ, Jₚ, E9, K9⟩ := hh_tree hws htb hs hc a1 c
    exact ⟨_, Iₚ, Jₚ, E9, K9⟩
  · right
    refine ⟨c, ?_⟩
    exact ht_tree_p hws htb hs a1 ra1 (by omega)
theorem gk_show {ws0 : List Cond} {tb : String → gz_T} (hws : gc_Ws ws0) (htb : gc_tbs tb) {sh : gz_Sh} {ro : Nat → Nat} {I : gr_I} {J : gr_J} {A : gc_A} (hs : gh_HS sh ro I J A) (hc : gh_HC sh ro A I) (a1 : Int) (ra1 : (-2147483648) ≤ a1 ∧ a1 ≤ 2147483647) : ((0 ≤ a1 ∧ a1 ≤ 7) ∧ gk_R ws0 tb (yX12_show, cX12_show, 2, (some .int)) [.inr (.inr (some 0)), .inl a1] sh ro I J A (I 23 1) 0) ∨ (¬ (0 ≤ a1 ∧ a1 ≤ 7) ∧ gk_T ws0 tb (yX12_show, cX12_show, 2, (some .int)) [.inr (.inr (some 0)), .inl a1] sh I J A px_IAE) := by
  by_cases c : 0 ≤ a1 ∧ a1 ≤ 7
  · left
    refine ⟨c, ?_⟩
    obtain ⟨z, Iₚ, Jₚ, E9, K9⟩ := hh_show hws htb hs hc a1 c
    exact ⟨_, Iₚ, Jₚ, E9, K9⟩
  · right
    refine ⟨c, ?_⟩
    exact ht_show_p hws htb hs a1 ra1 (by omega)
theorem gk_mean {ws0 : List Cond} {tb : String → gz_T} (hws : gc_Ws ws0) (htb : gc_tbs tb) {sh : gz_Sh} {ro : Nat → Nat} {I : gr_I} {J : gr_J} {A : gc_A} (hs : gh_HS sh ro I J A) (hc : gh_HC sh ro A I) (a1 : Int) (ra1 : (-2147483648) ≤ a1 ∧ a1 ≤ 2147483647) : ((0 ≤ a1 ∧ a1 ≤ 7) ∧ gk_R ws0 tb (yX12_mean, cX12_mean, 3, (some .int)) [.inr (.inr (some 0)), .inl a1] sh ro I J A (I 23 1) 0) ∨ (¬ (0 ≤ a1 ∧ a1 ≤ 7) ∧ gk_T ws0 tb (yX12_mean, cX12_mean, 3, (some .int)) [.inr (.inr (some 0)), .inl a1] sh I J A px_IAE) := by
  by_cases c : 0 ≤ a1 ∧ a1 ≤ 7
  · left
    refine ⟨c, ?_⟩
    obtain ⟨z, Iₚ, Jₚ, E9, K9⟩ := hh_mean hws htb hs hc a1 c
    exact ⟨_, Iₚ, Jₚ, E9, K9⟩
  · right
    refine ⟨c, ?_⟩
    exact ht_mean_p hws htb hs a1 ra1 (by omega)
theorem gk_truth {ws0 : List Cond} {tb : String → gz_T} (hws : gc_Ws ws0) (htb : gc_tbs tb) {sh : gz_Sh} {ro : Nat → Nat} {I : gr_I} {J : gr_J} {A : gc_A} (hs : gh_HS sh ro I J A) (hc : gh_HC sh ro A I) (a1 : Int) (ra1 : (-2147483648) ≤ a1 ∧ a1 ≤ 2147483647) : ((0 ≤ a1 ∧ a1 ≤ 7) ∧ gk_R ws0 tb (yX12_truth, cX12_truth, 3, (some .int)) [.inr (.inr (some 0)), .inl a1] sh ro I J A (I 23 1) 0) ∨ (¬ (0 ≤ a1 ∧ a1 ≤ 7) ∧ gk_T ws0 tb (yX12_truth, cX12_truth, 3, (some .int)) [.inr (.inr (some 0)), .inl a1] sh I J A px_IAE) := by
  by_cases c : 0 ≤ a1 ∧ a1 ≤ 7
  · left
    refine ⟨c, ?_⟩
    obtain ⟨z, Iₚ, Jₚ, E9, K9⟩ := hh_truth hws htb hs hc a1 c
    exact ⟨_, Iₚ, Jₚ, E9, K9⟩
  · right
    refine ⟨c, ?_⟩
    exact ht_truth_p hws htb hs a1 ra1 (by omega)
theorem gk_same {ws0 : List Cond} {tb : String → gz_T} (hws : gc_Ws ws0) (htb : gc_tbs tb) {sh : gz_Sh} {ro : Nat → Nat} {I : gr_I} {J : gr_J} {A : gc_A} (hs : gh_HS sh ro I J A) (hc : gh_HC sh ro A I) (a1 : Int) (a2 : Int) (ra1 : (-2147483648) ≤ a1 ∧ a1 ≤ 2147483647) (ra2 : (-2147483648) ≤ a2 ∧ a2 ≤ 2147483647) : ((0 ≤ a1 ∧ a1 ≤ 7 ∧ 0 ≤ a2 ∧ a2 ≤ 7) ∧ gk_R ws0 tb (yX12_same, cX12_same, 4, (some .boolean)) [.inr (.inr (some 0)), .inl a1, .inl a2] sh ro I J A (I 23 1) 0) ∨ (¬ (0 ≤ a1 ∧ a1 ≤ 7 ∧ 0 ≤ a2 ∧ a2 ≤ 7) ∧ gk_T ws0 tb (yX12_same, cX12_same, 4, (some .boolean)) [.inr (.inr (some 0)), .inl a1, .inl a2] sh I J A px_IAE) := by
  by_cases c : 0 ≤ a1 ∧ a1 ≤ 7 ∧ 0 ≤ a2 ∧ a2 ≤ 7
  · left
    refine ⟨c, ?_⟩
    obtain ⟨z, Iₚ, Jₚ, E9, K9⟩ := hh_same hws htb hs hc a1 a2 ⟨c.1, c.2.1⟩ c.2.2
    exact ⟨_, Iₚ, Jₚ, E9, K9⟩
  · right
    refine ⟨c, ?_⟩
    by_cases d : 0 ≤ a1 ∧ a1 ≤ 7
    · exact ht_same_q hws htb hs a1 a2 ra1 ra2 d (by omega)
    · exact ht_same_p hws htb hs a1 a2 ra1 ra2 (by omega)
theorem gk_say {ws0 : List Cond} {tb : String → gz_T} (hws : gc_Ws ws0) (htb : gc_tbs tb) {sh : gz_Sh} {ro : Nat → Nat} {I : gr_I} {J : gr_J} {A : gc_A} (hs : gh_HS sh ro I J A) (hc : gh_HC sh ro A I) (a1 : Int) (a2 : Int) (a3 : Int) (ra1 : (-2147483648) ≤ a1 ∧ a1 ≤ 2147483647) (ra2 : (-2147483648) ≤ a2 ∧ a2 ≤ 2147483647) (ra3 : (-2147483648) ≤ a3 ∧ a3 ≤ 2147483647) : ((0 ≤ a1 ∧ a1 < I 8 1 ∧ 0 ≤ a2 ∧ a2 ≤ 7) ∧ gk_R ws0 tb (yX12_say, cX12_say, 5, (some .int)) [.inr (.inr (some 0)), .inl a1, .inl a2, .inl a3] sh ro I J A (I 23 1) 0) ∨ (¬ (0 ≤ a1 ∧ a1 < I 8 1 ∧ 0 ≤ a2 ∧ a2 ≤ 7) ∧ gk_T ws0 tb (yX12_say, cX12_say, 5, (some .int)) [.inr (.inr (some 0)), .inl a1, .inl a2, .inl a3] sh I J A px_IAE) := by
  by_cases c : 0 ≤ a1 ∧ a1 < I 8 1 ∧ 0 ≤ a2 ∧ a2 ≤ 7
  · left
    refine ⟨c, ?_⟩
    obtain ⟨z, Iₚ, Jₚ, E9, K9⟩ := hh_say hws htb hs hc a1 a2 a3 ⟨c.1, c.2.1⟩ c.2.2 ra3
    exact ⟨_, Iₚ, Jₚ, E9, K9⟩
  · right
    refine ⟨c, ?_⟩
    by_cases d : 0 ≤ a1 ∧ a1 < I 8 1
    · exact ht_say_p hws htb hs a1 a2 a3 ra1 ra2 ra3 d (by omega)
    · exact ht_say_t hws htb hs a1 a2 a3 ra1 ra2 ra3 (by omega)
theorem gk_swap {ws0 : List Cond} {tb : String → gz_T} (hws : gc_Ws ws0) (htb : gc_tbs tb) {sh : gz_Sh} {ro : Nat → Nat} {I : gr_I} {J : gr_J} {A : gc_A} (hs : gh_HS sh ro I J A) (hc : gh_HC sh ro A I) (a1 : Int) (a2 : Int) (a3 : Int) (ra1 : (-2147483648) ≤ a1 ∧ a1 ≤ 2147483647) (ra2 : (-2147483648) ≤ a2 ∧ a2 ≤ 2147483647) (ra3 : (-2147483648) ≤ a3 ∧ a3 ≤ 2147483647) : (((0 ≤ a1 ∧ a1 < I 8 1) ∧ (0 ≤ a2 ∧ a2 < I 2 1) ∧ 0 ≤ a3 ∧ a3 < I 8 1) ∧ gk_R ws0 tb (yX12_swap, cX12_swap, 9, (some .int)) [.inr (.inr (some 0)), .inl a1, .inl a2, .inl a3] sh ro I J A (0) 0) ∨ (¬ ((0 ≤ a1 ∧ a1 < I 8 1) ∧ (0 ≤ a2 ∧ a2 < I 2 1) ∧ 0 ≤ a3 ∧ a3 < I 8 1) ∧ gk_T ws0 tb (yX12_swap, cX12_swap, 9, (some .int)) [.inr (.inr (some 0)), .inl a1, .inl a2, .inl a3] sh I J A px_IAE) := by
  by_cases c : (0 ≤ a1 ∧ a1 < I 8 1) ∧ (0 ≤ a2 ∧ a2 < I 2 1) ∧ 0 ≤ a3 ∧ a3 < I 8 1
  · left
    refine ⟨c, ?_⟩
    obtain ⟨z, Iₚ, Jₚ, E9, K9⟩ := hh_swap hws htb hs hc a1 a2 a3 c.1 c.2.1 c.2.2
    exact ⟨_, Iₚ, Jₚ, E9, K9⟩
  · right
    refine ⟨c, ?_⟩
    by_cases d : 0 ≤ a1 ∧ a1 < I 8 1
    · skip
      by_cases e : 0 ≤ a2 ∧ a2 < I 2 1
      · exact ht_swap_u hws htb hs a1 a2 a3 ra1 ra2 ra3 d e (by omega)
      · exact ht_swap_k hws htb hs a1 a2 a3 ra1 ra2 ra3 d (by omega)
    · exact ht_swap_t hws htb hs a1 a2 a3 ra1 ra2 ra3 (by omega)
theorem gk_count {ws0 : List Cond} {tb : String → gz_T} (hws : gc_Ws ws0) (htb : gc_tbs tb) {sh : gz_Sh} {ro : Nat → Nat} {I : gr_I} {J : gr_J} {A : gc_A} (hs : gh_HS sh ro I J A) (hc : gh_HC sh ro A I) (a1 : Int) (a2 : Int) (ra1 : (-2147483648) ≤ a1 ∧ a1 ≤ 2147483647) (ra2 : (-2147483648) ≤ a2 ∧ a2 ≤ 2147483647) : (((0 ≤ a2 ∧ a2 ≤ 7) ∨ (8 ≤ a2 ∧ a2 ≤ 14 ∧ 0 ≤ a1 ∧ a1 < I 8 1)) ∧ gk_R ws0 tb (yX12_count, cX12_count, 3, (some .int)) [.inr (.inr (some 0)), .inl a1, .inl a2] sh ro I J A (I 23 1) 0) ∨ (¬ ((0 ≤ a2 ∧ a2 ≤ 7) ∨ (8 ≤ a2 ∧ a2 ≤ 14 ∧ 0 ≤ a1 ∧ a1 < I 8 1)) ∧ gk_T ws0 tb (yX12_count, cX12_count, 3, (some .int)) [.inr (.inr (some 0)), .inl a1, .inl a2] sh I J A px_IAE) := by
  by_cases c : (0 ≤ a2 ∧ a2 ≤ 7) ∨ (8 ≤ a2 ∧ a2 ≤ 14 ∧ 0 ≤ a1 ∧ a1 < I 8 1)
  · left
    refine ⟨c, ?_⟩
    by_cases d0 : a2 ≤ 7
    · skip
      obtain ⟨z, Iₚ, Jₚ, E9, K9⟩ := hh_count_s hws htb hs hc a1 a2 ra1 ⟨by omega, by omega⟩
      exact ⟨_, Iₚ, Jₚ, E9, K9⟩
    obtain ⟨z, Iₚ, Jₚ, E9, K9⟩ := hh_count_t hws htb hs hc a1 a2 ⟨by omega, by omega⟩ ⟨by omega, by omega⟩
    exact ⟨_, Iₚ, Jₚ, E9, K9⟩
  · right
    refine ⟨c, ?_⟩
    by_cases d : 8 ≤ a2 ∧ a2 ≤ 14
    · exact ht_count_t hws htb hs a1 a2 ra1 ra2 (by omega) d
    · exact ht_count_w hws htb hs a1 a2 ra1 ra2 (by omega)
theorem gk_cell {ws0 : List Cond} {tb : String → gz_T} (hws : gc_Ws ws0) (htb : gc_tbs tb) {sh : gz_Sh} {ro : Nat → Nat} {I : gr_I} {J : gr_J} {A : gc_A} (hs : gh_HS sh ro I J A) (hc : gh_HC sh ro A I) (a1 a2 a3 : Int) (ra1 : (-2147483648) ≤ a1 ∧ a1 ≤ 2147483647) (ra2 : (-2147483648) ≤ a2 ∧ a2 ≤ 2147483647) (ra3 : (-2147483648) ≤ a3 ∧ a3 ≤ 2147483647) : gk_R ws0 tb (yX12_cell, cX12_cell, 7, (some .int)) [.inr (.inr (some 0)), .inl a1, .inl a2, .inl a3] sh ro I J A (I 23 1) 0 ∨ gk_T ws0 tb (yX12_cell, cX12_cell, 7, (some .int)) [.inr (.inr (some 0)), .inl a1, .inl a2, .inl a3] sh I J A px_IAE := by
  by_cases c : 0 ≤ a1 ∧ a1 < I 8 1
  · obtain ⟨t, ht, _⟩ := hs.2.2.2.2.1 (Int.toNat a1) (by omega)
    have i8 : 0 ≤ I 8 1 ∧ I 8 1 ≤ 8 := gc_in hs.2.1 (gc_bR hs.1 (by decide) rfl) rfl rfl
    have Tt := hs.2.2.2.1.1 (Int.toNat a1) t (by omega) ht
    obtain ⟨S_t, R_t, B_t, _⟩ := id Tt.1
    have i11 : 0 ≤ I t 11 ∧ I t 11 ≤ 64 := gc_in hs.2.1 R_t rfl rfl
    have e9 : ∀ u, A 10 (Int.toNat a1) = some u → u = t := fun u hu => Option.some.inj (hu.symm.trans ht)
    by_cases d : 0 ≤ a2 ∧ a2 < I t 11
    · by_cases e : 0 ≤ a3 ∧ a3 < I (t + 13) (Int.toNat (I (t + 15) (Int.toNat ((a2 * 11) + 1))))
      · left
        obtain ⟨r8, h8, E8, rfl, z8, rfl, z1, z2, z3⟩ := d_X11_cellsOf_w (ws0 := ws0) (tb := tb) hws htb sh ro I J A hs.2.1 t a2 Tt.1 ⟨by omega, by omega⟩
        obtain ⟨z, Iₚ, Jₚ, E9, K9⟩ := hh_cell hws htb hs hc a1 a2 a3 c ⟨by omega, by omega⟩ ⟨by omega, by omega⟩ (fun u hu => by rw [e9 u hu]; exact ⟨d.2, e.2⟩)
        exact ⟨_, Iₚ, Jₚ, E9, K9⟩
      · right
        exact ht_cell_c hws htb hs a1 a2 a3 ra1 ra2 ra3 c (fun u hu => by rw [e9 u hu]; exact d) (fun u hu => by rw [e9 u hu]; omega)
    · right
      exact ht_cell_w hws htb hs a1 a2 a3 ra1 ra2 ra3 c (fun u hu => by rw [e9 u hu]; omega)
  · right
    exact ht_cell_t hws htb hs a1 a2 a3 ra1 ra2 ra3 (by omega)
