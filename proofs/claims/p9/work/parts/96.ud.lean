/-! ONE CALL ON BOTH SIDES. -/
def gp_S (ws0 : List Cond) (tb : String → gz_T) (ext : gz_Sh) (M : gx_M) (av : List gz_V) (Mr : gx_M) (n a s : Nat) (sh : gz_Sh) (ro : Nat → Nat) (I : gr_I) (J : gr_J) (A : gc_A) (Ir : gr_I) (Jr : gr_J) : Prop := ∃ (rr : gz_V) (Irₚ : gr_I) (Jrₚ : gr_J), gz_Ev ws0 tb 1000 Mr av (gr_sh ++ ext) (gr_h Ir Jr) (some rr) (gr_sh ++ ext) (gr_h Irₚ Jrₚ) 0 0 ∧ ((∃ (r : gz_V) (Iₚ : gr_I) (Jₚ : gr_J), gz_Ev ws0 tb 100 M av sh (gc_h sh I J A) (some r) sh (gc_h sh Iₚ Jₚ A) 0 0 ∧ gp_P (n + 1) a s sh ro Iₚ Jₚ A Irₚ Jrₚ) ∨ (gk_T ws0 tb M av sh I J A px_IAE ∧ gp_P (n + 1) (a + 1) (s + 6) sh ro I J A Irₚ Jrₚ))
def gp_S1 (ws0 : List Cond) (tb : String → gz_T) (ext : gz_Sh) (M : gx_M) (av : List gz_V) (Mr : gx_M) (n a s : Nat) (sh : gz_Sh) (ro : Nat → Nat) (I : gr_I) (J : gr_J) (A : gc_A) (Ir : gr_I) (Jr : gr_J) : Prop := ∃ (rr : gz_V) (Irₚ : gr_I) (Jrₚ : gr_J), gz_Ev ws0 tb 1000 Mr av (gr_sh ++ ext) (gr_h Ir Jr) (some rr) (gr_sh ++ ext) (gr_h Irₚ Jrₚ) 0 0 ∧ ∃ (r : gz_V) (Iₚ : gr_I) (Jₚ : gr_J), gz_Ev ws0 tb 100 M av sh (gc_h sh I J A) (some r) sh (gc_h sh Iₚ Jₚ A) 0 0 ∧ gp_P (n + 1) a s sh ro Iₚ Jₚ A Irₚ Jrₚ 
theorem gp_rule {ws0 : List Cond} {tb : String → gz_T} (hws : gc_Ws ws0) (htb : gc_tbs tb) (hwr : ∀ w ∈ gr_ws, w ∈ ws0) (htr : tb RX13 = gr_T) (ext : gz_Sh) {n a s : Nat} {sh : gz_Sh} {ro : Nat → Nat} {I : gr_I} {J : gr_J} {A : gc_A} {Ir : gr_I} {Jr : gr_J} (h : gp_P n a s sh ro I J A Ir Jr) (hn : n < 64)   : gp_S1 ws0 tb ext (yX12_rule, cX12_rule, 1, (some .int)) [.inr (.inr (some 0))] (yX13_rule, cX13_rule, 1, (some .int)) n a s sh ro I J A Ir Jr := by
  have hs := h.1.1
  have hc := h.1.2.1
  have e1 : I 8 1 = Ir 0 1 := h.2.2.1.2.2.2.1.1
  have e2 : I 2 1 = Ir 0 2 := h.2.2.1.1.1
  have e3 := h.2.2.2.1
  have i3 := gk_tp hs
  obtain ⟨rr, hₚ, E, Irₚ, Jrₚ, rfl, q, t, z, rfl, l1, l2, P⟩ := q_rule hwr htr ext h.2.1.1 hn  
  obtain ⟨r, Iₚ, Jₚ, E9, K9⟩ := gk_rule hws htb hs hc  
  exact ⟨_, Irₚ, Jrₚ, E, r, Iₚ, Jₚ, E9, gp_kp h K9 (Int.le_refl _) q t (P.trans e3.symm)⟩
theorem gp_out {ws0 : List Cond} {tb : String → gz_T} (hws : gc_Ws ws0) (htb : gc_tbs tb) (hwr : ∀ w ∈ gr_ws, w ∈ ws0) (htr : tb RX13 = gr_T) (ext : gz_Sh) {n a s : Nat} {sh : gz_Sh} {ro : Nat → Nat} {I : gr_I} {J : gr_J} {A : gc_A} {Ir : gr_I} {Jr : gr_J} (h : gp_P n a s sh ro I J A Ir Jr) (hn : n < 64) (a1 : Int) (ra1 : (-2147483648) ≤ a1 ∧ a1 ≤ 2147483647) : gp_S1 ws0 tb ext (yX12_out, cX12_out, 2, (some .int)) [.inr (.inr (some 0)), .inl a1] (yX13_out, cX13_out, 2, (some .int)) n a s sh ro I J A Ir Jr := by
  have hs := h.1.1
  have hc := h.1.2.1
  have e1 : I 8 1 = Ir 0 1 := h.2.2.1.2.2.2.1.1
  have e2 : I 2 1 = Ir 0 2 := h.2.2.1.1.1
  have e3 := h.2.2.2.1
  have i3 := gk_tp hs
  obtain ⟨rr, hₚ, E, Irₚ, Jrₚ, rfl, q, t, z, rfl, l1, l2, P⟩ := q_out hwr htr ext h.2.1.1 hn a1 ra1
  obtain ⟨r, Iₚ, Jₚ, E9, K9⟩ := gk_out hws htb hs hc a1 ra1
  exact ⟨_, Irₚ, Jrₚ, E, r, Iₚ, Jₚ, E9, gp_kp h K9 (Int.le_refl _) q t (P.trans e3.symm)⟩
theorem gp_candidate {ws0 : List Cond} {tb : String → gz_T} (hws : gc_Ws ws0) (htb : gc_tbs tb) (hwr : ∀ w ∈ gr_ws, w ∈ ws0) (htr : tb RX13 = gr_T) (ext : gz_Sh) {n a s : Nat} {sh : gz_Sh} {ro : Nat → Nat} {I : gr_I} {J : gr_J} {A : gc_A} {Ir : gr_I} {Jr : gr_J} (h : gp_P n a s sh ro I J A Ir Jr) (hn : n < 64) (a1 : Int) (ra1 : (-2147483648) ≤ a1 ∧ a1 ≤ 2147483647) : gp_S1 ws0 tb ext (yX12_candidate, cX12_candidate, 2, (some .int)) [.inr (.inr (some 0)), .inl a1] (yX13_candidate, cX13_candidate, 3, (some .int)) n a s sh ro I J A Ir Jr := by
  have hs := h.1.1
  have hc := h.1.2.1
  have e1 : I 8 1 = Ir 0 1 := h.2.2.1.2.2.2.1.1
  have e2 : I 2 1 = Ir 0 2 := h.2.2.1.1.1
  have e3 := h.2.2.2.1
  have i3 := gk_tp hs
  obtain ⟨rr, hₚ, E, Irₚ, Jrₚ, rfl, q, t, z, rfl, l1, l2, P⟩ := q_candidate hwr htr ext h.2.1.1 hn a1 ra1
  obtain ⟨r, Iₚ, Jₚ, E9, K9⟩ := gk_candidate hws htb hs hc a1 ra1
  exact ⟨_, Irₚ, Jrₚ, E, r, Iₚ, Jₚ, E9, gp_kp h K9 (Int.le_refl _) q t (P.trans e3.symm)⟩
theorem gp_trees {ws0 : List Cond} {tb : String → gz_T} (hws : gc_Ws ws0) (htb : gc_tbs tb) (hwr : ∀ w ∈ gr_ws, w ∈ ws0) (htr : tb RX13 = gr_T) (ext : gz_Sh) {n a s : Nat} {sh : gz_Sh} {ro : Nat → Nat} {I : gr_I} {J : gr_J} {A : gc_A} {Ir : gr_I} {Jr : gr_J} (h : gp_P n a s sh ro I J A Ir Jr) (hn : n < 64)   : gp_S1 ws0 tb ext (yX12_trees, cX12_trees, 1, (some .long)) [.inr (.inr (some 0))] (yX13_trees, cX13_trees, 1, (some .long)) n a s sh ro I J A Ir Jr := by
  have hs := h.1.1
  have hc := h.1.2.1
  have e1 : I 8 1 = Ir 0 1 := h.2.2.1.2.2.2.1.1
  have e2 : I 2 1 = Ir 0 2 := h.2.2.1.1.1
  have e3 := h.2.2.2.1
  have i3 := gk_tp hs
  obtain ⟨rr, hₚ, E, Irₚ, Jrₚ, rfl, q, t, z, rfl, P⟩ := q_trees hwr htr ext h.2.1.1 hn  
  obtain ⟨r, Iₚ, Jₚ, E9, K9⟩ := gk_trees hws htb hs hc  
  exact ⟨_, Irₚ, Jrₚ, E, r, Iₚ, Jₚ, E9, gp_kp h K9 (Int.le_refl _) q t (P.trans e3.symm)⟩
theorem gp_price {ws0 : List Cond} {tb : String → gz_T} (hws : gc_Ws ws0) (htb : gc_tbs tb) (hwr : ∀ w ∈ gr_ws, w ∈ ws0) (htr : tb RX13 = gr_T) (ext : gz_Sh) {n a s : Nat} {sh : gz_Sh} {ro : Nat → Nat} {I : gr_I} {J : gr_J} {A : gc_A} {Ir : gr_I} {Jr : gr_J} (h : gp_P n a s sh ro I J A Ir Jr) (hn : n < 64) (a1 : Int) (ra1 : (-2147483648) ≤ a1 ∧ a1 ≤ 2147483647) : gp_S1 ws0 tb ext (yX12_price, cX12_price, 2, (some .int)) [.inr (.inr (some 0)), .inl a1] (yX13_price, cX13_price, 2, (some .int)) n a s sh ro I J A Ir Jr := by
  have hs := h.1.1
  have hc := h.1.2.1
  have e1 : I 8 1 = Ir 0 1 := h.2.2.1.2.2.2.1.1
  have e2 : I 2 1 = Ir 0 2 := h.2.2.1.1.1
  have e3 := h.2.2.2.1
  have i3 := gk_tp hs
  obtain ⟨rr, hₚ, E, Irₚ, Jrₚ, rfl, q, t, z, rfl, l1, l2, P⟩ := q_price hwr htr ext h.2.1.1 hn a1 ra1
  obtain ⟨r, Iₚ, Jₚ, E9, K9⟩ := gk_price hws htb hs hc a1 ra1
  exact ⟨_, Irₚ, Jrₚ, E, r, Iₚ, Jₚ, E9, gp_kp h K9 (Int.le_refl _) q t (P.trans e3.symm)⟩
theorem gp_end {ws0 : List Cond} {tb : String → gz_T} (hws : gc_Ws ws0) (htb : gc_tbs tb) (hwr : ∀ w ∈ gr_ws, w ∈ ws0) (htr : tb RX13 = gr_T) (ext : gz_Sh) {n a s : Nat} {sh : gz_Sh} {ro : Nat → Nat} {I : gr_I} {J : gr_J} {A : gc_A} {Ir : gr_I} {Jr : gr_J} (h : gp_P n a s sh ro I J A Ir Jr) (hn : n < 64) (a1 : Int) (ra1 : (-2147483648) ≤ a1 ∧ a1 ≤ 2147483647) : gp_S ws0 tb ext (yX12_end, cX12_end, 2, (some .int)) [.inr (.inr (some 0)), .inl a1] (yX13_end, cX13_end, 2, (some .int)) n a s sh ro I J A Ir Jr := by
  have hs := h.1.1
  have hc := h.1.2.1
  have e1 : I 8 1 = Ir 0 1 := h.2.2.1.2.2.2.1.1
  have e2 : I 2 1 = Ir 0 2 := h.2.2.1.1.1
  have e3 := h.2.2.2.1
  have i3 := gk_tp hs
  obtain ⟨rr, hₚ, E, Irₚ, Jrₚ, rfl, q, t, z, rfl, l1, l2, P⟩ := q_end hwr htr ext h.2.1.1 hn a1 ra1
  rcases gk_end hws htb hs hc a1 ra1 with ⟨c, r, Iₚ, Jₚ, E9, K9⟩ | ⟨c, T9⟩
  · exact ⟨_, Irₚ, Jrₚ, E, Or.inl ⟨r, Iₚ, Jₚ, E9, gp_kp h K9 (by omega) q t (by omega)⟩⟩
  · exact ⟨_, Irₚ, Jrₚ, E, Or.inr ⟨T9, gp_th h q t (by omega)⟩⟩
theorem gp_number {ws0 : List Cond} {tb : String → gz_T} (hws : gc_Ws ws0) (htb : gc_tbs tb) (hwr : ∀ w ∈ gr_ws, w ∈ ws0) (htr : tb RX13 = gr_T) (ext : gz_Sh) {n a s : Nat} {sh : gz_Sh} {ro : Nat → Nat} {I : gr_I} {J : gr_J} {A : gc_A} {Ir : gr_I} {Jr : gr_J} (h : gp_P n a s sh ro I J A Ir Jr) (hn : n < 64) (a1 : Int) (a2 : Int) (ra1 : (-2147483648) ≤ a1 ∧ a1 ≤ 2147483647) (ra2 : (-2147483648) ≤ a2 ∧ a2 ≤ 2147483647) : gp_S ws0 tb ext (yX12_number, cX12_number, 6, (some .int)) [.inr (.inr (some 0)), .inl a1, .inl a2] (yX13_number, cX13_number, 5, (some .int)) n a s sh ro I J A Ir Jr := by
  have hs := h.1.1
  have hc := h.1.2.1
  have e1 : I 8 1 = Ir 0 1 := h.2.2.1.2.2.2.1.1
  have e2 : I 2 1 = Ir 0 2 := h.2.2.1.1.1
  have e3 := h.2.2.2.1
  have i3 := gk_tp hs
  obtain ⟨rr, hₚ, E, Irₚ, Jrₚ, rfl, q, t, z, rfl, l1, l2, P1, P2⟩ := q_number hwr htr ext h.2.1.1 hn a1 a2 ra1 ra2
  rcases gk_number hws htb hs hc a1 a2 ra1 ra2 with ⟨c, r, Iₚ, Jₚ, E9, K9⟩ | ⟨c, T9⟩
  · exact ⟨_, Irₚ, Jrₚ, E, Or.inl ⟨r, Iₚ, Jₚ, E9, gp_kp h K9 (by omega) q t (P1 (by omega))⟩⟩
  · exact ⟨_, Irₚ, Jrₚ, E, Or.inr ⟨T9, gp_th h q t (P2 (by omega))⟩⟩
set_option maxHeartbeats 8000000 in
theorem gp_sounds {ws0 : List Cond} {tb : String → gz_T} (hws : gc_Ws ws0) (htb : gc_tbs tb) (hwr : ∀ w ∈ gr_ws, w ∈ ws0) (htr : tb RX13 = gr_T) (ext : gz_Sh) {n a s : Nat} {sh : gz_Sh} {ro : Nat → Nat} {I : gr_I} {J : gr_J} {A : gc_A} {Ir : gr_I} {Jr : gr_J} (h : gp_P n a s sh ro I J A Ir Jr) (hn : n < 64) (a1 : Int) (ra1 : (-2147483648) ≤ a1 ∧ a1 ≤ 2147483647) : gp_S ws0 tb ext (yX12_sounds, cX12_sounds, 4, (some .int)) [.inr (.inr (some 0)), .inl a1] (yX13_sounds, cX13_sounds, 3, (some .int)) n a s sh ro I J A Ir Jr := by
  have hs := h.1.1
  have hc := h.1.2.1
  have e1 : I 8 1 = Ir 0 1 := h.2.2.1.2.2.2.1.1
  have e2 : I 2 1 = Ir 0 2 := h.2.2.1.1.1
  have e3 := h.2.2.2.1
  have i3 := gk_tp hs
  obtain ⟨rr, hₚ, E, Irₚ, Jrₚ, rfl, q, t, z, rfl, l1, l2, P1, P2⟩ := q_sounds hwr htr ext h.2.1.1 hn a1 ra1
  rcases gk_sounds hws htb hs hc a1 ra1 with ⟨c, r, Iₚ, Jₚ, E9, K9⟩ | ⟨c, T9⟩
  · exact ⟨_, Irₚ, Jrₚ, E, Or.inl ⟨r, Iₚ, Jₚ, E9, gp_kp h K9 (by exact gz_m 0 (by omega)) q t (P1 (by exact gz_m 1 (by omega)))⟩⟩
  · exact ⟨_, Irₚ, Jrₚ, E, Or.inr ⟨T9, gp_th h q t (P2 (by exact gz_m 2 (by omega)))⟩⟩
theorem gp_ask {ws0 : List Cond} {tb : String → gz_T} (hws : gc_Ws ws0) (htb : gc_tbs tb) (hwr : ∀ w ∈ gr_ws, w ∈ ws0) (htr : tb RX13 = gr_T) (ext : gz_Sh) {n a s : Nat} {sh : gz_Sh} {ro : Nat → Nat} {I : gr_I} {J : gr_J} {A : gc_A} {Ir : gr_I} {Jr : gr_J} (h : gp_P n a s sh ro I J A Ir Jr) (hn : n < 64) (a1 : Int) (ra1 : (-2147483648) ≤ a1 ∧ a1 ≤ 2147483647) : gp_S ws0 tb ext (yX12_ask, cX12_ask, 4, (some .int)) [.inr (.inr (some 0)), .inl a1] (yX13_ask, cX13_ask, 7, (some .int)) n a s sh ro I J A Ir Jr := by
  have hs := h.1.1
  have hc := h.1.2.1
  have e1 : I 8 1 = Ir 0 1 := h.2.2.1.2.2.2.1.1
  have e2 : I 2 1 = Ir 0 2 := h.2.2.1.1.1
  have e3 := h.2.2.2.1
  have i3 := gk_tp hs
  obtain ⟨rr, hₚ, E, Irₚ, Jrₚ, rfl, q, t, z, rfl, l1, l2, P1, P2⟩ := q_ask hwr htr ext h.2.1.1 hn a1 ra1
  rcases gk_ask hws htb hs hc a1 ra1 with ⟨c, r, Iₚ, Jₚ, E9, K9⟩ | ⟨c, T9⟩
  · exact ⟨_, Irₚ, Jrₚ, E, Or.inl ⟨r, Iₚ, Jₚ, E9, gp_kp h K9 (by omega) q t (P1 (by omega))⟩⟩
  · exact ⟨_, Irₚ, Jrₚ, E, Or.inr ⟨T9, gp_th h q t (P2 (by omega))⟩⟩
theorem gp_analysis {ws0 : List Cond} {tb : String → gz_T} (hws : gc_Ws ws0) (htb : gc_tbs tb) (hwr : ∀ w ∈ gr_ws, w ∈ ws0) (htr : tb RX13 = gr_T) (ext : gz_Sh) {n a s : Nat} {sh : gz_Sh} {ro : Nat → Nat} {I : gr_I} {J : gr_J} {A : gc_A} {Ir : gr_I} {Jr : gr_J} (h : gp_P n a s sh ro I J A Ir Jr) (hn : n < 64) (a1 : Int) (a2 : Int) (ra1 : (-2147483648) ≤ a1 ∧ a1 ≤ 2147483647) (ra2 : (-2147483648) ≤ a2 ∧ a2 ≤ 2147483647) : gp_S ws0 tb ext (yX12_analysis, cX12_analysis, 3, (some .int)) [.inr (.inr (some 0)), .inl a1, .inl a2] (yX13_analysis, cX13_analysis, 6, (some .int)) n a s sh ro I J A Ir Jr := by
  have hs := h.1.1
  have hc := h.1.2.1
  have e1 : I 8 1 = Ir 0 1 := h.2.2.1.2.2.2.1.1
  have e2 : I 2 1 = Ir 0 2 := h.2.2.1.1.1
  have e3 := h.2.2.2.1
  have i3 := gk_tp hs
  obtain ⟨rr, hₚ, E, Irₚ, Jrₚ, rfl, q, t, z, rfl, l1, l2, P⟩ := q_analysis hwr htr ext h.2.1.1 hn a1 a2 ra1 ra2
  rcases gk_analysis hws htb hs hc a1 a2 ra1 ra2 with ⟨c, r, Iₚ, Jₚ, E9, K9⟩ | ⟨c, T9⟩
  · exact ⟨_, Irₚ, Jrₚ, E, Or.inl ⟨r, Iₚ, Jₚ, E9, gp_kp h K9 (Int.le_refl _) q t (P.trans e3.symm)⟩⟩
  · exact ⟨_, Irₚ, Jrₚ, E, Or.inr ⟨T9, gp_th h q t P⟩⟩
theorem gp_guessed {ws0 : List Cond} {tb : String → gz_T} (hws : gc_Ws ws0) (htb : gc_tbs tb) (hwr : ∀ w ∈ gr_ws, w ∈ ws0) (htr : tb RX13 = gr_T) (ext : gz_Sh) {n a s : Nat} {sh : gz_Sh} {ro : Nat → Nat} {I : gr_I} {J : gr_J} {A : gc_A} {Ir : gr_I} {Jr : gr_J} (h : gp_P n a s sh ro I J A Ir Jr) (hn : n < 64) (a1 : Int) (a2 : Int) (ra1 : (-2147483648) ≤ a1 ∧ a1 ≤ 2147483647) (ra2 : (-2147483648) ≤ a2 ∧ a2 ≤ 2147483647) : gp_S ws0 tb ext (yX12_guessed, cX12_guessed, 3, (some .int)) [.inr (.inr (some 0)), .inl a1, .inl a2] (yX13_guessed, cX13_guessed, 3, (some .int)) n a s sh ro I J A Ir Jr := by
  have hs := h.1.1
  have hc := h.1.2.1
  have e1 : I 8 1 = Ir 0 1 := h.2.2.1.2.2.2.1.1
  have e2 : I 2 1 = Ir 0 2 := h.2.2.1.1.1
  have e3 := h.2.2.2.1
  have i3 := gk_tp hs
  obtain ⟨rr, hₚ, E, Irₚ, Jrₚ, rfl, q, t, z, rfl, l1, l2, P⟩ := q_guessed hwr htr ext h.2.1.1 hn a1 a2 ra1 ra2
  rcases gk_guessed hws htb hs hc a1 a2 ra1 ra2 with ⟨c, r, Iₚ, Jₚ, E9, K9⟩ | ⟨c, T9⟩
  · exact ⟨_, Irₚ, Jrₚ, E, Or.inl ⟨r, Iₚ, Jₚ, E9, gp_kp h K9 (Int.le_refl _) q t (P.trans e3.symm)⟩⟩
  · exact ⟨_, Irₚ, Jrₚ, E, Or.inr ⟨T9, gp_th h q t P⟩⟩
theorem gp_hit {ws0 : List Cond} {tb : String → gz_T} (hws : gc_Ws ws0) (htb : gc_tbs tb) (hwr : ∀ w ∈ gr_ws, w ∈ ws0) (htr : tb RX13 = gr_T) (ext : gz_Sh) {n a s : Nat} {sh : gz_Sh} {ro : Nat → Nat} {I : gr_I} {J : gr_J} {A : gc_A} {Ir : gr_I} {Jr : gr_J} (h : gp_P n a s sh ro I J A Ir Jr) (hn : n < 64) (a1 : Int) (a2 : Int) (ra1 : (-2147483648) ≤ a1 ∧ a1 ≤ 2147483647) (ra2 : (-2147483648) ≤ a2 ∧ a2 ≤ 2147483647) : gp_S ws0 tb ext (yX12_hit, cX12_hit, 3, (some .int)) [.inr (.inr (some 0)), .inl a1, .inl a2] (yX13_hit, cX13_hit, 3, (some .int)) n a s sh ro I J A Ir Jr := by
  have hs := h.1.1
  have hc := h.1.2.1
  have e1 : I 8 1 = Ir 0 1 := h.2.2.1.2.2.2.1.1
  have e2 : I 2 1 = Ir 0 2 := h.2.2.1.1.1
  have e3 := h.2.2.2.1
  have i3 := gk_tp hs
  obtain ⟨rr, hₚ, E, Irₚ, Jrₚ, rfl, q, t, z, rfl, l1, l2, P⟩ := q_hit hwr htr ext h.2.1.1 hn a1 a2 ra1 ra2
  rcases gk_hit hws htb hs hc a1 a2 ra1 ra2 with ⟨c, r, Iₚ, Jₚ, E9, K9⟩ | ⟨c, T9⟩
  · exact ⟨_, Irₚ, Jrₚ, E, Or.inl ⟨r, Iₚ, Jₚ, E9, gp_kp h K9 (Int.le_refl _) q t (P.trans e3.symm)⟩⟩
  · exact ⟨_, Irₚ, Jrₚ, E, Or.inr ⟨T9, gp_th h q t P⟩⟩
theorem gp_parse {ws0 : List Cond} {tb : String → gz_T} (hws : gc_Ws ws0) (htb : gc_tbs tb) (hwr : ∀ w ∈ gr_ws, w ∈ ws0) (htr : tb RX13 = gr_T) (ext : gz_Sh) {n a s : Nat} {sh : gz_Sh} {ro : Nat → Nat} {I : gr_I} {J : gr_J} {A : gc_A} {Ir : gr_I} {Jr : gr_J} (h : gp_P n a s sh ro I J A Ir Jr) (hn : n < 64) (a1 : Int) (a2 : Int) (ra1 : (-2147483648) ≤ a1 ∧ a1 ≤ 2147483647) (ra2 : (-2147483648) ≤ a2 ∧ a2 ≤ 2147483647) : gp_S ws0 tb ext (yX12_parse, cX12_parse, 5, (some .int)) [.inr (.inr (some 0)), .inl a1, .inl a2] (yX13_parse, cX13_parse, 3, (some .int)) n a s sh ro I J A Ir Jr := by
  have hs := h.1.1
  have hc := h.1.2.1
  have e1 : I 8 1 = Ir 0 1 := h.2.2.1.2.2.2.1.1
  have e2 : I 2 1 = Ir 0 2 := h.2.2.1.1.1
  have e3 := h.2.2.2.1
  have i3 := gk_tp hs
  obtain ⟨rr, hₚ, E, Irₚ, Jrₚ, rfl, q, t, z, rfl, l1, l2, P1, P2⟩ := q_parse hwr htr ext h.2.1.1 hn a1 a2 ra1 ra2
  rcases gk_parse hws htb hs hc a1 a2 ra1 ra2 with ⟨c, r, Iₚ, Jₚ, E9, K9⟩ | ⟨c, T9⟩
  · exact ⟨_, Irₚ, Jrₚ, E, Or.inl ⟨r, Iₚ, Jₚ, E9, gp_kp h K9 (by omega) q t (P1 (by omega))⟩⟩
  · exact ⟨_, Irₚ, Jrₚ, E, Or.inr ⟨T9, gp_th h q t (P2 (by omega))⟩⟩
theorem gp_mend {ws0 : List Cond} {tb : String → gz_T} (hws : gc_Ws ws0) (htb : gc_tbs tb) (hwr : ∀ w ∈ gr_ws, w ∈ ws0) (htr : tb RX13 = gr_T) (ext : gz_Sh) {n a s : Nat} {sh : gz_Sh} {ro : Nat → Nat} {I : gr_I} {J : gr_J} {A : gc_A} {Ir : gr_I} {Jr : gr_J} (h : gp_P n a s sh ro I J A Ir Jr) (hn : n < 64) (a1 : Int) (a2 : Int) (ra1 : (-2147483648) ≤ a1 ∧ a1 ≤ 2147483647) (ra2 : (-2147483648) ≤ a2 ∧ a2 ≤ 2147483647) : gp_S ws0 tb ext (yX12_mend, cX12_mend, 10, (some .int)) [.inr (.inr (some 0)), .inl a1, .inl a2] (yX13_mend, cX13_mend, 4, (some .int)) n a s sh ro I J A Ir Jr := by
  have hs := h.1.1
  have hc := h.1.2.1
  have e1 : I 8 1 = Ir 0 1 := h.2.2.1.2.2.2.1.1
  have e2 : I 2 1 = Ir 0 2 := h.2.2.1.1.1
  have e3 := h.2.2.2.1
  have i3 := gk_tp hs
  obtain ⟨rr, hₚ, E, Irₚ, Jrₚ, rfl, q, t, z, rfl, l1, l2, P1, P2⟩ := q_mend hwr htr ext h.2.1.1 hn a1 a2 ra1 ra2
  rcases gk_mend hws htb hs hc a1 a2 ra1 ra2 with ⟨c, r, Iₚ, Jₚ, E9, K9⟩ | ⟨c, T9⟩
  · exact ⟨_, Irₚ, Jrₚ, E, Or.inl ⟨r, Iₚ, Jₚ, E9, gp_kp h K9 (by omega) q t (P1 (by omega))⟩⟩
  · exact ⟨_, Irₚ, Jrₚ, E, Or.inr ⟨T9, gp_th h q t (P2 (by omega))⟩⟩
theorem gp_bar {ws0 : List Cond} {tb : String → gz_T} (hws : gc_Ws ws0) (htb : gc_tbs tb) (hwr : ∀ w ∈ gr_ws, w ∈ ws0) (htr : tb RX13 = gr_T) (ext : gz_Sh) {n a s : Nat} {sh : gz_Sh} {ro : Nat → Nat} {I : gr_I} {J : gr_J} {A : gc_A} {Ir : gr_I} {Jr : gr_J} (h : gp_P n a s sh ro I J A Ir Jr) (hn : n < 64) (a1 : Int) (a2 : Int) (ra1 : (-2147483648) ≤ a1 ∧ a1 ≤ 2147483647) (ra2 : (-2147483648) ≤ a2 ∧ a2 ≤ 2147483647) (b2 : 0 ≤ a2 ∧ a2 ≤ 1) : gp_S ws0 tb ext (yX12_bar, cX12_bar, 3, (some .long)) [.inr (.inr (some 0)), .inl a1, .inl a2] (yX13_bar, cX13_bar, 3, (some .long)) n a s sh ro I J A Ir Jr := by
  have hs := h.1.1
  have hc := h.1.2.1
  have e1 : I 8 1 = Ir 0 1 := h.2.2.1.2.2.2.1.1
  have e2 : I 2 1 = Ir 0 2 := h.2.2.1.1.1
  have e3 := h.2.2.2.1
  have i3 := gk_tp hs
  obtain ⟨rr, hₚ, E, Irₚ, Jrₚ, rfl, q, t, z, rfl, P⟩ := q_bar hwr htr ext h.2.1.1 hn a1 a2 ra1 b2
  rcases gk_bar hws htb hs hc a1 a2 ra1 ra2 b2 with ⟨c, r, Iₚ, Jₚ, E9, K9⟩ | ⟨c, T9⟩
  · exact ⟨_, Irₚ, Jrₚ, E, Or.inl ⟨r, Iₚ, Jₚ, E9, gp_kp h K9 (Int.le_refl _) q t (P.trans e3.symm)⟩⟩
  · exact ⟨_, Irₚ, Jrₚ, E, Or.inr ⟨T9, gp_th h q t P⟩⟩
theorem gp_reading {ws0 : List Cond} {tb : String → gz_T} (hws : gc_Ws ws0) (htb : gc_tbs tb) (hwr : ∀ w ∈ gr_ws, w ∈ ws0) (htr : tb RX13 = gr_T) (ext : gz_Sh) {n a s : Nat} {sh : gz_Sh} {ro : Nat → Nat} {I : gr_I} {J : gr_J} {A : gc_A} {Ir : gr_I} {Jr : gr_J} (h : gp_P n a s sh ro I J A Ir Jr) (hn : n < 64) (a1 : Int) (a2 : Int) (ra1 : (-2147483648) ≤ a1 ∧ a1 ≤ 2147483647) (ra2 : (-2147483648) ≤ a2 ∧ a2 ≤ 2147483647) : gp_S ws0 tb ext (yX12_reading, cX12_reading, 4, (some .int)) [.inr (.inr (some 0)), .inl a1, .inl a2] (yX13_reading, cX13_reading, 4, (some .int)) n a s sh ro I J A Ir Jr := by
  have hs := h.1.1
  have hc := h.1.2.1
  have e1 : I 8 1 = Ir 0 1 := h.2.2.1.2.2.2.1.1
  have e2 : I 2 1 = Ir 0 2 := h.2.2.1.1.1
  have e3 := h.2.2.2.1
  have i3 := gk_tp hs
  obtain ⟨rr, hₚ, E, Irₚ, Jrₚ, rfl, q, t, z, rfl, l1, l2, P⟩ := q_reading hwr htr ext h.2.1.1 hn a1 a2 ra1 ra2
  rcases gk_reading hws htb hs hc a1 a2 ra1 ra2 with ⟨c, r, Iₚ, Jₚ, E9, K9⟩ | ⟨c, T9⟩
  · exact ⟨_, Irₚ, Jrₚ, E, Or.inl ⟨r, Iₚ, Jₚ, E9, gp_kp h K9 (Int.le_refl _) q t (P.trans e3.symm)⟩⟩
  · exact ⟨_, Irₚ, Jrₚ, E, Or.inr ⟨T9, gp_th h q t P⟩⟩
theorem gp_tree {ws0 : List Cond} {tb : String → gz_T} (hws : gc_Ws ws0) (htb : gc_tbs tb) (hwr : ∀ w ∈ gr_ws, w ∈ ws0) (htr : tb RX13 = gr_T) (ext : gz_Sh) {n a s : Nat} {sh : gz_Sh} {ro : Nat → Nat} {I : gr_I} {J : gr_J} {A : gc_A} {Ir : gr_I} {Jr : gr_J} (h : gp_P n a s sh ro I J A Ir Jr) (hn : n < 64) (a1 : Int) (ra1 : (-2147483648) ≤ a1 ∧ a1 ≤ 2147483647) : gp_S ws0 tb ext (yX12_tree, cX12_tree, 3, (some .int)) [.inr (.inr (some 0)), .inl a1] (yX13_tree, cX13_tree, 3, (some .int)) n a s sh ro I J A Ir Jr := by
  have hs := h.1.1
  have hc := h.1.2.1
  have e1 : I 8 1 = Ir 0 1 := h.2.2.1.2.2.2.1.1
  have e2 : I 2 1 = Ir 0 2 := h.2.2.1.1.1
  have e3 := h.2.2.2.1
  have i3 := gk_tp hs
  obtain ⟨rr, hₚ, E, Irₚ, Jrₚ, rfl, q, t, z, rfl, l1, l2, P1, P2⟩ := q_tree hwr htr ext h.2.1.1 hn a1 ra1
  rcases gk_tree hws htb hs hc a1 ra1 with ⟨c, r, Iₚ, Jₚ, E9, K9⟩ | ⟨c, T9⟩
  · exact ⟨_, Irₚ, Jrₚ, E, Or.inl ⟨r, Iₚ, Jₚ, E9, gp_kp h K9 (by omega) q t (P1 (by omega))⟩⟩
  · exact ⟨_, Irₚ, Jrₚ, E, Or.inr ⟨T9, gp_th h q t (P2 (by omega))⟩⟩
theorem gp_show {ws0 : List Cond} {tb : String → gz_T} (hws : gc_Ws ws0) (htb : gc_tbs tb) (hwr : ∀ w ∈ gr_ws, w ∈ ws0) (htr : tb RX13 = gr_T) (ext : gz_Sh) {n a s : Nat} {sh : gz_Sh} {ro : Nat → Nat} {I : gr_I} {J : gr_J} {A : gc_A} {Ir : gr_I} {Jr : gr_J} (h : gp_P n a s sh ro I J A Ir Jr) (hn : n < 64) (a1 : Int) (ra1 : (-2147483648) ≤ a1 ∧ a1 ≤ 2147483647) : gp_S ws0 tb ext (yX12_show, cX12_show, 2, (some .int)) [.inr (.inr (some 0)), .inl a1] (yX13_show, cX13_show, 2, (some .int)) n a s sh ro I J A Ir Jr := by
  have hs := h.1.1
  have hc := h.1.2.1
  have e1 : I 8 1 = Ir 0 1 := h.2.2.1.2.2.2.1.1
  have e2 : I 2 1 = Ir 0 2 := h.2.2.1.1.1
  have e3 := h.2.2.2.1
  have i3 := gk_tp hs
  obtain ⟨rr, hₚ, E, Irₚ, Jrₚ, rfl, q, t, z, rfl, l1, l2, P⟩ := q_show hwr htr ext h.2.1.1 hn a1 ra1
  rcases gk_show hws htb hs hc a1 ra1 with ⟨c, r, Iₚ, Jₚ, E9, K9⟩ | ⟨c, T9⟩
  · exact ⟨_, Irₚ, Jrₚ, E, Or.inl ⟨r, Iₚ, Jₚ, E9, gp_kp h K9 (Int.le_refl _) q t (P.trans e3.symm)⟩⟩
  · exact ⟨_, Irₚ, Jrₚ, E, Or.inr ⟨T9, gp_th h q t P⟩⟩
theorem gp_mean {ws0 : List Cond} {tb : String → gz_T} (hws : gc_Ws ws0) (htb : gc_tbs tb) (hwr : ∀ w ∈ gr_ws, w ∈ ws0) (htr : tb RX13 = gr_T) (ext : gz_Sh) {n a s : Nat} {sh : gz_Sh} {ro : Nat → Nat} {I : gr_I} {J : gr_J} {A : gc_A} {Ir : gr_I} {Jr : gr_J} (h : gp_P n a s sh ro I J A Ir Jr) (hn : n < 64) (a1 : Int) (ra1 : (-2147483648) ≤ a1 ∧ a1 ≤ 2147483647) : gp_S ws0 tb ext (yX12_mean, cX12_mean, 3, (some .int)) [.inr (.inr (some 0)), .inl a1] (yX13_mean_, cX13_mean_, 3, (some .int)) n a s sh ro I J A Ir Jr := by
  have hs := h.1.1
  have hc := h.1.2.1
  have e1 : I 8 1 = Ir 0 1 := h.2.2.1.2.2.2.1.1
  have e2 : I 2 1 = Ir 0 2 := h.2.2.1.1.1
  have e3 := h.2.2.2.1
  have i3 := gk_tp hs
  obtain ⟨rr, hₚ, E, Irₚ, Jrₚ, rfl, q, t, z, rfl, l1, l2, P⟩ := q_mean hwr htr ext h.2.1.1 hn a1 ra1
  rcases gk_mean hws htb hs hc a1 ra1 with ⟨c, r, Iₚ, Jₚ, E9, K9⟩ | ⟨c, T9⟩
  · exact ⟨_, Irₚ, Jrₚ, E, Or.inl ⟨r, Iₚ, Jₚ, E9, gp_kp h K9 (Int.le_refl _) q t (P.trans e3.symm)⟩⟩
  · exact ⟨_, Irₚ, Jrₚ, E, Or.inr ⟨T9, gp_th h q t P⟩⟩
theorem gp_truth {ws0 : List Cond} {tb : String → gz_T} (hws : gc_Ws ws0) (htb : gc_tbs tb) (hwr : ∀ w ∈ gr_ws, w ∈ ws0) (htr : tb RX13 = gr_T) (ext : gz_Sh) {n a s : Nat} {sh : gz_Sh} {ro : Nat → Nat} {I : gr_I} {J : gr_J} {A : gc_A} {Ir : gr_I} {Jr : gr_J} (h : gp_P n a s sh ro I J A Ir Jr) (hn : n < 64) (a1 : Int) (ra1 : (-2147483648) ≤ a1 ∧ a1 ≤ 2147483647) : gp_S ws0 tb ext (yX12_truth, cX12_truth, 3, (some .int)) [.inr (.inr (some 0)), .inl a1] (yX13_truth, cX13_truth, 3, (some .int)) n a s sh ro I J A Ir Jr := by
  have hs := h.1.1
  have hc := h.1.2.1
  have e1 : I 8 1 = Ir 0 1 := h.2.2.1.2.2.2.1.1
  have e2 : I 2 1 = Ir 0 2 := h.2.2.1.1.1
  have e3 := h.2.2.2.1
  have i3 := gk_tp hs
  obtain ⟨rr, hₚ, E, Irₚ, Jrₚ, rfl, q, t, z, rfl, l1, l2, P⟩ := q_truth hwr htr ext h.2.1.1 hn a1 ra1
  rcases gk_truth hws htb hs hc a1 ra1 with ⟨c, r, Iₚ, Jₚ, E9, K9⟩ | ⟨c, T9⟩
  · exact ⟨_, Irₚ, Jrₚ, E, Or.inl ⟨r, Iₚ, Jₚ, E9, gp_kp h K9 (Int.le_refl _) q t (P.trans e3.symm)⟩⟩
  · exact ⟨_, Irₚ, Jrₚ, E, Or.inr ⟨T9, gp_th h q t P⟩⟩
theorem gp_same {ws0 : List Cond} {tb : String → gz_T} (hws : gc_Ws ws0) (htb : gc_tbs tb) (hwr : ∀ w ∈ gr_ws, w ∈ ws0) (htr : tb RX13 = gr_T) (ext : gz_Sh) {n a s : Nat} {sh : gz_Sh} {ro : Nat → Nat} {I : gr_I} {J : gr_J} {A : gc_A} {Ir : gr_I} {Jr : gr_J} (h : gp_P n a s sh ro I J A Ir Jr) (hn : n < 64) (a1 : Int) (a2 : Int) (ra1 : (-2147483648) ≤ a1 ∧ a1 ≤ 2147483647) (ra2 : (-2147483648) ≤ a2 ∧ a2 ≤ 2147483647) : gp_S ws0 tb ext (yX12_same, cX12_same, 4, (some .boolean)) [.inr (.inr (some 0)), .inl a1, .inl a2] (yX13_same, cX13_same, 4, (some .boolean)) n a s sh ro I J A Ir Jr := by
  have hs := h.1.1
  have hc := h.1.2.1
  have e1 : I 8 1 = Ir 0 1 := h.2.2.1.2.2.2.1.1
  have e2 : I 2 1 = Ir 0 2 := h.2.2.1.1.1
  have e3 := h.2.2.2.1
  have i3 := gk_tp hs
  obtain ⟨rr, hₚ, E, Irₚ, Jrₚ, rfl, q, t, z, rfl, l1, l2, P⟩ := q_same hwr htr ext h.2.1.1 hn a1 a2 ra1 ra2
  rcases gk_same hws htb hs hc a1 a2 ra1 ra2 with ⟨c, r, Iₚ, Jₚ, E9, K9⟩ | ⟨c, T9⟩
  · exact ⟨_, Irₚ, Jrₚ, E, Or.inl ⟨r, Iₚ, Jₚ, E9, gp_kp h K9 (Int.le_refl _) q t (P.trans e3.symm)⟩⟩
  · exact ⟨_, Irₚ, Jrₚ, E, Or.inr ⟨T9, gp_th h q t P⟩⟩
theorem gp_say {ws0 : List Cond} {tb : String → gz_T} (hws : gc_Ws ws0) (htb : gc_tbs tb) (hwr : ∀ w ∈ gr_ws, w ∈ ws0) (htr : tb RX13 = gr_T) (ext : gz_Sh) {n a s : Nat} {sh : gz_Sh} {ro : Nat → Nat} {I : gr_I} {J : gr_J} {A : gc_A} {Ir : gr_I} {Jr : gr_J} (h : gp_P n a s sh ro I J A Ir Jr) (hn : n < 64) (a1 : Int) (a2 : Int) (a3 : Int) (ra1 : (-2147483648) ≤ a1 ∧ a1 ≤ 2147483647) (ra2 : (-2147483648) ≤ a2 ∧ a2 ≤ 2147483647) (ra3 : (-2147483648) ≤ a3 ∧ a3 ≤ 2147483647) : gp_S ws0 tb ext (yX12_say, cX12_say, 5, (some .int)) [.inr (.inr (some 0)), .inl a1, .inl a2, .inl a3] (yX13_say, cX13_say, 6, (some .int)) n a s sh ro I J A Ir Jr := by
  have hs := h.1.1
  have hc := h.1.2.1
  have e1 : I 8 1 = Ir 0 1 := h.2.2.1.2.2.2.1.1
  have e2 : I 2 1 = Ir 0 2 := h.2.2.1.1.1
  have e3 := h.2.2.2.1
  have i3 := gk_tp hs
  obtain ⟨rr, hₚ, E, Irₚ, Jrₚ, rfl, q, t, z, rfl, l1, l2, P⟩ := q_say hwr htr ext h.2.1.1 hn a1 a2 a3 ra1 ra2 ra3
  rcases gk_say hws htb hs hc a1 a2 a3 ra1 ra2 ra3 with ⟨c, r, Iₚ, Jₚ, E9, K9⟩ | ⟨c, T9⟩
  · exact ⟨_, Irₚ, Jrₚ, E, Or.inl ⟨r, Iₚ, Jₚ, E9, gp_kp h K9 (Int.le_refl _) q t (P.trans e3.symm)⟩⟩
  · exact ⟨_, Irₚ, Jrₚ, E, Or.inr ⟨T9, gp_th h q t P⟩⟩
theorem gp_swap {ws0 : List Cond} {tb : String → gz_T} (hws : gc_Ws ws0) (htb : gc_tbs tb) (hwr : ∀ w ∈ gr_ws, w ∈ ws0) (htr : tb RX13 = gr_T) (ext : gz_Sh) {n a s : Nat} {sh : gz_Sh} {ro : Nat → Nat} {I : gr_I} {J : gr_J} {A : gc_A} {Ir : gr_I} {Jr : gr_J} (h : gp_P n a s sh ro I J A Ir Jr) (hn : n < 64) (a1 : Int) (a2 : Int) (a3 : Int) (ra1 : (-2147483648) ≤ a1 ∧ a1 ≤ 2147483647) (ra2 : (-2147483648) ≤ a2 ∧ a2 ≤ 2147483647) (ra3 : (-2147483648) ≤ a3 ∧ a3 ≤ 2147483647) : gp_S ws0 tb ext (yX12_swap, cX12_swap, 9, (some .int)) [.inr (.inr (some 0)), .inl a1, .inl a2, .inl a3] (yX13_swap, cX13_swap, 9, (some .int)) n a s sh ro I J A Ir Jr := by
  have hs := h.1.1
  have hc := h.1.2.1
  have e1 : I 8 1 = Ir 0 1 := h.2.2.1.2.2.2.1.1
  have e2 : I 2 1 = Ir 0 2 := h.2.2.1.1.1
  have e3 := h.2.2.2.1
  have i3 := gk_tp hs
  obtain ⟨rr, hₚ, E, Irₚ, Jrₚ, rfl, q, t, z, rfl, l1, l2, P1, P2⟩ := q_swap hwr htr ext h.2.1.1 hn a1 a2 a3 ra1 ra2 ra3
  rcases gk_swap hws htb hs hc a1 a2 a3 ra1 ra2 ra3 with ⟨c, r, Iₚ, Jₚ, E9, K9⟩ | ⟨c, T9⟩
  · exact ⟨_, Irₚ, Jrₚ, E, Or.inl ⟨r, Iₚ, Jₚ, E9, gp_kp h K9 (by omega) q t (P1 (by omega))⟩⟩
  · exact ⟨_, Irₚ, Jrₚ, E, Or.inr ⟨T9, gp_th h q t (P2 (by omega))⟩⟩
theorem gp_count {ws0 : List Cond} {tb : String → gz_T} (hws : gc_Ws ws0) (htb : gc_tbs tb) (hwr : ∀ w ∈ gr_ws, w ∈ ws0) (htr : tb RX13 = gr_T) (ext : gz_Sh) {n a s : Nat} {sh : gz_Sh} {ro : Nat → Nat} {I : gr_I} {J : gr_J} {A : gc_A} {Ir : gr_I} {Jr : gr_J} (h : gp_P n a s sh ro I J A Ir Jr) (hn : n < 64) (a1 : Int) (a2 : Int) (ra1 : (-2147483648) ≤ a1 ∧ a1 ≤ 2147483647) (ra2 : (-2147483648) ≤ a2 ∧ a2 ≤ 2147483647) : gp_S ws0 tb ext (yX12_count, cX12_count, 3, (some .int)) [.inr (.inr (some 0)), .inl a1, .inl a2] (yX13_count, cX13_count, 3, (some .int)) n a s sh ro I J A Ir Jr := by
  have hs := h.1.1
  have hc := h.1.2.1
  have e1 : I 8 1 = Ir 0 1 := h.2.2.1.2.2.2.1.1
  have e2 : I 2 1 = Ir 0 2 := h.2.2.1.1.1
  have e3 := h.2.2.2.1
  have i3 := gk_tp hs
  obtain ⟨rr, hₚ, E, Irₚ, Jrₚ, rfl, q, t, z, rfl, l1, l2, P⟩ := q_count hwr htr ext h.2.1.1 hn a1 a2 ra1 ra2
  rcases gk_count hws htb hs hc a1 a2 ra1 ra2 with ⟨c, r, Iₚ, Jₚ, E9, K9⟩ | ⟨c, T9⟩
  · exact ⟨_, Irₚ, Jrₚ, E, Or.inl ⟨r, Iₚ, Jₚ, E9, gp_kp h K9 (Int.le_refl _) q t (P.trans e3.symm)⟩⟩
  · exact ⟨_, Irₚ, Jrₚ, E, Or.inr ⟨T9, gp_th h q t P⟩⟩
theorem gp_cell {ws0 : List Cond} {tb : String → gz_T} (hws : gc_Ws ws0) (htb : gc_tbs tb) (hwr : ∀ w ∈ gr_ws, w ∈ ws0) (htr : tb RX13 = gr_T) (ext : gz_Sh) {n a s : Nat} {sh : gz_Sh} {ro : Nat → Nat} {I : gr_I} {J : gr_J} {A : gc_A} {Ir : gr_I} {Jr : gr_J} (h : gp_P n a s sh ro I J A Ir Jr) (hn : n < 64) (a1 : Int) (a2 : Int) (a3 : Int) (ra1 : (-2147483648) ≤ a1 ∧ a1 ≤ 2147483647) (ra2 : (-2147483648) ≤ a2 ∧ a2 ≤ 2147483647) (ra3 : (-2147483648) ≤ a3 ∧ a3 ≤ 2147483647) : gp_S ws0 tb ext (yX12_cell, cX12_cell, 7, (some .int)) [.inr (.inr (some 0)), .inl a1, .inl a2, .inl a3] (yX13_cell, cX13_cell, 5, (some .int)) n a s sh ro I J A Ir Jr := by
  have hs := h.1.1
  have hc := h.1.2.1
  have e1 : I 8 1 = Ir 0 1 := h.2.2.1.2.2.2.1.1
  have e2 : I 2 1 = Ir 0 2 := h.2.2.1.1.1
  have e3 := h.2.2.2.1
  have i3 := gk_tp hs
  obtain ⟨rr, hₚ, E, Irₚ, Jrₚ, rfl, q, t, z, rfl, l1, l2, P⟩ := q_cell hwr htr ext h.2.1.1 hn a1 a2 a3 ra1 ra2 ra3
  rcases gk_cell hws htb hs hc a1 a2 a3 ra1 ra2 ra3 with ⟨r, Iₚ, Jₚ, E9, K9⟩ | T9
  · exact ⟨_, Irₚ, Jrₚ, E, Or.inl ⟨r, Iₚ, Jₚ, E9, gp_kp h K9 (Int.le_refl _) q t (P.trans e3.symm)⟩⟩
  · exact ⟨_, Irₚ, Jrₚ, E, Or.inr ⟨T9, gp_th h q t P⟩⟩
/-- feed: the answers are alike -/
theorem gp_feed {ws0 : List Cond} {tb : String → gz_T} (hws : gc_Ws ws0) (htb : gc_tbs tb) (hwr : ∀ w ∈ gr_ws, w ∈ ws0) (htr : tb RX13 = gr_T) (ext : gz_Sh) {n a s : Nat} {sh : gz_Sh} {ro : Nat → Nat} {I : gr_I} {J : gr_J} {A : gc_A} {Ir : gr_I} {Jr : gr_J} (h : gp_P n a s sh ro I J A Ir Jr) (hn : n < 64) (a1 : Int) (a2 : Int) (a3 : Int) (a4 : Int) (a5 : Int) (ra1 : (-2147483648) ≤ a1 ∧ a1 ≤ 2147483647) (ra2 : (-2147483648) ≤ a2 ∧ a2 ≤ 2147483647) (ra3 : (-2147483648) ≤ a3 ∧ a3 ≤ 2147483647) (ra4 : (-2147483648) ≤ a4 ∧ a4 ≤ 2147483647) (ra5 : (-2147483648) ≤ a5 ∧ a5 ≤ 2147483647) : ∃ (z : Int) (Irₚ : gr_I) (Jrₚ : gr_J), gz_Ev ws0 tb 1000 (yX13_feed, cX13_feed, 6, (some .int)) [.inr (.inr (some 0)), .inl a1, .inl a2, .inl a3, .inl a4, .inl a5] (gr_sh ++ ext) (gr_h Ir Jr) (some (.inl z)) (gr_sh ++ ext) (gr_h Irₚ Jrₚ) 0 0 ∧ gr_Inv Irₚ ∧ ((-2147483648) ≤ z ∧ z ≤ 2147483647) ∧ ((∃ (Iₚ : gr_I) (Jₚ : gr_J), gz_Ev ws0 tb 100 (yX12_feed, cX12_feed, 6, (some .int)) [.inr (.inr (some 0)), .inl a1, .inl a2, .inl a3, .inl a4, .inl a5] sh (gc_h sh I J A) (some (.inl z)) sh (gc_h sh Iₚ Jₚ A) 0 0 ∧ Irₚ 0 0 = 0 ∧ gp_P (n + 1) a s sh ro Iₚ Jₚ A Irₚ Jrₚ) ∨ (gk_T ws0 tb (yX12_feed, cX12_feed, 6, (some .int)) [.inr (.inr (some 0)), .inl a1, .inl a2, .inl a3, .inl a4, .inl a5] sh I J A px_ISE ∧ Irₚ 0 0 = 1 ∧ gp_P (n + 1) (a + 1) (s + 6) sh ro I J A Irₚ Jrₚ)) := by
  have hs := h.1.1
  have hc := h.1.2.1
  have e1 : I 8 1 = Ir 0 1 := h.2.2.1.2.2.2.1.1
  have e2 : I 2 1 = Ir 0 2 := h.2.2.1.1.1
  have e3 := h.2.2.2.1
  have i3 := gk_tp hs
  obtain ⟨rr, hₚ, E, Irₚ, Jrₚ, rfl, q, t, z, rfl, l1, l2, P, P5, P6⟩ := q_feed hwr htr ext h.2.1.1 hn a1 a2 a3 a4 a5 ra1 ra2 ra3 ra4 ra5
  have hi := q.1.1
  by_cases c : I 23 1 ≤ 980
  · obtain ⟨z', Iₚ, Jₚ, E9, K9, ez, f9⟩ := hh_feed_b hws htb hs hc a1 a2 a3 a4 a5 ra1 ra2 ra3 ra4 ra5 c
    have f5 := gz_hi (P5 (by (/-0-/first | omega | (simp only [gz_hd] at *; omega))))
    clear P5 P6
    have hz : z' = z := by (/-1-/first | omega | (simp only [gz_hd] at *; omega))
    subst hz
    exact ⟨z', Irₚ, Jrₚ, E, hi, ⟨l1, l2⟩, Or.inl ⟨Iₚ, Jₚ, E9, by (/-2-/first | omega | (simp only [gz_hd] at *; omega)), gp_fd h K9 f9 q t (by (/-3-/first | omega | (simp only [gz_hd] at *; omega))) (gz_sh f5)⟩⟩
  · have f6 := gz_hi (P6 (by (/-4-/first | omega | (simp only [gz_hd] at *; omega))))
    clear P5 P6
    rcases gk_feed hws htb hs hc a1 a2 a3 a4 a5 ra1 ra2 ra3 ra4 ra5 with ⟨c2, _⟩ | ⟨_, T9⟩
    · exact absurd c2 c
    · exact ⟨z, Irₚ, Jrₚ, E, hi, ⟨l1, l2⟩, Or.inr ⟨T9, by (/-5-/first | omega | (simp only [gz_hd] at *; omega)), gp_th h q ⟨t, (gz_sh f6)⟩ (by (/-6-/first | omega | (simp only [gz_hd] at *; omega)))⟩⟩
theorem gp_add {ws0 : List Cond} {tb : String → gz_T} (hws : gc_Ws ws0) (htb : gc_tbs tb) (hwr : ∀ w ∈ gr_ws, w ∈ ws0) (htr : tb RX13 = gr_T) (ext : gz_Sh) {n a s : Nat} {sh : gz_Sh} {ro : Nat → Nat} {I : gr_I} {J : gr_J} {A : gc_A} {Ir : gr_I} {Jr : gr_J} (h : gp_P n a s sh ro I J A Ir Jr) (hn : n < 64) (hw : gc_Wc ws0) (a1 : Int) (ra1 : (-2147483648) ≤ a1 ∧ a1 ≤ 2147483647) : ∃ (z : Int) (Irₚ : gr_I) (Jrₚ : gr_J), gz_Ev ws0 tb 1000 (yX13_add, cX13_add, 4, (some .int)) [.inr (.inr (some 0)), .inl a1] (gr_sh ++ ext) (gr_h Ir Jr) (some (.inl z)) (gr_sh ++ ext) (gr_h Irₚ Jrₚ) 0 0 ∧ ((∃ (z : Int) (a9 s1 : Nat) (shₚ : gz_Sh) (ro' : Nat → Nat) (Iₚ : gr_I) (Jₚ : gr_J) (Aₚ : gc_A), gz_Ev ws0 tb 100 (yX12_add, cX12_add, 3, (some .int)) [.inr (.inr (some 0)), .inl a1] sh (gc_h sh I J A) (some (.inl z)) shₚ (gc_h shₚ Iₚ Jₚ Aₚ) a9 s1 ∧ gp_P (n + 1) (a + a9) (s + s1) shₚ ro' Iₚ Jₚ Aₚ Irₚ Jrₚ) ∨ (gk_T ws0 tb (yX12_add, cX12_add, 3, (some .int)) [.inr (.inr (some 0)), .inl a1] sh I J A px_IAE ∧ gp_P (n + 1) (a + 1) (s + 6) sh ro I J A Irₚ Jrₚ)) := by
  have hs := h.1.1
  have hc := h.1.2.1
  have e1 : I 8 1 = Ir 0 1 := h.2.2.1.2.2.2.1.1
  have e2 : I 2 1 = Ir 0 2 := h.2.2.1.1.1
  have e3 := h.2.2.2.1
  have i3 := gk_tp hs
  have ok := gk_aok h.1 (by omega)
  obtain ⟨rr, hₚ, E, Irₚ, Jrₚ, rfl, q, t, z, rfl, l1, l2, P1, P2⟩ := q_add hwr htr ext h.2.1.1 hn a1 ra1
  rcases gk_add hw hws htb hs hc a1 ra1 ok.1 ok.2 with ⟨c, z9, x9, s9, shₚ, ro', Iₚ, Jₚ, Aₚ, E9, K9, j9⟩ | ⟨c, T9⟩
  · exact ⟨z, Irₚ, Jrₚ, E, Or.inl ⟨z9, x9, s9, shₚ, ro', Iₚ, Jₚ, Aₚ, E9, gp_ad h K9 j9 q t.1 (P1 (by omega))⟩⟩
  · exact ⟨z, Irₚ, Jrₚ, E, Or.inr ⟨T9, gp_th h q t (P2 (by omega))⟩⟩
/-- module: the answers are alike -/
theorem gp_module {ws0 : List Cond} {tb : String → gz_T} (hws : gc_Ws ws0) (htb : gc_tbs tb) (hwr : ∀ w ∈ gr_ws, w ∈ ws0) (htr : tb RX13 = gr_T) (ext : gz_Sh) {n a s : Nat} {sh : gz_Sh} {ro : Nat → Nat} {I : gr_I} {J : gr_J} {A : gc_A} {Ir : gr_I} {Jr : gr_J} (h : gp_P n a s sh ro I J A Ir Jr) (hn : n < 64) (hw : gc_Wn ws0) : ∃ (z : Int) (Irₚ : gr_I) (Jrₚ : gr_J) (a1 s1 : Nat) (shₚ : gz_Sh) (ro' : Nat → Nat) (Iₚ : gr_I) (Jₚ : gr_J) (Aₚ : gc_A), gz_Ev ws0 tb 1000 (yX13_module, cX13_module, 2, (some .int)) [.inr (.inr (some 0))] (gr_sh ++ ext) (gr_h Ir Jr) (some (.inl z)) (gr_sh ++ ext) (gr_h Irₚ Jrₚ) 0 0 ∧ gz_Ev ws0 tb 100 (yX12_module, cX12_module, 2, (some .int)) [.inr (.inr (some 0))] sh (gc_h sh I J A) (some (.inl z)) shₚ (gc_h shₚ Iₚ Jₚ Aₚ) a1 s1 ∧ ((-2147483648) ≤ z ∧ z ≤ 2147483647) ∧ gp_P (n + 1) (a + a1) (s + s1) shₚ ro' Iₚ Jₚ Aₚ Irₚ Jrₚ := by
  have hs := h.1.1
  have hc := h.1.2.1
  have e1 : I 8 1 = Ir 0 1 := h.2.2.1.2.2.2.1.1
  have e2 : I 2 1 = Ir 0 2 := h.2.2.1.1.1
  have e3 := h.2.2.2.1
  have i3 := gk_tp hs
  have ok := gk_mok h.1 (by omega)
  obtain ⟨rr, hₚ, E, Irₚ, Jrₚ, rfl, q, w, z, rfl, l1, l2, P, md, mk, en⟩ := q_module hwr htr ext h.2.1.1 hn (gp_tx (Ir 0 68) (Ir 56)) (gp_TX (Ir 0 68) (Ir 56)) h.2.1.2.1 h.2.2.2.2.2.2.1
  have tx : gs_TX (gp_tx (Ir 0 68) (Ir 56)) (I 23 1) (I 24) := by
    rw [← e3]
    exact gp_TX2 h.2.2.2.2.1
  rw [← e3] at md tx
  obtain ⟨z9, x9, s9, shₚ, ro', Iₚ, Jₚ, Aₚ, E9, hc9, mo9, ⟨rfl, r9⟩, k9⟩ := gk_module_p hw hws htb hs hc ok.1 _ z Ir Irₚ Jr Jrₚ tx h.2.2.1 h.2.2.2.2.2 md ok.2
  exact ⟨z9, Irₚ, Jrₚ, x9, s9, shₚ, ro', Iₚ, Jₚ, Aₚ, E, E9, ⟨l1, l2⟩, gp_mo h hc9 mo9 k9 ⟨r9.1, r9.2.1⟩ q w (gs_KQm h.2.2.1 h.2.2.2.2.2 (gs_h8_of hs) r9.1 r9.2.1 (gs_h8_of mo9.1) (fun i hi => by obtain ⟨t, ht, _⟩ := mo9.1.2.2.2.2.1 i (by omega); exact ⟨t, ht⟩) r9.2.2 md mk h.2.1.2.2.1) (gs_NT_m hs h.2.2.1 h.2.2.2.2.2 (gs_h8_of hs) h.2.1.2.2.2 mo9 r9.2.2 en) P⟩
