/-! PARITY, the class's side: the token at hand of a text at place p -/
def gc_AT (β : Int → Int) (N q : Int) (p : Nat) (I : gr_I) (J : gr_J) : Prop := (gs_TX β N (I (p + 1)) ∧ N = I p 1) ∧ I p 7 = gs_T β N q ∧ I p 5 = gs_A β N q ∧ I p 6 = gs_X β N q ∧ (gs_T β N q = 2 → I p 8 = gs_V β N q) ∧ (gs_T β N q = 1 → J p 9 = gs_M β N q)
theorem gs_ixf_n {c : Int} (h : ¬ c ∈ gz_sl) : ¬ 0 ≤ gz_ixf c := by
  unfold gz_ixf
  split
  · rename_i k hk
    obtain ⟨h1, h2, _⟩ := List.findIdx?_eq_some_iff_getElem.mp hk
    have h3 : gz_sl[k] = c := by
      have := h2
      simpa using this
    exact absurd (h3 ▸ List.getElem_mem h1) h
  · omega
theorem gc_AT_end {β : Int → Int} {N q : Int} {p : Nat} {I : gr_I} {J : gr_J} (hx : gs_TX β N (I (p + 1)) ∧ N = I p 1) (h : N ≤ gs_S β N q) (h7 : I p 7 = 4) (h5 : I p 5 = N) (h6 : I p 6 = N) : gc_AT β N q p I J := by
  obtain ⟨a, b, c⟩ := gs_end (β := β) (p := q) rfl h
  unfold gc_AT
  rw [a, b, c]
  exact ⟨hx, h7, h5, h6, fun z => by omega, fun z => by omega⟩
theorem gc_AT_nm {β : Int → Int} {N q s : Int} {p : Nat} {I : gr_I} {J : gr_J} (hx : gs_TX β N (I (p + 1)) ∧ N = I p 1) (hs : gs_S β N q = s) (h : ¬ N ≤ s) (hc : 97 ≤ β s ∧ β s ≤ 122) (h7 : I p 7 = 1) (h5 : I p 5 = s) (h6 : I p 6 = gs_ne β 8 s) (h9 : J p 9 = gs_nv β 8 s (Int64.ofNat 0)) : gc_AT β N q p I J := by
  obtain ⟨a, b, c⟩ := gs_name hs h hc
  unfold gc_AT gs_M
  rw [a, b, c, hs]
  exact ⟨hx, h7, h5, h6, fun z => by omega, fun _ => h9⟩
theorem gc_AT_nu {β : Int → Int} {N q s : Int} {p : Nat} {I : gr_I} {J : gr_J} (hx : gs_TX β N (I (p + 1)) ∧ N = I p 1) (hs : gs_S β N q = s) (h : ¬ N ≤ s) (hc : 48 ≤ β s ∧ β s ≤ 57) (h7 : I p 7 = 2) (h5 : I p 5 = s) (h6 : I p 6 = gs_de β 6 s) (h8 : I p 8 = gs_dv β 6 s 0) : gc_AT β N q p I J := by
  obtain ⟨a, b, c⟩ := gs_numb hs h hc
  unfold gc_AT gs_V
  rw [a, b, c, hs]
  exact ⟨hx, h7, h5, h6, fun _ => h8, fun z => by omega⟩
theorem gc_AT_lt {β : Int → Int} {N q s : Int} {p : Nat} {I : gr_I} {J : gr_J} (hx : gs_TX β N (I (p + 1)) ∧ N = I p 1) (hs : gs_S β N q = s) (h : ¬ N ≤ s) (hc : β s = 39) (h7 : I p 7 = if β (gs_le β 12 (s + 1)) = 39 then 3 else 5) (h5 : I p 5 = s) (h6 : I p 6 = gs_le β 12 (s + 1) + 1) : gc_AT β N q p I J := by
  obtain ⟨a, b, c⟩ := gs_lets hs h hc rfl
  have t : ¬ (if β (gs_le β 12 (s + 1)) = 39 then (3 : Int) else 5) = 2 ∧ ¬ (if β (gs_le β 12 (s + 1)) = 39 then (3 : Int) else 5) = 1 := by
    split
    · omega
    · omega
  unfold gc_AT
  rw [a, b, c]
  exact ⟨hx, h7, h5, h6, fun z => absurd z t.1, fun z => absurd z t.2⟩
theorem gc_AT_sg {β : Int → Int} {N q s : Int} {p : Nat} {I : gr_I} {J : gr_J} (hx : gs_TX β N (I (p + 1)) ∧ N = I p 1) (hs : gs_S β N q = s) (h : ¬ N ≤ s) (g1 : ¬ (97 ≤ β s ∧ β s ≤ 122)) (g2 : ¬ (48 ≤ β s ∧ β s ≤ 57)) (g3 : ¬ β s = 39) (h7 : I p 7 = if 0 ≤ gz_ixf (β s) then β s else 5) (h5 : I p 5 = s) (h6 : I p 6 = s + 1) : gc_AT β N q p I J := by
  obtain ⟨a, b, c⟩ := gs_sign hs h g1 g2 g3
  have t : ¬ (if 0 ≤ gz_ixf (β s) then β s else 5) = 2 ∧ ¬ (if 0 ≤ gz_ixf (β s) then β s else 5) = 1 := by
    split
    · rename_i r
      have := gs_ix r
      omega
    · omega
  unfold gc_AT
  rw [a, b, c]
  exact ⟨hx, h7, h5, h6, fun z => absurd z t.1, fun z => absurd z t.2⟩
set_option maxHeartbeats 8000000 in
set_option maxRecDepth 100000 in
theorem d_X9_isLetter_p {ws0 : List Cond} {tb : String → gz_T} (hws : gc_Ws ws0) (htb : gc_tbs tb) (sh : gz_Sh) (ro : Nat → Nat) (I : gr_I) (J : gr_J) (A : gc_A) (hI : gc_Inv ro I) (a1 : Int)  (ha1 : (-2147483648) ≤ a1 ∧ a1 ≤ 2147483647)  : ∃ r hₚ, gz_Ev ws0 tb 1 (yX9_isLetter, cX9_isLetter, 1, (some .boolean)) [.inl a1] sh (gc_h sh I J A) r sh hₚ 0 0 ∧ (hₚ = gc_h sh I J A ∧ (∃ z : Int, r = some (.inl z) ∧ 0 ≤ z ∧ z ≤ 1 ∧ ((z = 1 ∧ (97 ≤ a1 ∧ a1 ≤ 122)) ∨ (z = 0 ∧ ¬ (97 ≤ a1 ∧ a1 ≤ 122))))) := by
  have hD : gv_D (gc_E9 ws0 tb 0 (yX9_isLetter, cX9_isLetter, 1, (some .boolean)) kX9_isLetter) := gq_of oX9_isLetter
  refine gc_ev9 (d := 0) (l := kX9_isLetter) (Po := fun r hₚ => (hₚ = gc_h sh I J A ∧ (∃ z : Int, r = some (.inl z) ∧ 0 ≤ z ∧ z ≤ 1 ∧ ((z = 1 ∧ (97 ≤ a1 ∧ a1 ≤ 122)) ∨ (z = 0 ∧ ¬ (97 ≤ a1 ∧ a1 ≤ 122)))))) htb rfl (Nat.le_of_ble_eq_true rfl) ?_
  refine gv_run 2 true hD (pcₚ := 3) (lvₚ := [(0, .inl a1)]) (stₚ := [.inl 97, .inl a1]) (hₚ := gc_h sh I J A) (C := ((True ∧ True) ∧ True)) rfl ⟨⟨trivial, trivial⟩, trivial⟩ ?_
  refine gv_icmp_lt (t := 16) hD rfl rfl ⟨⟨by omega, by omega⟩, ⟨by omega, by omega⟩⟩ (fun c1 => ?_) (fun c1 => ?_)
  · show gv_X _ _ (16, [(0, .inl a1)], [], sh, gc_h sh I J A)
    refine gv_run 1 true hD (pcₚ := 17) (lvₚ := [(0, .inl a1)]) (stₚ := [.inl 0]) (hₚ := gc_h sh I J A) (C := (True ∧ True)) rfl ⟨trivial, trivial⟩ ?_
    exact gv_zret hD rfl (by omega) ⟨rfl, ⟨_, rfl, by omega⟩⟩
  · show gv_X _ _ (6, [(0, .inl a1)], [], sh, gc_h sh I J A)
    refine gv_run 2 true hD (pcₚ := 9) (lvₚ := [(0, .inl a1)]) (stₚ := [.inl 122, .inl a1]) (hₚ := gc_h sh I J A) (C := ((True ∧ True) ∧ True)) rfl ⟨⟨trivial, trivial⟩, trivial⟩ ?_
    refine gv_icmp_gt (t := 16) hD rfl rfl ⟨⟨by omega, by omega⟩, ⟨by omega, by omega⟩⟩ (fun c2 => ?_) (fun c2 => ?_)
    · show gv_X _ _ (16, [(0, .inl a1)], [], sh, gc_h sh I J A)
      refine gv_run 1 true hD (pcₚ := 17) (lvₚ := [(0, .inl a1)]) (stₚ := [.inl 0]) (hₚ := gc_h sh I J A) (C := (True ∧ True)) rfl ⟨trivial, trivial⟩ ?_
      exact gv_zret hD rfl (by omega) ⟨rfl, ⟨_, rfl, by omega⟩⟩
    · show gv_X _ _ (12, [(0, .inl a1)], [], sh, gc_h sh I J A)
      refine gv_run 2 true hD (pcₚ := 17) (lvₚ := [(0, .inl a1)]) (stₚ := [.inl 1]) (hₚ := gc_h sh I J A) (C := ((True ∧ True) ∧ True)) rfl ⟨⟨trivial, trivial⟩, trivial⟩ ?_
      exact gv_zret hD rfl (by omega) ⟨rfl, ⟨_, rfl, by omega⟩⟩
set_option maxHeartbeats 8000000 in
set_option maxRecDepth 100000 in
theorem d_X9_isSign_p {ws0 : List Cond} {tb : String → gz_T} (hws : gc_Ws ws0) (htb : gc_tbs tb) (sh : gz_Sh) (ro : Nat → Nat) (I : gr_I) (J : gr_J) (A : gc_A) (hI : gc_Inv ro I) (a1 : Int)  (ha1 : (-2147483648) ≤ a1 ∧ a1 ≤ 2147483647)  : ∃ r hₚ, gz_Ev ws0 tb 1 (yX9_isSign, cX9_isSign, 1, (some .boolean)) [.inl a1] sh (gc_h sh I J A) r sh hₚ 0 0 ∧ (hₚ = gc_h sh I J A ∧ (∃ z : Int, r = some (.inl z) ∧ 0 ≤ z ∧ z ≤ 1 ∧ ((z = 1 ∧ 0 ≤ gz_ixf a1) ∨ (z = 0 ∧ ¬ 0 ≤ gz_ixf a1)))) := by
  have hD : gv_D (gc_E9 ws0 tb 0 (yX9_isSign, cX9_isSign, 1, (some .boolean)) kX9_isSign) := gq_of oX9_isSign
  refine gc_ev9 (d := 0) (l := kX9_isSign) (Po := fun r hₚ => (hₚ = gc_h sh I J A ∧ (∃ z : Int, r = some (.inl z) ∧ 0 ≤ z ∧ z ≤ 1 ∧ ((z = 1 ∧ 0 ≤ gz_ixf a1) ∨ (z = 0 ∧ ¬ 0 ≤ gz_ixf a1))))) htb rfl (Nat.le_of_ble_eq_true rfl) ?_
  refine gv_run 1 true hD (pcₚ := 1) (lvₚ := [(0, .inl a1)]) (stₚ := [.inl a1]) (hₚ := gc_h sh I J A) (C := (True ∧ True)) rfl ⟨trivial, trivial⟩ ?_
  by_cases c1 : a1 = 35
  · refine gv_look hD rfl ⟨by omega, by omega⟩ (by decide) 163 (by rw [c1]; decide) (t := 164) rfl ?_
    refine gv_run 1 true hD (pcₚ := 165) (lvₚ := [(0, .inl a1)]) (stₚ := [.inl 1]) (hₚ := gc_h sh I J A) (C := (True ∧ True)) rfl ⟨trivial, trivial⟩ ?_
    exact gv_zret hD rfl (by omega) ⟨rfl, ⟨_, rfl, by omega, by omega, (Or.inl ⟨by omega, (by rw [c1]; decide)⟩)⟩⟩
  by_cases c2 : a1 = 40
  · refine gv_look hD rfl ⟨by omega, by omega⟩ (by decide) 163 (by rw [c2]; decide) (t := 164) rfl ?_
    refine gv_run 1 true hD (pcₚ := 165) (lvₚ := [(0, .inl a1)]) (stₚ := [.inl 1]) (hₚ := gc_h sh I J A) (C := (True ∧ True)) rfl ⟨trivial, trivial⟩ ?_
    exact gv_zret hD rfl (by omega) ⟨rfl, ⟨_, rfl, by omega, by omega, (Or.inl ⟨by omega, (by rw [c2]; decide)⟩)⟩⟩
  by_cases c3 : a1 = 41
  · refine gv_look hD rfl ⟨by omega, by omega⟩ (by decide) 163 (by rw [c3]; decide) (t := 164) rfl ?_
    refine gv_run 1 true hD (pcₚ := 165) (lvₚ := [(0, .inl a1)]) (stₚ := [.inl 1]) (hₚ := gc_h sh I J A) (C := (True ∧ True)) rfl ⟨trivial, trivial⟩ ?_
    exact gv_zret hD rfl (by omega) ⟨rfl, ⟨_, rfl, by omega, by omega, (Or.inl ⟨by omega, (by rw [c3]; decide)⟩)⟩⟩
  by_cases c4 : a1 = 42
  · refine gv_look hD rfl ⟨by omega, by omega⟩ (by decide) 163 (by rw [c4]; decide) (t := 164) rfl ?_
    refine gv_run 1 true hD (pcₚ := 165) (lvₚ := [(0, .inl a1)]) (stₚ := [.inl 1]) (hₚ := gc_h sh I J A) (C := (True ∧ True)) rfl ⟨trivial, trivial⟩ ?_
    exact gv_zret hD rfl (by omega) ⟨rfl, ⟨_, rfl, by omega, by omega, (Or.inl ⟨by omega, (by rw [c4]; decide)⟩)⟩⟩
  by_cases c5 : a1 = 43
  · refine gv_look hD rfl ⟨by omega, by omega⟩ (by decide) 163 (by rw [c5]; decide) (t := 164) rfl ?_
    refine gv_run 1 true hD (pcₚ := 165) (lvₚ := [(0, .inl a1)]) (stₚ := [.inl 1]) (hₚ := gc_h sh I J A) (C := (True ∧ True)) rfl ⟨trivial, trivial⟩ ?_
    exact gv_zret hD rfl (by omega) ⟨rfl, ⟨_, rfl, by omega, by omega, (Or.inl ⟨by omega, (by rw [c5]; decide)⟩)⟩⟩
  by_cases c6 : a1 = 44
  · refine gv_look hD rfl ⟨by omega, by omega⟩ (by decide) 163 (by rw [c6]; decide) (t := 164) rfl ?_
    refine gv_run 1 true hD (pcₚ := 165) (lvₚ := [(0, .inl a1)]) (stₚ := [.inl 1]) (hₚ := gc_h sh I J A) (C := (True ∧ True)) rfl ⟨trivial, trivial⟩ ?_
    exact gv_zret hD rfl (by omega) ⟨rfl, ⟨_, rfl, by omega, by omega, (Or.inl ⟨by omega, (by rw [c6]; decide)⟩)⟩⟩
  by_cases c7 : a1 = 45
  · refine gv_look hD rfl ⟨by omega, by omega⟩ (by decide) 163 (by rw [c7]; decide) (t := 164) rfl ?_
    refine gv_run 1 true hD (pcₚ := 165) (lvₚ := [(0, .inl a1)]) (stₚ := [.inl 1]) (hₚ := gc_h sh I J A) (C := (True ∧ True)) rfl ⟨trivial, trivial⟩ ?_
    exact gv_zret hD rfl (by omega) ⟨rfl, ⟨_, rfl, by omega, by omega, (Or.inl ⟨by omega, (by rw [c7]; decide)⟩)⟩⟩
  by_cases c8 : a1 = 46
  · refine gv_look hD rfl ⟨by omega, by omega⟩ (by decide) 163 (by rw [c8]; decide) (t := 164) rfl ?_
    refine gv_run 1 true hD (pcₚ := 165) (lvₚ := [(0, .inl a1)]) (stₚ := [.inl 1]) (hₚ := gc_h sh I J A) (C := (True ∧ True)) rfl ⟨trivial, trivial⟩ ?_
    exact gv_zret hD rfl (by omega) ⟨rfl, ⟨_, rfl, by omega, by omega, (Or.inl ⟨by omega, (by rw [c8]; decide)⟩)⟩⟩
  by_cases c9 : a1 = 47
  · refine gv_look hD rfl ⟨by omega, by omega⟩ (by decide) 163 (by rw [c9]; decide) (t := 164) rfl ?_
    refine gv_run 1 true hD (pcₚ := 165) (lvₚ := [(0, .inl a1)]) (stₚ := [.inl 1]) (hₚ := gc_h sh I J A) (C := (True ∧ True)) rfl ⟨trivial, trivial⟩ ?_
    exact gv_zret hD rfl (by omega) ⟨rfl, ⟨_, rfl, by omega, by omega, (Or.inl ⟨by omega, (by rw [c9]; decide)⟩)⟩⟩
  by_cases c10 : a1 = 58
  · refine gv_look hD rfl ⟨by omega, by omega⟩ (by decide) 163 (by rw [c10]; decide) (t := 164) rfl ?_
    refine gv_run 1 true hD (pcₚ := 165) (lvₚ := [(0, .inl a1)]) (stₚ := [.inl 1]) (hₚ := gc_h sh I J A) (C := (True ∧ True)) rfl ⟨trivial, trivial⟩ ?_
    exact gv_zret hD rfl (by omega) ⟨rfl, ⟨_, rfl, by omega, by omega, (Or.inl ⟨by omega, (by rw [c10]; decide)⟩)⟩⟩
  by_cases c11 : a1 = 59
  · refine gv_look hD rfl ⟨by omega, by omega⟩ (by decide) 163 (by rw [c11]; decide) (t := 164) rfl ?_
    refine gv_run 1 true hD (pcₚ := 165) (lvₚ := [(0, .inl a1)]) (stₚ := [.inl 1]) (hₚ := gc_h sh I J A) (C := (True ∧ True)) rfl ⟨trivial, trivial⟩ ?_
    exact gv_zret hD rfl (by omega) ⟨rfl, ⟨_, rfl, by omega, by omega, (Or.inl ⟨by omega, (by rw [c11]; decide)⟩)⟩⟩
  by_cases c12 : a1 = 61
  · refine gv_look hD rfl ⟨by omega, by omega⟩ (by decide) 163 (by rw [c12]; decide) (t := 164) rfl ?_
    refine gv_run 1 true hD (pcₚ := 165) (lvₚ := [(0, .inl a1)]) (stₚ := [.inl 1]) (hₚ := gc_h sh I J A) (C := (True ∧ True)) rfl ⟨trivial, trivial⟩ ?_
    exact gv_zret hD rfl (by omega) ⟨rfl, ⟨_, rfl, by omega, by omega, (Or.inl ⟨by omega, (by rw [c12]; decide)⟩)⟩⟩
  by_cases c13 : a1 = 62
  · refine gv_look hD rfl ⟨by omega, by omega⟩ (by decide) 163 (by rw [c13]; decide) (t := 164) rfl ?_
    refine gv_run 1 true hD (pcₚ := 165) (lvₚ := [(0, .inl a1)]) (stₚ := [.inl 1]) (hₚ := gc_h sh I J A) (C := (True ∧ True)) rfl ⟨trivial, trivial⟩ ?_
    exact gv_zret hD rfl (by omega) ⟨rfl, ⟨_, rfl, by omega, by omega, (Or.inl ⟨by omega, (by rw [c13]; decide)⟩)⟩⟩
  by_cases c14 : a1 = 91
  · refine gv_look hD rfl ⟨by omega, by omega⟩ (by decide) 163 (by rw [c14]; decide) (t := 164) rfl ?_
    refine gv_run 1 true hD (pcₚ := 165) (lvₚ := [(0, .inl a1)]) (stₚ := [.inl 1]) (hₚ := gc_h sh I J A) (C := (True ∧ True)) rfl ⟨trivial, trivial⟩ ?_
    exact gv_zret hD rfl (by omega) ⟨rfl, ⟨_, rfl, by omega, by omega, (Or.inl ⟨by omega, (by rw [c14]; decide)⟩)⟩⟩
  by_cases c15 : a1 = 92
  · refine gv_look hD rfl ⟨by omega, by omega⟩ (by decide) 163 (by rw [c15]; decide) (t := 164) rfl ?_
    refine gv_run 1 true hD (pcₚ := 165) (lvₚ := [(0, .inl a1)]) (stₚ := [.inl 1]) (hₚ := gc_h sh I J A) (C := (True ∧ True)) rfl ⟨trivial, trivial⟩ ?_
    exact gv_zret hD rfl (by omega) ⟨rfl, ⟨_, rfl, by omega, by omega, (Or.inl ⟨by omega, (by rw [c15]; decide)⟩)⟩⟩
  by_cases c16 : a1 = 93
  · refine gv_look hD rfl ⟨by omega, by omega⟩ (by decide) 163 (by rw [c16]; decide) (t := 164) rfl ?_
    refine gv_run 1 true hD (pcₚ := 165) (lvₚ := [(0, .inl a1)]) (stₚ := [.inl 1]) (hₚ := gc_h sh I J A) (C := (True ∧ True)) rfl ⟨trivial, trivial⟩ ?_
    exact gv_zret hD rfl (by omega) ⟨rfl, ⟨_, rfl, by omega, by omega, (Or.inl ⟨by omega, (by rw [c16]; decide)⟩)⟩⟩
  by_cases c17 : a1 = 95
  · refine gv_look hD rfl ⟨by omega, by omega⟩ (by decide) 163 (by rw [c17]; decide) (t := 164) rfl ?_
    refine gv_run 1 true hD (pcₚ := 165) (lvₚ := [(0, .inl a1)]) (stₚ := [.inl 1]) (hₚ := gc_h sh I J A) (C := (True ∧ True)) rfl ⟨trivial, trivial⟩ ?_
    exact gv_zret hD rfl (by omega) ⟨rfl, ⟨_, rfl, by omega, by omega, (Or.inl ⟨by omega, (by rw [c17]; decide)⟩)⟩⟩
  by_cases c18 : a1 = 123
  · refine gv_look hD rfl ⟨by omega, by omega⟩ (by decide) 163 (by rw [c18]; decide) (t := 164) rfl ?_
    refine gv_run 1 true hD (pcₚ := 165) (lvₚ := [(0, .inl a1)]) (stₚ := [.inl 1]) (hₚ := gc_h sh I J A) (C := (True ∧ True)) rfl ⟨trivial, trivial⟩ ?_
    exact gv_zret hD rfl (by omega) ⟨rfl, ⟨_, rfl, by omega, by omega, (Or.inl ⟨by omega, (by rw [c18]; decide)⟩)⟩⟩
  by_cases c19 : a1 = 125
  · refine gv_look hD rfl ⟨by omega, by omega⟩ (by decide) 163 (by rw [c19]; decide) (t := 164) rfl ?_
    refine gv_run 1 true hD (pcₚ := 165) (lvₚ := [(0, .inl a1)]) (stₚ := [.inl 1]) (hₚ := gc_h sh I J A) (C := (True ∧ True)) rfl ⟨trivial, trivial⟩ ?_
    exact gv_zret hD rfl (by omega) ⟨rfl, ⟨_, rfl, by omega, by omega, (Or.inl ⟨by omega, (by rw [c19]; decide)⟩)⟩⟩
  refine gv_look hD rfl ⟨by omega, by omega⟩ (by decide) 165 (by show Op.lookupswitch.offset [(35, 163), (40, 163), (41, 163), (42, 163), (43, 163), (44, 163), (45, 163), (46, 163), (47, 163), (58, 163), (59, 163), (61, 163), (62, 163), (91, 163), (92, 163), (93, 163), (95, 163), (123, 163), (125, 163)] 165 a1 = _; rw [Op.lookupswitch.offset_cons, if_neg (fun q => c1 q.symm), Op.lookupswitch.offset_cons, if_neg (fun q => c2 q.symm), Op.lookupswitch.offset_cons, if_neg (fun q => c3 q.symm), Op.lookupswitch.offset_cons, if_neg (fun q => c4 q.symm), Op.lookupswitch.offset_cons, if_neg (fun q => c5 q.symm), Op.lookupswitch.offset_cons, if_neg (fun q => c6 q.symm), Op.lookupswitch.offset_cons, if_neg (fun q => c7 q.symm), Op.lookupswitch.offset_cons, if_neg (fun q => c8 q.symm), Op.lookupswitch.offset_cons, if_neg (fun q => c9 q.symm), Op.lookupswitch.offset_cons, if_neg (fun q => c10 q.symm), Op.lookupswitch.offset_cons, if_neg (fun q => c11 q.symm), Op.lookupswitch.offset_cons, if_neg (fun q => c12 q.symm), Op.lookupswitch.offset_cons, if_neg (fun q => c13 q.symm), Op.lookupswitch.offset_cons, if_neg (fun q => c14 q.symm), Op.lookupswitch.offset_cons, if_neg (fun q => c15 q.symm), Op.lookupswitch.offset_cons, if_neg (fun q => c16 q.symm), Op.lookupswitch.offset_cons, if_neg (fun q => c17 q.symm), Op.lookupswitch.offset_cons, if_neg (fun q => c18 q.symm), Op.lookupswitch.offset_cons, if_neg (fun q => c19 q.symm)]; rfl) (t := 166) rfl ?_
  refine gv_run 1 true hD (pcₚ := 167) (lvₚ := [(0, .inl a1)]) (stₚ := [.inl 0]) (hₚ := gc_h sh I J A) (C := (True ∧ True)) rfl ⟨trivial, trivial⟩ ?_
  exact gv_zret hD rfl (by omega) ⟨rfl, ⟨_, rfl, by omega, by omega, (Or.inr ⟨by omega, gs_ixf_n (fun h => by unfold gz_sl at h; simp only [List.mem_cons, List.not_mem_nil, or_false] at h; omega)⟩)⟩⟩
set_option maxHeartbeats 8000000 in
set_option maxRecDepth 100000 in
theorem d_X9_takeName_p {ws0 : List Cond} {tb : String → gz_T} (hws : gc_Ws ws0) (htb : gc_tbs tb) (sh : gz_Sh) (ro : Nat → Nat) (I : gr_I) (J : gr_J) (A : gc_A) (hI : gc_Inv ro I) (p : Nat) (β : Int → Int) (η : Int)  (hp : gc_isText sh ro A p)  (x0 : I p 5 < I p 1) (x1 : 97 ≤ I (p + 1) (Int.toNat (I p 5)) ∧ I (p + 1) (Int.toNat (I p 5)) ≤ 122) (x2 : gs_TX β η (I (p + 1))) (x3 : η = I p 1) : ∃ r hₚ, gz_Ev ws0 tb 1 (yX9_takeName, cX9_takeName, 3, none) [.inr (.inr (some p))] sh (gc_h sh I J A) r sh hₚ 0 0 ∧ (∃ (Iₚ : gr_I) (Jₚ : gr_J), hₚ = gc_h sh Iₚ Jₚ A ∧ gc_Inv ro Iₚ ∧ (∀ q j : Nat, ((q = p ∧ j = 6) ∨ (q = p ∧ j = 7)) ∨ Iₚ q j = I q j) ∧ (∀ q j : Nat, ((q = p ∧ j = 9)) ∨ Jₚ q j = J q j) ∧ r = none ∧ (I p 5 < Iₚ p 6) ∧ (Iₚ p 6 ≤ I p 1) ∧ (Iₚ p 7 = 1) ∧ (Iₚ p 6 = gs_ne β 8 (I p 5)) ∧ (Jₚ p 9 = gs_nv β 8 (I p 5) (Int64.ofNat 0))) := by
  have FI : ∀ q j : Nat, ((q = p ∧ j = 6) ∨ (q = p ∧ j = 7)) ∨ I q j = I q j := fun _ _ => Or.inr rfl
  have FJ : ∀ q j : Nat, ((q = p ∧ j = 9)) ∨ J q j = J q j := fun _ _ => Or.inr rfl
  obtain ⟨S_p, R_p, B_p, A_p_0, S_p_1, R_p_1, B_p_1, A_p_2, S_p_2, R_p_2, B_p_2, A_p_3, S_p_3, R_p_3, B_p_3⟩ := id hp
  replace R_p := gz_hi R_p
  replace B_p := gz_hi B_p
  replace R_p_1 := gz_hi R_p_1
  replace B_p_1 := gz_hi B_p_1
  replace R_p_2 := gz_hi R_p_2
  replace B_p_2 := gz_hi B_p_2
  replace R_p_3 := gz_hi R_p_3
  replace B_p_3 := gz_hi B_p_3
  have hD : gv_D (gc_E9 ws0 tb 0 (yX9_takeName, cX9_takeName, 3, none) kX9_takeName) := gq_of oX9_takeName
  refine gc_ev9 (d := 0) (l := kX9_takeName) (Po := fun r hₚ => (∃ (Iₚ : gr_I) (Jₚ : gr_J), hₚ = gc_h sh Iₚ Jₚ A ∧ gc_Inv ro Iₚ ∧ (∀ q j : Nat, ((q = p ∧ j = 6) ∨ (q = p ∧ j = 7)) ∨ Iₚ q j = I q j) ∧ (∀ q j : Nat, ((q = p ∧ j = 9)) ∨ Jₚ q j = J q j) ∧ r = none ∧ (I p 5 < Iₚ p 6) ∧ (Iₚ p 6 ≤ I p 1) ∧ (Iₚ p 7 = 1) ∧ (Iₚ p 6 = gs_ne β 8 (I p 5)) ∧ (Jₚ p 9 = gs_nv β 8 (I p 5) (Int64.ofNat 0)))) htb rfl (Nat.le_of_ble_eq_true rfl) ?_
  have f1 := gz_hi ((show 0 ≤ I p 1 ∧ I p 1 ≤ 1000 from gc_in2 hI (gz_sh R_p) rfl rfl rfl))
  have f2 := gz_hi ((show 0 ≤ I p 5 ∧ I p 5 ≤ 1000 from gc_in2 hI (gz_sh R_p) rfl rfl rfl))
  have L10 : ∀ (n9 : Nat) (I5 : gr_I) (J6 : gr_J) (v1_7 : Int), (1001 - v1_7).toNat < n9 → gc_Inv ro I5 → (∀ q j : Nat, ((q = p ∧ j = 6) ∨ (q = p ∧ j = 7)) ∨ I5 q j = I q j) → (∀ q j : Nat, ((q = p ∧ j = 9)) ∨ J6 q j = J q j) → ((0 ≤ v1_7 ∧ v1_7 ≤ 1000) ∧ (I5 p 5 = I p 5) ∧ (I5 p 1 = I p 1) ∧ (I5 p 5 ≤ v1_7) ∧ (v1_7 ≤ I5 p 1) ∧ (I5 p 5 < v1_7 ∨ (v1_7 = I5 p 5 ∧ 97 ≤ I5 (p + 1) (Int.toNat v1_7) ∧ I5 (p + 1) (Int.toNat v1_7) ≤ 122))) → (gs_ne β 8 (I p 5) = gs_ne β (Int.toNat ((I p 5) + (8 : Nat) - v1_7)) v1_7) → (gs_nv β 8 (I p 5) (Int64.ofNat 0) = gs_nv β (Int.toNat ((I p 5) + (8 : Nat) - v1_7)) v1_7 (J6 p 9)) → gv_X (gc_E9 ws0 tb 0 (yX9_takeName, cX9_takeName, 3, none) kX9_takeName) (gv_Q cX9_takeName none sh (fun r hₚ => (∃ (Iₚ : gr_I) (Jₚ : gr_J), hₚ = gc_h sh Iₚ Jₚ A ∧ gc_Inv ro Iₚ ∧ (∀ q j : Nat, ((q = p ∧ j = 6) ∨ (q = p ∧ j = 7)) ∨ Iₚ q j = I q j) ∧ (∀ q j : Nat, ((q = p ∧ j = 9)) ∨ Jₚ q j = J q j) ∧ r = none ∧ (I p 5 < Iₚ p 6) ∧ (Iₚ p 6 ≤ I p 1) ∧ (Iₚ p 7 = 1) ∧ (Iₚ p 6 = gs_ne β 8 (I p 5)) ∧ (Jₚ p 9 = gs_nv β 8 (I p 5) (Int64.ofNat 0))))) (10, [(0, .inr (.inr (some p))), (1, .inl v1_7)], [], sh, gc_h sh I5 J6 A) := by
    intro n9
    induction n9 with
    | zero => intro I5 J6 v1_7 hn; (/-0-/first | (have o1 := gz_sh f2; omega) | (simp only [gz_hd] at *; omega))
    | succ n9 ih10 =>
      intro I5 J6 v1_7 hn hI5 FI5 FJ6 m_7 e5_7 e6_7
      obtain ⟨hv1_7, e0_7, e1_7, e2_7, e3_7, e4_7⟩ := gz_h6 m_7
      have L83 : ((0 ≤ v1_7 ∧ v1_7 ≤ 1000) ∧ (I5 p 5 = I p 5) ∧ (I5 p 1 = I p 1) ∧ (I5 p 5 < v1_7) ∧ (v1_7 ≤ I5 p 1)) → (gs_ne β 8 (I p 5) = v1_7) → (gs_nv β 8 (I p 5) (Int64.ofNat 0) = J6 p 9) → gv_X (gc_E9 ws0 tb 0 (yX9_takeName, cX9_takeName, 3, none) kX9_takeName) (gv_Q cX9_takeName none sh (fun r hₚ => (∃ (Iₚ : gr_I) (Jₚ : gr_J), hₚ = gc_h sh Iₚ Jₚ A ∧ gc_Inv ro Iₚ ∧ (∀ q j : Nat, ((q = p ∧ j = 6) ∨ (q = p ∧ j = 7)) ∨ Iₚ q j = I q j) ∧ (∀ q j : Nat, ((q = p ∧ j = 9)) ∨ Jₚ q j = J q j) ∧ r = none ∧ (I p 5 < Iₚ p 6) ∧ (Iₚ p 6 ≤ I p 1) ∧ (Iₚ p 7 = 1) ∧ (Iₚ p 6 = gs_ne β 8 (I p 5)) ∧ (Jₚ p 9 = gs_nv β 8 (I p 5) (Int64.ofNat 0))))) (83, [(0, .inr (.inr (some p))), (1, .inl v1_7)], [], sh, gc_h sh I5 J6 A) := by
        intro m_12 e4_12 e5_12
        obtain ⟨hv1_7_12, e0_12, e1_12, e2_12, e3_12⟩ := gz_h5 m_12
        refine gv_run 2 true hD (pcₚ := 85) (lvₚ := [(0, .inr (.inr (some p))), (1, .inl v1_7)]) (stₚ := [.inl 1, .inr (.inr (some p))]) (hₚ := gc_h sh I5 J6 A) (C := ((True ∧ True) ∧ True)) rfl ⟨⟨trivial, trivial⟩, trivial⟩ ?_
        refine gv_put hD rfl rfl S_p ⟨by decide, (gz_sh B_p)⟩ rfl trivial ?_
        refine gc_st (k := 7) hI5 S_p rfl (gz_sh R_p) (lo := 0) (hi := 125) rfl rfl (by (/-3-/first | omega | (simp only [gz_hd] at *; omega))) (by (/-4-/first | omega | (simp only [gz_hd] at *; omega))) (fun I20 hI20 q21 p21 => ?_)
        have FI20 := gc_frs (W := fun q j => (q = p ∧ j = 6) ∨ (q = p ∧ j = 7)) FI5 (Or.inr ⟨rfl, rfl⟩) p21
        have t22 := gz_hi (p21 p 1 (fun h => absurd h.2 (by first | exact gz_ne rfl | decide)))
        have t23 := gz_hi (p21 p 5 (fun h => absurd h.2 (by first | exact gz_ne rfl | decide)))
        show gv_X _ _ (88, [(0, .inr (.inr (some p))), (1, .inl v1_7)], [], sh, gc_h sh I20 J6 A)
        refine gv_run 2 true hD (pcₚ := 90) (lvₚ := [(0, .inr (.inr (some p))), (1, .inl v1_7)]) (stₚ := [.inl v1_7, .inr (.inr (some p))]) (hₚ := gc_h sh I20 J6 A) (C := ((True ∧ True) ∧ True)) rfl ⟨⟨trivial, trivial⟩, trivial⟩ ?_
        refine gv_put hD rfl rfl S_p ⟨by decide, (gz_sh B_p)⟩ rfl trivial ?_
        refine gc_st (k := 6) hI20 S_p rfl (gz_sh R_p) (lo := 0) (hi := 1001) rfl rfl (by (/-5-/first | (have o1 := gz_sh hv1_7; omega) | (simp only [gz_hd] at *; omega))) (by (/-6-/first | (have o1 := gz_sh hv1_7; omega) | (simp only [gz_hd] at *; omega))) (fun I26 hI26 q27 p27 => ?_)
        have FI26 := gc_frs (W := fun q j => (q = p ∧ j = 6) ∨ (q = p ∧ j = 7)) FI20 (Or.inl ⟨rfl, rfl⟩) p27
        have t28 := gz_hi (p27 p 1 (fun h => absurd h.2 (by first | exact gz_ne rfl | decide)))
        have t29 := gz_hi (p27 p 5 (fun h => absurd h.2 (by first | exact gz_ne rfl | decide)))
        have t30 := gz_hi (p27 p 7 (fun h => absurd h.2 (by first | exact gz_ne rfl | decide)))
        show gv_X _ _ (93, [(0, .inr (.inr (some p))), (1, .inl v1_7)], [], sh, gc_h sh I26 J6 A)
        exact gv_vret hD rfl ⟨I26, J6, rfl, hI26, FI26, FJ6, ⟨rfl, by (/-7-/first | (have o1 := gz_sh e0_7; have o2 := gz_sh e2_12; omega) | (simp only [gz_hd] at *; omega)), by (/-8-/first | (have o1 := gz_sh e1_7; have o2 := gz_sh e3_7; omega) | (simp only [gz_hd] at *; omega)), by (/-9-/first | (have o1 := gz_sh t30; omega) | (simp only [gz_hd] at *; omega)), (by have h9 := e4_12; (/-10-/first | omega | (simp only [gz_hd] at *; omega))), (e5_12.symm)⟩⟩
      have L63 : ∀ (v2_32 : Int), ((0 ≤ v1_7 ∧ v1_7 ≤ 999) ∧ (48 ≤ v2_32 ∧ v2_32 ≤ 122) ∧ (I5 p 5 = I p 5) ∧ (I5 p 1 = I p 1) ∧ (I5 p 5 ≤ v1_7) ∧ (v1_7 < I5 p 1) ∧ (v1_7 < (I p 5) + 8) ∧ (v2_32 = I5 (p + 1) (Int.toNat v1_7)) ∧ ((97 ≤ β v1_7 ∧ β v1_7 ≤ 122) ∨ (48 ≤ β v1_7 ∧ β v1_7 ≤ 57))) → (gs_ne β 8 (I p 5) = gs_ne β (Int.toNat ((I p 5) + (8 : Nat) - v1_7)) v1_7) → (gs_nv β 8 (I p 5) (Int64.ofNat 0) = gs_nv β (Int.toNat ((I p 5) + (8 : Nat) - v1_7)) v1_7 (J6 p 9)) → gv_X (gc_E9 ws0 tb 0 (yX9_takeName, cX9_takeName, 3, none) kX9_takeName) (gv_Q cX9_takeName none sh (fun r hₚ => (∃ (Iₚ : gr_I) (Jₚ : gr_J), hₚ = gc_h sh Iₚ Jₚ A ∧ gc_Inv ro Iₚ ∧ (∀ q j : Nat, ((q = p ∧ j = 6) ∨ (q = p ∧ j = 7)) ∨ Iₚ q j = I q j) ∧ (∀ q j : Nat, ((q = p ∧ j = 9)) ∨ Jₚ q j = J q j) ∧ r = none ∧ (I p 5 < Iₚ p 6) ∧ (Iₚ p 6 ≤ I p 1) ∧ (Iₚ p 7 = 1) ∧ (Iₚ p 6 = gs_ne β 8 (I p 5)) ∧ (Jₚ p 9 = gs_nv β 8 (I p 5) (Int64.ofNat 0))))) (63, [(0, .inr (.inr (some p))), (1, .inl v1_7), (2, .inl v2_32)], [], sh, gc_h sh I5 J6 A) := by
        intro v2_32 m_32 e4_32 e5_32
        obtain ⟨hv1_7_32, hv2_32, e0_32, e1_32, e2_32, e3_32, e6_32, e7_32, e8_32⟩ := gz_h9 m_32
        have t37 := gz_hi ((fun h : v1_7 < η => gs_TX_i x2 (k := v1_7) (by (/-11-/first | (have o1 := gz_sh hv1_7; omega) | (simp only [gz_hd] at *; omega))) h))
        have t38 := gz_hi ((fun h : ¬ v1_7 < η => gs_TX_o x2 (k := v1_7) h))
        have t39 := gz_hi ((show I5 (p + 1) (Int.toNat v1_7) = I (p + 1) (Int.toNat v1_7) from (FI5 (p + 1) (Int.toNat v1_7)).resolve_left (by (/-12-/first | omega | (simp only [gz_hd] at *; omega)))))
        refine gv_run 2 true hD (pcₚ := 65) (lvₚ := [(0, .inr (.inr (some p))), (1, .inl v1_7), (2, .inl v2_32)]) (stₚ := [.inr (.inr (some p)), .inr (.inr (some p))]) (hₚ := gc_h sh I5 J6 A) (C := ((True ∧ True) ∧ True)) rfl ⟨⟨trivial, trivial⟩, trivial⟩ ?_
        refine gv_get hD rfl rfl S_p ⟨by decide, (gz_sh B_p)⟩ (gc_hJ S_p rfl) ?_
        show gv_X _ _ (68, [(0, .inr (.inr (some p))), (1, .inl v1_7), (2, .inl v2_32)], [.inr (.inl (J6 p 9)), .inr (.inr (some p))], sh, gc_h sh I5 J6 A)
        refine gv_run 5 true hD (pcₚ := 74) (lvₚ := [(0, .inr (.inr (some p))), (1, .inl v1_7), (2, .inl v2_32)]) (stₚ := [.inr (.inl (((J6 p 9) <<< ((Int32.ofInt 8).toInt64 &&& 63)) ||| (Int32.ofInt v2_32).toInt64)), .inr (.inr (some p))]) (hₚ := gc_h sh I5 J6 A) (C := (((((True ∧ True) ∧ True) ∧ True) ∧ True) ∧ True)) rfl ⟨⟨⟨⟨⟨trivial, trivial⟩, trivial⟩, trivial⟩, trivial⟩, trivial⟩ ?_
        refine gv_put hD rfl rfl S_p ⟨by decide, (gz_sh B_p)⟩ rfl trivial ?_
        refine gc_stJ S_p rfl (fun J40 q41 p41 => ?_)
        have FJ40 := gc_frs (W := fun q j => (q = p ∧ j = 9)) FJ6 ⟨rfl, rfl⟩ p41
        show gv_X _ _ (77, [(0, .inr (.inr (some p))), (1, .inl v1_7), (2, .inl v2_32)], [], sh, gc_h sh I5 J40 A)
        refine gv_run 2 true hD (pcₚ := 10) (lvₚ := [(1, .inl (v1_7 + 1)), (0, .inr (.inr (some p))), (2, .inl v2_32)]) (stₚ := []) (hₚ := gc_h sh I5 J40 A) (C := ((True ∧ True) ∧ True)) rfl ⟨⟨trivial, trivial⟩, trivial⟩ ?_
        refine gv_pick [1, 0] rfl ?_
        exact ih10 I5 J40 (v1_7 + 1) (by (/-13-/first | (have o1 := gz_sh e0_7; have o2 := gz_sh e1_7; have o3 := gz_sh e2_7; have o4 := gz_sh e3_32; have o5 := gz_sh e4_7; have o6 := gz_sh e6_32; have o7 := gz_sh e7_32; have o8 := gz_sh e8_32; have o9 := gz_sh hv1_7; have o10 := gz_sh hv1_7_32; have o11 := gz_sh hv2_32; have o12 := gz_sh t37; have o13 := gz_sh t38; have o14 := gz_sh t39; omega) | (simp only [gz_hd] at *; omega))) hI5 FI5 FJ40 (by (/-14-/first | (and_intros; (have o1 := gz_sh hv1_7; omega); (have o1 := gz_sh hv1_7_32; omega); (have o1 := gz_sh e0_7; omega); (have o1 := gz_sh e1_7; omega); (have o1 := gz_sh e2_7; omega); (have o1 := gz_sh e3_32; omega); (have o1 := gz_sh e2_7; omega)) | (simp only [gz_hd] at *; omega))) (e4_32.trans (gs_ne_s (by (/-15-/first | (have o1 := gz_sh e6_32; omega) | (simp only [gz_hd] at *; omega))) (by (/-16-/first | (have o1 := gz_sh e8_32; omega) | (simp only [gz_hd] at *; omega))))) (e5_32.trans ((gs_nv_s (by (/-17-/first | (have o1 := gz_sh e6_32; omega) | (simp only [gz_hd] at *; omega))) (by (/-18-/first | (have o1 := gz_sh e8_32; omega) | (simp only [gz_hd] at *; omega)))).trans (by rw [q41, show β v1_7 = v2_32 from by (/-19-/first | (have o1 := gz_sh e1_7; have o2 := gz_sh e3_32; have o3 := gz_sh e7_32; have o4 := gz_sh t37; have o5 := gz_sh t39; omega) | (simp only [gz_hd] at *; omega))]; rfl)))
      have L48 : ∀ (v2_42 : Int), ((0 ≤ v1_7 ∧ v1_7 ≤ 999) ∧ ((-128) ≤ v2_42 ∧ v2_42 ≤ 127) ∧ (I5 p 5 = I p 5) ∧ (I5 p 1 = I p 1) ∧ (I5 p 5 ≤ v1_7) ∧ (v1_7 < I5 p 1) ∧ (I5 p 5 < v1_7 ∨ (v1_7 = I5 p 5 ∧ 97 ≤ I5 (p + 1) (Int.toNat v1_7) ∧ I5 (p + 1) (Int.toNat v1_7) ≤ 122)) ∧ (v2_42 = I5 (p + 1) (Int.toNat v1_7)) ∧ (v2_42 < 97 ∨ 122 < v2_42) ∧ (v1_7 < (I p 5) + 8)) → (gs_ne β 8 (I p 5) = gs_ne β (Int.toNat ((I p 5) + (8 : Nat) - v1_7)) v1_7) → (gs_nv β 8 (I p 5) (Int64.ofNat 0) = gs_nv β (Int.toNat ((I p 5) + (8 : Nat) - v1_7)) v1_7 (J6 p 9)) → gv_X (gc_E9 ws0 tb 0 (yX9_takeName, cX9_takeName, 3, none) kX9_takeName) (gv_Q cX9_takeName none sh (fun r hₚ => (∃ (Iₚ : gr_I) (Jₚ : gr_J), hₚ = gc_h sh Iₚ Jₚ A ∧ gc_Inv ro Iₚ ∧ (∀ q j : Nat, ((q = p ∧ j = 6) ∨ (q = p ∧ j = 7)) ∨ Iₚ q j = I q j) ∧ (∀ q j : Nat, ((q = p ∧ j = 9)) ∨ Jₚ q j = J q j) ∧ r = none ∧ (I p 5 < Iₚ p 6) ∧ (Iₚ p 6 ≤ I p 1) ∧ (Iₚ p 7 = 1) ∧ (Iₚ p 6 = gs_ne β 8 (I p 5)) ∧ (Jₚ p 9 = gs_nv β 8 (I p 5) (Int64.ofNat 0))))) (48, [(0, .inr (.inr (some p))), (1, .inl v1_7), (2, .inl v2_42)], [], sh, gc_h sh I5 J6 A) := by
        intro v2_42 m_42 e7_42 e8_42
        obtain ⟨hv1_7_42, hv2_42, e0_42, e1_42, e2_42, e3_42, e4_42, e5_42, e6_42, e9_42⟩ := gz_h10 m_42
        have t47 := gz_hi ((fun h : v1_7 < η => gs_TX_i x2 (k := v1_7) (by (/-20-/first | (have o1 := gz_sh hv1_7; omega) | (simp only [gz_hd] at *; omega))) h))
        have t48 := gz_hi ((fun h : ¬ v1_7 < η => gs_TX_o x2 (k := v1_7) h))
        have t49 := gz_hi ((show I5 (p + 1) (Int.toNat v1_7) = I (p + 1) (Int.toNat v1_7) from (FI5 (p + 1) (Int.toNat v1_7)).resolve_left (by (/-21-/first | omega | (simp only [gz_hd] at *; omega)))))
        refine gv_run 2 true hD (pcₚ := 51) (lvₚ := [(0, .inr (.inr (some p))), (1, .inl v1_7), (2, .inl v2_42)]) (stₚ := [.inl 48, .inl v2_42]) (hₚ := gc_h sh I5 J6 A) (C := ((True ∧ True) ∧ True)) rfl ⟨⟨trivial, trivial⟩, trivial⟩ ?_
        refine gv_icmp_lt (t := 83) hD rfl rfl ⟨⟨by (/-22-/first | (have o1 := gz_sh hv2_42; omega) | (simp only [gz_hd] at *; omega)), by (/-23-/first | (have o1 := gz_sh hv2_42; omega) | (simp only [gz_hd] at *; omega))⟩, ⟨by (/-24-/first | omega | (simp only [gz_hd] at *; omega)), by (/-25-/first | omega | (simp only [gz_hd] at *; omega))⟩⟩ (fun c50 => ?_) (fun c50 => ?_)
        · show gv_X _ _ (83, [(0, .inr (.inr (some p))), (1, .inl v1_7), (2, .inl v2_42)], [], sh, gc_h sh I5 J6 A)
          refine gv_pick [0, 1] rfl ?_
          exact L83 (by (/-26-/first | (and_intros; (have o1 := gz_sh hv1_7; omega); (have o1 := gz_sh hv1_7_42; omega); (have o1 := gz_sh e0_7; omega); (have o1 := gz_sh e1_7; omega); (have o1 := gz_sh e4_42; have o2 := gz_sh e5_42; omega); (have o1 := gz_sh e3_42; omega)) | (simp only [gz_hd] at *; omega))) (e7_42.trans (gs_ne_e (by (/-27-/first | (have o1 := gz_sh e1_7; have o2 := gz_sh e3_42; have o3 := gz_sh e5_42; have o4 := gz_sh t47; have o5 := gz_sh t49; omega) | (simp only [gz_hd] at *; omega))))) (e8_42.trans (gs_nv_e (by (/-28-/first | (have o1 := gz_sh e1_7; have o2 := gz_sh e3_42; have o3 := gz_sh e5_42; have o4 := gz_sh t47; have o5 := gz_sh t49; omega) | (simp only [gz_hd] at *; omega)))))
        · show gv_X _ _ (54, [(0, .inr (.inr (some p))), (1, .inl v1_7), (2, .inl v2_42)], [], sh, gc_h sh I5 J6 A)
          refine gv_run 2 true hD (pcₚ := 57) (lvₚ := [(0, .inr (.inr (some p))), (1, .inl v1_7), (2, .inl v2_42)]) (stₚ := [.inl 57, .inl v2_42]) (hₚ := gc_h sh I5 J6 A) (C := ((True ∧ True) ∧ True)) rfl ⟨⟨trivial, trivial⟩, trivial⟩ ?_
          refine gv_icmp_le (t := 63) hD rfl rfl ⟨⟨by (/-29-/first | omega | (simp only [gz_hd] at *; omega)), by (/-30-/first | (have o1 := gz_sh hv2_42; omega) | (simp only [gz_hd] at *; omega))⟩, ⟨by (/-31-/first | omega | (simp only [gz_hd] at *; omega)), by (/-32-/first | omega | (simp only [gz_hd] at *; omega))⟩⟩ (fun c51 => ?_) (fun c51 => ?_)
          · show gv_X _ _ (63, [(0, .inr (.inr (some p))), (1, .inl v1_7), (2, .inl v2_42)], [], sh, gc_h sh I5 J6 A)
            exact L63 v2_42 (by (/-33-/first | (and_intros; (have o1 := gz_sh hv1_7; omega); (have o1 := gz_sh hv1_7_42; omega); (omega); (omega); (have o1 := gz_sh e0_7; omega); (have o1 := gz_sh e1_7; omega); (have o1 := gz_sh e2_7; omega); (have o1 := gz_sh e3_42; omega); (have o1 := gz_sh e9_42; omega); (have o1 := gz_sh e5_42; omega); (have o1 := gz_sh e1_7; have o2 := gz_sh e3_42; have o3 := gz_sh e5_42; have o4 := gz_sh t47; have o5 := gz_sh t49; omega)) | (simp only [gz_hd] at *; omega))) e7_42 e8_42
          · show gv_X _ _ (60, [(0, .inr (.inr (some p))), (1, .inl v1_7), (2, .inl v2_42)], [], sh, gc_h sh I5 J6 A)
            refine gv_run 1 true hD (pcₚ := 83) (lvₚ := [(0, .inr (.inr (some p))), (1, .inl v1_7), (2, .inl v2_42)]) (stₚ := []) (hₚ := gc_h sh I5 J6 A) (C := (True ∧ True)) rfl ⟨trivial, trivial⟩ ?_
            refine gv_pick [0, 1] rfl ?_
            exact L83 (by (/-34-/first | (and_intros; (have o1 := gz_sh hv1_7; omega); (have o1 := gz_sh hv1_7_42; omega); (have o1 := gz_sh e0_7; omega); (have o1 := gz_sh e1_7; omega); (have o1 := gz_sh e4_42; have o2 := gz_sh e5_42; have o3 := gz_sh e6_42; omega); (have o1 := gz_sh e3_42; omega)) | (simp only [gz_hd] at *; omega))) (e7_42.trans (gs_ne_e (by (/-35-/first | (have o1 := gz_sh e0_7; have o2 := gz_sh e1_7; have o3 := gz_sh e2_7; have o4 := gz_sh e3_42; have o5 := gz_sh e5_42; have o6 := gz_sh e6_42; have o7 := gz_sh e9_42; have o8 := gz_sh hv2_42; have o9 := gz_sh t47; have o10 := gz_sh t48; have o11 := gz_sh t49; omega) | (simp only [gz_hd] at *; omega))))) (e8_42.trans (gs_nv_e (by (/-36-/first | (have o1 := gz_sh e0_7; have o2 := gz_sh e1_7; have o3 := gz_sh e2_7; have o4 := gz_sh e3_42; have o5 := gz_sh e5_42; have o6 := gz_sh e6_42; have o7 := gz_sh e9_42; have o8 := gz_sh hv2_42; have o9 := gz_sh t47; have o10 := gz_sh t48; have o11 := gz_sh t49; omega) | (simp only [gz_hd] at *; omega)))))
      have t52 := gz_hi ((fun h : v1_7 < η => gs_TX_i x2 (k := v1_7) (by (/-37-/first | (have o1 := gz_sh hv1_7; omega) | (simp only [gz_hd] at *; omega))) h))
      have t53 := gz_hi ((fun h : ¬ v1_7 < η => gs_TX_o x2 (k := v1_7) h))
      have t54 := gz_hi ((show I5 (p + 1) (Int.toNat v1_7) = I (p + 1) (Int.toNat v1_7) from (FI5 (p + 1) (Int.toNat v1_7)).resolve_left (by (/-38-/first | omega | (simp only [gz_hd] at *; omega)))))
      refine gv_run 2 true hD (pcₚ := 12) (lvₚ := [(0, .inr (.inr (some p))), (1, .inl v1_7)]) (stₚ := [.inr (.inr (some p)), .inl v1_7]) (hₚ := gc_h sh I5 J6 A) (C := ((True ∧ True) ∧ True)) rfl ⟨⟨trivial, trivial⟩, trivial⟩ ?_
      refine gv_get hD rfl rfl S_p ⟨by decide, (gz_sh B_p)⟩ (gc_hI S_p rfl) ?_
      show gv_X _ _ (15, [(0, .inr (.inr (some p))), (1, .inl v1_7)], [.inl (I5 p 1), .inl v1_7], sh, gc_h sh I5 J6 A)
      refine gv_icmp_ge (t := 83) hD rfl rfl ⟨⟨by (/-39-/first | (have o1 := gz_sh hv1_7; omega) | (simp only [gz_hd] at *; omega)), by (/-40-/first | (have o1 := gz_sh hv1_7; omega) | (simp only [gz_hd] at *; omega))⟩, ⟨by (/-41-/first | (have o1 := gz_sh e1_7; have o2 := gz_sh f1; omega) | (simp only [gz_hd] at *; omega)), by (/-42-/first | (have o1 := gz_sh e1_7; have o2 := gz_sh f1; omega) | (simp only [gz_hd] at *; omega))⟩⟩ (fun c56 => ?_) (fun c56 => ?_)
      · show gv_X _ _ (83, [(0, .inr (.inr (some p))), (1, .inl v1_7)], [], sh, gc_h sh I5 J6 A)
        exact L83 (by (/-43-/first | (and_intros; (have o1 := gz_sh e1_7; have o2 := gz_sh f1; omega); (have o1 := gz_sh e1_7; have o2 := gz_sh e3_7; have o3 := gz_sh f1; omega); (have o1 := gz_sh e0_7; omega); (have o1 := gz_sh e1_7; omega); (have o1 := gz_sh e0_7; have o2 := gz_sh e1_7; omega); (have o1 := gz_sh e3_7; omega)) | (simp only [gz_hd] at *; omega))) (e5_7.trans (gs_ne_e (by (/-44-/first | (have o1 := gz_sh e1_7; have o2 := gz_sh t53; omega) | (simp only [gz_hd] at *; omega))))) (e6_7.trans (gs_nv_e (by (/-45-/first | (have o1 := gz_sh e1_7; have o2 := gz_sh t53; omega) | (simp only [gz_hd] at *; omega)))))
      · show gv_X _ _ (18, [(0, .inr (.inr (some p))), (1, .inl v1_7)], [], sh, gc_h sh I5 J6 A)
        refine gv_run 2 true hD (pcₚ := 20) (lvₚ := [(0, .inr (.inr (some p))), (1, .inl v1_7)]) (stₚ := [.inr (.inr (some p)), .inl v1_7]) (hₚ := gc_h sh I5 J6 A) (C := ((True ∧ True) ∧ True)) rfl ⟨⟨trivial, trivial⟩, trivial⟩ ?_
        refine gv_get hD rfl rfl S_p ⟨by decide, (gz_sh B_p)⟩ (gc_hI S_p rfl) ?_
        show gv_X _ _ (23, [(0, .inr (.inr (some p))), (1, .inl v1_7)], [.inl (I5 p 5), .inl v1_7], sh, gc_h sh I5 J6 A)
        refine gv_run 2 true hD (pcₚ := 26) (lvₚ := [(0, .inr (.inr (some p))), (1, .inl v1_7)]) (stₚ := [.inl ((I5 p 5) + 8), .inl v1_7]) (hₚ := gc_h sh I5 J6 A) (C := ((True ∧ True) ∧ True)) rfl ⟨⟨trivial, trivial⟩, trivial⟩ ?_
        refine gv_icmp_ge (t := 83) hD rfl rfl ⟨⟨by (/-46-/first | (have o1 := gz_sh hv1_7; omega) | (simp only [gz_hd] at *; omega)), by (/-47-/first | (have o1 := gz_sh hv1_7; omega) | (simp only [gz_hd] at *; omega))⟩, ⟨by (/-48-/first | (have o1 := gz_sh e0_7; have o2 := gz_sh f2; omega) | (simp only [gz_hd] at *; omega)), by (/-49-/first | (have o1 := gz_sh e0_7; have o2 := gz_sh f2; omega) | (simp only [gz_hd] at *; omega))⟩⟩ (fun c58 => ?_) (fun c58 => ?_)
        · show gv_X _ _ (83, [(0, .inr (.inr (some p))), (1, .inl v1_7)], [], sh, gc_h sh I5 J6 A)
          exact L83 (by (/-50-/first | (and_intros; (have o1 := gz_sh hv1_7; omega); (have o1 := gz_sh hv1_7; omega); (have o1 := gz_sh e0_7; omega); (have o1 := gz_sh e1_7; omega); (omega); (omega)) | (simp only [gz_hd] at *; omega))) (e5_7.trans (gs_ne_e (by (/-51-/first | (have o1 := gz_sh e0_7; omega) | (simp only [gz_hd] at *; omega))))) (e6_7.trans (gs_nv_e (by (/-52-/first | (have o1 := gz_sh e0_7; omega) | (simp only [gz_hd] at *; omega)))))
        · show gv_X _ _ (29, [(0, .inr (.inr (some p))), (1, .inl v1_7)], [], sh, gc_h sh I5 J6 A)
          refine gv_run 1 true hD (pcₚ := 30) (lvₚ := [(0, .inr (.inr (some p))), (1, .inl v1_7)]) (stₚ := [.inr (.inr (some p))]) (hₚ := gc_h sh I5 J6 A) (C := (True ∧ True)) rfl ⟨trivial, trivial⟩ ?_
          refine gv_get hD rfl rfl S_p ⟨by decide, (gz_sh B_p)⟩ (gc_hA S_p rfl A_p_0) ?_
          show gv_X _ _ (33, [(0, .inr (.inr (some p))), (1, .inl v1_7)], [.inr (.inr (some (p + 1)))], sh, gc_h sh I5 J6 A)
          refine gv_run 1 true hD (pcₚ := 34) (lvₚ := [(0, .inr (.inr (some p))), (1, .inl v1_7)]) (stₚ := [.inl v1_7, .inr (.inr (some (p + 1)))]) (hₚ := gc_h sh I5 J6 A) (C := (True ∧ True)) rfl ⟨trivial, trivial⟩ ?_
          have f59 := gz_hi ((show (-128) ≤ I5 (p + 1) (Int.toNat v1_7) ∧ I5 (p + 1) (Int.toNat v1_7) ≤ 127 from gc_in2 hI5 (gz_sh R_p_1) rfl rfl rfl))
          refine gv_bald hD rfl S_p_1 (Or.inl rfl) ⟨by decide, (gz_sh B_p_1)⟩ ⟨by (/-53-/first | (have o1 := gz_sh hv1_7; omega) | (simp only [gz_hd] at *; omega)), by (/-54-/first | (have o1 := gz_sh e1_7; have o2 := gz_sh f1; omega) | (simp only [gz_hd] at *; omega))⟩ (gc_iI S_p_1 rfl) ?_
          show gv_X _ _ (35, [(0, .inr (.inr (some p))), (1, .inl v1_7)], [.inl (I5 (p + 1) (Int.toNat v1_7))], sh, gc_h sh I5 J6 A)
          refine gv_run 3 true hD (pcₚ := 39) (lvₚ := [(2, .inl (I5 (p + 1) (Int.toNat v1_7))), (0, .inr (.inr (some p))), (1, .inl v1_7)]) (stₚ := [.inl 97, .inl (I5 (p + 1) (Int.toNat v1_7))]) (hₚ := gc_h sh I5 J6 A) (C := (((True ∧ True) ∧ True) ∧ True)) rfl ⟨⟨⟨trivial, trivial⟩, trivial⟩, trivial⟩ ?_
          refine gv_icmp_lt (t := 48) hD rfl rfl ⟨⟨by (/-55-/first | (have o1 := gz_sh f59; omega) | (simp only [gz_hd] at *; omega)), by (/-56-/first | (have o1 := gz_sh f59; omega) | (simp only [gz_hd] at *; omega))⟩, ⟨by (/-57-/first | omega | (simp only [gz_hd] at *; omega)), by (/-58-/first | omega | (simp only [gz_hd] at *; omega))⟩⟩ (fun c60 => ?_) (fun c60 => ?_)
          · show gv_X _ _ (48, [(2, .inl (I5 (p + 1) (Int.toNat v1_7))), (0, .inr (.inr (some p))), (1, .inl v1_7)], [], sh, gc_h sh I5 J6 A)
            refine gv_pick [1, 2, 0] rfl ?_
            exact L48 ((I5 (p + 1) (Int.toNat v1_7))) (by (/-59-/first | (and_intros; (have o1 := gz_sh hv1_7; omega); (have o1 := gz_sh e1_7; have o2 := gz_sh f1; omega); (have o1 := gz_sh f59; omega); (omega); (have o1 := gz_sh e0_7; omega); (have o1 := gz_sh e1_7; omega); (have o1 := gz_sh e2_7; omega); (omega); (have o1 := gz_sh e4_7; omega); (omega); (omega); (have o1 := gz_sh e0_7; omega)) | (simp only [gz_hd] at *; omega))) e5_7 e6_7
          · show gv_X _ _ (42, [(2, .inl (I5 (p + 1) (Int.toNat v1_7))), (0, .inr (.inr (some p))), (1, .inl v1_7)], [], sh, gc_h sh I5 J6 A)
            refine gv_run 2 true hD (pcₚ := 45) (lvₚ := [(2, .inl (I5 (p + 1) (Int.toNat v1_7))), (0, .inr (.inr (some p))), (1, .inl v1_7)]) (stₚ := [.inl 122, .inl (I5 (p + 1) (Int.toNat v1_7))]) (hₚ := gc_h sh I5 J6 A) (C := ((True ∧ True) ∧ True)) rfl ⟨⟨trivial, trivial⟩, trivial⟩ ?_
            refine gv_icmp_le (t := 63) hD rfl rfl ⟨⟨by (/-60-/first | omega | (simp only [gz_hd] at *; omega)), by (/-61-/first | (have o1 := gz_sh f59; omega) | (simp only [gz_hd] at *; omega))⟩, ⟨by (/-62-/first | omega | (simp only [gz_hd] at *; omega)), by (/-63-/first | omega | (simp only [gz_hd] at *; omega))⟩⟩ (fun c61 => ?_) (fun c61 => ?_)
            · show gv_X _ _ (63, [(2, .inl (I5 (p + 1) (Int.toNat v1_7))), (0, .inr (.inr (some p))), (1, .inl v1_7)], [], sh, gc_h sh I5 J6 A)
              refine gv_pick [1, 2, 0] rfl ?_
              exact L63 ((I5 (p + 1) (Int.toNat v1_7))) (by (/-64-/first | (and_intros; (have o1 := gz_sh hv1_7; omega); (have o1 := gz_sh e1_7; have o2 := gz_sh f1; omega); (omega); (omega); (have o1 := gz_sh e0_7; omega); (have o1 := gz_sh e1_7; omega); (have o1 := gz_sh e2_7; omega); (omega); (have o1 := gz_sh e0_7; omega); (omega); (have o1 := gz_sh e1_7; have o2 := gz_sh t52; have o3 := gz_sh t54; omega)) | (simp only [gz_hd] at *; omega))) e5_7 e6_7
            · show gv_X _ _ (48, [(2, .inl (I5 (p + 1) (Int.toNat v1_7))), (0, .inr (.inr (some p))), (1, .inl v1_7)], [], sh, gc_h sh I5 J6 A)
              refine gv_pick [1, 2, 0] rfl ?_
              exact L48 ((I5 (p + 1) (Int.toNat v1_7))) (by (/-65-/first | (and_intros; (have o1 := gz_sh hv1_7; omega); (have o1 := gz_sh e1_7; have o2 := gz_sh f1; omega); (omega); (have o1 := gz_sh f59; omega); (have o1 := gz_sh e0_7; omega); (have o1 := gz_sh e1_7; omega); (have o1 := gz_sh e2_7; omega); (omega); (have o1 := gz_sh e4_7; omega); (omega); (omega); (have o1 := gz_sh e0_7; omega)) | (simp only [gz_hd] at *; omega))) e5_7 e6_7
  refine gv_run 1 true hD (pcₚ := 1) (lvₚ := [(0, .inr (.inr (some p)))]) (stₚ := [.inr (.inr (some p))]) (hₚ := gc_h sh I J A) (C := (True ∧ True)) rfl ⟨trivial, trivial⟩ ?_
  refine gv_get hD rfl rfl S_p ⟨by decide, (gz_sh B_p)⟩ (gc_hI S_p rfl) ?_
  show gv_X _ _ (4, [(0, .inr (.inr (some p)))], [.inl (I p 5)], sh, gc_h sh I J A)
  refine gv_run 3 true hD (pcₚ := 7) (lvₚ := [(1, .inl (I p 5)), (0, .inr (.inr (some p)))]) (stₚ := [.inr (.inl (Int64.ofNat 0)), .inr (.inr (some p))]) (hₚ := gc_h sh I J A) (C := (((True ∧ True) ∧ True) ∧ True)) rfl ⟨⟨⟨trivial, trivial⟩, trivial⟩, trivial⟩ ?_
  refine gv_put hD rfl rfl S_p ⟨by decide, (gz_sh B_p)⟩ rfl trivial ?_
  refine gc_stJ S_p rfl (fun J63 q64 p64 => ?_)
  have FJ63 := gc_frs (W := fun q j => (q = p ∧ j = 9)) FJ ⟨rfl, rfl⟩ p64
  show gv_X _ _ (10, [(1, .inl (I p 5)), (0, .inr (.inr (some p)))], [], sh, gc_h sh I J63 A)
  refine gv_pick [1, 0] rfl ?_
  exact L10 _ I J63 (I p 5) (Nat.lt_succ_self _) hI FI FJ63 (by (/-66-/first | (and_intros; (have o1 := gz_sh f2; omega); (have o1 := gz_sh f2; omega); (omega); (omega); (omega); (omega); (omega)) | (simp only [gz_hd] at *; omega))) (by rw [show Int.toNat ((I p 5) + (8 : Nat) - (I p 5)) = 8 from by (/-67-/first | omega | (simp only [gz_hd] at *; omega))]) (by rw [show Int.toNat ((I p 5) + (8 : Nat) - (I p 5)) = 8 from by (/-68-/first | omega | (simp only [gz_hd] at *; omega)), q64])
set_option maxHeartbeats 8000000 in
set_option maxRecDepth 100000 in
theorem d_X9_takeNumber_p {ws0 : List Cond} {tb : String → gz_T} (hws : gc_Ws ws0) (htb : gc_tbs tb) (sh : gz_Sh) (ro : Nat → Nat) (I : gr_I) (J : gr_J) (A : gc_A) (hI : gc_Inv ro I) (p : Nat) (β : Int → Int) (η : Int)  (hp : gc_isText sh ro A p)  (x0 : I p 5 < I p 1) (x1 : 48 ≤ I (p + 1) (Int.toNat (I p 5)) ∧ I (p + 1) (Int.toNat (I p 5)) ≤ 57) (x2 : gs_TX β η (I (p + 1))) (x3 : η = I p 1) : ∃ r hₚ, gz_Ev ws0 tb 1 (yX9_takeNumber, cX9_takeNumber, 2, none) [.inr (.inr (some p))] sh (gc_h sh I J A) r sh hₚ 0 0 ∧ (∃ (Iₚ : gr_I) (Jₚ : gr_J), hₚ = gc_h sh Iₚ Jₚ A ∧ gc_Inv ro Iₚ ∧ (∀ q j : Nat, ((q = p ∧ j = 6) ∨ (q = p ∧ j = 7) ∨ (q = p ∧ j = 8)) ∨ Iₚ q j = I q j) ∧ (∀ q j : Nat, (False) ∨ Jₚ q j = J q j) ∧ r = none ∧ (I p 5 < Iₚ p 6) ∧ (Iₚ p 6 ≤ I p 1) ∧ (Iₚ p 7 = 2) ∧ (Iₚ p 6 = gs_de β 6 (I p 5)) ∧ (Iₚ p 8 = gs_dv β 6 (I p 5) 0)) := by
  have FI : ∀ q j : Nat, ((q = p ∧ j = 6) ∨ (q = p ∧ j = 7) ∨ (q = p ∧ j = 8)) ∨ I q j = I q j := fun _ _ => Or.inr rfl
  have FJ : ∀ q j : Nat, (False) ∨ J q j = J q j := fun _ _ => Or.inr rfl
  obtain ⟨S_p, R_p, B_p, A_p_0, S_p_1, R_p_1, B_p_1, A_p_2, S_p_2, R_p_2, B_p_2, A_p_3, S_p_3, R_p_3, B_p_3⟩ := id hp
  replace R_p := gz_hi R_p
  replace B_p := gz_hi B_p
  replace R_p_1 := gz_hi R_p_1
  replace B_p_1 := gz_hi B_p_1
  replace R_p_2 := gz_hi R_p_2
  replace B_p_2 := gz_hi B_p_2
  replace R_p_3 := gz_hi R_p_3
  replace B_p_3 := gz_hi B_p_3
  have hD : gv_D (gc_E9 ws0 tb 0 (yX9_takeNumber, cX9_takeNumber, 2, none) kX9_takeNumber) := gq_of oX9_takeNumber
  refine gc_ev9 (d := 0) (l := kX9_takeNumber) (Po := fun r hₚ => (∃ (Iₚ : gr_I) (Jₚ : gr_J), hₚ = gc_h sh Iₚ Jₚ A ∧ gc_Inv ro Iₚ ∧ (∀ q j : Nat, ((q = p ∧ j = 6) ∨ (q = p ∧ j = 7) ∨ (q = p ∧ j = 8)) ∨ Iₚ q j = I q j) ∧ (∀ q j : Nat, (False) ∨ Jₚ q j = J q j) ∧ r = none ∧ (I p 5 < Iₚ p 6) ∧ (Iₚ p 6 ≤ I p 1) ∧ (Iₚ p 7 = 2) ∧ (Iₚ p 6 = gs_de β 6 (I p 5)) ∧ (Iₚ p 8 = gs_dv β 6 (I p 5) 0))) htb rfl (Nat.le_of_ble_eq_true rfl) ?_
  have N_p_1__p := gz_hi (show ¬ ((p + 1) = p) from by (/-0-/first | omega | (simp only [gz_hd] at *; omega)))
  have f1 := gz_hi ((show 0 ≤ I p 1 ∧ I p 1 ≤ 1000 from gc_in2 hI (gz_sh R_p) rfl rfl rfl))
  have f2 := gz_hi ((show 0 ≤ I p 5 ∧ I p 5 ≤ 1000 from gc_in2 hI (gz_sh R_p) rfl rfl rfl))
  have L10 : ∀ (n9 : Nat) (I6 : gr_I) (J7 : gr_J) (v1_8 : Int), (1001 - v1_8).toNat < n9 → gc_Inv ro I6 → (∀ q j : Nat, ((q = p ∧ j = 6) ∨ (q = p ∧ j = 7) ∨ (q = p ∧ j = 8)) ∨ I6 q j = I q j) → (∀ q j : Nat, (False) ∨ J7 q j = J q j) → ((0 ≤ v1_8 ∧ v1_8 ≤ 1000) ∧ (I6 p 5 = I p 5) ∧ (I6 p 1 = I p 1) ∧ (v1_8 ≤ I6 p 1) ∧ (I6 p 5 < v1_8 ∨ (v1_8 = I6 p 5 ∧ 48 ≤ I6 (p + 1) (Int.toNat v1_8) ∧ I6 (p + 1) (Int.toNat v1_8) ≤ 57)) ∧ ((v1_8 - I6 p 5 = 0 ∧ I6 p 8 ≤ 0) ∨ (v1_8 - I6 p 5 = 1 ∧ I6 p 8 ≤ 9) ∨ (v1_8 - I6 p 5 = 2 ∧ I6 p 8 ≤ 99) ∨ (v1_8 - I6 p 5 = 3 ∧ I6 p 8 ≤ 999) ∨ (v1_8 - I6 p 5 = 4 ∧ I6 p 8 ≤ 9999) ∨ (v1_8 - I6 p 5 = 5 ∧ I6 p 8 ≤ 99999) ∨ (v1_8 - I6 p 5 = 6 ∧ I6 p 8 ≤ 999999))) → (gs_de β 6 (I p 5) = gs_de β (Int.toNat ((I p 5) + (6 : Nat) - v1_8)) v1_8) → (gs_dv β 6 (I p 5) 0 = gs_dv β (Int.toNat ((I p 5) + (6 : Nat) - v1_8)) v1_8 (I6 p 8)) → gv_X (gc_E9 ws0 tb 0 (yX9_takeNumber, cX9_takeNumber, 2, none) kX9_takeNumber) (gv_Q cX9_takeNumber none sh (fun r hₚ => (∃ (Iₚ : gr_I) (Jₚ : gr_J), hₚ = gc_h sh Iₚ Jₚ A ∧ gc_Inv ro Iₚ ∧ (∀ q j : Nat, ((q = p ∧ j = 6) ∨ (q = p ∧ j = 7) ∨ (q = p ∧ j = 8)) ∨ Iₚ q j = I q j) ∧ (∀ q j : Nat, (False) ∨ Jₚ q j = J q j) ∧ r = none ∧ (I p 5 < Iₚ p 6) ∧ (Iₚ p 6 ≤ I p 1) ∧ (Iₚ p 7 = 2) ∧ (Iₚ p 6 = gs_de β 6 (I p 5)) ∧ (Iₚ p 8 = gs_dv β 6 (I p 5) 0)))) (10, [(0, .inr (.inr (some p))), (1, .inl v1_8)], [], sh, gc_h sh I6 J7 A) := by
    intro n9
    induction n9 with
    | zero => intro I6 J7 v1_8 hn; (/-1-/first | (have o1 := gz_sh f2; omega) | (simp only [gz_hd] at *; omega))
    | succ n9 ih10 =>
      intro I6 J7 v1_8 hn hI6 FI6 FJ7 m_8 e5_8 e6_8
      obtain ⟨hv1_8, e0_8, e1_8, e2_8, e3_8, e4_8⟩ := gz_h6 m_8
      have f13 := gz_hi ((show 0 ≤ I6 p 8 ∧ I6 p 8 ≤ 999999 from gc_in2 hI6 (gz_sh R_p) rfl rfl rfl))
      have L78 : ((0 ≤ v1_8 ∧ v1_8 ≤ 1000) ∧ (I6 p 5 = I p 5) ∧ (I6 p 1 = I p 1) ∧ (I6 p 5 < v1_8) ∧ (v1_8 ≤ I6 p 1)) → (gs_de β 6 (I p 5) = v1_8) → (gs_dv β 6 (I p 5) 0 = I6 p 8) → gv_X (gc_E9 ws0 tb 0 (yX9_takeNumber, cX9_takeNumber, 2, none) kX9_takeNumber) (gv_Q cX9_takeNumber none sh (fun r hₚ => (∃ (Iₚ : gr_I) (Jₚ : gr_J), hₚ = gc_h sh Iₚ Jₚ A ∧ gc_Inv ro Iₚ ∧ (∀ q j : Nat, ((q = p ∧ j = 6) ∨ (q = p ∧ j = 7) ∨ (q = p ∧ j = 8)) ∨ Iₚ q j = I q j) ∧ (∀ q j : Nat, (False) ∨ Jₚ q j = J q j) ∧ r = none ∧ (I p 5 < Iₚ p 6) ∧ (Iₚ p 6 ≤ I p 1) ∧ (Iₚ p 7 = 2) ∧ (Iₚ p 6 = gs_de β 6 (I p 5)) ∧ (Iₚ p 8 = gs_dv β 6 (I p 5) 0)))) (78, [(0, .inr (.inr (some p))), (1, .inl v1_8)], [], sh, gc_h sh I6 J7 A) := by
        intro m_14 e4_14 e5_14
        obtain ⟨hv1_8_14, e0_14, e1_14, e2_14, e3_14⟩ := gz_h5 m_14
        refine gv_run 2 true hD (pcₚ := 80) (lvₚ := [(0, .inr (.inr (some p))), (1, .inl v1_8)]) (stₚ := [.inl 2, .inr (.inr (some p))]) (hₚ := gc_h sh I6 J7 A) (C := ((True ∧ True) ∧ True)) rfl ⟨⟨trivial, trivial⟩, trivial⟩ ?_
        refine gv_put hD rfl rfl S_p ⟨by decide, (gz_sh B_p)⟩ rfl trivial ?_
        refine gc_st (k := 7) hI6 S_p rfl (gz_sh R_p) (lo := 0) (hi := 125) rfl rfl (by (/-4-/first | omega | (simp only [gz_hd] at *; omega))) (by (/-5-/first | omega | (simp only [gz_hd] at *; omega))) (fun I23 hI23 q24 p24 => ?_)
        have FI23 := gc_frs (W := fun q j => (q = p ∧ j = 6) ∨ (q = p ∧ j = 7) ∨ (q = p ∧ j = 8)) FI6 (Or.inr (Or.inl ⟨rfl, rfl⟩)) p24
        have t25 := gz_hi (p24 p 1 (fun h => absurd h.2 (by first | exact gz_ne rfl | decide)))
        have t26 := gz_hi (p24 p 5 (fun h => absurd h.2 (by first | exact gz_ne rfl | decide)))
        have t28 := gz_hi (p24 p 8 (fun h => absurd h.2 (by first | exact gz_ne rfl | decide)))
        show gv_X _ _ (83, [(0, .inr (.inr (some p))), (1, .inl v1_8)], [], sh, gc_h sh I23 J7 A)
        refine gv_run 2 true hD (pcₚ := 85) (lvₚ := [(0, .inr (.inr (some p))), (1, .inl v1_8)]) (stₚ := [.inl v1_8, .inr (.inr (some p))]) (hₚ := gc_h sh I23 J7 A) (C := ((True ∧ True) ∧ True)) rfl ⟨⟨trivial, trivial⟩, trivial⟩ ?_
        refine gv_put hD rfl rfl S_p ⟨by decide, (gz_sh B_p)⟩ rfl trivial ?_
        refine gc_st (k := 6) hI23 S_p rfl (gz_sh R_p) (lo := 0) (hi := 1001) rfl rfl (by (/-6-/first | (have o1 := gz_sh hv1_8; omega) | (simp only [gz_hd] at *; omega))) (by (/-7-/first | (have o1 := gz_sh hv1_8; omega) | (simp only [gz_hd] at *; omega))) (fun I31 hI31 q32 p32 => ?_)
        have FI31 := gc_frs (W := fun q j => (q = p ∧ j = 6) ∨ (q = p ∧ j = 7) ∨ (q = p ∧ j = 8)) FI23 (Or.inl ⟨rfl, rfl⟩) p32
        have t33 := gz_hi (p32 p 1 (fun h => absurd h.2 (by first | exact gz_ne rfl | decide)))
        have t34 := gz_hi (p32 p 5 (fun h => absurd h.2 (by first | exact gz_ne rfl | decide)))
        have t35 := gz_hi (p32 p 7 (fun h => absurd h.2 (by first | exact gz_ne rfl | decide)))
        have t36 := gz_hi (p32 p 8 (fun h => absurd h.2 (by first | exact gz_ne rfl | decide)))
        show gv_X _ _ (88, [(0, .inr (.inr (some p))), (1, .inl v1_8)], [], sh, gc_h sh I31 J7 A)
        exact gv_vret hD rfl ⟨I31, J7, rfl, hI31, FI31, FJ7, ⟨rfl, by (/-8-/first | (have o1 := gz_sh e0_8; have o2 := gz_sh e2_14; omega) | (simp only [gz_hd] at *; omega)), by (/-9-/first | (have o1 := gz_sh e1_8; have o2 := gz_sh e2_8; omega) | (simp only [gz_hd] at *; omega)), by (/-10-/first | (have o1 := gz_sh t35; omega) | (simp only [gz_hd] at *; omega)), (by have h9 := e4_14; (/-11-/first | omega | (simp only [gz_hd] at *; omega))), (by have h9 := e5_14; (/-12-/first | (have o1 := gz_sh t28; have o2 := gz_sh t36; omega) | (simp only [gz_hd] at *; omega)))⟩⟩
      have t39 := gz_hi ((fun h : v1_8 < η => gs_TX_i x2 (k := v1_8) (by (/-13-/first | (have o1 := gz_sh hv1_8; omega) | (simp only [gz_hd] at *; omega))) h))
      have t40 := gz_hi ((fun h : ¬ v1_8 < η => gs_TX_o x2 (k := v1_8) h))
      have t41 := gz_hi ((show I6 (p + 1) (Int.toNat v1_8) = I (p + 1) (Int.toNat v1_8) from (FI6 (p + 1) (Int.toNat v1_8)).resolve_left (by (/-14-/first | omega | (simp only [gz_hd] at *; omega)))))
      refine gv_run 2 true hD (pcₚ := 12) (lvₚ := [(0, .inr (.inr (some p))), (1, .inl v1_8)]) (stₚ := [.inr (.inr (some p)), .inl v1_8]) (hₚ := gc_h sh I6 J7 A) (C := ((True ∧ True) ∧ True)) rfl ⟨⟨trivial, trivial⟩, trivial⟩ ?_
      refine gv_get hD rfl rfl S_p ⟨by decide, (gz_sh B_p)⟩ (gc_hI S_p rfl) ?_
      show gv_X _ _ (15, [(0, .inr (.inr (some p))), (1, .inl v1_8)], [.inl (I6 p 1), .inl v1_8], sh, gc_h sh I6 J7 A)
      refine gv_icmp_ge (t := 78) hD rfl rfl ⟨⟨by (/-15-/first | (have o1 := gz_sh hv1_8; omega) | (simp only [gz_hd] at *; omega)), by (/-16-/first | (have o1 := gz_sh hv1_8; omega) | (simp only [gz_hd] at *; omega))⟩, ⟨by (/-17-/first | (have o1 := gz_sh e1_8; have o2 := gz_sh f1; omega) | (simp only [gz_hd] at *; omega)), by (/-18-/first | (have o1 := gz_sh e1_8; have o2 := gz_sh f1; omega) | (simp only [gz_hd] at *; omega))⟩⟩ (fun c43 => ?_) (fun c43 => ?_)
      · show gv_X _ _ (78, [(0, .inr (.inr (some p))), (1, .inl v1_8)], [], sh, gc_h sh I6 J7 A)
        exact L78 (by (/-19-/first | (and_intros; (have o1 := gz_sh e1_8; have o2 := gz_sh f1; omega); (have o1 := gz_sh e1_8; have o2 := gz_sh e2_8; have o3 := gz_sh f1; omega); (have o1 := gz_sh e0_8; omega); (have o1 := gz_sh e1_8; omega); (have o1 := gz_sh e0_8; have o2 := gz_sh e1_8; omega); (have o1 := gz_sh e2_8; omega)) | (simp only [gz_hd] at *; omega))) (e5_8.trans (gs_de_e (by (/-20-/first | (have o1 := gz_sh e1_8; have o2 := gz_sh t40; omega) | (simp only [gz_hd] at *; omega))))) (e6_8.trans (gs_dv_e (by (/-21-/first | (have o1 := gz_sh e1_8; have o2 := gz_sh t40; omega) | (simp only [gz_hd] at *; omega)))))
      · show gv_X _ _ (18, [(0, .inr (.inr (some p))), (1, .inl v1_8)], [], sh, gc_h sh I6 J7 A)
        refine gv_run 2 true hD (pcₚ := 20) (lvₚ := [(0, .inr (.inr (some p))), (1, .inl v1_8)]) (stₚ := [.inr (.inr (some p)), .inl v1_8]) (hₚ := gc_h sh I6 J7 A) (C := ((True ∧ True) ∧ True)) rfl ⟨⟨trivial, trivial⟩, trivial⟩ ?_
        refine gv_get hD rfl rfl S_p ⟨by decide, (gz_sh B_p)⟩ (gc_hI S_p rfl) ?_
        show gv_X _ _ (23, [(0, .inr (.inr (some p))), (1, .inl v1_8)], [.inl (I6 p 5), .inl v1_8], sh, gc_h sh I6 J7 A)
        refine gv_run 2 true hD (pcₚ := 26) (lvₚ := [(0, .inr (.inr (some p))), (1, .inl v1_8)]) (stₚ := [.inl ((I6 p 5) + 6), .inl v1_8]) (hₚ := gc_h sh I6 J7 A) (C := ((True ∧ True) ∧ True)) rfl ⟨⟨trivial, trivial⟩, trivial⟩ ?_
        refine gv_icmp_ge (t := 78) hD rfl rfl ⟨⟨by (/-22-/first | (have o1 := gz_sh hv1_8; omega) | (simp only [gz_hd] at *; omega)), by (/-23-/first | (have o1 := gz_sh hv1_8; omega) | (simp only [gz_hd] at *; omega))⟩, ⟨by (/-24-/first | (have o1 := gz_sh e0_8; have o2 := gz_sh f2; omega) | (simp only [gz_hd] at *; omega)), by (/-25-/first | (have o1 := gz_sh e0_8; have o2 := gz_sh f2; omega) | (simp only [gz_hd] at *; omega))⟩⟩ (fun c45 => ?_) (fun c45 => ?_)
        · show gv_X _ _ (78, [(0, .inr (.inr (some p))), (1, .inl v1_8)], [], sh, gc_h sh I6 J7 A)
          exact L78 (by (/-26-/first | (and_intros; (have o1 := gz_sh hv1_8; omega); (have o1 := gz_sh hv1_8; omega); (have o1 := gz_sh e0_8; omega); (have o1 := gz_sh e1_8; omega); (omega); (omega)) | (simp only [gz_hd] at *; omega))) (e5_8.trans (gs_de_e (by (/-27-/first | (have o1 := gz_sh e0_8; omega) | (simp only [gz_hd] at *; omega))))) (e6_8.trans (gs_dv_e (by (/-28-/first | (have o1 := gz_sh e0_8; omega) | (simp only [gz_hd] at *; omega)))))
        · show gv_X _ _ (29, [(0, .inr (.inr (some p))), (1, .inl v1_8)], [], sh, gc_h sh I6 J7 A)
          refine gv_run 1 true hD (pcₚ := 30) (lvₚ := [(0, .inr (.inr (some p))), (1, .inl v1_8)]) (stₚ := [.inr (.inr (some p))]) (hₚ := gc_h sh I6 J7 A) (C := (True ∧ True)) rfl ⟨trivial, trivial⟩ ?_
          refine gv_get hD rfl rfl S_p ⟨by decide, (gz_sh B_p)⟩ (gc_hA S_p rfl A_p_0) ?_
          show gv_X _ _ (33, [(0, .inr (.inr (some p))), (1, .inl v1_8)], [.inr (.inr (some (p + 1)))], sh, gc_h sh I6 J7 A)
          refine gv_run 1 true hD (pcₚ := 34) (lvₚ := [(0, .inr (.inr (some p))), (1, .inl v1_8)]) (stₚ := [.inl v1_8, .inr (.inr (some (p + 1)))]) (hₚ := gc_h sh I6 J7 A) (C := (True ∧ True)) rfl ⟨trivial, trivial⟩ ?_
          have f46 := gz_hi ((show (-128) ≤ I6 (p + 1) (Int.toNat v1_8) ∧ I6 (p + 1) (Int.toNat v1_8) ≤ 127 from gc_in2 hI6 (gz_sh R_p_1) rfl rfl rfl))
          refine gv_bald hD rfl S_p_1 (Or.inl rfl) ⟨by decide, (gz_sh B_p_1)⟩ ⟨by (/-29-/first | (have o1 := gz_sh hv1_8; omega) | (simp only [gz_hd] at *; omega)), by (/-30-/first | (have o1 := gz_sh e1_8; have o2 := gz_sh f1; omega) | (simp only [gz_hd] at *; omega))⟩ (gc_iI S_p_1 rfl) ?_
          show gv_X _ _ (35, [(0, .inr (.inr (some p))), (1, .inl v1_8)], [.inl (I6 (p + 1) (Int.toNat v1_8))], sh, gc_h sh I6 J7 A)
          refine gv_run 1 true hD (pcₚ := 37) (lvₚ := [(0, .inr (.inr (some p))), (1, .inl v1_8)]) (stₚ := [.inl 48, .inl (I6 (p + 1) (Int.toNat v1_8))]) (hₚ := gc_h sh I6 J7 A) (C := (True ∧ True)) rfl ⟨trivial, trivial⟩ ?_
          refine gv_icmp_lt (t := 78) hD rfl rfl ⟨⟨by (/-31-/first | (have o1 := gz_sh f46; omega) | (simp only [gz_hd] at *; omega)), by (/-32-/first | (have o1 := gz_sh f46; omega) | (simp only [gz_hd] at *; omega))⟩, ⟨by (/-33-/first | omega | (simp only [gz_hd] at *; omega)), by (/-34-/first | omega | (simp only [gz_hd] at *; omega))⟩⟩ (fun c47 => ?_) (fun c47 => ?_)
          · show gv_X _ _ (78, [(0, .inr (.inr (some p))), (1, .inl v1_8)], [], sh, gc_h sh I6 J7 A)
            exact L78 (by (/-35-/first | (and_intros; (have o1 := gz_sh hv1_8; omega); (have o1 := gz_sh hv1_8; omega); (have o1 := gz_sh e0_8; omega); (have o1 := gz_sh e1_8; omega); (have o1 := gz_sh e3_8; omega); (omega)) | (simp only [gz_hd] at *; omega))) (e5_8.trans (gs_de_e (by (/-36-/first | (have o1 := gz_sh e1_8; have o2 := gz_sh t39; have o3 := gz_sh t41; omega) | (simp only [gz_hd] at *; omega))))) (e6_8.trans (gs_dv_e (by (/-37-/first | (have o1 := gz_sh e1_8; have o2 := gz_sh t39; have o3 := gz_sh t41; omega) | (simp only [gz_hd] at *; omega)))))
          · show gv_X _ _ (40, [(0, .inr (.inr (some p))), (1, .inl v1_8)], [], sh, gc_h sh I6 J7 A)
            refine gv_run 1 true hD (pcₚ := 41) (lvₚ := [(0, .inr (.inr (some p))), (1, .inl v1_8)]) (stₚ := [.inr (.inr (some p))]) (hₚ := gc_h sh I6 J7 A) (C := (True ∧ True)) rfl ⟨trivial, trivial⟩ ?_
            refine gv_get hD rfl rfl S_p ⟨by decide, (gz_sh B_p)⟩ (gc_hA S_p rfl A_p_0) ?_
            show gv_X _ _ (44, [(0, .inr (.inr (some p))), (1, .inl v1_8)], [.inr (.inr (some (p + 1)))], sh, gc_h sh I6 J7 A)
            refine gv_run 1 true hD (pcₚ := 45) (lvₚ := [(0, .inr (.inr (some p))), (1, .inl v1_8)]) (stₚ := [.inl v1_8, .inr (.inr (some (p + 1)))]) (hₚ := gc_h sh I6 J7 A) (C := (True ∧ True)) rfl ⟨trivial, trivial⟩ ?_
            refine gv_bald hD rfl S_p_1 (Or.inl rfl) ⟨by decide, (gz_sh B_p_1)⟩ ⟨by (/-38-/first | (have o1 := gz_sh hv1_8; omega) | (simp only [gz_hd] at *; omega)), by (/-39-/first | (have o1 := gz_sh e1_8; have o2 := gz_sh f1; omega) | (simp only [gz_hd] at *; omega))⟩ (gc_iI S_p_1 rfl) ?_
            show gv_X _ _ (46, [(0, .inr (.inr (some p))), (1, .inl v1_8)], [.inl (I6 (p + 1) (Int.toNat v1_8))], sh, gc_h sh I6 J7 A)
            refine gv_run 1 true hD (pcₚ := 48) (lvₚ := [(0, .inr (.inr (some p))), (1, .inl v1_8)]) (stₚ := [.inl 57, .inl (I6 (p + 1) (Int.toNat v1_8))]) (hₚ := gc_h sh I6 J7 A) (C := (True ∧ True)) rfl ⟨trivial, trivial⟩ ?_
            refine gv_icmp_gt (t := 78) hD rfl rfl ⟨⟨by (/-40-/first | omega | (simp only [gz_hd] at *; omega)), by (/-41-/first | (have o1 := gz_sh f46; omega) | (simp only [gz_hd] at *; omega))⟩, ⟨by (/-42-/first | omega | (simp only [gz_hd] at *; omega)), by (/-43-/first | omega | (simp only [gz_hd] at *; omega))⟩⟩ (fun c49 => ?_) (fun c49 => ?_)
            · show gv_X _ _ (78, [(0, .inr (.inr (some p))), (1, .inl v1_8)], [], sh, gc_h sh I6 J7 A)
              exact L78 (by (/-44-/first | (and_intros; (have o1 := gz_sh hv1_8; omega); (have o1 := gz_sh hv1_8; omega); (have o1 := gz_sh e0_8; omega); (have o1 := gz_sh e1_8; omega); (have o1 := gz_sh e3_8; omega); (omega)) | (simp only [gz_hd] at *; omega))) (e5_8.trans (gs_de_e (by (/-45-/first | (have o1 := gz_sh e1_8; have o2 := gz_sh t39; have o3 := gz_sh t41; omega) | (simp only [gz_hd] at *; omega))))) (e6_8.trans (gs_dv_e (by (/-46-/first | (have o1 := gz_sh e1_8; have o2 := gz_sh t39; have o3 := gz_sh t41; omega) | (simp only [gz_hd] at *; omega)))))
            · show gv_X _ _ (51, [(0, .inr (.inr (some p))), (1, .inl v1_8)], [], sh, gc_h sh I6 J7 A)
              refine gv_run 2 true hD (pcₚ := 53) (lvₚ := [(0, .inr (.inr (some p))), (1, .inl v1_8)]) (stₚ := [.inr (.inr (some p)), .inr (.inr (some p))]) (hₚ := gc_h sh I6 J7 A) (C := ((True ∧ True) ∧ True)) rfl ⟨⟨trivial, trivial⟩, trivial⟩ ?_
              refine gv_get hD rfl rfl S_p ⟨by decide, (gz_sh B_p)⟩ (gc_hI S_p rfl) ?_
              show gv_X _ _ (56, [(0, .inr (.inr (some p))), (1, .inl v1_8)], [.inl (I6 p 8), .inr (.inr (some p))], sh, gc_h sh I6 J7 A)
              refine gv_run 3 true hD (pcₚ := 60) (lvₚ := [(0, .inr (.inr (some p))), (1, .inl v1_8)]) (stₚ := [.inr (.inr (some p)), .inl ((I6 p 8) * 10), .inr (.inr (some p))]) (hₚ := gc_h sh I6 J7 A) (C := (((True ∧ True) ∧ True) ∧ True)) rfl ⟨⟨⟨trivial, trivial⟩, trivial⟩, trivial⟩ ?_
              refine gv_get hD rfl rfl S_p ⟨by decide, (gz_sh B_p)⟩ (gc_hA S_p rfl A_p_0) ?_
              show gv_X _ _ (63, [(0, .inr (.inr (some p))), (1, .inl v1_8)], [.inr (.inr (some (p + 1))), .inl ((I6 p 8) * 10), .inr (.inr (some p))], sh, gc_h sh I6 J7 A)
              refine gv_run 1 true hD (pcₚ := 64) (lvₚ := [(0, .inr (.inr (some p))), (1, .inl v1_8)]) (stₚ := [.inl v1_8, .inr (.inr (some (p + 1))), .inl ((I6 p 8) * 10), .inr (.inr (some p))]) (hₚ := gc_h sh I6 J7 A) (C := (True ∧ True)) rfl ⟨trivial, trivial⟩ ?_
              refine gv_bald hD rfl S_p_1 (Or.inl rfl) ⟨by decide, (gz_sh B_p_1)⟩ ⟨by (/-47-/first | (have o1 := gz_sh hv1_8; omega) | (simp only [gz_hd] at *; omega)), by (/-48-/first | (have o1 := gz_sh e1_8; have o2 := gz_sh f1; omega) | (simp only [gz_hd] at *; omega))⟩ (gc_iI S_p_1 rfl) ?_
              show gv_X _ _ (65, [(0, .inr (.inr (some p))), (1, .inl v1_8)], [.inl (I6 (p + 1) (Int.toNat v1_8)), .inl ((I6 p 8) * 10), .inr (.inr (some p))], sh, gc_h sh I6 J7 A)
              refine gv_run 3 true hD (pcₚ := 69) (lvₚ := [(0, .inr (.inr (some p))), (1, .inl v1_8)]) (stₚ := [.inl ((((I6 p 8) * 10) + (I6 (p + 1) (Int.toNat v1_8))) - 48), .inr (.inr (some p))]) (hₚ := gc_h sh I6 J7 A) (C := (((True ∧ True) ∧ True) ∧ True)) rfl ⟨⟨⟨trivial, trivial⟩, trivial⟩, trivial⟩ ?_
              refine gv_put hD rfl rfl S_p ⟨by decide, (gz_sh B_p)⟩ rfl trivial ?_
              refine gc_st (k := 8) hI6 S_p rfl (gz_sh R_p) (lo := 0) (hi := 999999) rfl rfl (by (/-49-/first | (have o1 := gz_sh f13; omega) | (simp only [gz_hd] at *; omega))) (by (/-50-/first | (have o1 := gz_sh e4_8; omega) | (simp only [gz_hd] at *; omega))) (fun I52 hI52 q53 p53 => ?_)
              have FI52 := gc_frs (W := fun q j => (q = p ∧ j = 6) ∨ (q = p ∧ j = 7) ∨ (q = p ∧ j = 8)) FI6 (Or.inr (Or.inr ⟨rfl, rfl⟩)) p53
              have t54 := gz_hi (p53 p 1 (fun h => absurd h.2 (by first | exact gz_ne rfl | decide)))
              have t55 := gz_hi (p53 p 5 (fun h => absurd h.2 (by first | exact gz_ne rfl | decide)))
              have f59 := gz_hi ((show 0 ≤ I52 p 8 ∧ I52 p 8 ≤ 999999 from gc_in2 hI52 (gz_sh R_p) rfl rfl rfl))
              show gv_X _ _ (72, [(0, .inr (.inr (some p))), (1, .inl v1_8)], [], sh, gc_h sh I52 J7 A)
              refine gv_run 2 true hD (pcₚ := 10) (lvₚ := [(1, .inl (v1_8 + 1)), (0, .inr (.inr (some p)))]) (stₚ := []) (hₚ := gc_h sh I52 J7 A) (C := ((True ∧ True) ∧ True)) rfl ⟨⟨trivial, trivial⟩, trivial⟩ ?_
              refine gv_pick [1, 0] rfl ?_
              exact ih10 I52 J7 (v1_8 + 1) (by (/-51-/first | (have o1 := gz_sh e0_8; have o2 := gz_sh e1_8; have o3 := gz_sh e3_8; have o4 := gz_sh e4_8; have o5 := gz_sh f1; have o6 := gz_sh f2; have o7 := gz_sh f46; have o8 := gz_sh hv1_8; have o9 := gz_sh t39; have o10 := gz_sh t40; have o11 := gz_sh t41; have o12 := gz_sh t54; have o13 := gz_sh t55; omega) | (simp only [gz_hd] at *; omega))) hI52 FI52 FJ7 (by (/-52-/first | (and_intros; (have o1 := gz_sh hv1_8; omega); (have o1 := gz_sh e1_8; have o2 := gz_sh f1; omega); (have o1 := gz_sh e0_8; have o2 := gz_sh t55; omega); (have o1 := gz_sh e1_8; have o2 := gz_sh t54; omega); (have o1 := gz_sh t54; omega); (have o1 := gz_sh e4_8; have o2 := gz_sh t55; omega); (have o1 := gz_sh e0_8; have o2 := gz_sh e1_8; have o3 := gz_sh e4_8; have o4 := gz_sh f1; have o5 := gz_sh f13; have o6 := gz_sh f2; have o7 := gz_sh f46; have o8 := gz_sh f59; have o9 := gz_sh hv1_8; have o10 := gz_sh t39; have o11 := gz_sh t40; have o12 := gz_sh t41; have o13 := gz_sh t54; have o14 := gz_sh t55; omega)) | (simp only [gz_hd] at *; omega))) (e5_8.trans (gs_de_s (by (/-53-/first | (have o1 := gz_sh e0_8; omega) | (simp only [gz_hd] at *; omega))) (by (/-54-/first | (and_intros; (have o1 := gz_sh e1_8; have o2 := gz_sh t39; have o3 := gz_sh t41; omega); (have o1 := gz_sh e1_8; have o2 := gz_sh t39; have o3 := gz_sh t41; omega)) | (simp only [gz_hd] at *; omega))))) (e6_8.trans ((gs_dv_s (by (/-55-/first | (have o1 := gz_sh e0_8; omega) | (simp only [gz_hd] at *; omega))) (by (/-56-/first | (and_intros; (have o1 := gz_sh e1_8; have o2 := gz_sh t39; have o3 := gz_sh t41; omega); (have o1 := gz_sh e1_8; have o2 := gz_sh t39; have o3 := gz_sh t41; omega)) | (simp only [gz_hd] at *; omega)))).trans (by rw [show 10 * I6 p 8 + β v1_8 - 48 = I52 p 8 from by (/-57-/first | (have o1 := gz_sh e1_8; have o2 := gz_sh t39; have o3 := gz_sh t41; omega) | (simp only [gz_hd] at *; omega))])))
  refine gv_run 1 true hD (pcₚ := 1) (lvₚ := [(0, .inr (.inr (some p)))]) (stₚ := [.inr (.inr (some p))]) (hₚ := gc_h sh I J A) (C := (True ∧ True)) rfl ⟨trivial, trivial⟩ ?_
  refine gv_get hD rfl rfl S_p ⟨by decide, (gz_sh B_p)⟩ (gc_hI S_p rfl) ?_
  show gv_X _ _ (4, [(0, .inr (.inr (some p)))], [.inl (I p 5)], sh, gc_h sh I J A)
  refine gv_run 3 true hD (pcₚ := 7) (lvₚ := [(1, .inl (I p 5)), (0, .inr (.inr (some p)))]) (stₚ := [.inl 0, .inr (.inr (some p))]) (hₚ := gc_h sh I J A) (C := (((True ∧ True) ∧ True) ∧ True)) rfl ⟨⟨⟨trivial, trivial⟩, trivial⟩, trivial⟩ ?_
  refine gv_put hD rfl rfl S_p ⟨by decide, (gz_sh B_p)⟩ rfl trivial ?_
  refine gc_st (k := 8) hI S_p rfl (gz_sh R_p) (lo := 0) (hi := 999999) rfl rfl (by (/-58-/first | omega | (simp only [gz_hd] at *; omega))) (by (/-59-/first | omega | (simp only [gz_hd] at *; omega))) (fun I61 hI61 q62 p62 => ?_)
  have FI61 := gc_frs (W := fun q j => (q = p ∧ j = 6) ∨ (q = p ∧ j = 7) ∨ (q = p ∧ j = 8)) FI (Or.inr (Or.inr ⟨rfl, rfl⟩)) p62
  have t63 := gz_hi (p62 p 1 (fun h => absurd h.2 (by first | exact gz_ne rfl | decide)))
  have t64 := gz_hi (p62 p 5 (fun h => absurd h.2 (by first | exact gz_ne rfl | decide)))
  have t67 := gz_hi (p62 (p + 1) (Int.toNat (I p 5)) (fun h => absurd h.1 (gz_sh N_p_1__p)))
  show gv_X _ _ (10, [(1, .inl (I p 5)), (0, .inr (.inr (some p)))], [], sh, gc_h sh I61 J A)
  refine gv_pick [1, 0] rfl ?_
  exact L10 _ I61 J (I p 5) (Nat.lt_succ_self _) hI61 FI61 FJ (by (/-60-/first | (and_intros; (have o1 := gz_sh f2; omega); (have o1 := gz_sh f2; omega); (have o1 := gz_sh t64; omega); (have o1 := gz_sh t63; omega); (have o1 := gz_sh t63; omega); (have o1 := gz_sh t64; have o2 := gz_sh t67; omega); (have o1 := gz_sh t64; omega)) | (simp only [gz_hd] at *; omega))) (by rw [show Int.toNat ((I p 5) + (6 : Nat) - (I p 5)) = 6 from by (/-61-/first | omega | (simp only [gz_hd] at *; omega))]) (by rw [show Int.toNat ((I p 5) + (6 : Nat) - (I p 5)) = 6 from by (/-62-/first | omega | (simp only [gz_hd] at *; omega)), show I61 p 8 = 0 from by (/-63-/first | omega | (simp only [gz_hd] at *; omega))])
set_option maxHeartbeats 8000000 in
set_option maxRecDepth 100000 in
theorem d_X9_takeLetters_p {ws0 : List Cond} {tb : String → gz_T} (hws : gc_Ws ws0) (htb : gc_tbs tb) (sh : gz_Sh) (ro : Nat → Nat) (I : gr_I) (J : gr_J) (A : gc_A) (hI : gc_Inv ro I) (p : Nat) (β : Int → Int) (η : Int)  (hp : gc_isText sh ro A p)  (x0 : I p 5 < I p 1) (x1 : gs_TX β η (I (p + 1))) (x2 : η = I p 1) : ∃ r hₚ, gz_Ev ws0 tb 1 (yX9_takeLetters, cX9_takeLetters, 3, none) [.inr (.inr (some p))] sh (gc_h sh I J A) r sh hₚ 0 0 ∧ (∃ (Iₚ : gr_I) (Jₚ : gr_J), hₚ = gc_h sh Iₚ Jₚ A ∧ gc_Inv ro Iₚ ∧ (∀ q j : Nat, ((q = p ∧ j = 6) ∨ (q = p ∧ j = 7)) ∨ Iₚ q j = I q j) ∧ (∀ q j : Nat, (False) ∨ Jₚ q j = J q j) ∧ r = none ∧ ((Iₚ p 7 = 3 ∧ Iₚ p 6 ≤ I p 1 ∧ 2 ≤ Iₚ p 6 - I p 5 ∧ Iₚ p 6 - I p 5 ≤ 14) ∨ Iₚ p 7 = 5) ∧ (I p 5 < Iₚ p 6) ∧ (gc_lt p Iₚ (Iₚ p 5) (Iₚ p 6 - 1)) ∧ (Iₚ p 6 = gs_le β 12 ((I p 5) + 1) + 1) ∧ (Iₚ p 7 = if β (gs_le β 12 ((I p 5) + 1)) = 39 then 3 else 5)) := by
  have FI : ∀ q j : Nat, ((q = p ∧ j = 6) ∨ (q = p ∧ j = 7)) ∨ I q j = I q j := fun _ _ => Or.inr rfl
  have FJ : ∀ q j : Nat, (False) ∨ J q j = J q j := fun _ _ => Or.inr rfl
  obtain ⟨S_p, R_p, B_p, A_p_0, S_p_1, R_p_1, B_p_1, A_p_2, S_p_2, R_p_2, B_p_2, A_p_3, S_p_3, R_p_3, B_p_3⟩ := id hp
  replace R_p := gz_hi R_p
  replace B_p := gz_hi B_p
  replace R_p_1 := gz_hi R_p_1
  replace B_p_1 := gz_hi B_p_1
  replace R_p_2 := gz_hi R_p_2
  replace B_p_2 := gz_hi B_p_2
  replace R_p_3 := gz_hi R_p_3
  replace B_p_3 := gz_hi B_p_3
  have hD : gv_D (gc_E9 ws0 tb 0 (yX9_takeLetters, cX9_takeLetters, 3, none) kX9_takeLetters) := gq_of oX9_takeLetters
  refine gc_ev9 (d := 0) (l := kX9_takeLetters) (Po := fun r hₚ => (∃ (Iₚ : gr_I) (Jₚ : gr_J), hₚ = gc_h sh Iₚ Jₚ A ∧ gc_Inv ro Iₚ ∧ (∀ q j : Nat, ((q = p ∧ j = 6) ∨ (q = p ∧ j = 7)) ∨ Iₚ q j = I q j) ∧ (∀ q j : Nat, (False) ∨ Jₚ q j = J q j) ∧ r = none ∧ ((Iₚ p 7 = 3 ∧ Iₚ p 6 ≤ I p 1 ∧ 2 ≤ Iₚ p 6 - I p 5 ∧ Iₚ p 6 - I p 5 ≤ 14) ∨ Iₚ p 7 = 5) ∧ (I p 5 < Iₚ p 6) ∧ (gc_lt p Iₚ (Iₚ p 5) (Iₚ p 6 - 1)) ∧ (Iₚ p 6 = gs_le β 12 ((I p 5) + 1) + 1) ∧ (Iₚ p 7 = if β (gs_le β 12 ((I p 5) + 1)) = 39 then 3 else 5))) htb rfl (Nat.le_of_ble_eq_true rfl) ?_
  have f1 := gz_hi ((show 0 ≤ I p 1 ∧ I p 1 ≤ 1000 from gc_in2 hI (gz_sh R_p) rfl rfl rfl))
  have f2 := gz_hi ((show 0 ≤ I p 5 ∧ I p 5 ≤ 1000 from gc_in2 hI (gz_sh R_p) rfl rfl rfl))
  have L7 : ∀ (n9 : Nat) (v1_5 : Int), (1001 - v1_5).toNat < n9 → ((1 ≤ v1_5 ∧ v1_5 ≤ 1000) ∧ (I p 5 < v1_5) ∧ (v1_5 ≤ I p 1) ∧ (v1_5 - I p 5 ≤ 13)) → (gc_lt p I (I p 5) v1_5) → (gs_le β 12 ((I p 5) + 1) = gs_le β (Int.toNat ((I p 5) + 1 + (12 : Nat) - v1_5)) v1_5) → gv_X (gc_E9 ws0 tb 0 (yX9_takeLetters, cX9_takeLetters, 3, none) kX9_takeLetters) (gv_Q cX9_takeLetters none sh (fun r hₚ => (∃ (Iₚ : gr_I) (Jₚ : gr_J), hₚ = gc_h sh Iₚ Jₚ A ∧ gc_Inv ro Iₚ ∧ (∀ q j : Nat, ((q = p ∧ j = 6) ∨ (q = p ∧ j = 7)) ∨ Iₚ q j = I q j) ∧ (∀ q j : Nat, (False) ∨ Jₚ q j = J q j) ∧ r = none ∧ ((Iₚ p 7 = 3 ∧ Iₚ p 6 ≤ I p 1 ∧ 2 ≤ Iₚ p 6 - I p 5 ∧ Iₚ p 6 - I p 5 ≤ 14) ∨ Iₚ p 7 = 5) ∧ (I p 5 < Iₚ p 6) ∧ (gc_lt p Iₚ (Iₚ p 5) (Iₚ p 6 - 1)) ∧ (Iₚ p 6 = gs_le β 12 ((I p 5) + 1) + 1) ∧ (Iₚ p 7 = if β (gs_le β 12 ((I p 5) + 1)) = 39 then 3 else 5)))) (7, [(0, .inr (.inr (some p))), (1, .inl v1_5)], [], sh, gc_h sh I J A) := by
    intro n9
    induction n9 with
    | zero => intro v1_5 hn; (/-0-/first | omega | (simp only [gz_hd] at *; omega))
    | succ n9 ih7 =>
      intro v1_5 hn m_5 e3_5 e4_5
      obtain ⟨hv1_5, e0_5, e1_5, e2_5⟩ := gz_h4 m_5
      have L54 : ((1 ≤ v1_5 ∧ v1_5 ≤ 1000) ∧ (I p 5 < v1_5) ∧ (v1_5 ≤ I p 1) ∧ (v1_5 - I p 5 ≤ 13)) → (gc_lt p I (I p 5) v1_5) → (gs_le β 12 ((I p 5) + 1) = v1_5) → gv_X (gc_E9 ws0 tb 0 (yX9_takeLetters, cX9_takeLetters, 3, none) kX9_takeLetters) (gv_Q cX9_takeLetters none sh (fun r hₚ => (∃ (Iₚ : gr_I) (Jₚ : gr_J), hₚ = gc_h sh Iₚ Jₚ A ∧ gc_Inv ro Iₚ ∧ (∀ q j : Nat, ((q = p ∧ j = 6) ∨ (q = p ∧ j = 7)) ∨ Iₚ q j = I q j) ∧ (∀ q j : Nat, (False) ∨ Jₚ q j = J q j) ∧ r = none ∧ ((Iₚ p 7 = 3 ∧ Iₚ p 6 ≤ I p 1 ∧ 2 ≤ Iₚ p 6 - I p 5 ∧ Iₚ p 6 - I p 5 ≤ 14) ∨ Iₚ p 7 = 5) ∧ (I p 5 < Iₚ p 6) ∧ (gc_lt p Iₚ (Iₚ p 5) (Iₚ p 6 - 1)) ∧ (Iₚ p 6 = gs_le β 12 ((I p 5) + 1) + 1) ∧ (Iₚ p 7 = if β (gs_le β 12 ((I p 5) + 1)) = 39 then 3 else 5)))) (54, [(0, .inr (.inr (some p))), (1, .inl v1_5)], [], sh, gc_h sh I J A) := by
        intro m_10 e3_10 e4_10
        obtain ⟨hv1_5_10, e0_10, e1_10, e2_10⟩ := gz_h4 m_10
        have L78 : ∀ (s0_15 : Int), ((1 ≤ v1_5 ∧ v1_5 ≤ 1000) ∧ (0 ≤ s0_15 ∧ s0_15 ≤ 1) ∧ (I p 5 < v1_5) ∧ (v1_5 ≤ I p 1) ∧ (v1_5 - I p 5 ≤ 13) ∧ (s0_15 = 0 ∨ v1_5 < I p 1) ∧ ((s0_15 = 1 ∧ β v1_5 = 39) ∨ (s0_15 = 0 ∧ ¬ β v1_5 = 39))) → (gc_lt p I (I p 5) v1_5) → (gs_le β 12 ((I p 5) + 1) = v1_5) → gv_X (gc_E9 ws0 tb 0 (yX9_takeLetters, cX9_takeLetters, 3, none) kX9_takeLetters) (gv_Q cX9_takeLetters none sh (fun r hₚ => (∃ (Iₚ : gr_I) (Jₚ : gr_J), hₚ = gc_h sh Iₚ Jₚ A ∧ gc_Inv ro Iₚ ∧ (∀ q j : Nat, ((q = p ∧ j = 6) ∨ (q = p ∧ j = 7)) ∨ Iₚ q j = I q j) ∧ (∀ q j : Nat, (False) ∨ Jₚ q j = J q j) ∧ r = none ∧ ((Iₚ p 7 = 3 ∧ Iₚ p 6 ≤ I p 1 ∧ 2 ≤ Iₚ p 6 - I p 5 ∧ Iₚ p 6 - I p 5 ≤ 14) ∨ Iₚ p 7 = 5) ∧ (I p 5 < Iₚ p 6) ∧ (gc_lt p Iₚ (Iₚ p 5) (Iₚ p 6 - 1)) ∧ (Iₚ p 6 = gs_le β 12 ((I p 5) + 1) + 1) ∧ (Iₚ p 7 = if β (gs_le β 12 ((I p 5) + 1)) = 39 then 3 else 5)))) (78, [(0, .inr (.inr (some p))), (1, .inl v1_5)], [.inl s0_15], sh, gc_h sh I J A) := by
          intro s0_15 m_15 e4_15 e5_15
          obtain ⟨hv1_5_15, hs0_15, e0_15, e1_15, e2_15, e3_15, e6_15⟩ := gz_h7 m_15
          have L89 : ∀ (s1_20 : Int), ((1 ≤ v1_5 ∧ v1_5 ≤ 1000) ∧ (3 ≤ s1_20 ∧ s1_20 ≤ 5) ∧ (I p 5 < v1_5) ∧ (v1_5 ≤ I p 1) ∧ (v1_5 - I p 5 ≤ 13) ∧ (s1_20 = 5 ∨ (s1_20 = 3 ∧ v1_5 < I p 1)) ∧ ((s1_20 = 3 ∧ β v1_5 = 39) ∨ (s1_20 = 5 ∧ ¬ β v1_5 = 39))) → (gc_lt p I (I p 5) v1_5) → (gs_le β 12 ((I p 5) + 1) = v1_5) → gv_X (gc_E9 ws0 tb 0 (yX9_takeLetters, cX9_takeLetters, 3, none) kX9_takeLetters) (gv_Q cX9_takeLetters none sh (fun r hₚ => (∃ (Iₚ : gr_I) (Jₚ : gr_J), hₚ = gc_h sh Iₚ Jₚ A ∧ gc_Inv ro Iₚ ∧ (∀ q j : Nat, ((q = p ∧ j = 6) ∨ (q = p ∧ j = 7)) ∨ Iₚ q j = I q j) ∧ (∀ q j : Nat, (False) ∨ Jₚ q j = J q j) ∧ r = none ∧ ((Iₚ p 7 = 3 ∧ Iₚ p 6 ≤ I p 1 ∧ 2 ≤ Iₚ p 6 - I p 5 ∧ Iₚ p 6 - I p 5 ≤ 14) ∨ Iₚ p 7 = 5) ∧ (I p 5 < Iₚ p 6) ∧ (gc_lt p Iₚ (Iₚ p 5) (Iₚ p 6 - 1)) ∧ (Iₚ p 6 = gs_le β 12 ((I p 5) + 1) + 1) ∧ (Iₚ p 7 = if β (gs_le β 12 ((I p 5) + 1)) = 39 then 3 else 5)))) (89, [(0, .inr (.inr (some p))), (1, .inl v1_5)], [.inl s1_20, .inr (.inr (some p))], sh, gc_h sh I J A) := by
            intro s1_20 m_20 e4_20 e5_20
            obtain ⟨hv1_5_20, hs1_20, e0_20, e1_20, e2_20, e3_20, e6_20⟩ := gz_h7 m_20
            have t25 := gz_hi ((fun h : v1_5 < η => gs_TX_i x1 (k := v1_5) (by (/-1-/first | (have o1 := gz_sh hv1_5; omega) | (simp only [gz_hd] at *; omega))) h))
            have t26 := gz_hi ((fun h : ¬ v1_5 < η => gs_TX_o x1 (k := v1_5) h))
            refine gv_put hD rfl rfl S_p ⟨by decide, (gz_sh B_p)⟩ rfl trivial ?_
            refine gc_st (k := 7) hI S_p rfl (gz_sh R_p) (lo := 0) (hi := 125) rfl rfl (by (/-2-/first | (have o1 := gz_sh hs1_20; omega) | (simp only [gz_hd] at *; omega))) (by (/-3-/first | (have o1 := gz_sh hs1_20; omega) | (simp only [gz_hd] at *; omega))) (fun I27 hI27 q28 p28 => ?_)
            have FI27 := gc_frs (W := fun q j => (q = p ∧ j = 6) ∨ (q = p ∧ j = 7)) FI (Or.inr ⟨rfl, rfl⟩) p28
            have t29 := gz_hi (p28 p 1 (fun h => absurd h.2 (by first | exact gz_ne rfl | decide)))
            have t30 := gz_hi (p28 p 5 (fun h => absurd h.2 (by first | exact gz_ne rfl | decide)))
            show gv_X _ _ (92, [(0, .inr (.inr (some p))), (1, .inl v1_5)], [], sh, gc_h sh I27 J A)
            refine gv_run 4 true hD (pcₚ := 96) (lvₚ := [(0, .inr (.inr (some p))), (1, .inl v1_5)]) (stₚ := [.inl (v1_5 + 1), .inr (.inr (some p))]) (hₚ := gc_h sh I27 J A) (C := ((((True ∧ True) ∧ True) ∧ True) ∧ True)) rfl ⟨⟨⟨⟨trivial, trivial⟩, trivial⟩, trivial⟩, trivial⟩ ?_
            refine gv_put hD rfl rfl S_p ⟨by decide, (gz_sh B_p)⟩ rfl trivial ?_
            refine gc_st (k := 6) hI27 S_p rfl (gz_sh R_p) (lo := 0) (hi := 1001) rfl rfl (by (/-4-/first | (have o1 := gz_sh hv1_5; omega) | (simp only [gz_hd] at *; omega))) (by (/-5-/first | (have o1 := gz_sh hv1_5; omega) | (simp only [gz_hd] at *; omega))) (fun I33 hI33 q34 p34 => ?_)
            have FI33 := gc_frs (W := fun q j => (q = p ∧ j = 6) ∨ (q = p ∧ j = 7)) FI27 (Or.inl ⟨rfl, rfl⟩) p34
            have t35 := gz_hi (p34 p 1 (fun h => absurd h.2 (by first | exact gz_ne rfl | decide)))
            have t36 := gz_hi (p34 p 5 (fun h => absurd h.2 (by first | exact gz_ne rfl | decide)))
            have t37 := gz_hi (p34 p 7 (fun h => absurd h.2 (by first | exact gz_ne rfl | decide)))
            show gv_X _ _ (99, [(0, .inr (.inr (some p))), (1, .inl v1_5)], [], sh, gc_h sh I33 J A)
            exact gv_vret hD rfl ⟨I33, J, rfl, hI33, FI33, FJ, ⟨rfl, by (/-6-/first | (have o1 := gz_sh e0_5; have o2 := gz_sh e1_5; have o3 := gz_sh e2_5; have o4 := gz_sh e6_20; have o5 := gz_sh hs1_20; have o6 := gz_sh t25; have o7 := gz_sh t26; have o8 := gz_sh t29; have o9 := gz_sh t30; have o10 := gz_sh t35; have o11 := gz_sh t36; have o12 := gz_sh t37; omega) | (simp only [gz_hd] at *; omega)), by (/-7-/first | (have o1 := gz_sh e0_5; omega) | (simp only [gz_hd] at *; omega)), gc_lt_fr e4_20 (fun k => by rw [p34 (p + 1) k (fun h => absurd h.1 (by (/-8-/first | omega | (simp only [gz_hd] at *; omega)))), p28 (p + 1) k (fun h => absurd h.1 (by (/-9-/first | omega | (simp only [gz_hd] at *; omega))))]) (by (/-10-/first | (have o1 := gz_sh t30; have o2 := gz_sh t36; omega) | (simp only [gz_hd] at *; omega))) (by (/-11-/first | omega | (simp only [gz_hd] at *; omega))), (by have h9 := e5_20; (/-12-/first | omega | (simp only [gz_hd] at *; omega))), (by rw [e5_20]; split; ((/-13-/first | (have o1 := gz_sh e6_20; have o2 := gz_sh hs1_20; have o3 := gz_sh t37; omega) | (simp only [gz_hd] at *; omega))); (/-14-/first | (have o1 := gz_sh e6_20; have o2 := gz_sh hs1_20; have o3 := gz_sh t25; have o4 := gz_sh t26; have o5 := gz_sh t29; have o6 := gz_sh t35; have o7 := gz_sh t37; omega) | (simp only [gz_hd] at *; omega)))⟩⟩
          have t39 := gz_hi ((fun h : v1_5 < η => gs_TX_i x1 (k := v1_5) (by (/-15-/first | (have o1 := gz_sh hv1_5; omega) | (simp only [gz_hd] at *; omega))) h))
          have t40 := gz_hi ((fun h : ¬ v1_5 < η => gs_TX_o x1 (k := v1_5) h))
          refine gv_run 3 true hD (pcₚ := 81) (lvₚ := [(2, .inl s0_15), (0, .inr (.inr (some p))), (1, .inl v1_5)]) (stₚ := [.inl s0_15, .inr (.inr (some p))]) (hₚ := gc_h sh I J A) (C := (((True ∧ True) ∧ True) ∧ True)) rfl ⟨⟨⟨trivial, trivial⟩, trivial⟩, trivial⟩ ?_
          refine gv_if_eq (t := 88) hD rfl rfl ⟨by (/-16-/first | (have o1 := gz_sh hs0_15; omega) | (simp only [gz_hd] at *; omega)), by (/-17-/first | (have o1 := gz_sh hs0_15; omega) | (simp only [gz_hd] at *; omega))⟩ (fun c41 => ?_) (fun c41 => ?_)
          · show gv_X _ _ (88, [(2, .inl s0_15), (0, .inr (.inr (some p))), (1, .inl v1_5)], [.inr (.inr (some p))], sh, gc_h sh I J A)
            refine gv_run 1 true hD (pcₚ := 89) (lvₚ := [(2, .inl s0_15), (0, .inr (.inr (some p))), (1, .inl v1_5)]) (stₚ := [.inl 5, .inr (.inr (some p))]) (hₚ := gc_h sh I J A) (C := (True ∧ True)) rfl ⟨trivial, trivial⟩ ?_
            refine gv_pick [1, 2] rfl ?_
            exact L89 5 (by (/-18-/first | (and_intros; (have o1 := gz_sh hv1_5; omega); (have o1 := gz_sh hv1_5; omega); (omega); (omega); (have o1 := gz_sh e0_5; omega); (have o1 := gz_sh e1_5; omega); (have o1 := gz_sh e2_5; omega); (omega); (have o1 := gz_sh e6_15; omega)) | (simp only [gz_hd] at *; omega))) e4_15 e5_15
          · show gv_X _ _ (84, [(2, .inl s0_15), (0, .inr (.inr (some p))), (1, .inl v1_5)], [.inr (.inr (some p))], sh, gc_h sh I J A)
            refine gv_run 2 true hD (pcₚ := 89) (lvₚ := [(2, .inl s0_15), (0, .inr (.inr (some p))), (1, .inl v1_5)]) (stₚ := [.inl 3, .inr (.inr (some p))]) (hₚ := gc_h sh I J A) (C := ((True ∧ True) ∧ True)) rfl ⟨⟨trivial, trivial⟩, trivial⟩ ?_
            refine gv_pick [1, 2] rfl ?_
            exact L89 3 (by (/-19-/first | (and_intros; (have o1 := gz_sh hv1_5; omega); (have o1 := gz_sh hv1_5; omega); (omega); (omega); (have o1 := gz_sh e0_5; omega); (have o1 := gz_sh e1_5; omega); (have o1 := gz_sh e2_5; omega); (have o1 := gz_sh e0_5; have o2 := gz_sh e1_5; have o3 := gz_sh e2_5; have o4 := gz_sh e6_15; have o5 := gz_sh hs0_15; have o6 := gz_sh hv1_5; have o7 := gz_sh t39; have o8 := gz_sh t40; omega); (have o1 := gz_sh e0_5; have o2 := gz_sh e1_5; have o3 := gz_sh e2_5; have o4 := gz_sh e6_15; have o5 := gz_sh hs0_15; have o6 := gz_sh hv1_5; have o7 := gz_sh t39; have o8 := gz_sh t40; omega)) | (simp only [gz_hd] at *; omega))) e4_15 e5_15
        have L77 : ((1 ≤ v1_5 ∧ v1_5 ≤ 1000) ∧ (I p 5 < v1_5) ∧ (v1_5 ≤ I p 1) ∧ (v1_5 - I p 5 ≤ 13) ∧ (¬ β v1_5 = 39)) → (gc_lt p I (I p 5) v1_5) → (gs_le β 12 ((I p 5) + 1) = v1_5) → gv_X (gc_E9 ws0 tb 0 (yX9_takeLetters, cX9_takeLetters, 3, none) kX9_takeLetters) (gv_Q cX9_takeLetters none sh (fun r hₚ => (∃ (Iₚ : gr_I) (Jₚ : gr_J), hₚ = gc_h sh Iₚ Jₚ A ∧ gc_Inv ro Iₚ ∧ (∀ q j : Nat, ((q = p ∧ j = 6) ∨ (q = p ∧ j = 7)) ∨ Iₚ q j = I q j) ∧ (∀ q j : Nat, (False) ∨ Jₚ q j = J q j) ∧ r = none ∧ ((Iₚ p 7 = 3 ∧ Iₚ p 6 ≤ I p 1 ∧ 2 ≤ Iₚ p 6 - I p 5 ∧ Iₚ p 6 - I p 5 ≤ 14) ∨ Iₚ p 7 = 5) ∧ (I p 5 < Iₚ p 6) ∧ (gc_lt p Iₚ (Iₚ p 5) (Iₚ p 6 - 1)) ∧ (Iₚ p 6 = gs_le β 12 ((I p 5) + 1) + 1) ∧ (Iₚ p 7 = if β (gs_le β 12 ((I p 5) + 1)) = 39 then 3 else 5)))) (77, [(0, .inr (.inr (some p))), (1, .inl v1_5)], [], sh, gc_h sh I J A) := by
          intro m_42 e3_42 e4_42
          obtain ⟨hv1_5_42, e0_42, e1_42, e2_42, e5_42⟩ := gz_h5 m_42
          have t47 := gz_hi ((fun h : v1_5 < η => gs_TX_i x1 (k := v1_5) (by (/-20-/first | (have o1 := gz_sh hv1_5; omega) | (simp only [gz_hd] at *; omega))) h))
          have t48 := gz_hi ((fun h : ¬ v1_5 < η => gs_TX_o x1 (k := v1_5) h))
          refine gv_run 1 true hD (pcₚ := 78) (lvₚ := [(0, .inr (.inr (some p))), (1, .inl v1_5)]) (stₚ := [.inl 0]) (hₚ := gc_h sh I J A) (C := (True ∧ True)) rfl ⟨trivial, trivial⟩ ?_
          exact L78 0 (by (/-21-/first | (and_intros; (have o1 := gz_sh hv1_5; omega); (have o1 := gz_sh hv1_5; omega); (omega); (omega); (have o1 := gz_sh e0_5; omega); (have o1 := gz_sh e1_5; omega); (have o1 := gz_sh e2_5; omega); (omega); (have o1 := gz_sh e5_42; omega)) | (simp only [gz_hd] at *; omega))) e3_42 e4_42
        have t49 := gz_hi ((fun h : v1_5 < η => gs_TX_i x1 (k := v1_5) (by (/-22-/first | (have o1 := gz_sh hv1_5; omega) | (simp only [gz_hd] at *; omega))) h))
        have t50 := gz_hi ((fun h : ¬ v1_5 < η => gs_TX_o x1 (k := v1_5) h))
        refine gv_run 2 true hD (pcₚ := 56) (lvₚ := [(0, .inr (.inr (some p))), (1, .inl v1_5)]) (stₚ := [.inr (.inr (some p)), .inl v1_5]) (hₚ := gc_h sh I J A) (C := ((True ∧ True) ∧ True)) rfl ⟨⟨trivial, trivial⟩, trivial⟩ ?_
        refine gv_get hD rfl rfl S_p ⟨by decide, (gz_sh B_p)⟩ (gc_hI S_p rfl) ?_
        show gv_X _ _ (59, [(0, .inr (.inr (some p))), (1, .inl v1_5)], [.inl (I p 1), .inl v1_5], sh, gc_h sh I J A)
        refine gv_icmp_ge (t := 77) hD rfl rfl ⟨⟨by (/-23-/first | (have o1 := gz_sh hv1_5; omega) | (simp only [gz_hd] at *; omega)), by (/-24-/first | (have o1 := gz_sh hv1_5; omega) | (simp only [gz_hd] at *; omega))⟩, ⟨by (/-25-/first | (have o1 := gz_sh f1; omega) | (simp only [gz_hd] at *; omega)), by (/-26-/first | (have o1 := gz_sh f1; omega) | (simp only [gz_hd] at *; omega))⟩⟩ (fun c52 => ?_) (fun c52 => ?_)
        · show gv_X _ _ (77, [(0, .inr (.inr (some p))), (1, .inl v1_5)], [], sh, gc_h sh I J A)
          exact L77 (by (/-27-/first | (and_intros; (have o1 := gz_sh hv1_5; omega); (have o1 := gz_sh hv1_5; omega); (have o1 := gz_sh e0_5; omega); (have o1 := gz_sh e1_5; omega); (have o1 := gz_sh e2_5; omega); (have o1 := gz_sh t50; omega)) | (simp only [gz_hd] at *; omega))) e3_10 e4_10
        · show gv_X _ _ (62, [(0, .inr (.inr (some p))), (1, .inl v1_5)], [], sh, gc_h sh I J A)
          refine gv_run 1 true hD (pcₚ := 63) (lvₚ := [(0, .inr (.inr (some p))), (1, .inl v1_5)]) (stₚ := [.inr (.inr (some p))]) (hₚ := gc_h sh I J A) (C := (True ∧ True)) rfl ⟨trivial, trivial⟩ ?_
          refine gv_get hD rfl rfl S_p ⟨by decide, (gz_sh B_p)⟩ (gc_hA S_p rfl A_p_0) ?_
          show gv_X _ _ (66, [(0, .inr (.inr (some p))), (1, .inl v1_5)], [.inr (.inr (some (p + 1)))], sh, gc_h sh I J A)
          refine gv_run 1 true hD (pcₚ := 67) (lvₚ := [(0, .inr (.inr (some p))), (1, .inl v1_5)]) (stₚ := [.inl v1_5, .inr (.inr (some (p + 1)))]) (hₚ := gc_h sh I J A) (C := (True ∧ True)) rfl ⟨trivial, trivial⟩ ?_
          have f53 := gz_hi ((show (-128) ≤ I (p + 1) (Int.toNat v1_5) ∧ I (p + 1) (Int.toNat v1_5) ≤ 127 from gc_in2 hI (gz_sh R_p_1) rfl rfl rfl))
          refine gv_bald hD rfl S_p_1 (Or.inl rfl) ⟨by decide, (gz_sh B_p_1)⟩ ⟨by (/-28-/first | (have o1 := gz_sh hv1_5; omega) | (simp only [gz_hd] at *; omega)), by (/-29-/first | (have o1 := gz_sh f1; omega) | (simp only [gz_hd] at *; omega))⟩ (gc_iI S_p_1 rfl) ?_
          show gv_X _ _ (68, [(0, .inr (.inr (some p))), (1, .inl v1_5)], [.inl (I (p + 1) (Int.toNat v1_5))], sh, gc_h sh I J A)
          refine gv_run 1 true hD (pcₚ := 70) (lvₚ := [(0, .inr (.inr (some p))), (1, .inl v1_5)]) (stₚ := [.inl 39, .inl (I (p + 1) (Int.toNat v1_5))]) (hₚ := gc_h sh I J A) (C := (True ∧ True)) rfl ⟨trivial, trivial⟩ ?_
          refine gv_icmp_ne (t := 77) hD rfl rfl ⟨⟨by (/-30-/first | (have o1 := gz_sh f53; omega) | (simp only [gz_hd] at *; omega)), by (/-31-/first | (have o1 := gz_sh f53; omega) | (simp only [gz_hd] at *; omega))⟩, ⟨by (/-32-/first | omega | (simp only [gz_hd] at *; omega)), by (/-33-/first | omega | (simp only [gz_hd] at *; omega))⟩⟩ (fun c54 => ?_) (fun c54 => ?_)
          · show gv_X _ _ (77, [(0, .inr (.inr (some p))), (1, .inl v1_5)], [], sh, gc_h sh I J A)
            exact L77 (by (/-34-/first | (and_intros; (have o1 := gz_sh hv1_5; omega); (have o1 := gz_sh hv1_5; omega); (have o1 := gz_sh e0_5; omega); (omega); (have o1 := gz_sh e2_5; omega); (have o1 := gz_sh t49; omega)) | (simp only [gz_hd] at *; omega))) e3_10 e4_10
          · show gv_X _ _ (73, [(0, .inr (.inr (some p))), (1, .inl v1_5)], [], sh, gc_h sh I J A)
            refine gv_run 2 true hD (pcₚ := 78) (lvₚ := [(0, .inr (.inr (some p))), (1, .inl v1_5)]) (stₚ := [.inl 1]) (hₚ := gc_h sh I J A) (C := ((True ∧ True) ∧ True)) rfl ⟨⟨trivial, trivial⟩, trivial⟩ ?_
            exact L78 1 (by (/-35-/first | (and_intros; (have o1 := gz_sh hv1_5; omega); (have o1 := gz_sh hv1_5; omega); (omega); (omega); (have o1 := gz_sh e0_5; omega); (omega); (have o1 := gz_sh e2_5; omega); (omega); (have o1 := gz_sh e0_5; have o2 := gz_sh e2_5; have o3 := gz_sh hv1_5; have o4 := gz_sh t49; have o5 := gz_sh t50; omega)) | (simp only [gz_hd] at *; omega))) e3_10 e4_10
      have t55 := gz_hi ((fun h : v1_5 < η => gs_TX_i x1 (k := v1_5) (by (/-36-/first | (have o1 := gz_sh hv1_5; omega) | (simp only [gz_hd] at *; omega))) h))
      have t56 := gz_hi ((fun h : ¬ v1_5 < η => gs_TX_o x1 (k := v1_5) h))
      refine gv_run 2 true hD (pcₚ := 9) (lvₚ := [(0, .inr (.inr (some p))), (1, .inl v1_5)]) (stₚ := [.inr (.inr (some p)), .inl v1_5]) (hₚ := gc_h sh I J A) (C := ((True ∧ True) ∧ True)) rfl ⟨⟨trivial, trivial⟩, trivial⟩ ?_
      refine gv_get hD rfl rfl S_p ⟨by decide, (gz_sh B_p)⟩ (gc_hI S_p rfl) ?_
      show gv_X _ _ (12, [(0, .inr (.inr (some p))), (1, .inl v1_5)], [.inl (I p 1), .inl v1_5], sh, gc_h sh I J A)
      refine gv_icmp_ge (t := 54) hD rfl rfl ⟨⟨by (/-37-/first | (have o1 := gz_sh hv1_5; omega) | (simp only [gz_hd] at *; omega)), by (/-38-/first | (have o1 := gz_sh hv1_5; omega) | (simp only [gz_hd] at *; omega))⟩, ⟨by (/-39-/first | (have o1 := gz_sh f1; omega) | (simp only [gz_hd] at *; omega)), by (/-40-/first | (have o1 := gz_sh f1; omega) | (simp only [gz_hd] at *; omega))⟩⟩ (fun c58 => ?_) (fun c58 => ?_)
      · show gv_X _ _ (54, [(0, .inr (.inr (some p))), (1, .inl v1_5)], [], sh, gc_h sh I J A)
        exact L54 (by (/-41-/first | (and_intros; (have o1 := gz_sh hv1_5; omega); (have o1 := gz_sh hv1_5; omega); (have o1 := gz_sh e0_5; omega); (have o1 := gz_sh e1_5; omega); (have o1 := gz_sh e2_5; omega)) | (simp only [gz_hd] at *; omega))) e3_5 (e4_5.trans (gs_le_e (by (/-42-/first | (have o1 := gz_sh t56; omega) | (simp only [gz_hd] at *; omega)))))
      · show gv_X _ _ (15, [(0, .inr (.inr (some p))), (1, .inl v1_5)], [], sh, gc_h sh I J A)
        refine gv_run 2 true hD (pcₚ := 17) (lvₚ := [(0, .inr (.inr (some p))), (1, .inl v1_5)]) (stₚ := [.inr (.inr (some p)), .inl v1_5]) (hₚ := gc_h sh I J A) (C := ((True ∧ True) ∧ True)) rfl ⟨⟨trivial, trivial⟩, trivial⟩ ?_
        refine gv_get hD rfl rfl S_p ⟨by decide, (gz_sh B_p)⟩ (gc_hI S_p rfl) ?_
        show gv_X _ _ (20, [(0, .inr (.inr (some p))), (1, .inl v1_5)], [.inl (I p 5), .inl v1_5], sh, gc_h sh I J A)
        refine gv_run 2 true hD (pcₚ := 23) (lvₚ := [(0, .inr (.inr (some p))), (1, .inl v1_5)]) (stₚ := [.inl ((I p 5) + 13), .inl v1_5]) (hₚ := gc_h sh I J A) (C := ((True ∧ True) ∧ True)) rfl ⟨⟨trivial, trivial⟩, trivial⟩ ?_
        refine gv_icmp_ge (t := 54) hD rfl rfl ⟨⟨by (/-43-/first | (have o1 := gz_sh hv1_5; omega) | (simp only [gz_hd] at *; omega)), by (/-44-/first | (have o1 := gz_sh hv1_5; omega) | (simp only [gz_hd] at *; omega))⟩, ⟨by (/-45-/first | (have o1 := gz_sh f2; omega) | (simp only [gz_hd] at *; omega)), by (/-46-/first | (have o1 := gz_sh f2; omega) | (simp only [gz_hd] at *; omega))⟩⟩ (fun c60 => ?_) (fun c60 => ?_)
        · show gv_X _ _ (54, [(0, .inr (.inr (some p))), (1, .inl v1_5)], [], sh, gc_h sh I J A)
          exact L54 (by (/-47-/first | (and_intros; (have o1 := gz_sh hv1_5; omega); (have o1 := gz_sh hv1_5; omega); (omega); (omega); (have o1 := gz_sh e2_5; omega)) | (simp only [gz_hd] at *; omega))) e3_5 (e4_5.trans (gs_le_e (by (/-48-/first | (have o1 := gz_sh e0_5; have o2 := gz_sh e2_5; omega) | (simp only [gz_hd] at *; omega)))))
        · show gv_X _ _ (26, [(0, .inr (.inr (some p))), (1, .inl v1_5)], [], sh, gc_h sh I J A)
          refine gv_run 1 true hD (pcₚ := 27) (lvₚ := [(0, .inr (.inr (some p))), (1, .inl v1_5)]) (stₚ := [.inr (.inr (some p))]) (hₚ := gc_h sh I J A) (C := (True ∧ True)) rfl ⟨trivial, trivial⟩ ?_
          refine gv_get hD rfl rfl S_p ⟨by decide, (gz_sh B_p)⟩ (gc_hA S_p rfl A_p_0) ?_
          show gv_X _ _ (30, [(0, .inr (.inr (some p))), (1, .inl v1_5)], [.inr (.inr (some (p + 1)))], sh, gc_h sh I J A)
          refine gv_run 1 true hD (pcₚ := 31) (lvₚ := [(0, .inr (.inr (some p))), (1, .inl v1_5)]) (stₚ := [.inl v1_5, .inr (.inr (some (p + 1)))]) (hₚ := gc_h sh I J A) (C := (True ∧ True)) rfl ⟨trivial, trivial⟩ ?_
          have f61 := gz_hi ((show (-128) ≤ I (p + 1) (Int.toNat v1_5) ∧ I (p + 1) (Int.toNat v1_5) ≤ 127 from gc_in2 hI (gz_sh R_p_1) rfl rfl rfl))
          refine gv_bald hD rfl S_p_1 (Or.inl rfl) ⟨by decide, (gz_sh B_p_1)⟩ ⟨by (/-49-/first | (have o1 := gz_sh hv1_5; omega) | (simp only [gz_hd] at *; omega)), by (/-50-/first | (have o1 := gz_sh f1; omega) | (simp only [gz_hd] at *; omega))⟩ (gc_iI S_p_1 rfl) ?_
          show gv_X _ _ (32, [(0, .inr (.inr (some p))), (1, .inl v1_5)], [.inl (I (p + 1) (Int.toNat v1_5))], sh, gc_h sh I J A)
          refine gv_run 1 true hD (pcₚ := 34) (lvₚ := [(0, .inr (.inr (some p))), (1, .inl v1_5)]) (stₚ := [.inl 97, .inl (I (p + 1) (Int.toNat v1_5))]) (hₚ := gc_h sh I J A) (C := (True ∧ True)) rfl ⟨trivial, trivial⟩ ?_
          refine gv_icmp_lt (t := 54) hD rfl rfl ⟨⟨by (/-51-/first | (have o1 := gz_sh f61; omega) | (simp only [gz_hd] at *; omega)), by (/-52-/first | (have o1 := gz_sh f61; omega) | (simp only [gz_hd] at *; omega))⟩, ⟨by (/-53-/first | omega | (simp only [gz_hd] at *; omega)), by (/-54-/first | omega | (simp only [gz_hd] at *; omega))⟩⟩ (fun c62 => ?_) (fun c62 => ?_)
          · show gv_X _ _ (54, [(0, .inr (.inr (some p))), (1, .inl v1_5)], [], sh, gc_h sh I J A)
            exact L54 (by (/-55-/first | (and_intros; (have o1 := gz_sh hv1_5; omega); (have o1 := gz_sh hv1_5; omega); (have o1 := gz_sh e0_5; omega); (omega); (omega)) | (simp only [gz_hd] at *; omega))) e3_5 (e4_5.trans (gs_le_e (by (/-56-/first | (have o1 := gz_sh t55; omega) | (simp only [gz_hd] at *; omega)))))
          · show gv_X _ _ (37, [(0, .inr (.inr (some p))), (1, .inl v1_5)], [], sh, gc_h sh I J A)
            refine gv_run 1 true hD (pcₚ := 38) (lvₚ := [(0, .inr (.inr (some p))), (1, .inl v1_5)]) (stₚ := [.inr (.inr (some p))]) (hₚ := gc_h sh I J A) (C := (True ∧ True)) rfl ⟨trivial, trivial⟩ ?_
            refine gv_get hD rfl rfl S_p ⟨by decide, (gz_sh B_p)⟩ (gc_hA S_p rfl A_p_0) ?_
            show gv_X _ _ (41, [(0, .inr (.inr (some p))), (1, .inl v1_5)], [.inr (.inr (some (p + 1)))], sh, gc_h sh I J A)
            refine gv_run 1 true hD (pcₚ := 42) (lvₚ := [(0, .inr (.inr (some p))), (1, .inl v1_5)]) (stₚ := [.inl v1_5, .inr (.inr (some (p + 1)))]) (hₚ := gc_h sh I J A) (C := (True ∧ True)) rfl ⟨trivial, trivial⟩ ?_
            refine gv_bald hD rfl S_p_1 (Or.inl rfl) ⟨by decide, (gz_sh B_p_1)⟩ ⟨by (/-57-/first | (have o1 := gz_sh hv1_5; omega) | (simp only [gz_hd] at *; omega)), by (/-58-/first | (have o1 := gz_sh f1; omega) | (simp only [gz_hd] at *; omega))⟩ (gc_iI S_p_1 rfl) ?_
            show gv_X _ _ (43, [(0, .inr (.inr (some p))), (1, .inl v1_5)], [.inl (I (p + 1) (Int.toNat v1_5))], sh, gc_h sh I J A)
            refine gv_run 1 true hD (pcₚ := 45) (lvₚ := [(0, .inr (.inr (some p))), (1, .inl v1_5)]) (stₚ := [.inl 122, .inl (I (p + 1) (Int.toNat v1_5))]) (hₚ := gc_h sh I J A) (C := (True ∧ True)) rfl ⟨trivial, trivial⟩ ?_
            refine gv_icmp_gt (t := 54) hD rfl rfl ⟨⟨by (/-59-/first | omega | (simp only [gz_hd] at *; omega)), by (/-60-/first | (have o1 := gz_sh f61; omega) | (simp only [gz_hd] at *; omega))⟩, ⟨by (/-61-/first | omega | (simp only [gz_hd] at *; omega)), by (/-62-/first | omega | (simp only [gz_hd] at *; omega))⟩⟩ (fun c64 => ?_) (fun c64 => ?_)
            · show gv_X _ _ (54, [(0, .inr (.inr (some p))), (1, .inl v1_5)], [], sh, gc_h sh I J A)
              exact L54 (by (/-63-/first | (and_intros; (have o1 := gz_sh hv1_5; omega); (have o1 := gz_sh hv1_5; omega); (have o1 := gz_sh e0_5; omega); (omega); (omega)) | (simp only [gz_hd] at *; omega))) e3_5 (e4_5.trans (gs_le_e (by (/-64-/first | (have o1 := gz_sh t55; omega) | (simp only [gz_hd] at *; omega)))))
            · show gv_X _ _ (48, [(0, .inr (.inr (some p))), (1, .inl v1_5)], [], sh, gc_h sh I J A)
              refine gv_run 2 true hD (pcₚ := 7) (lvₚ := [(1, .inl (v1_5 + 1)), (0, .inr (.inr (some p)))]) (stₚ := []) (hₚ := gc_h sh I J A) (C := ((True ∧ True) ∧ True)) rfl ⟨⟨trivial, trivial⟩, trivial⟩ ?_
              refine gv_pick [1, 0] rfl ?_
              exact ih7 (v1_5 + 1) (by (/-65-/first | (have o1 := gz_sh e0_5; have o2 := gz_sh e2_5; have o3 := gz_sh f1; have o4 := gz_sh f61; have o5 := gz_sh hv1_5; have o6 := gz_sh t55; have o7 := gz_sh t56; omega) | (simp only [gz_hd] at *; omega))) (by (/-66-/first | (and_intros; (have o1 := gz_sh hv1_5; omega); (have o1 := gz_sh f1; omega); (have o1 := gz_sh e0_5; omega); (omega); (omega)) | (simp only [gz_hd] at *; omega))) (gc_lt_nx e3_5 (by (/-67-/first | (and_intros <;> omega) | (simp only [gz_hd] at *; omega)))) (e4_5.trans (gs_le_s (by (/-68-/first | omega | (simp only [gz_hd] at *; omega))) (by (/-69-/first | (and_intros; (have o1 := gz_sh t55; omega); (have o1 := gz_sh t55; omega)) | (simp only [gz_hd] at *; omega)))))
  refine gv_run 1 true hD (pcₚ := 1) (lvₚ := [(0, .inr (.inr (some p)))]) (stₚ := [.inr (.inr (some p))]) (hₚ := gc_h sh I J A) (C := (True ∧ True)) rfl ⟨trivial, trivial⟩ ?_
  refine gv_get hD rfl rfl S_p ⟨by decide, (gz_sh B_p)⟩ (gc_hI S_p rfl) ?_
  show gv_X _ _ (4, [(0, .inr (.inr (some p)))], [.inl (I p 5)], sh, gc_h sh I J A)
  refine gv_run 3 true hD (pcₚ := 7) (lvₚ := [(1, .inl ((I p 5) + 1)), (0, .inr (.inr (some p)))]) (stₚ := []) (hₚ := gc_h sh I J A) (C := (((True ∧ True) ∧ True) ∧ True)) rfl ⟨⟨⟨trivial, trivial⟩, trivial⟩, trivial⟩ ?_
  refine gv_pick [1, 0] rfl ?_
  exact L7 _ (((I p 5) + 1)) (Nat.lt_succ_self _) (by (/-70-/first | (and_intros; (have o1 := gz_sh f2; omega); (have o1 := gz_sh f1; omega); (omega); (omega); (omega)) | (simp only [gz_hd] at *; omega))) (fun k a b => by (/-71-/first | (and_intros <;> omega) | (simp only [gz_hd] at *; omega))) (by rw [show Int.toNat ((I p 5) + 1 + (12 : Nat) - (((I p 5) + 1))) = 12 from by (/-72-/first | omega | (simp only [gz_hd] at *; omega))])
