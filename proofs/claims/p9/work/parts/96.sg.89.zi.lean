/-! THE CLASS'S THROWS: each at the head of its method, the state as it was. -/
theorem gt_ev12 {ws0 : List Cond} {tb : String → gz_T} (htb : gc_tbs tb) {d : Nat} {M : gx_M} {l : Nat → Option Instr} {av : List gz_V} {sh : gz_Sh} {h : gz_H} {E : String} (hc : M.1.cls = RX12) (hn : (av.map gz_c).sum ≤ M.2.2.1) (hX : gv_X (gc_E12 ws0 tb d M l) (fun v => gt_end ws0 RX12 M.2.1 d (gt_Th ws0 tb d) v E sh h 1 6) (0, gz_args 0 av, [], sh, h)) : gt_Th ws0 tb (d + 1) M av sh h E sh h 1 6 := by
  obtain ⟨n, v, h1, h2⟩ := hX
  refine ⟨hn, hc, n, v, 0, 0, 1, 6, ?_, ?_, rfl, rfl⟩
  · rw [hc, gc_tb12 htb]
    exact h1
  · rw [hc]
    exact h2
section GTS
variable {Ev : gv_E} {pc is : Nat} {tx : String}
theorem gt_sI (hD : gv_D Ev) (h0 : Ev.2.2.2.2.2.2 pc = some (.new 115)) (h3 : Ev.2.2.2.2.2.2 (pc + 3) = some .dup) (h4 : Ev.2.2.2.2.2.2 (pc + 4) = some (.ldc is)) (h6 : Ev.2.2.2.2.2.2 (pc + 6) = some (.invokespecial 119)) (h9 : Ev.2.2.2.2.2.2 (pc + 9) = some .athrow) (hs : (is, tx) ∈ px_strs) : gt_at Ev.2.2.2.1 pc px_IAE :=
  ⟨115, 119, is, tx, Or.inl ⟨rfl, rfl, rfl⟩, hs, hD _ _ h0, hD _ _ h3, Or.inl ⟨hD _ _ h4, hD _ _ h6, hD _ _ h9⟩⟩
theorem gt_sIW (hD : gv_D Ev) (h0 : Ev.2.2.2.2.2.2 pc = some (.new 115)) (h3 : Ev.2.2.2.2.2.2 (pc + 3) = some .dup) (h4 : Ev.2.2.2.2.2.2 (pc + 4) = some (.ldc_w is)) (h7 : Ev.2.2.2.2.2.2 (pc + 7) = some (.invokespecial 119)) (h10 : Ev.2.2.2.2.2.2 (pc + 10) = some .athrow) (hs : (is, tx) ∈ px_strs) : gt_at Ev.2.2.2.1 pc px_IAE :=
  ⟨115, 119, is, tx, Or.inl ⟨rfl, rfl, rfl⟩, hs, hD _ _ h0, hD _ _ h3, Or.inr ⟨hD _ _ h4, hD _ _ h7, hD _ _ h10⟩⟩
theorem gt_sE (hD : gv_D Ev) (h0 : Ev.2.2.2.2.2.2 pc = some (.new 104)) (h3 : Ev.2.2.2.2.2.2 (pc + 3) = some .dup) (h4 : Ev.2.2.2.2.2.2 (pc + 4) = some (.ldc is)) (h6 : Ev.2.2.2.2.2.2 (pc + 6) = some (.invokespecial 108)) (h9 : Ev.2.2.2.2.2.2 (pc + 9) = some .athrow) (hs : (is, tx) ∈ px_strs) : gt_at Ev.2.2.2.1 pc px_ISE :=
  ⟨104, 108, is, tx, Or.inr ⟨rfl, rfl, rfl⟩, hs, hD _ _ h0, hD _ _ h3, Or.inl ⟨hD _ _ h4, hD _ _ h6, hD _ _ h9⟩⟩
end GTS
set_option maxHeartbeats 2000000 in
set_option maxRecDepth 100000 in
theorem ht_tongueAt {ws0 : List Cond} {tb : String → gz_T} (hws : gc_Ws ws0) (htb : gc_tbs tb) {sh : gz_Sh} {ro : Nat → Nat} {I : gr_I} {J : gr_J} {A : gc_A} (hb : gc_Base sh ro A) (hI : gc_Inv ro I) (a1 : Int) (r1 : (-2147483648) ≤ a1) (r2 : a1 ≤ 2147483647) (h1 : a1 < 0 ∨ I 8 1 ≤ a1) : gt_Th ws0 tb 99 (yX12_tongueAt, cX12_tongueAt, 2, (some (.object "TongueHouse$Tongue"))) [.inr (.inr (some 0)), .inl a1] sh (gc_h sh I J A) px_IAE sh (gc_h sh I J A) 1 6 := by
  have hd5 : 5 ≤ 98 := by decide
  have S0 : sh[0]? = some (false, 12, 17) := gc_bS_0 hb
  have S1 : sh[1]? = some (false, 8, 21) := gc_bS_1 hb
  have S8 : sh[8]? = some (false, 4, 2) := gc_bS_8 hb
  have A00 : A 0 0 = some 1 := gc_bA_0_0 hb
  have A13 : A 1 3 = some 8 := gc_bA_1_3 hb
  have i8 : 0 ≤ I 8 1 ∧ I 8 1 ≤ 8 := gc_in hI (gc_bR hb (by decide) rfl) rfl rfl
  have hD : gv_D (gc_E12 ws0 tb 98 (yX12_tongueAt, cX12_tongueAt, 2, (some (.object "TongueHouse$Tongue"))) kX12_tongueAt) := gq_of oX12_tongueAt
  refine gt_ev12 (l := kX12_tongueAt) htb rfl (Nat.le_of_ble_eq_true rfl) ?_
  show gv_X _ _ (0, [(0, .inr (.inr (some 0))), (1, .inl a1)], [], sh, gc_h sh I J A)
  refine gv_run 1 true hD (pcₚ := 1) (lvₚ := [(0, .inr (.inr (some 0))), (1, .inl a1)]) (stₚ := [.inl a1]) (hₚ := gc_h sh I J A) (C := (True ∧ True)) rfl ⟨trivial, trivial⟩ ?_
  refine gv_if_lt (t := 30) hD rfl rfl ⟨by omega, by omega⟩ (fun c => ?_) (fun c => ?_)
  · skip
    show gv_X _ _ (30, [(0, .inr (.inr (some 0))), (1, .inl a1)], [], sh, gc_h sh I J A)
    exact gv_end (Or.inl ⟨hd5, gt_sIW hD rfl rfl rfl rfl rfl (tx := "no such tongue") (by decide +kernel), Nat.le_of_ble_eq_true rfl, rfl, rfl, rfl, rfl⟩)
  · skip
    show gv_X _ _ (4, [(0, .inr (.inr (some 0))), (1, .inl a1)], [], sh, gc_h sh I J A)
    refine gv_run 2 true hD (pcₚ := 6) (lvₚ := [(0, .inr (.inr (some 0))), (1, .inl a1)]) (stₚ := [.inr (.inr (some 0)), .inl a1]) (hₚ := gc_h sh I J A) (C := ((True ∧ True) ∧ True)) rfl ⟨⟨trivial, trivial⟩, trivial⟩ ?_
    refine gv_get hD rfl rfl S0 ⟨by decide, by first | decide | omega⟩ (gc_hA S0 rfl A00) ?_
    refine gv_get hD rfl rfl S1 ⟨by decide, by first | decide | omega⟩ (gc_hA S1 rfl A13) ?_
    refine gv_get hD rfl rfl S8 ⟨by decide, by first | decide | omega⟩ (gc_hI S8 rfl) ?_
    refine gv_icmp_ge (t := 30) hD rfl rfl ⟨⟨by omega, by omega⟩, ⟨by omega, by omega⟩⟩ (fun c => ?_) (fun c => ?_)
    · skip
      show gv_X _ _ (30, [(0, .inr (.inr (some 0))), (1, .inl a1)], [], sh, gc_h sh I J A)
      exact gv_end (Or.inl ⟨hd5, gt_sIW hD rfl rfl rfl rfl rfl (tx := "no such tongue") (by decide +kernel), Nat.le_of_ble_eq_true rfl, rfl, rfl, rfl, rfl⟩)
    · skip
      exfalso; omega
set_option maxHeartbeats 2000000 in
set_option maxRecDepth 100000 in
theorem ht_checkKind {ws0 : List Cond} {tb : String → gz_T} (hws : gc_Ws ws0) (htb : gc_tbs tb) {sh : gz_Sh} {ro : Nat → Nat} {I : gr_I} {J : gr_J} {A : gc_A} (hb : gc_Base sh ro A) (hI : gc_Inv ro I) (a1 : Int) (r1 : (-2147483648) ≤ a1) (r2 : a1 ≤ 2147483647) (h1 : a1 < 0 ∨ I 2 1 ≤ a1) : gt_Th ws0 tb 99 (yX12_checkKind, cX12_checkKind, 2, none) [.inr (.inr (some 0)), .inl a1] sh (gc_h sh I J A) px_IAE sh (gc_h sh I J A) 1 6 := by
  have hd5 : 5 ≤ 98 := by decide
  have S0 : sh[0]? = some (false, 12, 17) := gc_bS_0 hb
  have S1 : sh[1]? = some (false, 8, 21) := gc_bS_1 hb
  have S2 : sh[2]? = some (false, 4, 2) := gc_bS_2 hb
  have A00 : A 0 0 = some 1 := gc_bA_0_0 hb
  have A10 : A 1 0 = some 2 := gc_bA_1_0 hb
  have i2 : 0 ≤ I 2 1 ∧ I 2 1 ≤ 32 := gc_in hI (gc_bR hb (by decide) rfl) rfl rfl
  have hD : gv_D (gc_E12 ws0 tb 98 (yX12_checkKind, cX12_checkKind, 2, none) kX12_checkKind) := gq_of oX12_checkKind
  refine gt_ev12 (l := kX12_checkKind) htb rfl (Nat.le_of_ble_eq_true rfl) ?_
  show gv_X _ _ (0, [(0, .inr (.inr (some 0))), (1, .inl a1)], [], sh, gc_h sh I J A)
  refine gv_run 1 true hD (pcₚ := 1) (lvₚ := [(0, .inr (.inr (some 0))), (1, .inl a1)]) (stₚ := [.inl a1]) (hₚ := gc_h sh I J A) (C := (True ∧ True)) rfl ⟨trivial, trivial⟩ ?_
  refine gv_if_lt (t := 18) hD rfl rfl ⟨by omega, by omega⟩ (fun c => ?_) (fun c => ?_)
  · skip
    show gv_X _ _ (18, [(0, .inr (.inr (some 0))), (1, .inl a1)], [], sh, gc_h sh I J A)
    exact gv_end (Or.inl ⟨hd5, gt_sIW hD rfl rfl rfl rfl rfl (tx := "no such kind") (by decide +kernel), Nat.le_of_ble_eq_true rfl, rfl, rfl, rfl, rfl⟩)
  · skip
    show gv_X _ _ (4, [(0, .inr (.inr (some 0))), (1, .inl a1)], [], sh, gc_h sh I J A)
    refine gv_run 2 true hD (pcₚ := 6) (lvₚ := [(0, .inr (.inr (some 0))), (1, .inl a1)]) (stₚ := [.inr (.inr (some 0)), .inl a1]) (hₚ := gc_h sh I J A) (C := ((True ∧ True) ∧ True)) rfl ⟨⟨trivial, trivial⟩, trivial⟩ ?_
    refine gv_get hD rfl rfl S0 ⟨by decide, by first | decide | omega⟩ (gc_hA S0 rfl A00) ?_
    refine gv_get hD rfl rfl S1 ⟨by decide, by first | decide | omega⟩ (gc_hA S1 rfl A10) ?_
    refine gv_get hD rfl rfl S2 ⟨by decide, by first | decide | omega⟩ (gc_hI S2 rfl) ?_
    refine gv_icmp_lt (t := 29) hD rfl rfl ⟨⟨by omega, by omega⟩, ⟨by omega, by omega⟩⟩ (fun c => ?_) (fun c => ?_)
    · skip
      exfalso; omega
    · skip
      show gv_X _ _ (18, [(0, .inr (.inr (some 0))), (1, .inl a1)], [], sh, gc_h sh I J A)
      exact gv_end (Or.inl ⟨hd5, gt_sIW hD rfl rfl rfl rfl rfl (tx := "no such kind") (by decide +kernel), Nat.le_of_ble_eq_true rfl, rfl, rfl, rfl, rfl⟩)
set_option maxHeartbeats 2000000 in
set_option maxRecDepth 100000 in
theorem ht_checkPlace {ws0 : List Cond} {tb : String → gz_T} (hws : gc_Ws ws0) (htb : gc_tbs tb) {sh : gz_Sh} {ro : Nat → Nat} {I : gr_I} {J : gr_J} {A : gc_A} (hb : gc_Base sh ro A) (hI : gc_Inv ro I) (a1 : Int) (r1 : (-2147483648) ≤ a1) (r2 : a1 ≤ 2147483647) (h1 : a1 < 0 ∨ 8 ≤ a1) : gt_Th ws0 tb 99 (yX12_checkPlace, cX12_checkPlace, 1, none) [.inl a1] sh (gc_h sh I J A) px_IAE sh (gc_h sh I J A) 1 6 := by
  have hd5 : 5 ≤ 98 := by decide
  have hD : gv_D (gc_E12 ws0 tb 98 (yX12_checkPlace, cX12_checkPlace, 1, none) kX12_checkPlace) := gq_of oX12_checkPlace
  refine gt_ev12 (l := kX12_checkPlace) htb rfl (Nat.le_of_ble_eq_true rfl) ?_
  show gv_X _ _ (0, [(0, .inl a1)], [], sh, gc_h sh I J A)
  refine gv_run 1 true hD (pcₚ := 1) (lvₚ := [(0, .inl a1)]) (stₚ := [.inl a1]) (hₚ := gc_h sh I J A) (C := (True ∧ True)) rfl ⟨trivial, trivial⟩ ?_
  refine gv_if_lt (t := 10) hD rfl rfl ⟨by omega, by omega⟩ (fun c => ?_) (fun c => ?_)
  · skip
    show gv_X _ _ (10, [(0, .inl a1)], [], sh, gc_h sh I J A)
    exact gv_end (Or.inl ⟨hd5, gt_sIW hD rfl rfl rfl rfl rfl (tx := "no such place") (by decide +kernel), Nat.le_of_ble_eq_true rfl, rfl, rfl, rfl, rfl⟩)
  · skip
    show gv_X _ _ (4, [(0, .inl a1)], [], sh, gc_h sh I J A)
    refine gv_run 2 true hD (pcₚ := 7) (lvₚ := [(0, .inl a1)]) (stₚ := [.inl 8, .inl a1]) (hₚ := gc_h sh I J A) (C := ((True ∧ True) ∧ True)) rfl ⟨⟨trivial, trivial⟩, trivial⟩ ?_
    refine gv_icmp_lt (t := 21) hD rfl rfl ⟨⟨by omega, by omega⟩, ⟨by omega, by omega⟩⟩ (fun c => ?_) (fun c => ?_)
    · skip
      exfalso; omega
    · skip
      show gv_X _ _ (10, [(0, .inl a1)], [], sh, gc_h sh I J A)
      exact gv_end (Or.inl ⟨hd5, gt_sIW hD rfl rfl rfl rfl rfl (tx := "no such place") (by decide +kernel), Nat.le_of_ble_eq_true rfl, rfl, rfl, rfl, rfl⟩)
set_option maxHeartbeats 2000000 in
set_option maxRecDepth 100000 in
theorem ht_feed {ws0 : List Cond} {tb : String → gz_T} (hws : gc_Ws ws0) (htb : gc_tbs tb) {sh : gz_Sh} {ro : Nat → Nat} {I : gr_I} {J : gr_J} {A : gc_A} (hs : gh_HS sh ro I J A) (a1 : Int) (a2 : Int) (a3 : Int) (a4 : Int) (a5 : Int) (ra1 : (-2147483648) ≤ a1 ∧ a1 ≤ 2147483647) (ra2 : (-2147483648) ≤ a2 ∧ a2 ≤ 2147483647) (ra3 : (-2147483648) ≤ a3 ∧ a3 ≤ 2147483647) (ra4 : (-2147483648) ≤ a4 ∧ a4 ≤ 2147483647) (ra5 : (-2147483648) ≤ a5 ∧ a5 ≤ 2147483647) (h1 : 980 < I 23 1) : gt_Th ws0 tb 100 (yX12_feed, cX12_feed, 6, (some .int)) [.inr (.inr (some 0)), .inl a1, .inl a2, .inl a3, .inl a4, .inl a5] sh (gc_h sh I J A) px_ISE sh (gc_h sh I J A) 1 6 := by
  have hb := hs.1
  have hI := hs.2.1
  have hd5 : 5 ≤ 99 := by decide
  have S0 : sh[0]? = some (false, 12, 17) := gc_bS_0 hb
  have S23 : sh[23]? = some (false, 9, 10) := gc_bS_23 hb
  have A01 : A 0 1 = some 23 := gc_bA_0_1 hb
  have i23 : 0 ≤ I 23 1 ∧ I 23 1 ≤ 1000 := gc_in hI (gc_bR hb (by decide) rfl) rfl rfl
  have hD : gv_D (gc_E12 ws0 tb 99 (yX12_feed, cX12_feed, 6, (some .int)) kX12_feed) := gq_of oX12_feed
  refine gt_ev12 (l := kX12_feed) htb rfl (Nat.le_of_ble_eq_true rfl) ?_
  show gv_X _ _ (0, [(0, .inr (.inr (some 0))), (1, .inl a1), (2, .inl a2), (3, .inl a3), (4, .inl a4), (5, .inl a5)], [], sh, gc_h sh I J A)
  refine gv_run 1 true hD (pcₚ := 1) (lvₚ := [(0, .inr (.inr (some 0))), (1, .inl a1), (2, .inl a2), (3, .inl a3), (4, .inl a4), (5, .inl a5)]) (stₚ := [.inr (.inr (some 0))]) (hₚ := gc_h sh I J A) (C := (True ∧ True)) rfl ⟨trivial, trivial⟩ ?_
  refine gv_get hD rfl rfl S0 ⟨by decide, by first | decide | omega⟩ (gc_hA S0 rfl A01) ?_
  refine gv_get hD rfl rfl S23 ⟨by decide, by first | decide | omega⟩ (gc_hI S23 rfl) ?_
  refine gv_run 3 true hD (pcₚ := 13) (lvₚ := [(0, .inr (.inr (some 0))), (1, .inl a1), (2, .inl a2), (3, .inl a3), (4, .inl a4), (5, .inl a5)]) (stₚ := [.inl 1000, .inl ((I 23 1) + 20)]) (hₚ := gc_h sh I J A) (C := (((True ∧ True) ∧ True) ∧ True)) rfl ⟨⟨⟨trivial, trivial⟩, trivial⟩, trivial⟩ ?_
  refine gv_icmp_le (t := 26) hD rfl rfl ⟨⟨by omega, by omega⟩, ⟨by omega, by omega⟩⟩ (fun c => ?_) (fun c => ?_)
  · skip
    exfalso; omega
  · skip
    show gv_X _ _ (16, [(0, .inr (.inr (some 0))), (1, .inl a1), (2, .inl a2), (3, .inl a3), (4, .inl a4), (5, .inl a5)], [], sh, gc_h sh I J A)
    exact gv_end (Or.inl ⟨hd5, gt_sE hD rfl rfl rfl rfl rfl (tx := "the tape would be too long") (by decide +kernel), Nat.le_of_ble_eq_true rfl, rfl, rfl, rfl, rfl⟩)
set_option maxHeartbeats 2000000 in
set_option maxRecDepth 100000 in
theorem ht_end {ws0 : List Cond} {tb : String → gz_T} (hws : gc_Ws ws0) (htb : gc_tbs tb) {sh : gz_Sh} {ro : Nat → Nat} {I : gr_I} {J : gr_J} {A : gc_A} (hs : gh_HS sh ro I J A) (a1 : Int) (ra1 : (-2147483648) ≤ a1 ∧ a1 ≤ 2147483647) (h1 : a1 < 0 ∨ I 23 1 < a1) : gt_Th ws0 tb 100 (yX12_end, cX12_end, 2, (some .int)) [.inr (.inr (some 0)), .inl a1] sh (gc_h sh I J A) px_IAE sh (gc_h sh I J A) 1 6 := by
  have hb := hs.1
  have hI := hs.2.1
  have hd5 : 5 ≤ 99 := by decide
  have S0 : sh[0]? = some (false, 12, 17) := gc_bS_0 hb
  have S23 : sh[23]? = some (false, 9, 10) := gc_bS_23 hb
  have A01 : A 0 1 = some 23 := gc_bA_0_1 hb
  have i23 : 0 ≤ I 23 1 ∧ I 23 1 ≤ 1000 := gc_in hI (gc_bR hb (by decide) rfl) rfl rfl
  have hD : gv_D (gc_E12 ws0 tb 99 (yX12_end, cX12_end, 2, (some .int)) kX12_end) := gq_of oX12_end
  refine gt_ev12 (l := kX12_end) htb rfl (Nat.le_of_ble_eq_true rfl) ?_
  show gv_X _ _ (0, [(0, .inr (.inr (some 0))), (1, .inl a1)], [], sh, gc_h sh I J A)
  refine gv_run 1 true hD (pcₚ := 1) (lvₚ := [(0, .inr (.inr (some 0))), (1, .inl a1)]) (stₚ := [.inl a1]) (hₚ := gc_h sh I J A) (C := (True ∧ True)) rfl ⟨trivial, trivial⟩ ?_
  refine gv_if_lt (t := 15) hD rfl rfl ⟨by omega, by omega⟩ (fun c => ?_) (fun c => ?_)
  · skip
    show gv_X _ _ (15, [(0, .inr (.inr (some 0))), (1, .inl a1)], [], sh, gc_h sh I J A)
    exact gv_end (Or.inl ⟨hd5, gt_sI hD rfl rfl rfl rfl rfl (tx := "the tape has not so many bytes") (by decide +kernel), Nat.le_of_ble_eq_true rfl, rfl, rfl, rfl, rfl⟩)
  · skip
    show gv_X _ _ (4, [(0, .inr (.inr (some 0))), (1, .inl a1)], [], sh, gc_h sh I J A)
    refine gv_run 2 true hD (pcₚ := 6) (lvₚ := [(0, .inr (.inr (some 0))), (1, .inl a1)]) (stₚ := [.inr (.inr (some 0)), .inl a1]) (hₚ := gc_h sh I J A) (C := ((True ∧ True) ∧ True)) rfl ⟨⟨trivial, trivial⟩, trivial⟩ ?_
    refine gv_get hD rfl rfl S0 ⟨by decide, by first | decide | omega⟩ (gc_hA S0 rfl A01) ?_
    refine gv_get hD rfl rfl S23 ⟨by decide, by first | decide | omega⟩ (gc_hI S23 rfl) ?_
    refine gv_icmp_le (t := 25) hD rfl rfl ⟨⟨by omega, by omega⟩, ⟨by omega, by omega⟩⟩ (fun c => ?_) (fun c => ?_)
    · skip
      exfalso; omega
    · skip
      show gv_X _ _ (15, [(0, .inr (.inr (some 0))), (1, .inl a1)], [], sh, gc_h sh I J A)
      exact gv_end (Or.inl ⟨hd5, gt_sI hD rfl rfl rfl rfl rfl (tx := "the tape has not so many bytes") (by decide +kernel), Nat.le_of_ble_eq_true rfl, rfl, rfl, rfl, rfl⟩)
set_option maxHeartbeats 2000000 in
set_option maxRecDepth 100000 in
theorem ht_bar {ws0 : List Cond} {tb : String → gz_T} (hws : gc_Ws ws0) (htb : gc_tbs tb) {sh : gz_Sh} {ro : Nat → Nat} {I : gr_I} {J : gr_J} {A : gc_A} (hs : gh_HS sh ro I J A) (a1 : Int) (a2 : Int) (ra1 : (-2147483648) ≤ a1 ∧ a1 ≤ 2147483647) (ra2 : (-2147483648) ≤ a2 ∧ a2 ≤ 2147483647) (h1 : a1 < 0 ∨ I 4 1 ≤ a1) : gt_Th ws0 tb 100 (yX12_bar, cX12_bar, 3, (some .long)) [.inr (.inr (some 0)), .inl a1, .inl a2] sh (gc_h sh I J A) px_IAE sh (gc_h sh I J A) 1 6 := by
  have hb := hs.1
  have hI := hs.2.1
  have hd5 : 5 ≤ 99 := by decide
  have S0 : sh[0]? = some (false, 12, 17) := gc_bS_0 hb
  have S1 : sh[1]? = some (false, 8, 21) := gc_bS_1 hb
  have S4 : sh[4]? = some (false, 4, 2) := gc_bS_4 hb
  have A00 : A 0 0 = some 1 := gc_bA_0_0 hb
  have A11 : A 1 1 = some 4 := gc_bA_1_1 hb
  have i4 : 0 ≤ I 4 1 ∧ I 4 1 ≤ 96 := gc_in hI (gc_bR hb (by decide) rfl) rfl rfl
  have hD : gv_D (gc_E12 ws0 tb 99 (yX12_bar, cX12_bar, 3, (some .long)) kX12_bar) := gq_of oX12_bar
  refine gt_ev12 (l := kX12_bar) htb rfl (Nat.le_of_ble_eq_true rfl) ?_
  show gv_X _ _ (0, [(0, .inr (.inr (some 0))), (1, .inl a1), (2, .inl a2)], [], sh, gc_h sh I J A)
  refine gv_run 1 true hD (pcₚ := 1) (lvₚ := [(0, .inr (.inr (some 0))), (1, .inl a1), (2, .inl a2)]) (stₚ := [.inl a1]) (hₚ := gc_h sh I J A) (C := (True ∧ True)) rfl ⟨trivial, trivial⟩ ?_
  refine gv_if_lt (t := 18) hD rfl rfl ⟨by omega, by omega⟩ (fun c => ?_) (fun c => ?_)
  · skip
    show gv_X _ _ (18, [(0, .inr (.inr (some 0))), (1, .inl a1), (2, .inl a2)], [], sh, gc_h sh I J A)
    exact gv_end (Or.inl ⟨hd5, gt_sI hD rfl rfl rfl rfl rfl (tx := "no such fun") (by decide +kernel), Nat.le_of_ble_eq_true rfl, rfl, rfl, rfl, rfl⟩)
  · skip
    show gv_X _ _ (4, [(0, .inr (.inr (some 0))), (1, .inl a1), (2, .inl a2)], [], sh, gc_h sh I J A)
    refine gv_run 2 true hD (pcₚ := 6) (lvₚ := [(0, .inr (.inr (some 0))), (1, .inl a1), (2, .inl a2)]) (stₚ := [.inr (.inr (some 0)), .inl a1]) (hₚ := gc_h sh I J A) (C := ((True ∧ True) ∧ True)) rfl ⟨⟨trivial, trivial⟩, trivial⟩ ?_
    refine gv_get hD rfl rfl S0 ⟨by decide, by first | decide | omega⟩ (gc_hA S0 rfl A00) ?_
    refine gv_get hD rfl rfl S1 ⟨by decide, by first | decide | omega⟩ (gc_hA S1 rfl A11) ?_
    refine gv_get hD rfl rfl S4 ⟨by decide, by first | decide | omega⟩ (gc_hI S4 rfl) ?_
    refine gv_icmp_lt (t := 28) hD rfl rfl ⟨⟨by omega, by omega⟩, ⟨by omega, by omega⟩⟩ (fun c => ?_) (fun c => ?_)
    · skip
      exfalso; omega
    · skip
      show gv_X _ _ (18, [(0, .inr (.inr (some 0))), (1, .inl a1), (2, .inl a2)], [], sh, gc_h sh I J A)
      exact gv_end (Or.inl ⟨hd5, gt_sI hD rfl rfl rfl rfl rfl (tx := "no such fun") (by decide +kernel), Nat.le_of_ble_eq_true rfl, rfl, rfl, rfl, rfl⟩)
set_option maxHeartbeats 2000000 in
set_option maxRecDepth 100000 in
theorem ht_number_w {ws0 : List Cond} {tb : String → gz_T} (hws : gc_Ws ws0) (htb : gc_tbs tb) {sh : gz_Sh} {ro : Nat → Nat} {I : gr_I} {J : gr_J} {A : gc_A} (hs : gh_HS sh ro I J A) (a1 : Int) (a2 : Int) (ra1 : (-2147483648) ≤ a1 ∧ a1 ≤ 2147483647) (ra2 : (-2147483648) ≤ a2 ∧ a2 ≤ 2147483647) (h1 : a2 < 0 ∨ 5 < a2) : gt_Th ws0 tb 100 (yX12_number, cX12_number, 6, (some .int)) [.inr (.inr (some 0)), .inl a1, .inl a2] sh (gc_h sh I J A) px_IAE sh (gc_h sh I J A) 1 6 := by
  have hb := hs.1
  have hI := hs.2.1
  have hd5 : 5 ≤ 99 := by decide
  have hD : gv_D (gc_E12 ws0 tb 99 (yX12_number, cX12_number, 6, (some .int)) kX12_number) := gq_of oX12_number
  refine gt_ev12 (l := kX12_number) htb rfl (Nat.le_of_ble_eq_true rfl) ?_
  show gv_X _ _ (0, [(0, .inr (.inr (some 0))), (1, .inl a1), (2, .inl a2)], [], sh, gc_h sh I J A)
  refine gv_run 1 true hD (pcₚ := 1) (lvₚ := [(0, .inr (.inr (some 0))), (1, .inl a1), (2, .inl a2)]) (stₚ := [.inl a2]) (hₚ := gc_h sh I J A) (C := (True ∧ True)) rfl ⟨trivial, trivial⟩ ?_
  refine gv_if_lt (t := 9) hD rfl rfl ⟨by omega, by omega⟩ (fun c => ?_) (fun c => ?_)
  · skip
    show gv_X _ _ (9, [(0, .inr (.inr (some 0))), (1, .inl a1), (2, .inl a2)], [], sh, gc_h sh I J A)
    exact gv_end (Or.inl ⟨hd5, gt_sI hD rfl rfl rfl rfl rfl (tx := "no such what") (by decide +kernel), Nat.le_of_ble_eq_true rfl, rfl, rfl, rfl, rfl⟩)
  · skip
    show gv_X _ _ (4, [(0, .inr (.inr (some 0))), (1, .inl a1), (2, .inl a2)], [], sh, gc_h sh I J A)
    refine gv_run 2 true hD (pcₚ := 6) (lvₚ := [(0, .inr (.inr (some 0))), (1, .inl a1), (2, .inl a2)]) (stₚ := [.inl 5, .inl a2]) (hₚ := gc_h sh I J A) (C := ((True ∧ True) ∧ True)) rfl ⟨⟨trivial, trivial⟩, trivial⟩ ?_
    refine gv_icmp_le (t := 19) hD rfl rfl ⟨⟨by omega, by omega⟩, ⟨by omega, by omega⟩⟩ (fun c => ?_) (fun c => ?_)
    · skip
      exfalso; omega
    · skip
      show gv_X _ _ (9, [(0, .inr (.inr (some 0))), (1, .inl a1), (2, .inl a2)], [], sh, gc_h sh I J A)
      exact gv_end (Or.inl ⟨hd5, gt_sI hD rfl rfl rfl rfl rfl (tx := "no such what") (by decide +kernel), Nat.le_of_ble_eq_true rfl, rfl, rfl, rfl, rfl⟩)
set_option maxHeartbeats 2000000 in
set_option maxRecDepth 100000 in
theorem ht_analysis_w {ws0 : List Cond} {tb : String → gz_T} (hws : gc_Ws ws0) (htb : gc_tbs tb) {sh : gz_Sh} {ro : Nat → Nat} {I : gr_I} {J : gr_J} {A : gc_A} (hs : gh_HS sh ro I J A) (a1 : Int) (a2 : Int) (ra1 : (-2147483648) ≤ a1 ∧ a1 ≤ 2147483647) (ra2 : (-2147483648) ≤ a2 ∧ a2 ≤ 2147483647) (h1 : a2 < 0 ∨ 11 < a2) : gt_Th ws0 tb 100 (yX12_analysis, cX12_analysis, 3, (some .int)) [.inr (.inr (some 0)), .inl a1, .inl a2] sh (gc_h sh I J A) px_IAE sh (gc_h sh I J A) 1 6 := by
  have hb := hs.1
  have hI := hs.2.1
  have hd5 : 5 ≤ 99 := by decide
  have hD : gv_D (gc_E12 ws0 tb 99 (yX12_analysis, cX12_analysis, 3, (some .int)) kX12_analysis) := gq_of oX12_analysis
  refine gt_ev12 (l := kX12_analysis) htb rfl (Nat.le_of_ble_eq_true rfl) ?_
  show gv_X _ _ (0, [(0, .inr (.inr (some 0))), (1, .inl a1), (2, .inl a2)], [], sh, gc_h sh I J A)
  refine gv_run 1 true hD (pcₚ := 1) (lvₚ := [(0, .inr (.inr (some 0))), (1, .inl a1), (2, .inl a2)]) (stₚ := [.inl a2]) (hₚ := gc_h sh I J A) (C := (True ∧ True)) rfl ⟨trivial, trivial⟩ ?_
  refine gv_if_lt (t := 10) hD rfl rfl ⟨by omega, by omega⟩ (fun c => ?_) (fun c => ?_)
  · skip
    show gv_X _ _ (10, [(0, .inr (.inr (some 0))), (1, .inl a1), (2, .inl a2)], [], sh, gc_h sh I J A)
    exact gv_end (Or.inl ⟨hd5, gt_sI hD rfl rfl rfl rfl rfl (tx := "no such what") (by decide +kernel), Nat.le_of_ble_eq_true rfl, rfl, rfl, rfl, rfl⟩)
  · skip
    show gv_X _ _ (4, [(0, .inr (.inr (some 0))), (1, .inl a1), (2, .inl a2)], [], sh, gc_h sh I J A)
    refine gv_run 2 true hD (pcₚ := 7) (lvₚ := [(0, .inr (.inr (some 0))), (1, .inl a1), (2, .inl a2)]) (stₚ := [.inl 11, .inl a2]) (hₚ := gc_h sh I J A) (C := ((True ∧ True) ∧ True)) rfl ⟨⟨trivial, trivial⟩, trivial⟩ ?_
    refine gv_icmp_le (t := 20) hD rfl rfl ⟨⟨by omega, by omega⟩, ⟨by omega, by omega⟩⟩ (fun c => ?_) (fun c => ?_)
    · skip
      exfalso; omega
    · skip
      show gv_X _ _ (10, [(0, .inr (.inr (some 0))), (1, .inl a1), (2, .inl a2)], [], sh, gc_h sh I J A)
      exact gv_end (Or.inl ⟨hd5, gt_sI hD rfl rfl rfl rfl rfl (tx := "no such what") (by decide +kernel), Nat.le_of_ble_eq_true rfl, rfl, rfl, rfl, rfl⟩)
set_option maxHeartbeats 2000000 in
set_option maxRecDepth 100000 in
theorem ht_guessed_w {ws0 : List Cond} {tb : String → gz_T} (hws : gc_Ws ws0) (htb : gc_tbs tb) {sh : gz_Sh} {ro : Nat → Nat} {I : gr_I} {J : gr_J} {A : gc_A} (hs : gh_HS sh ro I J A) (a1 : Int) (a2 : Int) (ra1 : (-2147483648) ≤ a1 ∧ a1 ≤ 2147483647) (ra2 : (-2147483648) ≤ a2 ∧ a2 ≤ 2147483647) (h1 : a2 < 0 ∨ 3 < a2) : gt_Th ws0 tb 100 (yX12_guessed, cX12_guessed, 3, (some .int)) [.inr (.inr (some 0)), .inl a1, .inl a2] sh (gc_h sh I J A) px_IAE sh (gc_h sh I J A) 1 6 := by
  have hb := hs.1
  have hI := hs.2.1
  have hd5 : 5 ≤ 99 := by decide
  have hD : gv_D (gc_E12 ws0 tb 99 (yX12_guessed, cX12_guessed, 3, (some .int)) kX12_guessed) := gq_of oX12_guessed
  refine gt_ev12 (l := kX12_guessed) htb rfl (Nat.le_of_ble_eq_true rfl) ?_
  show gv_X _ _ (0, [(0, .inr (.inr (some 0))), (1, .inl a1), (2, .inl a2)], [], sh, gc_h sh I J A)
  refine gv_run 1 true hD (pcₚ := 1) (lvₚ := [(0, .inr (.inr (some 0))), (1, .inl a1), (2, .inl a2)]) (stₚ := [.inl a2]) (hₚ := gc_h sh I J A) (C := (True ∧ True)) rfl ⟨trivial, trivial⟩ ?_
  refine gv_if_lt (t := 9) hD rfl rfl ⟨by omega, by omega⟩ (fun c => ?_) (fun c => ?_)
  · skip
    show gv_X _ _ (9, [(0, .inr (.inr (some 0))), (1, .inl a1), (2, .inl a2)], [], sh, gc_h sh I J A)
    exact gv_end (Or.inl ⟨hd5, gt_sI hD rfl rfl rfl rfl rfl (tx := "no such what") (by decide +kernel), Nat.le_of_ble_eq_true rfl, rfl, rfl, rfl, rfl⟩)
  · skip
    show gv_X _ _ (4, [(0, .inr (.inr (some 0))), (1, .inl a1), (2, .inl a2)], [], sh, gc_h sh I J A)
    refine gv_run 2 true hD (pcₚ := 6) (lvₚ := [(0, .inr (.inr (some 0))), (1, .inl a1), (2, .inl a2)]) (stₚ := [.inl 3, .inl a2]) (hₚ := gc_h sh I J A) (C := ((True ∧ True) ∧ True)) rfl ⟨⟨trivial, trivial⟩, trivial⟩ ?_
    refine gv_icmp_le (t := 19) hD rfl rfl ⟨⟨by omega, by omega⟩, ⟨by omega, by omega⟩⟩ (fun c => ?_) (fun c => ?_)
    · skip
      exfalso; omega
    · skip
      show gv_X _ _ (9, [(0, .inr (.inr (some 0))), (1, .inl a1), (2, .inl a2)], [], sh, gc_h sh I J A)
      exact gv_end (Or.inl ⟨hd5, gt_sI hD rfl rfl rfl rfl rfl (tx := "no such what") (by decide +kernel), Nat.le_of_ble_eq_true rfl, rfl, rfl, rfl, rfl⟩)
set_option maxHeartbeats 2000000 in
set_option maxRecDepth 100000 in
theorem ht_hit_w {ws0 : List Cond} {tb : String → gz_T} (hws : gc_Ws ws0) (htb : gc_tbs tb) {sh : gz_Sh} {ro : Nat → Nat} {I : gr_I} {J : gr_J} {A : gc_A} (hs : gh_HS sh ro I J A) (a1 : Int) (a2 : Int) (ra1 : (-2147483648) ≤ a1 ∧ a1 ≤ 2147483647) (ra2 : (-2147483648) ≤ a2 ∧ a2 ≤ 2147483647) (h1 : a2 < 0 ∨ 1 < a2) : gt_Th ws0 tb 100 (yX12_hit, cX12_hit, 3, (some .int)) [.inr (.inr (some 0)), .inl a1, .inl a2] sh (gc_h sh I J A) px_IAE sh (gc_h sh I J A) 1 6 := by
  have hb := hs.1
  have hI := hs.2.1
  have hd5 : 5 ≤ 99 := by decide
  have hD : gv_D (gc_E12 ws0 tb 99 (yX12_hit, cX12_hit, 3, (some .int)) kX12_hit) := gq_of oX12_hit
  refine gt_ev12 (l := kX12_hit) htb rfl (Nat.le_of_ble_eq_true rfl) ?_
  show gv_X _ _ (0, [(0, .inr (.inr (some 0))), (1, .inl a1), (2, .inl a2)], [], sh, gc_h sh I J A)
  refine gv_run 1 true hD (pcₚ := 1) (lvₚ := [(0, .inr (.inr (some 0))), (1, .inl a1), (2, .inl a2)]) (stₚ := [.inl a2]) (hₚ := gc_h sh I J A) (C := (True ∧ True)) rfl ⟨trivial, trivial⟩ ?_
  refine gv_if_lt (t := 9) hD rfl rfl ⟨by omega, by omega⟩ (fun c => ?_) (fun c => ?_)
  · skip
    show gv_X _ _ (9, [(0, .inr (.inr (some 0))), (1, .inl a1), (2, .inl a2)], [], sh, gc_h sh I J A)
    exact gv_end (Or.inl ⟨hd5, gt_sI hD rfl rfl rfl rfl rfl (tx := "no such what") (by decide +kernel), Nat.le_of_ble_eq_true rfl, rfl, rfl, rfl, rfl⟩)
  · skip
    show gv_X _ _ (4, [(0, .inr (.inr (some 0))), (1, .inl a1), (2, .inl a2)], [], sh, gc_h sh I J A)
    refine gv_run 2 true hD (pcₚ := 6) (lvₚ := [(0, .inr (.inr (some 0))), (1, .inl a1), (2, .inl a2)]) (stₚ := [.inl 1, .inl a2]) (hₚ := gc_h sh I J A) (C := ((True ∧ True) ∧ True)) rfl ⟨⟨trivial, trivial⟩, trivial⟩ ?_
    refine gv_icmp_le (t := 19) hD rfl rfl ⟨⟨by omega, by omega⟩, ⟨by omega, by omega⟩⟩ (fun c => ?_) (fun c => ?_)
    · skip
      exfalso; omega
    · skip
      show gv_X _ _ (9, [(0, .inr (.inr (some 0))), (1, .inl a1), (2, .inl a2)], [], sh, gc_h sh I J A)
      exact gv_end (Or.inl ⟨hd5, gt_sI hD rfl rfl rfl rfl rfl (tx := "no such what") (by decide +kernel), Nat.le_of_ble_eq_true rfl, rfl, rfl, rfl, rfl⟩)
set_option maxHeartbeats 2000000 in
set_option maxRecDepth 100000 in
theorem ht_count_w {ws0 : List Cond} {tb : String → gz_T} (hws : gc_Ws ws0) (htb : gc_tbs tb) {sh : gz_Sh} {ro : Nat → Nat} {I : gr_I} {J : gr_J} {A : gc_A} (hs : gh_HS sh ro I J A) (a1 : Int) (a2 : Int) (ra1 : (-2147483648) ≤ a1 ∧ a1 ≤ 2147483647) (ra2 : (-2147483648) ≤ a2 ∧ a2 ≤ 2147483647) (h1 : a2 < 0 ∨ 14 < a2) : gt_Th ws0 tb 100 (yX12_count, cX12_count, 3, (some .int)) [.inr (.inr (some 0)), .inl a1, .inl a2] sh (gc_h sh I J A) px_IAE sh (gc_h sh I J A) 1 6 := by
  have hb := hs.1
  have hI := hs.2.1
  have hd5 : 5 ≤ 99 := by decide
  have hD : gv_D (gc_E12 ws0 tb 99 (yX12_count, cX12_count, 3, (some .int)) kX12_count) := gq_of oX12_count
  refine gt_ev12 (l := kX12_count) htb rfl (Nat.le_of_ble_eq_true rfl) ?_
  show gv_X _ _ (0, [(0, .inr (.inr (some 0))), (1, .inl a1), (2, .inl a2)], [], sh, gc_h sh I J A)
  refine gv_run 1 true hD (pcₚ := 1) (lvₚ := [(0, .inr (.inr (some 0))), (1, .inl a1), (2, .inl a2)]) (stₚ := [.inl a2]) (hₚ := gc_h sh I J A) (C := (True ∧ True)) rfl ⟨trivial, trivial⟩ ?_
  refine gv_if_lt (t := 10) hD rfl rfl ⟨by omega, by omega⟩ (fun c => ?_) (fun c => ?_)
  · skip
    show gv_X _ _ (10, [(0, .inr (.inr (some 0))), (1, .inl a1), (2, .inl a2)], [], sh, gc_h sh I J A)
    exact gv_end (Or.inl ⟨hd5, gt_sI hD rfl rfl rfl rfl rfl (tx := "no such what") (by decide +kernel), Nat.le_of_ble_eq_true rfl, rfl, rfl, rfl, rfl⟩)
  · skip
    show gv_X _ _ (4, [(0, .inr (.inr (some 0))), (1, .inl a1), (2, .inl a2)], [], sh, gc_h sh I J A)
    refine gv_run 2 true hD (pcₚ := 7) (lvₚ := [(0, .inr (.inr (some 0))), (1, .inl a1), (2, .inl a2)]) (stₚ := [.inl 14, .inl a2]) (hₚ := gc_h sh I J A) (C := ((True ∧ True) ∧ True)) rfl ⟨⟨trivial, trivial⟩, trivial⟩ ?_
    refine gv_icmp_le (t := 20) hD rfl rfl ⟨⟨by omega, by omega⟩, ⟨by omega, by omega⟩⟩ (fun c => ?_) (fun c => ?_)
    · skip
      exfalso; omega
    · skip
      show gv_X _ _ (10, [(0, .inr (.inr (some 0))), (1, .inl a1), (2, .inl a2)], [], sh, gc_h sh I J A)
      exact gv_end (Or.inl ⟨hd5, gt_sI hD rfl rfl rfl rfl rfl (tx := "no such what") (by decide +kernel), Nat.le_of_ble_eq_true rfl, rfl, rfl, rfl, rfl⟩)
set_option maxHeartbeats 2000000 in
set_option maxRecDepth 100000 in
theorem ht_sounds_t {ws0 : List Cond} {tb : String → gz_T} (hws : gc_Ws ws0) (htb : gc_tbs tb) {sh : gz_Sh} {ro : Nat → Nat} {I : gr_I} {J : gr_J} {A : gc_A} (hs : gh_HS sh ro I J A) (a1 : Int) (ra1 : (-2147483648) ≤ a1 ∧ a1 ≤ 2147483647) (h1 : a1 < 0 ∨ I 8 1 ≤ a1) : gt_Th ws0 tb 100 (yX12_sounds, cX12_sounds, 4, (some .int)) [.inr (.inr (some 0)), .inl a1] sh (gc_h sh I J A) px_IAE sh (gc_h sh I J A) 1 6 := by
  have hb := hs.1
  have hI := hs.2.1
  have hd5 : 5 ≤ 99 := by decide
  have S0 : sh[0]? = some (false, 12, 17) := gc_bS_0 hb
  have hD : gv_D (gc_E12 ws0 tb 99 (yX12_sounds, cX12_sounds, 4, (some .int)) kX12_sounds) := gq_of oX12_sounds
  refine gt_ev12 (l := kX12_sounds) htb rfl (Nat.le_of_ble_eq_true rfl) ?_
  show gv_X _ _ (0, [(0, .inr (.inr (some 0))), (1, .inl a1)], [], sh, gc_h sh I J A)
  refine gv_run 2 true hD (pcₚ := 2) (lvₚ := [(0, .inr (.inr (some 0))), (1, .inl a1)]) (stₚ := [.inl a1, .inr (.inr (some 0))]) (hₚ := gc_h sh I J A) (C := ((True ∧ True) ∧ True)) rfl ⟨⟨trivial, trivial⟩, trivial⟩ ?_
  show gv_X _ _ (2, [(0, .inr (.inr (some 0))), (1, .inl a1)], [.inl a1, .inr (.inr (some 0))], sh, gc_h sh I J A)
  exact gv_end (Or.inr (Or.inl ⟨155, (yX12_tongueAt, cX12_tongueAt, 2, (some (.object "TongueHouse$Tongue"))), [.inl a1], 0, [], 12, 17, _, _, hD _ _ rfl, rfl, by decide, S0, rfl, gc_lV12 hws rfl, Nat.le_of_ble_eq_true rfl, ht_tongueAt hws htb hb hI a1 (by omega) (by omega) h1⟩))
set_option maxHeartbeats 2000000 in
set_option maxRecDepth 100000 in
theorem ht_analyse_t {ws0 : List Cond} {tb : String → gz_T} (hws : gc_Ws ws0) (htb : gc_tbs tb) {sh : gz_Sh} {ro : Nat → Nat} {I : gr_I} {J : gr_J} {A : gc_A} (hs : gh_HS sh ro I J A) (a1 : Int) (ra1 : (-2147483648) ≤ a1 ∧ a1 ≤ 2147483647) (h1 : a1 < 0 ∨ I 8 1 ≤ a1) : gt_Th ws0 tb 100 (yX12_analyse, cX12_analyse, 4, (some .int)) [.inr (.inr (some 0)), .inl a1] sh (gc_h sh I J A) px_IAE sh (gc_h sh I J A) 1 6 := by
  have hb := hs.1
  have hI := hs.2.1
  have hd5 : 5 ≤ 99 := by decide
  have S0 : sh[0]? = some (false, 12, 17) := gc_bS_0 hb
  have hD : gv_D (gc_E12 ws0 tb 99 (yX12_analyse, cX12_analyse, 4, (some .int)) kX12_analyse) := gq_of oX12_analyse
  refine gt_ev12 (l := kX12_analyse) htb rfl (Nat.le_of_ble_eq_true rfl) ?_
  show gv_X _ _ (0, [(0, .inr (.inr (some 0))), (1, .inl a1)], [], sh, gc_h sh I J A)
  refine gv_run 2 true hD (pcₚ := 2) (lvₚ := [(0, .inr (.inr (some 0))), (1, .inl a1)]) (stₚ := [.inl a1, .inr (.inr (some 0))]) (hₚ := gc_h sh I J A) (C := ((True ∧ True) ∧ True)) rfl ⟨⟨trivial, trivial⟩, trivial⟩ ?_
  show gv_X _ _ (2, [(0, .inr (.inr (some 0))), (1, .inl a1)], [.inl a1, .inr (.inr (some 0))], sh, gc_h sh I J A)
  exact gv_end (Or.inr (Or.inl ⟨155, (yX12_tongueAt, cX12_tongueAt, 2, (some (.object "TongueHouse$Tongue"))), [.inl a1], 0, [], 12, 17, _, _, hD _ _ rfl, rfl, by decide, S0, rfl, gc_lV12 hws rfl, Nat.le_of_ble_eq_true rfl, ht_tongueAt hws htb hb hI a1 (by omega) (by omega) h1⟩))
set_option maxHeartbeats 2000000 in
set_option maxRecDepth 100000 in
theorem ht_guess_t {ws0 : List Cond} {tb : String → gz_T} (hws : gc_Ws ws0) (htb : gc_tbs tb) {sh : gz_Sh} {ro : Nat → Nat} {I : gr_I} {J : gr_J} {A : gc_A} (hs : gh_HS sh ro I J A) (a1 : Int) (ra1 : (-2147483648) ≤ a1 ∧ a1 ≤ 2147483647) (h1 : a1 < 0 ∨ I 8 1 ≤ a1) : gt_Th ws0 tb 100 (yX12_guess, cX12_guess, 4, (some .int)) [.inr (.inr (some 0)), .inl a1] sh (gc_h sh I J A) px_IAE sh (gc_h sh I J A) 1 6 := by
  have hb := hs.1
  have hI := hs.2.1
  have hd5 : 5 ≤ 99 := by decide
  have S0 : sh[0]? = some (false, 12, 17) := gc_bS_0 hb
  have hD : gv_D (gc_E12 ws0 tb 99 (yX12_guess, cX12_guess, 4, (some .int)) kX12_guess) := gq_of oX12_guess
  refine gt_ev12 (l := kX12_guess) htb rfl (Nat.le_of_ble_eq_true rfl) ?_
  show gv_X _ _ (0, [(0, .inr (.inr (some 0))), (1, .inl a1)], [], sh, gc_h sh I J A)
  refine gv_run 2 true hD (pcₚ := 2) (lvₚ := [(0, .inr (.inr (some 0))), (1, .inl a1)]) (stₚ := [.inl a1, .inr (.inr (some 0))]) (hₚ := gc_h sh I J A) (C := ((True ∧ True) ∧ True)) rfl ⟨⟨trivial, trivial⟩, trivial⟩ ?_
  show gv_X _ _ (2, [(0, .inr (.inr (some 0))), (1, .inl a1)], [.inl a1, .inr (.inr (some 0))], sh, gc_h sh I J A)
  exact gv_end (Or.inr (Or.inl ⟨155, (yX12_tongueAt, cX12_tongueAt, 2, (some (.object "TongueHouse$Tongue"))), [.inl a1], 0, [], 12, 17, _, _, hD _ _ rfl, rfl, by decide, S0, rfl, gc_lV12 hws rfl, Nat.le_of_ble_eq_true rfl, ht_tongueAt hws htb hb hI a1 (by omega) (by omega) h1⟩))
set_option maxHeartbeats 2000000 in
set_option maxRecDepth 100000 in
theorem ht_parse_t {ws0 : List Cond} {tb : String → gz_T} (hws : gc_Ws ws0) (htb : gc_tbs tb) {sh : gz_Sh} {ro : Nat → Nat} {I : gr_I} {J : gr_J} {A : gc_A} (hs : gh_HS sh ro I J A) (a1 : Int) (a2 : Int) (ra1 : (-2147483648) ≤ a1 ∧ a1 ≤ 2147483647) (ra2 : (-2147483648) ≤ a2 ∧ a2 ≤ 2147483647) (h1 : a1 < 0 ∨ I 8 1 ≤ a1) : gt_Th ws0 tb 100 (yX12_parse, cX12_parse, 5, (some .int)) [.inr (.inr (some 0)), .inl a1, .inl a2] sh (gc_h sh I J A) px_IAE sh (gc_h sh I J A) 1 6 := by
  have hb := hs.1
  have hI := hs.2.1
  have hd5 : 5 ≤ 99 := by decide
  have S0 : sh[0]? = some (false, 12, 17) := gc_bS_0 hb
  have hD : gv_D (gc_E12 ws0 tb 99 (yX12_parse, cX12_parse, 5, (some .int)) kX12_parse) := gq_of oX12_parse
  refine gt_ev12 (l := kX12_parse) htb rfl (Nat.le_of_ble_eq_true rfl) ?_
  show gv_X _ _ (0, [(0, .inr (.inr (some 0))), (1, .inl a1), (2, .inl a2)], [], sh, gc_h sh I J A)
  refine gv_run 2 true hD (pcₚ := 2) (lvₚ := [(0, .inr (.inr (some 0))), (1, .inl a1), (2, .inl a2)]) (stₚ := [.inl a1, .inr (.inr (some 0))]) (hₚ := gc_h sh I J A) (C := ((True ∧ True) ∧ True)) rfl ⟨⟨trivial, trivial⟩, trivial⟩ ?_
  show gv_X _ _ (2, [(0, .inr (.inr (some 0))), (1, .inl a1), (2, .inl a2)], [.inl a1, .inr (.inr (some 0))], sh, gc_h sh I J A)
  exact gv_end (Or.inr (Or.inl ⟨155, (yX12_tongueAt, cX12_tongueAt, 2, (some (.object "TongueHouse$Tongue"))), [.inl a1], 0, [], 12, 17, _, _, hD _ _ rfl, rfl, by decide, S0, rfl, gc_lV12 hws rfl, Nat.le_of_ble_eq_true rfl, ht_tongueAt hws htb hb hI a1 (by omega) (by omega) h1⟩))
set_option maxHeartbeats 2000000 in
set_option maxRecDepth 100000 in
theorem ht_cell_t {ws0 : List Cond} {tb : String → gz_T} (hws : gc_Ws ws0) (htb : gc_tbs tb) {sh : gz_Sh} {ro : Nat → Nat} {I : gr_I} {J : gr_J} {A : gc_A} (hs : gh_HS sh ro I J A) (a1 : Int) (a2 : Int) (a3 : Int) (ra1 : (-2147483648) ≤ a1 ∧ a1 ≤ 2147483647) (ra2 : (-2147483648) ≤ a2 ∧ a2 ≤ 2147483647) (ra3 : (-2147483648) ≤ a3 ∧ a3 ≤ 2147483647) (h1 : a1 < 0 ∨ I 8 1 ≤ a1) : gt_Th ws0 tb 100 (yX12_cell, cX12_cell, 7, (some .int)) [.inr (.inr (some 0)), .inl a1, .inl a2, .inl a3] sh (gc_h sh I J A) px_IAE sh (gc_h sh I J A) 1 6 := by
  have hb := hs.1
  have hI := hs.2.1
  have hd5 : 5 ≤ 99 := by decide
  have S0 : sh[0]? = some (false, 12, 17) := gc_bS_0 hb
  have hD : gv_D (gc_E12 ws0 tb 99 (yX12_cell, cX12_cell, 7, (some .int)) kX12_cell) := gq_of oX12_cell
  refine gt_ev12 (l := kX12_cell) htb rfl (Nat.le_of_ble_eq_true rfl) ?_
  show gv_X _ _ (0, [(0, .inr (.inr (some 0))), (1, .inl a1), (2, .inl a2), (3, .inl a3)], [], sh, gc_h sh I J A)
  refine gv_run 2 true hD (pcₚ := 2) (lvₚ := [(0, .inr (.inr (some 0))), (1, .inl a1), (2, .inl a2), (3, .inl a3)]) (stₚ := [.inl a1, .inr (.inr (some 0))]) (hₚ := gc_h sh I J A) (C := ((True ∧ True) ∧ True)) rfl ⟨⟨trivial, trivial⟩, trivial⟩ ?_
  show gv_X _ _ (2, [(0, .inr (.inr (some 0))), (1, .inl a1), (2, .inl a2), (3, .inl a3)], [.inl a1, .inr (.inr (some 0))], sh, gc_h sh I J A)
  exact gv_end (Or.inr (Or.inl ⟨155, (yX12_tongueAt, cX12_tongueAt, 2, (some (.object "TongueHouse$Tongue"))), [.inl a1], 0, [], 12, 17, _, _, hD _ _ rfl, rfl, by decide, S0, rfl, gc_lV12 hws rfl, Nat.le_of_ble_eq_true rfl, ht_tongueAt hws htb hb hI a1 (by omega) (by omega) h1⟩))
set_option maxHeartbeats 2000000 in
set_option maxRecDepth 100000 in
theorem ht_say_t {ws0 : List Cond} {tb : String → gz_T} (hws : gc_Ws ws0) (htb : gc_tbs tb) {sh : gz_Sh} {ro : Nat → Nat} {I : gr_I} {J : gr_J} {A : gc_A} (hs : gh_HS sh ro I J A) (a1 : Int) (a2 : Int) (a3 : Int) (ra1 : (-2147483648) ≤ a1 ∧ a1 ≤ 2147483647) (ra2 : (-2147483648) ≤ a2 ∧ a2 ≤ 2147483647) (ra3 : (-2147483648) ≤ a3 ∧ a3 ≤ 2147483647) (h1 : a1 < 0 ∨ I 8 1 ≤ a1) : gt_Th ws0 tb 100 (yX12_say, cX12_say, 5, (some .int)) [.inr (.inr (some 0)), .inl a1, .inl a2, .inl a3] sh (gc_h sh I J A) px_IAE sh (gc_h sh I J A) 1 6 := by
  have hb := hs.1
  have hI := hs.2.1
  have hd5 : 5 ≤ 99 := by decide
  have S0 : sh[0]? = some (false, 12, 17) := gc_bS_0 hb
  have hD : gv_D (gc_E12 ws0 tb 99 (yX12_say, cX12_say, 5, (some .int)) kX12_say) := gq_of oX12_say
  refine gt_ev12 (l := kX12_say) htb rfl (Nat.le_of_ble_eq_true rfl) ?_
  show gv_X _ _ (0, [(0, .inr (.inr (some 0))), (1, .inl a1), (2, .inl a2), (3, .inl a3)], [], sh, gc_h sh I J A)
  refine gv_run 2 true hD (pcₚ := 2) (lvₚ := [(0, .inr (.inr (some 0))), (1, .inl a1), (2, .inl a2), (3, .inl a3)]) (stₚ := [.inl a1, .inr (.inr (some 0))]) (hₚ := gc_h sh I J A) (C := ((True ∧ True) ∧ True)) rfl ⟨⟨trivial, trivial⟩, trivial⟩ ?_
  show gv_X _ _ (2, [(0, .inr (.inr (some 0))), (1, .inl a1), (2, .inl a2), (3, .inl a3)], [.inl a1, .inr (.inr (some 0))], sh, gc_h sh I J A)
  exact gv_end (Or.inr (Or.inl ⟨155, (yX12_tongueAt, cX12_tongueAt, 2, (some (.object "TongueHouse$Tongue"))), [.inl a1], 0, [], 12, 17, _, _, hD _ _ rfl, rfl, by decide, S0, rfl, gc_lV12 hws rfl, Nat.le_of_ble_eq_true rfl, ht_tongueAt hws htb hb hI a1 (by omega) (by omega) h1⟩))
set_option maxHeartbeats 2000000 in
set_option maxRecDepth 100000 in
theorem ht_swap_t {ws0 : List Cond} {tb : String → gz_T} (hws : gc_Ws ws0) (htb : gc_tbs tb) {sh : gz_Sh} {ro : Nat → Nat} {I : gr_I} {J : gr_J} {A : gc_A} (hs : gh_HS sh ro I J A) (a1 : Int) (a2 : Int) (a3 : Int) (ra1 : (-2147483648) ≤ a1 ∧ a1 ≤ 2147483647) (ra2 : (-2147483648) ≤ a2 ∧ a2 ≤ 2147483647) (ra3 : (-2147483648) ≤ a3 ∧ a3 ≤ 2147483647) (h1 : a1 < 0 ∨ I 8 1 ≤ a1) : gt_Th ws0 tb 100 (yX12_swap, cX12_swap, 9, (some .int)) [.inr (.inr (some 0)), .inl a1, .inl a2, .inl a3] sh (gc_h sh I J A) px_IAE sh (gc_h sh I J A) 1 6 := by
  have hb := hs.1
  have hI := hs.2.1
  have hd5 : 5 ≤ 99 := by decide
  have S0 : sh[0]? = some (false, 12, 17) := gc_bS_0 hb
  have hD : gv_D (gc_E12 ws0 tb 99 (yX12_swap, cX12_swap, 9, (some .int)) kX12_swap) := gq_of oX12_swap
  refine gt_ev12 (l := kX12_swap) htb rfl (Nat.le_of_ble_eq_true rfl) ?_
  show gv_X _ _ (0, [(0, .inr (.inr (some 0))), (1, .inl a1), (2, .inl a2), (3, .inl a3)], [], sh, gc_h sh I J A)
  refine gv_run 2 true hD (pcₚ := 2) (lvₚ := [(0, .inr (.inr (some 0))), (1, .inl a1), (2, .inl a2), (3, .inl a3)]) (stₚ := [.inl a1, .inr (.inr (some 0))]) (hₚ := gc_h sh I J A) (C := ((True ∧ True) ∧ True)) rfl ⟨⟨trivial, trivial⟩, trivial⟩ ?_
  show gv_X _ _ (2, [(0, .inr (.inr (some 0))), (1, .inl a1), (2, .inl a2), (3, .inl a3)], [.inl a1, .inr (.inr (some 0))], sh, gc_h sh I J A)
  exact gv_end (Or.inr (Or.inl ⟨155, (yX12_tongueAt, cX12_tongueAt, 2, (some (.object "TongueHouse$Tongue"))), [.inl a1], 0, [], 12, 17, _, _, hD _ _ rfl, rfl, by decide, S0, rfl, gc_lV12 hws rfl, Nat.le_of_ble_eq_true rfl, ht_tongueAt hws htb hb hI a1 (by omega) (by omega) h1⟩))
set_option maxHeartbeats 2000000 in
set_option maxRecDepth 100000 in
theorem ht_add_t {ws0 : List Cond} {tb : String → gz_T} (hws : gc_Ws ws0) (htb : gc_tbs tb) {sh : gz_Sh} {ro : Nat → Nat} {I : gr_I} {J : gr_J} {A : gc_A} (hs : gh_HS sh ro I J A) (a1 : Int) (ra1 : (-2147483648) ≤ a1 ∧ a1 ≤ 2147483647) (h1 : a1 < 0 ∨ I 8 1 ≤ a1) : gt_Th ws0 tb 100 (yX12_add, cX12_add, 3, (some .int)) [.inr (.inr (some 0)), .inl a1] sh (gc_h sh I J A) px_IAE sh (gc_h sh I J A) 1 6 := by
  have hb := hs.1
  have hI := hs.2.1
  have hd5 : 5 ≤ 99 := by decide
  have S0 : sh[0]? = some (false, 12, 17) := gc_bS_0 hb
  have hD : gv_D (gc_E12 ws0 tb 99 (yX12_add, cX12_add, 3, (some .int)) kX12_add) := gq_of oX12_add
  refine gt_ev12 (l := kX12_add) htb rfl (Nat.le_of_ble_eq_true rfl) ?_
  show gv_X _ _ (0, [(0, .inr (.inr (some 0))), (1, .inl a1)], [], sh, gc_h sh I J A)
  refine gv_run 2 true hD (pcₚ := 2) (lvₚ := [(0, .inr (.inr (some 0))), (1, .inl a1)]) (stₚ := [.inl a1, .inr (.inr (some 0))]) (hₚ := gc_h sh I J A) (C := ((True ∧ True) ∧ True)) rfl ⟨⟨trivial, trivial⟩, trivial⟩ ?_
  show gv_X _ _ (2, [(0, .inr (.inr (some 0))), (1, .inl a1)], [.inl a1, .inr (.inr (some 0))], sh, gc_h sh I J A)
  exact gv_end (Or.inr (Or.inl ⟨155, (yX12_tongueAt, cX12_tongueAt, 2, (some (.object "TongueHouse$Tongue"))), [.inl a1], 0, [], 12, 17, _, _, hD _ _ rfl, rfl, by decide, S0, rfl, gc_lV12 hws rfl, Nat.le_of_ble_eq_true rfl, ht_tongueAt hws htb hb hI a1 (by omega) (by omega) h1⟩))
set_option maxHeartbeats 2000000 in
set_option maxRecDepth 100000 in
theorem ht_ask_t {ws0 : List Cond} {tb : String → gz_T} (hws : gc_Ws ws0) (htb : gc_tbs tb) {sh : gz_Sh} {ro : Nat → Nat} {I : gr_I} {J : gr_J} {A : gc_A} (hs : gh_HS sh ro I J A) (a1 : Int) (ra1 : (-2147483648) ≤ a1 ∧ a1 ≤ 2147483647) (h1 : a1 < 0 ∨ I 8 1 ≤ a1) : gt_Th ws0 tb 100 (yX12_ask, cX12_ask, 4, (some .int)) [.inr (.inr (some 0)), .inl a1] sh (gc_h sh I J A) px_IAE sh (gc_h sh I J A) 1 6 := by
  have hb := hs.1
  have hI := hs.2.1
  have hd5 : 5 ≤ 99 := by decide
  have S0 : sh[0]? = some (false, 12, 17) := gc_bS_0 hb
  have hD : gv_D (gc_E12 ws0 tb 99 (yX12_ask, cX12_ask, 4, (some .int)) kX12_ask) := gq_of oX12_ask
  refine gt_ev12 (l := kX12_ask) htb rfl (Nat.le_of_ble_eq_true rfl) ?_
  show gv_X _ _ (0, [(0, .inr (.inr (some 0))), (1, .inl a1)], [], sh, gc_h sh I J A)
  refine gv_run 2 true hD (pcₚ := 2) (lvₚ := [(0, .inr (.inr (some 0))), (1, .inl a1)]) (stₚ := [.inl a1, .inr (.inr (some 0))]) (hₚ := gc_h sh I J A) (C := ((True ∧ True) ∧ True)) rfl ⟨⟨trivial, trivial⟩, trivial⟩ ?_
  show gv_X _ _ (2, [(0, .inr (.inr (some 0))), (1, .inl a1)], [.inl a1, .inr (.inr (some 0))], sh, gc_h sh I J A)
  exact gv_end (Or.inr (Or.inl ⟨155, (yX12_tongueAt, cX12_tongueAt, 2, (some (.object "TongueHouse$Tongue"))), [.inl a1], 0, [], 12, 17, _, _, hD _ _ rfl, rfl, by decide, S0, rfl, gc_lV12 hws rfl, Nat.le_of_ble_eq_true rfl, ht_tongueAt hws htb hb hI a1 (by omega) (by omega) h1⟩))
set_option maxHeartbeats 2000000 in
set_option maxRecDepth 100000 in
theorem ht_mend_t {ws0 : List Cond} {tb : String → gz_T} (hws : gc_Ws ws0) (htb : gc_tbs tb) {sh : gz_Sh} {ro : Nat → Nat} {I : gr_I} {J : gr_J} {A : gc_A} (hs : gh_HS sh ro I J A) (a1 : Int) (a2 : Int) (ra1 : (-2147483648) ≤ a1 ∧ a1 ≤ 2147483647) (ra2 : (-2147483648) ≤ a2 ∧ a2 ≤ 2147483647) (h1 : a1 < 0 ∨ I 8 1 ≤ a1) : gt_Th ws0 tb 100 (yX12_mend, cX12_mend, 10, (some .int)) [.inr (.inr (some 0)), .inl a1, .inl a2] sh (gc_h sh I J A) px_IAE sh (gc_h sh I J A) 1 6 := by
  have hb := hs.1
  have hI := hs.2.1
  have hd5 : 5 ≤ 99 := by decide
  have S0 : sh[0]? = some (false, 12, 17) := gc_bS_0 hb
  have hD : gv_D (gc_E12 ws0 tb 99 (yX12_mend, cX12_mend, 10, (some .int)) kX12_mend) := gq_of oX12_mend
  refine gt_ev12 (l := kX12_mend) htb rfl (Nat.le_of_ble_eq_true rfl) ?_
  show gv_X _ _ (0, [(0, .inr (.inr (some 0))), (1, .inl a1), (2, .inl a2)], [], sh, gc_h sh I J A)
  refine gv_run 2 true hD (pcₚ := 2) (lvₚ := [(0, .inr (.inr (some 0))), (1, .inl a1), (2, .inl a2)]) (stₚ := [.inl a1, .inr (.inr (some 0))]) (hₚ := gc_h sh I J A) (C := ((True ∧ True) ∧ True)) rfl ⟨⟨trivial, trivial⟩, trivial⟩ ?_
  show gv_X _ _ (2, [(0, .inr (.inr (some 0))), (1, .inl a1), (2, .inl a2)], [.inl a1, .inr (.inr (some 0))], sh, gc_h sh I J A)
  exact gv_end (Or.inr (Or.inl ⟨155, (yX12_tongueAt, cX12_tongueAt, 2, (some (.object "TongueHouse$Tongue"))), [.inl a1], 0, [], 12, 17, _, _, hD _ _ rfl, rfl, by decide, S0, rfl, gc_lV12 hws rfl, Nat.le_of_ble_eq_true rfl, ht_tongueAt hws htb hb hI a1 (by omega) (by omega) h1⟩))
set_option maxHeartbeats 2000000 in
set_option maxRecDepth 100000 in
theorem ht_reading_p {ws0 : List Cond} {tb : String → gz_T} (hws : gc_Ws ws0) (htb : gc_tbs tb) {sh : gz_Sh} {ro : Nat → Nat} {I : gr_I} {J : gr_J} {A : gc_A} (hs : gh_HS sh ro I J A) (a1 : Int) (a2 : Int) (ra1 : (-2147483648) ≤ a1 ∧ a1 ≤ 2147483647) (ra2 : (-2147483648) ≤ a2 ∧ a2 ≤ 2147483647) (h1 : a2 < 0 ∨ 8 ≤ a2) : gt_Th ws0 tb 100 (yX12_reading, cX12_reading, 4, (some .int)) [.inr (.inr (some 0)), .inl a1, .inl a2] sh (gc_h sh I J A) px_IAE sh (gc_h sh I J A) 1 6 := by
  have hb := hs.1
  have hI := hs.2.1
  have hd5 : 5 ≤ 99 := by decide
  have hD : gv_D (gc_E12 ws0 tb 99 (yX12_reading, cX12_reading, 4, (some .int)) kX12_reading) := gq_of oX12_reading
  refine gt_ev12 (l := kX12_reading) htb rfl (Nat.le_of_ble_eq_true rfl) ?_
  show gv_X _ _ (0, [(0, .inr (.inr (some 0))), (1, .inl a1), (2, .inl a2)], [], sh, gc_h sh I J A)
  refine gv_run 1 true hD (pcₚ := 1) (lvₚ := [(0, .inr (.inr (some 0))), (1, .inl a1), (2, .inl a2)]) (stₚ := [.inl a2]) (hₚ := gc_h sh I J A) (C := (True ∧ True)) rfl ⟨trivial, trivial⟩ ?_
  show gv_X _ _ (1, [(0, .inr (.inr (some 0))), (1, .inl a1), (2, .inl a2)], [.inl a2], sh, gc_h sh I J A)
  exact gv_end (Or.inr (Or.inr ⟨249, (yX12_checkPlace, cX12_checkPlace, 1, none), [.inl a2], [], hD _ _ rfl, rfl, gc_lS12 hws rfl, Nat.le_of_ble_eq_true rfl, ht_checkPlace hws htb hb hI a2 (by omega) (by omega) h1⟩))
set_option maxHeartbeats 2000000 in
set_option maxRecDepth 100000 in
theorem ht_tree_p {ws0 : List Cond} {tb : String → gz_T} (hws : gc_Ws ws0) (htb : gc_tbs tb) {sh : gz_Sh} {ro : Nat → Nat} {I : gr_I} {J : gr_J} {A : gc_A} (hs : gh_HS sh ro I J A) (a1 : Int) (ra1 : (-2147483648) ≤ a1 ∧ a1 ≤ 2147483647) (h1 : a1 < 0 ∨ 8 ≤ a1) : gt_Th ws0 tb 100 (yX12_tree, cX12_tree, 3, (some .int)) [.inr (.inr (some 0)), .inl a1] sh (gc_h sh I J A) px_IAE sh (gc_h sh I J A) 1 6 := by
  have hb := hs.1
  have hI := hs.2.1
  have hd5 : 5 ≤ 99 := by decide
  have hD : gv_D (gc_E12 ws0 tb 99 (yX12_tree, cX12_tree, 3, (some .int)) kX12_tree) := gq_of oX12_tree
  refine gt_ev12 (l := kX12_tree) htb rfl (Nat.le_of_ble_eq_true rfl) ?_
  show gv_X _ _ (0, [(0, .inr (.inr (some 0))), (1, .inl a1)], [], sh, gc_h sh I J A)
  refine gv_run 1 true hD (pcₚ := 1) (lvₚ := [(0, .inr (.inr (some 0))), (1, .inl a1)]) (stₚ := [.inl a1]) (hₚ := gc_h sh I J A) (C := (True ∧ True)) rfl ⟨trivial, trivial⟩ ?_
  show gv_X _ _ (1, [(0, .inr (.inr (some 0))), (1, .inl a1)], [.inl a1], sh, gc_h sh I J A)
  exact gv_end (Or.inr (Or.inr ⟨249, (yX12_checkPlace, cX12_checkPlace, 1, none), [.inl a1], [], hD _ _ rfl, rfl, gc_lS12 hws rfl, Nat.le_of_ble_eq_true rfl, ht_checkPlace hws htb hb hI a1 (by omega) (by omega) h1⟩))
set_option maxHeartbeats 2000000 in
set_option maxRecDepth 100000 in
theorem ht_show_p {ws0 : List Cond} {tb : String → gz_T} (hws : gc_Ws ws0) (htb : gc_tbs tb) {sh : gz_Sh} {ro : Nat → Nat} {I : gr_I} {J : gr_J} {A : gc_A} (hs : gh_HS sh ro I J A) (a1 : Int) (ra1 : (-2147483648) ≤ a1 ∧ a1 ≤ 2147483647) (h1 : a1 < 0 ∨ 8 ≤ a1) : gt_Th ws0 tb 100 (yX12_show, cX12_show, 2, (some .int)) [.inr (.inr (some 0)), .inl a1] sh (gc_h sh I J A) px_IAE sh (gc_h sh I J A) 1 6 := by
  have hb := hs.1
  have hI := hs.2.1
  have hd5 : 5 ≤ 99 := by decide
  have hD : gv_D (gc_E12 ws0 tb 99 (yX12_show, cX12_show, 2, (some .int)) kX12_show) := gq_of oX12_show
  refine gt_ev12 (l := kX12_show) htb rfl (Nat.le_of_ble_eq_true rfl) ?_
  show gv_X _ _ (0, [(0, .inr (.inr (some 0))), (1, .inl a1)], [], sh, gc_h sh I J A)
  refine gv_run 1 true hD (pcₚ := 1) (lvₚ := [(0, .inr (.inr (some 0))), (1, .inl a1)]) (stₚ := [.inl a1]) (hₚ := gc_h sh I J A) (C := (True ∧ True)) rfl ⟨trivial, trivial⟩ ?_
  show gv_X _ _ (1, [(0, .inr (.inr (some 0))), (1, .inl a1)], [.inl a1], sh, gc_h sh I J A)
  exact gv_end (Or.inr (Or.inr ⟨249, (yX12_checkPlace, cX12_checkPlace, 1, none), [.inl a1], [], hD _ _ rfl, rfl, gc_lS12 hws rfl, Nat.le_of_ble_eq_true rfl, ht_checkPlace hws htb hb hI a1 (by omega) (by omega) h1⟩))
set_option maxHeartbeats 2000000 in
set_option maxRecDepth 100000 in
theorem ht_same_p {ws0 : List Cond} {tb : String → gz_T} (hws : gc_Ws ws0) (htb : gc_tbs tb) {sh : gz_Sh} {ro : Nat → Nat} {I : gr_I} {J : gr_J} {A : gc_A} (hs : gh_HS sh ro I J A) (a1 : Int) (a2 : Int) (ra1 : (-2147483648) ≤ a1 ∧ a1 ≤ 2147483647) (ra2 : (-2147483648) ≤ a2 ∧ a2 ≤ 2147483647) (h1 : a1 < 0 ∨ 8 ≤ a1) : gt_Th ws0 tb 100 (yX12_same, cX12_same, 4, (some .boolean)) [.inr (.inr (some 0)), .inl a1, .inl a2] sh (gc_h sh I J A) px_IAE sh (gc_h sh I J A) 1 6 := by
  have hb := hs.1
  have hI := hs.2.1
  have hd5 : 5 ≤ 99 := by decide
  have hD : gv_D (gc_E12 ws0 tb 99 (yX12_same, cX12_same, 4, (some .boolean)) kX12_same) := gq_of oX12_same
  refine gt_ev12 (l := kX12_same) htb rfl (Nat.le_of_ble_eq_true rfl) ?_
  show gv_X _ _ (0, [(0, .inr (.inr (some 0))), (1, .inl a1), (2, .inl a2)], [], sh, gc_h sh I J A)
  refine gv_run 1 true hD (pcₚ := 1) (lvₚ := [(0, .inr (.inr (some 0))), (1, .inl a1), (2, .inl a2)]) (stₚ := [.inl a1]) (hₚ := gc_h sh I J A) (C := (True ∧ True)) rfl ⟨trivial, trivial⟩ ?_
  show gv_X _ _ (1, [(0, .inr (.inr (some 0))), (1, .inl a1), (2, .inl a2)], [.inl a1], sh, gc_h sh I J A)
  exact gv_end (Or.inr (Or.inr ⟨249, (yX12_checkPlace, cX12_checkPlace, 1, none), [.inl a1], [], hD _ _ rfl, rfl, gc_lS12 hws rfl, Nat.le_of_ble_eq_true rfl, ht_checkPlace hws htb hb hI a1 (by omega) (by omega) h1⟩))
set_option maxHeartbeats 2000000 in
set_option maxRecDepth 100000 in
theorem ht_mean_p {ws0 : List Cond} {tb : String → gz_T} (hws : gc_Ws ws0) (htb : gc_tbs tb) {sh : gz_Sh} {ro : Nat → Nat} {I : gr_I} {J : gr_J} {A : gc_A} (hs : gh_HS sh ro I J A) (a1 : Int) (ra1 : (-2147483648) ≤ a1 ∧ a1 ≤ 2147483647) (h1 : a1 < 0 ∨ 8 ≤ a1) : gt_Th ws0 tb 100 (yX12_mean, cX12_mean, 3, (some .int)) [.inr (.inr (some 0)), .inl a1] sh (gc_h sh I J A) px_IAE sh (gc_h sh I J A) 1 6 := by
  have hb := hs.1
  have hI := hs.2.1
  have hd5 : 5 ≤ 99 := by decide
  have hD : gv_D (gc_E12 ws0 tb 99 (yX12_mean, cX12_mean, 3, (some .int)) kX12_mean) := gq_of oX12_mean
  refine gt_ev12 (l := kX12_mean) htb rfl (Nat.le_of_ble_eq_true rfl) ?_
  show gv_X _ _ (0, [(0, .inr (.inr (some 0))), (1, .inl a1)], [], sh, gc_h sh I J A)
  refine gv_run 1 true hD (pcₚ := 1) (lvₚ := [(0, .inr (.inr (some 0))), (1, .inl a1)]) (stₚ := [.inl a1]) (hₚ := gc_h sh I J A) (C := (True ∧ True)) rfl ⟨trivial, trivial⟩ ?_
  show gv_X _ _ (1, [(0, .inr (.inr (some 0))), (1, .inl a1)], [.inl a1], sh, gc_h sh I J A)
  exact gv_end (Or.inr (Or.inr ⟨249, (yX12_checkPlace, cX12_checkPlace, 1, none), [.inl a1], [], hD _ _ rfl, rfl, gc_lS12 hws rfl, Nat.le_of_ble_eq_true rfl, ht_checkPlace hws htb hb hI a1 (by omega) (by omega) h1⟩))
set_option maxHeartbeats 2000000 in
set_option maxRecDepth 100000 in
theorem ht_truth_p {ws0 : List Cond} {tb : String → gz_T} (hws : gc_Ws ws0) (htb : gc_tbs tb) {sh : gz_Sh} {ro : Nat → Nat} {I : gr_I} {J : gr_J} {A : gc_A} (hs : gh_HS sh ro I J A) (a1 : Int) (ra1 : (-2147483648) ≤ a1 ∧ a1 ≤ 2147483647) (h1 : a1 < 0 ∨ 8 ≤ a1) : gt_Th ws0 tb 100 (yX12_truth, cX12_truth, 3, (some .int)) [.inr (.inr (some 0)), .inl a1] sh (gc_h sh I J A) px_IAE sh (gc_h sh I J A) 1 6 := by
  have hb := hs.1
  have hI := hs.2.1
  have hd5 : 5 ≤ 99 := by decide
  have hD : gv_D (gc_E12 ws0 tb 99 (yX12_truth, cX12_truth, 3, (some .int)) kX12_truth) := gq_of oX12_truth
  refine gt_ev12 (l := kX12_truth) htb rfl (Nat.le_of_ble_eq_true rfl) ?_
  show gv_X _ _ (0, [(0, .inr (.inr (some 0))), (1, .inl a1)], [], sh, gc_h sh I J A)
  refine gv_run 1 true hD (pcₚ := 1) (lvₚ := [(0, .inr (.inr (some 0))), (1, .inl a1)]) (stₚ := [.inl a1]) (hₚ := gc_h sh I J A) (C := (True ∧ True)) rfl ⟨trivial, trivial⟩ ?_
  show gv_X _ _ (1, [(0, .inr (.inr (some 0))), (1, .inl a1)], [.inl a1], sh, gc_h sh I J A)
  exact gv_end (Or.inr (Or.inr ⟨249, (yX12_checkPlace, cX12_checkPlace, 1, none), [.inl a1], [], hD _ _ rfl, rfl, gc_lS12 hws rfl, Nat.le_of_ble_eq_true rfl, ht_checkPlace hws htb hb hI a1 (by omega) (by omega) h1⟩))
set_option maxHeartbeats 2000000 in
set_option maxRecDepth 100000 in
theorem ht_same_q {ws0 : List Cond} {tb : String → gz_T} (hws : gc_Ws ws0) (htb : gc_tbs tb) {sh : gz_Sh} {ro : Nat → Nat} {I : gr_I} {J : gr_J} {A : gc_A} (hs : gh_HS sh ro I J A) (a1 : Int) (a2 : Int) (ra1 : (-2147483648) ≤ a1 ∧ a1 ≤ 2147483647) (ra2 : (-2147483648) ≤ a2 ∧ a2 ≤ 2147483647) (h1 : 0 ≤ a1 ∧ a1 ≤ 7) (h2 : a2 < 0 ∨ 8 ≤ a2) : gt_Th ws0 tb 100 (yX12_same, cX12_same, 4, (some .boolean)) [.inr (.inr (some 0)), .inl a1, .inl a2] sh (gc_h sh I J A) px_IAE sh (gc_h sh I J A) 1 6 := by
  have hb := hs.1
  have hI := hs.2.1
  have hd5 : 5 ≤ 99 := by decide
  have hD : gv_D (gc_E12 ws0 tb 99 (yX12_same, cX12_same, 4, (some .boolean)) kX12_same) := gq_of oX12_same
  refine gt_ev12 (l := kX12_same) htb rfl (Nat.le_of_ble_eq_true rfl) ?_
  show gv_X _ _ (0, [(0, .inr (.inr (some 0))), (1, .inl a1), (2, .inl a2)], [], sh, gc_h sh I J A)
  refine gv_run 1 true hD (pcₚ := 1) (lvₚ := [(0, .inr (.inr (some 0))), (1, .inl a1), (2, .inl a2)]) (stₚ := [.inl a1]) (hₚ := gc_h sh I J A) (C := (True ∧ True)) rfl ⟨trivial, trivial⟩ ?_
  obtain ⟨r8, h8, E8, rfl, rfl⟩ := d_X12_checkPlace (ws0 := ws0) (tb := tb) hws htb sh ro I J A hI a1 hb ⟨by omega, by omega⟩
  refine gv_callS hD rfl (As := [.inl a1]) (st := []) rfl (gc_lS12 hws rfl) (Nat.le_of_ble_eq_true rfl) (gz_Ev_mono (d := 1) (by omega) E8) ?_
  show gv_X _ _ (4, [(0, .inr (.inr (some 0))), (1, .inl a1), (2, .inl a2)], [], sh, gc_h sh I J A)
  refine gv_run 1 true hD (pcₚ := 5) (lvₚ := [(0, .inr (.inr (some 0))), (1, .inl a1), (2, .inl a2)]) (stₚ := [.inl a2]) (hₚ := gc_h sh I J A) (C := (True ∧ True)) rfl ⟨trivial, trivial⟩ ?_
  show gv_X _ _ (5, [(0, .inr (.inr (some 0))), (1, .inl a1), (2, .inl a2)], [.inl a2], sh, gc_h sh I J A)
  exact gv_end (Or.inr (Or.inr ⟨249, (yX12_checkPlace, cX12_checkPlace, 1, none), [.inl a2], [], hD _ _ rfl, rfl, gc_lS12 hws rfl, Nat.le_of_ble_eq_true rfl, ht_checkPlace hws htb hb hI a2 (by omega) (by omega) h2⟩))
set_option maxHeartbeats 2000000 in
set_option maxRecDepth 100000 in
theorem ht_parse_k {ws0 : List Cond} {tb : String → gz_T} (hws : gc_Ws ws0) (htb : gc_tbs tb) {sh : gz_Sh} {ro : Nat → Nat} {I : gr_I} {J : gr_J} {A : gc_A} (hs : gh_HS sh ro I J A) (a1 : Int) (a2 : Int) (ra1 : (-2147483648) ≤ a1 ∧ a1 ≤ 2147483647) (ra2 : (-2147483648) ≤ a2 ∧ a2 ≤ 2147483647) (h1 : 0 ≤ a1 ∧ a1 < I 8 1) (h2 : a2 < 0 ∨ I 2 1 ≤ a2) : gt_Th ws0 tb 100 (yX12_parse, cX12_parse, 5, (some .int)) [.inr (.inr (some 0)), .inl a1, .inl a2] sh (gc_h sh I J A) px_IAE sh (gc_h sh I J A) 1 6 := by
  have hb := hs.1
  have hI := hs.2.1
  have hd5 : 5 ≤ 99 := by decide
  have S0 : sh[0]? = some (false, 12, 17) := gc_bS_0 hb
  have i8 : 0 ≤ I 8 1 ∧ I 8 1 ≤ 8 := gc_in hI (gc_bR hb (by decide) rfl) rfl rfl
  obtain ⟨t, ht, _⟩ := hs.2.2.2.2.1 (Int.toNat a1) (by omega)
  have hD : gv_D (gc_E12 ws0 tb 99 (yX12_parse, cX12_parse, 5, (some .int)) kX12_parse) := gq_of oX12_parse
  refine gt_ev12 (l := kX12_parse) htb rfl (Nat.le_of_ble_eq_true rfl) ?_
  show gv_X _ _ (0, [(0, .inr (.inr (some 0))), (1, .inl a1), (2, .inl a2)], [], sh, gc_h sh I J A)
  refine gv_run 2 true hD (pcₚ := 2) (lvₚ := [(0, .inr (.inr (some 0))), (1, .inl a1), (2, .inl a2)]) (stₚ := [.inl a1, .inr (.inr (some 0))]) (hₚ := gc_h sh I J A) (C := ((True ∧ True) ∧ True)) rfl ⟨⟨trivial, trivial⟩, trivial⟩ ?_
  show gv_X _ _ (2, [(0, .inr (.inr (some 0))), (1, .inl a1), (2, .inl a2)], [.inl a1, .inr (.inr (some 0))], sh, gc_h sh I J A)
  refine gv_callV hD rfl (As := [.inl a1]) (st := []) rfl (by decide) S0 rfl (gc_lV12 hws rfl) (Nat.le_of_ble_eq_true rfl) (gz_Ev_mono (d := 1) (by omega) (d_X12_tongueAt hws htb (J := J) hI hb (by omega) (by omega) ht)) ?_
  show gv_X _ _ (5, [(0, .inr (.inr (some 0))), (1, .inl a1), (2, .inl a2)], [.inr (.inr (some t))], sh, gc_h sh I J A)
  refine gv_run 3 true hD (pcₚ := 8) (lvₚ := [(3, .inr (.inr (some t))), (0, .inr (.inr (some 0))), (1, .inl a1), (2, .inl a2)]) (stₚ := [.inl a2, .inr (.inr (some 0))]) (hₚ := gc_h sh I J A) (C := (((True ∧ True) ∧ True) ∧ True)) rfl ⟨⟨⟨trivial, trivial⟩, trivial⟩, trivial⟩ ?_
  show gv_X _ _ (8, [(3, .inr (.inr (some t))), (0, .inr (.inr (some 0))), (1, .inl a1), (2, .inl a2)], [.inl a2, .inr (.inr (some 0))], sh, gc_h sh I J A)
  exact gv_end (Or.inr (Or.inl ⟨229, (yX12_checkKind, cX12_checkKind, 2, none), [.inl a2], 0, [], 12, 17, _, _, hD _ _ rfl, rfl, by decide, S0, rfl, gc_lV12 hws rfl, Nat.le_of_ble_eq_true rfl, ht_checkKind hws htb hb hI a2 (by omega) (by omega) h2⟩))
set_option maxHeartbeats 2000000 in
set_option maxRecDepth 100000 in
theorem ht_mend_k {ws0 : List Cond} {tb : String → gz_T} (hws : gc_Ws ws0) (htb : gc_tbs tb) {sh : gz_Sh} {ro : Nat → Nat} {I : gr_I} {J : gr_J} {A : gc_A} (hs : gh_HS sh ro I J A) (a1 : Int) (a2 : Int) (ra1 : (-2147483648) ≤ a1 ∧ a1 ≤ 2147483647) (ra2 : (-2147483648) ≤ a2 ∧ a2 ≤ 2147483647) (h1 : 0 ≤ a1 ∧ a1 < I 8 1) (h2 : a2 < 0 ∨ I 2 1 ≤ a2) : gt_Th ws0 tb 100 (yX12_mend, cX12_mend, 10, (some .int)) [.inr (.inr (some 0)), .inl a1, .inl a2] sh (gc_h sh I J A) px_IAE sh (gc_h sh I J A) 1 6 := by
  have hb := hs.1
  have hI := hs.2.1
  have hd5 : 5 ≤ 99 := by decide
  have S0 : sh[0]? = some (false, 12, 17) := gc_bS_0 hb
  have i8 : 0 ≤ I 8 1 ∧ I 8 1 ≤ 8 := gc_in hI (gc_bR hb (by decide) rfl) rfl rfl
  obtain ⟨t, ht, _⟩ := hs.2.2.2.2.1 (Int.toNat a1) (by omega)
  have hD : gv_D (gc_E12 ws0 tb 99 (yX12_mend, cX12_mend, 10, (some .int)) kX12_mend) := gq_of oX12_mend
  refine gt_ev12 (l := kX12_mend) htb rfl (Nat.le_of_ble_eq_true rfl) ?_
  show gv_X _ _ (0, [(0, .inr (.inr (some 0))), (1, .inl a1), (2, .inl a2)], [], sh, gc_h sh I J A)
  refine gv_run 2 true hD (pcₚ := 2) (lvₚ := [(0, .inr (.inr (some 0))), (1, .inl a1), (2, .inl a2)]) (stₚ := [.inl a1, .inr (.inr (some 0))]) (hₚ := gc_h sh I J A) (C := ((True ∧ True) ∧ True)) rfl ⟨⟨trivial, trivial⟩, trivial⟩ ?_
  show gv_X _ _ (2, [(0, .inr (.inr (some 0))), (1, .inl a1), (2, .inl a2)], [.inl a1, .inr (.inr (some 0))], sh, gc_h sh I J A)
  refine gv_callV hD rfl (As := [.inl a1]) (st := []) rfl (by decide) S0 rfl (gc_lV12 hws rfl) (Nat.le_of_ble_eq_true rfl) (gz_Ev_mono (d := 1) (by omega) (d_X12_tongueAt hws htb (J := J) hI hb (by omega) (by omega) ht)) ?_
  show gv_X _ _ (5, [(0, .inr (.inr (some 0))), (1, .inl a1), (2, .inl a2)], [.inr (.inr (some t))], sh, gc_h sh I J A)
  refine gv_run 3 true hD (pcₚ := 8) (lvₚ := [(3, .inr (.inr (some t))), (0, .inr (.inr (some 0))), (1, .inl a1), (2, .inl a2)]) (stₚ := [.inl a2, .inr (.inr (some 0))]) (hₚ := gc_h sh I J A) (C := (((True ∧ True) ∧ True) ∧ True)) rfl ⟨⟨⟨trivial, trivial⟩, trivial⟩, trivial⟩ ?_
  show gv_X _ _ (8, [(3, .inr (.inr (some t))), (0, .inr (.inr (some 0))), (1, .inl a1), (2, .inl a2)], [.inl a2, .inr (.inr (some 0))], sh, gc_h sh I J A)
  exact gv_end (Or.inr (Or.inl ⟨229, (yX12_checkKind, cX12_checkKind, 2, none), [.inl a2], 0, [], 12, 17, _, _, hD _ _ rfl, rfl, by decide, S0, rfl, gc_lV12 hws rfl, Nat.le_of_ble_eq_true rfl, ht_checkKind hws htb hb hI a2 (by omega) (by omega) h2⟩))
set_option maxHeartbeats 2000000 in
set_option maxRecDepth 100000 in
theorem ht_swap_k {ws0 : List Cond} {tb : String → gz_T} (hws : gc_Ws ws0) (htb : gc_tbs tb) {sh : gz_Sh} {ro : Nat → Nat} {I : gr_I} {J : gr_J} {A : gc_A} (hs : gh_HS sh ro I J A) (a1 : Int) (a2 : Int) (a3 : Int) (ra1 : (-2147483648) ≤ a1 ∧ a1 ≤ 2147483647) (ra2 : (-2147483648) ≤ a2 ∧ a2 ≤ 2147483647) (ra3 : (-2147483648) ≤ a3 ∧ a3 ≤ 2147483647) (h1 : 0 ≤ a1 ∧ a1 < I 8 1) (h2 : a2 < 0 ∨ I 2 1 ≤ a2) : gt_Th ws0 tb 100 (yX12_swap, cX12_swap, 9, (some .int)) [.inr (.inr (some 0)), .inl a1, .inl a2, .inl a3] sh (gc_h sh I J A) px_IAE sh (gc_h sh I J A) 1 6 := by
  have hb := hs.1
  have hI := hs.2.1
  have hd5 : 5 ≤ 99 := by decide
  have S0 : sh[0]? = some (false, 12, 17) := gc_bS_0 hb
  have i8 : 0 ≤ I 8 1 ∧ I 8 1 ≤ 8 := gc_in hI (gc_bR hb (by decide) rfl) rfl rfl
  obtain ⟨t, ht, _⟩ := hs.2.2.2.2.1 (Int.toNat a1) (by omega)
  have hD : gv_D (gc_E12 ws0 tb 99 (yX12_swap, cX12_swap, 9, (some .int)) kX12_swap) := gq_of oX12_swap
  refine gt_ev12 (l := kX12_swap) htb rfl (Nat.le_of_ble_eq_true rfl) ?_
  show gv_X _ _ (0, [(0, .inr (.inr (some 0))), (1, .inl a1), (2, .inl a2), (3, .inl a3)], [], sh, gc_h sh I J A)
  refine gv_run 2 true hD (pcₚ := 2) (lvₚ := [(0, .inr (.inr (some 0))), (1, .inl a1), (2, .inl a2), (3, .inl a3)]) (stₚ := [.inl a1, .inr (.inr (some 0))]) (hₚ := gc_h sh I J A) (C := ((True ∧ True) ∧ True)) rfl ⟨⟨trivial, trivial⟩, trivial⟩ ?_
  show gv_X _ _ (2, [(0, .inr (.inr (some 0))), (1, .inl a1), (2, .inl a2), (3, .inl a3)], [.inl a1, .inr (.inr (some 0))], sh, gc_h sh I J A)
  refine gv_callV hD rfl (As := [.inl a1]) (st := []) rfl (by decide) S0 rfl (gc_lV12 hws rfl) (Nat.le_of_ble_eq_true rfl) (gz_Ev_mono (d := 1) (by omega) (d_X12_tongueAt hws htb (J := J) hI hb (by omega) (by omega) ht)) ?_
  show gv_X _ _ (5, [(0, .inr (.inr (some 0))), (1, .inl a1), (2, .inl a2), (3, .inl a3)], [.inr (.inr (some t))], sh, gc_h sh I J A)
  refine gv_run 3 true hD (pcₚ := 9) (lvₚ := [(4, .inr (.inr (some t))), (0, .inr (.inr (some 0))), (1, .inl a1), (2, .inl a2), (3, .inl a3)]) (stₚ := [.inl a2, .inr (.inr (some 0))]) (hₚ := gc_h sh I J A) (C := (((True ∧ True) ∧ True) ∧ True)) rfl ⟨⟨⟨trivial, trivial⟩, trivial⟩, trivial⟩ ?_
  show gv_X _ _ (9, [(4, .inr (.inr (some t))), (0, .inr (.inr (some 0))), (1, .inl a1), (2, .inl a2), (3, .inl a3)], [.inl a2, .inr (.inr (some 0))], sh, gc_h sh I J A)
  exact gv_end (Or.inr (Or.inl ⟨229, (yX12_checkKind, cX12_checkKind, 2, none), [.inl a2], 0, [], 12, 17, _, _, hD _ _ rfl, rfl, by decide, S0, rfl, gc_lV12 hws rfl, Nat.le_of_ble_eq_true rfl, ht_checkKind hws htb hb hI a2 (by omega) (by omega) h2⟩))
set_option maxHeartbeats 2000000 in
set_option maxRecDepth 100000 in
theorem ht_swap_u {ws0 : List Cond} {tb : String → gz_T} (hws : gc_Ws ws0) (htb : gc_tbs tb) {sh : gz_Sh} {ro : Nat → Nat} {I : gr_I} {J : gr_J} {A : gc_A} (hs : gh_HS sh ro I J A) (a1 : Int) (a2 : Int) (a3 : Int) (ra1 : (-2147483648) ≤ a1 ∧ a1 ≤ 2147483647) (ra2 : (-2147483648) ≤ a2 ∧ a2 ≤ 2147483647) (ra3 : (-2147483648) ≤ a3 ∧ a3 ≤ 2147483647) (h1 : 0 ≤ a1 ∧ a1 < I 8 1) (h2 : 0 ≤ a2 ∧ a2 < I 2 1) (h3 : a3 < 0 ∨ I 8 1 ≤ a3) : gt_Th ws0 tb 100 (yX12_swap, cX12_swap, 9, (some .int)) [.inr (.inr (some 0)), .inl a1, .inl a2, .inl a3] sh (gc_h sh I J A) px_IAE sh (gc_h sh I J A) 1 6 := by
  have hb := hs.1
  have hI := hs.2.1
  have hd5 : 5 ≤ 99 := by decide
  have S0 : sh[0]? = some (false, 12, 17) := gc_bS_0 hb
  have i8 : 0 ≤ I 8 1 ∧ I 8 1 ≤ 8 := gc_in hI (gc_bR hb (by decide) rfl) rfl rfl
  have i2 : 0 ≤ I 2 1 ∧ I 2 1 ≤ 32 := gc_in hI (gc_bR hb (by decide) rfl) rfl rfl
  obtain ⟨t, ht, _⟩ := hs.2.2.2.2.1 (Int.toNat a1) (by omega)
  have hD : gv_D (gc_E12 ws0 tb 99 (yX12_swap, cX12_swap, 9, (some .int)) kX12_swap) := gq_of oX12_swap
  refine gt_ev12 (l := kX12_swap) htb rfl (Nat.le_of_ble_eq_true rfl) ?_
  show gv_X _ _ (0, [(0, .inr (.inr (some 0))), (1, .inl a1), (2, .inl a2), (3, .inl a3)], [], sh, gc_h sh I J A)
  refine gv_run 2 true hD (pcₚ := 2) (lvₚ := [(0, .inr (.inr (some 0))), (1, .inl a1), (2, .inl a2), (3, .inl a3)]) (stₚ := [.inl a1, .inr (.inr (some 0))]) (hₚ := gc_h sh I J A) (C := ((True ∧ True) ∧ True)) rfl ⟨⟨trivial, trivial⟩, trivial⟩ ?_
  show gv_X _ _ (2, [(0, .inr (.inr (some 0))), (1, .inl a1), (2, .inl a2), (3, .inl a3)], [.inl a1, .inr (.inr (some 0))], sh, gc_h sh I J A)
  refine gv_callV hD rfl (As := [.inl a1]) (st := []) rfl (by decide) S0 rfl (gc_lV12 hws rfl) (Nat.le_of_ble_eq_true rfl) (gz_Ev_mono (d := 1) (by omega) (d_X12_tongueAt hws htb (J := J) hI hb (by omega) (by omega) ht)) ?_
  show gv_X _ _ (5, [(0, .inr (.inr (some 0))), (1, .inl a1), (2, .inl a2), (3, .inl a3)], [.inr (.inr (some t))], sh, gc_h sh I J A)
  refine gv_run 3 true hD (pcₚ := 9) (lvₚ := [(4, .inr (.inr (some t))), (0, .inr (.inr (some 0))), (1, .inl a1), (2, .inl a2), (3, .inl a3)]) (stₚ := [.inl a2, .inr (.inr (some 0))]) (hₚ := gc_h sh I J A) (C := (((True ∧ True) ∧ True) ∧ True)) rfl ⟨⟨⟨trivial, trivial⟩, trivial⟩, trivial⟩ ?_
  obtain ⟨r8, h8, E8, rfl, rfl⟩ := d_X12_checkKind (ws0 := ws0) (tb := tb) hws htb sh ro I J A hI a2 hb ⟨by omega, by omega⟩ (by omega)
  refine gv_callV hD rfl (As := [.inl a2]) (st := []) rfl (by decide) S0 rfl (gc_lV12 hws rfl) (Nat.le_of_ble_eq_true rfl) (gz_Ev_mono (d := 1) (by omega) E8) ?_
  show gv_X _ _ (12, [(4, .inr (.inr (some t))), (0, .inr (.inr (some 0))), (1, .inl a1), (2, .inl a2), (3, .inl a3)], [], sh, gc_h sh I J A)
  refine gv_run 2 true hD (pcₚ := 14) (lvₚ := [(4, .inr (.inr (some t))), (0, .inr (.inr (some 0))), (1, .inl a1), (2, .inl a2), (3, .inl a3)]) (stₚ := [.inl a3, .inr (.inr (some 0))]) (hₚ := gc_h sh I J A) (C := ((True ∧ True) ∧ True)) rfl ⟨⟨trivial, trivial⟩, trivial⟩ ?_
  show gv_X _ _ (14, [(4, .inr (.inr (some t))), (0, .inr (.inr (some 0))), (1, .inl a1), (2, .inl a2), (3, .inl a3)], [.inl a3, .inr (.inr (some 0))], sh, gc_h sh I J A)
  exact gv_end (Or.inr (Or.inl ⟨155, (yX12_tongueAt, cX12_tongueAt, 2, (some (.object "TongueHouse$Tongue"))), [.inl a3], 0, [], 12, 17, _, _, hD _ _ rfl, rfl, by decide, S0, rfl, gc_lV12 hws rfl, Nat.le_of_ble_eq_true rfl, ht_tongueAt hws htb hb hI a3 (by omega) (by omega) h3⟩))
set_option maxHeartbeats 2000000 in
set_option maxRecDepth 100000 in
theorem ht_say_p {ws0 : List Cond} {tb : String → gz_T} (hws : gc_Ws ws0) (htb : gc_tbs tb) {sh : gz_Sh} {ro : Nat → Nat} {I : gr_I} {J : gr_J} {A : gc_A} (hs : gh_HS sh ro I J A) (a1 : Int) (a2 : Int) (a3 : Int) (ra1 : (-2147483648) ≤ a1 ∧ a1 ≤ 2147483647) (ra2 : (-2147483648) ≤ a2 ∧ a2 ≤ 2147483647) (ra3 : (-2147483648) ≤ a3 ∧ a3 ≤ 2147483647) (h1 : 0 ≤ a1 ∧ a1 < I 8 1) (h2 : a2 < 0 ∨ 8 ≤ a2) : gt_Th ws0 tb 100 (yX12_say, cX12_say, 5, (some .int)) [.inr (.inr (some 0)), .inl a1, .inl a2, .inl a3] sh (gc_h sh I J A) px_IAE sh (gc_h sh I J A) 1 6 := by
  have hb := hs.1
  have hI := hs.2.1
  have hd5 : 5 ≤ 99 := by decide
  have S0 : sh[0]? = some (false, 12, 17) := gc_bS_0 hb
  have i8 : 0 ≤ I 8 1 ∧ I 8 1 ≤ 8 := gc_in hI (gc_bR hb (by decide) rfl) rfl rfl
  obtain ⟨t, ht, _⟩ := hs.2.2.2.2.1 (Int.toNat a1) (by omega)
  have hD : gv_D (gc_E12 ws0 tb 99 (yX12_say, cX12_say, 5, (some .int)) kX12_say) := gq_of oX12_say
  refine gt_ev12 (l := kX12_say) htb rfl (Nat.le_of_ble_eq_true rfl) ?_
  show gv_X _ _ (0, [(0, .inr (.inr (some 0))), (1, .inl a1), (2, .inl a2), (3, .inl a3)], [], sh, gc_h sh I J A)
  refine gv_run 2 true hD (pcₚ := 2) (lvₚ := [(0, .inr (.inr (some 0))), (1, .inl a1), (2, .inl a2), (3, .inl a3)]) (stₚ := [.inl a1, .inr (.inr (some 0))]) (hₚ := gc_h sh I J A) (C := ((True ∧ True) ∧ True)) rfl ⟨⟨trivial, trivial⟩, trivial⟩ ?_
  show gv_X _ _ (2, [(0, .inr (.inr (some 0))), (1, .inl a1), (2, .inl a2), (3, .inl a3)], [.inl a1, .inr (.inr (some 0))], sh, gc_h sh I J A)
  refine gv_callV hD rfl (As := [.inl a1]) (st := []) rfl (by decide) S0 rfl (gc_lV12 hws rfl) (Nat.le_of_ble_eq_true rfl) (gz_Ev_mono (d := 1) (by omega) (d_X12_tongueAt hws htb (J := J) hI hb (by omega) (by omega) ht)) ?_
  show gv_X _ _ (5, [(0, .inr (.inr (some 0))), (1, .inl a1), (2, .inl a2), (3, .inl a3)], [.inr (.inr (some t))], sh, gc_h sh I J A)
  refine gv_run 2 true hD (pcₚ := 8) (lvₚ := [(4, .inr (.inr (some t))), (0, .inr (.inr (some 0))), (1, .inl a1), (2, .inl a2), (3, .inl a3)]) (stₚ := [.inl a2]) (hₚ := gc_h sh I J A) (C := ((True ∧ True) ∧ True)) rfl ⟨⟨trivial, trivial⟩, trivial⟩ ?_
  show gv_X _ _ (8, [(4, .inr (.inr (some t))), (0, .inr (.inr (some 0))), (1, .inl a1), (2, .inl a2), (3, .inl a3)], [.inl a2], sh, gc_h sh I J A)
  exact gv_end (Or.inr (Or.inr ⟨249, (yX12_checkPlace, cX12_checkPlace, 1, none), [.inl a2], [], hD _ _ rfl, rfl, gc_lS12 hws rfl, Nat.le_of_ble_eq_true rfl, ht_checkPlace hws htb hb hI a2 (by omega) (by omega) h2⟩))
set_option maxHeartbeats 2000000 in
set_option maxRecDepth 100000 in
theorem ht_cell_w {ws0 : List Cond} {tb : String → gz_T} (hws : gc_Ws ws0) (htb : gc_tbs tb) {sh : gz_Sh} {ro : Nat → Nat} {I : gr_I} {J : gr_J} {A : gc_A} (hs : gh_HS sh ro I J A) (a1 : Int) (a2 : Int) (a3 : Int) (ra1 : (-2147483648) ≤ a1 ∧ a1 ≤ 2147483647) (ra2 : (-2147483648) ≤ a2 ∧ a2 ≤ 2147483647) (ra3 : (-2147483648) ≤ a3 ∧ a3 ≤ 2147483647) (h1 : 0 ≤ a1 ∧ a1 < I 8 1) (h2 : ∀ t, A 10 (Int.toNat a1) = some t → a2 < 0 ∨ I t 11 ≤ a2) : gt_Th ws0 tb 100 (yX12_cell, cX12_cell, 7, (some .int)) [.inr (.inr (some 0)), .inl a1, .inl a2, .inl a3] sh (gc_h sh I J A) px_IAE sh (gc_h sh I J A) 1 6 := by
  have hb := hs.1
  have hI := hs.2.1
  have hd5 : 5 ≤ 99 := by decide
  have S0 : sh[0]? = some (false, 12, 17) := gc_bS_0 hb
  have i8 : 0 ≤ I 8 1 ∧ I 8 1 ≤ 8 := gc_in hI (gc_bR hb (by decide) rfl) rfl rfl
  obtain ⟨t, ht, _⟩ := hs.2.2.2.2.1 (Int.toNat a1) (by omega)
  have Tt := hs.2.2.2.1.1 (Int.toNat a1) t (by omega) ht
  obtain ⟨S_t, R_t, B_t, _⟩ := id Tt.1
  have i11 : 0 ≤ I t 11 ∧ I t 11 ≤ 64 := gc_in hI R_t rfl rfl
  have h2 := h2 t ht
  have hD : gv_D (gc_E12 ws0 tb 99 (yX12_cell, cX12_cell, 7, (some .int)) kX12_cell) := gq_of oX12_cell
  refine gt_ev12 (l := kX12_cell) htb rfl (Nat.le_of_ble_eq_true rfl) ?_
  show gv_X _ _ (0, [(0, .inr (.inr (some 0))), (1, .inl a1), (2, .inl a2), (3, .inl a3)], [], sh, gc_h sh I J A)
  refine gv_run 2 true hD (pcₚ := 2) (lvₚ := [(0, .inr (.inr (some 0))), (1, .inl a1), (2, .inl a2), (3, .inl a3)]) (stₚ := [.inl a1, .inr (.inr (some 0))]) (hₚ := gc_h sh I J A) (C := ((True ∧ True) ∧ True)) rfl ⟨⟨trivial, trivial⟩, trivial⟩ ?_
  show gv_X _ _ (2, [(0, .inr (.inr (some 0))), (1, .inl a1), (2, .inl a2), (3, .inl a3)], [.inl a1, .inr (.inr (some 0))], sh, gc_h sh I J A)
  refine gv_callV hD rfl (As := [.inl a1]) (st := []) rfl (by decide) S0 rfl (gc_lV12 hws rfl) (Nat.le_of_ble_eq_true rfl) (gz_Ev_mono (d := 1) (by omega) (d_X12_tongueAt hws htb (J := J) hI hb (by omega) (by omega) ht)) ?_
  show gv_X _ _ (5, [(0, .inr (.inr (some 0))), (1, .inl a1), (2, .inl a2), (3, .inl a3)], [.inr (.inr (some t))], sh, gc_h sh I J A)
  refine gv_run 2 true hD (pcₚ := 8) (lvₚ := [(4, .inr (.inr (some t))), (0, .inr (.inr (some 0))), (1, .inl a1), (2, .inl a2), (3, .inl a3)]) (stₚ := [.inl a2]) (hₚ := gc_h sh I J A) (C := ((True ∧ True) ∧ True)) rfl ⟨⟨trivial, trivial⟩, trivial⟩ ?_
  refine gv_if_lt (t := 20) hD rfl rfl ⟨by omega, by omega⟩ (fun c => ?_) (fun c => ?_)
  · skip
    show gv_X _ _ (20, [(4, .inr (.inr (some t))), (0, .inr (.inr (some 0))), (1, .inl a1), (2, .inl a2), (3, .inl a3)], [], sh, gc_h sh I J A)
    exact gv_end (Or.inl ⟨hd5, gt_sI hD rfl rfl rfl rfl rfl (tx := "no such word") (by decide +kernel), Nat.le_of_ble_eq_true rfl, rfl, rfl, rfl, rfl⟩)
  · skip
    show gv_X _ _ (11, [(4, .inr (.inr (some t))), (0, .inr (.inr (some 0))), (1, .inl a1), (2, .inl a2), (3, .inl a3)], [], sh, gc_h sh I J A)
    refine gv_run 2 true hD (pcₚ := 14) (lvₚ := [(4, .inr (.inr (some t))), (0, .inr (.inr (some 0))), (1, .inl a1), (2, .inl a2), (3, .inl a3)]) (stₚ := [.inr (.inr (some t)), .inl a2]) (hₚ := gc_h sh I J A) (C := ((True ∧ True) ∧ True)) rfl ⟨⟨trivial, trivial⟩, trivial⟩ ?_
    refine gv_get hD rfl rfl S_t ⟨by decide, by first | decide | omega⟩ (gc_hI S_t rfl) ?_
    refine gv_icmp_lt (t := 30) hD rfl rfl ⟨⟨by omega, by omega⟩, ⟨by omega, by omega⟩⟩ (fun c => ?_) (fun c => ?_)
    · skip
      exfalso; omega
    · skip
      show gv_X _ _ (20, [(4, .inr (.inr (some t))), (0, .inr (.inr (some 0))), (1, .inl a1), (2, .inl a2), (3, .inl a3)], [], sh, gc_h sh I J A)
      exact gv_end (Or.inl ⟨hd5, gt_sI hD rfl rfl rfl rfl rfl (tx := "no such word") (by decide +kernel), Nat.le_of_ble_eq_true rfl, rfl, rfl, rfl, rfl⟩)
set_option maxHeartbeats 2000000 in
set_option maxRecDepth 100000 in
theorem ht_cell_c {ws0 : List Cond} {tb : String → gz_T} (hws : gc_Ws ws0) (htb : gc_tbs tb) {sh : gz_Sh} {ro : Nat → Nat} {I : gr_I} {J : gr_J} {A : gc_A} (hs : gh_HS sh ro I J A) (a1 : Int) (a2 : Int) (a3 : Int) (ra1 : (-2147483648) ≤ a1 ∧ a1 ≤ 2147483647) (ra2 : (-2147483648) ≤ a2 ∧ a2 ≤ 2147483647) (ra3 : (-2147483648) ≤ a3 ∧ a3 ≤ 2147483647) (h1 : 0 ≤ a1 ∧ a1 < I 8 1) (h2 : ∀ t, A 10 (Int.toNat a1) = some t → 0 ≤ a2 ∧ a2 < I t 11) (h3 : ∀ t, A 10 (Int.toNat a1) = some t → a3 < 0 ∨ I (t + 13) (Int.toNat (I (t + 15) (Int.toNat ((a2 * 11) + 1)))) ≤ a3) : gt_Th ws0 tb 100 (yX12_cell, cX12_cell, 7, (some .int)) [.inr (.inr (some 0)), .inl a1, .inl a2, .inl a3] sh (gc_h sh I J A) px_IAE sh (gc_h sh I J A) 1 6 := by
  have hb := hs.1
  have hI := hs.2.1
  have hd5 : 5 ≤ 99 := by decide
  have S0 : sh[0]? = some (false, 12, 17) := gc_bS_0 hb
  have i8 : 0 ≤ I 8 1 ∧ I 8 1 ≤ 8 := gc_in hI (gc_bR hb (by decide) rfl) rfl rfl
  obtain ⟨t, ht, _⟩ := hs.2.2.2.2.1 (Int.toNat a1) (by omega)
  have Tt := hs.2.2.2.1.1 (Int.toNat a1) t (by omega) ht
  obtain ⟨S_t, R_t, B_t, _⟩ := id Tt.1
  have i11 : 0 ≤ I t 11 ∧ I t 11 ≤ 64 := gc_in hI R_t rfl rfl
  have h2 := h2 t ht
  have h3 := h3 t ht
  have hD : gv_D (gc_E12 ws0 tb 99 (yX12_cell, cX12_cell, 7, (some .int)) kX12_cell) := gq_of oX12_cell
  refine gt_ev12 (l := kX12_cell) htb rfl (Nat.le_of_ble_eq_true rfl) ?_
  show gv_X _ _ (0, [(0, .inr (.inr (some 0))), (1, .inl a1), (2, .inl a2), (3, .inl a3)], [], sh, gc_h sh I J A)
  refine gv_run 2 true hD (pcₚ := 2) (lvₚ := [(0, .inr (.inr (some 0))), (1, .inl a1), (2, .inl a2), (3, .inl a3)]) (stₚ := [.inl a1, .inr (.inr (some 0))]) (hₚ := gc_h sh I J A) (C := ((True ∧ True) ∧ True)) rfl ⟨⟨trivial, trivial⟩, trivial⟩ ?_
  show gv_X _ _ (2, [(0, .inr (.inr (some 0))), (1, .inl a1), (2, .inl a2), (3, .inl a3)], [.inl a1, .inr (.inr (some 0))], sh, gc_h sh I J A)
  refine gv_callV hD rfl (As := [.inl a1]) (st := []) rfl (by decide) S0 rfl (gc_lV12 hws rfl) (Nat.le_of_ble_eq_true rfl) (gz_Ev_mono (d := 1) (by omega) (d_X12_tongueAt hws htb (J := J) hI hb (by omega) (by omega) ht)) ?_
  show gv_X _ _ (5, [(0, .inr (.inr (some 0))), (1, .inl a1), (2, .inl a2), (3, .inl a3)], [.inr (.inr (some t))], sh, gc_h sh I J A)
  refine gv_run 2 true hD (pcₚ := 8) (lvₚ := [(4, .inr (.inr (some t))), (0, .inr (.inr (some 0))), (1, .inl a1), (2, .inl a2), (3, .inl a3)]) (stₚ := [.inl a2]) (hₚ := gc_h sh I J A) (C := ((True ∧ True) ∧ True)) rfl ⟨⟨trivial, trivial⟩, trivial⟩ ?_
  refine gv_if_lt (t := 20) hD rfl rfl ⟨by omega, by omega⟩ (fun c => ?_) (fun c => ?_)
  · skip
    exfalso; omega
  · skip
    show gv_X _ _ (11, [(4, .inr (.inr (some t))), (0, .inr (.inr (some 0))), (1, .inl a1), (2, .inl a2), (3, .inl a3)], [], sh, gc_h sh I J A)
    refine gv_run 2 true hD (pcₚ := 14) (lvₚ := [(4, .inr (.inr (some t))), (0, .inr (.inr (some 0))), (1, .inl a1), (2, .inl a2), (3, .inl a3)]) (stₚ := [.inr (.inr (some t)), .inl a2]) (hₚ := gc_h sh I J A) (C := ((True ∧ True) ∧ True)) rfl ⟨⟨trivial, trivial⟩, trivial⟩ ?_
    refine gv_get hD rfl rfl S_t ⟨by decide, by first | decide | omega⟩ (gc_hI S_t rfl) ?_
    refine gv_icmp_lt (t := 30) hD rfl rfl ⟨⟨by omega, by omega⟩, ⟨by omega, by omega⟩⟩ (fun c => ?_) (fun c => ?_)
    · skip
      show gv_X _ _ (30, [(4, .inr (.inr (some t))), (0, .inr (.inr (some 0))), (1, .inl a1), (2, .inl a2), (3, .inl a3)], [], sh, gc_h sh I J A)
      refine gv_run 1 true hD (pcₚ := 31) (lvₚ := [(4, .inr (.inr (some t))), (0, .inr (.inr (some 0))), (1, .inl a1), (2, .inl a2), (3, .inl a3)]) (stₚ := [.inl a3]) (hₚ := gc_h sh I J A) (C := (True ∧ True)) rfl ⟨trivial, trivial⟩ ?_
      refine gv_if_lt (t := 44) hD rfl rfl ⟨by omega, by omega⟩ (fun c => ?_) (fun c => ?_)
      · skip
        show gv_X _ _ (44, [(4, .inr (.inr (some t))), (0, .inr (.inr (some 0))), (1, .inl a1), (2, .inl a2), (3, .inl a3)], [], sh, gc_h sh I J A)
        exact gv_end (Or.inl ⟨hd5, gt_sI hD rfl rfl rfl rfl rfl (tx := "no such cell") (by decide +kernel), Nat.le_of_ble_eq_true rfl, rfl, rfl, rfl, rfl⟩)
      · skip
        show gv_X _ _ (34, [(4, .inr (.inr (some t))), (0, .inr (.inr (some 0))), (1, .inl a1), (2, .inl a2), (3, .inl a3)], [], sh, gc_h sh I J A)
        refine gv_run 3 true hD (pcₚ := 38) (lvₚ := [(4, .inr (.inr (some t))), (0, .inr (.inr (some 0))), (1, .inl a1), (2, .inl a2), (3, .inl a3)]) (stₚ := [.inl a2, .inr (.inr (some t)), .inl a3]) (hₚ := gc_h sh I J A) (C := (((True ∧ True) ∧ True) ∧ True)) rfl ⟨⟨⟨trivial, trivial⟩, trivial⟩, trivial⟩ ?_
        obtain ⟨r8, h8, E8, rfl, z8, rfl, z1, z2, z3⟩ := d_X11_cellsOf_w (ws0 := ws0) (tb := tb) hws htb sh ro I J A hI t a2 Tt.1 ⟨by omega, by omega⟩
        refine gv_callV hD rfl (As := [.inl a2]) (st := [.inl a3]) rfl (by omega) S_t rfl (gc_lV12 hws rfl) (Nat.le_of_ble_eq_true rfl) (gz_Ev_mono (d := 2) (by omega) E8) ?_
        show gv_X _ _ (41, [(4, .inr (.inr (some t))), (0, .inr (.inr (some 0))), (1, .inl a1), (2, .inl a2), (3, .inl a3)], [.inl z8, .inl a3], sh, gc_h sh I J A)
        refine gv_icmp_lt (t := 54) hD rfl rfl ⟨⟨by omega, by omega⟩, ⟨by omega, by omega⟩⟩ (fun c => ?_) (fun c => ?_)
        · skip
          exfalso; omega
        · skip
          show gv_X _ _ (44, [(4, .inr (.inr (some t))), (0, .inr (.inr (some 0))), (1, .inl a1), (2, .inl a2), (3, .inl a3)], [], sh, gc_h sh I J A)
          exact gv_end (Or.inl ⟨hd5, gt_sI hD rfl rfl rfl rfl rfl (tx := "no such cell") (by decide +kernel), Nat.le_of_ble_eq_true rfl, rfl, rfl, rfl, rfl⟩)
    · skip
      exfalso; omega
set_option maxHeartbeats 2000000 in
set_option maxRecDepth 100000 in
theorem ht_number_t {ws0 : List Cond} {tb : String → gz_T} (hws : gc_Ws ws0) (htb : gc_tbs tb) {sh : gz_Sh} {ro : Nat → Nat} {I : gr_I} {J : gr_J} {A : gc_A} (hs : gh_HS sh ro I J A) (a1 : Int) (a2 : Int) (ra1 : (-2147483648) ≤ a1 ∧ a1 ≤ 2147483647) (ra2 : (-2147483648) ≤ a2 ∧ a2 ≤ 2147483647) (h1 : a1 < 0 ∨ I 8 1 ≤ a1) (h2 : 3 ≤ a2 ∧ a2 ≤ 5) : gt_Th ws0 tb 100 (yX12_number, cX12_number, 6, (some .int)) [.inr (.inr (some 0)), .inl a1, .inl a2] sh (gc_h sh I J A) px_IAE sh (gc_h sh I J A) 1 6 := by
  have hb := hs.1
  have hI := hs.2.1
  have hd5 : 5 ≤ 99 := by decide
  have S0 : sh[0]? = some (false, 12, 17) := gc_bS_0 hb
  have S1 : sh[1]? = some (false, 8, 21) := gc_bS_1 hb
  have A00 : A 0 0 = some 1 := gc_bA_0_0 hb
  have A10 : A 1 0 = some 2 := gc_bA_1_0 hb
  have hD : gv_D (gc_E12 ws0 tb 99 (yX12_number, cX12_number, 6, (some .int)) kX12_number) := gq_of oX12_number
  refine gt_ev12 (l := kX12_number) htb rfl (Nat.le_of_ble_eq_true rfl) ?_
  show gv_X _ _ (0, [(0, .inr (.inr (some 0))), (1, .inl a1), (2, .inl a2)], [], sh, gc_h sh I J A)
  refine gv_run 1 true hD (pcₚ := 1) (lvₚ := [(0, .inr (.inr (some 0))), (1, .inl a1), (2, .inl a2)]) (stₚ := [.inl a2]) (hₚ := gc_h sh I J A) (C := (True ∧ True)) rfl ⟨trivial, trivial⟩ ?_
  refine gv_if_lt (t := 9) hD rfl rfl ⟨by omega, by omega⟩ (fun c => ?_) (fun c => ?_)
  · skip
    exfalso; omega
  · skip
    show gv_X _ _ (4, [(0, .inr (.inr (some 0))), (1, .inl a1), (2, .inl a2)], [], sh, gc_h sh I J A)
    refine gv_run 2 true hD (pcₚ := 6) (lvₚ := [(0, .inr (.inr (some 0))), (1, .inl a1), (2, .inl a2)]) (stₚ := [.inl 5, .inl a2]) (hₚ := gc_h sh I J A) (C := ((True ∧ True) ∧ True)) rfl ⟨⟨trivial, trivial⟩, trivial⟩ ?_
    refine gv_icmp_le (t := 19) hD rfl rfl ⟨⟨by omega, by omega⟩, ⟨by omega, by omega⟩⟩ (fun c => ?_) (fun c => ?_)
    · skip
      show gv_X _ _ (19, [(0, .inr (.inr (some 0))), (1, .inl a1), (2, .inl a2)], [], sh, gc_h sh I J A)
      refine gv_run 1 true hD (pcₚ := 20) (lvₚ := [(0, .inr (.inr (some 0))), (1, .inl a1), (2, .inl a2)]) (stₚ := [.inr (.inr (some 0))]) (hₚ := gc_h sh I J A) (C := (True ∧ True)) rfl ⟨trivial, trivial⟩ ?_
      refine gv_get hD rfl rfl S0 ⟨by decide, by first | decide | omega⟩ (gc_hA S0 rfl A00) ?_
      refine gv_get hD rfl rfl S1 ⟨by decide, by first | decide | omega⟩ (gc_hA S1 rfl A10) ?_
      refine gv_run 2 true hD (pcₚ := 28) (lvₚ := [(3, .inr (.inr (some 2))), (0, .inr (.inr (some 0))), (1, .inl a1), (2, .inl a2)]) (stₚ := [.inl a2]) (hₚ := gc_h sh I J A) (C := ((True ∧ True) ∧ True)) rfl ⟨⟨trivial, trivial⟩, trivial⟩ ?_
      refine gv_if_ne (t := 42) hD rfl rfl ⟨by omega, by omega⟩ (fun c => ?_) (fun c => ?_)
      · skip
        show gv_X _ _ (42, [(3, .inr (.inr (some 2))), (0, .inr (.inr (some 0))), (1, .inl a1), (2, .inl a2)], [], sh, gc_h sh I J A)
        refine gv_run 2 true hD (pcₚ := 44) (lvₚ := [(3, .inr (.inr (some 2))), (0, .inr (.inr (some 0))), (1, .inl a1), (2, .inl a2)]) (stₚ := [.inl 2, .inl a2]) (hₚ := gc_h sh I J A) (C := ((True ∧ True) ∧ True)) rfl ⟨⟨trivial, trivial⟩, trivial⟩ ?_
        refine gv_icmp_ne (t := 58) hD rfl rfl ⟨⟨by omega, by omega⟩, ⟨by omega, by omega⟩⟩ (fun c => ?_) (fun c => ?_)
        · skip
          show gv_X _ _ (58, [(3, .inr (.inr (some 2))), (0, .inr (.inr (some 0))), (1, .inl a1), (2, .inl a2)], [], sh, gc_h sh I J A)
          refine gv_run 2 true hD (pcₚ := 60) (lvₚ := [(3, .inr (.inr (some 2))), (0, .inr (.inr (some 0))), (1, .inl a1), (2, .inl a2)]) (stₚ := [.inl 2, .inl a2]) (hₚ := gc_h sh I J A) (C := ((True ∧ True) ∧ True)) rfl ⟨⟨trivial, trivial⟩, trivial⟩ ?_
          refine gv_icmp_le (t := 77) hD rfl rfl ⟨⟨by omega, by omega⟩, ⟨by omega, by omega⟩⟩ (fun c => ?_) (fun c => ?_)
          · skip
            exfalso; omega
          · skip
            show gv_X _ _ (63, [(3, .inr (.inr (some 2))), (0, .inr (.inr (some 0))), (1, .inl a1), (2, .inl a2)], [], sh, gc_h sh I J A)
            refine gv_run 2 true hD (pcₚ := 65) (lvₚ := [(3, .inr (.inr (some 2))), (0, .inr (.inr (some 0))), (1, .inl a1), (2, .inl a2)]) (stₚ := [.inl a1, .inr (.inr (some 0))]) (hₚ := gc_h sh I J A) (C := ((True ∧ True) ∧ True)) rfl ⟨⟨trivial, trivial⟩, trivial⟩ ?_
            show gv_X _ _ (65, [(3, .inr (.inr (some 2))), (0, .inr (.inr (some 0))), (1, .inl a1), (2, .inl a2)], [.inl a1, .inr (.inr (some 0))], sh, gc_h sh I J A)
            exact gv_end (Or.inr (Or.inl ⟨155, (yX12_tongueAt, cX12_tongueAt, 2, (some (.object "TongueHouse$Tongue"))), [.inl a1], 0, [], 12, 17, _, _, hD _ _ rfl, rfl, by decide, S0, rfl, gc_lV12 hws rfl, Nat.le_of_ble_eq_true rfl, ht_tongueAt hws htb hb hI a1 (by omega) (by omega) h1⟩))
        · skip
          exfalso; omega
      · skip
        exfalso; omega
    · skip
      exfalso; omega
set_option maxHeartbeats 2000000 in
set_option maxRecDepth 100000 in
theorem ht_count_t {ws0 : List Cond} {tb : String → gz_T} (hws : gc_Ws ws0) (htb : gc_tbs tb) {sh : gz_Sh} {ro : Nat → Nat} {I : gr_I} {J : gr_J} {A : gc_A} (hs : gh_HS sh ro I J A) (a1 : Int) (a2 : Int) (ra1 : (-2147483648) ≤ a1 ∧ a1 ≤ 2147483647) (ra2 : (-2147483648) ≤ a2 ∧ a2 ≤ 2147483647) (h1 : a1 < 0 ∨ I 8 1 ≤ a1) (h2 : 8 ≤ a2 ∧ a2 ≤ 14) : gt_Th ws0 tb 100 (yX12_count, cX12_count, 3, (some .int)) [.inr (.inr (some 0)), .inl a1, .inl a2] sh (gc_h sh I J A) px_IAE sh (gc_h sh I J A) 1 6 := by
  have hb := hs.1
  have hI := hs.2.1
  have hd5 : 5 ≤ 99 := by decide
  have S0 : sh[0]? = some (false, 12, 17) := gc_bS_0 hb
  have hD : gv_D (gc_E12 ws0 tb 99 (yX12_count, cX12_count, 3, (some .int)) kX12_count) := gq_of oX12_count
  refine gt_ev12 (l := kX12_count) htb rfl (Nat.le_of_ble_eq_true rfl) ?_
  show gv_X _ _ (0, [(0, .inr (.inr (some 0))), (1, .inl a1), (2, .inl a2)], [], sh, gc_h sh I J A)
  refine gv_run 1 true hD (pcₚ := 1) (lvₚ := [(0, .inr (.inr (some 0))), (1, .inl a1), (2, .inl a2)]) (stₚ := [.inl a2]) (hₚ := gc_h sh I J A) (C := (True ∧ True)) rfl ⟨trivial, trivial⟩ ?_
  refine gv_if_lt (t := 10) hD rfl rfl ⟨by omega, by omega⟩ (fun c => ?_) (fun c => ?_)
  · skip
    exfalso; omega
  · skip
    show gv_X _ _ (4, [(0, .inr (.inr (some 0))), (1, .inl a1), (2, .inl a2)], [], sh, gc_h sh I J A)
    refine gv_run 2 true hD (pcₚ := 7) (lvₚ := [(0, .inr (.inr (some 0))), (1, .inl a1), (2, .inl a2)]) (stₚ := [.inl 14, .inl a2]) (hₚ := gc_h sh I J A) (C := ((True ∧ True) ∧ True)) rfl ⟨⟨trivial, trivial⟩, trivial⟩ ?_
    refine gv_icmp_le (t := 20) hD rfl rfl ⟨⟨by omega, by omega⟩, ⟨by omega, by omega⟩⟩ (fun c => ?_) (fun c => ?_)
    · skip
      show gv_X _ _ (20, [(0, .inr (.inr (some 0))), (1, .inl a1), (2, .inl a2)], [], sh, gc_h sh I J A)
      refine gv_run 2 true hD (pcₚ := 23) (lvₚ := [(0, .inr (.inr (some 0))), (1, .inl a1), (2, .inl a2)]) (stₚ := [.inl 8, .inl a2]) (hₚ := gc_h sh I J A) (C := ((True ∧ True) ∧ True)) rfl ⟨⟨trivial, trivial⟩, trivial⟩ ?_
      refine gv_icmp_lt (t := 36) hD rfl rfl ⟨⟨by omega, by omega⟩, ⟨by omega, by omega⟩⟩ (fun c => ?_) (fun c => ?_)
      · skip
        exfalso; omega
      · skip
        show gv_X _ _ (26, [(0, .inr (.inr (some 0))), (1, .inl a1), (2, .inl a2)], [], sh, gc_h sh I J A)
        refine gv_run 2 true hD (pcₚ := 28) (lvₚ := [(0, .inr (.inr (some 0))), (1, .inl a1), (2, .inl a2)]) (stₚ := [.inl a1, .inr (.inr (some 0))]) (hₚ := gc_h sh I J A) (C := ((True ∧ True) ∧ True)) rfl ⟨⟨trivial, trivial⟩, trivial⟩ ?_
        show gv_X _ _ (28, [(0, .inr (.inr (some 0))), (1, .inl a1), (2, .inl a2)], [.inl a1, .inr (.inr (some 0))], sh, gc_h sh I J A)
        exact gv_end (Or.inr (Or.inl ⟨155, (yX12_tongueAt, cX12_tongueAt, 2, (some (.object "TongueHouse$Tongue"))), [.inl a1], 0, [], 12, 17, _, _, hD _ _ rfl, rfl, by decide, S0, rfl, gc_lV12 hws rfl, Nat.le_of_ble_eq_true rfl, ht_tongueAt hws htb hb hI a1 (by omega) (by omega) h1⟩))
    · skip
      exfalso; omega
