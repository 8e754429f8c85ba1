set_option maxHeartbeats 8000000 in
set_option maxRecDepth 100000 in
theorem d_X12_trees_c {ws0 : List Cond} {tb : String → gz_T} (hws : gc_Ws ws0) (htb : gc_tbs tb) (sh : gz_Sh) (ro : Nat → Nat) (I : gr_I) (J : gr_J) (A : gc_A) (hI : gc_Inv ro I)  (hb : gc_Base sh ro A)  (x0 : I 61 3 = 0) (x1 : I 61 15 = 0) : ∃ r hₚ, gz_Ev ws0 tb 4 (yX12_trees, cX12_trees, 1, (some .long)) [.inr (.inr (some 0))] sh (gc_h sh I J A) r sh hₚ 0 0 ∧ (hₚ = gc_h sh I J A ∧ (∃ z : Int64, r = some (.inr (.inl z)))) := by
  have A_0_7 : A 0 7 = some 61 := gc_bA_0_7 hb
  have B_0 : 0 < 1000000 := by decide
  have B_61 : 61 < 1000000 := by decide
  have S_0 : sh[0]? = some (false, 12, 17) := gc_bS_0 hb
  have S_61 : sh[61]? = some (false, 5, 19) := gc_bS_61 hb
  have hD : gv_D (gc_E12 ws0 tb 3 (yX12_trees, cX12_trees, 1, (some .long)) kX12_trees) := gq_of oX12_trees
  refine gc_ev12 (d := 3) (l := kX12_trees) (Po := fun r hₚ => (hₚ = gc_h sh I J A ∧ (∃ z : Int64, r = some (.inr (.inl z))))) htb rfl (Nat.le_of_ble_eq_true rfl) ?_
  refine gv_run 1 true hD (pcₚ := 1) (lvₚ := [(0, .inr (.inr (some 0)))]) (stₚ := [.inr (.inr (some 0))]) (hₚ := gc_h sh I J A) (C := (True ∧ True)) rfl ⟨trivial, trivial⟩ ?_
  refine gv_get hD rfl rfl S_0 ⟨by decide, B_0⟩ (gc_hA S_0 rfl A_0_7) ?_
  show gv_X _ _ (4, [(0, .inr (.inr (some 0)))], [.inr (.inr (some 61))], sh, gc_h sh I J A)
  obtain ⟨r1, h1, E1, P1⟩ := d_X5_total_c (ws0 := ws0) (tb := tb) hws htb sh ro I J A hI   hb    (by omega) 
  obtain ⟨rfl, ⟨z1, rfl⟩⟩ := P1
  refine gv_callV hD rfl (As := []) (st := []) rfl B_61 S_61 rfl (gc_lV12 hws rfl) (Nat.le_of_ble_eq_true rfl) (gz_Ev_mono (d := 3) (by decide) E1) ?_
  show gv_X _ _ (7, [(0, .inr (.inr (some 0)))], [.inr (.inl z1)], sh, gc_h sh I J A)
  exact gv_lret hD rfl ⟨rfl, ⟨_, rfl⟩⟩
set_option maxHeartbeats 8000000 in
set_option maxRecDepth 100000 in
theorem d_X12_price_c {ws0 : List Cond} {tb : String → gz_T} (hws : gc_Ws ws0) (htb : gc_tbs tb) (sh : gz_Sh) (ro : Nat → Nat) (I : gr_I) (J : gr_J) (A : gc_A) (hI : gc_Inv ro I) (a1 : Int) (hb : gc_Base sh ro A) (ha1 : (-2147483648) ≤ a1 ∧ a1 ≤ 2147483647) (x0 : I 61 3 = 0) (x1 : I 61 15 = 0) : ∃ r hₚ, gz_Ev ws0 tb 10 (yX12_price, cX12_price, 2, (some .int)) [.inr (.inr (some 0)), .inl a1] sh (gc_h sh I J A) r sh hₚ 0 0 ∧ (hₚ = gc_h sh I J A ∧ (∃ z : Int, r = some (.inl z) ∧ (-1) ≤ z ∧ z ≤ (-1))) := by
  have A_0_7 : A 0 7 = some 61 := gc_bA_0_7 hb
  have B_0 := gz_hi (show 0 < 1000000 from by decide)
  have B_61 := gz_hi (show 61 < 1000000 from by decide)
  have S_0 : sh[0]? = some (false, 12, 17) := gc_bS_0 hb
  have S_61 : sh[61]? = some (false, 5, 19) := gc_bS_61 hb
  have hD : gv_D (gc_E12 ws0 tb 9 (yX12_price, cX12_price, 2, (some .int)) kX12_price) := gq_of oX12_price
  refine gc_ev12 (d := 9) (l := kX12_price) (Po := fun r hₚ => (hₚ = gc_h sh I J A ∧ (∃ z : Int, r = some (.inl z) ∧ (-1) ≤ z ∧ z ≤ (-1)))) htb rfl (Nat.le_of_ble_eq_true rfl) ?_
  refine gv_run 1 true hD (pcₚ := 1) (lvₚ := [(0, .inr (.inr (some 0))), (1, .inl a1)]) (stₚ := [.inr (.inr (some 0))]) (hₚ := gc_h sh I J A) (C := (True ∧ True)) rfl ⟨trivial, trivial⟩ ?_
  refine gv_get hD rfl rfl S_0 ⟨by decide, (gz_sh B_0)⟩ (gc_hA S_0 rfl A_0_7) ?_
  show gv_X _ _ (4, [(0, .inr (.inr (some 0))), (1, .inl a1)], [.inr (.inr (some 61))], sh, gc_h sh I J A)
  refine gv_run 1 true hD (pcₚ := 5) (lvₚ := [(0, .inr (.inr (some 0))), (1, .inl a1)]) (stₚ := [.inl a1, .inr (.inr (some 61))]) (hₚ := gc_h sh I J A) (C := (True ∧ True)) rfl ⟨trivial, trivial⟩ ?_
  obtain ⟨r1, h1, E1, P1⟩ := d_X5_priceOf_c (ws0 := ws0) (tb := tb) hws htb sh ro I J A hI  a1 hb   ⟨by (/-0-/first | omega | (simp only [gz_hd] at *; omega)), by (/-1-/first | omega | (simp only [gz_hd] at *; omega))⟩ (by (/-2-/first | omega | (simp only [gz_hd] at *; omega))) (by (/-3-/first | omega | (simp only [gz_hd] at *; omega))) 
  obtain ⟨rfl, ⟨z1, rfl, q1⟩⟩ := P1
  replace q1 := gz_hi q1
  refine gv_callV hD rfl (As := [.inl a1]) (st := []) rfl (gz_sh B_61) S_61 rfl (gc_lV12 hws rfl) (Nat.le_of_ble_eq_true rfl) (gz_Ev_mono (d := 9) (by decide) E1) ?_
  show gv_X _ _ (8, [(0, .inr (.inr (some 0))), (1, .inl a1)], [.inl z1], sh, gc_h sh I J A)
  exact gv_iret hD rfl ⟨rfl, ⟨_, rfl, by (/-4-/first | (and_intros; (have o1 := gz_sh q1; omega); (have o1 := gz_sh q1; omega)) | (simp only [gz_hd] at *; omega))⟩⟩
