set_option maxHeartbeats 8000000 in
set_option maxRecDepth 100000 in
theorem d_X1_isFull_p {ws0 : List Cond} {tb : String → gz_T} (hws : gc_Ws ws0) (htb : gc_tbs tb) (sh : gz_Sh) (ro : Nat → Nat) (I : gr_I) (J : gr_J) (A : gc_A) (hI : gc_Inv ro I)  (hb : gc_Base sh ro A)   : ∃ r hₚ, gz_Ev ws0 tb 1 (yX1_isFull, cX1_isFull, 1, (some .boolean)) [.inr (.inr (some 100))] sh (gc_h sh I J A) r sh hₚ 0 0 ∧ (hₚ = gc_h sh I J A ∧ (∃ z : Int, r = some (.inl z) ∧ 0 ≤ z ∧ z ≤ 1 ∧ (z = 0 ∨ 100 ≤ I 100 9))) := by
  have B_100 := gz_hi (show 100 < 1000000 from by decide)
  have R_100 := gz_hi (show ro 100 = 75 from gc_bR_100 hb)
  have S_100 : sh[100]? = some (false, 1, 19) := gc_bS_100 hb
  have hD : gv_D (gc_E1 ws0 tb 0 (yX1_isFull, cX1_isFull, 1, (some .boolean)) kX1_isFull) := gq_of oX1_isFull
  refine gc_ev1 (d := 0) (l := kX1_isFull) (Po := fun r hₚ => (hₚ = gc_h sh I J A ∧ (∃ z : Int, r = some (.inl z) ∧ 0 ≤ z ∧ z ≤ 1 ∧ (z = 0 ∨ 100 ≤ I 100 9)))) htb rfl (Nat.le_of_ble_eq_true rfl) ?_
  have L14 : ∀ (s0_1 : Int), ((0 ≤ s0_1 ∧ s0_1 ≤ 1) ∧ (s0_1 = 0 ∨ 100 ≤ I 100 9)) → gv_X (gc_E1 ws0 tb 0 (yX1_isFull, cX1_isFull, 1, (some .boolean)) kX1_isFull) (gv_Q cX1_isFull (some .boolean) sh (fun r hₚ => (hₚ = gc_h sh I J A ∧ (∃ z : Int, r = some (.inl z) ∧ 0 ≤ z ∧ z ≤ 1 ∧ (z = 0 ∨ 100 ≤ I 100 9))))) (14, [], [.inl s0_1], sh, gc_h sh I J A) := by
    intro s0_1 m_1
    obtain ⟨hs0_1, e0_1⟩ := gz_h2 m_1
    exact gv_zret hD rfl (by (/-0-/first | (have o1 := gz_sh hs0_1; omega) | (simp only [gz_hd] at *; omega))) ⟨rfl, ⟨_, rfl, by (/-1-/first | (and_intros; (have o1 := gz_sh hs0_1; omega); (have o1 := gz_sh hs0_1; omega); (have o1 := gz_sh e0_1; have o2 := gz_sh hs0_1; omega)) | (simp only [gz_hd] at *; omega))⟩⟩
  refine gv_run 1 true hD (pcₚ := 1) (lvₚ := [(0, .inr (.inr (some 100)))]) (stₚ := [.inr (.inr (some 100))]) (hₚ := gc_h sh I J A) (C := (True ∧ True)) rfl ⟨trivial, trivial⟩ ?_
  have f2 := gz_hi ((gc_b_75_9 hI (gz_sh R_100)))
  refine gv_get hD rfl rfl S_100 ⟨by decide, (gz_sh B_100)⟩ (gc_hI S_100 rfl) ?_
  show gv_X _ _ (4, [(0, .inr (.inr (some 100)))], [.inl (I 100 9)], sh, gc_h sh I J A)
  refine gv_run 1 true hD (pcₚ := 6) (lvₚ := [(0, .inr (.inr (some 100)))]) (stₚ := [.inl 100, .inl (I 100 9)]) (hₚ := gc_h sh I J A) (C := (True ∧ True)) rfl ⟨trivial, trivial⟩ ?_
  refine gv_icmp_lt (t := 13) hD rfl rfl ⟨⟨by (/-2-/first | (have o1 := gz_sh f2; omega) | (simp only [gz_hd] at *; omega)), by (/-3-/first | (have o1 := gz_sh f2; omega) | (simp only [gz_hd] at *; omega))⟩, ⟨by (/-4-/first | omega | (simp only [gz_hd] at *; omega)), by (/-5-/first | omega | (simp only [gz_hd] at *; omega))⟩⟩ (fun c3 => ?_) (fun c3 => ?_)
  · show gv_X _ _ (13, [(0, .inr (.inr (some 100)))], [], sh, gc_h sh I J A)
    refine gv_run 1 true hD (pcₚ := 14) (lvₚ := [(0, .inr (.inr (some 100)))]) (stₚ := [.inl 0]) (hₚ := gc_h sh I J A) (C := (True ∧ True)) rfl ⟨trivial, trivial⟩ ?_
    refine gv_pick [] rfl ?_
    exact L14 0 (by (/-6-/first | (and_intros <;> omega) | (simp only [gz_hd] at *; omega)))
  · show gv_X _ _ (9, [(0, .inr (.inr (some 100)))], [], sh, gc_h sh I J A)
    refine gv_run 2 true hD (pcₚ := 14) (lvₚ := [(0, .inr (.inr (some 100)))]) (stₚ := [.inl 1]) (hₚ := gc_h sh I J A) (C := ((True ∧ True) ∧ True)) rfl ⟨⟨trivial, trivial⟩, trivial⟩ ?_
    refine gv_pick [] rfl ?_
    exact L14 1 (by (/-7-/first | (and_intros <;> omega) | (simp only [gz_hd] at *; omega)))
