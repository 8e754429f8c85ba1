set_option maxHeartbeats 8000000 in
set_option maxRecDepth 100000 in
theorem d_X8_makeTongue_h {ws0 : List Cond} {tb : String → gz_T} (hws : gc_Ws ws0) (htb : gc_tbs tb) (sh : gz_Sh) (ro : Nat → Nat) (I : gr_I) (J : gr_J) (A : gc_A) (hI : gc_Inv ro I) (a1 : Int64) (hb : gc_Base sh ro A)  (x0 : I 8 1 ≤ 7) {Q : gz_S → Prop} (L20 : ∀ (v3_2 : Int) (s1_2 : Int), ((0 ≤ v3_2 ∧ v3_2 ≤ 7) ∧ (0 ≤ s1_2 ∧ s1_2 ≤ 7) ∧ (v3_2 = I 8 1) ∧ (v3_2 ≤ 7) ∧ (s1_2 = v3_2)) → gv_X (gc_E8 ws0 tb 8 (yX8_makeTongue, cX8_makeTongue, 4, none) kX8_makeTongue) Q (20, [(0, .inr (.inr (some 1))), (1, .inr (.inl a1)), (3, .inl v3_2)], [.inl s1_2, .inr (.inr (some 10))], sh, gc_h sh I J A)) : gv_X (gc_E8 ws0 tb 8 (yX8_makeTongue, cX8_makeTongue, 4, none) kX8_makeTongue) Q (0, [(0, .inr (.inr (some 1))), (1, .inr (.inl a1))], [], sh, gc_h sh I J A) := by
  have A_1_3 : A 1 3 = some 8 := gc_bA_1_3 hb
  have A_1_4 : A 1 4 = some 10 := gc_bA_1_4 hb
  have B_1 := gz_hi (show 1 < 1000000 from by decide)
  have B_8 := gz_hi (show 8 < 1000000 from by decide)
  have R_8 := gz_hi (show ro 8 = 6 from gc_bR_8 hb)
  have S_1 : sh[1]? = some (false, 8, 21) := gc_bS_1 hb
  have S_8 : sh[8]? = some (false, 4, 2) := gc_bS_8 hb
  have hD : gv_D (gc_E8 ws0 tb 8 (yX8_makeTongue, cX8_makeTongue, 4, none) kX8_makeTongue) := gq_of oX8_makeTongue
  have f1 := gz_hi ((gc_b_6_1 hI (gz_sh R_8)))
  refine gv_run 1 true hD (pcₚ := 1) (lvₚ := [(0, .inr (.inr (some 1))), (1, .inr (.inl a1))]) (stₚ := [.inr (.inr (some 1))]) (hₚ := gc_h sh I J A) (C := (True ∧ True)) rfl ⟨trivial, trivial⟩ ?_
  refine gv_get hD rfl rfl S_1 ⟨by decide, (gz_sh B_1)⟩ (gc_hA S_1 rfl A_1_3) ?_
  show gv_X _ _ (4, [(0, .inr (.inr (some 1))), (1, .inr (.inl a1))], [.inr (.inr (some 8))], sh, gc_h sh I J A)
  refine gv_get hD rfl rfl S_8 ⟨by decide, (gz_sh B_8)⟩ (gc_hI S_8 rfl) ?_
  show gv_X _ _ (7, [(0, .inr (.inr (some 1))), (1, .inr (.inl a1))], [.inl (I 8 1)], sh, gc_h sh I J A)
  refine gv_run 3 true hD (pcₚ := 11) (lvₚ := [(3, .inl (I 8 1)), (0, .inr (.inr (some 1))), (1, .inr (.inl a1))]) (stₚ := [.inl 8, .inl (I 8 1)]) (hₚ := gc_h sh I J A) (C := (((True ∧ True) ∧ True) ∧ True)) rfl ⟨⟨⟨trivial, trivial⟩, trivial⟩, trivial⟩ ?_
  refine gv_icmp_lt (t := 15) hD rfl rfl ⟨⟨by (/-0-/first | (have o1 := gz_sh f1; omega) | (simp only [gz_hd] at *; omega)), by (/-1-/first | omega | (simp only [gz_hd] at *; omega))⟩, ⟨by (/-2-/first | omega | (simp only [gz_hd] at *; omega)), by (/-3-/first | omega | (simp only [gz_hd] at *; omega))⟩⟩ (fun c4 => ?_) (fun c4 => ?_)
  · show gv_X _ _ (15, [(3, .inl (I 8 1)), (0, .inr (.inr (some 1))), (1, .inr (.inl a1))], [], sh, gc_h sh I J A)
    refine gv_run 1 true hD (pcₚ := 16) (lvₚ := [(3, .inl (I 8 1)), (0, .inr (.inr (some 1))), (1, .inr (.inl a1))]) (stₚ := [.inr (.inr (some 1))]) (hₚ := gc_h sh I J A) (C := (True ∧ True)) rfl ⟨trivial, trivial⟩ ?_
    refine gv_get hD rfl rfl S_1 ⟨by decide, (gz_sh B_1)⟩ (gc_hA S_1 rfl A_1_4) ?_
    show gv_X _ _ (19, [(3, .inl (I 8 1)), (0, .inr (.inr (some 1))), (1, .inr (.inl a1))], [.inr (.inr (some 10))], sh, gc_h sh I J A)
    refine gv_run 1 true hD (pcₚ := 20) (lvₚ := [(3, .inl (I 8 1)), (0, .inr (.inr (some 1))), (1, .inr (.inl a1))]) (stₚ := [.inl (I 8 1), .inr (.inr (some 10))]) (hₚ := gc_h sh I J A) (C := (True ∧ True)) rfl ⟨trivial, trivial⟩ ?_
    refine gv_pick [1, 2, 0] rfl ?_
    exact L20 (I 8 1) (I 8 1) (by (/-4-/first | (and_intros; (have o1 := gz_sh f1; omega); (omega); (have o1 := gz_sh f1; omega); (omega); (omega); (omega); (omega)) | (simp only [gz_hd] at *; omega)))
  · exfalso; (/-5-/first | (have o1 := gz_sh f1; omega) | (simp only [gz_hd] at *; omega))
