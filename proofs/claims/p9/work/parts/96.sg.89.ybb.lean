set_option maxHeartbeats 8000000 in
set_option maxRecDepth 100000 in
theorem d_X1_collect_h {ws0 : List Cond} {tb : String → gz_T} (hws : gc_Ws ws0) (htb : gc_tbs tb) (sh : gz_Sh) (ro : Nat → Nat) (I : gr_I) (J : gr_J) (A : gc_A) (hI : gc_Inv ro I) (a1 : Int) (a2 : Nat) (hb : gc_Base sh ro A) (h_a2 : gc_isText sh ro A a2) (ha1 : 0 ≤ a1 ∧ a1 ≤ 7) (x0 : I 100 9 ≤ 99) {Q : gz_S → Prop} (L25 : ∀ (s1_3 : Int) (s3_3 : Int), ((0 ≤ a1 ∧ a1 ≤ 7) ∧ (0 ≤ s1_3 ∧ s1_3 ≤ 99) ∧ (0 ≤ s3_3 ∧ s3_3 ≤ 1000) ∧ (s1_3 = I 100 9) ∧ (s3_3 = I a2 1)) → gv_X (gc_E1 ws0 tb 2 (yX1_collect, cX1_collect, 3, (some .int)) kX1_collect) Q (25, [(0, .inr (.inr (some 100))), (1, .inl a1), (2, .inr (.inr (some a2)))], [.inl s3_3, .inr (.inr (some (a2 + 1))), .inl s1_3, .inr (.inr (some 104))], sh, gc_h sh I J A)) : gv_X (gc_E1 ws0 tb 2 (yX1_collect, cX1_collect, 3, (some .int)) kX1_collect) Q (0, [(0, .inr (.inr (some 100))), (1, .inl a1), (2, .inr (.inr (some a2)))], [], sh, gc_h sh I J A) := by
  have A_100_10 : A 100 10 = some 104 := gc_bA_100_10 hb
  have B_100 := gz_hi (show 100 < 1000000 from by decide)
  have R_100 := gz_hi (show ro 100 = 75 from gc_bR_100 hb)
  have S_100 : sh[100]? = some (false, 1, 19) := gc_bS_100 hb
  obtain ⟨S_a2, R_a2, B_a2, A_a2_0, S_a2_1, R_a2_1, B_a2_1, A_a2_2, S_a2_2, R_a2_2, B_a2_2, A_a2_3, S_a2_3, R_a2_3, B_a2_3⟩ := id h_a2
  replace R_a2 := gz_hi R_a2
  replace B_a2 := gz_hi B_a2
  replace R_a2_1 := gz_hi R_a2_1
  replace B_a2_1 := gz_hi B_a2_1
  replace R_a2_2 := gz_hi R_a2_2
  replace B_a2_2 := gz_hi B_a2_2
  replace R_a2_3 := gz_hi R_a2_3
  replace B_a2_3 := gz_hi B_a2_3
  have hD : gv_D (gc_E1 ws0 tb 2 (yX1_collect, cX1_collect, 3, (some .int)) kX1_collect) := gq_of oX1_collect
  have f1 := gz_hi ((gc_b_75_9 hI (gz_sh R_100)))
  have f2 := gz_hi ((show 0 ≤ I a2 1 ∧ I a2 1 ≤ 1000 from gc_in2 hI (gz_sh R_a2) rfl rfl rfl))
  refine gv_run 1 true hD (pcₚ := 1) (lvₚ := [(0, .inr (.inr (some 100))), (1, .inl a1), (2, .inr (.inr (some a2)))]) (stₚ := [.inr (.inr (some 100))]) (hₚ := gc_h sh I J A) (C := (True ∧ True)) rfl ⟨trivial, trivial⟩ ?_
  refine gv_get hD rfl rfl S_100 ⟨by decide, (gz_sh B_100)⟩ (gc_hI S_100 rfl) ?_
  show gv_X _ _ (4, [(0, .inr (.inr (some 100))), (1, .inl a1), (2, .inr (.inr (some a2)))], [.inl (I 100 9)], sh, gc_h sh I J A)
  refine gv_run 1 true hD (pcₚ := 6) (lvₚ := [(0, .inr (.inr (some 100))), (1, .inl a1), (2, .inr (.inr (some a2)))]) (stₚ := [.inl 100, .inl (I 100 9)]) (hₚ := gc_h sh I J A) (C := (True ∧ True)) rfl ⟨trivial, trivial⟩ ?_
  refine gv_icmp_ge (t := 49) hD rfl rfl ⟨⟨by (/-0-/first | (have o1 := gz_sh f1; omega) | (simp only [gz_hd] at *; omega)), by (/-1-/first | omega | (simp only [gz_hd] at *; omega))⟩, ⟨by (/-2-/first | omega | (simp only [gz_hd] at *; omega)), by (/-3-/first | omega | (simp only [gz_hd] at *; omega))⟩⟩ (fun c5 => ?_) (fun c5 => ?_)
  · exfalso; (/-4-/first | (have o1 := gz_sh f1; omega) | (simp only [gz_hd] at *; omega))
  · show gv_X _ _ (9, [(0, .inr (.inr (some 100))), (1, .inl a1), (2, .inr (.inr (some a2)))], [], sh, gc_h sh I J A)
    refine gv_run 1 true hD (pcₚ := 10) (lvₚ := [(0, .inr (.inr (some 100))), (1, .inl a1), (2, .inr (.inr (some a2)))]) (stₚ := [.inr (.inr (some 100))]) (hₚ := gc_h sh I J A) (C := (True ∧ True)) rfl ⟨trivial, trivial⟩ ?_
    refine gv_get hD rfl rfl S_100 ⟨by decide, (gz_sh B_100)⟩ (gc_hA S_100 rfl A_100_10) ?_
    show gv_X _ _ (13, [(0, .inr (.inr (some 100))), (1, .inl a1), (2, .inr (.inr (some a2)))], [.inr (.inr (some 104))], sh, gc_h sh I J A)
    refine gv_run 1 true hD (pcₚ := 14) (lvₚ := [(0, .inr (.inr (some 100))), (1, .inl a1), (2, .inr (.inr (some a2)))]) (stₚ := [.inr (.inr (some 100)), .inr (.inr (some 104))]) (hₚ := gc_h sh I J A) (C := (True ∧ True)) rfl ⟨trivial, trivial⟩ ?_
    refine gv_get hD rfl rfl S_100 ⟨by decide, (gz_sh B_100)⟩ (gc_hI S_100 rfl) ?_
    show gv_X _ _ (17, [(0, .inr (.inr (some 100))), (1, .inl a1), (2, .inr (.inr (some a2)))], [.inl (I 100 9), .inr (.inr (some 104))], sh, gc_h sh I J A)
    refine gv_run 1 true hD (pcₚ := 18) (lvₚ := [(0, .inr (.inr (some 100))), (1, .inl a1), (2, .inr (.inr (some a2)))]) (stₚ := [.inr (.inr (some a2)), .inl (I 100 9), .inr (.inr (some 104))]) (hₚ := gc_h sh I J A) (C := (True ∧ True)) rfl ⟨trivial, trivial⟩ ?_
    refine gv_get hD rfl rfl S_a2 ⟨by decide, (gz_sh B_a2)⟩ (gc_hA S_a2 rfl A_a2_0) ?_
    show gv_X _ _ (21, [(0, .inr (.inr (some 100))), (1, .inl a1), (2, .inr (.inr (some a2)))], [.inr (.inr (some (a2 + 1))), .inl (I 100 9), .inr (.inr (some 104))], sh, gc_h sh I J A)
    refine gv_run 1 true hD (pcₚ := 22) (lvₚ := [(0, .inr (.inr (some 100))), (1, .inl a1), (2, .inr (.inr (some a2)))]) (stₚ := [.inr (.inr (some a2)), .inr (.inr (some (a2 + 1))), .inl (I 100 9), .inr (.inr (some 104))]) (hₚ := gc_h sh I J A) (C := (True ∧ True)) rfl ⟨trivial, trivial⟩ ?_
    refine gv_get hD rfl rfl S_a2 ⟨by decide, (gz_sh B_a2)⟩ (gc_hI S_a2 rfl) ?_
    show gv_X _ _ (25, [(0, .inr (.inr (some 100))), (1, .inl a1), (2, .inr (.inr (some a2)))], [.inl (I a2 1), .inr (.inr (some (a2 + 1))), .inl (I 100 9), .inr (.inr (some 104))], sh, gc_h sh I J A)
    exact L25 (I 100 9) (I a2 1) (by (/-5-/first | (and_intros; (omega); (omega); (have o1 := gz_sh f1; omega); (omega); (have o1 := gz_sh f2; omega); (have o1 := gz_sh f2; omega); (omega); (omega)) | (simp only [gz_hd] at *; omega)))
set_option maxHeartbeats 8000000 in
set_option maxRecDepth 100000 in
theorem d_X1_collect_t {ws0 : List Cond} {tb : String → gz_T} (hws : gc_Ws ws0) (htb : gc_tbs tb) (sh : gz_Sh) (ro : Nat → Nat) (I : gr_I) (J : gr_J) (A : gc_A) (hI : gc_Inv ro I) (a1 : Int) (a2 : Nat) (hb : gc_Base sh ro A) (h_a2 : gc_isText sh ro A a2) (ha1 : 0 ≤ a1 ∧ a1 ≤ 7) (x0 : I 100 9 ≤ 99)  : gv_X (gc_E1 ws0 tb 2 (yX1_collect, cX1_collect, 3, (some .int)) kX1_collect) (gv_Q cX1_collect (some .int) sh (fun r hₚ => (∃ (Iₚ : gr_I) (Jₚ : gr_J), hₚ = gc_h sh Iₚ Jₚ A ∧ gc_Inv ro Iₚ ∧ (∀ q j : Nat, (q = 105 ∨ (q = 100 ∧ j = 9)) ∨ Iₚ q j = I q j) ∧ (∀ q j : Nat, (False) ∨ Jₚ q j = J q j) ∧ (∃ z : Int, r = some (.inl z) ∧ 0 ≤ z ∧ z ≤ 100 ∧ (Iₚ 100 9 = I 100 9 + 1))))) (29, [(0, .inr (.inr (some 100))), (1, .inl a1), (2, .inr (.inr (some a2)))], [], sh, gc_h sh I J A) := by
  have FI : ∀ q j : Nat, (q = 105 ∨ (q = 100 ∧ j = 9)) ∨ I q j = I q j := fun _ _ => Or.inr rfl
  have FJ : ∀ q j : Nat, (False) ∨ J q j = J q j := fun _ _ => Or.inr rfl
  have A_100_11 : A 100 11 = some 105 := gc_bA_100_11 hb
  have B_100 := gz_hi (show 100 < 1000000 from by decide)
  have B_105 := gz_hi (show 105 < 1000000 from by decide)
  have R_100 := gz_hi (show ro 100 = 75 from gc_bR_100 hb)
  have R_105 := gz_hi (show ro 105 = 59 from gc_bR_105 hb)
  have S_100 : sh[100]? = some (false, 1, 19) := gc_bS_100 hb
  have S_105 : sh[105]? = some (true, 1, 100) := gc_bS_105 hb
  obtain ⟨S_a2, R_a2, B_a2, A_a2_0, S_a2_1, R_a2_1, B_a2_1, A_a2_2, S_a2_2, R_a2_2, B_a2_2, A_a2_3, S_a2_3, R_a2_3, B_a2_3⟩ := id h_a2
  replace R_a2 := gz_hi R_a2
  replace B_a2 := gz_hi B_a2
  replace R_a2_1 := gz_hi R_a2_1
  replace B_a2_1 := gz_hi B_a2_1
  replace R_a2_2 := gz_hi R_a2_2
  replace B_a2_2 := gz_hi B_a2_2
  replace R_a2_3 := gz_hi R_a2_3
  replace B_a2_3 := gz_hi B_a2_3
  have hD : gv_D (gc_E1 ws0 tb 2 (yX1_collect, cX1_collect, 3, (some .int)) kX1_collect) := gq_of oX1_collect
  have f1 := gz_hi ((gc_b_75_9 hI (gz_sh R_100)))
  refine gv_run 1 true hD (pcₚ := 30) (lvₚ := [(0, .inr (.inr (some 100))), (1, .inl a1), (2, .inr (.inr (some a2)))]) (stₚ := [.inr (.inr (some 100))]) (hₚ := gc_h sh I J A) (C := (True ∧ True)) rfl ⟨trivial, trivial⟩ ?_
  refine gv_get hD rfl rfl S_100 ⟨by decide, (gz_sh B_100)⟩ (gc_hA S_100 rfl A_100_11) ?_
  show gv_X _ _ (33, [(0, .inr (.inr (some 100))), (1, .inl a1), (2, .inr (.inr (some a2)))], [.inr (.inr (some 105))], sh, gc_h sh I J A)
  refine gv_run 1 true hD (pcₚ := 34) (lvₚ := [(0, .inr (.inr (some 100))), (1, .inl a1), (2, .inr (.inr (some a2)))]) (stₚ := [.inr (.inr (some 100)), .inr (.inr (some 105))]) (hₚ := gc_h sh I J A) (C := (True ∧ True)) rfl ⟨trivial, trivial⟩ ?_
  refine gv_get hD rfl rfl S_100 ⟨by decide, (gz_sh B_100)⟩ (gc_hI S_100 rfl) ?_
  show gv_X _ _ (37, [(0, .inr (.inr (some 100))), (1, .inl a1), (2, .inr (.inr (some a2)))], [.inl (I 100 9), .inr (.inr (some 105))], sh, gc_h sh I J A)
  refine gv_run 1 true hD (pcₚ := 38) (lvₚ := [(0, .inr (.inr (some 100))), (1, .inl a1), (2, .inr (.inr (some a2)))]) (stₚ := [.inl a1, .inl (I 100 9), .inr (.inr (some 105))]) (hₚ := gc_h sh I J A) (C := (True ∧ True)) rfl ⟨trivial, trivial⟩ ?_
  refine gv_iast hD rfl S_105 ⟨by decide, (gz_sh B_105)⟩ ⟨by (/-0-/first | (have o1 := gz_sh f1; omega) | (simp only [gz_hd] at *; omega)), by (/-1-/first | omega | (simp only [gz_hd] at *; omega))⟩ ?_
  refine gc_st hI S_105 rfl (gz_sh R_105) (lo := 0) (hi := 7) rfl rfl (by (/-2-/first | omega | (simp only [gz_hd] at *; omega))) (by (/-3-/first | omega | (simp only [gz_hd] at *; omega))) (fun I3 hI3 q4 p4 => ?_)
  have FI3 := gc_frs (W := fun q j => q = 105 ∨ (q = 100 ∧ j = 9)) FI (Or.inl rfl) p4
  have t5 := gz_hi (p4 100 9 (fun h => absurd h.1 (by first | exact gz_ne rfl | decide)))
  show gv_X _ _ (39, [(0, .inr (.inr (some 100))), (1, .inl a1), (2, .inr (.inr (some a2)))], [], sh, gc_h sh I3 J A)
  refine gv_run 2 true hD (pcₚ := 41) (lvₚ := [(0, .inr (.inr (some 100))), (1, .inl a1), (2, .inr (.inr (some a2)))]) (stₚ := [.inr (.inr (some 100)), .inr (.inr (some 100))]) (hₚ := gc_h sh I3 J A) (C := ((True ∧ True) ∧ True)) rfl ⟨⟨trivial, trivial⟩, trivial⟩ ?_
  refine gv_get hD rfl rfl S_100 ⟨by decide, (gz_sh B_100)⟩ (gc_hI S_100 rfl) ?_
  show gv_X _ _ (44, [(0, .inr (.inr (some 100))), (1, .inl a1), (2, .inr (.inr (some a2)))], [.inl (I3 100 9), .inr (.inr (some 100))], sh, gc_h sh I3 J A)
  refine gv_run 2 true hD (pcₚ := 46) (lvₚ := [(0, .inr (.inr (some 100))), (1, .inl a1), (2, .inr (.inr (some a2)))]) (stₚ := [.inl ((I3 100 9) + 1), .inr (.inr (some 100))]) (hₚ := gc_h sh I3 J A) (C := ((True ∧ True) ∧ True)) rfl ⟨⟨trivial, trivial⟩, trivial⟩ ?_
  refine gv_put hD rfl rfl S_100 ⟨by decide, (gz_sh B_100)⟩ rfl trivial ?_
  refine gc_st (k := 9) hI3 S_100 rfl (gz_sh R_100) (lo := 0) (hi := 100) rfl rfl (by (/-4-/first | (have o1 := gz_sh f1; have o2 := gz_sh t5; omega) | (simp only [gz_hd] at *; omega))) (by (/-5-/first | (have o1 := gz_sh t5; omega) | (simp only [gz_hd] at *; omega))) (fun I7 hI7 q8 p8 => ?_)
  have FI7 := gc_frs (W := fun q j => q = 105 ∨ (q = 100 ∧ j = 9)) FI3 (Or.inr ⟨rfl, rfl⟩) p8
  show gv_X _ _ (49, [(0, .inr (.inr (some 100))), (1, .inl a1), (2, .inr (.inr (some a2)))], [], sh, gc_h sh I7 J A)
  refine gv_run 1 true hD (pcₚ := 50) (lvₚ := [(0, .inr (.inr (some 100))), (1, .inl a1), (2, .inr (.inr (some a2)))]) (stₚ := [.inr (.inr (some 100))]) (hₚ := gc_h sh I7 J A) (C := (True ∧ True)) rfl ⟨trivial, trivial⟩ ?_
  refine gv_get hD rfl rfl S_100 ⟨by decide, (gz_sh B_100)⟩ (gc_hI S_100 rfl) ?_
  show gv_X _ _ (53, [(0, .inr (.inr (some 100))), (1, .inl a1), (2, .inr (.inr (some a2)))], [.inl (I7 100 9)], sh, gc_h sh I7 J A)
  exact gv_iret hD rfl ⟨I7, J, rfl, hI7, FI7, FJ, ⟨_, rfl, by (/-6-/first | (and_intros; (have o1 := gz_sh f1; have o2 := gz_sh t5; omega); (have o1 := gz_sh t5; omega); (have o1 := gz_sh t5; omega)) | (simp only [gz_hd] at *; omega))⟩⟩
