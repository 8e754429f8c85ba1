set_option maxHeartbeats 4000000 in
set_option maxRecDepth 100000 in
theorem d_X1_collect_h {ws0 : List Cond} {tb : String → gz_T} (hws : gc_Ws ws0) (htb : gc_tbs tb) (sh : gz_Sh) (ro : Nat → Nat) (I : gr_I) (J : gr_J) (A : gc_A) (hI : gc_Inv ro I) (a1 : Int) (a2 : Nat) (hb : gc_Base sh ro A) (h_a2 : gc_isText sh ro A a2) (ha1 : 0 ≤ a1 ∧ a1 ≤ 7) (x0 : I 100 9 ≤ 99) {Q : gz_S → Prop} (L25 : ∀ (s1_3 : Int) (s3_3 : Int), ((0 ≤ a1 ∧ a1 ≤ 7) ∧ (0 ≤ s1_3 ∧ s1_3 ≤ 99) ∧ (0 ≤ s3_3 ∧ s3_3 ≤ 1000) ∧ (s1_3 = I 100 9) ∧ (s3_3 = I a2 1)) → gv_X (gc_E1 ws0 tb 2 (yX1_collect, cX1_collect, 3, (some .int)) kX1_collect) Q (25, [(0, .inr (.inr (some 100))), (1, .inl a1), (2, .inr (.inr (some a2)))], [.inl s3_3, .inr (.inr (some (a2 + 1))), .inl s1_3, .inr (.inr (some 104))], sh, gc_h sh I J A)) : gv_X (gc_E1 ws0 tb 2 (yX1_collect, cX1_collect, 3, (some .int)) kX1_collect) Q (0, [(0, .inr (.inr (some 100))), (1, .inl a1), (2, .inr (.inr (some a2)))], [], sh, gc_h sh I J A) := by
  have A_100_10 : A 100 10 = some 104 := gc_bA hb rfl
  have B_100 : 100 < 1000000 := by decide
  have R_100 : ro 100 = 75 := gc_bR hb (by decide) rfl
  have S_100 : sh[100]? = some (false, 1, 19) := gc_bS hb rfl
  obtain ⟨S_a2, R_a2, B_a2, A_a2_0, S_a2_1, R_a2_1, B_a2_1, A_a2_2, S_a2_2, R_a2_2, B_a2_2, A_a2_3, S_a2_3, R_a2_3, B_a2_3⟩ := id h_a2
  have hD : gv_D (gc_E1 ws0 tb 2 (yX1_collect, cX1_collect, 3, (some .int)) kX1_collect) := gq_ok oX1_collect
  have f1 := (show 0 ≤ I 100 9 ∧ I 100 9 ≤ 100 from gc_in hI R_100 rfl rfl)
  have f2 := (show 0 ≤ I a2 1 ∧ I a2 1 ≤ 1000 from gc_in hI R_a2 rfl rfl)
  refine gv_run 1 true hD (pc' := 1) (lv' := [(0, .inr (.inr (some 100))), (1, .inl a1), (2, .inr (.inr (some a2)))]) (st' := [.inr (.inr (some 100))]) (h' := gc_h sh I J A) (C := (True ∧ True)) rfl ⟨trivial, trivial⟩ ?_
  have f4 := (show 0 ≤ I 100 9 ∧ I 100 9 ≤ 100 from gc_in hI R_100 rfl rfl)
  refine gv_get hD rfl rfl S_100 ⟨by decide, B_100⟩ (gc_hI S_100 rfl) ?_
  show gv_X _ _ (4, [(0, .inr (.inr (some 100))), (1, .inl a1), (2, .inr (.inr (some a2)))], [.inl (I 100 9)], sh, gc_h sh I J A)
  refine gv_run 1 true hD (pc' := 6) (lv' := [(0, .inr (.inr (some 100))), (1, .inl a1), (2, .inr (.inr (some a2)))]) (st' := [.inl 100, .inl (I 100 9)]) (h' := gc_h sh I J A) (C := (True ∧ True)) rfl ⟨trivial, trivial⟩ ?_
  refine gv_icmp_ge (t := 49) hD rfl rfl ⟨⟨by omega, by omega⟩, ⟨by omega, by omega⟩⟩ (fun c5 => ?_) (fun c5 => ?_)
  · exfalso; omega
  · show gv_X _ _ (9, [(0, .inr (.inr (some 100))), (1, .inl a1), (2, .inr (.inr (some a2)))], [], sh, gc_h sh I J A)
    refine gv_run 1 true hD (pc' := 10) (lv' := [(0, .inr (.inr (some 100))), (1, .inl a1), (2, .inr (.inr (some a2)))]) (st' := [.inr (.inr (some 100))]) (h' := gc_h sh I J A) (C := (True ∧ True)) rfl ⟨trivial, trivial⟩ ?_
    refine gv_get hD rfl rfl S_100 ⟨by decide, B_100⟩ (gc_hA S_100 rfl A_100_10) ?_
    show gv_X _ _ (13, [(0, .inr (.inr (some 100))), (1, .inl a1), (2, .inr (.inr (some a2)))], [.inr (.inr (some 104))], sh, gc_h sh I J A)
    refine gv_run 1 true hD (pc' := 14) (lv' := [(0, .inr (.inr (some 100))), (1, .inl a1), (2, .inr (.inr (some a2)))]) (st' := [.inr (.inr (some 100)), .inr (.inr (some 104))]) (h' := gc_h sh I J A) (C := (True ∧ True)) rfl ⟨trivial, trivial⟩ ?_
    have f6 := (show 0 ≤ I 100 9 ∧ I 100 9 ≤ 100 from gc_in hI R_100 rfl rfl)
    refine gv_get hD rfl rfl S_100 ⟨by decide, B_100⟩ (gc_hI S_100 rfl) ?_
    show gv_X _ _ (17, [(0, .inr (.inr (some 100))), (1, .inl a1), (2, .inr (.inr (some a2)))], [.inl (I 100 9), .inr (.inr (some 104))], sh, gc_h sh I J A)
    refine gv_run 1 true hD (pc' := 18) (lv' := [(0, .inr (.inr (some 100))), (1, .inl a1), (2, .inr (.inr (some a2)))]) (st' := [.inr (.inr (some a2)), .inl (I 100 9), .inr (.inr (some 104))]) (h' := gc_h sh I J A) (C := (True ∧ True)) rfl ⟨trivial, trivial⟩ ?_
    refine gv_get hD rfl rfl S_a2 ⟨by decide, B_a2⟩ (gc_hA S_a2 rfl A_a2_0) ?_
    show gv_X _ _ (21, [(0, .inr (.inr (some 100))), (1, .inl a1), (2, .inr (.inr (some a2)))], [.inr (.inr (some (a2 + 1))), .inl (I 100 9), .inr (.inr (some 104))], sh, gc_h sh I J A)
    refine gv_run 1 true hD (pc' := 22) (lv' := [(0, .inr (.inr (some 100))), (1, .inl a1), (2, .inr (.inr (some a2)))]) (st' := [.inr (.inr (some a2)), .inr (.inr (some (a2 + 1))), .inl (I 100 9), .inr (.inr (some 104))]) (h' := gc_h sh I J A) (C := (True ∧ True)) rfl ⟨trivial, trivial⟩ ?_
    have f7 := (show 0 ≤ I a2 1 ∧ I a2 1 ≤ 1000 from gc_in hI R_a2 rfl rfl)
    refine gv_get hD rfl rfl S_a2 ⟨by decide, B_a2⟩ (gc_hI S_a2 rfl) ?_
    show gv_X _ _ (25, [(0, .inr (.inr (some 100))), (1, .inl a1), (2, .inr (.inr (some a2)))], [.inl (I a2 1), .inr (.inr (some (a2 + 1))), .inl (I 100 9), .inr (.inr (some 104))], sh, gc_h sh I J A)
    exact L25 (I 100 9) (I a2 1) (by omega)
