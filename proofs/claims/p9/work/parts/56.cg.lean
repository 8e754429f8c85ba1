theorem gc_b2 {sh : gz_Sh} {ro : Nat → Nat} {A : gc_A} (hb : gc_Base sh ro A) : gc_isNames sh ro A 2 32 9 := ⟨gc_bS hb rfl, gc_bR hb (by decide) rfl, by decide, gc_bA hb rfl, gc_bS hb rfl, gc_bR hb (by decide) rfl, by decide, rfl, rfl, by decide⟩
theorem gc_b4 {sh : gz_Sh} {ro : Nat → Nat} {A : gc_A} (hb : gc_Base sh ro A) : gc_isNames sh ro A 4 96 11 := ⟨gc_bS hb rfl, gc_bR hb (by decide) rfl, by decide, gc_bA hb rfl, gc_bS hb rfl, gc_bR hb (by decide) rfl, by decide, rfl, rfl, by decide⟩
theorem gc_b6 {sh : gz_Sh} {ro : Nat → Nat} {A : gc_A} (hb : gc_Base sh ro A) : gc_isNames sh ro A 6 8 6 := ⟨gc_bS hb rfl, gc_bR hb (by decide) rfl, by decide, gc_bA hb rfl, gc_bS hb rfl, gc_bR hb (by decide) rfl, by decide, rfl, rfl, by decide⟩
theorem gc_b8 {sh : gz_Sh} {ro : Nat → Nat} {A : gc_A} (hb : gc_Base sh ro A) : gc_isNames sh ro A 8 8 6 := ⟨gc_bS hb rfl, gc_bR hb (by decide) rfl, by decide, gc_bA hb rfl, gc_bS hb rfl, gc_bR hb (by decide) rfl, by decide, rfl, rfl, by decide⟩
theorem gc_b23 {sh : gz_Sh} {ro : Nat → Nat} {A : gc_A} (hb : gc_Base sh ro A) : gc_isText sh ro A 23 := ⟨gc_bS hb rfl, gc_bR hb (by decide) rfl, by decide, gc_bA hb rfl, gc_bS hb rfl, gc_bR hb (by decide) rfl, by decide, gc_bA hb rfl, gc_bS hb rfl, gc_bR hb (by decide) rfl, by decide, gc_bA hb rfl, gc_bS hb rfl, gc_bR hb (by decide) rfl, by decide⟩
theorem gc_b27 {sh : gz_Sh} {ro : Nat → Nat} {A : gc_A} (hb : gc_Base sh ro A) : gc_isText sh ro A 27 := ⟨gc_bS hb rfl, gc_bR hb (by decide) rfl, by decide, gc_bA hb rfl, gc_bS hb rfl, gc_bR hb (by decide) rfl, by decide, gc_bA hb rfl, gc_bS hb rfl, gc_bR hb (by decide) rfl, by decide, gc_bA hb rfl, gc_bS hb rfl, gc_bR hb (by decide) rfl, by decide⟩
theorem gc_b31 {sh : gz_Sh} {ro : Nat → Nat} {A : gc_A} (hb : gc_Base sh ro A) : gc_isText sh ro A 31 := ⟨gc_bS hb rfl, gc_bR hb (by decide) rfl, by decide, gc_bA hb rfl, gc_bS hb rfl, gc_bR hb (by decide) rfl, by decide, gc_bA hb rfl, gc_bS hb rfl, gc_bR hb (by decide) rfl, by decide, gc_bA hb rfl, gc_bS hb rfl, gc_bR hb (by decide) rfl, by decide⟩
theorem gc_b35 {sh : gz_Sh} {ro : Nat → Nat} {A : gc_A} (hb : gc_Base sh ro A) : gc_isText sh ro A 35 := ⟨gc_bS hb rfl, gc_bR hb (by decide) rfl, by decide, gc_bA hb rfl, gc_bS hb rfl, gc_bR hb (by decide) rfl, by decide, gc_bA hb rfl, gc_bS hb rfl, gc_bR hb (by decide) rfl, by decide, gc_bA hb rfl, gc_bS hb rfl, gc_bR hb (by decide) rfl, by decide⟩
theorem gc_b106 {sh : gz_Sh} {ro : Nat → Nat} {A : gc_A} (hb : gc_Base sh ro A) : gc_isText sh ro A 106 := ⟨gc_bS hb rfl, gc_bR hb (by decide) rfl, by decide, gc_bA hb rfl, gc_bS hb rfl, gc_bR hb (by decide) rfl, by decide, gc_bA hb rfl, gc_bS hb rfl, gc_bR hb (by decide) rfl, by decide, gc_bA hb rfl, gc_bS hb rfl, gc_bR hb (by decide) rfl, by decide⟩
def gc_ge (n : Nat) (I : gr_I) (m : Int) : Prop := ∀ k : Int, 0 ≤ k → k < m → 1 ≤ I n (Int.toNat k)
theorem gc_ge_fr {n : Nat} {I Iₚ : gr_I} {m : Int} (h : gc_ge n I m) (hf : ∀ k, Iₚ n k = I n k) : gc_ge n Iₚ m := fun k a b => by rw [hf]; exact h k a b
theorem gc_ge_push {n : Nat} {I Iₚ : gr_I} {m : Int} (h : gc_ge n I m) (h0 : 0 ≤ m) (p : ∀ q j, ¬ (q = n ∧ j = Int.toNat m) → Iₚ q j = I q j) (hz : 1 ≤ Iₚ n (Int.toNat m)) : gc_ge n Iₚ (m + 1) := fun k a b => by
  by_cases hk : k = m
  · rw [hk]; exact hz
  · rw [p n (Int.toNat k) (fun q => by have := q.2; omega)]
    exact h k a (by omega)
theorem gc_ge_pop {n : Nat} {I : gr_I} {m : Int} (h : gc_ge n I m) : gc_ge n I (m + (-1)) := fun k a b => h k a (by omega)
theorem gc_ge_set {n : Nat} {I Iₚ : gr_I} {m : Int} (h : gc_ge n I m) (h0 : 0 < m) (p : ∀ q j, ¬ (q = n ∧ j = Int.toNat (m - 1)) → Iₚ q j = I q j) (hz : 1 ≤ Iₚ n (Int.toNat (m - 1))) : gc_ge n Iₚ m := fun k a b => by
  by_cases hk : k = m - 1
  · rw [hk]; exact hz
  · rw [p n (Int.toNat k) (fun q => by have := q.2; omega)]
    exact h k a b
set_option maxHeartbeats 8000000 in
set_option maxRecDepth 100000 in
theorem d_X8_findFact {ws0 : List Cond} {tb : String → gz_T} (hws : gc_Ws ws0) (htb : gc_tbs tb) (sh : gz_Sh) (ro : Nat → Nat) (I : gr_I) (J : gr_J) (A : gc_A) (hI : gc_Inv ro I) (a1 : Int64) (a2 : Int) (a3 : Int) (hb : gc_Base sh ro A) (ha2 : (-2147483648) ≤ a2 ∧ a2 ≤ 2147483647) (ha3 : (-2147483648) ≤ a3 ∧ a3 ≤ 2147483647)  : ∃ r hₚ, gz_Ev ws0 tb 1 (yX8_findFact, cX8_findFact, 6, (some .int)) [.inr (.inr (some 1)), .inr (.inl a1), .inl a2, .inl a3] sh (gc_h sh I J A) r sh hₚ 0 0 ∧ (hₚ = gc_h sh I J A ∧ (∃ z : Int, r = some (.inl z) ∧ (-1) ≤ z ∧ z ≤ 63)) := by
  have A_1_14 : A 1 14 = some 18 := gc_bA_1_14 hb
  have A_1_15 : A 1 15 = some 19 := gc_bA_1_15 hb
  have B_1 := gz_hi (show 1 < 1000000 from by decide)
  have B_18 := gz_hi (show 18 < 1000000 from by decide)
  have B_19 := gz_hi (show 19 < 1000000 from by decide)
  have R_1 := gz_hi (show ro 1 = 22 from gc_bR_1 hb)
  have R_19 := gz_hi (show ro 19 = 29 from gc_bR_19 hb)
  have S_1 : sh[1]? = some (false, 8, 21) := gc_bS_1 hb
  have S_18 : sh[18]? = some (true, 2, 64) := gc_bS_18 hb
  have S_19 : sh[19]? = some (true, 1, 128) := gc_bS_19 hb
  have hD : gv_D (gc_E8 ws0 tb 0 (yX8_findFact, cX8_findFact, 6, (some .int)) kX8_findFact) := gq_of oX8_findFact
  refine gc_ev8 (d := 0) (l := kX8_findFact) (Po := fun r hₚ => (hₚ = gc_h sh I J A ∧ (∃ z : Int, r = some (.inl z) ∧ (-1) ≤ z ∧ z ≤ 63))) htb rfl (Nat.le_of_ble_eq_true rfl) ?_
  have L3 : ∀ (n9 : Nat) (v5_1 : Int), (65 - v5_1).toNat < n9 → (((-2147483648) ≤ a2 ∧ a2 ≤ 2147483647) ∧ ((-2147483648) ≤ a3 ∧ a3 ≤ 2147483647) ∧ (0 ≤ v5_1 ∧ v5_1 ≤ 64)) → gv_X (gc_E8 ws0 tb 0 (yX8_findFact, cX8_findFact, 6, (some .int)) kX8_findFact) (gv_Q cX8_findFact (some .int) sh (fun r hₚ => (hₚ = gc_h sh I J A ∧ (∃ z : Int, r = some (.inl z) ∧ (-1) ≤ z ∧ z ≤ 63)))) (3, [(0, .inr (.inr (some 1))), (1, .inr (.inl a1)), (3, .inl a2), (4, .inl a3), (5, .inl v5_1)], [], sh, gc_h sh I J A) := by
    intro n9
    induction n9 with
    | zero => intro v5_1 hn; (/-0-/first | omega | (simp only [gz_hd] at *; omega))
    | succ n9 ih3 =>
      intro v5_1 hn m_1
      obtain ⟨ha2_1, ha3_1, hv5_1⟩ := gz_h3 m_1
      have L56 : (((-2147483648) ≤ a2 ∧ a2 ≤ 2147483647) ∧ ((-2147483648) ≤ a3 ∧ a3 ≤ 2147483647) ∧ (0 ≤ v5_1 ∧ v5_1 ≤ 63)) → gv_X (gc_E8 ws0 tb 0 (yX8_findFact, cX8_findFact, 6, (some .int)) kX8_findFact) (gv_Q cX8_findFact (some .int) sh (fun r hₚ => (hₚ = gc_h sh I J A ∧ (∃ z : Int, r = some (.inl z) ∧ (-1) ≤ z ∧ z ≤ 63)))) (56, [(0, .inr (.inr (some 1))), (1, .inr (.inl a1)), (3, .inl a2), (4, .inl a3), (5, .inl v5_1)], [], sh, gc_h sh I J A) := by
        intro m_2
        obtain ⟨ha2_2, ha3_2, hv5_1_2⟩ := gz_h3 m_2
        refine gv_run 2 true hD (pcₚ := 3) (lvₚ := [(5, .inl (v5_1 + 1)), (0, .inr (.inr (some 1))), (1, .inr (.inl a1)), (3, .inl a2), (4, .inl a3)]) (stₚ := []) (hₚ := gc_h sh I J A) (C := ((True ∧ True) ∧ True)) rfl ⟨⟨trivial, trivial⟩, trivial⟩ ?_
        refine gv_pick [1, 2, 3, 4, 0] rfl ?_
        exact ih3 (v5_1 + 1) (by (/-1-/first | (have o1 := gz_sh hv5_1; have o2 := gz_sh hv5_1_2; omega) | (simp only [gz_hd] at *; omega))) (by (/-2-/first | (and_intros; (omega); (omega); (omega); (omega); (have o1 := gz_sh hv5_1; omega); (have o1 := gz_sh hv5_1_2; omega)) | (simp only [gz_hd] at *; omega)))
      refine gv_run 2 true hD (pcₚ := 6) (lvₚ := [(0, .inr (.inr (some 1))), (1, .inr (.inl a1)), (3, .inl a2), (4, .inl a3), (5, .inl v5_1)]) (stₚ := [.inr (.inr (some 1)), .inl v5_1]) (hₚ := gc_h sh I J A) (C := ((True ∧ True) ∧ True)) rfl ⟨⟨trivial, trivial⟩, trivial⟩ ?_
      have f3 := gz_hi ((gc_b_22_13 hI (gz_sh R_1)))
      refine gv_get hD rfl rfl S_1 ⟨by decide, (gz_sh B_1)⟩ (gc_hI S_1 rfl) ?_
      show gv_X _ _ (9, [(0, .inr (.inr (some 1))), (1, .inr (.inl a1)), (3, .inl a2), (4, .inl a3), (5, .inl v5_1)], [.inl (I 1 13), .inl v5_1], sh, gc_h sh I J A)
      refine gv_icmp_ge (t := 62) hD rfl rfl ⟨⟨by (/-3-/first | (have o1 := gz_sh hv5_1; omega) | (simp only [gz_hd] at *; omega)), by (/-4-/first | (have o1 := gz_sh hv5_1; omega) | (simp only [gz_hd] at *; omega))⟩, ⟨by (/-5-/first | (have o1 := gz_sh f3; omega) | (simp only [gz_hd] at *; omega)), by (/-6-/first | (have o1 := gz_sh f3; omega) | (simp only [gz_hd] at *; omega))⟩⟩ (fun c4 => ?_) (fun c4 => ?_)
      · show gv_X _ _ (62, [(0, .inr (.inr (some 1))), (1, .inr (.inl a1)), (3, .inl a2), (4, .inl a3), (5, .inl v5_1)], [], sh, gc_h sh I J A)
        refine gv_run 1 true hD (pcₚ := 63) (lvₚ := [(0, .inr (.inr (some 1))), (1, .inr (.inl a1)), (3, .inl a2), (4, .inl a3), (5, .inl v5_1)]) (stₚ := [.inl (-1)]) (hₚ := gc_h sh I J A) (C := (True ∧ True)) rfl ⟨trivial, trivial⟩ ?_
        exact gv_iret hD rfl ⟨rfl, ⟨_, rfl, by (/-7-/first | (and_intros <;> omega) | (simp only [gz_hd] at *; omega))⟩⟩
      · show gv_X _ _ (12, [(0, .inr (.inr (some 1))), (1, .inr (.inl a1)), (3, .inl a2), (4, .inl a3), (5, .inl v5_1)], [], sh, gc_h sh I J A)
        refine gv_run 1 true hD (pcₚ := 13) (lvₚ := [(0, .inr (.inr (some 1))), (1, .inr (.inl a1)), (3, .inl a2), (4, .inl a3), (5, .inl v5_1)]) (stₚ := [.inr (.inr (some 1))]) (hₚ := gc_h sh I J A) (C := (True ∧ True)) rfl ⟨trivial, trivial⟩ ?_
        refine gv_get hD rfl rfl S_1 ⟨by decide, (gz_sh B_1)⟩ (gc_hA S_1 rfl A_1_14) ?_
        show gv_X _ _ (16, [(0, .inr (.inr (some 1))), (1, .inr (.inl a1)), (3, .inl a2), (4, .inl a3), (5, .inl v5_1)], [.inr (.inr (some 18))], sh, gc_h sh I J A)
        refine gv_run 1 true hD (pcₚ := 18) (lvₚ := [(0, .inr (.inr (some 1))), (1, .inr (.inl a1)), (3, .inl a2), (4, .inl a3), (5, .inl v5_1)]) (stₚ := [.inl v5_1, .inr (.inr (some 18))]) (hₚ := gc_h sh I J A) (C := (True ∧ True)) rfl ⟨trivial, trivial⟩ ?_
        refine gv_lald hD rfl S_18 rfl ⟨by decide, (gz_sh B_18)⟩ ⟨by (/-8-/first | (have o1 := gz_sh hv5_1; omega) | (simp only [gz_hd] at *; omega)), by (/-9-/first | (have o1 := gz_sh f3; omega) | (simp only [gz_hd] at *; omega))⟩ (gc_jJ S_18 rfl) ?_
        show gv_X _ _ (19, [(0, .inr (.inr (some 1))), (1, .inr (.inl a1)), (3, .inl a2), (4, .inl a3), (5, .inl v5_1)], [.inr (.inl (J 18 (Int.toNat v5_1)))], sh, gc_h sh I J A)
        have f5 := gz_hi (gw_cmp ((J 18 (Int.toNat v5_1))) (a1))
        refine gv_run 2 true hD (pcₚ := 21) (lvₚ := [(0, .inr (.inr (some 1))), (1, .inr (.inl a1)), (3, .inl a2), (4, .inl a3), (5, .inl v5_1)]) (stₚ := [.inl ((lg_cmp ((J 18 (Int.toNat v5_1))) (a1)).toInt)]) (hₚ := gc_h sh I J A) (C := ((True ∧ True) ∧ True)) rfl ⟨⟨trivial, trivial⟩, trivial⟩ ?_
        refine gv_if_ne (t := 56) hD rfl rfl ⟨by (/-10-/first | (have o1 := gz_sh f5; omega) | (simp only [gz_hd] at *; omega)), by (/-11-/first | (have o1 := gz_sh f5; omega) | (simp only [gz_hd] at *; omega))⟩ (fun c6 => ?_) (fun c6 => ?_)
        · show gv_X _ _ (56, [(0, .inr (.inr (some 1))), (1, .inr (.inl a1)), (3, .inl a2), (4, .inl a3), (5, .inl v5_1)], [], sh, gc_h sh I J A)
          exact L56 (by (/-12-/first | (and_intros; (omega); (omega); (omega); (omega); (have o1 := gz_sh hv5_1; omega); (have o1 := gz_sh f3; omega)) | (simp only [gz_hd] at *; omega)))
        · show gv_X _ _ (24, [(0, .inr (.inr (some 1))), (1, .inr (.inl a1)), (3, .inl a2), (4, .inl a3), (5, .inl v5_1)], [], sh, gc_h sh I J A)
          refine gv_run 1 true hD (pcₚ := 25) (lvₚ := [(0, .inr (.inr (some 1))), (1, .inr (.inl a1)), (3, .inl a2), (4, .inl a3), (5, .inl v5_1)]) (stₚ := [.inr (.inr (some 1))]) (hₚ := gc_h sh I J A) (C := (True ∧ True)) rfl ⟨trivial, trivial⟩ ?_
          refine gv_get hD rfl rfl S_1 ⟨by decide, (gz_sh B_1)⟩ (gc_hA S_1 rfl A_1_15) ?_
          show gv_X _ _ (28, [(0, .inr (.inr (some 1))), (1, .inr (.inl a1)), (3, .inl a2), (4, .inl a3), (5, .inl v5_1)], [.inr (.inr (some 19))], sh, gc_h sh I J A)
          refine gv_run 3 true hD (pcₚ := 32) (lvₚ := [(0, .inr (.inr (some 1))), (1, .inr (.inl a1)), (3, .inl a2), (4, .inl a3), (5, .inl v5_1)]) (stₚ := [.inl (2 * v5_1), .inr (.inr (some 19))]) (hₚ := gc_h sh I J A) (C := (((True ∧ True) ∧ True) ∧ True)) rfl ⟨⟨⟨trivial, trivial⟩, trivial⟩, trivial⟩ ?_
          have f7 := gz_hi ((gc_b_29 hI (gz_sh R_19) (Int.toNat (2 * v5_1))))
          refine gv_iald hD rfl S_19 rfl ⟨by decide, (gz_sh B_19)⟩ ⟨by (/-13-/first | (have o1 := gz_sh hv5_1; omega) | (simp only [gz_hd] at *; omega)), by (/-14-/first | (have o1 := gz_sh f3; omega) | (simp only [gz_hd] at *; omega))⟩ (gc_iI S_19 rfl) ?_
          show gv_X _ _ (33, [(0, .inr (.inr (some 1))), (1, .inr (.inl a1)), (3, .inl a2), (4, .inl a3), (5, .inl v5_1)], [.inl (I 19 (Int.toNat (2 * v5_1)))], sh, gc_h sh I J A)
          refine gv_run 1 true hD (pcₚ := 34) (lvₚ := [(0, .inr (.inr (some 1))), (1, .inr (.inl a1)), (3, .inl a2), (4, .inl a3), (5, .inl v5_1)]) (stₚ := [.inl a2, .inl (I 19 (Int.toNat (2 * v5_1)))]) (hₚ := gc_h sh I J A) (C := (True ∧ True)) rfl ⟨trivial, trivial⟩ ?_
          refine gv_icmp_ne (t := 56) hD rfl rfl ⟨⟨by (/-15-/first | (have o1 := gz_sh f7; omega) | (simp only [gz_hd] at *; omega)), by (/-16-/first | (have o1 := gz_sh f7; omega) | (simp only [gz_hd] at *; omega))⟩, ⟨by (/-17-/first | omega | (simp only [gz_hd] at *; omega)), by (/-18-/first | omega | (simp only [gz_hd] at *; omega))⟩⟩ (fun c8 => ?_) (fun c8 => ?_)
          · show gv_X _ _ (56, [(0, .inr (.inr (some 1))), (1, .inr (.inl a1)), (3, .inl a2), (4, .inl a3), (5, .inl v5_1)], [], sh, gc_h sh I J A)
            exact L56 (by (/-19-/first | (and_intros; (omega); (omega); (omega); (omega); (have o1 := gz_sh hv5_1; omega); (have o1 := gz_sh f3; omega)) | (simp only [gz_hd] at *; omega)))
          · show gv_X _ _ (37, [(0, .inr (.inr (some 1))), (1, .inr (.inl a1)), (3, .inl a2), (4, .inl a3), (5, .inl v5_1)], [], sh, gc_h sh I J A)
            refine gv_run 1 true hD (pcₚ := 38) (lvₚ := [(0, .inr (.inr (some 1))), (1, .inr (.inl a1)), (3, .inl a2), (4, .inl a3), (5, .inl v5_1)]) (stₚ := [.inr (.inr (some 1))]) (hₚ := gc_h sh I J A) (C := (True ∧ True)) rfl ⟨trivial, trivial⟩ ?_
            refine gv_get hD rfl rfl S_1 ⟨by decide, (gz_sh B_1)⟩ (gc_hA S_1 rfl A_1_15) ?_
            show gv_X _ _ (41, [(0, .inr (.inr (some 1))), (1, .inr (.inl a1)), (3, .inl a2), (4, .inl a3), (5, .inl v5_1)], [.inr (.inr (some 19))], sh, gc_h sh I J A)
            refine gv_run 5 true hD (pcₚ := 47) (lvₚ := [(0, .inr (.inr (some 1))), (1, .inr (.inl a1)), (3, .inl a2), (4, .inl a3), (5, .inl v5_1)]) (stₚ := [.inl ((2 * v5_1) + 1), .inr (.inr (some 19))]) (hₚ := gc_h sh I J A) (C := (((((True ∧ True) ∧ True) ∧ True) ∧ True) ∧ True)) rfl ⟨⟨⟨⟨⟨trivial, trivial⟩, trivial⟩, trivial⟩, trivial⟩, trivial⟩ ?_
            have f9 := gz_hi ((gc_b_29 hI (gz_sh R_19) (Int.toNat (((2 * v5_1) + 1)))))
            refine gv_iald hD rfl S_19 rfl ⟨by decide, (gz_sh B_19)⟩ ⟨by (/-20-/first | (have o1 := gz_sh hv5_1; omega) | (simp only [gz_hd] at *; omega)), by (/-21-/first | (have o1 := gz_sh f3; omega) | (simp only [gz_hd] at *; omega))⟩ (gc_iI S_19 rfl) ?_
            show gv_X _ _ (48, [(0, .inr (.inr (some 1))), (1, .inr (.inl a1)), (3, .inl a2), (4, .inl a3), (5, .inl v5_1)], [.inl (I 19 (Int.toNat (((2 * v5_1) + 1))))], sh, gc_h sh I J A)
            refine gv_run 1 true hD (pcₚ := 50) (lvₚ := [(0, .inr (.inr (some 1))), (1, .inr (.inl a1)), (3, .inl a2), (4, .inl a3), (5, .inl v5_1)]) (stₚ := [.inl a3, .inl (I 19 (Int.toNat (((2 * v5_1) + 1))))]) (hₚ := gc_h sh I J A) (C := (True ∧ True)) rfl ⟨trivial, trivial⟩ ?_
            refine gv_icmp_ne (t := 56) hD rfl rfl ⟨⟨by (/-22-/first | (have o1 := gz_sh f9; omega) | (simp only [gz_hd] at *; omega)), by (/-23-/first | (have o1 := gz_sh f9; omega) | (simp only [gz_hd] at *; omega))⟩, ⟨by (/-24-/first | omega | (simp only [gz_hd] at *; omega)), by (/-25-/first | omega | (simp only [gz_hd] at *; omega))⟩⟩ (fun c10 => ?_) (fun c10 => ?_)
            · show gv_X _ _ (56, [(0, .inr (.inr (some 1))), (1, .inr (.inl a1)), (3, .inl a2), (4, .inl a3), (5, .inl v5_1)], [], sh, gc_h sh I J A)
              exact L56 (by (/-26-/first | (and_intros; (have o1 := gz_sh f7; omega); (have o1 := gz_sh f7; omega); (omega); (omega); (have o1 := gz_sh hv5_1; omega); (have o1 := gz_sh f3; omega)) | (simp only [gz_hd] at *; omega)))
            · show gv_X _ _ (53, [(0, .inr (.inr (some 1))), (1, .inr (.inl a1)), (3, .inl a2), (4, .inl a3), (5, .inl v5_1)], [], sh, gc_h sh I J A)
              refine gv_run 1 true hD (pcₚ := 55) (lvₚ := [(0, .inr (.inr (some 1))), (1, .inr (.inl a1)), (3, .inl a2), (4, .inl a3), (5, .inl v5_1)]) (stₚ := [.inl v5_1]) (hₚ := gc_h sh I J A) (C := (True ∧ True)) rfl ⟨trivial, trivial⟩ ?_
              exact gv_iret hD rfl ⟨rfl, ⟨_, rfl, by (/-27-/first | (and_intros; (have o1 := gz_sh hv5_1; omega); (have o1 := gz_sh f3; omega)) | (simp only [gz_hd] at *; omega))⟩⟩
  refine gv_run 2 true hD (pcₚ := 3) (lvₚ := [(5, .inl 0), (0, .inr (.inr (some 1))), (1, .inr (.inl a1)), (3, .inl a2), (4, .inl a3)]) (stₚ := []) (hₚ := gc_h sh I J A) (C := ((True ∧ True) ∧ True)) rfl ⟨⟨trivial, trivial⟩, trivial⟩ ?_
  refine gv_pick [1, 2, 3, 4, 0] rfl ?_
  exact L3 _ 0 (Nat.lt_succ_self _) (by (/-28-/first | (and_intros <;> omega) | (simp only [gz_hd] at *; omega)))
set_option maxHeartbeats 8000000 in
set_option maxRecDepth 100000 in
theorem d_X8_sizeOf {ws0 : List Cond} {tb : String → gz_T} (hws : gc_Ws ws0) (htb : gc_tbs tb) (sh : gz_Sh) (ro : Nat → Nat) (I : gr_I) (J : gr_J) (A : gc_A) (hI : gc_Inv ro I) (a1 : Int) (hb : gc_Base sh ro A) (ha1 : (-2147483648) ≤ a1 ∧ a1 ≤ 2147483647)  : ∃ r hₚ, gz_Ev ws0 tb 1 (yX8_sizeOf, cX8_sizeOf, 2, (some .int)) [.inr (.inr (some 1)), .inl a1] sh (gc_h sh I J A) r sh hₚ 0 0 ∧ (hₚ = gc_h sh I J A ∧ (∃ z : Int, r = some (.inl z) ∧ 0 ≤ z ∧ z ≤ 96)) := by
  have A_1_0 : A 1 0 = some 2 := gc_bA_1_0 hb
  have A_1_1 : A 1 1 = some 4 := gc_bA_1_1 hb
  have A_1_2 : A 1 2 = some 6 := gc_bA_1_2 hb
  have A_1_3 : A 1 3 = some 8 := gc_bA_1_3 hb
  have B_1 := gz_hi (show 1 < 1000000 from by decide)
  have B_2 := gz_hi (show 2 < 1000000 from by decide)
  have B_4 := gz_hi (show 4 < 1000000 from by decide)
  have B_6 := gz_hi (show 6 < 1000000 from by decide)
  have B_8 := gz_hi (show 8 < 1000000 from by decide)
  have R_1 := gz_hi (show ro 1 = 22 from gc_bR_1 hb)
  have R_2 := gz_hi (show ro 2 = 9 from gc_bR_2 hb)
  have R_4 := gz_hi (show ro 4 = 11 from gc_bR_4 hb)
  have R_6 := gz_hi (show ro 6 = 6 from gc_bR_6 hb)
  have R_8 := gz_hi (show ro 8 = 6 from gc_bR_8 hb)
  have S_1 : sh[1]? = some (false, 8, 21) := gc_bS_1 hb
  have S_2 : sh[2]? = some (false, 4, 2) := gc_bS_2 hb
  have S_4 : sh[4]? = some (false, 4, 2) := gc_bS_4 hb
  have S_6 : sh[6]? = some (false, 4, 2) := gc_bS_6 hb
  have S_8 : sh[8]? = some (false, 4, 2) := gc_bS_8 hb
  have hD : gv_D (gc_E8 ws0 tb 0 (yX8_sizeOf, cX8_sizeOf, 2, (some .int)) kX8_sizeOf) := gq_of oX8_sizeOf
  refine gc_ev8 (d := 0) (l := kX8_sizeOf) (Po := fun r hₚ => (hₚ = gc_h sh I J A ∧ (∃ z : Int, r = some (.inl z) ∧ 0 ≤ z ∧ z ≤ 96))) htb rfl (Nat.le_of_ble_eq_true rfl) ?_
  refine gv_run 1 true hD (pcₚ := 1) (lvₚ := [(0, .inr (.inr (some 1))), (1, .inl a1)]) (stₚ := [.inl a1]) (hₚ := gc_h sh I J A) (C := (True ∧ True)) rfl ⟨trivial, trivial⟩ ?_
  by_cases c1 : a1 = 0
  · refine gv_tabAt hD 0 rfl ⟨by (/-0-/first | omega | (simp only [gz_hd] at *; omega)), by (/-1-/first | omega | (simp only [gz_hd] at *; omega))⟩ c1 ⟨by decide, by decide⟩ rfl (t := 32) rfl ?_
    refine gv_run 1 true hD (pcₚ := 33) (lvₚ := [(0, .inr (.inr (some 1))), (1, .inl a1)]) (stₚ := [.inr (.inr (some 1))]) (hₚ := gc_h sh I J A) (C := (True ∧ True)) rfl ⟨trivial, trivial⟩ ?_
    refine gv_get hD rfl rfl S_1 ⟨by decide, (gz_sh B_1)⟩ (gc_hA S_1 rfl A_1_3) ?_
    show gv_X _ _ (36, [(0, .inr (.inr (some 1))), (1, .inl a1)], [.inr (.inr (some 8))], sh, gc_h sh I J A)
    have f2 := gz_hi ((gc_b_6_1 hI (gz_sh R_8)))
    refine gv_get hD rfl rfl S_8 ⟨by decide, (gz_sh B_8)⟩ (gc_hI S_8 rfl) ?_
    show gv_X _ _ (39, [(0, .inr (.inr (some 1))), (1, .inl a1)], [.inl (I 8 1)], sh, gc_h sh I J A)
    exact gv_iret hD rfl ⟨rfl, ⟨_, rfl, by (/-2-/first | (and_intros; (have o1 := gz_sh f2; omega); (have o1 := gz_sh f2; omega)) | (simp only [gz_hd] at *; omega))⟩⟩
  by_cases c3 : a1 = 1
  · refine gv_tabAt hD 1 rfl ⟨by (/-3-/first | omega | (simp only [gz_hd] at *; omega)), by (/-4-/first | omega | (simp only [gz_hd] at *; omega))⟩ c3 ⟨by decide, by decide⟩ rfl (t := 40) rfl ?_
    refine gv_run 1 true hD (pcₚ := 41) (lvₚ := [(0, .inr (.inr (some 1))), (1, .inl a1)]) (stₚ := [.inr (.inr (some 1))]) (hₚ := gc_h sh I J A) (C := (True ∧ True)) rfl ⟨trivial, trivial⟩ ?_
    refine gv_get hD rfl rfl S_1 ⟨by decide, (gz_sh B_1)⟩ (gc_hA S_1 rfl A_1_0) ?_
    show gv_X _ _ (44, [(0, .inr (.inr (some 1))), (1, .inl a1)], [.inr (.inr (some 2))], sh, gc_h sh I J A)
    have f4 := gz_hi ((gc_b_9_1 hI (gz_sh R_2)))
    refine gv_get hD rfl rfl S_2 ⟨by decide, (gz_sh B_2)⟩ (gc_hI S_2 rfl) ?_
    show gv_X _ _ (47, [(0, .inr (.inr (some 1))), (1, .inl a1)], [.inl (I 2 1)], sh, gc_h sh I J A)
    exact gv_iret hD rfl ⟨rfl, ⟨_, rfl, by (/-5-/first | (and_intros; (have o1 := gz_sh f4; omega); (have o1 := gz_sh f4; omega)) | (simp only [gz_hd] at *; omega))⟩⟩
  by_cases c5 : a1 = 2
  · refine gv_tabAt hD 2 rfl ⟨by (/-6-/first | omega | (simp only [gz_hd] at *; omega)), by (/-7-/first | omega | (simp only [gz_hd] at *; omega))⟩ c5 ⟨by decide, by decide⟩ rfl (t := 48) rfl ?_
    refine gv_run 1 true hD (pcₚ := 49) (lvₚ := [(0, .inr (.inr (some 1))), (1, .inl a1)]) (stₚ := [.inr (.inr (some 1))]) (hₚ := gc_h sh I J A) (C := (True ∧ True)) rfl ⟨trivial, trivial⟩ ?_
    refine gv_get hD rfl rfl S_1 ⟨by decide, (gz_sh B_1)⟩ (gc_hA S_1 rfl A_1_1) ?_
    show gv_X _ _ (52, [(0, .inr (.inr (some 1))), (1, .inl a1)], [.inr (.inr (some 4))], sh, gc_h sh I J A)
    have f6 := gz_hi ((gc_b_11_1 hI (gz_sh R_4)))
    refine gv_get hD rfl rfl S_4 ⟨by decide, (gz_sh B_4)⟩ (gc_hI S_4 rfl) ?_
    show gv_X _ _ (55, [(0, .inr (.inr (some 1))), (1, .inl a1)], [.inl (I 4 1)], sh, gc_h sh I J A)
    exact gv_iret hD rfl ⟨rfl, ⟨_, rfl, by (/-8-/first | (have o1 := gz_sh f6; omega) | (simp only [gz_hd] at *; omega))⟩⟩
  by_cases c7 : a1 = 3
  · refine gv_tabAt hD 3 rfl ⟨by (/-9-/first | omega | (simp only [gz_hd] at *; omega)), by (/-10-/first | omega | (simp only [gz_hd] at *; omega))⟩ c7 ⟨by decide, by decide⟩ rfl (t := 56) rfl ?_
    refine gv_run 1 true hD (pcₚ := 57) (lvₚ := [(0, .inr (.inr (some 1))), (1, .inl a1)]) (stₚ := [.inr (.inr (some 1))]) (hₚ := gc_h sh I J A) (C := (True ∧ True)) rfl ⟨trivial, trivial⟩ ?_
    refine gv_get hD rfl rfl S_1 ⟨by decide, (gz_sh B_1)⟩ (gc_hA S_1 rfl A_1_2) ?_
    show gv_X _ _ (60, [(0, .inr (.inr (some 1))), (1, .inl a1)], [.inr (.inr (some 6))], sh, gc_h sh I J A)
    have f8 := gz_hi ((gc_b_6_1 hI (gz_sh R_6)))
    refine gv_get hD rfl rfl S_6 ⟨by decide, (gz_sh B_6)⟩ (gc_hI S_6 rfl) ?_
    show gv_X _ _ (63, [(0, .inr (.inr (some 1))), (1, .inl a1)], [.inl (I 6 1)], sh, gc_h sh I J A)
    exact gv_iret hD rfl ⟨rfl, ⟨_, rfl, by (/-11-/first | (and_intros; (have o1 := gz_sh f8; omega); (have o1 := gz_sh f8; omega)) | (simp only [gz_hd] at *; omega))⟩⟩
  refine gv_tabOut hD rfl ⟨by (/-12-/first | omega | (simp only [gz_hd] at *; omega)), by (/-13-/first | omega | (simp only [gz_hd] at *; omega))⟩ (by (/-14-/first | omega | (simp only [gz_hd] at *; omega))) (t := 64) rfl ?_
  refine gv_run 1 true hD (pcₚ := 65) (lvₚ := [(0, .inr (.inr (some 1))), (1, .inl a1)]) (stₚ := [.inr (.inr (some 1))]) (hₚ := gc_h sh I J A) (C := (True ∧ True)) rfl ⟨trivial, trivial⟩ ?_
  have f9 := gz_hi ((gc_b_22_13 hI (gz_sh R_1)))
  refine gv_get hD rfl rfl S_1 ⟨by decide, (gz_sh B_1)⟩ (gc_hI S_1 rfl) ?_
  show gv_X _ _ (68, [(0, .inr (.inr (some 1))), (1, .inl a1)], [.inl (I 1 13)], sh, gc_h sh I J A)
  exact gv_iret hD rfl ⟨rfl, ⟨_, rfl, by (/-15-/first | (and_intros; (have o1 := gz_sh f9; omega); (have o1 := gz_sh f9; omega)) | (simp only [gz_hd] at *; omega))⟩⟩
