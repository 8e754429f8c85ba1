theorem gc_rg_set {n k : Nat} {I Iₚ : gr_I} {m lo hi hi' : Int} (h : gc_rg n I m lo hi) (p : ∀ q j, ¬ (q = n ∧ j = k) → Iₚ q j = I q j) (hz : lo ≤ Iₚ n k ∧ Iₚ n k ≤ hi') (e : hi ≤ hi') : gc_rg n Iₚ m lo hi' := fun j a b => by
  by_cases hk : Int.toNat j = k
  · rw [hk]; exact hz
  · rw [p n _ (fun q => hk q.2)]
    have := h j a b
    omega
theorem gc_rg_fill {n m : Nat} {Iₚ : gr_I} {z lo hi : Int} (hq : ∀ j, j < m → Iₚ n j = z) (h : lo ≤ z ∧ z ≤ hi) : gc_rg n Iₚ (m : Int) lo hi := fun j a b => by rw [hq _ (by omega)]; exact h
set_option maxHeartbeats 8000000 in
set_option maxRecDepth 100000 in
theorem d_X1_tellGuess {ws0 : List Cond} {tb : String → gz_T} (hws : gc_Ws ws0) (htb : gc_tbs tb) (sh : gz_Sh) (ro : Nat → Nat) (I : gr_I) (J : gr_J) (A : gc_A) (hI : gc_Inv ro I) (a1 : Int) (a2 : Int) (hb : gc_Base sh ro A) (ha1 : (-2147483648) ≤ a1 ∧ a1 ≤ 2147483647) (ha2 : (-2147483648) ≤ a2 ∧ a2 ≤ 2147483647)  : ∃ r hₚ, gz_Ev ws0 tb 1 (yX1_tellGuess, cX1_tellGuess, 3, (some .int)) [.inr (.inr (some 100)), .inl a1, .inl a2] sh (gc_h sh I J A) r sh hₚ 0 0 ∧ (hₚ = gc_h sh I J A ∧ (∃ z : Int, r = some (.inl z) ∧ (-1) ≤ z ∧ z ≤ 1536)) := by
  have A_100_5 : A 100 5 = some 102 := gc_bA_100_5 hb
  have A_100_6 : A 100 6 = some 103 := gc_bA_100_6 hb
  have B_100 := gz_hi (show 100 < 1000000 from by decide)
  have B_102 := gz_hi (show 102 < 1000000 from by decide)
  have B_103 := gz_hi (show 103 < 1000000 from by decide)
  have R_100 := gz_hi (show ro 100 = 75 from gc_bR_100 hb)
  have R_102 := gz_hi (show ro 102 = 65 from gc_bR_102 hb)
  have R_103 := gz_hi (show ro 103 = 66 from gc_bR_103 hb)
  have S_100 : sh[100]? = some (false, 1, 19) := gc_bS_100 hb
  have S_102 : sh[102]? = some (true, 1, 24) := gc_bS_102 hb
  have S_103 : sh[103]? = some (true, 1, 24) := gc_bS_103 hb
  have hD : gv_D (gc_E1 ws0 tb 0 (yX1_tellGuess, cX1_tellGuess, 3, (some .int)) kX1_tellGuess) := gq_of oX1_tellGuess
  refine gc_ev1 (d := 0) (l := kX1_tellGuess) (Po := fun r hₚ => (hₚ = gc_h sh I J A ∧ (∃ z : Int, r = some (.inl z) ∧ (-1) ≤ z ∧ z ≤ 1536))) htb rfl (Nat.le_of_ble_eq_true rfl) ?_
  have L12 : gv_X (gc_E1 ws0 tb 0 (yX1_tellGuess, cX1_tellGuess, 3, (some .int)) kX1_tellGuess) (gv_Q cX1_tellGuess (some .int) sh (fun r hₚ => (hₚ = gc_h sh I J A ∧ (∃ z : Int, r = some (.inl z) ∧ (-1) ≤ z ∧ z ≤ 1536)))) (12, [], [], sh, gc_h sh I J A) := by
    refine gv_run 1 true hD (pcₚ := 13) (lvₚ := []) (stₚ := [.inl (-1)]) (hₚ := gc_h sh I J A) (C := (True ∧ True)) rfl ⟨trivial, trivial⟩ ?_
    exact gv_iret hD rfl ⟨rfl, ⟨_, rfl, by (/-0-/first | (and_intros <;> omega) | (simp only [gz_hd] at *; omega))⟩⟩
  refine gv_run 1 true hD (pcₚ := 1) (lvₚ := [(0, .inr (.inr (some 100))), (1, .inl a1), (2, .inl a2)]) (stₚ := [.inl a1]) (hₚ := gc_h sh I J A) (C := (True ∧ True)) rfl ⟨trivial, trivial⟩ ?_
  refine gv_if_lt (t := 12) hD rfl rfl ⟨by (/-1-/first | omega | (simp only [gz_hd] at *; omega)), by (/-2-/first | omega | (simp only [gz_hd] at *; omega))⟩ (fun c2 => ?_) (fun c2 => ?_)
  · show gv_X _ _ (12, [(0, .inr (.inr (some 100))), (1, .inl a1), (2, .inl a2)], [], sh, gc_h sh I J A)
    refine gv_pick [] rfl ?_
    exact L12 
  · show gv_X _ _ (4, [(0, .inr (.inr (some 100))), (1, .inl a1), (2, .inl a2)], [], sh, gc_h sh I J A)
    refine gv_run 2 true hD (pcₚ := 6) (lvₚ := [(0, .inr (.inr (some 100))), (1, .inl a1), (2, .inl a2)]) (stₚ := [.inr (.inr (some 100)), .inl a1]) (hₚ := gc_h sh I J A) (C := ((True ∧ True) ∧ True)) rfl ⟨⟨trivial, trivial⟩, trivial⟩ ?_
    have f3 := gz_hi ((gc_b_75_4 hI (gz_sh R_100)))
    refine gv_get hD rfl rfl S_100 ⟨by decide, (gz_sh B_100)⟩ (gc_hI S_100 rfl) ?_
    show gv_X _ _ (9, [(0, .inr (.inr (some 100))), (1, .inl a1), (2, .inl a2)], [.inl (I 100 4), .inl a1], sh, gc_h sh I J A)
    refine gv_icmp_lt (t := 14) hD rfl rfl ⟨⟨by (/-3-/first | omega | (simp only [gz_hd] at *; omega)), by (/-4-/first | omega | (simp only [gz_hd] at *; omega))⟩, ⟨by (/-5-/first | (have o1 := gz_sh f3; omega) | (simp only [gz_hd] at *; omega)), by (/-6-/first | (have o1 := gz_sh f3; omega) | (simp only [gz_hd] at *; omega))⟩⟩ (fun c4 => ?_) (fun c4 => ?_)
    · show gv_X _ _ (14, [(0, .inr (.inr (some 100))), (1, .inl a1), (2, .inl a2)], [], sh, gc_h sh I J A)
      refine gv_run 1 true hD (pcₚ := 15) (lvₚ := [(0, .inr (.inr (some 100))), (1, .inl a1), (2, .inl a2)]) (stₚ := [.inl a2]) (hₚ := gc_h sh I J A) (C := (True ∧ True)) rfl ⟨trivial, trivial⟩ ?_
      by_cases c5 : a2 = 0
      · refine gv_tabAt hD 0 rfl ⟨by (/-7-/first | omega | (simp only [gz_hd] at *; omega)), by (/-8-/first | omega | (simp only [gz_hd] at *; omega))⟩ c5 ⟨by decide, by decide⟩ rfl (t := 40) rfl ?_
        refine gv_run 1 true hD (pcₚ := 41) (lvₚ := [(0, .inr (.inr (some 100))), (1, .inl a1), (2, .inl a2)]) (stₚ := [.inr (.inr (some 100))]) (hₚ := gc_h sh I J A) (C := (True ∧ True)) rfl ⟨trivial, trivial⟩ ?_
        refine gv_get hD rfl rfl S_100 ⟨by decide, (gz_sh B_100)⟩ (gc_hA S_100 rfl A_100_5) ?_
        show gv_X _ _ (44, [(0, .inr (.inr (some 100))), (1, .inl a1), (2, .inl a2)], [.inr (.inr (some 102))], sh, gc_h sh I J A)
        refine gv_run 1 true hD (pcₚ := 45) (lvₚ := [(0, .inr (.inr (some 100))), (1, .inl a1), (2, .inl a2)]) (stₚ := [.inl a1, .inr (.inr (some 102))]) (hₚ := gc_h sh I J A) (C := (True ∧ True)) rfl ⟨trivial, trivial⟩ ?_
        have f6 := gz_hi ((gc_b_65 hI (gz_sh R_102) (Int.toNat a1)))
        refine gv_iald hD rfl S_102 rfl ⟨by decide, (gz_sh B_102)⟩ ⟨by (/-9-/first | omega | (simp only [gz_hd] at *; omega)), by (/-10-/first | (have o1 := gz_sh f3; omega) | (simp only [gz_hd] at *; omega))⟩ (gc_iI S_102 rfl) ?_
        show gv_X _ _ (46, [(0, .inr (.inr (some 100))), (1, .inl a1), (2, .inl a2)], [.inl (I 102 (Int.toNat a1))], sh, gc_h sh I J A)
        exact gv_iret hD rfl ⟨rfl, ⟨_, rfl, by (/-11-/first | (and_intros; (have o1 := gz_sh f6; omega); (have o1 := gz_sh f6; omega)) | (simp only [gz_hd] at *; omega))⟩⟩
      by_cases c7 : a2 = 1
      · refine gv_tabAt hD 1 rfl ⟨by (/-12-/first | omega | (simp only [gz_hd] at *; omega)), by (/-13-/first | omega | (simp only [gz_hd] at *; omega))⟩ c7 ⟨by decide, by decide⟩ rfl (t := 47) rfl ?_
        refine gv_run 1 true hD (pcₚ := 48) (lvₚ := [(0, .inr (.inr (some 100))), (1, .inl a1), (2, .inl a2)]) (stₚ := [.inr (.inr (some 100))]) (hₚ := gc_h sh I J A) (C := (True ∧ True)) rfl ⟨trivial, trivial⟩ ?_
        refine gv_get hD rfl rfl S_100 ⟨by decide, (gz_sh B_100)⟩ (gc_hA S_100 rfl A_100_6) ?_
        show gv_X _ _ (51, [(0, .inr (.inr (some 100))), (1, .inl a1), (2, .inl a2)], [.inr (.inr (some 103))], sh, gc_h sh I J A)
        refine gv_run 1 true hD (pcₚ := 52) (lvₚ := [(0, .inr (.inr (some 100))), (1, .inl a1), (2, .inl a2)]) (stₚ := [.inl a1, .inr (.inr (some 103))]) (hₚ := gc_h sh I J A) (C := (True ∧ True)) rfl ⟨trivial, trivial⟩ ?_
        have f8 := gz_hi ((gc_b_66 hI (gz_sh R_103) (Int.toNat a1)))
        refine gv_iald hD rfl S_103 rfl ⟨by decide, (gz_sh B_103)⟩ ⟨by (/-14-/first | omega | (simp only [gz_hd] at *; omega)), by (/-15-/first | (have o1 := gz_sh f3; omega) | (simp only [gz_hd] at *; omega))⟩ (gc_iI S_103 rfl) ?_
        show gv_X _ _ (53, [(0, .inr (.inr (some 100))), (1, .inl a1), (2, .inl a2)], [.inl (I 103 (Int.toNat a1))], sh, gc_h sh I J A)
        exact gv_iret hD rfl ⟨rfl, ⟨_, rfl, by (/-16-/first | (and_intros; (have o1 := gz_sh f8; omega); (have o1 := gz_sh f8; omega)) | (simp only [gz_hd] at *; omega))⟩⟩
      by_cases c9 : a2 = 2
      · refine gv_tabAt hD 2 rfl ⟨by (/-17-/first | omega | (simp only [gz_hd] at *; omega)), by (/-18-/first | omega | (simp only [gz_hd] at *; omega))⟩ c9 ⟨by decide, by decide⟩ rfl (t := 54) rfl ?_
        refine gv_run 1 true hD (pcₚ := 55) (lvₚ := [(0, .inr (.inr (some 100))), (1, .inl a1), (2, .inl a2)]) (stₚ := [.inr (.inr (some 100))]) (hₚ := gc_h sh I J A) (C := (True ∧ True)) rfl ⟨trivial, trivial⟩ ?_
        have f10 := gz_hi ((gc_b_75_7 hI (gz_sh R_100)))
        refine gv_get hD rfl rfl S_100 ⟨by decide, (gz_sh B_100)⟩ (gc_hI S_100 rfl) ?_
        show gv_X _ _ (58, [(0, .inr (.inr (some 100))), (1, .inl a1), (2, .inl a2)], [.inl (I 100 7)], sh, gc_h sh I J A)
        exact gv_iret hD rfl ⟨rfl, ⟨_, rfl, by (/-19-/first | (and_intros; (have o1 := gz_sh f10; omega); (have o1 := gz_sh f10; omega)) | (simp only [gz_hd] at *; omega))⟩⟩
      refine gv_tabOut hD rfl ⟨by (/-20-/first | omega | (simp only [gz_hd] at *; omega)), by (/-21-/first | omega | (simp only [gz_hd] at *; omega))⟩ (by (/-22-/first | omega | (simp only [gz_hd] at *; omega))) (t := 59) rfl ?_
      refine gv_run 1 true hD (pcₚ := 60) (lvₚ := [(0, .inr (.inr (some 100))), (1, .inl a1), (2, .inl a2)]) (stₚ := [.inr (.inr (some 100))]) (hₚ := gc_h sh I J A) (C := (True ∧ True)) rfl ⟨trivial, trivial⟩ ?_
      have f11 := gz_hi ((gc_b_75_8 hI (gz_sh R_100)))
      refine gv_get hD rfl rfl S_100 ⟨by decide, (gz_sh B_100)⟩ (gc_hI S_100 rfl) ?_
      show gv_X _ _ (63, [(0, .inr (.inr (some 100))), (1, .inl a1), (2, .inl a2)], [.inl (I 100 8)], sh, gc_h sh I J A)
      exact gv_iret hD rfl ⟨rfl, ⟨_, rfl, by (/-23-/first | (and_intros; (have o1 := gz_sh f11; omega); (have o1 := gz_sh f11; omega)) | (simp only [gz_hd] at *; omega))⟩⟩
    · show gv_X _ _ (12, [(0, .inr (.inr (some 100))), (1, .inl a1), (2, .inl a2)], [], sh, gc_h sh I J A)
      refine gv_pick [] rfl ?_
      exact L12 
set_option maxHeartbeats 8000000 in
set_option maxRecDepth 100000 in
theorem d_X1_tellHit {ws0 : List Cond} {tb : String → gz_T} (hws : gc_Ws ws0) (htb : gc_tbs tb) (sh : gz_Sh) (ro : Nat → Nat) (I : gr_I) (J : gr_J) (A : gc_A) (hI : gc_Inv ro I) (a1 : Int) (a2 : Int) (hb : gc_Base sh ro A) (ha1 : (-2147483648) ≤ a1 ∧ a1 ≤ 2147483647) (ha2 : (-2147483648) ≤ a2 ∧ a2 ≤ 2147483647)  : ∃ r hₚ, gz_Ev ws0 tb 1 (yX1_tellHit, cX1_tellHit, 3, (some .int)) [.inr (.inr (some 100)), .inl a1, .inl a2] sh (gc_h sh I J A) r sh hₚ 0 0 ∧ (hₚ = gc_h sh I J A ∧ (∃ z : Int, r = some (.inl z) ∧ (-1) ≤ z ∧ z ≤ 99)) := by
  have A_100_15 : A 100 15 = some 111 := gc_bA_100_15 hb
  have A_100_16 : A 100 16 = some 112 := gc_bA_100_16 hb
  have B_100 := gz_hi (show 100 < 1000000 from by decide)
  have B_111 := gz_hi (show 111 < 1000000 from by decide)
  have B_112 := gz_hi (show 112 < 1000000 from by decide)
  have R_100 := gz_hi (show ro 100 = 75 from gc_bR_100 hb)
  have R_111 := gz_hi (show ro 111 = 67 from gc_bR_111 hb)
  have R_112 := gz_hi (show ro 112 = 65 from gc_bR_112 hb)
  have S_100 : sh[100]? = some (false, 1, 19) := gc_bS_100 hb
  have S_111 : sh[111]? = some (true, 1, 2400) := gc_bS_111 hb
  have S_112 : sh[112]? = some (true, 1, 2400) := gc_bS_112 hb
  have hD : gv_D (gc_E1 ws0 tb 0 (yX1_tellHit, cX1_tellHit, 3, (some .int)) kX1_tellHit) := gq_of oX1_tellHit
  refine gc_ev1 (d := 0) (l := kX1_tellHit) (Po := fun r hₚ => (hₚ = gc_h sh I J A ∧ (∃ z : Int, r = some (.inl z) ∧ (-1) ≤ z ∧ z ≤ 99))) htb rfl (Nat.le_of_ble_eq_true rfl) ?_
  have L12 : gv_X (gc_E1 ws0 tb 0 (yX1_tellHit, cX1_tellHit, 3, (some .int)) kX1_tellHit) (gv_Q cX1_tellHit (some .int) sh (fun r hₚ => (hₚ = gc_h sh I J A ∧ (∃ z : Int, r = some (.inl z) ∧ (-1) ≤ z ∧ z ≤ 99)))) (12, [], [], sh, gc_h sh I J A) := by
    refine gv_run 1 true hD (pcₚ := 13) (lvₚ := []) (stₚ := [.inl (-1)]) (hₚ := gc_h sh I J A) (C := (True ∧ True)) rfl ⟨trivial, trivial⟩ ?_
    exact gv_iret hD rfl ⟨rfl, ⟨_, rfl, by (/-0-/first | (and_intros <;> omega) | (simp only [gz_hd] at *; omega))⟩⟩
  have L33 : ∀ (s0_2 : Int), ((0 ≤ s0_2 ∧ s0_2 ≤ 99)) → gv_X (gc_E1 ws0 tb 0 (yX1_tellHit, cX1_tellHit, 3, (some .int)) kX1_tellHit) (gv_Q cX1_tellHit (some .int) sh (fun r hₚ => (hₚ = gc_h sh I J A ∧ (∃ z : Int, r = some (.inl z) ∧ (-1) ≤ z ∧ z ≤ 99)))) (33, [], [.inl s0_2], sh, gc_h sh I J A) := by
    intro s0_2 m_2
    have hs0_2 := m_2
    exact gv_iret hD rfl ⟨rfl, ⟨_, rfl, by (/-1-/first | (and_intros <;> omega) | (simp only [gz_hd] at *; omega))⟩⟩
  refine gv_run 1 true hD (pcₚ := 1) (lvₚ := [(0, .inr (.inr (some 100))), (1, .inl a1), (2, .inl a2)]) (stₚ := [.inl a1]) (hₚ := gc_h sh I J A) (C := (True ∧ True)) rfl ⟨trivial, trivial⟩ ?_
  refine gv_if_lt (t := 12) hD rfl rfl ⟨by (/-2-/first | omega | (simp only [gz_hd] at *; omega)), by (/-3-/first | omega | (simp only [gz_hd] at *; omega))⟩ (fun c3 => ?_) (fun c3 => ?_)
  · show gv_X _ _ (12, [(0, .inr (.inr (some 100))), (1, .inl a1), (2, .inl a2)], [], sh, gc_h sh I J A)
    refine gv_pick [] rfl ?_
    exact L12 
  · show gv_X _ _ (4, [(0, .inr (.inr (some 100))), (1, .inl a1), (2, .inl a2)], [], sh, gc_h sh I J A)
    refine gv_run 2 true hD (pcₚ := 6) (lvₚ := [(0, .inr (.inr (some 100))), (1, .inl a1), (2, .inl a2)]) (stₚ := [.inr (.inr (some 100)), .inl a1]) (hₚ := gc_h sh I J A) (C := ((True ∧ True) ∧ True)) rfl ⟨⟨trivial, trivial⟩, trivial⟩ ?_
    have f4 := gz_hi ((gc_b_75_14 hI (gz_sh R_100)))
    refine gv_get hD rfl rfl S_100 ⟨by decide, (gz_sh B_100)⟩ (gc_hI S_100 rfl) ?_
    show gv_X _ _ (9, [(0, .inr (.inr (some 100))), (1, .inl a1), (2, .inl a2)], [.inl (I 100 14), .inl a1], sh, gc_h sh I J A)
    refine gv_icmp_lt (t := 14) hD rfl rfl ⟨⟨by (/-4-/first | omega | (simp only [gz_hd] at *; omega)), by (/-5-/first | omega | (simp only [gz_hd] at *; omega))⟩, ⟨by (/-6-/first | (have o1 := gz_sh f4; omega) | (simp only [gz_hd] at *; omega)), by (/-7-/first | (have o1 := gz_sh f4; omega) | (simp only [gz_hd] at *; omega))⟩⟩ (fun c5 => ?_) (fun c5 => ?_)
    · show gv_X _ _ (14, [(0, .inr (.inr (some 100))), (1, .inl a1), (2, .inl a2)], [], sh, gc_h sh I J A)
      refine gv_run 1 true hD (pcₚ := 15) (lvₚ := [(0, .inr (.inr (some 100))), (1, .inl a1), (2, .inl a2)]) (stₚ := [.inl a2]) (hₚ := gc_h sh I J A) (C := (True ∧ True)) rfl ⟨trivial, trivial⟩ ?_
      refine gv_if_ne (t := 27) hD rfl rfl ⟨by (/-8-/first | omega | (simp only [gz_hd] at *; omega)), by (/-9-/first | omega | (simp only [gz_hd] at *; omega))⟩ (fun c6 => ?_) (fun c6 => ?_)
      · show gv_X _ _ (27, [(0, .inr (.inr (some 100))), (1, .inl a1), (2, .inl a2)], [], sh, gc_h sh I J A)
        refine gv_run 1 true hD (pcₚ := 28) (lvₚ := [(0, .inr (.inr (some 100))), (1, .inl a1), (2, .inl a2)]) (stₚ := [.inr (.inr (some 100))]) (hₚ := gc_h sh I J A) (C := (True ∧ True)) rfl ⟨trivial, trivial⟩ ?_
        refine gv_get hD rfl rfl S_100 ⟨by decide, (gz_sh B_100)⟩ (gc_hA S_100 rfl A_100_16) ?_
        show gv_X _ _ (31, [(0, .inr (.inr (some 100))), (1, .inl a1), (2, .inl a2)], [.inr (.inr (some 112))], sh, gc_h sh I J A)
        refine gv_run 1 true hD (pcₚ := 32) (lvₚ := [(0, .inr (.inr (some 100))), (1, .inl a1), (2, .inl a2)]) (stₚ := [.inl a1, .inr (.inr (some 112))]) (hₚ := gc_h sh I J A) (C := (True ∧ True)) rfl ⟨trivial, trivial⟩ ?_
        have f7 := gz_hi ((gc_b_65 hI (gz_sh R_112) (Int.toNat a1)))
        refine gv_iald hD rfl S_112 rfl ⟨by decide, (gz_sh B_112)⟩ ⟨by (/-10-/first | omega | (simp only [gz_hd] at *; omega)), by (/-11-/first | (have o1 := gz_sh f4; omega) | (simp only [gz_hd] at *; omega))⟩ (gc_iI S_112 rfl) ?_
        show gv_X _ _ (33, [(0, .inr (.inr (some 100))), (1, .inl a1), (2, .inl a2)], [.inl (I 112 (Int.toNat a1))], sh, gc_h sh I J A)
        refine gv_pick [] rfl ?_
        exact L33 ((I 112 (Int.toNat a1))) (by (/-12-/first | (and_intros; (have o1 := gz_sh f7; omega); (have o1 := gz_sh f7; omega)) | (simp only [gz_hd] at *; omega)))
      · show gv_X _ _ (18, [(0, .inr (.inr (some 100))), (1, .inl a1), (2, .inl a2)], [], sh, gc_h sh I J A)
        refine gv_run 1 true hD (pcₚ := 19) (lvₚ := [(0, .inr (.inr (some 100))), (1, .inl a1), (2, .inl a2)]) (stₚ := [.inr (.inr (some 100))]) (hₚ := gc_h sh I J A) (C := (True ∧ True)) rfl ⟨trivial, trivial⟩ ?_
        refine gv_get hD rfl rfl S_100 ⟨by decide, (gz_sh B_100)⟩ (gc_hA S_100 rfl A_100_15) ?_
        show gv_X _ _ (22, [(0, .inr (.inr (some 100))), (1, .inl a1), (2, .inl a2)], [.inr (.inr (some 111))], sh, gc_h sh I J A)
        refine gv_run 1 true hD (pcₚ := 23) (lvₚ := [(0, .inr (.inr (some 100))), (1, .inl a1), (2, .inl a2)]) (stₚ := [.inl a1, .inr (.inr (some 111))]) (hₚ := gc_h sh I J A) (C := (True ∧ True)) rfl ⟨trivial, trivial⟩ ?_
        have f8 := gz_hi ((gc_b_67 hI (gz_sh R_111) (Int.toNat a1)))
        refine gv_iald hD rfl S_111 rfl ⟨by decide, (gz_sh B_111)⟩ ⟨by (/-13-/first | omega | (simp only [gz_hd] at *; omega)), by (/-14-/first | (have o1 := gz_sh f4; omega) | (simp only [gz_hd] at *; omega))⟩ (gc_iI S_111 rfl) ?_
        show gv_X _ _ (24, [(0, .inr (.inr (some 100))), (1, .inl a1), (2, .inl a2)], [.inl (I 111 (Int.toNat a1))], sh, gc_h sh I J A)
        refine gv_run 1 true hD (pcₚ := 33) (lvₚ := [(0, .inr (.inr (some 100))), (1, .inl a1), (2, .inl a2)]) (stₚ := [.inl (I 111 (Int.toNat a1))]) (hₚ := gc_h sh I J A) (C := (True ∧ True)) rfl ⟨trivial, trivial⟩ ?_
        refine gv_pick [] rfl ?_
        exact L33 ((I 111 (Int.toNat a1))) (by (/-15-/first | (have o1 := gz_sh f8; omega) | (simp only [gz_hd] at *; omega)))
    · show gv_X _ _ (12, [(0, .inr (.inr (some 100))), (1, .inl a1), (2, .inl a2)], [], sh, gc_h sh I J A)
      refine gv_pick [] rfl ?_
      exact L12 
set_option maxHeartbeats 8000000 in
set_option maxRecDepth 100000 in
theorem d_X1_noteAnalyses {ws0 : List Cond} {tb : String → gz_T} (hws : gc_Ws ws0) (htb : gc_tbs tb) (sh : gz_Sh) (ro : Nat → Nat) (I : gr_I) (J : gr_J) (A : gc_A) (hI : gc_Inv ro I) (a1 : Int) (a2 : Nat) (a3 : Nat) (hb : gc_Base sh ro A) (h_a2 : gc_isTongue sh ro A a2) (G_a2 : 144 ≤ a2) (h_a3 : gc_isText sh ro A a3) (G_a3 : a3 + 3 < 39) (ha1 : 0 ≤ a1 ∧ a1 ≤ 7)  : ∃ r hₚ, gz_Ev ws0 tb 3 (yX1_noteAnalyses, cX1_noteAnalyses, 4, (some .int)) [.inr (.inr (some 100)), .inl a1, .inr (.inr (some a2)), .inr (.inr (some a3))] sh (gc_h sh I J A) r sh hₚ 0 0 ∧ (∃ (Iₚ : gr_I) (Jₚ : gr_J), hₚ = gc_h sh Iₚ Jₚ A ∧ gc_Inv ro Iₚ ∧ (∀ q j : Nat, ((q = 100 ∧ j = 2) ∨ (q = 100 ∧ j = 1) ∨ q = 101 ∨ q = (a2 + 22)) ∨ Iₚ q j = I q j) ∧ (∀ q j : Nat, (False) ∨ Jₚ q j = J q j) ∧ (∃ z : Int, r = some (.inl z) ∧ (-3) ≤ z ∧ z ≤ 1536 ∧ (z = Iₚ 100 2 ∨ Iₚ 100 2 = 0) ∧ (Iₚ 100 2 = 0 ∨ Iₚ 100 1 = a1))) := by
  have FI : ∀ q j : Nat, ((q = 100 ∧ j = 2) ∨ (q = 100 ∧ j = 1) ∨ q = 101 ∨ q = (a2 + 22)) ∨ I q j = I q j := fun _ _ => Or.inr rfl
  have FJ : ∀ q j : Nat, (False) ∨ J q j = J q j := fun _ _ => Or.inr rfl
  have A_100_3 : A 100 3 = some 101 := gc_bA_100_3 hb
  have B_100 := gz_hi (show 100 < 1000000 from by decide)
  have B_101 := gz_hi (show 101 < 1000000 from by decide)
  have R_100 := gz_hi (show ro 100 = 75 from gc_bR_100 hb)
  have R_101 := gz_hi (show ro 101 = 35 from gc_bR_101 hb)
  have S_100 : sh[100]? = some (false, 1, 19) := gc_bS_100 hb
  have S_101 : sh[101]? = some (true, 1, 1536) := gc_bS_101 hb
  obtain ⟨S_a2, R_a2, B_a2, A_a2_0, h_a2_1, A_a2_1, h_a2_3, A_a2_2, S_a2_5, R_a2_5, B_a2_5, A_a2_3, S_a2_6, R_a2_6, B_a2_6, A_a2_4, h_a2_7, A_a2_5, S_a2_9, R_a2_9, B_a2_9, A_a2_7, S_a2_10, R_a2_10, B_a2_10, A_a2_8, h_a2_11, A_a2_9, S_a2_13, R_a2_13, B_a2_13, A_a2_10, S_a2_14, R_a2_14, B_a2_14, A_a2_12, S_a2_15, R_a2_15, B_a2_15, A_a2_14, S_a2_16, R_a2_16, B_a2_16, A_a2_15, h_a2_17⟩ := id h_a2
  replace R_a2 := gz_hi R_a2
  replace B_a2 := gz_hi B_a2
  replace R_a2_5 := gz_hi R_a2_5
  replace B_a2_5 := gz_hi B_a2_5
  replace R_a2_6 := gz_hi R_a2_6
  replace B_a2_6 := gz_hi B_a2_6
  replace R_a2_9 := gz_hi R_a2_9
  replace B_a2_9 := gz_hi B_a2_9
  replace R_a2_10 := gz_hi R_a2_10
  replace B_a2_10 := gz_hi B_a2_10
  replace R_a2_13 := gz_hi R_a2_13
  replace B_a2_13 := gz_hi B_a2_13
  replace R_a2_14 := gz_hi R_a2_14
  replace B_a2_14 := gz_hi B_a2_14
  replace R_a2_15 := gz_hi R_a2_15
  replace B_a2_15 := gz_hi B_a2_15
  replace R_a2_16 := gz_hi R_a2_16
  replace B_a2_16 := gz_hi B_a2_16
  obtain ⟨S_a2_1, R_a2_1, B_a2_1, A_a2_1_0, S_a2_1_1, R_a2_1_1, B_a2_1_1, Q0_a2_1, Q1_a2_1, Q2_a2_1⟩ := id h_a2_1
  replace R_a2_1 := gz_hi R_a2_1
  replace B_a2_1 := gz_hi B_a2_1
  replace R_a2_1_1 := gz_hi R_a2_1_1
  replace B_a2_1_1 := gz_hi B_a2_1_1
  obtain ⟨S_a2_3, R_a2_3, B_a2_3, A_a2_3_0, S_a2_3_1, R_a2_3_1, B_a2_3_1, Q0_a2_3, Q1_a2_3, Q2_a2_3⟩ := id h_a2_3
  replace R_a2_3 := gz_hi R_a2_3
  replace B_a2_3 := gz_hi B_a2_3
  replace R_a2_3_1 := gz_hi R_a2_3_1
  replace B_a2_3_1 := gz_hi B_a2_3_1
  obtain ⟨S_a2_7, R_a2_7, B_a2_7, A_a2_7_0, S_a2_7_1, R_a2_7_1, B_a2_7_1, Q0_a2_7, Q1_a2_7, Q2_a2_7⟩ := id h_a2_7
  replace R_a2_7 := gz_hi R_a2_7
  replace B_a2_7 := gz_hi B_a2_7
  replace R_a2_7_1 := gz_hi R_a2_7_1
  replace B_a2_7_1 := gz_hi B_a2_7_1
  obtain ⟨S_a2_11, R_a2_11, B_a2_11, A_a2_11_0, S_a2_11_1, R_a2_11_1, B_a2_11_1, Q0_a2_11, Q1_a2_11, Q2_a2_11⟩ := id h_a2_11
  replace R_a2_11 := gz_hi R_a2_11
  replace B_a2_11 := gz_hi B_a2_11
  replace R_a2_11_1 := gz_hi R_a2_11_1
  replace B_a2_11_1 := gz_hi B_a2_11_1
  obtain ⟨S_a2_17, R_a2_17, B_a2_17, A_a2_17_0, S_20, R_20, B_20, A_a2_17_1, S_a2_17_1, R_a2_17_1, B_a2_17_1, A_a2_17_2, S_a2_17_2, R_a2_17_2, B_a2_17_2, A_a2_17_3, S_a2_17_3, R_a2_17_3, B_a2_17_3, A_a2_17_4, S_a2_17_4, R_a2_17_4, B_a2_17_4, A_a2_17_5, S_a2_17_5, R_a2_17_5, B_a2_17_5, S_a2_17_6, R_a2_17_6, B_a2_17_6, S_a2_17_7, R_a2_17_7, B_a2_17_7⟩ := id h_a2_17
  replace R_a2_17 := gz_hi R_a2_17
  replace B_a2_17 := gz_hi B_a2_17
  replace R_20 := gz_hi R_20
  replace B_20 := gz_hi B_20
  replace R_a2_17_1 := gz_hi R_a2_17_1
  replace B_a2_17_1 := gz_hi B_a2_17_1
  replace R_a2_17_2 := gz_hi R_a2_17_2
  replace B_a2_17_2 := gz_hi B_a2_17_2
  replace R_a2_17_3 := gz_hi R_a2_17_3
  replace B_a2_17_3 := gz_hi B_a2_17_3
  replace R_a2_17_4 := gz_hi R_a2_17_4
  replace B_a2_17_4 := gz_hi B_a2_17_4
  replace R_a2_17_5 := gz_hi R_a2_17_5
  replace B_a2_17_5 := gz_hi B_a2_17_5
  replace R_a2_17_6 := gz_hi R_a2_17_6
  replace B_a2_17_6 := gz_hi B_a2_17_6
  replace R_a2_17_7 := gz_hi R_a2_17_7
  replace B_a2_17_7 := gz_hi B_a2_17_7
  obtain ⟨S_a3, R_a3, B_a3, A_a3_0, S_a3_1, R_a3_1, B_a3_1, A_a3_2, S_a3_2, R_a3_2, B_a3_2, A_a3_3, S_a3_3, R_a3_3, B_a3_3⟩ := id h_a3
  replace R_a3 := gz_hi R_a3
  replace B_a3 := gz_hi B_a3
  replace R_a3_1 := gz_hi R_a3_1
  replace B_a3_1 := gz_hi B_a3_1
  replace R_a3_2 := gz_hi R_a3_2
  replace B_a3_2 := gz_hi B_a3_2
  replace R_a3_3 := gz_hi R_a3_3
  replace B_a3_3 := gz_hi B_a3_3
  have hD : gv_D (gc_E1 ws0 tb 2 (yX1_noteAnalyses, cX1_noteAnalyses, 4, (some .int)) kX1_noteAnalyses) := gq_of oX1_noteAnalyses
  refine gc_ev1 (d := 2) (l := kX1_noteAnalyses) (Po := fun r hₚ => (∃ (Iₚ : gr_I) (Jₚ : gr_J), hₚ = gc_h sh Iₚ Jₚ A ∧ gc_Inv ro Iₚ ∧ (∀ q j : Nat, ((q = 100 ∧ j = 2) ∨ (q = 100 ∧ j = 1) ∨ q = 101 ∨ q = (a2 + 22)) ∨ Iₚ q j = I q j) ∧ (∀ q j : Nat, (False) ∨ Jₚ q j = J q j) ∧ (∃ z : Int, r = some (.inl z) ∧ (-3) ≤ z ∧ z ≤ 1536 ∧ (z = Iₚ 100 2 ∨ Iₚ 100 2 = 0) ∧ (Iₚ 100 2 = 0 ∨ Iₚ 100 1 = a1)))) htb rfl (Nat.le_of_ble_eq_true rfl) ?_
  have N_a3__100 := gz_hi (show ¬ (a3 = 100) from by (/-0-/first | omega | (simp only [gz_hd] at *; omega)))
  have N_a3__a2_22 := gz_hi (show ¬ (a3 = (a2 + 22)) from by (/-1-/first | (have o1 := gz_sh B_a2; have o2 := gz_sh B_a2_10; have o3 := gz_sh B_a2_13; have o4 := gz_sh B_a2_14; have o5 := gz_sh B_a2_15; have o6 := gz_sh B_a2_16; have o7 := gz_sh B_a2_17; have o8 := gz_sh B_a2_17_1; have o9 := gz_sh B_a2_17_2; have o10 := gz_sh B_a2_17_3; have o11 := gz_sh B_a2_17_4; have o12 := gz_sh B_a2_17_5; have o13 := gz_sh B_a2_17_6; have o14 := gz_sh B_a2_17_7; have o15 := gz_sh B_a2_5; have o16 := gz_sh B_a2_6; have o17 := gz_sh B_a2_9; omega) | (simp only [gz_hd] at *; omega)))
  have N_100__a2_22 := gz_hi (show ¬ (100 = (a2 + 22)) from by (/-2-/first | (have o1 := gz_sh B_a2; have o2 := gz_sh B_a2_10; have o3 := gz_sh B_a2_13; have o4 := gz_sh B_a2_14; have o5 := gz_sh B_a2_15; have o6 := gz_sh B_a2_16; have o7 := gz_sh B_a2_17; have o8 := gz_sh B_a2_17_1; have o9 := gz_sh B_a2_17_2; have o10 := gz_sh B_a2_17_3; have o11 := gz_sh B_a2_17_4; have o12 := gz_sh B_a2_17_5; have o13 := gz_sh B_a2_17_6; have o14 := gz_sh B_a2_17_7; have o15 := gz_sh B_a2_5; have o16 := gz_sh B_a2_6; have o17 := gz_sh B_a2_9; omega) | (simp only [gz_hd] at *; omega)))
  have N_a3__101 := gz_hi (show ¬ (a3 = 101) from by (/-3-/first | omega | (simp only [gz_hd] at *; omega)))
  have f1 := gz_hi ((show 0 ≤ I a3 1 ∧ I a3 1 ≤ 1000 from gc_in2 hI (gz_sh R_a3) rfl rfl rfl))
  refine gv_run 2 true hD (pcₚ := 2) (lvₚ := [(0, .inr (.inr (some 100))), (1, .inl a1), (2, .inr (.inr (some a2))), (3, .inr (.inr (some a3)))]) (stₚ := [.inl 0, .inr (.inr (some 100))]) (hₚ := gc_h sh I J A) (C := ((True ∧ True) ∧ True)) rfl ⟨⟨trivial, trivial⟩, trivial⟩ ?_
  refine gv_put hD rfl rfl S_100 ⟨by decide, (gz_sh B_100)⟩ rfl trivial ?_
  refine gc_st (k := 2) hI S_100 rfl (gz_sh R_100) (lo := 0) (hi := 1536) rfl rfl (by (/-4-/first | omega | (simp only [gz_hd] at *; omega))) (by (/-5-/first | omega | (simp only [gz_hd] at *; omega))) (fun I4 hI4 q5 p5 => ?_)
  have FI4 := gc_frs (W := fun q j => (q = 100 ∧ j = 2) ∨ (q = 100 ∧ j = 1) ∨ q = 101 ∨ q = (a2 + 22)) FI (Or.inl ⟨rfl, rfl⟩) p5
  have t6 := gz_hi (p5 a3 1 (fun h => absurd h.2 (by first | exact gz_ne rfl | decide)))
  show gv_X _ _ (5, [(0, .inr (.inr (some 100))), (1, .inl a1), (2, .inr (.inr (some a2))), (3, .inr (.inr (some a3)))], [], sh, gc_h sh I4 J A)
  refine gv_run 1 true hD (pcₚ := 6) (lvₚ := [(0, .inr (.inr (some 100))), (1, .inl a1), (2, .inr (.inr (some a2))), (3, .inr (.inr (some a3)))]) (stₚ := [.inr (.inr (some a3))]) (hₚ := gc_h sh I4 J A) (C := (True ∧ True)) rfl ⟨trivial, trivial⟩ ?_
  obtain ⟨r9, h9, E9, P9⟩ := d_X9_isWord (ws0 := ws0) (tb := tb) hws htb sh ro I4 J A hI4 a3  h_a3     
  obtain ⟨rfl, ⟨z9, rfl, q9⟩⟩ := P9
  replace q9 := gz_hi q9
  refine gv_callV hD rfl (As := []) (st := []) rfl (gz_sh B_a3) S_a3 rfl (gc_lV1 hws rfl) (Nat.le_of_ble_eq_true rfl) (gz_Ev_mono (d := 2) (by decide) E9) ?_
  show gv_X _ _ (9, [(0, .inr (.inr (some 100))), (1, .inl a1), (2, .inr (.inr (some a2))), (3, .inr (.inr (some a3)))], [.inl z9], sh, gc_h sh I4 J A)
  refine gv_if_ne (t := 15) hD rfl rfl ⟨by (/-6-/first | (have o1 := gz_sh q9; omega) | (simp only [gz_hd] at *; omega)), by (/-7-/first | (have o1 := gz_sh q9; omega) | (simp only [gz_hd] at *; omega))⟩ (fun c10 => ?_) (fun c10 => ?_)
  · show gv_X _ _ (15, [(0, .inr (.inr (some 100))), (1, .inl a1), (2, .inr (.inr (some a2))), (3, .inr (.inr (some a3)))], [], sh, gc_h sh I4 J A)
    refine gv_run 2 true hD (pcₚ := 17) (lvₚ := [(0, .inr (.inr (some 100))), (1, .inl a1), (2, .inr (.inr (some a2))), (3, .inr (.inr (some a3)))]) (stₚ := [.inl a1, .inr (.inr (some 100))]) (hₚ := gc_h sh I4 J A) (C := ((True ∧ True) ∧ True)) rfl ⟨⟨trivial, trivial⟩, trivial⟩ ?_
    refine gv_put hD rfl rfl S_100 ⟨by decide, (gz_sh B_100)⟩ rfl trivial ?_
    refine gc_st (k := 1) hI4 S_100 rfl (gz_sh R_100) (lo := 0) (hi := 7) rfl rfl (by (/-8-/first | omega | (simp only [gz_hd] at *; omega))) (by (/-9-/first | omega | (simp only [gz_hd] at *; omega))) (fun I11 hI11 q12 p12 => ?_)
    have FI11 := gc_frs (W := fun q j => (q = 100 ∧ j = 2) ∨ (q = 100 ∧ j = 1) ∨ q = 101 ∨ q = (a2 + 22)) FI4 (Or.inr (Or.inl ⟨rfl, rfl⟩)) p12
    have t13 := gz_hi (p12 a3 1 (fun h => absurd h.1 (gz_sh N_a3__100)))
    show gv_X _ _ (20, [(0, .inr (.inr (some 100))), (1, .inl a1), (2, .inr (.inr (some a2))), (3, .inr (.inr (some a3)))], [], sh, gc_h sh I11 J A)
    refine gv_run 2 true hD (pcₚ := 22) (lvₚ := [(0, .inr (.inr (some 100))), (1, .inl a1), (2, .inr (.inr (some a2))), (3, .inr (.inr (some a3)))]) (stₚ := [.inr (.inr (some a2)), .inr (.inr (some 100))]) (hₚ := gc_h sh I11 J A) (C := ((True ∧ True) ∧ True)) rfl ⟨⟨trivial, trivial⟩, trivial⟩ ?_
    refine gv_get hD rfl rfl S_a2 ⟨by decide, (gz_sh B_a2)⟩ (gc_hA S_a2 rfl A_a2_15) ?_
    show gv_X _ _ (25, [(0, .inr (.inr (some 100))), (1, .inl a1), (2, .inr (.inr (some a2))), (3, .inr (.inr (some a3)))], [.inr (.inr (some (a2 + 17))), .inr (.inr (some 100))], sh, gc_h sh I11 J A)
    refine gv_run 1 true hD (pcₚ := 26) (lvₚ := [(0, .inr (.inr (some 100))), (1, .inl a1), (2, .inr (.inr (some a2))), (3, .inr (.inr (some a3)))]) (stₚ := [.inr (.inr (some a3)), .inr (.inr (some (a2 + 17))), .inr (.inr (some 100))]) (hₚ := gc_h sh I11 J A) (C := (True ∧ True)) rfl ⟨trivial, trivial⟩ ?_
    refine gv_get hD rfl rfl S_a3 ⟨by decide, (gz_sh B_a3)⟩ (gc_hA S_a3 rfl A_a3_0) ?_
    show gv_X _ _ (29, [(0, .inr (.inr (some 100))), (1, .inl a1), (2, .inr (.inr (some a2))), (3, .inr (.inr (some a3)))], [.inr (.inr (some (a3 + 1))), .inr (.inr (some (a2 + 17))), .inr (.inr (some 100))], sh, gc_h sh I11 J A)
    refine gv_run 2 true hD (pcₚ := 31) (lvₚ := [(0, .inr (.inr (some 100))), (1, .inl a1), (2, .inr (.inr (some a2))), (3, .inr (.inr (some a3)))]) (stₚ := [.inr (.inr (some a3)), .inl 0, .inr (.inr (some (a3 + 1))), .inr (.inr (some (a2 + 17))), .inr (.inr (some 100))]) (hₚ := gc_h sh I11 J A) (C := ((True ∧ True) ∧ True)) rfl ⟨⟨trivial, trivial⟩, trivial⟩ ?_
    refine gv_get hD rfl rfl S_a3 ⟨by decide, (gz_sh B_a3)⟩ (gc_hI S_a3 rfl) ?_
    show gv_X _ _ (34, [(0, .inr (.inr (some 100))), (1, .inl a1), (2, .inr (.inr (some a2))), (3, .inr (.inr (some a3)))], [.inl (I11 a3 1), .inl 0, .inr (.inr (some (a3 + 1))), .inr (.inr (some (a2 + 17))), .inr (.inr (some 100))], sh, gc_h sh I11 J A)
    obtain ⟨r17, h17, E17, P17⟩ := d_X2_findSame (ws0 := ws0) (tb := tb) hws htb sh ro I11 J A hI11 (a2 + 17) 1000 (a3 + 1) 0 (I11 a3 1) h_a2_17 S_a3_1 (gz_sh R_a3_1) (gz_sh B_a3_1) (by decide)  ⟨by (/-10-/first | omega | (simp only [gz_hd] at *; omega)), by (/-11-/first | omega | (simp only [gz_hd] at *; omega))⟩ ⟨by (/-12-/first | (have o1 := gz_sh f1; have o2 := gz_sh t13; have o3 := gz_sh t6; omega) | (simp only [gz_hd] at *; omega)), by (/-13-/first | (have o1 := gz_sh q9; have o2 := gz_sh t13; omega) | (simp only [gz_hd] at *; omega))⟩ (by (/-14-/first | (have o1 := gz_sh f1; have o2 := gz_sh t13; have o3 := gz_sh t6; omega) | (simp only [gz_hd] at *; omega))) 
    obtain ⟨I18, J19, rfl, hI18, g17, k17, ⟨z17, rfl, q17⟩⟩ := P17
    replace q17 := gz_hi q17
    have FI18 := gc_frc (W := fun q j => (q = 100 ∧ j = 2) ∨ (q = 100 ∧ j = 1) ∨ q = 101 ∨ q = (a2 + 22)) (V := fun q j => q = (a2 + 22)) FI11 (fun q j h => (Or.inr (Or.inr (Or.inr h)))) g17
    have t22 := gz_hi ((g17 100 1).resolve_left (fun h => absurd h (gz_sh N_100__a2_22)))
    obtain rfl : J = J19 := funext fun q => funext fun j => ((k17 q j).resolve_left id).symm
    refine gv_callV hD rfl (As := [.inr (.inr (some (a3 + 1))), .inl 0, .inl (I11 a3 1)]) (st := [.inr (.inr (some 100))]) rfl (gz_sh B_a2_17) S_a2_17 rfl (gc_lV1 hws rfl) (Nat.le_of_ble_eq_true rfl) (gz_Ev_mono (d := 2) (by decide) E17) ?_
    show gv_X _ _ (37, [(0, .inr (.inr (some 100))), (1, .inl a1), (2, .inr (.inr (some a2))), (3, .inr (.inr (some a3)))], [.inl z17, .inr (.inr (some 100))], sh, gc_h sh I18 J A)
    refine gv_put hD rfl rfl S_100 ⟨by decide, (gz_sh B_100)⟩ rfl trivial ?_
    refine gc_st (k := 2) hI18 S_100 rfl (gz_sh R_100) (lo := 0) (hi := 1536) rfl rfl (by (/-15-/first | (have o1 := gz_sh q17; omega) | (simp only [gz_hd] at *; omega))) (by (/-16-/first | (have o1 := gz_sh q17; omega) | (simp only [gz_hd] at *; omega))) (fun I23 hI23 q24 p24 => ?_)
    have FI23 := gc_frs (W := fun q j => (q = 100 ∧ j = 2) ∨ (q = 100 ∧ j = 1) ∨ q = 101 ∨ q = (a2 + 22)) FI18 (Or.inl ⟨rfl, rfl⟩) p24
    have t26 := gz_hi (p24 100 1 (fun h => absurd h.2 (by first | exact gz_ne rfl | decide)))
    show gv_X _ _ (40, [(0, .inr (.inr (some 100))), (1, .inl a1), (2, .inr (.inr (some a2))), (3, .inr (.inr (some a3)))], [], sh, gc_h sh I23 J A)
    refine gv_run 1 true hD (pcₚ := 41) (lvₚ := [(0, .inr (.inr (some 100))), (1, .inl a1), (2, .inr (.inr (some a2))), (3, .inr (.inr (some a3)))]) (stₚ := [.inr (.inr (some a2))]) (hₚ := gc_h sh I23 J A) (C := (True ∧ True)) rfl ⟨trivial, trivial⟩ ?_
    refine gv_get hD rfl rfl S_a2 ⟨by decide, (gz_sh B_a2)⟩ (gc_hA S_a2 rfl A_a2_15) ?_
    show gv_X _ _ (44, [(0, .inr (.inr (some 100))), (1, .inl a1), (2, .inr (.inr (some a2))), (3, .inr (.inr (some a3)))], [.inr (.inr (some (a2 + 17)))], sh, gc_h sh I23 J A)
    refine gv_get hD rfl rfl S_a2_17 ⟨by decide, (gz_sh B_a2_17)⟩ (gc_hA S_a2_17 rfl A_a2_17_5) ?_
    show gv_X _ _ (47, [(0, .inr (.inr (some 100))), (1, .inl a1), (2, .inr (.inr (some a2))), (3, .inr (.inr (some a3)))], [.inr (.inr (some ((a2 + 17) + 5)))], sh, gc_h sh I23 J A)
    refine gv_run 2 true hD (pcₚ := 49) (lvₚ := [(0, .inr (.inr (some 100))), (1, .inl a1), (2, .inr (.inr (some a2))), (3, .inr (.inr (some a3)))]) (stₚ := [.inr (.inr (some 100)), .inl 0, .inr (.inr (some ((a2 + 17) + 5)))]) (hₚ := gc_h sh I23 J A) (C := ((True ∧ True) ∧ True)) rfl ⟨⟨trivial, trivial⟩, trivial⟩ ?_
    refine gv_get hD rfl rfl S_100 ⟨by decide, (gz_sh B_100)⟩ (gc_hA S_100 rfl A_100_3) ?_
    show gv_X _ _ (52, [(0, .inr (.inr (some 100))), (1, .inl a1), (2, .inr (.inr (some a2))), (3, .inr (.inr (some a3)))], [.inr (.inr (some 101)), .inl 0, .inr (.inr (some ((a2 + 17) + 5)))], sh, gc_h sh I23 J A)
    refine gv_run 2 true hD (pcₚ := 54) (lvₚ := [(0, .inr (.inr (some 100))), (1, .inl a1), (2, .inr (.inr (some a2))), (3, .inr (.inr (some a3)))]) (stₚ := [.inr (.inr (some 100)), .inl 0, .inr (.inr (some 101)), .inl 0, .inr (.inr (some ((a2 + 17) + 5)))]) (hₚ := gc_h sh I23 J A) (C := ((True ∧ True) ∧ True)) rfl ⟨⟨trivial, trivial⟩, trivial⟩ ?_
    refine gv_get hD rfl rfl S_100 ⟨by decide, (gz_sh B_100)⟩ (gc_hI S_100 rfl) ?_
    show gv_X _ _ (57, [(0, .inr (.inr (some 100))), (1, .inl a1), (2, .inr (.inr (some a2))), (3, .inr (.inr (some a3)))], [.inl (I23 100 2), .inl 0, .inr (.inr (some 101)), .inl 0, .inr (.inr (some ((a2 + 17) + 5)))], sh, gc_h sh I23 J A)
    refine gv_copy hD rfl (gc_lC1_85 hws) (Nat.le_of_ble_eq_true rfl) ⟨(gz_sh B_a2_17_5), (gz_sh B_101)⟩ S_a2_17_5 S_101 (by decide) ⟨by decide, by decide⟩ ⟨by (/-17-/first | omega | (simp only [gz_hd] at *; omega)), by (/-18-/first | omega | (simp only [gz_hd] at *; omega)), by (/-19-/first | (have o1 := gz_sh q17; omega) | (simp only [gz_hd] at *; omega))⟩ (by (/-20-/first | (have o1 := gz_sh q17; omega) | (simp only [gz_hd] at *; omega))) (by (/-21-/first | (have o1 := gz_sh q17; omega) | (simp only [gz_hd] at *; omega))) (fun h => absurd h (by first | exact gz_ne rfl | decide)) ?_
    refine gc_cp hI23 S_a2_17_5 S_101 (by decide) (fun j hj => by have h9 := (show 0 ≤ I23 ((a2 + 17) + 5) (Int.toNat 0 + j) ∧ I23 ((a2 + 17) + 5) (Int.toNat 0 + j) ≤ 1535 from gc_in2 hI23 (gz_sh R_a2_17_5) rfl rfl rfl); rw [(gz_sh R_101)]; exact ⟨by show 0 ≤ _; (/-22-/first | omega | (simp only [gz_hd] at *; omega)), by show _ ≤ 1535; (/-23-/first | omega | (simp only [gz_hd] at *; omega))⟩) (fun I30 hI30 p29 q29 => ?_)
    have FI30 := gc_frp (W := fun q j => (q = 100 ∧ j = 2) ∨ (q = 100 ∧ j = 1) ∨ q = 101 ∨ q = (a2 + 22)) (V := fun q j => q = 101 ∧ Int.toNat 0 ≤ j ∧ j < Int.toNat 0 + Int.toNat (I23 100 2)) FI23 (fun q j h => (Or.inr (Or.inr (Or.inl h.1)))) p29
    have t33 := gz_hi (p29 100 2 (fun h => absurd h.1 (by first | exact gz_ne rfl | decide)))
    have t34 := gz_hi (p29 100 1 (fun h => absurd h.1 (by first | exact gz_ne rfl | decide)))
    show gv_X _ _ (60, [(0, .inr (.inr (some 100))), (1, .inl a1), (2, .inr (.inr (some a2))), (3, .inr (.inr (some a3)))], [], sh, gc_h sh I30 J A)
    refine gv_run 1 true hD (pcₚ := 61) (lvₚ := [(0, .inr (.inr (some 100))), (1, .inl a1), (2, .inr (.inr (some a2))), (3, .inr (.inr (some a3)))]) (stₚ := [.inr (.inr (some 100))]) (hₚ := gc_h sh I30 J A) (C := (True ∧ True)) rfl ⟨trivial, trivial⟩ ?_
    refine gv_get hD rfl rfl S_100 ⟨by decide, (gz_sh B_100)⟩ (gc_hI S_100 rfl) ?_
    show gv_X _ _ (64, [(0, .inr (.inr (some 100))), (1, .inl a1), (2, .inr (.inr (some a2))), (3, .inr (.inr (some a3)))], [.inl (I30 100 2)], sh, gc_h sh I30 J A)
    exact gv_iret hD rfl ⟨I30, J, rfl, hI30, FI30, FJ, ⟨_, rfl, by (/-24-/first | (and_intros; (have o1 := gz_sh q17; have o2 := gz_sh t33; omega); (have o1 := gz_sh q17; have o2 := gz_sh t33; omega); (omega); (have o1 := gz_sh t22; have o2 := gz_sh t26; have o3 := gz_sh t34; omega)) | (simp only [gz_hd] at *; omega))⟩⟩
  · show gv_X _ _ (12, [(0, .inr (.inr (some 100))), (1, .inl a1), (2, .inr (.inr (some a2))), (3, .inr (.inr (some a3)))], [], sh, gc_h sh I4 J A)
    refine gv_run 1 true hD (pcₚ := 14) (lvₚ := [(0, .inr (.inr (some 100))), (1, .inl a1), (2, .inr (.inr (some a2))), (3, .inr (.inr (some a3)))]) (stₚ := [.inl (-3)]) (hₚ := gc_h sh I4 J A) (C := (True ∧ True)) rfl ⟨trivial, trivial⟩ ?_
    exact gv_iret hD rfl ⟨I4, J, rfl, hI4, FI4, FJ, ⟨_, rfl, by (/-25-/first | (and_intros <;> omega) | (simp only [gz_hd] at *; omega))⟩⟩
set_option maxHeartbeats 8000000 in
set_option maxRecDepth 100000 in
theorem d_X1_tellAnalysis {ws0 : List Cond} {tb : String → gz_T} (hws : gc_Ws ws0) (htb : gc_tbs tb) (sh : gz_Sh) (ro : Nat → Nat) (I : gr_I) (J : gr_J) (A : gc_A) (hI : gc_Inv ro I) (a1 : Int) (a2 : Int) (hb : gc_Base sh ro A) (ha1 : (-2147483648) ≤ a1 ∧ a1 ≤ 2147483647) (ha2 : 0 ≤ a2 ∧ a2 ≤ 11) (x0 : gc_Ts sh ro A I) (x1 : I 100 2 = 0 ∨ I 100 1 < I 8 1) : ∃ r hₚ, gz_Ev ws0 tb 3 (yX1_tellAnalysis, cX1_tellAnalysis, 6, (some .int)) [.inr (.inr (some 100)), .inl a1, .inl a2] sh (gc_h sh I J A) r sh hₚ 0 0 ∧ (hₚ = gc_h sh I J A ∧ (∃ z : Int, r = some (.inl z) ∧ (-1) ≤ z ∧ z ≤ 20000)) := by
  have A_1_4 : A 1 4 = some 10 := gc_bA_1_4 hb
  have A_1_9 : A 1 9 = some 14 := gc_bA_1_9 hb
  have A_100_0 : A 100 0 = some 1 := gc_bA_100_0 hb
  have A_100_3 : A 100 3 = some 101 := gc_bA_100_3 hb
  have B_1 := gz_hi (show 1 < 1000000 from by decide)
  have B_10 := gz_hi (show 10 < 1000000 from by decide)
  have B_100 := gz_hi (show 100 < 1000000 from by decide)
  have B_101 := gz_hi (show 101 < 1000000 from by decide)
  have B_14 := gz_hi (show 14 < 1000000 from by decide)
  have R_100 := gz_hi (show ro 100 = 75 from gc_bR_100 hb)
  have R_101 := gz_hi (show ro 101 = 35 from gc_bR_101 hb)
  have R_14 := gz_hi (show ro 14 = 27 from gc_bR_14 hb)
  have S_1 : sh[1]? = some (false, 8, 21) := gc_bS_1 hb
  have S_10 : sh[10]? = some (true, 5, 8) := gc_bS_10 hb
  have S_100 : sh[100]? = some (false, 1, 19) := gc_bS_100 hb
  have S_101 : sh[101]? = some (true, 1, 1536) := gc_bS_101 hb
  have S_14 : sh[14]? = some (true, 1, 96) := gc_bS_14 hb
  have hD : gv_D (gc_E1 ws0 tb 2 (yX1_tellAnalysis, cX1_tellAnalysis, 6, (some .int)) kX1_tellAnalysis) := gq_of oX1_tellAnalysis
  refine gc_ev1 (d := 2) (l := kX1_tellAnalysis) (Po := fun r hₚ => (hₚ = gc_h sh I J A ∧ (∃ z : Int, r = some (.inl z) ∧ (-1) ≤ z ∧ z ≤ 20000))) htb rfl (Nat.le_of_ble_eq_true rfl) ?_
  have L12 : gv_X (gc_E1 ws0 tb 2 (yX1_tellAnalysis, cX1_tellAnalysis, 6, (some .int)) kX1_tellAnalysis) (gv_Q cX1_tellAnalysis (some .int) sh (fun r hₚ => (hₚ = gc_h sh I J A ∧ (∃ z : Int, r = some (.inl z) ∧ (-1) ≤ z ∧ z ≤ 20000)))) (12, [], [], sh, gc_h sh I J A) := by
    refine gv_run 1 true hD (pcₚ := 13) (lvₚ := []) (stₚ := [.inl (-1)]) (hₚ := gc_h sh I J A) (C := (True ∧ True)) rfl ⟨trivial, trivial⟩ ?_
    exact gv_iret hD rfl ⟨rfl, ⟨_, rfl, by (/-0-/first | (and_intros <;> omega) | (simp only [gz_hd] at *; omega))⟩⟩
  refine gv_run 1 true hD (pcₚ := 1) (lvₚ := [(0, .inr (.inr (some 100))), (1, .inl a1), (2, .inl a2)]) (stₚ := [.inl a1]) (hₚ := gc_h sh I J A) (C := (True ∧ True)) rfl ⟨trivial, trivial⟩ ?_
  refine gv_if_lt (t := 12) hD rfl rfl ⟨by (/-1-/first | omega | (simp only [gz_hd] at *; omega)), by (/-2-/first | omega | (simp only [gz_hd] at *; omega))⟩ (fun c2 => ?_) (fun c2 => ?_)
  · show gv_X _ _ (12, [(0, .inr (.inr (some 100))), (1, .inl a1), (2, .inl a2)], [], sh, gc_h sh I J A)
    refine gv_pick [] rfl ?_
    exact L12 
  · show gv_X _ _ (4, [(0, .inr (.inr (some 100))), (1, .inl a1), (2, .inl a2)], [], sh, gc_h sh I J A)
    refine gv_run 2 true hD (pcₚ := 6) (lvₚ := [(0, .inr (.inr (some 100))), (1, .inl a1), (2, .inl a2)]) (stₚ := [.inr (.inr (some 100)), .inl a1]) (hₚ := gc_h sh I J A) (C := ((True ∧ True) ∧ True)) rfl ⟨⟨trivial, trivial⟩, trivial⟩ ?_
    have f3 := gz_hi ((gc_b_75_2 hI (gz_sh R_100)))
    refine gv_get hD rfl rfl S_100 ⟨by decide, (gz_sh B_100)⟩ (gc_hI S_100 rfl) ?_
    show gv_X _ _ (9, [(0, .inr (.inr (some 100))), (1, .inl a1), (2, .inl a2)], [.inl (I 100 2), .inl a1], sh, gc_h sh I J A)
    refine gv_icmp_lt (t := 14) hD rfl rfl ⟨⟨by (/-3-/first | omega | (simp only [gz_hd] at *; omega)), by (/-4-/first | omega | (simp only [gz_hd] at *; omega))⟩, ⟨by (/-5-/first | (have o1 := gz_sh f3; omega) | (simp only [gz_hd] at *; omega)), by (/-6-/first | (have o1 := gz_sh f3; omega) | (simp only [gz_hd] at *; omega))⟩⟩ (fun c4 => ?_) (fun c4 => ?_)
    · show gv_X _ _ (14, [(0, .inr (.inr (some 100))), (1, .inl a1), (2, .inl a2)], [], sh, gc_h sh I J A)
      refine gv_run 1 true hD (pcₚ := 15) (lvₚ := [(0, .inr (.inr (some 100))), (1, .inl a1), (2, .inl a2)]) (stₚ := [.inr (.inr (some 100))]) (hₚ := gc_h sh I J A) (C := (True ∧ True)) rfl ⟨trivial, trivial⟩ ?_
      refine gv_get hD rfl rfl S_100 ⟨by decide, (gz_sh B_100)⟩ (gc_hA S_100 rfl A_100_0) ?_
      show gv_X _ _ (18, [(0, .inr (.inr (some 100))), (1, .inl a1), (2, .inl a2)], [.inr (.inr (some 1))], sh, gc_h sh I J A)
      refine gv_get hD rfl rfl S_1 ⟨by decide, (gz_sh B_1)⟩ (gc_hA S_1 rfl A_1_4) ?_
      show gv_X _ _ (21, [(0, .inr (.inr (some 100))), (1, .inl a1), (2, .inl a2)], [.inr (.inr (some 10))], sh, gc_h sh I J A)
      refine gv_run 1 true hD (pcₚ := 22) (lvₚ := [(0, .inr (.inr (some 100))), (1, .inl a1), (2, .inl a2)]) (stₚ := [.inr (.inr (some 100)), .inr (.inr (some 10))]) (hₚ := gc_h sh I J A) (C := (True ∧ True)) rfl ⟨trivial, trivial⟩ ?_
      have f5 := gz_hi ((gc_b_75_1 hI (gz_sh R_100)))
      refine gv_get hD rfl rfl S_100 ⟨by decide, (gz_sh B_100)⟩ (gc_hI S_100 rfl) ?_
      show gv_X _ _ (25, [(0, .inr (.inr (some 100))), (1, .inl a1), (2, .inl a2)], [.inl (I 100 1), .inr (.inr (some 10))], sh, gc_h sh I J A)
      obtain ⟨t6_, A_t6, h_t6, G_t6⟩ := x0 (Int.toNat (I 100 1)) (by (/-7-/first | (have o1 := gz_sh f5; omega) | (simp only [gz_hd] at *; omega)))
      obtain ⟨S_t6, R_t6, B_t6, A_t6_0, h_t6__1, A_t6_1, h_t6__3, A_t6_2, S_t6__5, R_t6__5, B_t6__5, A_t6_3, S_t6__6, R_t6__6, B_t6__6, A_t6_4, h_t6__7, A_t6_5, S_t6__9, R_t6__9, B_t6__9, A_t6_7, S_t6__10, R_t6__10, B_t6__10, A_t6_8, h_t6__11, A_t6_9, S_t6__13, R_t6__13, B_t6__13, A_t6_10, S_t6__14, R_t6__14, B_t6__14, A_t6_12, S_t6__15, R_t6__15, B_t6__15, A_t6_14, S_t6__16, R_t6__16, B_t6__16, A_t6_15, h_t6__17⟩ := id h_t6
      replace R_t6 := gz_hi R_t6
      replace B_t6 := gz_hi B_t6
      replace R_t6__5 := gz_hi R_t6__5
      replace B_t6__5 := gz_hi B_t6__5
      replace R_t6__6 := gz_hi R_t6__6
      replace B_t6__6 := gz_hi B_t6__6
      replace R_t6__9 := gz_hi R_t6__9
      replace B_t6__9 := gz_hi B_t6__9
      replace R_t6__10 := gz_hi R_t6__10
      replace B_t6__10 := gz_hi B_t6__10
      replace R_t6__13 := gz_hi R_t6__13
      replace B_t6__13 := gz_hi B_t6__13
      replace R_t6__14 := gz_hi R_t6__14
      replace B_t6__14 := gz_hi B_t6__14
      replace R_t6__15 := gz_hi R_t6__15
      replace B_t6__15 := gz_hi B_t6__15
      replace R_t6__16 := gz_hi R_t6__16
      replace B_t6__16 := gz_hi B_t6__16
      obtain ⟨S_t6__1, R_t6__1, B_t6__1, A_t6__1_0, S_t6__1_1, R_t6__1_1, B_t6__1_1, Q0_t6__1, Q1_t6__1, Q2_t6__1⟩ := id h_t6__1
      replace R_t6__1 := gz_hi R_t6__1
      replace B_t6__1 := gz_hi B_t6__1
      replace R_t6__1_1 := gz_hi R_t6__1_1
      replace B_t6__1_1 := gz_hi B_t6__1_1
      obtain ⟨S_t6__3, R_t6__3, B_t6__3, A_t6__3_0, S_t6__3_1, R_t6__3_1, B_t6__3_1, Q0_t6__3, Q1_t6__3, Q2_t6__3⟩ := id h_t6__3
      replace R_t6__3 := gz_hi R_t6__3
      replace B_t6__3 := gz_hi B_t6__3
      replace R_t6__3_1 := gz_hi R_t6__3_1
      replace B_t6__3_1 := gz_hi B_t6__3_1
      obtain ⟨S_t6__7, R_t6__7, B_t6__7, A_t6__7_0, S_t6__7_1, R_t6__7_1, B_t6__7_1, Q0_t6__7, Q1_t6__7, Q2_t6__7⟩ := id h_t6__7
      replace R_t6__7 := gz_hi R_t6__7
      replace B_t6__7 := gz_hi B_t6__7
      replace R_t6__7_1 := gz_hi R_t6__7_1
      replace B_t6__7_1 := gz_hi B_t6__7_1
      obtain ⟨S_t6__11, R_t6__11, B_t6__11, A_t6__11_0, S_t6__11_1, R_t6__11_1, B_t6__11_1, Q0_t6__11, Q1_t6__11, Q2_t6__11⟩ := id h_t6__11
      replace R_t6__11 := gz_hi R_t6__11
      replace B_t6__11 := gz_hi B_t6__11
      replace R_t6__11_1 := gz_hi R_t6__11_1
      replace B_t6__11_1 := gz_hi B_t6__11_1
      obtain ⟨S_t6__17, R_t6__17, B_t6__17, A_t6__17_0, S_20, R_20, B_20, A_t6__17_1, S_t6__17_1, R_t6__17_1, B_t6__17_1, A_t6__17_2, S_t6__17_2, R_t6__17_2, B_t6__17_2, A_t6__17_3, S_t6__17_3, R_t6__17_3, B_t6__17_3, A_t6__17_4, S_t6__17_4, R_t6__17_4, B_t6__17_4, A_t6__17_5, S_t6__17_5, R_t6__17_5, B_t6__17_5, S_t6__17_6, R_t6__17_6, B_t6__17_6, S_t6__17_7, R_t6__17_7, B_t6__17_7⟩ := id h_t6__17
      replace R_t6__17 := gz_hi R_t6__17
      replace B_t6__17 := gz_hi B_t6__17
      replace R_20 := gz_hi R_20
      replace B_20 := gz_hi B_20
      replace R_t6__17_1 := gz_hi R_t6__17_1
      replace B_t6__17_1 := gz_hi B_t6__17_1
      replace R_t6__17_2 := gz_hi R_t6__17_2
      replace B_t6__17_2 := gz_hi B_t6__17_2
      replace R_t6__17_3 := gz_hi R_t6__17_3
      replace B_t6__17_3 := gz_hi B_t6__17_3
      replace R_t6__17_4 := gz_hi R_t6__17_4
      replace B_t6__17_4 := gz_hi B_t6__17_4
      replace R_t6__17_5 := gz_hi R_t6__17_5
      replace B_t6__17_5 := gz_hi B_t6__17_5
      replace R_t6__17_6 := gz_hi R_t6__17_6
      replace B_t6__17_6 := gz_hi B_t6__17_6
      replace R_t6__17_7 := gz_hi R_t6__17_7
      replace B_t6__17_7 := gz_hi B_t6__17_7
      refine gv_aald hD rfl S_10 ⟨by decide, by decide⟩ ⟨by decide, (gz_sh B_10)⟩ ⟨by (/-8-/first | (have o1 := gz_sh f5; omega) | (simp only [gz_hd] at *; omega)), by (/-9-/first | (have o1 := gz_sh f5; omega) | (simp only [gz_hd] at *; omega))⟩ ((gc_aA S_10 rfl).trans A_t6) ?_
      show gv_X _ _ (26, [(0, .inr (.inr (some 100))), (1, .inl a1), (2, .inl a2)], [.inr (.inr (some t6_))], sh, gc_h sh I J A)
      refine gv_run 2 true hD (pcₚ := 28) (lvₚ := [(3, .inr (.inr (some t6_))), (0, .inr (.inr (some 100))), (1, .inl a1), (2, .inl a2)]) (stₚ := [.inr (.inr (some 100))]) (hₚ := gc_h sh I J A) (C := ((True ∧ True) ∧ True)) rfl ⟨⟨trivial, trivial⟩, trivial⟩ ?_
      refine gv_get hD rfl rfl S_100 ⟨by decide, (gz_sh B_100)⟩ (gc_hA S_100 rfl A_100_3) ?_
      show gv_X _ _ (31, [(3, .inr (.inr (some t6_))), (0, .inr (.inr (some 100))), (1, .inl a1), (2, .inl a2)], [.inr (.inr (some 101))], sh, gc_h sh I J A)
      refine gv_run 1 true hD (pcₚ := 32) (lvₚ := [(3, .inr (.inr (some t6_))), (0, .inr (.inr (some 100))), (1, .inl a1), (2, .inl a2)]) (stₚ := [.inl a1, .inr (.inr (some 101))]) (hₚ := gc_h sh I J A) (C := (True ∧ True)) rfl ⟨trivial, trivial⟩ ?_
      have f7 := gz_hi ((gc_b_35 hI (gz_sh R_101) (Int.toNat a1)))
      refine gv_iald hD rfl S_101 rfl ⟨by decide, (gz_sh B_101)⟩ ⟨by (/-10-/first | omega | (simp only [gz_hd] at *; omega)), by (/-11-/first | (have o1 := gz_sh f3; omega) | (simp only [gz_hd] at *; omega))⟩ (gc_iI S_101 rfl) ?_
      show gv_X _ _ (33, [(3, .inr (.inr (some t6_))), (0, .inr (.inr (some 100))), (1, .inl a1), (2, .inl a2)], [.inl (I 101 (Int.toNat a1))], sh, gc_h sh I J A)
      have f8 := gz_hi (gw_div (x := ((I 101 (Int.toNat a1)))) (y := 24) ⟨by (/-12-/first | (have o1 := gz_sh f7; omega) | (simp only [gz_hd] at *; omega)), by (/-13-/first | (have o1 := gz_sh f7; omega) | (simp only [gz_hd] at *; omega))⟩ ⟨by (/-14-/first | omega | (simp only [gz_hd] at *; omega)), by (/-15-/first | omega | (simp only [gz_hd] at *; omega))⟩)
      refine gv_run 6 true hD (pcₚ := 43) (lvₚ := [(5, .inl ((Int32.ofInt ((I 101 (Int.toNat a1))) / Int32.ofInt 24).toInt)), (4, .inl (I 101 (Int.toNat a1))), (3, .inr (.inr (some t6_))), (0, .inr (.inr (some 100))), (1, .inl a1), (2, .inl a2)]) (stₚ := [.inl a2]) (hₚ := gc_h sh I J A) (C := ((((((True ∧ True) ∧ True) ∧ True) ∧ (gz_R 24 ∧ ¬ 24 = 0)) ∧ True) ∧ True)) rfl ⟨⟨⟨⟨⟨⟨trivial, trivial⟩, trivial⟩, trivial⟩, ⟨⟨by (/-16-/first | omega | (simp only [gz_hd] at *; omega)), by (/-17-/first | omega | (simp only [gz_hd] at *; omega))⟩, by (/-18-/first | omega | (simp only [gz_hd] at *; omega))⟩⟩, trivial⟩, trivial⟩ ?_
      by_cases c9 : a2 = 0
      · refine gv_tabAt hD 0 rfl ⟨by (/-19-/first | omega | (simp only [gz_hd] at *; omega)), by (/-20-/first | omega | (simp only [gz_hd] at *; omega))⟩ c9 ⟨by decide, by decide⟩ rfl (t := 72) rfl ?_
        refine gv_run 1 true hD (pcₚ := 74) (lvₚ := [(5, .inl ((Int32.ofInt ((I 101 (Int.toNat a1))) / Int32.ofInt 24).toInt)), (4, .inl (I 101 (Int.toNat a1))), (3, .inr (.inr (some t6_))), (0, .inr (.inr (some 100))), (1, .inl a1), (2, .inl a2)]) (stₚ := [.inl ((Int32.ofInt ((I 101 (Int.toNat a1))) / Int32.ofInt 24).toInt)]) (hₚ := gc_h sh I J A) (C := (True ∧ True)) rfl ⟨trivial, trivial⟩ ?_
        exact gv_iret hD rfl ⟨rfl, ⟨_, rfl, by (/-21-/first | (and_intros; (have o1 := gz_sh f7; have o2 := gz_sh f8; omega); (have o1 := gz_sh f7; have o2 := gz_sh f8; omega)) | (simp only [gz_hd] at *; omega))⟩⟩
      by_cases c10 : a2 = 1
      · refine gv_tabAt hD 1 rfl ⟨by (/-22-/first | omega | (simp only [gz_hd] at *; omega)), by (/-23-/first | omega | (simp only [gz_hd] at *; omega))⟩ c10 ⟨by decide, by decide⟩ rfl (t := 75) rfl ?_
        have f11 := gz_hi (gw_rem (x := ((I 101 (Int.toNat a1)))) (y := 24) ⟨by (/-24-/first | (have o1 := gz_sh f7; omega) | (simp only [gz_hd] at *; omega)), by (/-25-/first | (have o1 := gz_sh f7; omega) | (simp only [gz_hd] at *; omega))⟩ ⟨by (/-26-/first | omega | (simp only [gz_hd] at *; omega)), by (/-27-/first | omega | (simp only [gz_hd] at *; omega))⟩)
        refine gv_run 3 true hD (pcₚ := 80) (lvₚ := [(5, .inl ((Int32.ofInt ((I 101 (Int.toNat a1))) / Int32.ofInt 24).toInt)), (4, .inl (I 101 (Int.toNat a1))), (3, .inr (.inr (some t6_))), (0, .inr (.inr (some 100))), (1, .inl a1), (2, .inl a2)]) (stₚ := [.inl ((Int32.ofInt ((I 101 (Int.toNat a1))) - Int32.ofInt ((I 101 (Int.toNat a1))) / Int32.ofInt 24 * Int32.ofInt 24).toInt)]) (hₚ := gc_h sh I J A) (C := (((True ∧ True) ∧ True) ∧ (gz_R 24 ∧ ¬ 24 = 0))) rfl ⟨⟨⟨trivial, trivial⟩, trivial⟩, ⟨⟨by (/-28-/first | omega | (simp only [gz_hd] at *; omega)), by (/-29-/first | omega | (simp only [gz_hd] at *; omega))⟩, by (/-30-/first | omega | (simp only [gz_hd] at *; omega))⟩⟩ ?_
        exact gv_iret hD rfl ⟨rfl, ⟨_, rfl, by (/-31-/first | (and_intros; (have o1 := gz_sh f11; omega); (have o1 := gz_sh f11; omega)) | (simp only [gz_hd] at *; omega))⟩⟩
      by_cases c12 : a2 = 2
      · refine gv_tabAt hD 2 rfl ⟨by (/-32-/first | omega | (simp only [gz_hd] at *; omega)), by (/-33-/first | omega | (simp only [gz_hd] at *; omega))⟩ c12 ⟨by decide, by decide⟩ rfl (t := 81) rfl ?_
        refine gv_run 2 true hD (pcₚ := 84) (lvₚ := [(5, .inl ((Int32.ofInt ((I 101 (Int.toNat a1))) / Int32.ofInt 24).toInt)), (4, .inl (I 101 (Int.toNat a1))), (3, .inr (.inr (some t6_))), (0, .inr (.inr (some 100))), (1, .inl a1), (2, .inl a2)]) (stₚ := [.inl ((Int32.ofInt ((I 101 (Int.toNat a1))) / Int32.ofInt 24).toInt), .inr (.inr (some t6_))]) (hₚ := gc_h sh I J A) (C := ((True ∧ True) ∧ True)) rfl ⟨⟨trivial, trivial⟩, trivial⟩ ?_
        obtain ⟨r13, h13, E13, P13⟩ := d_X11_wordFun (ws0 := ws0) (tb := tb) hws htb sh ro I J A hI t6_ (((Int32.ofInt ((I 101 (Int.toNat a1))) / Int32.ofInt 24).toInt)) h_t6   ⟨by (/-34-/first | (have o1 := gz_sh f7; have o2 := gz_sh f8; omega) | (simp only [gz_hd] at *; omega)), by (/-35-/first | (have o1 := gz_sh f7; have o2 := gz_sh f8; omega) | (simp only [gz_hd] at *; omega))⟩  
        obtain ⟨rfl, ⟨z13, rfl, q13⟩⟩ := P13
        replace q13 := gz_hi q13
        refine gv_callV hD rfl (As := [.inl ((Int32.ofInt ((I 101 (Int.toNat a1))) / Int32.ofInt 24).toInt)]) (st := []) rfl (gz_sh B_t6) S_t6 rfl (gc_lV1 hws rfl) (Nat.le_of_ble_eq_true rfl) (gz_Ev_mono (d := 1) (by decide) E13) ?_
        show gv_X _ _ (87, [(5, .inl ((Int32.ofInt ((I 101 (Int.toNat a1))) / Int32.ofInt 24).toInt)), (4, .inl (I 101 (Int.toNat a1))), (3, .inr (.inr (some t6_))), (0, .inr (.inr (some 100))), (1, .inl a1), (2, .inl a2)], [.inl z13], sh, gc_h sh I J A)
        exact gv_iret hD rfl ⟨rfl, ⟨_, rfl, by (/-36-/first | (and_intros; (have o1 := gz_sh q13; omega); (have o1 := gz_sh q13; omega)) | (simp only [gz_hd] at *; omega))⟩⟩
      by_cases c14 : a2 = 3
      · refine gv_tabAt hD 3 rfl ⟨by (/-37-/first | omega | (simp only [gz_hd] at *; omega)), by (/-38-/first | omega | (simp only [gz_hd] at *; omega))⟩ c14 ⟨by decide, by decide⟩ rfl (t := 88) rfl ?_
        refine gv_run 2 true hD (pcₚ := 91) (lvₚ := [(5, .inl ((Int32.ofInt ((I 101 (Int.toNat a1))) / Int32.ofInt 24).toInt)), (4, .inl (I 101 (Int.toNat a1))), (3, .inr (.inr (some t6_))), (0, .inr (.inr (some 100))), (1, .inl a1), (2, .inl a2)]) (stₚ := [.inl ((Int32.ofInt ((I 101 (Int.toNat a1))) / Int32.ofInt 24).toInt), .inr (.inr (some t6_))]) (hₚ := gc_h sh I J A) (C := ((True ∧ True) ∧ True)) rfl ⟨⟨trivial, trivial⟩, trivial⟩ ?_
        obtain ⟨r15, h15, E15, P15⟩ := d_X11_wordCost (ws0 := ws0) (tb := tb) hws htb sh ro I J A hI t6_ (((Int32.ofInt ((I 101 (Int.toNat a1))) / Int32.ofInt 24).toInt)) h_t6   ⟨by (/-39-/first | (have o1 := gz_sh f7; have o2 := gz_sh f8; omega) | (simp only [gz_hd] at *; omega)), by (/-40-/first | (have o1 := gz_sh f7; have o2 := gz_sh f8; omega) | (simp only [gz_hd] at *; omega))⟩  
        obtain ⟨rfl, ⟨z15, rfl, q15⟩⟩ := P15
        replace q15 := gz_hi q15
        refine gv_callV hD rfl (As := [.inl ((Int32.ofInt ((I 101 (Int.toNat a1))) / Int32.ofInt 24).toInt)]) (st := []) rfl (gz_sh B_t6) S_t6 rfl (gc_lV1 hws rfl) (Nat.le_of_ble_eq_true rfl) (gz_Ev_mono (d := 1) (by decide) E15) ?_
        show gv_X _ _ (94, [(5, .inl ((Int32.ofInt ((I 101 (Int.toNat a1))) / Int32.ofInt 24).toInt)), (4, .inl (I 101 (Int.toNat a1))), (3, .inr (.inr (some t6_))), (0, .inr (.inr (some 100))), (1, .inl a1), (2, .inl a2)], [.inl z15], sh, gc_h sh I J A)
        refine gv_run 1 true hD (pcₚ := 95) (lvₚ := [(5, .inl ((Int32.ofInt ((I 101 (Int.toNat a1))) / Int32.ofInt 24).toInt)), (4, .inl (I 101 (Int.toNat a1))), (3, .inr (.inr (some t6_))), (0, .inr (.inr (some 100))), (1, .inl a1), (2, .inl a2)]) (stₚ := [.inr (.inr (some 100)), .inl z15]) (hₚ := gc_h sh I J A) (C := (True ∧ True)) rfl ⟨trivial, trivial⟩ ?_
        refine gv_get hD rfl rfl S_100 ⟨by decide, (gz_sh B_100)⟩ (gc_hA S_100 rfl A_100_0) ?_
        show gv_X _ _ (98, [(5, .inl ((Int32.ofInt ((I 101 (Int.toNat a1))) / Int32.ofInt 24).toInt)), (4, .inl (I 101 (Int.toNat a1))), (3, .inr (.inr (some t6_))), (0, .inr (.inr (some 100))), (1, .inl a1), (2, .inl a2)], [.inr (.inr (some 1)), .inl z15], sh, gc_h sh I J A)
        refine gv_get hD rfl rfl S_1 ⟨by decide, (gz_sh B_1)⟩ (gc_hA S_1 rfl A_1_9) ?_
        show gv_X _ _ (101, [(5, .inl ((Int32.ofInt ((I 101 (Int.toNat a1))) / Int32.ofInt 24).toInt)), (4, .inl (I 101 (Int.toNat a1))), (3, .inr (.inr (some t6_))), (0, .inr (.inr (some 100))), (1, .inl a1), (2, .inl a2)], [.inr (.inr (some 14)), .inl z15], sh, gc_h sh I J A)
        refine gv_run 2 true hD (pcₚ := 104) (lvₚ := [(5, .inl ((Int32.ofInt ((I 101 (Int.toNat a1))) / Int32.ofInt 24).toInt)), (4, .inl (I 101 (Int.toNat a1))), (3, .inr (.inr (some t6_))), (0, .inr (.inr (some 100))), (1, .inl a1), (2, .inl a2)]) (stₚ := [.inl ((Int32.ofInt ((I 101 (Int.toNat a1))) / Int32.ofInt 24).toInt), .inr (.inr (some t6_)), .inr (.inr (some 14)), .inl z15]) (hₚ := gc_h sh I J A) (C := ((True ∧ True) ∧ True)) rfl ⟨⟨trivial, trivial⟩, trivial⟩ ?_
        obtain ⟨r16, h16, E16, P16⟩ := d_X11_wordFun (ws0 := ws0) (tb := tb) hws htb sh ro I J A hI t6_ (((Int32.ofInt ((I 101 (Int.toNat a1))) / Int32.ofInt 24).toInt)) h_t6   ⟨by (/-41-/first | (have o1 := gz_sh f7; have o2 := gz_sh f8; omega) | (simp only [gz_hd] at *; omega)), by (/-42-/first | (have o1 := gz_sh f7; have o2 := gz_sh f8; omega) | (simp only [gz_hd] at *; omega))⟩  
        obtain ⟨rfl, ⟨z16, rfl, q16⟩⟩ := P16
        replace q16 := gz_hi q16
        refine gv_callV hD rfl (As := [.inl ((Int32.ofInt ((I 101 (Int.toNat a1))) / Int32.ofInt 24).toInt)]) (st := [.inr (.inr (some 14)), .inl z15]) rfl (gz_sh B_t6) S_t6 rfl (gc_lV1 hws rfl) (Nat.le_of_ble_eq_true rfl) (gz_Ev_mono (d := 1) (by decide) E16) ?_
        show gv_X _ _ (107, [(5, .inl ((Int32.ofInt ((I 101 (Int.toNat a1))) / Int32.ofInt 24).toInt)), (4, .inl (I 101 (Int.toNat a1))), (3, .inr (.inr (some t6_))), (0, .inr (.inr (some 100))), (1, .inl a1), (2, .inl a2)], [.inl z16, .inr (.inr (some 14)), .inl z15], sh, gc_h sh I J A)
        have f17 := gz_hi ((gc_b_27 hI (gz_sh R_14) (Int.toNat z16)))
        refine gv_iald hD rfl S_14 rfl ⟨by decide, (gz_sh B_14)⟩ ⟨by (/-43-/first | (have o1 := gz_sh q16; omega) | (simp only [gz_hd] at *; omega)), by (/-44-/first | (have o1 := gz_sh q16; omega) | (simp only [gz_hd] at *; omega))⟩ (gc_iI S_14 rfl) ?_
        show gv_X _ _ (108, [(5, .inl ((Int32.ofInt ((I 101 (Int.toNat a1))) / Int32.ofInt 24).toInt)), (4, .inl (I 101 (Int.toNat a1))), (3, .inr (.inr (some t6_))), (0, .inr (.inr (some 100))), (1, .inl a1), (2, .inl a2)], [.inl (I 14 (Int.toNat z16)), .inl z15], sh, gc_h sh I J A)
        refine gv_run 1 true hD (pcₚ := 109) (lvₚ := [(5, .inl ((Int32.ofInt ((I 101 (Int.toNat a1))) / Int32.ofInt 24).toInt)), (4, .inl (I 101 (Int.toNat a1))), (3, .inr (.inr (some t6_))), (0, .inr (.inr (some 100))), (1, .inl a1), (2, .inl a2)]) (stₚ := [.inl (z15 + (I 14 (Int.toNat z16)))]) (hₚ := gc_h sh I J A) (C := (True ∧ True)) rfl ⟨trivial, trivial⟩ ?_
        exact gv_iret hD rfl ⟨rfl, ⟨_, rfl, by (/-45-/first | (and_intros; (have o1 := gz_sh f17; have o2 := gz_sh q15; omega); (have o1 := gz_sh f17; have o2 := gz_sh q15; omega)) | (simp only [gz_hd] at *; omega))⟩⟩
      refine gv_tabOut hD rfl ⟨by (/-46-/first | omega | (simp only [gz_hd] at *; omega)), by (/-47-/first | omega | (simp only [gz_hd] at *; omega))⟩ (by (/-48-/first | omega | (simp only [gz_hd] at *; omega))) (t := 110) rfl ?_
      refine gv_run 2 true hD (pcₚ := 113) (lvₚ := [(5, .inl ((Int32.ofInt ((I 101 (Int.toNat a1))) / Int32.ofInt 24).toInt)), (4, .inl (I 101 (Int.toNat a1))), (3, .inr (.inr (some t6_))), (0, .inr (.inr (some 100))), (1, .inl a1), (2, .inl a2)]) (stₚ := [.inl (I 101 (Int.toNat a1)), .inr (.inr (some t6_))]) (hₚ := gc_h sh I J A) (C := ((True ∧ True) ∧ True)) rfl ⟨⟨trivial, trivial⟩, trivial⟩ ?_
      obtain ⟨r18, h18, E18, P18⟩ := d_X11_formValues (ws0 := ws0) (tb := tb) hws htb sh ro I J A hI t6_ ((I 101 (Int.toNat a1))) h_t6   ⟨by (/-49-/first | (have o1 := gz_sh f7; omega) | (simp only [gz_hd] at *; omega)), by (/-50-/first | (have o1 := gz_sh f7; omega) | (simp only [gz_hd] at *; omega))⟩  
      obtain ⟨rfl, ⟨z18, rfl, q18⟩⟩ := P18
      replace q18 := gz_hi q18
      refine gv_callV hD rfl (As := [.inl (I 101 (Int.toNat a1))]) (st := []) rfl (gz_sh B_t6) S_t6 rfl (gc_lV1 hws rfl) (Nat.le_of_ble_eq_true rfl) (gz_Ev_mono (d := 2) (by decide) E18) ?_
      show gv_X _ _ (116, [(5, .inl ((Int32.ofInt ((I 101 (Int.toNat a1))) / Int32.ofInt 24).toInt)), (4, .inl (I 101 (Int.toNat a1))), (3, .inr (.inr (some t6_))), (0, .inr (.inr (some 100))), (1, .inl a1), (2, .inl a2)], [.inl z18], sh, gc_h sh I J A)
      refine gv_run 3 true hD (pcₚ := 119) (lvₚ := [(5, .inl ((Int32.ofInt ((I 101 (Int.toNat a1))) / Int32.ofInt 24).toInt)), (4, .inl (I 101 (Int.toNat a1))), (3, .inr (.inr (some t6_))), (0, .inr (.inr (some 100))), (1, .inl a1), (2, .inl a2)]) (stₚ := [.inl (a2 - 4), .inl z18]) (hₚ := gc_h sh I J A) (C := (((True ∧ True) ∧ True) ∧ True)) rfl ⟨⟨⟨trivial, trivial⟩, trivial⟩, trivial⟩ ?_
      obtain ⟨r19, h19, E19, P19⟩ := d_X11_shiftOf (ws0 := ws0) (tb := tb) hws htb sh ro I J A hI  (a2 - 4)    ⟨by (/-51-/first | omega | (simp only [gz_hd] at *; omega)), by (/-52-/first | omega | (simp only [gz_hd] at *; omega))⟩  
      obtain ⟨rfl, ⟨z19, rfl, q19⟩⟩ := P19
      replace q19 := gz_hi q19
      refine gv_callS hD rfl (As := [.inl (a2 - 4)]) (st := [.inl z18]) rfl (gc_lS1 hws rfl) (Nat.le_of_ble_eq_true rfl) (gz_Ev_mono (d := 1) (by decide) E19) ?_
      show gv_X _ _ (122, [(5, .inl ((Int32.ofInt ((I 101 (Int.toNat a1))) / Int32.ofInt 24).toInt)), (4, .inl (I 101 (Int.toNat a1))), (3, .inr (.inr (some t6_))), (0, .inr (.inr (some 100))), (1, .inl a1), (2, .inl a2)], [.inl z19, .inl z18], sh, gc_h sh I J A)
      have f21 := gz_hi (gw_and (x := (((Int32.ofInt z18 >>> (Int32.ofInt z19 &&& 31)).toInt))) (y := 7) ⟨by (/-55-/first | omega | (simp only [gz_hd] at *; omega)), by (/-56-/first | omega | (simp only [gz_hd] at *; omega))⟩)
      refine gv_run 3 true hD (pcₚ := 126) (lvₚ := [(5, .inl ((Int32.ofInt ((I 101 (Int.toNat a1))) / Int32.ofInt 24).toInt)), (4, .inl (I 101 (Int.toNat a1))), (3, .inr (.inr (some t6_))), (0, .inr (.inr (some 100))), (1, .inl a1), (2, .inl a2)]) (stₚ := [.inl ((Int32.ofInt (((Int32.ofInt z18 >>> (Int32.ofInt z19 &&& 31)).toInt)) &&& Int32.ofInt 7).toInt)]) (hₚ := gc_h sh I J A) (C := (((True ∧ True) ∧ True) ∧ True)) rfl ⟨⟨⟨trivial, trivial⟩, trivial⟩, trivial⟩ ?_
      exact gv_iret hD rfl ⟨rfl, ⟨_, rfl, by (/-57-/first | (and_intros; (have o1 := gz_sh f21; omega); (have o1 := gz_sh f21; omega)) | (simp only [gz_hd] at *; omega))⟩⟩
    · show gv_X _ _ (12, [(0, .inr (.inr (some 100))), (1, .inl a1), (2, .inl a2)], [], sh, gc_h sh I J A)
      refine gv_pick [] rfl ?_
      exact L12 
set_option maxHeartbeats 8000000 in
set_option maxRecDepth 100000 in
theorem d_X1_countEndings {ws0 : List Cond} {tb : String → gz_T} (hws : gc_Ws ws0) (htb : gc_tbs tb) (sh : gz_Sh) (ro : Nat → Nat) (I : gr_I) (J : gr_J) (A : gc_A) (hI : gc_Inv ro I) (a1 : Nat) (a2 : Nat) (a3 : Int) (hb : gc_Base sh ro A) (h_a1 : gc_isTongue sh ro A a1) (G_a1 : 144 ≤ a1) (h_a2 : gc_isText sh ro A a2) (G_a2 : a2 + 3 < 39) (ha3 : 1 ≤ a3 ∧ a3 ≤ 4) (x0 : a3 ≤ I a2 1) (x1 : I a2 1 ≤ 24) (x2 : I 100 7 = 0) : ∃ r hₚ, gz_Ev ws0 tb 3 (yX1_countEndings, cX1_countEndings, 6, none) [.inr (.inr (some 100)), .inr (.inr (some a1)), .inr (.inr (some a2)), .inl a3] sh (gc_h sh I J A) r sh hₚ 0 0 ∧ (∃ (Iₚ : gr_I) (Jₚ : gr_J), hₚ = gc_h sh Iₚ Jₚ A ∧ gc_Inv ro Iₚ ∧ (∀ q j : Nat, ((q = 100 ∧ j = 7) ∨ q = 103) ∨ Iₚ q j = I q j) ∧ (∀ q j : Nat, (False) ∨ Jₚ q j = J q j) ∧ r = none) := by
  have FI : ∀ q j : Nat, ((q = 100 ∧ j = 7) ∨ q = 103) ∨ I q j = I q j := fun _ _ => Or.inr rfl
  have FJ : ∀ q j : Nat, (False) ∨ J q j = J q j := fun _ _ => Or.inr rfl
  have A_100_6 : A 100 6 = some 103 := gc_bA_100_6 hb
  have B_100 := gz_hi (show 100 < 1000000 from by decide)
  have B_103 := gz_hi (show 103 < 1000000 from by decide)
  have R_100 := gz_hi (show ro 100 = 75 from gc_bR_100 hb)
  have R_103 := gz_hi (show ro 103 = 66 from gc_bR_103 hb)
  have S_100 : sh[100]? = some (false, 1, 19) := gc_bS_100 hb
  have S_103 : sh[103]? = some (true, 1, 24) := gc_bS_103 hb
  obtain ⟨S_a1, R_a1, B_a1, A_a1_0, h_a1_1, A_a1_1, h_a1_3, A_a1_2, S_a1_5, R_a1_5, B_a1_5, A_a1_3, S_a1_6, R_a1_6, B_a1_6, A_a1_4, h_a1_7, A_a1_5, S_a1_9, R_a1_9, B_a1_9, A_a1_7, S_a1_10, R_a1_10, B_a1_10, A_a1_8, h_a1_11, A_a1_9, S_a1_13, R_a1_13, B_a1_13, A_a1_10, S_a1_14, R_a1_14, B_a1_14, A_a1_12, S_a1_15, R_a1_15, B_a1_15, A_a1_14, S_a1_16, R_a1_16, B_a1_16, A_a1_15, h_a1_17⟩ := id h_a1
  replace R_a1 := gz_hi R_a1
  replace B_a1 := gz_hi B_a1
  replace R_a1_5 := gz_hi R_a1_5
  replace B_a1_5 := gz_hi B_a1_5
  replace R_a1_6 := gz_hi R_a1_6
  replace B_a1_6 := gz_hi B_a1_6
  replace R_a1_9 := gz_hi R_a1_9
  replace B_a1_9 := gz_hi B_a1_9
  replace R_a1_10 := gz_hi R_a1_10
  replace B_a1_10 := gz_hi B_a1_10
  replace R_a1_13 := gz_hi R_a1_13
  replace B_a1_13 := gz_hi B_a1_13
  replace R_a1_14 := gz_hi R_a1_14
  replace B_a1_14 := gz_hi B_a1_14
  replace R_a1_15 := gz_hi R_a1_15
  replace B_a1_15 := gz_hi B_a1_15
  replace R_a1_16 := gz_hi R_a1_16
  replace B_a1_16 := gz_hi B_a1_16
  obtain ⟨S_a1_1, R_a1_1, B_a1_1, A_a1_1_0, S_a1_1_1, R_a1_1_1, B_a1_1_1, Q0_a1_1, Q1_a1_1, Q2_a1_1⟩ := id h_a1_1
  replace R_a1_1 := gz_hi R_a1_1
  replace B_a1_1 := gz_hi B_a1_1
  replace R_a1_1_1 := gz_hi R_a1_1_1
  replace B_a1_1_1 := gz_hi B_a1_1_1
  obtain ⟨S_a1_3, R_a1_3, B_a1_3, A_a1_3_0, S_a1_3_1, R_a1_3_1, B_a1_3_1, Q0_a1_3, Q1_a1_3, Q2_a1_3⟩ := id h_a1_3
  replace R_a1_3 := gz_hi R_a1_3
  replace B_a1_3 := gz_hi B_a1_3
  replace R_a1_3_1 := gz_hi R_a1_3_1
  replace B_a1_3_1 := gz_hi B_a1_3_1
  obtain ⟨S_a1_7, R_a1_7, B_a1_7, A_a1_7_0, S_a1_7_1, R_a1_7_1, B_a1_7_1, Q0_a1_7, Q1_a1_7, Q2_a1_7⟩ := id h_a1_7
  replace R_a1_7 := gz_hi R_a1_7
  replace B_a1_7 := gz_hi B_a1_7
  replace R_a1_7_1 := gz_hi R_a1_7_1
  replace B_a1_7_1 := gz_hi B_a1_7_1
  obtain ⟨S_a1_11, R_a1_11, B_a1_11, A_a1_11_0, S_a1_11_1, R_a1_11_1, B_a1_11_1, Q0_a1_11, Q1_a1_11, Q2_a1_11⟩ := id h_a1_11
  replace R_a1_11 := gz_hi R_a1_11
  replace B_a1_11 := gz_hi B_a1_11
  replace R_a1_11_1 := gz_hi R_a1_11_1
  replace B_a1_11_1 := gz_hi B_a1_11_1
  obtain ⟨S_a1_17, R_a1_17, B_a1_17, A_a1_17_0, S_20, R_20, B_20, A_a1_17_1, S_a1_17_1, R_a1_17_1, B_a1_17_1, A_a1_17_2, S_a1_17_2, R_a1_17_2, B_a1_17_2, A_a1_17_3, S_a1_17_3, R_a1_17_3, B_a1_17_3, A_a1_17_4, S_a1_17_4, R_a1_17_4, B_a1_17_4, A_a1_17_5, S_a1_17_5, R_a1_17_5, B_a1_17_5, S_a1_17_6, R_a1_17_6, B_a1_17_6, S_a1_17_7, R_a1_17_7, B_a1_17_7⟩ := id h_a1_17
  replace R_a1_17 := gz_hi R_a1_17
  replace B_a1_17 := gz_hi B_a1_17
  replace R_20 := gz_hi R_20
  replace B_20 := gz_hi B_20
  replace R_a1_17_1 := gz_hi R_a1_17_1
  replace B_a1_17_1 := gz_hi B_a1_17_1
  replace R_a1_17_2 := gz_hi R_a1_17_2
  replace B_a1_17_2 := gz_hi B_a1_17_2
  replace R_a1_17_3 := gz_hi R_a1_17_3
  replace B_a1_17_3 := gz_hi B_a1_17_3
  replace R_a1_17_4 := gz_hi R_a1_17_4
  replace B_a1_17_4 := gz_hi B_a1_17_4
  replace R_a1_17_5 := gz_hi R_a1_17_5
  replace B_a1_17_5 := gz_hi B_a1_17_5
  replace R_a1_17_6 := gz_hi R_a1_17_6
  replace B_a1_17_6 := gz_hi B_a1_17_6
  replace R_a1_17_7 := gz_hi R_a1_17_7
  replace B_a1_17_7 := gz_hi B_a1_17_7
  obtain ⟨S_a2, R_a2, B_a2, A_a2_0, S_a2_1, R_a2_1, B_a2_1, A_a2_2, S_a2_2, R_a2_2, B_a2_2, A_a2_3, S_a2_3, R_a2_3, B_a2_3⟩ := id h_a2
  replace R_a2 := gz_hi R_a2
  replace B_a2 := gz_hi B_a2
  replace R_a2_1 := gz_hi R_a2_1
  replace B_a2_1 := gz_hi B_a2_1
  replace R_a2_2 := gz_hi R_a2_2
  replace B_a2_2 := gz_hi B_a2_2
  replace R_a2_3 := gz_hi R_a2_3
  replace B_a2_3 := gz_hi B_a2_3
  have hD : gv_D (gc_E1 ws0 tb 2 (yX1_countEndings, cX1_countEndings, 6, none) kX1_countEndings) := gq_of oX1_countEndings
  refine gc_ev1 (d := 2) (l := kX1_countEndings) (Po := fun r hₚ => (∃ (Iₚ : gr_I) (Jₚ : gr_J), hₚ = gc_h sh Iₚ Jₚ A ∧ gc_Inv ro Iₚ ∧ (∀ q j : Nat, ((q = 100 ∧ j = 7) ∨ q = 103) ∨ Iₚ q j = I q j) ∧ (∀ q j : Nat, (False) ∨ Jₚ q j = J q j) ∧ r = none)) htb rfl (Nat.le_of_ble_eq_true rfl) ?_
  have N_a2__103 := gz_hi (show ¬ (a2 = 103) from by (/-0-/first | omega | (simp only [gz_hd] at *; omega)))
  have N_a1__103 := gz_hi (show ¬ (a1 = 103) from by (/-1-/first | (have o1 := gz_sh B_a1; have o2 := gz_sh B_a1_10; have o3 := gz_sh B_a1_13; have o4 := gz_sh B_a1_14; have o5 := gz_sh B_a1_15; have o6 := gz_sh B_a1_16; have o7 := gz_sh B_a1_17; have o8 := gz_sh B_a1_17_1; have o9 := gz_sh B_a1_17_2; have o10 := gz_sh B_a1_17_3; have o11 := gz_sh B_a1_17_4; have o12 := gz_sh B_a1_17_5; have o13 := gz_sh B_a1_17_6; have o14 := gz_sh B_a1_17_7; have o15 := gz_sh B_a1_5; have o16 := gz_sh B_a1_6; have o17 := gz_sh B_a1_9; omega) | (simp only [gz_hd] at *; omega)))
  have f2 := gz_hi ((show 0 ≤ I a2 1 ∧ I a2 1 ≤ 1000 from gc_in2 hI (gz_sh R_a2) rfl rfl rfl))
  have L11 : ∀ (n9 : Nat) (I4 : gr_I) (J5 : gr_J) (v4_6 : Int), (65 - v4_6).toNat < n9 → gc_Inv ro I4 → (∀ q j : Nat, ((q = 100 ∧ j = 7) ∨ q = 103) ∨ I4 q j = I q j) → (∀ q j : Nat, (False) ∨ J5 q j = J q j) → ((1 ≤ a3 ∧ a3 ≤ 4) ∧ (0 ≤ v4_6 ∧ v4_6 ≤ 64) ∧ (I4 a2 1 = I a2 1) ∧ (I4 100 7 ≤ 24 * v4_6)) → (gc_rg 103 I4 24 0 (I4 100 7)) → gv_X (gc_E1 ws0 tb 2 (yX1_countEndings, cX1_countEndings, 6, none) kX1_countEndings) (gv_Q cX1_countEndings none sh (fun r hₚ => (∃ (Iₚ : gr_I) (Jₚ : gr_J), hₚ = gc_h sh Iₚ Jₚ A ∧ gc_Inv ro Iₚ ∧ (∀ q j : Nat, ((q = 100 ∧ j = 7) ∨ q = 103) ∨ Iₚ q j = I q j) ∧ (∀ q j : Nat, (False) ∨ Jₚ q j = J q j) ∧ r = none))) (11, [(0, .inr (.inr (some 100))), (1, .inr (.inr (some a1))), (2, .inr (.inr (some a2))), (3, .inl a3), (4, .inl v4_6)], [], sh, gc_h sh I4 J5 A) := by
    intro n9
    induction n9 with
    | zero => intro I4 J5 v4_6 hn; (/-2-/first | omega | (simp only [gz_hd] at *; omega))
    | succ n9 ih11 =>
      intro I4 J5 v4_6 hn hI4 FI4 FJ5 m_6 e0_6
      obtain ⟨ha3_6, hv4_6, e1_6, e2_6⟩ := gz_h4 m_6
      have f9 := gz_hi ((show 0 ≤ I4 a1 11 ∧ I4 a1 11 ≤ 64 from gc_in2 hI4 (gz_sh R_a1) rfl rfl rfl))
      have L23 : ∀ (n9 : Nat) (I10 : gr_I) (J11 : gr_J) (v5_12 : Int), (25 - v5_12).toNat < n9 → gc_Inv ro I10 → (∀ q j : Nat, ((q = 100 ∧ j = 7) ∨ q = 103) ∨ I10 q j = I q j) → (∀ q j : Nat, (False) ∨ J11 q j = J q j) → ((1 ≤ a3 ∧ a3 ≤ 4) ∧ (0 ≤ v4_6 ∧ v4_6 ≤ 63) ∧ (0 ≤ v5_12 ∧ v5_12 ≤ 24) ∧ (I10 a2 1 = I a2 1) ∧ (I10 100 7 ≤ 24 * v4_6 + v5_12) ∧ (v4_6 ≤ 63)) → (gc_rg 103 I10 24 0 (I10 100 7)) → gv_X (gc_E1 ws0 tb 2 (yX1_countEndings, cX1_countEndings, 6, none) kX1_countEndings) (gv_Q cX1_countEndings none sh (fun r hₚ => (∃ (Iₚ : gr_I) (Jₚ : gr_J), hₚ = gc_h sh Iₚ Jₚ A ∧ gc_Inv ro Iₚ ∧ (∀ q j : Nat, ((q = 100 ∧ j = 7) ∨ q = 103) ∨ Iₚ q j = I q j) ∧ (∀ q j : Nat, (False) ∨ Jₚ q j = J q j) ∧ r = none))) (23, [(0, .inr (.inr (some 100))), (1, .inr (.inr (some a1))), (2, .inr (.inr (some a2))), (3, .inl a3), (4, .inl v4_6), (5, .inl v5_12)], [], sh, gc_h sh I10 J11 A) := by
        intro n9
        induction n9 with
        | zero => intro I10 J11 v5_12 hn; (/-3-/first | omega | (simp only [gz_hd] at *; omega))
        | succ n9 ih23 =>
          intro I10 J11 v5_12 hn hI10 FI10 FJ11 m_12 e0_12
          clear ha3_6 hv4_6 e1_6 e2_6 f9
          obtain ⟨ha3_12, hv4_6_12, hv5_12, e1_12, e2_12, e3_12⟩ := gz_h6 m_12
          have f13 := gz_hi ((gc_b_75_7 hI10 (gz_sh R_100)))
          have L88 : ∀ (I16 : gr_I) (J17 : gr_J) , gc_Inv ro I16 → (∀ q j : Nat, ((q = 100 ∧ j = 7) ∨ q = 103) ∨ I16 q j = I q j) → (∀ q j : Nat, (False) ∨ J17 q j = J q j) → ((1 ≤ a3 ∧ a3 ≤ 4) ∧ (0 ≤ v4_6 ∧ v4_6 ≤ 63) ∧ (0 ≤ v5_12 ∧ v5_12 ≤ 23) ∧ (I16 a2 1 = I a2 1) ∧ (I16 100 7 ≤ 24 * v4_6 + v5_12 + 1) ∧ (v4_6 ≤ 63) ∧ (v5_12 ≤ 23)) → (gc_rg 103 I16 24 0 (I16 100 7)) → gv_X (gc_E1 ws0 tb 2 (yX1_countEndings, cX1_countEndings, 6, none) kX1_countEndings) (gv_Q cX1_countEndings none sh (fun r hₚ => (∃ (Iₚ : gr_I) (Jₚ : gr_J), hₚ = gc_h sh Iₚ Jₚ A ∧ gc_Inv ro Iₚ ∧ (∀ q j : Nat, ((q = 100 ∧ j = 7) ∨ q = 103) ∨ Iₚ q j = I q j) ∧ (∀ q j : Nat, (False) ∨ Jₚ q j = J q j) ∧ r = none))) (88, [(0, .inr (.inr (some 100))), (1, .inr (.inr (some a1))), (2, .inr (.inr (some a2))), (3, .inl a3), (4, .inl v4_6), (5, .inl v5_12)], [], sh, gc_h sh I16 J17 A) := by
            intro I16 J17 hI16 FI16 FJ17 m_18 e0_18
            clear ha3_12 hv4_6_12 hv5_12 e1_12 e2_12 e3_12 f13
            obtain ⟨ha3_18, hv4_6_18, hv5_12_18, e1_18, e2_18, e3_18, e4_18⟩ := gz_h7 m_18
            refine gv_run 2 true hD (pcₚ := 23) (lvₚ := [(5, .inl (v5_12 + 1)), (0, .inr (.inr (some 100))), (1, .inr (.inr (some a1))), (2, .inr (.inr (some a2))), (3, .inl a3), (4, .inl v4_6)]) (stₚ := []) (hₚ := gc_h sh I16 J17 A) (C := ((True ∧ True) ∧ True)) rfl ⟨⟨trivial, trivial⟩, trivial⟩ ?_
            refine gv_pick [1, 2, 3, 4, 5, 0] rfl ?_
            exact ih23 I16 J17 (v5_12 + 1) (by (/-4-/first | (have o1 := gz_sh hv5_12_18; omega) | (simp only [gz_hd] at *; omega))) hI16 FI16 FJ17 (by (/-5-/first | (and_intros; (omega); (omega); (have o1 := gz_sh hv4_6_18; omega); (have o1 := gz_sh hv4_6_18; omega); (have o1 := gz_sh hv5_12_18; omega); (have o1 := gz_sh hv5_12_18; omega); (have o1 := gz_sh e1_18; omega); (have o1 := gz_sh e2_18; omega); (have o1 := gz_sh hv4_6_18; omega)) | (simp only [gz_hd] at *; omega))) e0_18
          refine gv_run 3 true hD (pcₚ := 28) (lvₚ := [(0, .inr (.inr (some 100))), (1, .inr (.inr (some a1))), (2, .inr (.inr (some a2))), (3, .inl a3), (4, .inl v4_6), (5, .inl v5_12)]) (stₚ := [.inl v4_6, .inr (.inr (some a1)), .inl v5_12]) (hₚ := gc_h sh I10 J11 A) (C := (((True ∧ True) ∧ True) ∧ True)) rfl ⟨⟨⟨trivial, trivial⟩, trivial⟩, trivial⟩ ?_
          obtain ⟨r22, h22, E22, P22⟩ := d_X11_cellsOf (ws0 := ws0) (tb := tb) hws htb sh ro I10 J11 A hI10 a1 v4_6 h_a1   ⟨by (/-6-/first | (have o1 := gz_sh hv4_6_12; omega) | (simp only [gz_hd] at *; omega)), by (/-7-/first | (have o1 := gz_sh e3_12; omega) | (simp only [gz_hd] at *; omega))⟩  
          obtain ⟨rfl, ⟨z22, rfl, q22⟩⟩ := P22
          replace q22 := gz_hi q22
          refine gv_callV hD rfl (As := [.inl v4_6]) (st := [.inl v5_12]) rfl (gz_sh B_a1) S_a1 rfl (gc_lV1 hws rfl) (Nat.le_of_ble_eq_true rfl) (gz_Ev_mono (d := 2) (by decide) E22) ?_
          show gv_X _ _ (31, [(0, .inr (.inr (some 100))), (1, .inr (.inr (some a1))), (2, .inr (.inr (some a2))), (3, .inl a3), (4, .inl v4_6), (5, .inl v5_12)], [.inl z22, .inl v5_12], sh, gc_h sh I10 J11 A)
          refine gv_icmp_ge (t := 94) hD rfl rfl ⟨⟨by (/-8-/first | (have o1 := gz_sh hv5_12; omega) | (simp only [gz_hd] at *; omega)), by (/-9-/first | (have o1 := gz_sh hv5_12; omega) | (simp only [gz_hd] at *; omega))⟩, ⟨by (/-10-/first | (have o1 := gz_sh q22; omega) | (simp only [gz_hd] at *; omega)), by (/-11-/first | (have o1 := gz_sh q22; omega) | (simp only [gz_hd] at *; omega))⟩⟩ (fun c23 => ?_) (fun c23 => ?_)
          · show gv_X _ _ (94, [(0, .inr (.inr (some 100))), (1, .inr (.inr (some a1))), (2, .inr (.inr (some a2))), (3, .inl a3), (4, .inl v4_6), (5, .inl v5_12)], [], sh, gc_h sh I10 J11 A)
            refine gv_run 2 true hD (pcₚ := 11) (lvₚ := [(4, .inl (v4_6 + 1)), (0, .inr (.inr (some 100))), (1, .inr (.inr (some a1))), (2, .inr (.inr (some a2))), (3, .inl a3), (5, .inl v5_12)]) (stₚ := []) (hₚ := gc_h sh I10 J11 A) (C := ((True ∧ True) ∧ True)) rfl ⟨⟨trivial, trivial⟩, trivial⟩ ?_
            refine gv_pick [1, 2, 3, 4, 0] rfl ?_
            exact ih11 I10 J11 (v4_6 + 1) (by (/-12-/first | (have o1 := gz_sh hv4_6_12; have o2 := gz_sh hv5_12; omega) | (simp only [gz_hd] at *; omega))) hI10 FI10 FJ11 (by (/-13-/first | (and_intros; (omega); (omega); (have o1 := gz_sh hv4_6_12; omega); (have o1 := gz_sh hv4_6_12; omega); (have o1 := gz_sh e1_12; omega); (have o1 := gz_sh e2_12; have o2 := gz_sh hv5_12; omega)) | (simp only [gz_hd] at *; omega))) e0_12
          · show gv_X _ _ (34, [(0, .inr (.inr (some 100))), (1, .inr (.inr (some a1))), (2, .inr (.inr (some a2))), (3, .inl a3), (4, .inl v4_6), (5, .inl v5_12)], [], sh, gc_h sh I10 J11 A)
            refine gv_run 1 true hD (pcₚ := 35) (lvₚ := [(0, .inr (.inr (some 100))), (1, .inr (.inr (some a1))), (2, .inr (.inr (some a2))), (3, .inl a3), (4, .inl v4_6), (5, .inl v5_12)]) (stₚ := [.inr (.inr (some a1))]) (hₚ := gc_h sh I10 J11 A) (C := (True ∧ True)) rfl ⟨trivial, trivial⟩ ?_
            refine gv_get hD rfl rfl S_a1 ⟨by decide, (gz_sh B_a1)⟩ (gc_hA S_a1 rfl A_a1_15) ?_
            show gv_X _ _ (38, [(0, .inr (.inr (some 100))), (1, .inr (.inr (some a1))), (2, .inr (.inr (some a2))), (3, .inl a3), (4, .inl v4_6), (5, .inl v5_12)], [.inr (.inr (some (a1 + 17)))], sh, gc_h sh I10 J11 A)
            refine gv_run 6 true hD (pcₚ := 47) (lvₚ := [(0, .inr (.inr (some 100))), (1, .inr (.inr (some a1))), (2, .inr (.inr (some a2))), (3, .inl a3), (4, .inl v4_6), (5, .inl v5_12)]) (stₚ := [.inr (.inr (some a2)), .inl ((v4_6 * 24) + v5_12), .inr (.inr (some (a1 + 17)))]) (hₚ := gc_h sh I10 J11 A) (C := ((((((True ∧ True) ∧ True) ∧ True) ∧ True) ∧ True) ∧ True)) rfl ⟨⟨⟨⟨⟨⟨trivial, trivial⟩, trivial⟩, trivial⟩, trivial⟩, trivial⟩, trivial⟩ ?_
            refine gv_get hD rfl rfl S_a2 ⟨by decide, (gz_sh B_a2)⟩ (gc_hA S_a2 rfl A_a2_0) ?_
            show gv_X _ _ (50, [(0, .inr (.inr (some 100))), (1, .inr (.inr (some a1))), (2, .inr (.inr (some a2))), (3, .inl a3), (4, .inl v4_6), (5, .inl v5_12)], [.inr (.inr (some (a2 + 1))), .inl ((v4_6 * 24) + v5_12), .inr (.inr (some (a1 + 17)))], sh, gc_h sh I10 J11 A)
            refine gv_run 1 true hD (pcₚ := 51) (lvₚ := [(0, .inr (.inr (some 100))), (1, .inr (.inr (some a1))), (2, .inr (.inr (some a2))), (3, .inl a3), (4, .inl v4_6), (5, .inl v5_12)]) (stₚ := [.inr (.inr (some a2)), .inr (.inr (some (a2 + 1))), .inl ((v4_6 * 24) + v5_12), .inr (.inr (some (a1 + 17)))]) (hₚ := gc_h sh I10 J11 A) (C := (True ∧ True)) rfl ⟨trivial, trivial⟩ ?_
            refine gv_get hD rfl rfl S_a2 ⟨by decide, (gz_sh B_a2)⟩ (gc_hI S_a2 rfl) ?_
            show gv_X _ _ (54, [(0, .inr (.inr (some 100))), (1, .inr (.inr (some a1))), (2, .inr (.inr (some a2))), (3, .inl a3), (4, .inl v4_6), (5, .inl v5_12)], [.inl (I10 a2 1), .inr (.inr (some (a2 + 1))), .inl ((v4_6 * 24) + v5_12), .inr (.inr (some (a1 + 17)))], sh, gc_h sh I10 J11 A)
            refine gv_run 3 true hD (pcₚ := 57) (lvₚ := [(0, .inr (.inr (some 100))), (1, .inr (.inr (some a1))), (2, .inr (.inr (some a2))), (3, .inl a3), (4, .inl v4_6), (5, .inl v5_12)]) (stₚ := [.inl a3, .inl ((I10 a2 1) - a3), .inr (.inr (some (a2 + 1))), .inl ((v4_6 * 24) + v5_12), .inr (.inr (some (a1 + 17)))]) (hₚ := gc_h sh I10 J11 A) (C := (((True ∧ True) ∧ True) ∧ True)) rfl ⟨⟨⟨trivial, trivial⟩, trivial⟩, trivial⟩ ?_
            obtain ⟨r25, h25, E25, P25⟩ := d_X2_endsWith (ws0 := ws0) (tb := tb) hws htb sh ro I10 J11 A hI10 (a1 + 17) 1000 (((v4_6 * 24) + v5_12)) (a2 + 1) (((I10 a2 1) - a3)) a3 h_a1_17 S_a2_1 (gz_sh R_a2_1) (gz_sh B_a2_1) (by decide)  ⟨by (/-14-/first | (have o1 := gz_sh e2_12; have o2 := gz_sh f13; omega) | (simp only [gz_hd] at *; omega)), by (/-15-/first | (have o1 := gz_sh hv4_6_12; have o2 := gz_sh q22; omega) | (simp only [gz_hd] at *; omega))⟩ ⟨by (/-16-/first | (have o1 := gz_sh e1_12; omega) | (simp only [gz_hd] at *; omega)), by (/-17-/first | (have o1 := gz_sh e1_12; omega) | (simp only [gz_hd] at *; omega))⟩ ⟨by (/-18-/first | omega | (simp only [gz_hd] at *; omega)), by (/-19-/first | omega | (simp only [gz_hd] at *; omega))⟩ (by (/-20-/first | (have o1 := gz_sh e1_12; omega) | (simp only [gz_hd] at *; omega))) 
            obtain ⟨rfl, ⟨z25, rfl, q25⟩⟩ := P25
            replace q25 := gz_hi q25
            refine gv_callV hD rfl (As := [.inl ((v4_6 * 24) + v5_12), .inr (.inr (some (a2 + 1))), .inl ((I10 a2 1) - a3), .inl a3]) (st := []) rfl (gz_sh B_a1_17) S_a1_17 rfl (gc_lV1 hws rfl) (Nat.le_of_ble_eq_true rfl) (gz_Ev_mono (d := 1) (by decide) E25) ?_
            show gv_X _ _ (60, [(0, .inr (.inr (some 100))), (1, .inr (.inr (some a1))), (2, .inr (.inr (some a2))), (3, .inl a3), (4, .inl v4_6), (5, .inl v5_12)], [.inl z25], sh, gc_h sh I10 J11 A)
            refine gv_if_eq (t := 88) hD rfl rfl ⟨by (/-21-/first | (have o1 := gz_sh q25; omega) | (simp only [gz_hd] at *; omega)), by (/-22-/first | (have o1 := gz_sh q25; omega) | (simp only [gz_hd] at *; omega))⟩ (fun c26 => ?_) (fun c26 => ?_)
            · show gv_X _ _ (88, [(0, .inr (.inr (some 100))), (1, .inr (.inr (some a1))), (2, .inr (.inr (some a2))), (3, .inl a3), (4, .inl v4_6), (5, .inl v5_12)], [], sh, gc_h sh I10 J11 A)
              exact L88 I10 J11 hI10 FI10 FJ11 (by (/-23-/first | (and_intros; (omega); (omega); (have o1 := gz_sh hv4_6_12; omega); (have o1 := gz_sh hv4_6_12; omega); (have o1 := gz_sh hv5_12; omega); (have o1 := gz_sh q22; omega); (have o1 := gz_sh e1_12; omega); (have o1 := gz_sh e2_12; omega); (have o1 := gz_sh hv4_6_12; omega); (have o1 := gz_sh q22; omega)) | (simp only [gz_hd] at *; omega))) e0_12
            · show gv_X _ _ (63, [(0, .inr (.inr (some 100))), (1, .inr (.inr (some a1))), (2, .inr (.inr (some a2))), (3, .inl a3), (4, .inl v4_6), (5, .inl v5_12)], [], sh, gc_h sh I10 J11 A)
              refine gv_run 1 true hD (pcₚ := 64) (lvₚ := [(0, .inr (.inr (some 100))), (1, .inr (.inr (some a1))), (2, .inr (.inr (some a2))), (3, .inl a3), (4, .inl v4_6), (5, .inl v5_12)]) (stₚ := [.inr (.inr (some 100))]) (hₚ := gc_h sh I10 J11 A) (C := (True ∧ True)) rfl ⟨trivial, trivial⟩ ?_
              refine gv_get hD rfl rfl S_100 ⟨by decide, (gz_sh B_100)⟩ (gc_hA S_100 rfl A_100_6) ?_
              show gv_X _ _ (67, [(0, .inr (.inr (some 100))), (1, .inr (.inr (some a1))), (2, .inr (.inr (some a2))), (3, .inl a3), (4, .inl v4_6), (5, .inl v5_12)], [.inr (.inr (some 103))], sh, gc_h sh I10 J11 A)
              refine gv_run 2 true hD (pcₚ := 70) (lvₚ := [(0, .inr (.inr (some 100))), (1, .inr (.inr (some a1))), (2, .inr (.inr (some a2))), (3, .inl a3), (4, .inl v4_6), (5, .inl v5_12)]) (stₚ := [.inl v4_6, .inr (.inr (some a1)), .inr (.inr (some 103))]) (hₚ := gc_h sh I10 J11 A) (C := ((True ∧ True) ∧ True)) rfl ⟨⟨trivial, trivial⟩, trivial⟩ ?_
              obtain ⟨r27, h27, E27, P27⟩ := d_X11_wordPattern (ws0 := ws0) (tb := tb) hws htb sh ro I10 J11 A hI10 a1 v4_6 h_a1   ⟨by (/-24-/first | (have o1 := gz_sh hv4_6_12; omega) | (simp only [gz_hd] at *; omega)), by (/-25-/first | (have o1 := gz_sh e3_12; omega) | (simp only [gz_hd] at *; omega))⟩  
              obtain ⟨rfl, ⟨z27, rfl, q27⟩⟩ := P27
              replace q27 := gz_hi q27
              refine gv_callV hD rfl (As := [.inl v4_6]) (st := [.inr (.inr (some 103))]) rfl (gz_sh B_a1) S_a1 rfl (gc_lV1 hws rfl) (Nat.le_of_ble_eq_true rfl) (gz_Ev_mono (d := 1) (by decide) E27) ?_
              show gv_X _ _ (73, [(0, .inr (.inr (some 100))), (1, .inr (.inr (some a1))), (2, .inr (.inr (some a2))), (3, .inl a3), (4, .inl v4_6), (5, .inl v5_12)], [.inl z27, .inr (.inr (some 103))], sh, gc_h sh I10 J11 A)
              refine gv_run 1 true hD (pcₚ := 74) (lvₚ := [(0, .inr (.inr (some 100))), (1, .inr (.inr (some a1))), (2, .inr (.inr (some a2))), (3, .inl a3), (4, .inl v4_6), (5, .inl v5_12)]) (stₚ := [.inl z27, .inr (.inr (some 103)), .inl z27, .inr (.inr (some 103))]) (hₚ := gc_h sh I10 J11 A) (C := (True ∧ True)) rfl ⟨trivial, trivial⟩ ?_
              have t28 := gz_hi (e0_12 z27 (by (/-26-/first | (have o1 := gz_sh q27; omega) | (simp only [gz_hd] at *; omega))) (by (/-27-/first | (have o1 := gz_sh q27; omega) | (simp only [gz_hd] at *; omega))))
              have f29 := gz_hi ((gc_b_66 hI10 (gz_sh R_103) (Int.toNat z27)))
              refine gv_iald hD rfl S_103 rfl ⟨by decide, (gz_sh B_103)⟩ ⟨by (/-28-/first | (have o1 := gz_sh q27; omega) | (simp only [gz_hd] at *; omega)), by (/-29-/first | (have o1 := gz_sh q27; omega) | (simp only [gz_hd] at *; omega))⟩ (gc_iI S_103 rfl) ?_
              show gv_X _ _ (75, [(0, .inr (.inr (some 100))), (1, .inr (.inr (some a1))), (2, .inr (.inr (some a2))), (3, .inl a3), (4, .inl v4_6), (5, .inl v5_12)], [.inl (I10 103 (Int.toNat z27)), .inl z27, .inr (.inr (some 103))], sh, gc_h sh I10 J11 A)
              refine gv_run 2 true hD (pcₚ := 77) (lvₚ := [(0, .inr (.inr (some 100))), (1, .inr (.inr (some a1))), (2, .inr (.inr (some a2))), (3, .inl a3), (4, .inl v4_6), (5, .inl v5_12)]) (stₚ := [.inl ((I10 103 (Int.toNat z27)) + 1), .inl z27, .inr (.inr (some 103))]) (hₚ := gc_h sh I10 J11 A) (C := ((True ∧ True) ∧ True)) rfl ⟨⟨trivial, trivial⟩, trivial⟩ ?_
              refine gv_iast hD rfl S_103 ⟨by decide, (gz_sh B_103)⟩ ⟨by (/-30-/first | (have o1 := gz_sh q27; omega) | (simp only [gz_hd] at *; omega)), by (/-31-/first | (have o1 := gz_sh q27; omega) | (simp only [gz_hd] at *; omega))⟩ ?_
              refine gc_st hI10 S_103 rfl (gz_sh R_103) (lo := 0) (hi := 1536) rfl rfl (by (/-32-/first | (have o1 := gz_sh t28; omega) | (simp only [gz_hd] at *; omega))) (by (/-33-/first | (have o1 := gz_sh e2_12; have o2 := gz_sh hv4_6_12; have o3 := gz_sh q22; have o4 := gz_sh t28; omega) | (simp only [gz_hd] at *; omega))) (fun I30 hI30 q31 p31 => ?_)
              have FI30 := gc_frs (W := fun q j => (q = 100 ∧ j = 7) ∨ q = 103) FI10 (Or.inr rfl) p31
              have t32 := gz_hi (p31 100 7 (fun h => absurd h.1 (by first | exact gz_ne rfl | decide)))
              have t33 := gz_hi (p31 a2 1 (fun h => absurd h.1 (gz_sh N_a2__103)))
              show gv_X _ _ (78, [(0, .inr (.inr (some 100))), (1, .inr (.inr (some a1))), (2, .inr (.inr (some a2))), (3, .inl a3), (4, .inl v4_6), (5, .inl v5_12)], [], sh, gc_h sh I30 J11 A)
              refine gv_run 2 true hD (pcₚ := 80) (lvₚ := [(0, .inr (.inr (some 100))), (1, .inr (.inr (some a1))), (2, .inr (.inr (some a2))), (3, .inl a3), (4, .inl v4_6), (5, .inl v5_12)]) (stₚ := [.inr (.inr (some 100)), .inr (.inr (some 100))]) (hₚ := gc_h sh I30 J11 A) (C := ((True ∧ True) ∧ True)) rfl ⟨⟨trivial, trivial⟩, trivial⟩ ?_
              refine gv_get hD rfl rfl S_100 ⟨by decide, (gz_sh B_100)⟩ (gc_hI S_100 rfl) ?_
              show gv_X _ _ (83, [(0, .inr (.inr (some 100))), (1, .inr (.inr (some a1))), (2, .inr (.inr (some a2))), (3, .inl a3), (4, .inl v4_6), (5, .inl v5_12)], [.inl (I30 100 7), .inr (.inr (some 100))], sh, gc_h sh I30 J11 A)
              refine gv_run 2 true hD (pcₚ := 85) (lvₚ := [(0, .inr (.inr (some 100))), (1, .inr (.inr (some a1))), (2, .inr (.inr (some a2))), (3, .inl a3), (4, .inl v4_6), (5, .inl v5_12)]) (stₚ := [.inl ((I30 100 7) + 1), .inr (.inr (some 100))]) (hₚ := gc_h sh I30 J11 A) (C := ((True ∧ True) ∧ True)) rfl ⟨⟨trivial, trivial⟩, trivial⟩ ?_
              refine gv_put hD rfl rfl S_100 ⟨by decide, (gz_sh B_100)⟩ rfl trivial ?_
              refine gc_st (k := 7) hI30 S_100 rfl (gz_sh R_100) (lo := 0) (hi := 1536) rfl rfl (by (/-34-/first | (have o1 := gz_sh f13; have o2 := gz_sh t32; omega) | (simp only [gz_hd] at *; omega))) (by (/-35-/first | (have o1 := gz_sh e2_12; have o2 := gz_sh hv4_6_12; have o3 := gz_sh q22; have o4 := gz_sh t32; omega) | (simp only [gz_hd] at *; omega))) (fun I36 hI36 q37 p37 => ?_)
              have FI36 := gc_frs (W := fun q j => (q = 100 ∧ j = 7) ∨ q = 103) FI30 (Or.inl ⟨rfl, rfl⟩) p37
              have t38 := gz_hi (p37 a2 1 (fun h => absurd h.2 (by first | exact gz_ne rfl | decide)))
              show gv_X _ _ (88, [(0, .inr (.inr (some 100))), (1, .inr (.inr (some a1))), (2, .inr (.inr (some a2))), (3, .inl a3), (4, .inl v4_6), (5, .inl v5_12)], [], sh, gc_h sh I36 J11 A)
              exact L88 I36 J11 hI36 FI36 FJ11 (by (/-36-/first | (and_intros; (omega); (omega); (have o1 := gz_sh hv4_6_12; omega); (have o1 := gz_sh hv4_6_12; omega); (have o1 := gz_sh hv5_12; omega); (have o1 := gz_sh q22; omega); (have o1 := gz_sh e1_12; have o2 := gz_sh t33; have o3 := gz_sh t38; omega); (have o1 := gz_sh e2_12; have o2 := gz_sh t32; omega); (have o1 := gz_sh hv4_6_12; omega); (have o1 := gz_sh q22; omega)) | (simp only [gz_hd] at *; omega))) (gc_rg_fr (gc_rg_set (hi' := I36 100 7) e0_12 p31 (by (/-37-/first | (and_intros; (have o1 := gz_sh t28; omega); (have o1 := gz_sh t28; have o2 := gz_sh t32; omega)) | (simp only [gz_hd] at *; omega))) (by (/-38-/first | (have o1 := gz_sh t32; omega) | (simp only [gz_hd] at *; omega)))) (fun k => p37 103 k (fun h => absurd h.1 (by (/-39-/first | omega | (simp only [gz_hd] at *; omega))))))
      refine gv_run 2 true hD (pcₚ := 14) (lvₚ := [(0, .inr (.inr (some 100))), (1, .inr (.inr (some a1))), (2, .inr (.inr (some a2))), (3, .inl a3), (4, .inl v4_6)]) (stₚ := [.inr (.inr (some a1)), .inl v4_6]) (hₚ := gc_h sh I4 J5 A) (C := ((True ∧ True) ∧ True)) rfl ⟨⟨trivial, trivial⟩, trivial⟩ ?_
      refine gv_get hD rfl rfl S_a1 ⟨by decide, (gz_sh B_a1)⟩ (gc_hI S_a1 rfl) ?_
      show gv_X _ _ (17, [(0, .inr (.inr (some 100))), (1, .inr (.inr (some a1))), (2, .inr (.inr (some a2))), (3, .inl a3), (4, .inl v4_6)], [.inl (I4 a1 11), .inl v4_6], sh, gc_h sh I4 J5 A)
      refine gv_icmp_ge (t := 100) hD rfl rfl ⟨⟨by (/-40-/first | (have o1 := gz_sh hv4_6; omega) | (simp only [gz_hd] at *; omega)), by (/-41-/first | (have o1 := gz_sh hv4_6; omega) | (simp only [gz_hd] at *; omega))⟩, ⟨by (/-42-/first | (have o1 := gz_sh f9; omega) | (simp only [gz_hd] at *; omega)), by (/-43-/first | (have o1 := gz_sh f9; omega) | (simp only [gz_hd] at *; omega))⟩⟩ (fun c42 => ?_) (fun c42 => ?_)
      · show gv_X _ _ (100, [(0, .inr (.inr (some 100))), (1, .inr (.inr (some a1))), (2, .inr (.inr (some a2))), (3, .inl a3), (4, .inl v4_6)], [], sh, gc_h sh I4 J5 A)
        exact gv_vret hD rfl ⟨I4, J5, rfl, hI4, FI4, FJ5, rfl⟩
      · show gv_X _ _ (20, [(0, .inr (.inr (some 100))), (1, .inr (.inr (some a1))), (2, .inr (.inr (some a2))), (3, .inl a3), (4, .inl v4_6)], [], sh, gc_h sh I4 J5 A)
        refine gv_run 2 true hD (pcₚ := 23) (lvₚ := [(5, .inl 0), (0, .inr (.inr (some 100))), (1, .inr (.inr (some a1))), (2, .inr (.inr (some a2))), (3, .inl a3), (4, .inl v4_6)]) (stₚ := []) (hₚ := gc_h sh I4 J5 A) (C := ((True ∧ True) ∧ True)) rfl ⟨⟨trivial, trivial⟩, trivial⟩ ?_
        refine gv_pick [1, 2, 3, 4, 5, 0] rfl ?_
        exact L23 _ I4 J5 0 (Nat.lt_succ_self _) hI4 FI4 FJ5 (by (/-44-/first | (and_intros; (omega); (omega); (have o1 := gz_sh hv4_6; omega); (have o1 := gz_sh f9; omega); (omega); (omega); (have o1 := gz_sh e1_6; omega); (have o1 := gz_sh e2_6; omega); (have o1 := gz_sh f9; omega)) | (simp only [gz_hd] at *; omega))) e0_6
  refine gv_run 1 true hD (pcₚ := 1) (lvₚ := [(0, .inr (.inr (some 100))), (1, .inr (.inr (some a1))), (2, .inr (.inr (some a2))), (3, .inl a3)]) (stₚ := [.inr (.inr (some 100))]) (hₚ := gc_h sh I J A) (C := (True ∧ True)) rfl ⟨trivial, trivial⟩ ?_
  refine gv_get hD rfl rfl S_100 ⟨by decide, (gz_sh B_100)⟩ (gc_hA S_100 rfl A_100_6) ?_
  show gv_X _ _ (4, [(0, .inr (.inr (some 100))), (1, .inr (.inr (some a1))), (2, .inr (.inr (some a2))), (3, .inl a3)], [.inr (.inr (some 103))], sh, gc_h sh I J A)
  refine gv_run 1 true hD (pcₚ := 5) (lvₚ := [(0, .inr (.inr (some 100))), (1, .inr (.inr (some a1))), (2, .inr (.inr (some a2))), (3, .inl a3)]) (stₚ := [.inl 0, .inr (.inr (some 103))]) (hₚ := gc_h sh I J A) (C := (True ∧ True)) rfl ⟨trivial, trivial⟩ ?_
  obtain ⟨I44, E43, hI44, g43, q43⟩ := gj_fill (ws0 := ws0) (tb := tb) sh ro I J A hI 103 24 0 S_103 (gz_sh B_103) (by decide) ⟨by (/-45-/first | omega | (simp only [gz_hd] at *; omega)), by (/-46-/first | omega | (simp only [gz_hd] at *; omega))⟩ (fun k => by rw [(gz_sh R_103)]; exact ⟨by show 0 ≤ _; (/-47-/first | omega | (simp only [gz_hd] at *; omega)), by show _ ≤ 1536; (/-48-/first | omega | (simp only [gz_hd] at *; omega))⟩)
  refine gv_callS hD rfl (As := [.inr (.inr (some 103)), .inl 0]) (st := []) rfl (gc_lS1 hws rfl) (Nat.le_of_ble_eq_true rfl) (gz_Ev_mono (d := 1) (by decide) E43) ?_
  have FI44 := gc_frc (W := fun q j => (q = 100 ∧ j = 7) ∨ q = 103) (V := fun q j => q = 103) FI (fun q j h => (Or.inr h)) g43
  have t46 := gz_hi ((g43 100 7).resolve_left (fun h => absurd h (by first | exact gz_ne rfl | decide)))
  have t47 := gz_hi ((g43 a2 1).resolve_left (fun h => absurd h (gz_sh N_a2__103)))
  show gv_X _ _ (8, [(0, .inr (.inr (some 100))), (1, .inr (.inr (some a1))), (2, .inr (.inr (some a2))), (3, .inl a3)], [], sh, gc_h sh I44 J A)
  refine gv_run 2 true hD (pcₚ := 11) (lvₚ := [(4, .inl 0), (0, .inr (.inr (some 100))), (1, .inr (.inr (some a1))), (2, .inr (.inr (some a2))), (3, .inl a3)]) (stₚ := []) (hₚ := gc_h sh I44 J A) (C := ((True ∧ True) ∧ True)) rfl ⟨⟨trivial, trivial⟩, trivial⟩ ?_
  refine gv_pick [1, 2, 3, 4, 0] rfl ?_
  exact L11 _ I44 J 0 (Nat.lt_succ_self _) hI44 FI44 FJ (by (/-49-/first | (and_intros; (omega); (omega); (omega); (omega); (have o1 := gz_sh t47; omega); (have o1 := gz_sh t46; omega)) | (simp only [gz_hd] at *; omega))) (gc_rg_fill (m := 24) q43 (by (/-50-/first | (and_intros; (omega); (have o1 := gz_sh t46; omega)) | (simp only [gz_hd] at *; omega))))
set_option maxHeartbeats 8000000 in
set_option maxRecDepth 100000 in
theorem d_X1_noteGuesses {ws0 : List Cond} {tb : String → gz_T} (hws : gc_Ws ws0) (htb : gc_tbs tb) (sh : gz_Sh) (ro : Nat → Nat) (I : gr_I) (J : gr_J) (A : gc_A) (hI : gc_Inv ro I) (a1 : Nat) (a2 : Nat) (hb : gc_Base sh ro A) (h_a1 : gc_isTongue sh ro A a1) (G_a1 : 144 ≤ a1) (h_a2 : gc_isText sh ro A a2) (G_a2 : a2 + 3 < 39)   : ∃ r hₚ, gz_Ev ws0 tb 4 (yX1_noteGuesses, cX1_noteGuesses, 4, (some .int)) [.inr (.inr (some 100)), .inr (.inr (some a1)), .inr (.inr (some a2))] sh (gc_h sh I J A) r sh hₚ 0 0 ∧ (∃ (Iₚ : gr_I) (Jₚ : gr_J), hₚ = gc_h sh Iₚ Jₚ A ∧ gc_Inv ro Iₚ ∧ (∀ q j : Nat, ((q = 100 ∧ j = 4) ∨ (q = 100 ∧ j = 7) ∨ (q = 100 ∧ j = 8) ∨ q = 102 ∨ q = 103) ∨ Iₚ q j = I q j) ∧ (∀ q j : Nat, (False) ∨ Jₚ q j = J q j) ∧ (∃ z : Int, r = some (.inl z) ∧ (-3) ≤ z ∧ z ≤ 24)) := by
  have FI : ∀ q j : Nat, ((q = 100 ∧ j = 4) ∨ (q = 100 ∧ j = 7) ∨ (q = 100 ∧ j = 8) ∨ q = 102 ∨ q = 103) ∨ I q j = I q j := fun _ _ => Or.inr rfl
  have FJ : ∀ q j : Nat, (False) ∨ J q j = J q j := fun _ _ => Or.inr rfl
  have A_100_5 : A 100 5 = some 102 := gc_bA_100_5 hb
  have A_100_6 : A 100 6 = some 103 := gc_bA_100_6 hb
  have B_100 := gz_hi (show 100 < 1000000 from by decide)
  have B_102 := gz_hi (show 102 < 1000000 from by decide)
  have B_103 := gz_hi (show 103 < 1000000 from by decide)
  have R_100 := gz_hi (show ro 100 = 75 from gc_bR_100 hb)
  have R_102 := gz_hi (show ro 102 = 65 from gc_bR_102 hb)
  have R_103 := gz_hi (show ro 103 = 66 from gc_bR_103 hb)
  have S_100 : sh[100]? = some (false, 1, 19) := gc_bS_100 hb
  have S_102 : sh[102]? = some (true, 1, 24) := gc_bS_102 hb
  have S_103 : sh[103]? = some (true, 1, 24) := gc_bS_103 hb
  obtain ⟨S_a1, R_a1, B_a1, A_a1_0, h_a1_1, A_a1_1, h_a1_3, A_a1_2, S_a1_5, R_a1_5, B_a1_5, A_a1_3, S_a1_6, R_a1_6, B_a1_6, A_a1_4, h_a1_7, A_a1_5, S_a1_9, R_a1_9, B_a1_9, A_a1_7, S_a1_10, R_a1_10, B_a1_10, A_a1_8, h_a1_11, A_a1_9, S_a1_13, R_a1_13, B_a1_13, A_a1_10, S_a1_14, R_a1_14, B_a1_14, A_a1_12, S_a1_15, R_a1_15, B_a1_15, A_a1_14, S_a1_16, R_a1_16, B_a1_16, A_a1_15, h_a1_17⟩ := id h_a1
  replace R_a1 := gz_hi R_a1
  replace B_a1 := gz_hi B_a1
  replace R_a1_5 := gz_hi R_a1_5
  replace B_a1_5 := gz_hi B_a1_5
  replace R_a1_6 := gz_hi R_a1_6
  replace B_a1_6 := gz_hi B_a1_6
  replace R_a1_9 := gz_hi R_a1_9
  replace B_a1_9 := gz_hi B_a1_9
  replace R_a1_10 := gz_hi R_a1_10
  replace B_a1_10 := gz_hi B_a1_10
  replace R_a1_13 := gz_hi R_a1_13
  replace B_a1_13 := gz_hi B_a1_13
  replace R_a1_14 := gz_hi R_a1_14
  replace B_a1_14 := gz_hi B_a1_14
  replace R_a1_15 := gz_hi R_a1_15
  replace B_a1_15 := gz_hi B_a1_15
  replace R_a1_16 := gz_hi R_a1_16
  replace B_a1_16 := gz_hi B_a1_16
  obtain ⟨S_a1_1, R_a1_1, B_a1_1, A_a1_1_0, S_a1_1_1, R_a1_1_1, B_a1_1_1, Q0_a1_1, Q1_a1_1, Q2_a1_1⟩ := id h_a1_1
  replace R_a1_1 := gz_hi R_a1_1
  replace B_a1_1 := gz_hi B_a1_1
  replace R_a1_1_1 := gz_hi R_a1_1_1
  replace B_a1_1_1 := gz_hi B_a1_1_1
  obtain ⟨S_a1_3, R_a1_3, B_a1_3, A_a1_3_0, S_a1_3_1, R_a1_3_1, B_a1_3_1, Q0_a1_3, Q1_a1_3, Q2_a1_3⟩ := id h_a1_3
  replace R_a1_3 := gz_hi R_a1_3
  replace B_a1_3 := gz_hi B_a1_3
  replace R_a1_3_1 := gz_hi R_a1_3_1
  replace B_a1_3_1 := gz_hi B_a1_3_1
  obtain ⟨S_a1_7, R_a1_7, B_a1_7, A_a1_7_0, S_a1_7_1, R_a1_7_1, B_a1_7_1, Q0_a1_7, Q1_a1_7, Q2_a1_7⟩ := id h_a1_7
  replace R_a1_7 := gz_hi R_a1_7
  replace B_a1_7 := gz_hi B_a1_7
  replace R_a1_7_1 := gz_hi R_a1_7_1
  replace B_a1_7_1 := gz_hi B_a1_7_1
  obtain ⟨S_a1_11, R_a1_11, B_a1_11, A_a1_11_0, S_a1_11_1, R_a1_11_1, B_a1_11_1, Q0_a1_11, Q1_a1_11, Q2_a1_11⟩ := id h_a1_11
  replace R_a1_11 := gz_hi R_a1_11
  replace B_a1_11 := gz_hi B_a1_11
  replace R_a1_11_1 := gz_hi R_a1_11_1
  replace B_a1_11_1 := gz_hi B_a1_11_1
  obtain ⟨S_a1_17, R_a1_17, B_a1_17, A_a1_17_0, S_20, R_20, B_20, A_a1_17_1, S_a1_17_1, R_a1_17_1, B_a1_17_1, A_a1_17_2, S_a1_17_2, R_a1_17_2, B_a1_17_2, A_a1_17_3, S_a1_17_3, R_a1_17_3, B_a1_17_3, A_a1_17_4, S_a1_17_4, R_a1_17_4, B_a1_17_4, A_a1_17_5, S_a1_17_5, R_a1_17_5, B_a1_17_5, S_a1_17_6, R_a1_17_6, B_a1_17_6, S_a1_17_7, R_a1_17_7, B_a1_17_7⟩ := id h_a1_17
  replace R_a1_17 := gz_hi R_a1_17
  replace B_a1_17 := gz_hi B_a1_17
  replace R_20 := gz_hi R_20
  replace B_20 := gz_hi B_20
  replace R_a1_17_1 := gz_hi R_a1_17_1
  replace B_a1_17_1 := gz_hi B_a1_17_1
  replace R_a1_17_2 := gz_hi R_a1_17_2
  replace B_a1_17_2 := gz_hi B_a1_17_2
  replace R_a1_17_3 := gz_hi R_a1_17_3
  replace B_a1_17_3 := gz_hi B_a1_17_3
  replace R_a1_17_4 := gz_hi R_a1_17_4
  replace B_a1_17_4 := gz_hi B_a1_17_4
  replace R_a1_17_5 := gz_hi R_a1_17_5
  replace B_a1_17_5 := gz_hi B_a1_17_5
  replace R_a1_17_6 := gz_hi R_a1_17_6
  replace B_a1_17_6 := gz_hi B_a1_17_6
  replace R_a1_17_7 := gz_hi R_a1_17_7
  replace B_a1_17_7 := gz_hi B_a1_17_7
  obtain ⟨S_a2, R_a2, B_a2, A_a2_0, S_a2_1, R_a2_1, B_a2_1, A_a2_2, S_a2_2, R_a2_2, B_a2_2, A_a2_3, S_a2_3, R_a2_3, B_a2_3⟩ := id h_a2
  replace R_a2 := gz_hi R_a2
  replace B_a2 := gz_hi B_a2
  replace R_a2_1 := gz_hi R_a2_1
  replace B_a2_1 := gz_hi B_a2_1
  replace R_a2_2 := gz_hi R_a2_2
  replace B_a2_2 := gz_hi B_a2_2
  replace R_a2_3 := gz_hi R_a2_3
  replace B_a2_3 := gz_hi B_a2_3
  have hD : gv_D (gc_E1 ws0 tb 3 (yX1_noteGuesses, cX1_noteGuesses, 4, (some .int)) kX1_noteGuesses) := gq_of oX1_noteGuesses
  refine gc_ev1 (d := 3) (l := kX1_noteGuesses) (Po := fun r hₚ => (∃ (Iₚ : gr_I) (Jₚ : gr_J), hₚ = gc_h sh Iₚ Jₚ A ∧ gc_Inv ro Iₚ ∧ (∀ q j : Nat, ((q = 100 ∧ j = 4) ∨ (q = 100 ∧ j = 7) ∨ (q = 100 ∧ j = 8) ∨ q = 102 ∨ q = 103) ∨ Iₚ q j = I q j) ∧ (∀ q j : Nat, (False) ∨ Jₚ q j = J q j) ∧ (∃ z : Int, r = some (.inl z) ∧ (-3) ≤ z ∧ z ≤ 24))) htb rfl (Nat.le_of_ble_eq_true rfl) ?_
  have N_a2__102 := gz_hi (show ¬ (a2 = 102) from by (/-0-/first | omega | (simp only [gz_hd] at *; omega)))
  have N_a1_11__102 := gz_hi (show ¬ ((a1 + 11) = 102) from by (/-1-/first | (have o1 := gz_sh B_a1; have o2 := gz_sh B_a1_10; have o3 := gz_sh B_a1_13; have o4 := gz_sh B_a1_14; have o5 := gz_sh B_a1_15; have o6 := gz_sh B_a1_16; have o7 := gz_sh B_a1_17; have o8 := gz_sh B_a1_17_1; have o9 := gz_sh B_a1_17_2; have o10 := gz_sh B_a1_17_3; have o11 := gz_sh B_a1_17_4; have o12 := gz_sh B_a1_17_5; have o13 := gz_sh B_a1_17_6; have o14 := gz_sh B_a1_17_7; have o15 := gz_sh B_a1_5; have o16 := gz_sh B_a1_6; have o17 := gz_sh B_a1_9; omega) | (simp only [gz_hd] at *; omega)))
  have N_a2__103 := gz_hi (show ¬ (a2 = 103) from by (/-2-/first | omega | (simp only [gz_hd] at *; omega)))
  have N_a1_11__103 := gz_hi (show ¬ ((a1 + 11) = 103) from by (/-3-/first | (have o1 := gz_sh B_a1; have o2 := gz_sh B_a1_10; have o3 := gz_sh B_a1_13; have o4 := gz_sh B_a1_14; have o5 := gz_sh B_a1_15; have o6 := gz_sh B_a1_16; have o7 := gz_sh B_a1_17; have o8 := gz_sh B_a1_17_1; have o9 := gz_sh B_a1_17_2; have o10 := gz_sh B_a1_17_3; have o11 := gz_sh B_a1_17_4; have o12 := gz_sh B_a1_17_5; have o13 := gz_sh B_a1_17_6; have o14 := gz_sh B_a1_17_7; have o15 := gz_sh B_a1_5; have o16 := gz_sh B_a1_6; have o17 := gz_sh B_a1_9; omega) | (simp only [gz_hd] at *; omega)))
  have f3 := gz_hi ((show 0 ≤ I a2 1 ∧ I a2 1 ≤ 1000 from gc_in2 hI (gz_sh R_a2) rfl rfl rfl))
  have L29 : ∀ (n9 : Nat) (I5 : gr_I) (J6 : gr_J) (v3_7 : Int), (v3_7 - (-1)).toNat < n9 → gc_Inv ro I5 → (∀ q j : Nat, ((q = 100 ∧ j = 4) ∨ (q = 100 ∧ j = 7) ∨ (q = 100 ∧ j = 8) ∨ q = 102 ∨ q = 103) ∨ I5 q j = I q j) → (∀ q j : Nat, (False) ∨ J6 q j = J q j) → ((0 ≤ v3_7 ∧ v3_7 ≤ 4) ∧ (v3_7 ≤ I5 a2 1) ∧ (I5 a2 1 ≤ 24) ∧ (I5 100 4 = 0)) → gv_X (gc_E1 ws0 tb 3 (yX1_noteGuesses, cX1_noteGuesses, 4, (some .int)) kX1_noteGuesses) (gv_Q cX1_noteGuesses (some .int) sh (fun r hₚ => (∃ (Iₚ : gr_I) (Jₚ : gr_J), hₚ = gc_h sh Iₚ Jₚ A ∧ gc_Inv ro Iₚ ∧ (∀ q j : Nat, ((q = 100 ∧ j = 4) ∨ (q = 100 ∧ j = 7) ∨ (q = 100 ∧ j = 8) ∨ q = 102 ∨ q = 103) ∨ Iₚ q j = I q j) ∧ (∀ q j : Nat, (False) ∨ Jₚ q j = J q j) ∧ (∃ z : Int, r = some (.inl z) ∧ (-3) ≤ z ∧ z ≤ 24)))) (29, [(0, .inr (.inr (some 100))), (1, .inr (.inr (some a1))), (2, .inr (.inr (some a2))), (3, .inl v3_7)], [], sh, gc_h sh I5 J6 A) := by
    intro n9
    induction n9 with
    | zero => intro I5 J6 v3_7 hn; (/-4-/first | omega | (simp only [gz_hd] at *; omega))
    | succ n9 ih29 =>
      intro I5 J6 v3_7 hn hI5 FI5 FJ6 m_7
      obtain ⟨hv3_7, e0_7, e1_7, e2_7⟩ := gz_h4 m_7
      have f9 := gz_hi ((gc_b_75_7 hI5 (gz_sh R_100)))
      have f10 := gz_hi ((show 0 ≤ I5 a2 1 ∧ I5 a2 1 ≤ 1000 from gc_in2 hI5 (gz_sh R_a2) rfl rfl rfl))
      have L58 : ((I5 100 4 = 0)) → gv_X (gc_E1 ws0 tb 3 (yX1_noteGuesses, cX1_noteGuesses, 4, (some .int)) kX1_noteGuesses) (gv_Q cX1_noteGuesses (some .int) sh (fun r hₚ => (∃ (Iₚ : gr_I) (Jₚ : gr_J), hₚ = gc_h sh Iₚ Jₚ A ∧ gc_Inv ro Iₚ ∧ (∀ q j : Nat, ((q = 100 ∧ j = 4) ∨ (q = 100 ∧ j = 7) ∨ (q = 100 ∧ j = 8) ∨ q = 102 ∨ q = 103) ∨ Iₚ q j = I q j) ∧ (∀ q j : Nat, (False) ∨ Jₚ q j = J q j) ∧ (∃ z : Int, r = some (.inl z) ∧ (-3) ≤ z ∧ z ≤ 24)))) (58, [(0, .inr (.inr (some 100))), (1, .inr (.inr (some a1)))], [], sh, gc_h sh I5 J6 A) := by
        intro m_12
        have e0_12 := m_12
        have L60 : ∀ (n9 : Nat) (I17 : gr_I) (J18 : gr_J) (v3_19 : Int), (25 - v3_19).toNat < n9 → gc_Inv ro I17 → (∀ q j : Nat, ((q = 100 ∧ j = 4) ∨ (q = 100 ∧ j = 7) ∨ (q = 100 ∧ j = 8) ∨ q = 102 ∨ q = 103) ∨ I17 q j = I q j) → (∀ q j : Nat, (False) ∨ J18 q j = J q j) → ((0 ≤ v3_19 ∧ v3_19 ≤ 24) ∧ (I17 100 4 ≤ v3_19)) → gv_X (gc_E1 ws0 tb 3 (yX1_noteGuesses, cX1_noteGuesses, 4, (some .int)) kX1_noteGuesses) (gv_Q cX1_noteGuesses (some .int) sh (fun r hₚ => (∃ (Iₚ : gr_I) (Jₚ : gr_J), hₚ = gc_h sh Iₚ Jₚ A ∧ gc_Inv ro Iₚ ∧ (∀ q j : Nat, ((q = 100 ∧ j = 4) ∨ (q = 100 ∧ j = 7) ∨ (q = 100 ∧ j = 8) ∨ q = 102 ∨ q = 103) ∨ Iₚ q j = I q j) ∧ (∀ q j : Nat, (False) ∨ Jₚ q j = J q j) ∧ (∃ z : Int, r = some (.inl z) ∧ (-3) ≤ z ∧ z ≤ 24)))) (60, [(0, .inr (.inr (some 100))), (1, .inr (.inr (some a1))), (3, .inl v3_19)], [], sh, gc_h sh I17 J18 A) := by
          intro n9
          induction n9 with
          | zero => intro I17 J18 v3_19 hn; (/-5-/first | omega | (simp only [gz_hd] at *; omega))
          | succ n9 ih60 =>
            intro I17 J18 v3_19 hn hI17 FI17 FJ18 m_19
            clear e0_12 hv3_7 e0_7 e1_7 e2_7 f9 f10
            obtain ⟨hv3_19, e0_19⟩ := gz_h2 m_19
            have f20 := gz_hi ((gc_b_75_4 hI17 (gz_sh R_100)))
            have f21 := gz_hi ((gc_b_75_7 hI17 (gz_sh R_100)))
            have f23 := gz_hi ((show 0 ≤ I17 (a1 + 11) 1 ∧ I17 (a1 + 11) 1 ≤ 24 from gc_in2 hI17 (gz_sh R_a1_11) rfl rfl rfl))
            have L122 : ∀ (I24 : gr_I) (J25 : gr_J) , gc_Inv ro I24 → (∀ q j : Nat, ((q = 100 ∧ j = 4) ∨ (q = 100 ∧ j = 7) ∨ (q = 100 ∧ j = 8) ∨ q = 102 ∨ q = 103) ∨ I24 q j = I q j) → (∀ q j : Nat, (False) ∨ J25 q j = J q j) → ((0 ≤ v3_19 ∧ v3_19 ≤ 24) ∧ (I24 100 4 ≤ v3_19 + 1) ∧ (v3_19 ≤ 23)) → gv_X (gc_E1 ws0 tb 3 (yX1_noteGuesses, cX1_noteGuesses, 4, (some .int)) kX1_noteGuesses) (gv_Q cX1_noteGuesses (some .int) sh (fun r hₚ => (∃ (Iₚ : gr_I) (Jₚ : gr_J), hₚ = gc_h sh Iₚ Jₚ A ∧ gc_Inv ro Iₚ ∧ (∀ q j : Nat, ((q = 100 ∧ j = 4) ∨ (q = 100 ∧ j = 7) ∨ (q = 100 ∧ j = 8) ∨ q = 102 ∨ q = 103) ∨ Iₚ q j = I q j) ∧ (∀ q j : Nat, (False) ∨ Jₚ q j = J q j) ∧ (∃ z : Int, r = some (.inl z) ∧ (-3) ≤ z ∧ z ≤ 24)))) (122, [(0, .inr (.inr (some 100))), (1, .inr (.inr (some a1))), (3, .inl v3_19)], [], sh, gc_h sh I24 J25 A) := by
              intro I24 J25 hI24 FI24 FJ25 m_26
              clear hv3_19 e0_19 f20 f21 f23
              obtain ⟨hv3_19_26, e0_26, e1_26⟩ := gz_h3 m_26
              refine gv_run 2 true hD (pcₚ := 60) (lvₚ := [(3, .inl (v3_19 + 1)), (0, .inr (.inr (some 100))), (1, .inr (.inr (some a1)))]) (stₚ := []) (hₚ := gc_h sh I24 J25 A) (C := ((True ∧ True) ∧ True)) rfl ⟨⟨trivial, trivial⟩, trivial⟩ ?_
              refine gv_pick [1, 2, 0] rfl ?_
              exact ih60 I24 J25 (v3_19 + 1) (by (/-6-/first | (have o1 := gz_sh e1_26; have o2 := gz_sh hv3_19_26; omega) | (simp only [gz_hd] at *; omega))) hI24 FI24 FJ25 (by (/-7-/first | (and_intros; (have o1 := gz_sh hv3_19_26; omega); (have o1 := gz_sh e1_26; omega); (have o1 := gz_sh e0_26; omega)) | (simp only [gz_hd] at *; omega)))
            have L128 : gv_X (gc_E1 ws0 tb 3 (yX1_noteGuesses, cX1_noteGuesses, 4, (some .int)) kX1_noteGuesses) (gv_Q cX1_noteGuesses (some .int) sh (fun r hₚ => (∃ (Iₚ : gr_I) (Jₚ : gr_J), hₚ = gc_h sh Iₚ Jₚ A ∧ gc_Inv ro Iₚ ∧ (∀ q j : Nat, ((q = 100 ∧ j = 4) ∨ (q = 100 ∧ j = 7) ∨ (q = 100 ∧ j = 8) ∨ q = 102 ∨ q = 103) ∨ Iₚ q j = I q j) ∧ (∀ q j : Nat, (False) ∨ Jₚ q j = J q j) ∧ (∃ z : Int, r = some (.inl z) ∧ (-3) ≤ z ∧ z ≤ 24)))) (128, [(0, .inr (.inr (some 100)))], [], sh, gc_h sh I17 J18 A) := by
              refine gv_run 1 true hD (pcₚ := 129) (lvₚ := [(0, .inr (.inr (some 100)))]) (stₚ := [.inr (.inr (some 100))]) (hₚ := gc_h sh I17 J18 A) (C := (True ∧ True)) rfl ⟨trivial, trivial⟩ ?_
              refine gv_get hD rfl rfl S_100 ⟨by decide, (gz_sh B_100)⟩ (gc_hI S_100 rfl) ?_
              show gv_X _ _ (132, [(0, .inr (.inr (some 100)))], [.inl (I17 100 4)], sh, gc_h sh I17 J18 A)
              exact gv_iret hD rfl ⟨I17, J18, rfl, hI17, FI17, FJ18, ⟨_, rfl, by (/-8-/first | (and_intros; (have o1 := gz_sh f20; omega); (have o1 := gz_sh f20; omega)) | (simp only [gz_hd] at *; omega))⟩⟩
            refine gv_run 2 true hD (pcₚ := 62) (lvₚ := [(0, .inr (.inr (some 100))), (1, .inr (.inr (some a1))), (3, .inl v3_19)]) (stₚ := [.inr (.inr (some a1)), .inl v3_19]) (hₚ := gc_h sh I17 J18 A) (C := ((True ∧ True) ∧ True)) rfl ⟨⟨trivial, trivial⟩, trivial⟩ ?_
            refine gv_get hD rfl rfl S_a1 ⟨by decide, (gz_sh B_a1)⟩ (gc_hA S_a1 rfl A_a1_8) ?_
            show gv_X _ _ (65, [(0, .inr (.inr (some 100))), (1, .inr (.inr (some a1))), (3, .inl v3_19)], [.inr (.inr (some (a1 + 11))), .inl v3_19], sh, gc_h sh I17 J18 A)
            refine gv_get hD rfl rfl S_a1_11 ⟨by decide, (gz_sh B_a1_11)⟩ (gc_hI S_a1_11 rfl) ?_
            show gv_X _ _ (68, [(0, .inr (.inr (some 100))), (1, .inr (.inr (some a1))), (3, .inl v3_19)], [.inl (I17 (a1 + 11) 1), .inl v3_19], sh, gc_h sh I17 J18 A)
            refine gv_icmp_ge (t := 128) hD rfl rfl ⟨⟨by (/-9-/first | (have o1 := gz_sh hv3_19; omega) | (simp only [gz_hd] at *; omega)), by (/-10-/first | (have o1 := gz_sh hv3_19; omega) | (simp only [gz_hd] at *; omega))⟩, ⟨by (/-11-/first | (have o1 := gz_sh f23; omega) | (simp only [gz_hd] at *; omega)), by (/-12-/first | (have o1 := gz_sh f23; omega) | (simp only [gz_hd] at *; omega))⟩⟩ (fun c38 => ?_) (fun c38 => ?_)
            · show gv_X _ _ (128, [(0, .inr (.inr (some 100))), (1, .inr (.inr (some a1))), (3, .inl v3_19)], [], sh, gc_h sh I17 J18 A)
              refine gv_pick [0] rfl ?_
              exact L128 
            · show gv_X _ _ (71, [(0, .inr (.inr (some 100))), (1, .inr (.inr (some a1))), (3, .inl v3_19)], [], sh, gc_h sh I17 J18 A)
              refine gv_run 1 true hD (pcₚ := 72) (lvₚ := [(0, .inr (.inr (some 100))), (1, .inr (.inr (some a1))), (3, .inl v3_19)]) (stₚ := [.inr (.inr (some 100))]) (hₚ := gc_h sh I17 J18 A) (C := (True ∧ True)) rfl ⟨trivial, trivial⟩ ?_
              refine gv_get hD rfl rfl S_100 ⟨by decide, (gz_sh B_100)⟩ (gc_hI S_100 rfl) ?_
              show gv_X _ _ (75, [(0, .inr (.inr (some 100))), (1, .inr (.inr (some a1))), (3, .inl v3_19)], [.inl (I17 100 7)], sh, gc_h sh I17 J18 A)
              refine gv_if_le (t := 128) hD rfl rfl ⟨by (/-13-/first | (have o1 := gz_sh f21; omega) | (simp only [gz_hd] at *; omega)), by (/-14-/first | (have o1 := gz_sh f21; omega) | (simp only [gz_hd] at *; omega))⟩ (fun c40 => ?_) (fun c40 => ?_)
              · show gv_X _ _ (128, [(0, .inr (.inr (some 100))), (1, .inr (.inr (some a1))), (3, .inl v3_19)], [], sh, gc_h sh I17 J18 A)
                refine gv_pick [0] rfl ?_
                exact L128 
              · show gv_X _ _ (78, [(0, .inr (.inr (some 100))), (1, .inr (.inr (some a1))), (3, .inl v3_19)], [], sh, gc_h sh I17 J18 A)
                refine gv_run 1 true hD (pcₚ := 79) (lvₚ := [(0, .inr (.inr (some 100))), (1, .inr (.inr (some a1))), (3, .inl v3_19)]) (stₚ := [.inr (.inr (some 100))]) (hₚ := gc_h sh I17 J18 A) (C := (True ∧ True)) rfl ⟨trivial, trivial⟩ ?_
                refine gv_get hD rfl rfl S_100 ⟨by decide, (gz_sh B_100)⟩ (gc_hA S_100 rfl A_100_6) ?_
                show gv_X _ _ (82, [(0, .inr (.inr (some 100))), (1, .inr (.inr (some a1))), (3, .inl v3_19)], [.inr (.inr (some 103))], sh, gc_h sh I17 J18 A)
                refine gv_run 1 true hD (pcₚ := 83) (lvₚ := [(0, .inr (.inr (some 100))), (1, .inr (.inr (some a1))), (3, .inl v3_19)]) (stₚ := [.inl v3_19, .inr (.inr (some 103))]) (hₚ := gc_h sh I17 J18 A) (C := (True ∧ True)) rfl ⟨trivial, trivial⟩ ?_
                have f41 := gz_hi ((gc_b_66 hI17 (gz_sh R_103) (Int.toNat v3_19)))
                refine gv_iald hD rfl S_103 rfl ⟨by decide, (gz_sh B_103)⟩ ⟨by (/-15-/first | (have o1 := gz_sh hv3_19; omega) | (simp only [gz_hd] at *; omega)), by (/-16-/first | (have o1 := gz_sh f23; omega) | (simp only [gz_hd] at *; omega))⟩ (gc_iI S_103 rfl) ?_
                show gv_X _ _ (84, [(0, .inr (.inr (some 100))), (1, .inr (.inr (some a1))), (3, .inl v3_19)], [.inl (I17 103 (Int.toNat v3_19))], sh, gc_h sh I17 J18 A)
                refine gv_if_le (t := 122) hD rfl rfl ⟨by (/-17-/first | (have o1 := gz_sh f41; omega) | (simp only [gz_hd] at *; omega)), by (/-18-/first | (have o1 := gz_sh f41; omega) | (simp only [gz_hd] at *; omega))⟩ (fun c42 => ?_) (fun c42 => ?_)
                · show gv_X _ _ (122, [(0, .inr (.inr (some 100))), (1, .inr (.inr (some a1))), (3, .inl v3_19)], [], sh, gc_h sh I17 J18 A)
                  exact L122 I17 J18 hI17 FI17 FJ18 (by (/-19-/first | (and_intros; (have o1 := gz_sh hv3_19; omega); (have o1 := gz_sh hv3_19; omega); (have o1 := gz_sh e0_19; omega); (have o1 := gz_sh f23; omega)) | (simp only [gz_hd] at *; omega)))
                · show gv_X _ _ (87, [(0, .inr (.inr (some 100))), (1, .inr (.inr (some a1))), (3, .inl v3_19)], [], sh, gc_h sh I17 J18 A)
                  refine gv_run 1 true hD (pcₚ := 88) (lvₚ := [(0, .inr (.inr (some 100))), (1, .inr (.inr (some a1))), (3, .inl v3_19)]) (stₚ := [.inr (.inr (some 100))]) (hₚ := gc_h sh I17 J18 A) (C := (True ∧ True)) rfl ⟨trivial, trivial⟩ ?_
                  refine gv_get hD rfl rfl S_100 ⟨by decide, (gz_sh B_100)⟩ (gc_hA S_100 rfl A_100_5) ?_
                  show gv_X _ _ (91, [(0, .inr (.inr (some 100))), (1, .inr (.inr (some a1))), (3, .inl v3_19)], [.inr (.inr (some 102))], sh, gc_h sh I17 J18 A)
                  refine gv_run 1 true hD (pcₚ := 92) (lvₚ := [(0, .inr (.inr (some 100))), (1, .inr (.inr (some a1))), (3, .inl v3_19)]) (stₚ := [.inr (.inr (some 100)), .inr (.inr (some 102))]) (hₚ := gc_h sh I17 J18 A) (C := (True ∧ True)) rfl ⟨trivial, trivial⟩ ?_
                  refine gv_get hD rfl rfl S_100 ⟨by decide, (gz_sh B_100)⟩ (gc_hI S_100 rfl) ?_
                  show gv_X _ _ (95, [(0, .inr (.inr (some 100))), (1, .inr (.inr (some a1))), (3, .inl v3_19)], [.inl (I17 100 4), .inr (.inr (some 102))], sh, gc_h sh I17 J18 A)
                  refine gv_run 1 true hD (pcₚ := 96) (lvₚ := [(0, .inr (.inr (some 100))), (1, .inr (.inr (some a1))), (3, .inl v3_19)]) (stₚ := [.inl v3_19, .inl (I17 100 4), .inr (.inr (some 102))]) (hₚ := gc_h sh I17 J18 A) (C := (True ∧ True)) rfl ⟨trivial, trivial⟩ ?_
                  refine gv_iast hD rfl S_102 ⟨by decide, (gz_sh B_102)⟩ ⟨by (/-20-/first | (have o1 := gz_sh f20; omega) | (simp only [gz_hd] at *; omega)), by (/-21-/first | (have o1 := gz_sh e0_19; have o2 := gz_sh f23; omega) | (simp only [gz_hd] at *; omega))⟩ ?_
                  refine gc_st hI17 S_102 rfl (gz_sh R_102) (lo := 0) (hi := 23) rfl rfl (by (/-22-/first | (have o1 := gz_sh hv3_19; omega) | (simp only [gz_hd] at *; omega))) (by (/-23-/first | (have o1 := gz_sh f23; omega) | (simp only [gz_hd] at *; omega))) (fun I44 hI44 q45 p45 => ?_)
                  have FI44 := gc_frs (W := fun q j => (q = 100 ∧ j = 4) ∨ (q = 100 ∧ j = 7) ∨ (q = 100 ∧ j = 8) ∨ q = 102 ∨ q = 103) FI17 (Or.inr (Or.inr (Or.inr (Or.inl rfl)))) p45
                  have t46 := gz_hi (p45 100 4 (fun h => absurd h.1 (by first | exact gz_ne rfl | decide)))
                  have t49 := gz_hi (p45 (a1 + 11) 1 (fun h => absurd h.1 (gz_sh N_a1_11__102)))
                  show gv_X _ _ (97, [(0, .inr (.inr (some 100))), (1, .inr (.inr (some a1))), (3, .inl v3_19)], [], sh, gc_h sh I44 J18 A)
                  refine gv_run 1 true hD (pcₚ := 98) (lvₚ := [(0, .inr (.inr (some 100))), (1, .inr (.inr (some a1))), (3, .inl v3_19)]) (stₚ := [.inr (.inr (some 100))]) (hₚ := gc_h sh I44 J18 A) (C := (True ∧ True)) rfl ⟨trivial, trivial⟩ ?_
                  refine gv_get hD rfl rfl S_100 ⟨by decide, (gz_sh B_100)⟩ (gc_hA S_100 rfl A_100_6) ?_
                  show gv_X _ _ (101, [(0, .inr (.inr (some 100))), (1, .inr (.inr (some a1))), (3, .inl v3_19)], [.inr (.inr (some 103))], sh, gc_h sh I44 J18 A)
                  refine gv_run 1 true hD (pcₚ := 102) (lvₚ := [(0, .inr (.inr (some 100))), (1, .inr (.inr (some a1))), (3, .inl v3_19)]) (stₚ := [.inr (.inr (some 100)), .inr (.inr (some 103))]) (hₚ := gc_h sh I44 J18 A) (C := (True ∧ True)) rfl ⟨trivial, trivial⟩ ?_
                  refine gv_get hD rfl rfl S_100 ⟨by decide, (gz_sh B_100)⟩ (gc_hI S_100 rfl) ?_
                  show gv_X _ _ (105, [(0, .inr (.inr (some 100))), (1, .inr (.inr (some a1))), (3, .inl v3_19)], [.inl (I44 100 4), .inr (.inr (some 103))], sh, gc_h sh I44 J18 A)
                  refine gv_run 1 true hD (pcₚ := 106) (lvₚ := [(0, .inr (.inr (some 100))), (1, .inr (.inr (some a1))), (3, .inl v3_19)]) (stₚ := [.inr (.inr (some 100)), .inl (I44 100 4), .inr (.inr (some 103))]) (hₚ := gc_h sh I44 J18 A) (C := (True ∧ True)) rfl ⟨trivial, trivial⟩ ?_
                  refine gv_get hD rfl rfl S_100 ⟨by decide, (gz_sh B_100)⟩ (gc_hA S_100 rfl A_100_6) ?_
                  show gv_X _ _ (109, [(0, .inr (.inr (some 100))), (1, .inr (.inr (some a1))), (3, .inl v3_19)], [.inr (.inr (some 103)), .inl (I44 100 4), .inr (.inr (some 103))], sh, gc_h sh I44 J18 A)
                  refine gv_run 1 true hD (pcₚ := 110) (lvₚ := [(0, .inr (.inr (some 100))), (1, .inr (.inr (some a1))), (3, .inl v3_19)]) (stₚ := [.inl v3_19, .inr (.inr (some 103)), .inl (I44 100 4), .inr (.inr (some 103))]) (hₚ := gc_h sh I44 J18 A) (C := (True ∧ True)) rfl ⟨trivial, trivial⟩ ?_
                  have f51 := gz_hi ((gc_b_66 hI44 (gz_sh R_103) (Int.toNat v3_19)))
                  refine gv_iald hD rfl S_103 rfl ⟨by decide, (gz_sh B_103)⟩ ⟨by (/-24-/first | (have o1 := gz_sh hv3_19; omega) | (simp only [gz_hd] at *; omega)), by (/-25-/first | (have o1 := gz_sh f23; omega) | (simp only [gz_hd] at *; omega))⟩ (gc_iI S_103 rfl) ?_
                  show gv_X _ _ (111, [(0, .inr (.inr (some 100))), (1, .inr (.inr (some a1))), (3, .inl v3_19)], [.inl (I44 103 (Int.toNat v3_19)), .inl (I44 100 4), .inr (.inr (some 103))], sh, gc_h sh I44 J18 A)
                  refine gv_iast hD rfl S_103 ⟨by decide, (gz_sh B_103)⟩ ⟨by (/-26-/first | (have o1 := gz_sh f20; have o2 := gz_sh t46; omega) | (simp only [gz_hd] at *; omega)), by (/-27-/first | (have o1 := gz_sh e0_19; have o2 := gz_sh f23; have o3 := gz_sh t46; omega) | (simp only [gz_hd] at *; omega))⟩ ?_
                  refine gc_st hI44 S_103 rfl (gz_sh R_103) (lo := 0) (hi := 1536) rfl rfl (by (/-28-/first | (have o1 := gz_sh f51; omega) | (simp only [gz_hd] at *; omega))) (by (/-29-/first | (have o1 := gz_sh f51; omega) | (simp only [gz_hd] at *; omega))) (fun I52 hI52 q53 p53 => ?_)
                  have FI52 := gc_frs (W := fun q j => (q = 100 ∧ j = 4) ∨ (q = 100 ∧ j = 7) ∨ (q = 100 ∧ j = 8) ∨ q = 102 ∨ q = 103) FI44 (Or.inr (Or.inr (Or.inr (Or.inr rfl)))) p53
                  have t54 := gz_hi (p53 100 4 (fun h => absurd h.1 (by first | exact gz_ne rfl | decide)))
                  have t57 := gz_hi (p53 (a1 + 11) 1 (fun h => absurd h.1 (gz_sh N_a1_11__103)))
                  show gv_X _ _ (112, [(0, .inr (.inr (some 100))), (1, .inr (.inr (some a1))), (3, .inl v3_19)], [], sh, gc_h sh I52 J18 A)
                  refine gv_run 2 true hD (pcₚ := 114) (lvₚ := [(0, .inr (.inr (some 100))), (1, .inr (.inr (some a1))), (3, .inl v3_19)]) (stₚ := [.inr (.inr (some 100)), .inr (.inr (some 100))]) (hₚ := gc_h sh I52 J18 A) (C := ((True ∧ True) ∧ True)) rfl ⟨⟨trivial, trivial⟩, trivial⟩ ?_
                  refine gv_get hD rfl rfl S_100 ⟨by decide, (gz_sh B_100)⟩ (gc_hI S_100 rfl) ?_
                  show gv_X _ _ (117, [(0, .inr (.inr (some 100))), (1, .inr (.inr (some a1))), (3, .inl v3_19)], [.inl (I52 100 4), .inr (.inr (some 100))], sh, gc_h sh I52 J18 A)
                  refine gv_run 2 true hD (pcₚ := 119) (lvₚ := [(0, .inr (.inr (some 100))), (1, .inr (.inr (some a1))), (3, .inl v3_19)]) (stₚ := [.inl ((I52 100 4) + 1), .inr (.inr (some 100))]) (hₚ := gc_h sh I52 J18 A) (C := ((True ∧ True) ∧ True)) rfl ⟨⟨trivial, trivial⟩, trivial⟩ ?_
                  refine gv_put hD rfl rfl S_100 ⟨by decide, (gz_sh B_100)⟩ rfl trivial ?_
                  refine gc_st (k := 4) hI52 S_100 rfl (gz_sh R_100) (lo := 0) (hi := 24) rfl rfl (by (/-30-/first | (have o1 := gz_sh f20; have o2 := gz_sh t46; have o3 := gz_sh t54; omega) | (simp only [gz_hd] at *; omega))) (by (/-31-/first | (have o1 := gz_sh e0_19; have o2 := gz_sh f23; have o3 := gz_sh t46; have o4 := gz_sh t54; omega) | (simp only [gz_hd] at *; omega))) (fun I59 hI59 q60 p60 => ?_)
                  have FI59 := gc_frs (W := fun q j => (q = 100 ∧ j = 4) ∨ (q = 100 ∧ j = 7) ∨ (q = 100 ∧ j = 8) ∨ q = 102 ∨ q = 103) FI52 (Or.inl ⟨rfl, rfl⟩) p60
                  have t63 := gz_hi (p60 (a1 + 11) 1 (fun h => absurd h.2 (by first | exact gz_ne rfl | decide)))
                  show gv_X _ _ (122, [(0, .inr (.inr (some 100))), (1, .inr (.inr (some a1))), (3, .inl v3_19)], [], sh, gc_h sh I59 J18 A)
                  exact L122 I59 J18 hI59 FI59 FJ18 (by (/-32-/first | (and_intros; (have o1 := gz_sh hv3_19; omega); (have o1 := gz_sh hv3_19; omega); (have o1 := gz_sh e0_19; have o2 := gz_sh t46; have o3 := gz_sh t54; omega); (have o1 := gz_sh f23; omega)) | (simp only [gz_hd] at *; omega)))
        refine gv_run 2 true hD (pcₚ := 60) (lvₚ := [(3, .inl 0), (0, .inr (.inr (some 100))), (1, .inr (.inr (some a1)))]) (stₚ := []) (hₚ := gc_h sh I5 J6 A) (C := ((True ∧ True) ∧ True)) rfl ⟨⟨trivial, trivial⟩, trivial⟩ ?_
        refine gv_pick [1, 2, 0] rfl ?_
        exact L60 _ I5 J6 0 (Nat.lt_succ_self _) hI5 FI5 FJ6 (by (/-33-/first | (and_intros; (omega); (omega); (have o1 := gz_sh e2_7; omega)) | (simp only [gz_hd] at *; omega)))
      refine gv_run 1 true hD (pcₚ := 30) (lvₚ := [(0, .inr (.inr (some 100))), (1, .inr (.inr (some a1))), (2, .inr (.inr (some a2))), (3, .inl v3_7)]) (stₚ := [.inl v3_7]) (hₚ := gc_h sh I5 J6 A) (C := (True ∧ True)) rfl ⟨trivial, trivial⟩ ?_
      refine gv_if_le (t := 58) hD rfl rfl ⟨by (/-34-/first | (have o1 := gz_sh hv3_7; omega) | (simp only [gz_hd] at *; omega)), by (/-35-/first | (have o1 := gz_sh hv3_7; omega) | (simp only [gz_hd] at *; omega))⟩ (fun c65 => ?_) (fun c65 => ?_)
      · show gv_X _ _ (58, [(0, .inr (.inr (some 100))), (1, .inr (.inr (some a1))), (2, .inr (.inr (some a2))), (3, .inl v3_7)], [], sh, gc_h sh I5 J6 A)
        refine gv_pick [0, 1] rfl ?_
        exact L58 (by (/-36-/first | (have o1 := gz_sh e2_7; omega) | (simp only [gz_hd] at *; omega)))
      · show gv_X _ _ (33, [(0, .inr (.inr (some 100))), (1, .inr (.inr (some a1))), (2, .inr (.inr (some a2))), (3, .inl v3_7)], [], sh, gc_h sh I5 J6 A)
        refine gv_run 1 true hD (pcₚ := 34) (lvₚ := [(0, .inr (.inr (some 100))), (1, .inr (.inr (some a1))), (2, .inr (.inr (some a2))), (3, .inl v3_7)]) (stₚ := [.inr (.inr (some 100))]) (hₚ := gc_h sh I5 J6 A) (C := (True ∧ True)) rfl ⟨trivial, trivial⟩ ?_
        refine gv_get hD rfl rfl S_100 ⟨by decide, (gz_sh B_100)⟩ (gc_hI S_100 rfl) ?_
        show gv_X _ _ (37, [(0, .inr (.inr (some 100))), (1, .inr (.inr (some a1))), (2, .inr (.inr (some a2))), (3, .inl v3_7)], [.inl (I5 100 7)], sh, gc_h sh I5 J6 A)
        refine gv_if_ne (t := 58) hD rfl rfl ⟨by (/-37-/first | (have o1 := gz_sh f9; omega) | (simp only [gz_hd] at *; omega)), by (/-38-/first | (have o1 := gz_sh f9; omega) | (simp only [gz_hd] at *; omega))⟩ (fun c67 => ?_) (fun c67 => ?_)
        · show gv_X _ _ (58, [(0, .inr (.inr (some 100))), (1, .inr (.inr (some a1))), (2, .inr (.inr (some a2))), (3, .inl v3_7)], [], sh, gc_h sh I5 J6 A)
          refine gv_pick [0, 1] rfl ?_
          exact L58 (by (/-39-/first | (have o1 := gz_sh e2_7; omega) | (simp only [gz_hd] at *; omega)))
        · show gv_X _ _ (40, [(0, .inr (.inr (some 100))), (1, .inr (.inr (some a1))), (2, .inr (.inr (some a2))), (3, .inl v3_7)], [], sh, gc_h sh I5 J6 A)
          refine gv_run 2 true hD (pcₚ := 42) (lvₚ := [(0, .inr (.inr (some 100))), (1, .inr (.inr (some a1))), (2, .inr (.inr (some a2))), (3, .inl v3_7)]) (stₚ := [.inl v3_7, .inr (.inr (some 100))]) (hₚ := gc_h sh I5 J6 A) (C := ((True ∧ True) ∧ True)) rfl ⟨⟨trivial, trivial⟩, trivial⟩ ?_
          refine gv_put hD rfl rfl S_100 ⟨by decide, (gz_sh B_100)⟩ rfl trivial ?_
          refine gc_st (k := 8) hI5 S_100 rfl (gz_sh R_100) (lo := 0) (hi := 4) rfl rfl (by (/-40-/first | omega | (simp only [gz_hd] at *; omega))) (by (/-41-/first | (have o1 := gz_sh hv3_7; omega) | (simp only [gz_hd] at *; omega))) (fun I68 hI68 q69 p69 => ?_)
          have FI68 := gc_frs (W := fun q j => (q = 100 ∧ j = 4) ∨ (q = 100 ∧ j = 7) ∨ (q = 100 ∧ j = 8) ∨ q = 102 ∨ q = 103) FI5 (Or.inr (Or.inr (Or.inl ⟨rfl, rfl⟩))) p69
          have t70 := gz_hi (p69 100 4 (fun h => absurd h.2 (by first | exact gz_ne rfl | decide)))
          have t71 := gz_hi (p69 100 7 (fun h => absurd h.2 (by first | exact gz_ne rfl | decide)))
          have t72 := gz_hi (p69 a2 1 (fun h => absurd h.2 (by first | exact gz_ne rfl | decide)))
          show gv_X _ _ (45, [(0, .inr (.inr (some 100))), (1, .inr (.inr (some a1))), (2, .inr (.inr (some a2))), (3, .inl v3_7)], [], sh, gc_h sh I68 J6 A)
          refine gv_run 4 true hD (pcₚ := 49) (lvₚ := [(0, .inr (.inr (some 100))), (1, .inr (.inr (some a1))), (2, .inr (.inr (some a2))), (3, .inl v3_7)]) (stₚ := [.inl v3_7, .inr (.inr (some a2)), .inr (.inr (some a1)), .inr (.inr (some 100))]) (hₚ := gc_h sh I68 J6 A) (C := ((((True ∧ True) ∧ True) ∧ True) ∧ True)) rfl ⟨⟨⟨⟨trivial, trivial⟩, trivial⟩, trivial⟩, trivial⟩ ?_
          obtain ⟨r74, h74, E74, P74⟩ := d_X1_countEndings (ws0 := ws0) (tb := tb) hws htb sh ro I68 J6 A hI68  a1 a2 v3_7 hb h_a1 G_a1 h_a2 G_a2  ⟨by (/-42-/first | omega | (simp only [gz_hd] at *; omega)), by (/-43-/first | (have o1 := gz_sh hv3_7; omega) | (simp only [gz_hd] at *; omega))⟩ (by (/-44-/first | (have o1 := gz_sh e0_7; have o2 := gz_sh t72; omega) | (simp only [gz_hd] at *; omega))) (by (/-45-/first | (have o1 := gz_sh e1_7; have o2 := gz_sh t72; omega) | (simp only [gz_hd] at *; omega))) (by (/-46-/first | (have o1 := gz_sh t71; omega) | (simp only [gz_hd] at *; omega))) 
          obtain ⟨I75, J76, rfl, hI75, g74, k74, rfl⟩ := P74
          have FI75 := gc_frc (W := fun q j => (q = 100 ∧ j = 4) ∨ (q = 100 ∧ j = 7) ∨ (q = 100 ∧ j = 8) ∨ q = 102 ∨ q = 103) (V := fun q j => (q = 100 ∧ j = 7) ∨ q = 103) FI68 (fun q j h => (h.elim (fun h => (Or.inr (Or.inl h))) (fun h => (Or.inr (Or.inr (Or.inr (Or.inr h))))))) g74
          have t77 := gz_hi ((g74 100 4).resolve_left (fun h => h.elim (fun h => absurd h.2 (by first | exact gz_ne rfl | decide)) (fun h => absurd h (by first | exact gz_ne rfl | decide))))
          have t78 := gz_hi ((g74 a2 1).resolve_left (fun h => h.elim (fun h => absurd h.2 (by first | exact gz_ne rfl | decide)) (fun h => absurd h (gz_sh N_a2__103))))
          obtain rfl : J6 = J76 := funext fun q => funext fun j => ((k74 q j).resolve_left id).symm
          refine gv_callV hD rfl (As := [.inr (.inr (some a1)), .inr (.inr (some a2)), .inl v3_7]) (st := []) rfl (gz_sh B_100) S_100 rfl (gc_lV1 hws rfl) (Nat.le_of_ble_eq_true rfl) (gz_Ev_mono (d := 3) (by decide) E74) ?_
          show gv_X _ _ (52, [(0, .inr (.inr (some 100))), (1, .inr (.inr (some a1))), (2, .inr (.inr (some a2))), (3, .inl v3_7)], [], sh, gc_h sh I75 J6 A)
          refine gv_run 2 true hD (pcₚ := 29) (lvₚ := [(3, .inl (v3_7 + (-1))), (0, .inr (.inr (some 100))), (1, .inr (.inr (some a1))), (2, .inr (.inr (some a2)))]) (stₚ := []) (hₚ := gc_h sh I75 J6 A) (C := ((True ∧ True) ∧ True)) rfl ⟨⟨trivial, trivial⟩, trivial⟩ ?_
          refine gv_pick [1, 2, 3, 0] rfl ?_
          exact ih29 I75 J6 ((v3_7 + (-1))) (by (/-47-/first | (have o1 := gz_sh e2_7; have o2 := gz_sh hv3_7; omega) | (simp only [gz_hd] at *; omega))) hI75 FI75 FJ6 (by (/-48-/first | (and_intros; (omega); (have o1 := gz_sh hv3_7; omega); (have o1 := gz_sh e0_7; have o2 := gz_sh t72; have o3 := gz_sh t78; omega); (have o1 := gz_sh e1_7; have o2 := gz_sh t72; have o3 := gz_sh t78; omega); (have o1 := gz_sh e2_7; have o2 := gz_sh t70; have o3 := gz_sh t77; omega)) | (simp only [gz_hd] at *; omega)))
  refine gv_run 2 true hD (pcₚ := 2) (lvₚ := [(0, .inr (.inr (some 100))), (1, .inr (.inr (some a1))), (2, .inr (.inr (some a2)))]) (stₚ := [.inl 0, .inr (.inr (some 100))]) (hₚ := gc_h sh I J A) (C := ((True ∧ True) ∧ True)) rfl ⟨⟨trivial, trivial⟩, trivial⟩ ?_
  refine gv_put hD rfl rfl S_100 ⟨by decide, (gz_sh B_100)⟩ rfl trivial ?_
  refine gc_st (k := 4) hI S_100 rfl (gz_sh R_100) (lo := 0) (hi := 24) rfl rfl (by (/-49-/first | omega | (simp only [gz_hd] at *; omega))) (by (/-50-/first | omega | (simp only [gz_hd] at *; omega))) (fun I81 hI81 q82 p82 => ?_)
  have FI81 := gc_frs (W := fun q j => (q = 100 ∧ j = 4) ∨ (q = 100 ∧ j = 7) ∨ (q = 100 ∧ j = 8) ∨ q = 102 ∨ q = 103) FI (Or.inl ⟨rfl, rfl⟩) p82
  have t84 := gz_hi (p82 a2 1 (fun h => absurd h.2 (by first | exact gz_ne rfl | decide)))
  show gv_X _ _ (5, [(0, .inr (.inr (some 100))), (1, .inr (.inr (some a1))), (2, .inr (.inr (some a2)))], [], sh, gc_h sh I81 J A)
  refine gv_run 2 true hD (pcₚ := 7) (lvₚ := [(0, .inr (.inr (some 100))), (1, .inr (.inr (some a1))), (2, .inr (.inr (some a2)))]) (stₚ := [.inl 0, .inr (.inr (some 100))]) (hₚ := gc_h sh I81 J A) (C := ((True ∧ True) ∧ True)) rfl ⟨⟨trivial, trivial⟩, trivial⟩ ?_
  refine gv_put hD rfl rfl S_100 ⟨by decide, (gz_sh B_100)⟩ rfl trivial ?_
  refine gc_st (k := 7) hI81 S_100 rfl (gz_sh R_100) (lo := 0) (hi := 1536) rfl rfl (by (/-51-/first | omega | (simp only [gz_hd] at *; omega))) (by (/-52-/first | omega | (simp only [gz_hd] at *; omega))) (fun I87 hI87 q88 p88 => ?_)
  have FI87 := gc_frs (W := fun q j => (q = 100 ∧ j = 4) ∨ (q = 100 ∧ j = 7) ∨ (q = 100 ∧ j = 8) ∨ q = 102 ∨ q = 103) FI81 (Or.inr (Or.inl ⟨rfl, rfl⟩)) p88
  have t89 := gz_hi (p88 100 4 (fun h => absurd h.2 (by first | exact gz_ne rfl | decide)))
  have t90 := gz_hi (p88 a2 1 (fun h => absurd h.2 (by first | exact gz_ne rfl | decide)))
  show gv_X _ _ (10, [(0, .inr (.inr (some 100))), (1, .inr (.inr (some a1))), (2, .inr (.inr (some a2)))], [], sh, gc_h sh I87 J A)
  refine gv_run 1 true hD (pcₚ := 11) (lvₚ := [(0, .inr (.inr (some 100))), (1, .inr (.inr (some a1))), (2, .inr (.inr (some a2)))]) (stₚ := [.inr (.inr (some a2))]) (hₚ := gc_h sh I87 J A) (C := (True ∧ True)) rfl ⟨trivial, trivial⟩ ?_
  obtain ⟨r93, h93, E93, P93⟩ := d_X9_isWord (ws0 := ws0) (tb := tb) hws htb sh ro I87 J A hI87 a2  h_a2     
  obtain ⟨rfl, ⟨z93, rfl, q93⟩⟩ := P93
  replace q93 := gz_hi q93
  refine gv_callV hD rfl (As := []) (st := []) rfl (gz_sh B_a2) S_a2 rfl (gc_lV1 hws rfl) (Nat.le_of_ble_eq_true rfl) (gz_Ev_mono (d := 2) (by decide) E93) ?_
  show gv_X _ _ (14, [(0, .inr (.inr (some 100))), (1, .inr (.inr (some a1))), (2, .inr (.inr (some a2)))], [.inl z93], sh, gc_h sh I87 J A)
  refine gv_if_ne (t := 20) hD rfl rfl ⟨by (/-53-/first | (have o1 := gz_sh q93; omega) | (simp only [gz_hd] at *; omega)), by (/-54-/first | (have o1 := gz_sh q93; omega) | (simp only [gz_hd] at *; omega))⟩ (fun c94 => ?_) (fun c94 => ?_)
  · show gv_X _ _ (20, [(0, .inr (.inr (some 100))), (1, .inr (.inr (some a1))), (2, .inr (.inr (some a2)))], [], sh, gc_h sh I87 J A)
    refine gv_run 2 true hD (pcₚ := 22) (lvₚ := [(0, .inr (.inr (some 100))), (1, .inr (.inr (some a1))), (2, .inr (.inr (some a2)))]) (stₚ := [.inr (.inr (some a2)), .inl 4]) (hₚ := gc_h sh I87 J A) (C := ((True ∧ True) ∧ True)) rfl ⟨⟨trivial, trivial⟩, trivial⟩ ?_
    refine gv_get hD rfl rfl S_a2 ⟨by decide, (gz_sh B_a2)⟩ (gc_hI S_a2 rfl) ?_
    show gv_X _ _ (25, [(0, .inr (.inr (some 100))), (1, .inr (.inr (some a1))), (2, .inr (.inr (some a2)))], [.inl (I87 a2 1), .inl 4], sh, gc_h sh I87 J A)
    obtain ⟨z96, E96, q96⟩ := gj_min (ws0 := ws0) (tb := tb) (sh := sh) (h := gc_h sh I87 J A) 4 (I87 a2 1) ⟨by (/-55-/first | omega | (simp only [gz_hd] at *; omega)), by (/-56-/first | omega | (simp only [gz_hd] at *; omega))⟩ ⟨by (/-57-/first | (have o1 := gz_sh f3; have o2 := gz_sh t84; have o3 := gz_sh t90; omega) | (simp only [gz_hd] at *; omega)), by (/-58-/first | (have o1 := gz_sh f3; have o2 := gz_sh t84; have o3 := gz_sh t90; omega) | (simp only [gz_hd] at *; omega))⟩
    refine gv_callS hD rfl (As := [.inl 4, .inl (I87 a2 1)]) (st := []) rfl (gc_lS1 hws rfl) (Nat.le_of_ble_eq_true rfl) (gz_Ev_mono (d := 1) (by decide) E96) ?_
    show gv_X _ _ (28, [(0, .inr (.inr (some 100))), (1, .inr (.inr (some a1))), (2, .inr (.inr (some a2)))], [.inl z96], sh, gc_h sh I87 J A)
    refine gv_run 1 true hD (pcₚ := 29) (lvₚ := [(3, .inl z96), (0, .inr (.inr (some 100))), (1, .inr (.inr (some a1))), (2, .inr (.inr (some a2)))]) (stₚ := []) (hₚ := gc_h sh I87 J A) (C := (True ∧ True)) rfl ⟨trivial, trivial⟩ ?_
    refine gv_pick [1, 2, 3, 0] rfl ?_
    exact L29 _ I87 J z96 (Nat.lt_succ_self _) hI87 FI87 FJ (by (/-59-/first | (and_intros; (have o1 := gz_sh q93; omega); (omega); (omega); (have o1 := gz_sh q93; omega); (have o1 := gz_sh t89; omega)) | (simp only [gz_hd] at *; omega)))
  · show gv_X _ _ (17, [(0, .inr (.inr (some 100))), (1, .inr (.inr (some a1))), (2, .inr (.inr (some a2)))], [], sh, gc_h sh I87 J A)
    refine gv_run 1 true hD (pcₚ := 19) (lvₚ := [(0, .inr (.inr (some 100))), (1, .inr (.inr (some a1))), (2, .inr (.inr (some a2)))]) (stₚ := [.inl (-3)]) (hₚ := gc_h sh I87 J A) (C := (True ∧ True)) rfl ⟨trivial, trivial⟩ ?_
    exact gv_iret hD rfl ⟨I87, J, rfl, hI87, FI87, FJ, ⟨_, rfl, by (/-60-/first | (and_intros <;> omega) | (simp only [gz_hd] at *; omega))⟩⟩
