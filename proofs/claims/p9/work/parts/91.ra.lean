set_option maxHeartbeats 8000000 in
set_option maxRecDepth 100000 in
theorem r_bad {ws0 : List Cond} {tb : String → gz_T} (hws : ∀ w ∈ gr_ws, w ∈ ws0) (htb : tb RX13 = gr_T) (ext : gz_Sh) (I : gr_I) (J : gr_J) (hI : gr_Inv I)    : ∃ r hₚ, gz_Ev ws0 tb 1 (yX13_bad, cX13_bad, 1, (some .int)) [.inr (.inr (some 0))] (gr_sh ++ ext) (gr_h I J) r (gr_sh ++ ext) hₚ 0 0 ∧ (∃ (Iₚ : gr_I) (Jₚ : gr_J), hₚ = gr_h Iₚ Jₚ ∧ gr_Inv Iₚ ∧ gr_fr [0] [] I Iₚ ∧ gr_fj [0] [] J Jₚ ∧ (∃ z : Int, r = some (.inl z) ∧ 0 ≤ z ∧ z ≤ 0)) := by
  have FI : gr_fr [0] [] I I := fun _ _ _ => rfl
  have FJ : gr_fj [0] [] J J := fun _ _ _ => rfl
  have hD : gv_D (gr_E ws0 tb 0 (yX13_bad, cX13_bad, 1, (some .int)) kX13_bad) := gq_of oX13_bad
  refine gr_ev (d := 0) (l := kX13_bad) (Po := fun r hₚ => (∃ (Iₚ : gr_I) (Jₚ : gr_J), hₚ = gr_h Iₚ Jₚ ∧ gr_Inv Iₚ ∧ gr_fr [0] [] I Iₚ ∧ gr_fj [0] [] J Jₚ ∧ (∃ z : Int, r = some (.inl z) ∧ 0 ≤ z ∧ z ≤ 0))) htb rfl (Nat.le_of_ble_eq_true rfl) ?_
  refine gv_run 3 true hD (pcₚ := 5) (lvₚ := [(0, .inr (.inr (some 0)))]) (stₚ := []) (hₚ := gz_up (gr_h I J) 0 0 (.inl 1)) (C := (((True ∧ True) ∧ True) ∧ True)) rfl ⟨⟨⟨trivial, trivial⟩, trivial⟩, trivial⟩ ?_
  refine gr_st hI FI rfl rfl ⟨⟨by show 0 ≤ _; omega, by show _ ≤ 2; omega⟩, trivial⟩ (fun I1 hI1 FI1 q2 p2 => ?_)
  refine gv_run 1 true hD (pcₚ := 6) (lvₚ := [(0, .inr (.inr (some 0)))]) (stₚ := [.inl 0]) (hₚ := gr_h I1 J) (C := (True ∧ True)) rfl ⟨trivial, trivial⟩ ?_
  exact gv_iret hD rfl ⟨I1, J, rfl, hI1, FI1, FJ, ⟨_, rfl, by omega⟩⟩
set_option maxHeartbeats 8000000 in
set_option maxRecDepth 100000 in
theorem r_low {ws0 : List Cond} {tb : String → gz_T} (hws : ∀ w ∈ gr_ws, w ∈ ws0) (htb : tb RX13 = gr_T) (ext : gz_Sh) (I : gr_I) (J : gr_J) (hI : gr_Inv I) (a1 : Int) (ha1 : 0 ≤ a1 ∧ a1 ≤ 1001)  : ∃ r hₚ, gz_Ev ws0 tb 1 (yX13_low, cX13_low, 2, (some .boolean)) [.inr (.inr (some 0)), .inl a1] (gr_sh ++ ext) (gr_h I J) r (gr_sh ++ ext) hₚ 0 0 ∧ (hₚ = gr_h I J ∧ (∃ z : Int, r = some (.inl z) ∧ 0 ≤ z ∧ z ≤ 1 ∧ ((z = 1 ∧ a1 < I 0 69 ∧ 97 ≤ I 57 (Int.toNat a1) ∧ I 57 (Int.toNat a1) ≤ 122) ∨ (z = 0 ∧ (I 0 69 ≤ a1 ∨ I 57 (Int.toNat a1) < 97 ∨ 122 < I 57 (Int.toNat a1)))))) := by
  have hD : gv_D (gr_E ws0 tb 0 (yX13_low, cX13_low, 2, (some .boolean)) kX13_low) := gq_of oX13_low
  refine gr_ev (d := 0) (l := kX13_low) (Po := fun r hₚ => (hₚ = gr_h I J ∧ (∃ z : Int, r = some (.inl z) ∧ 0 ≤ z ∧ z ≤ 1 ∧ ((z = 1 ∧ a1 < I 0 69 ∧ 97 ≤ I 57 (Int.toNat a1) ∧ I 57 (Int.toNat a1) ≤ 122) ∨ (z = 0 ∧ (I 0 69 ≤ a1 ∨ I 57 (Int.toNat a1) < 97 ∨ 122 < I 57 (Int.toNat a1))))))) htb rfl (Nat.le_of_ble_eq_true rfl) ?_
  have L35 : ∀ (s0_1 : Int), ((0 ≤ s0_1 ∧ s0_1 ≤ 1) ∧ ((s0_1 = 1 ∧ a1 < I 0 69 ∧ 97 ≤ I 57 (Int.toNat a1) ∧ I 57 (Int.toNat a1) ≤ 122) ∨ (s0_1 = 0 ∧ (I 0 69 ≤ a1 ∨ I 57 (Int.toNat a1) < 97 ∨ 122 < I 57 (Int.toNat a1))))) → gv_X (gr_E ws0 tb 0 (yX13_low, cX13_low, 2, (some .boolean)) kX13_low) (gv_Q cX13_low (some .boolean) (gr_sh ++ ext) (fun r hₚ => (hₚ = gr_h I J ∧ (∃ z : Int, r = some (.inl z) ∧ 0 ≤ z ∧ z ≤ 1 ∧ ((z = 1 ∧ a1 < I 0 69 ∧ 97 ≤ I 57 (Int.toNat a1) ∧ I 57 (Int.toNat a1) ≤ 122) ∨ (z = 0 ∧ (I 0 69 ≤ a1 ∨ I 57 (Int.toNat a1) < 97 ∨ 122 < I 57 (Int.toNat a1)))))))) (35, [], [.inl s0_1], gr_sh ++ ext, gr_h I J) := by
    intro s0_1 m_1
    obtain ⟨hs0_1, e0_1⟩ := gz_h2 m_1
    exact gv_zret hD rfl (by (/-0-/first | (have o1 := gz_sh hs0_1; omega) | (simp only [gz_hd] at *; omega))) ⟨rfl, ⟨_, rfl, by (/-1-/first | (and_intros; (have o1 := gz_sh hs0_1; omega); (have o1 := gz_sh hs0_1; omega); (have o1 := gz_sh e0_1; have o2 := gz_sh hs0_1; omega)) | (simp only [gz_hd] at *; omega))⟩⟩
  have L34 : ((I 0 69 ≤ a1 ∨ I 57 (Int.toNat a1) < 97 ∨ 122 < I 57 (Int.toNat a1))) → gv_X (gr_E ws0 tb 0 (yX13_low, cX13_low, 2, (some .boolean)) kX13_low) (gv_Q cX13_low (some .boolean) (gr_sh ++ ext) (fun r hₚ => (hₚ = gr_h I J ∧ (∃ z : Int, r = some (.inl z) ∧ 0 ≤ z ∧ z ≤ 1 ∧ ((z = 1 ∧ a1 < I 0 69 ∧ 97 ≤ I 57 (Int.toNat a1) ∧ I 57 (Int.toNat a1) ≤ 122) ∨ (z = 0 ∧ (I 0 69 ≤ a1 ∨ I 57 (Int.toNat a1) < 97 ∨ 122 < I 57 (Int.toNat a1)))))))) (34, [], [], gr_sh ++ ext, gr_h I J) := by
    intro m_2
    have e0_2 := m_2
    refine gv_run 1 true hD (pcₚ := 35) (lvₚ := []) (stₚ := [.inl 0]) (hₚ := gr_h I J) (C := (True ∧ True)) rfl ⟨trivial, trivial⟩ ?_
    exact L35 0 (by (/-2-/first | (and_intros <;> omega) | (simp only [gz_hd] at *; omega)))
  have f3 := gz_hi ((gr_b_0_69 hI))
  refine gv_run 3 true hD (pcₚ := 5) (lvₚ := [(0, .inr (.inr (some 0))), (1, .inl a1)]) (stₚ := [.inl (I 0 69), .inl a1]) (hₚ := gr_h I J) (C := (((True ∧ True) ∧ True) ∧ True)) rfl ⟨⟨⟨trivial, trivial⟩, trivial⟩, trivial⟩ ?_
  refine gv_icmp_ge (t := 34) hD rfl rfl ⟨⟨by (/-3-/first | omega | (simp only [gz_hd] at *; omega)), by (/-4-/first | omega | (simp only [gz_hd] at *; omega))⟩, ⟨by (/-5-/first | (have o1 := gz_sh f3; omega) | (simp only [gz_hd] at *; omega)), by (/-6-/first | (have o1 := gz_sh f3; omega) | (simp only [gz_hd] at *; omega))⟩⟩ (fun c4 => ?_) (fun c4 => ?_)
  · refine gv_pick [] rfl ?_
    exact L34 (by (/-7-/first | omega | (simp only [gz_hd] at *; omega)))
  · have f5 := gz_hi ((gr_b_57 hI (Int.toNat a1)))
    refine gv_run 4 true hD (pcₚ := 14) (lvₚ := [(0, .inr (.inr (some 0))), (1, .inl a1)]) (stₚ := [.inl (I 57 (Int.toNat a1))]) (hₚ := gr_h I J) (C := ((((True ∧ True) ∧ True) ∧ True) ∧ (0 ≤ a1 ∧ a1 < ((1000 : Nat) : Int)))) rfl ⟨⟨⟨⟨trivial, trivial⟩, trivial⟩, trivial⟩, ⟨by (/-8-/first | omega | (simp only [gz_hd] at *; omega)), by (/-9-/first | (have o1 := gz_sh f3; omega) | (simp only [gz_hd] at *; omega))⟩⟩ ?_
    refine gv_run 1 true hD (pcₚ := 16) (lvₚ := [(0, .inr (.inr (some 0))), (1, .inl a1)]) (stₚ := [.inl 97, .inl (I 57 (Int.toNat a1))]) (hₚ := gr_h I J) (C := (True ∧ True)) rfl ⟨trivial, trivial⟩ ?_
    refine gv_icmp_lt (t := 34) hD rfl rfl ⟨⟨by (/-10-/first | (have o1 := gz_sh f5; omega) | (simp only [gz_hd] at *; omega)), by (/-11-/first | (have o1 := gz_sh f5; omega) | (simp only [gz_hd] at *; omega))⟩, ⟨by (/-12-/first | omega | (simp only [gz_hd] at *; omega)), by (/-13-/first | omega | (simp only [gz_hd] at *; omega))⟩⟩ (fun c6 => ?_) (fun c6 => ?_)
    · refine gv_pick [] rfl ?_
      exact L34 (by (/-14-/first | omega | (simp only [gz_hd] at *; omega)))
    · have f7 := gz_hi ((gr_b_57 hI (Int.toNat a1)))
      refine gv_run 4 true hD (pcₚ := 25) (lvₚ := [(0, .inr (.inr (some 0))), (1, .inl a1)]) (stₚ := [.inl (I 57 (Int.toNat a1))]) (hₚ := gr_h I J) (C := ((((True ∧ True) ∧ True) ∧ True) ∧ (0 ≤ a1 ∧ a1 < ((1000 : Nat) : Int)))) rfl ⟨⟨⟨⟨trivial, trivial⟩, trivial⟩, trivial⟩, ⟨by (/-15-/first | omega | (simp only [gz_hd] at *; omega)), by (/-16-/first | (have o1 := gz_sh f3; omega) | (simp only [gz_hd] at *; omega))⟩⟩ ?_
      refine gv_run 1 true hD (pcₚ := 27) (lvₚ := [(0, .inr (.inr (some 0))), (1, .inl a1)]) (stₚ := [.inl 122, .inl (I 57 (Int.toNat a1))]) (hₚ := gr_h I J) (C := (True ∧ True)) rfl ⟨trivial, trivial⟩ ?_
      refine gv_icmp_gt (t := 34) hD rfl rfl ⟨⟨by (/-17-/first | omega | (simp only [gz_hd] at *; omega)), by (/-18-/first | (have o1 := gz_sh f5; omega) | (simp only [gz_hd] at *; omega))⟩, ⟨by (/-19-/first | omega | (simp only [gz_hd] at *; omega)), by (/-20-/first | omega | (simp only [gz_hd] at *; omega))⟩⟩ (fun c8 => ?_) (fun c8 => ?_)
      · refine gv_pick [] rfl ?_
        exact L34 (by (/-21-/first | omega | (simp only [gz_hd] at *; omega)))
      · refine gv_run 2 true hD (pcₚ := 35) (lvₚ := [(0, .inr (.inr (some 0))), (1, .inl a1)]) (stₚ := [.inl 1]) (hₚ := gr_h I J) (C := ((True ∧ True) ∧ True)) rfl ⟨⟨trivial, trivial⟩, trivial⟩ ?_
        refine gv_pick [] rfl ?_
        exact L35 1 (by (/-22-/first | (and_intros <;> omega) | (simp only [gz_hd] at *; omega)))
set_option maxHeartbeats 8000000 in
set_option maxRecDepth 100000 in
theorem r_dig {ws0 : List Cond} {tb : String → gz_T} (hws : ∀ w ∈ gr_ws, w ∈ ws0) (htb : tb RX13 = gr_T) (ext : gz_Sh) (I : gr_I) (J : gr_J) (hI : gr_Inv I) (a1 : Int) (ha1 : 0 ≤ a1 ∧ a1 ≤ 1001)  : ∃ r hₚ, gz_Ev ws0 tb 1 (yX13_dig, cX13_dig, 2, (some .boolean)) [.inr (.inr (some 0)), .inl a1] (gr_sh ++ ext) (gr_h I J) r (gr_sh ++ ext) hₚ 0 0 ∧ (hₚ = gr_h I J ∧ (∃ z : Int, r = some (.inl z) ∧ 0 ≤ z ∧ z ≤ 1 ∧ ((z = 1 ∧ a1 < I 0 69 ∧ 48 ≤ I 57 (Int.toNat a1) ∧ I 57 (Int.toNat a1) ≤ 57) ∨ (z = 0 ∧ (I 0 69 ≤ a1 ∨ I 57 (Int.toNat a1) < 48 ∨ 57 < I 57 (Int.toNat a1)))))) := by
  have hD : gv_D (gr_E ws0 tb 0 (yX13_dig, cX13_dig, 2, (some .boolean)) kX13_dig) := gq_of oX13_dig
  refine gr_ev (d := 0) (l := kX13_dig) (Po := fun r hₚ => (hₚ = gr_h I J ∧ (∃ z : Int, r = some (.inl z) ∧ 0 ≤ z ∧ z ≤ 1 ∧ ((z = 1 ∧ a1 < I 0 69 ∧ 48 ≤ I 57 (Int.toNat a1) ∧ I 57 (Int.toNat a1) ≤ 57) ∨ (z = 0 ∧ (I 0 69 ≤ a1 ∨ I 57 (Int.toNat a1) < 48 ∨ 57 < I 57 (Int.toNat a1))))))) htb rfl (Nat.le_of_ble_eq_true rfl) ?_
  have L35 : ∀ (s0_1 : Int), ((0 ≤ s0_1 ∧ s0_1 ≤ 1) ∧ ((s0_1 = 1 ∧ a1 < I 0 69 ∧ 48 ≤ I 57 (Int.toNat a1) ∧ I 57 (Int.toNat a1) ≤ 57) ∨ (s0_1 = 0 ∧ (I 0 69 ≤ a1 ∨ I 57 (Int.toNat a1) < 48 ∨ 57 < I 57 (Int.toNat a1))))) → gv_X (gr_E ws0 tb 0 (yX13_dig, cX13_dig, 2, (some .boolean)) kX13_dig) (gv_Q cX13_dig (some .boolean) (gr_sh ++ ext) (fun r hₚ => (hₚ = gr_h I J ∧ (∃ z : Int, r = some (.inl z) ∧ 0 ≤ z ∧ z ≤ 1 ∧ ((z = 1 ∧ a1 < I 0 69 ∧ 48 ≤ I 57 (Int.toNat a1) ∧ I 57 (Int.toNat a1) ≤ 57) ∨ (z = 0 ∧ (I 0 69 ≤ a1 ∨ I 57 (Int.toNat a1) < 48 ∨ 57 < I 57 (Int.toNat a1)))))))) (35, [], [.inl s0_1], gr_sh ++ ext, gr_h I J) := by
    intro s0_1 m_1
    obtain ⟨hs0_1, e0_1⟩ := gz_h2 m_1
    exact gv_zret hD rfl (by (/-0-/first | (have o1 := gz_sh hs0_1; omega) | (simp only [gz_hd] at *; omega))) ⟨rfl, ⟨_, rfl, by (/-1-/first | (and_intros; (have o1 := gz_sh hs0_1; omega); (have o1 := gz_sh hs0_1; omega); (have o1 := gz_sh e0_1; have o2 := gz_sh hs0_1; omega)) | (simp only [gz_hd] at *; omega))⟩⟩
  have L34 : ((I 0 69 ≤ a1 ∨ I 57 (Int.toNat a1) < 48 ∨ 57 < I 57 (Int.toNat a1))) → gv_X (gr_E ws0 tb 0 (yX13_dig, cX13_dig, 2, (some .boolean)) kX13_dig) (gv_Q cX13_dig (some .boolean) (gr_sh ++ ext) (fun r hₚ => (hₚ = gr_h I J ∧ (∃ z : Int, r = some (.inl z) ∧ 0 ≤ z ∧ z ≤ 1 ∧ ((z = 1 ∧ a1 < I 0 69 ∧ 48 ≤ I 57 (Int.toNat a1) ∧ I 57 (Int.toNat a1) ≤ 57) ∨ (z = 0 ∧ (I 0 69 ≤ a1 ∨ I 57 (Int.toNat a1) < 48 ∨ 57 < I 57 (Int.toNat a1)))))))) (34, [], [], gr_sh ++ ext, gr_h I J) := by
    intro m_2
    have e0_2 := m_2
    refine gv_run 1 true hD (pcₚ := 35) (lvₚ := []) (stₚ := [.inl 0]) (hₚ := gr_h I J) (C := (True ∧ True)) rfl ⟨trivial, trivial⟩ ?_
    exact L35 0 (by (/-2-/first | (and_intros <;> omega) | (simp only [gz_hd] at *; omega)))
  have f3 := gz_hi ((gr_b_0_69 hI))
  refine gv_run 3 true hD (pcₚ := 5) (lvₚ := [(0, .inr (.inr (some 0))), (1, .inl a1)]) (stₚ := [.inl (I 0 69), .inl a1]) (hₚ := gr_h I J) (C := (((True ∧ True) ∧ True) ∧ True)) rfl ⟨⟨⟨trivial, trivial⟩, trivial⟩, trivial⟩ ?_
  refine gv_icmp_ge (t := 34) hD rfl rfl ⟨⟨by (/-3-/first | omega | (simp only [gz_hd] at *; omega)), by (/-4-/first | omega | (simp only [gz_hd] at *; omega))⟩, ⟨by (/-5-/first | (have o1 := gz_sh f3; omega) | (simp only [gz_hd] at *; omega)), by (/-6-/first | (have o1 := gz_sh f3; omega) | (simp only [gz_hd] at *; omega))⟩⟩ (fun c4 => ?_) (fun c4 => ?_)
  · refine gv_pick [] rfl ?_
    exact L34 (by (/-7-/first | omega | (simp only [gz_hd] at *; omega)))
  · have f5 := gz_hi ((gr_b_57 hI (Int.toNat a1)))
    refine gv_run 4 true hD (pcₚ := 14) (lvₚ := [(0, .inr (.inr (some 0))), (1, .inl a1)]) (stₚ := [.inl (I 57 (Int.toNat a1))]) (hₚ := gr_h I J) (C := ((((True ∧ True) ∧ True) ∧ True) ∧ (0 ≤ a1 ∧ a1 < ((1000 : Nat) : Int)))) rfl ⟨⟨⟨⟨trivial, trivial⟩, trivial⟩, trivial⟩, ⟨by (/-8-/first | omega | (simp only [gz_hd] at *; omega)), by (/-9-/first | (have o1 := gz_sh f3; omega) | (simp only [gz_hd] at *; omega))⟩⟩ ?_
    refine gv_run 1 true hD (pcₚ := 16) (lvₚ := [(0, .inr (.inr (some 0))), (1, .inl a1)]) (stₚ := [.inl 48, .inl (I 57 (Int.toNat a1))]) (hₚ := gr_h I J) (C := (True ∧ True)) rfl ⟨trivial, trivial⟩ ?_
    refine gv_icmp_lt (t := 34) hD rfl rfl ⟨⟨by (/-10-/first | (have o1 := gz_sh f5; omega) | (simp only [gz_hd] at *; omega)), by (/-11-/first | (have o1 := gz_sh f5; omega) | (simp only [gz_hd] at *; omega))⟩, ⟨by (/-12-/first | omega | (simp only [gz_hd] at *; omega)), by (/-13-/first | omega | (simp only [gz_hd] at *; omega))⟩⟩ (fun c6 => ?_) (fun c6 => ?_)
    · refine gv_pick [] rfl ?_
      exact L34 (by (/-14-/first | omega | (simp only [gz_hd] at *; omega)))
    · have f7 := gz_hi ((gr_b_57 hI (Int.toNat a1)))
      refine gv_run 4 true hD (pcₚ := 25) (lvₚ := [(0, .inr (.inr (some 0))), (1, .inl a1)]) (stₚ := [.inl (I 57 (Int.toNat a1))]) (hₚ := gr_h I J) (C := ((((True ∧ True) ∧ True) ∧ True) ∧ (0 ≤ a1 ∧ a1 < ((1000 : Nat) : Int)))) rfl ⟨⟨⟨⟨trivial, trivial⟩, trivial⟩, trivial⟩, ⟨by (/-15-/first | omega | (simp only [gz_hd] at *; omega)), by (/-16-/first | (have o1 := gz_sh f3; omega) | (simp only [gz_hd] at *; omega))⟩⟩ ?_
      refine gv_run 1 true hD (pcₚ := 27) (lvₚ := [(0, .inr (.inr (some 0))), (1, .inl a1)]) (stₚ := [.inl 57, .inl (I 57 (Int.toNat a1))]) (hₚ := gr_h I J) (C := (True ∧ True)) rfl ⟨trivial, trivial⟩ ?_
      refine gv_icmp_gt (t := 34) hD rfl rfl ⟨⟨by (/-17-/first | omega | (simp only [gz_hd] at *; omega)), by (/-18-/first | (have o1 := gz_sh f5; omega) | (simp only [gz_hd] at *; omega))⟩, ⟨by (/-19-/first | omega | (simp only [gz_hd] at *; omega)), by (/-20-/first | omega | (simp only [gz_hd] at *; omega))⟩⟩ (fun c8 => ?_) (fun c8 => ?_)
      · refine gv_pick [] rfl ?_
        exact L34 (by (/-21-/first | omega | (simp only [gz_hd] at *; omega)))
      · refine gv_run 2 true hD (pcₚ := 35) (lvₚ := [(0, .inr (.inr (some 0))), (1, .inl a1)]) (stₚ := [.inl 1]) (hₚ := gr_h I J) (C := ((True ∧ True) ∧ True)) rfl ⟨⟨trivial, trivial⟩, trivial⟩ ?_
        refine gv_pick [] rfl ?_
        exact L35 1 (by (/-22-/first | (and_intros <;> omega) | (simp only [gz_hd] at *; omega)))
set_option maxHeartbeats 8000000 in
set_option maxRecDepth 100000 in
theorem r_outs {ws0 : List Cond} {tb : String → gz_T} (hws : ∀ w ∈ gr_ws, w ∈ ws0) (htb : tb RX13 = gr_T) (ext : gz_Sh) (I : gr_I) (J : gr_J) (hI : gr_Inv I) (a1 : Int) (ha1 : (-2147483648) ≤ a1 ∧ a1 ≤ 2147483647)  : ∃ r hₚ, gz_Ev ws0 tb 1 (yX13_outs, cX13_outs, 2, none) [.inr (.inr (some 0)), .inl a1] (gr_sh ++ ext) (gr_h I J) r (gr_sh ++ ext) hₚ 0 0 ∧ (∃ (Iₚ : gr_I) (Jₚ : gr_J), hₚ = gr_h Iₚ Jₚ ∧ gr_Inv Iₚ ∧ gr_fr [70] [58] I Iₚ ∧ gr_fj [70] [58] J Jₚ ∧ r = none) := by
  have FI : gr_fr [70] [58] I I := fun _ _ _ => rfl
  have FJ : gr_fj [70] [58] J J := fun _ _ _ => rfl
  have hD : gv_D (gr_E ws0 tb 0 (yX13_outs, cX13_outs, 2, none) kX13_outs) := gq_of oX13_outs
  refine gr_ev (d := 0) (l := kX13_outs) (Po := fun r hₚ => (∃ (Iₚ : gr_I) (Jₚ : gr_J), hₚ = gr_h Iₚ Jₚ ∧ gr_Inv Iₚ ∧ gr_fr [70] [58] I Iₚ ∧ gr_fj [70] [58] J Jₚ ∧ r = none)) htb rfl (Nat.le_of_ble_eq_true rfl) ?_
  have L28 : ∀ (I1 : gr_I) (J2 : gr_J) , gr_Inv I1 → gr_fr [70] [58] I I1 → gr_fj [70] [58] J J2 → gv_X (gr_E ws0 tb 0 (yX13_outs, cX13_outs, 2, none) kX13_outs) (gv_Q cX13_outs none (gr_sh ++ ext) (fun r hₚ => (∃ (Iₚ : gr_I) (Jₚ : gr_J), hₚ = gr_h Iₚ Jₚ ∧ gr_Inv Iₚ ∧ gr_fr [70] [58] I Iₚ ∧ gr_fj [70] [58] J Jₚ ∧ r = none))) (28, [], [], gr_sh ++ ext, gr_h I1 J2) := by
    intro I1 J2 hI1 FI1 FJ2
    exact gv_vret hD rfl ⟨I1, J2, rfl, hI1, FI1, FJ2, rfl⟩
  have f4 := gz_hi ((gr_b_0_70 hI))
  refine gv_run 3 true hD (pcₚ := 7) (lvₚ := [(0, .inr (.inr (some 0))), (1, .inl a1)]) (stₚ := [.inl 1000, .inl (I 0 70)]) (hₚ := gr_h I J) (C := (((True ∧ True) ∧ True) ∧ True)) rfl ⟨⟨⟨trivial, trivial⟩, trivial⟩, trivial⟩ ?_
  refine gv_icmp_ge (t := 28) hD rfl rfl ⟨⟨by (/-0-/first | (have o1 := gz_sh f4; omega) | (simp only [gz_hd] at *; omega)), by (/-1-/first | (have o1 := gz_sh f4; omega) | (simp only [gz_hd] at *; omega))⟩, ⟨by (/-2-/first | omega | (simp only [gz_hd] at *; omega)), by (/-3-/first | omega | (simp only [gz_hd] at *; omega))⟩⟩ (fun c5 => ?_) (fun c5 => ?_)
  · refine gv_pick [] rfl ?_
    exact L28 I J hI FI FJ
  · have f6 := gz_hi ((gr_b_0_70 hI))
    refine gv_run 7 true hD (pcₚ := 21) (lvₚ := [(0, .inr (.inr (some 0))), (1, .inl a1)]) (stₚ := [.inl 1, .inl (I 0 70), .inr (.inr (some 0)), .inl (I 0 70), .inr (.inr (some 58))]) (hₚ := gr_h I J) (C := (((((((True ∧ True) ∧ True) ∧ True) ∧ True) ∧ True) ∧ True) ∧ True)) rfl ⟨⟨⟨⟨⟨⟨⟨trivial, trivial⟩, trivial⟩, trivial⟩, trivial⟩, trivial⟩, trivial⟩, trivial⟩ ?_
    refine gv_run 2 true hD (pcₚ := 25) (lvₚ := [(0, .inr (.inr (some 0))), (1, .inl a1)]) (stₚ := [.inl (I 0 70), .inr (.inr (some 58))]) (hₚ := gz_up (gr_h I J) 0 70 (.inl (((I 0 70) + 1)))) (C := ((True ∧ True) ∧ True)) rfl ⟨⟨trivial, trivial⟩, trivial⟩ ?_
    refine gr_st hI FI rfl rfl ⟨⟨by show 0 ≤ _; (/-4-/first | (have o1 := gz_sh f4; omega) | (simp only [gz_hd] at *; omega)), by show _ ≤ 1000; (/-5-/first | omega | (simp only [gz_hd] at *; omega))⟩, trivial⟩ (fun I7 hI7 FI7 q8 p8 => ?_)
    have f10 := gz_hi (gw_nar_byte (x := (((Int32.ofInt a1).toInt8.toInt32.toInt))))
    refine gv_run 3 true hD (pcₚ := 28) (lvₚ := [(0, .inr (.inr (some 0))), (1, .inl a1)]) (stₚ := []) (hₚ := gz_up (gr_h I7 J) 58 (Int.toNat ((I 0 70))) (.inl (((vp_nar .byte (Int32.ofInt (((Int32.ofInt a1).toInt8.toInt32.toInt)))).toInt)))) (C := (((True ∧ True) ∧ True) ∧ (0 ≤ (I 0 70) ∧ (I 0 70) < ((1000 : Nat) : Int)))) rfl ⟨⟨⟨trivial, trivial⟩, trivial⟩, ⟨by (/-6-/first | (have o1 := gz_sh f4; omega) | (simp only [gz_hd] at *; omega)), by (/-7-/first | omega | (simp only [gz_hd] at *; omega))⟩⟩ ?_
    refine gr_st hI7 FI7 rfl rfl ⟨⟨by show (-128) ≤ _; (/-8-/first | (have o1 := gz_sh f10; omega) | (simp only [gz_hd] at *; omega)), by show _ ≤ 127; (/-9-/first | (have o1 := gz_sh f10; omega) | (simp only [gz_hd] at *; omega))⟩, trivial⟩ (fun I11 hI11 FI11 q12 p12 => ?_)
    refine gv_pick [] rfl ?_
    exact L28 I11 J hI11 FI11 FJ
set_option maxHeartbeats 8000000 in
set_option maxRecDepth 100000 in
theorem r_out {ws0 : List Cond} {tb : String → gz_T} (hws : ∀ w ∈ gr_ws, w ∈ ws0) (htb : tb RX13 = gr_T) (ext : gz_Sh) (I : gr_I) (J : gr_J) (hI : gr_Inv I) (a1 : Int) (ha1 : (-2147483648) ≤ a1 ∧ a1 ≤ 2147483647)  : ∃ r hₚ, gz_Ev ws0 tb 1 (yX13_out, cX13_out, 2, (some .int)) [.inr (.inr (some 0)), .inl a1] (gr_sh ++ ext) (gr_h I J) r (gr_sh ++ ext) hₚ 0 0 ∧ (∃ (Iₚ : gr_I) (Jₚ : gr_J), hₚ = gr_h Iₚ Jₚ ∧ gr_Inv Iₚ ∧ gr_fr [0] [] I Iₚ ∧ gr_fj [0] [] J Jₚ ∧ (∃ z : Int, r = some (.inl z) ∧ (-1) ≤ z ∧ z ≤ 255)) := by
  have FI : gr_fr [0] [] I I := fun _ _ _ => rfl
  have FJ : gr_fj [0] [] J J := fun _ _ _ => rfl
  have hD : gv_D (gr_E ws0 tb 0 (yX13_out, cX13_out, 2, (some .int)) kX13_out) := gq_of oX13_out
  refine gr_ev (d := 0) (l := kX13_out) (Po := fun r hₚ => (∃ (Iₚ : gr_I) (Jₚ : gr_J), hₚ = gr_h Iₚ Jₚ ∧ gr_Inv Iₚ ∧ gr_fr [0] [] I Iₚ ∧ gr_fj [0] [] J Jₚ ∧ (∃ z : Int, r = some (.inl z) ∧ (-1) ≤ z ∧ z ≤ 255))) htb rfl (Nat.le_of_ble_eq_true rfl) ?_
  have L31 : ∀ (I1 : gr_I) (J2 : gr_J) (s0_3 : Int), gr_Inv I1 → gr_fr [0] [] I I1 → gr_fj [0] [] J J2 → (((-1) ≤ s0_3 ∧ s0_3 ≤ 255)) → gv_X (gr_E ws0 tb 0 (yX13_out, cX13_out, 2, (some .int)) kX13_out) (gv_Q cX13_out (some .int) (gr_sh ++ ext) (fun r hₚ => (∃ (Iₚ : gr_I) (Jₚ : gr_J), hₚ = gr_h Iₚ Jₚ ∧ gr_Inv Iₚ ∧ gr_fr [0] [] I Iₚ ∧ gr_fj [0] [] J Jₚ ∧ (∃ z : Int, r = some (.inl z) ∧ (-1) ≤ z ∧ z ≤ 255)))) (31, [], [.inl s0_3], gr_sh ++ ext, gr_h I1 J2) := by
    intro I1 J2 s0_3 hI1 FI1 FJ2 m_3
    have hs0_3 := m_3
    exact gv_iret hD rfl ⟨I1, J2, rfl, hI1, FI1, FJ2, ⟨_, rfl, by (/-0-/first | omega | (simp only [gz_hd] at *; omega))⟩⟩
  have L17 : ∀ (I4 : gr_I) (J5 : gr_J) , gr_Inv I4 → gr_fr [0] [] I I4 → gr_fj [0] [] J J5 → gv_X (gr_E ws0 tb 0 (yX13_out, cX13_out, 2, (some .int)) kX13_out) (gv_Q cX13_out (some .int) (gr_sh ++ ext) (fun r hₚ => (∃ (Iₚ : gr_I) (Jₚ : gr_J), hₚ = gr_h Iₚ Jₚ ∧ gr_Inv Iₚ ∧ gr_fr [0] [] I Iₚ ∧ gr_fj [0] [] J Jₚ ∧ (∃ z : Int, r = some (.inl z) ∧ (-1) ≤ z ∧ z ≤ 255)))) (17, [], [], gr_sh ++ ext, gr_h I4 J5) := by
    intro I4 J5 hI4 FI4 FJ5
    refine gv_run 2 true hD (pcₚ := 31) (lvₚ := []) (stₚ := [.inl (-1)]) (hₚ := gr_h I4 J5) (C := ((True ∧ True) ∧ True)) rfl ⟨⟨trivial, trivial⟩, trivial⟩ ?_
    exact L31 I4 J5 (-1) hI4 FI4 FJ5 (by (/-1-/first | (and_intros <;> omega) | (simp only [gz_hd] at *; omega)))
  refine gv_run 3 true hD (pcₚ := 5) (lvₚ := [(0, .inr (.inr (some 0))), (1, .inl a1)]) (stₚ := []) (hₚ := gz_up (gr_h I J) 0 0 (.inl 0)) (C := (((True ∧ True) ∧ True) ∧ True)) rfl ⟨⟨⟨trivial, trivial⟩, trivial⟩, trivial⟩ ?_
  refine gr_st hI FI rfl rfl ⟨⟨by show 0 ≤ _; (/-2-/first | omega | (simp only [gz_hd] at *; omega)), by show _ ≤ 2; (/-3-/first | omega | (simp only [gz_hd] at *; omega))⟩, trivial⟩ (fun I7 hI7 FI7 q8 p8 => ?_)
  refine gv_run 1 true hD (pcₚ := 6) (lvₚ := [(0, .inr (.inr (some 0))), (1, .inl a1)]) (stₚ := [.inl a1]) (hₚ := gr_h I7 J) (C := (True ∧ True)) rfl ⟨trivial, trivial⟩ ?_
  refine gv_if_lt (t := 17) hD rfl rfl ⟨by (/-4-/first | omega | (simp only [gz_hd] at *; omega)), by (/-5-/first | omega | (simp only [gz_hd] at *; omega))⟩ (fun c9 => ?_) (fun c9 => ?_)
  · refine gv_pick [] rfl ?_
    exact L17 I7 J hI7 FI7 FJ
  · have f10 := gz_hi ((gr_b_0_70 hI7))
    refine gv_run 3 true hD (pcₚ := 14) (lvₚ := [(0, .inr (.inr (some 0))), (1, .inl a1)]) (stₚ := [.inl (I7 0 70), .inl a1]) (hₚ := gr_h I7 J) (C := (((True ∧ True) ∧ True) ∧ True)) rfl ⟨⟨⟨trivial, trivial⟩, trivial⟩, trivial⟩ ?_
    refine gv_icmp_lt (t := 21) hD rfl rfl ⟨⟨by (/-6-/first | omega | (simp only [gz_hd] at *; omega)), by (/-7-/first | omega | (simp only [gz_hd] at *; omega))⟩, ⟨by (/-8-/first | (have o1 := gz_sh f10; omega) | (simp only [gz_hd] at *; omega)), by (/-9-/first | (have o1 := gz_sh f10; omega) | (simp only [gz_hd] at *; omega))⟩⟩ (fun c11 => ?_) (fun c11 => ?_)
    · have f12 := gz_hi ((gr_b_58 hI7 (Int.toNat a1)))
      refine gv_run 4 true hD (pcₚ := 27) (lvₚ := [(0, .inr (.inr (some 0))), (1, .inl a1)]) (stₚ := [.inl (I7 58 (Int.toNat a1))]) (hₚ := gr_h I7 J) (C := ((((True ∧ True) ∧ True) ∧ True) ∧ (0 ≤ a1 ∧ a1 < ((1000 : Nat) : Int)))) rfl ⟨⟨⟨⟨trivial, trivial⟩, trivial⟩, trivial⟩, ⟨by (/-10-/first | omega | (simp only [gz_hd] at *; omega)), by (/-11-/first | (have o1 := gz_sh f10; omega) | (simp only [gz_hd] at *; omega))⟩⟩ ?_
      have f13 := gz_hi (gw_and (x := ((I7 58 (Int.toNat a1)))) (y := 255) ⟨by (/-12-/first | omega | (simp only [gz_hd] at *; omega)), by (/-13-/first | omega | (simp only [gz_hd] at *; omega))⟩)
      refine gv_run 2 true hD (pcₚ := 31) (lvₚ := [(0, .inr (.inr (some 0))), (1, .inl a1)]) (stₚ := [.inl ((Int32.ofInt ((I7 58 (Int.toNat a1))) &&& Int32.ofInt 255).toInt)]) (hₚ := gr_h I7 J) (C := ((True ∧ True) ∧ True)) rfl ⟨⟨trivial, trivial⟩, trivial⟩ ?_
      refine gv_pick [] rfl ?_
      exact L31 I7 J (((Int32.ofInt ((I7 58 (Int.toNat a1))) &&& Int32.ofInt 255).toInt)) hI7 FI7 FJ (by (/-14-/first | (and_intros; (have o1 := gz_sh f13; omega); (have o1 := gz_sh f13; omega)) | (simp only [gz_hd] at *; omega)))
    · refine gv_pick [] rfl ?_
      exact L17 I7 J hI7 FI7 FJ
set_option maxHeartbeats 8000000 in
set_option maxRecDepth 100000 in
theorem r_noTongue {ws0 : List Cond} {tb : String → gz_T} (hws : ∀ w ∈ gr_ws, w ∈ ws0) (htb : tb RX13 = gr_T) (ext : gz_Sh) (I : gr_I) (J : gr_J) (hI : gr_Inv I) (a1 : Int) (ha1 : (-2147483648) ≤ a1 ∧ a1 ≤ 2147483647)  : ∃ r hₚ, gz_Ev ws0 tb 1 (yX13_noTongue, cX13_noTongue, 2, (some .boolean)) [.inr (.inr (some 0)), .inl a1] (gr_sh ++ ext) (gr_h I J) r (gr_sh ++ ext) hₚ 0 0 ∧ (∃ (Iₚ : gr_I) (Jₚ : gr_J), hₚ = gr_h Iₚ Jₚ ∧ gr_Inv Iₚ ∧ gr_fr [0] [] I Iₚ ∧ gr_fj [0] [] J Jₚ ∧ (∃ z : Int, r = some (.inl z) ∧ 0 ≤ z ∧ z ≤ 1 ∧ (z = 0 → 0 ≤ a1 ∧ a1 < I 0 1 ∧ a1 ≤ 7))) := by
  have FI : gr_fr [0] [] I I := fun _ _ _ => rfl
  have FJ : gr_fj [0] [] J J := fun _ _ _ => rfl
  have hD : gv_D (gr_E ws0 tb 0 (yX13_noTongue, cX13_noTongue, 2, (some .boolean)) kX13_noTongue) := gq_of oX13_noTongue
  refine gr_ev (d := 0) (l := kX13_noTongue) (Po := fun r hₚ => (∃ (Iₚ : gr_I) (Jₚ : gr_J), hₚ = gr_h Iₚ Jₚ ∧ gr_Inv Iₚ ∧ gr_fr [0] [] I Iₚ ∧ gr_fj [0] [] J Jₚ ∧ (∃ z : Int, r = some (.inl z) ∧ 0 ≤ z ∧ z ≤ 1 ∧ (z = 0 → 0 ≤ a1 ∧ a1 < I 0 1 ∧ a1 ≤ 7)))) htb rfl (Nat.le_of_ble_eq_true rfl) ?_
  have f1 := gz_hi ((gr_b_0_1 hI))
  have L18 : ∀ (s1_2 : Int), ((0 ≤ s1_2 ∧ s1_2 ≤ 1) ∧ (s1_2 = 0 → 0 ≤ a1 ∧ a1 < I 0 1 ∧ a1 ≤ 7)) → gv_X (gr_E ws0 tb 0 (yX13_noTongue, cX13_noTongue, 2, (some .boolean)) kX13_noTongue) (gv_Q cX13_noTongue (some .boolean) (gr_sh ++ ext) (fun r hₚ => (∃ (Iₚ : gr_I) (Jₚ : gr_J), hₚ = gr_h Iₚ Jₚ ∧ gr_Inv Iₚ ∧ gr_fr [0] [] I Iₚ ∧ gr_fj [0] [] J Jₚ ∧ (∃ z : Int, r = some (.inl z) ∧ 0 ≤ z ∧ z ≤ 1 ∧ (z = 0 → 0 ≤ a1 ∧ a1 < I 0 1 ∧ a1 ≤ 7))))) (18, [(0, .inr (.inr (some 0)))], [.inl s1_2, .inr (.inr (some 0))], gr_sh ++ ext, gr_h I J) := by
    intro s1_2 m_2
    obtain ⟨hs1_2, e0_2⟩ := gz_h2 m_2
    have L33 : ∀ (I4 : gr_I) (J5 : gr_J) (s0_6 : Int), gr_Inv I4 → gr_fr [0] [] I I4 → gr_fj [0] [] J J5 → ((0 ≤ s0_6 ∧ s0_6 ≤ 1) ∧ (s0_6 = 0 → 0 ≤ a1 ∧ a1 < I 0 1 ∧ a1 ≤ 7)) → gv_X (gr_E ws0 tb 0 (yX13_noTongue, cX13_noTongue, 2, (some .boolean)) kX13_noTongue) (gv_Q cX13_noTongue (some .boolean) (gr_sh ++ ext) (fun r hₚ => (∃ (Iₚ : gr_I) (Jₚ : gr_J), hₚ = gr_h Iₚ Jₚ ∧ gr_Inv Iₚ ∧ gr_fr [0] [] I Iₚ ∧ gr_fj [0] [] J Jₚ ∧ (∃ z : Int, r = some (.inl z) ∧ 0 ≤ z ∧ z ≤ 1 ∧ (z = 0 → 0 ≤ a1 ∧ a1 < I 0 1 ∧ a1 ≤ 7))))) (33, [], [.inl s0_6], gr_sh ++ ext, gr_h I4 J5) := by
      intro I4 J5 s0_6 hI4 FI4 FJ5 m_6
      clear hs1_2 e0_2
      obtain ⟨hs0_6, e0_6⟩ := gz_h2 m_6
      exact gv_zret hD rfl (by (/-0-/first | (have o1 := gz_sh hs0_6; omega) | (simp only [gz_hd] at *; omega))) ⟨I4, J5, rfl, hI4, FI4, FJ5, ⟨_, rfl, by (/-1-/first | (and_intros; (have o1 := gz_sh hs0_6; omega); (have o1 := gz_sh hs0_6; omega); (have o1 := gz_sh e0_6; have o2 := gz_sh hs0_6; omega)) | (simp only [gz_hd] at *; omega))⟩⟩
    refine gv_run 1 true hD (pcₚ := 21) (lvₚ := [(0, .inr (.inr (some 0)))]) (stₚ := []) (hₚ := gz_up (gr_h I J) 0 0 (.inl s1_2)) (C := (True ∧ True)) rfl ⟨trivial, trivial⟩ ?_
    refine gr_st hI FI rfl rfl ⟨⟨by show 0 ≤ _; (/-2-/first | (have o1 := gz_sh hs1_2; omega) | (simp only [gz_hd] at *; omega)), by show _ ≤ 2; (/-3-/first | (have o1 := gz_sh hs1_2; omega) | (simp only [gz_hd] at *; omega))⟩, trivial⟩ (fun I8 hI8 FI8 q9 p9 => ?_)
    have t10 := gz_hi (p9 0 1 (by decide))
    refine gv_run 2 true hD (pcₚ := 25) (lvₚ := [(0, .inr (.inr (some 0)))]) (stₚ := [.inl (I8 0 0)]) (hₚ := gr_h I8 J) (C := ((True ∧ True) ∧ True)) rfl ⟨⟨trivial, trivial⟩, trivial⟩ ?_
    refine gv_if_eq (t := 32) hD rfl rfl ⟨by (/-4-/first | (have o1 := gz_sh hs1_2; omega) | (simp only [gz_hd] at *; omega)), by (/-5-/first | (have o1 := gz_sh hs1_2; omega) | (simp only [gz_hd] at *; omega))⟩ (fun c13 => ?_) (fun c13 => ?_)
    · refine gv_run 1 true hD (pcₚ := 33) (lvₚ := [(0, .inr (.inr (some 0)))]) (stₚ := [.inl 0]) (hₚ := gr_h I8 J) (C := (True ∧ True)) rfl ⟨trivial, trivial⟩ ?_
      refine gv_pick [] rfl ?_
      exact L33 I8 J 0 hI8 FI8 FJ (by (/-6-/first | (and_intros; (omega); (omega); (have o1 := gz_sh e0_2; omega)) | (simp only [gz_hd] at *; omega)))
    · refine gv_run 2 true hD (pcₚ := 33) (lvₚ := [(0, .inr (.inr (some 0)))]) (stₚ := [.inl 1]) (hₚ := gr_h I8 J) (C := ((True ∧ True) ∧ True)) rfl ⟨⟨trivial, trivial⟩, trivial⟩ ?_
      refine gv_pick [] rfl ?_
      exact L33 I8 J 1 hI8 FI8 FJ (by (/-7-/first | (and_intros <;> omega) | (simp only [gz_hd] at *; omega)))
  have L13 : gv_X (gr_E ws0 tb 0 (yX13_noTongue, cX13_noTongue, 2, (some .boolean)) kX13_noTongue) (gv_Q cX13_noTongue (some .boolean) (gr_sh ++ ext) (fun r hₚ => (∃ (Iₚ : gr_I) (Jₚ : gr_J), hₚ = gr_h Iₚ Jₚ ∧ gr_Inv Iₚ ∧ gr_fr [0] [] I Iₚ ∧ gr_fj [0] [] J Jₚ ∧ (∃ z : Int, r = some (.inl z) ∧ 0 ≤ z ∧ z ≤ 1 ∧ (z = 0 → 0 ≤ a1 ∧ a1 < I 0 1 ∧ a1 ≤ 7))))) (13, [(0, .inr (.inr (some 0)))], [.inr (.inr (some 0))], gr_sh ++ ext, gr_h I J) := by
    refine gv_run 2 true hD (pcₚ := 18) (lvₚ := [(0, .inr (.inr (some 0)))]) (stₚ := [.inl 1, .inr (.inr (some 0))]) (hₚ := gr_h I J) (C := ((True ∧ True) ∧ True)) rfl ⟨⟨trivial, trivial⟩, trivial⟩ ?_
    exact L18 1 (by (/-8-/first | (and_intros <;> omega) | (simp only [gz_hd] at *; omega)))
  refine gv_run 2 true hD (pcₚ := 2) (lvₚ := [(0, .inr (.inr (some 0))), (1, .inl a1)]) (stₚ := [.inl a1, .inr (.inr (some 0))]) (hₚ := gr_h I J) (C := ((True ∧ True) ∧ True)) rfl ⟨⟨trivial, trivial⟩, trivial⟩ ?_
  refine gv_if_lt (t := 13) hD rfl rfl ⟨by (/-9-/first | omega | (simp only [gz_hd] at *; omega)), by (/-10-/first | omega | (simp only [gz_hd] at *; omega))⟩ (fun c16 => ?_) (fun c16 => ?_)
  · refine gv_pick [0] rfl ?_
    exact L13 
  · have f17 := gz_hi ((gr_b_0_1 hI))
    refine gv_run 3 true hD (pcₚ := 10) (lvₚ := [(0, .inr (.inr (some 0))), (1, .inl a1)]) (stₚ := [.inl (I 0 1), .inl a1, .inr (.inr (some 0))]) (hₚ := gr_h I J) (C := (((True ∧ True) ∧ True) ∧ True)) rfl ⟨⟨⟨trivial, trivial⟩, trivial⟩, trivial⟩ ?_
    refine gv_icmp_lt (t := 17) hD rfl rfl ⟨⟨by (/-11-/first | omega | (simp only [gz_hd] at *; omega)), by (/-12-/first | omega | (simp only [gz_hd] at *; omega))⟩, ⟨by (/-13-/first | (have o1 := gz_sh f1; omega) | (simp only [gz_hd] at *; omega)), by (/-14-/first | (have o1 := gz_sh f1; omega) | (simp only [gz_hd] at *; omega))⟩⟩ (fun c18 => ?_) (fun c18 => ?_)
    · refine gv_run 1 true hD (pcₚ := 18) (lvₚ := [(0, .inr (.inr (some 0))), (1, .inl a1)]) (stₚ := [.inl 0, .inr (.inr (some 0))]) (hₚ := gr_h I J) (C := (True ∧ True)) rfl ⟨trivial, trivial⟩ ?_
      refine gv_pick [0] rfl ?_
      exact L18 0 (by (/-15-/first | (and_intros; (omega); (omega); (have o1 := gz_sh f1; omega)) | (simp only [gz_hd] at *; omega)))
    · refine gv_pick [0] rfl ?_
      exact L13 
set_option maxHeartbeats 8000000 in
set_option maxRecDepth 100000 in
theorem r_noPlace {ws0 : List Cond} {tb : String → gz_T} (hws : ∀ w ∈ gr_ws, w ∈ ws0) (htb : tb RX13 = gr_T) (ext : gz_Sh) (I : gr_I) (J : gr_J) (hI : gr_Inv I) (a1 : Int) (ha1 : (-2147483648) ≤ a1 ∧ a1 ≤ 2147483647)  : ∃ r hₚ, gz_Ev ws0 tb 1 (yX13_noPlace, cX13_noPlace, 2, (some .boolean)) [.inr (.inr (some 0)), .inl a1] (gr_sh ++ ext) (gr_h I J) r (gr_sh ++ ext) hₚ 0 0 ∧ (∃ (Iₚ : gr_I) (Jₚ : gr_J), hₚ = gr_h Iₚ Jₚ ∧ gr_Inv Iₚ ∧ gr_fr [0] [] I Iₚ ∧ gr_fj [0] [] J Jₚ ∧ (∃ z : Int, r = some (.inl z) ∧ 0 ≤ z ∧ z ≤ 1 ∧ (z = 0 → 0 ≤ a1 ∧ a1 ≤ 7))) := by
  have FI : gr_fr [0] [] I I := fun _ _ _ => rfl
  have FJ : gr_fj [0] [] J J := fun _ _ _ => rfl
  have hD : gv_D (gr_E ws0 tb 0 (yX13_noPlace, cX13_noPlace, 2, (some .boolean)) kX13_noPlace) := gq_of oX13_noPlace
  refine gr_ev (d := 0) (l := kX13_noPlace) (Po := fun r hₚ => (∃ (Iₚ : gr_I) (Jₚ : gr_J), hₚ = gr_h Iₚ Jₚ ∧ gr_Inv Iₚ ∧ gr_fr [0] [] I Iₚ ∧ gr_fj [0] [] J Jₚ ∧ (∃ z : Int, r = some (.inl z) ∧ 0 ≤ z ∧ z ≤ 1 ∧ (z = 0 → 0 ≤ a1 ∧ a1 ≤ 7)))) htb rfl (Nat.le_of_ble_eq_true rfl) ?_
  have L16 : ∀ (s1_1 : Int), ((0 ≤ s1_1 ∧ s1_1 ≤ 1) ∧ (s1_1 = 0 → 0 ≤ a1 ∧ a1 ≤ 7)) → gv_X (gr_E ws0 tb 0 (yX13_noPlace, cX13_noPlace, 2, (some .boolean)) kX13_noPlace) (gv_Q cX13_noPlace (some .boolean) (gr_sh ++ ext) (fun r hₚ => (∃ (Iₚ : gr_I) (Jₚ : gr_J), hₚ = gr_h Iₚ Jₚ ∧ gr_Inv Iₚ ∧ gr_fr [0] [] I Iₚ ∧ gr_fj [0] [] J Jₚ ∧ (∃ z : Int, r = some (.inl z) ∧ 0 ≤ z ∧ z ≤ 1 ∧ (z = 0 → 0 ≤ a1 ∧ a1 ≤ 7))))) (16, [(0, .inr (.inr (some 0)))], [.inl s1_1, .inr (.inr (some 0))], gr_sh ++ ext, gr_h I J) := by
    intro s1_1 m_1
    obtain ⟨hs1_1, e0_1⟩ := gz_h2 m_1
    have L31 : ∀ (I2 : gr_I) (J3 : gr_J) (s0_4 : Int), gr_Inv I2 → gr_fr [0] [] I I2 → gr_fj [0] [] J J3 → ((0 ≤ s0_4 ∧ s0_4 ≤ 1) ∧ (s0_4 = 0 → 0 ≤ a1 ∧ a1 ≤ 7)) → gv_X (gr_E ws0 tb 0 (yX13_noPlace, cX13_noPlace, 2, (some .boolean)) kX13_noPlace) (gv_Q cX13_noPlace (some .boolean) (gr_sh ++ ext) (fun r hₚ => (∃ (Iₚ : gr_I) (Jₚ : gr_J), hₚ = gr_h Iₚ Jₚ ∧ gr_Inv Iₚ ∧ gr_fr [0] [] I Iₚ ∧ gr_fj [0] [] J Jₚ ∧ (∃ z : Int, r = some (.inl z) ∧ 0 ≤ z ∧ z ≤ 1 ∧ (z = 0 → 0 ≤ a1 ∧ a1 ≤ 7))))) (31, [], [.inl s0_4], gr_sh ++ ext, gr_h I2 J3) := by
      intro I2 J3 s0_4 hI2 FI2 FJ3 m_4
      clear hs1_1 e0_1
      obtain ⟨hs0_4, e0_4⟩ := gz_h2 m_4
      exact gv_zret hD rfl (by (/-0-/first | (have o1 := gz_sh hs0_4; omega) | (simp only [gz_hd] at *; omega))) ⟨I2, J3, rfl, hI2, FI2, FJ3, ⟨_, rfl, by (/-1-/first | (and_intros; (have o1 := gz_sh hs0_4; omega); (have o1 := gz_sh hs0_4; omega); (have o1 := gz_sh e0_4; have o2 := gz_sh hs0_4; omega)) | (simp only [gz_hd] at *; omega))⟩⟩
    refine gv_run 1 true hD (pcₚ := 19) (lvₚ := [(0, .inr (.inr (some 0)))]) (stₚ := []) (hₚ := gz_up (gr_h I J) 0 0 (.inl s1_1)) (C := (True ∧ True)) rfl ⟨trivial, trivial⟩ ?_
    refine gr_st hI FI rfl rfl ⟨⟨by show 0 ≤ _; (/-2-/first | (have o1 := gz_sh hs1_1; omega) | (simp only [gz_hd] at *; omega)), by show _ ≤ 2; (/-3-/first | (have o1 := gz_sh hs1_1; omega) | (simp only [gz_hd] at *; omega))⟩, trivial⟩ (fun I5 hI5 FI5 q6 p6 => ?_)
    refine gv_run 2 true hD (pcₚ := 23) (lvₚ := [(0, .inr (.inr (some 0)))]) (stₚ := [.inl (I5 0 0)]) (hₚ := gr_h I5 J) (C := ((True ∧ True) ∧ True)) rfl ⟨⟨trivial, trivial⟩, trivial⟩ ?_
    refine gv_if_eq (t := 30) hD rfl rfl ⟨by (/-4-/first | (have o1 := gz_sh hs1_1; omega) | (simp only [gz_hd] at *; omega)), by (/-5-/first | (have o1 := gz_sh hs1_1; omega) | (simp only [gz_hd] at *; omega))⟩ (fun c8 => ?_) (fun c8 => ?_)
    · refine gv_run 1 true hD (pcₚ := 31) (lvₚ := [(0, .inr (.inr (some 0)))]) (stₚ := [.inl 0]) (hₚ := gr_h I5 J) (C := (True ∧ True)) rfl ⟨trivial, trivial⟩ ?_
      refine gv_pick [] rfl ?_
      exact L31 I5 J 0 hI5 FI5 FJ (by (/-6-/first | (and_intros; (omega); (omega); (have o1 := gz_sh e0_1; omega)) | (simp only [gz_hd] at *; omega)))
    · refine gv_run 2 true hD (pcₚ := 31) (lvₚ := [(0, .inr (.inr (some 0)))]) (stₚ := [.inl 1]) (hₚ := gr_h I5 J) (C := ((True ∧ True) ∧ True)) rfl ⟨⟨trivial, trivial⟩, trivial⟩ ?_
      refine gv_pick [] rfl ?_
      exact L31 I5 J 1 hI5 FI5 FJ (by (/-7-/first | (and_intros <;> omega) | (simp only [gz_hd] at *; omega)))
  have L11 : gv_X (gr_E ws0 tb 0 (yX13_noPlace, cX13_noPlace, 2, (some .boolean)) kX13_noPlace) (gv_Q cX13_noPlace (some .boolean) (gr_sh ++ ext) (fun r hₚ => (∃ (Iₚ : gr_I) (Jₚ : gr_J), hₚ = gr_h Iₚ Jₚ ∧ gr_Inv Iₚ ∧ gr_fr [0] [] I Iₚ ∧ gr_fj [0] [] J Jₚ ∧ (∃ z : Int, r = some (.inl z) ∧ 0 ≤ z ∧ z ≤ 1 ∧ (z = 0 → 0 ≤ a1 ∧ a1 ≤ 7))))) (11, [(0, .inr (.inr (some 0)))], [.inr (.inr (some 0))], gr_sh ++ ext, gr_h I J) := by
    refine gv_run 2 true hD (pcₚ := 16) (lvₚ := [(0, .inr (.inr (some 0)))]) (stₚ := [.inl 1, .inr (.inr (some 0))]) (hₚ := gr_h I J) (C := ((True ∧ True) ∧ True)) rfl ⟨⟨trivial, trivial⟩, trivial⟩ ?_
    exact L16 1 (by (/-8-/first | (and_intros <;> omega) | (simp only [gz_hd] at *; omega)))
  refine gv_run 2 true hD (pcₚ := 2) (lvₚ := [(0, .inr (.inr (some 0))), (1, .inl a1)]) (stₚ := [.inl a1, .inr (.inr (some 0))]) (hₚ := gr_h I J) (C := ((True ∧ True) ∧ True)) rfl ⟨⟨trivial, trivial⟩, trivial⟩ ?_
  refine gv_if_lt (t := 11) hD rfl rfl ⟨by (/-9-/first | omega | (simp only [gz_hd] at *; omega)), by (/-10-/first | omega | (simp only [gz_hd] at *; omega))⟩ (fun c10 => ?_) (fun c10 => ?_)
  · refine gv_pick [0] rfl ?_
    exact L11 
  · refine gv_run 2 true hD (pcₚ := 8) (lvₚ := [(0, .inr (.inr (some 0))), (1, .inl a1)]) (stₚ := [.inl 7, .inl a1, .inr (.inr (some 0))]) (hₚ := gr_h I J) (C := ((True ∧ True) ∧ True)) rfl ⟨⟨trivial, trivial⟩, trivial⟩ ?_
    refine gv_icmp_le (t := 15) hD rfl rfl ⟨⟨by (/-11-/first | omega | (simp only [gz_hd] at *; omega)), by (/-12-/first | omega | (simp only [gz_hd] at *; omega))⟩, ⟨by (/-13-/first | omega | (simp only [gz_hd] at *; omega)), by (/-14-/first | omega | (simp only [gz_hd] at *; omega))⟩⟩ (fun c11 => ?_) (fun c11 => ?_)
    · refine gv_run 1 true hD (pcₚ := 16) (lvₚ := [(0, .inr (.inr (some 0))), (1, .inl a1)]) (stₚ := [.inl 0, .inr (.inr (some 0))]) (hₚ := gr_h I J) (C := (True ∧ True)) rfl ⟨trivial, trivial⟩ ?_
      refine gv_pick [0] rfl ?_
      exact L16 0 (by (/-15-/first | (and_intros <;> omega) | (simp only [gz_hd] at *; omega)))
    · refine gv_pick [0] rfl ?_
      exact L11 
set_option maxHeartbeats 8000000 in
set_option maxRecDepth 100000 in
theorem r_price {ws0 : List Cond} {tb : String → gz_T} (hws : ∀ w ∈ gr_ws, w ∈ ws0) (htb : tb RX13 = gr_T) (ext : gz_Sh) (I : gr_I) (J : gr_J) (hI : gr_Inv I) (a1 : Int) (ha1 : (-2147483648) ≤ a1 ∧ a1 ≤ 2147483647)  : ∃ r hₚ, gz_Ev ws0 tb 1 (yX13_price, cX13_price, 2, (some .int)) [.inr (.inr (some 0)), .inl a1] (gr_sh ++ ext) (gr_h I J) r (gr_sh ++ ext) hₚ 0 0 ∧ (∃ (Iₚ : gr_I) (Jₚ : gr_J), hₚ = gr_h Iₚ Jₚ ∧ gr_Inv Iₚ ∧ gr_fr [0] [] I Iₚ ∧ gr_fj [0] [] J Jₚ ∧ (∃ z : Int, r = some (.inl z) ∧ (-2147483648) ≤ z ∧ z ≤ 2147483647)) := by
  have FI : gr_fr [0] [] I I := fun _ _ _ => rfl
  have FJ : gr_fj [0] [] J J := fun _ _ _ => rfl
  have hD : gv_D (gr_E ws0 tb 0 (yX13_price, cX13_price, 2, (some .int)) kX13_price) := gq_of oX13_price
  refine gr_ev (d := 0) (l := kX13_price) (Po := fun r hₚ => (∃ (Iₚ : gr_I) (Jₚ : gr_J), hₚ = gr_h Iₚ Jₚ ∧ gr_Inv Iₚ ∧ gr_fr [0] [] I Iₚ ∧ gr_fj [0] [] J Jₚ ∧ (∃ z : Int, r = some (.inl z) ∧ (-2147483648) ≤ z ∧ z ≤ 2147483647))) htb rfl (Nat.le_of_ble_eq_true rfl) ?_
  have L27 : ∀ (I1 : gr_I) (J2 : gr_J) (s0_3 : Int), gr_Inv I1 → gr_fr [0] [] I I1 → gr_fj [0] [] J J2 → (((-2147483648) ≤ s0_3 ∧ s0_3 ≤ 2147483647)) → gv_X (gr_E ws0 tb 0 (yX13_price, cX13_price, 2, (some .int)) kX13_price) (gv_Q cX13_price (some .int) (gr_sh ++ ext) (fun r hₚ => (∃ (Iₚ : gr_I) (Jₚ : gr_J), hₚ = gr_h Iₚ Jₚ ∧ gr_Inv Iₚ ∧ gr_fr [0] [] I Iₚ ∧ gr_fj [0] [] J Jₚ ∧ (∃ z : Int, r = some (.inl z) ∧ (-2147483648) ≤ z ∧ z ≤ 2147483647)))) (27, [], [.inl s0_3], gr_sh ++ ext, gr_h I1 J2) := by
    intro I1 J2 s0_3 hI1 FI1 FJ2 m_3
    have hs0_3 := m_3
    exact gv_iret hD rfl ⟨I1, J2, rfl, hI1, FI1, FJ2, ⟨_, rfl, by (/-0-/first | omega | (simp only [gz_hd] at *; omega))⟩⟩
  have L17 : ∀ (I4 : gr_I) (J5 : gr_J) , gr_Inv I4 → gr_fr [0] [] I I4 → gr_fj [0] [] J J5 → gv_X (gr_E ws0 tb 0 (yX13_price, cX13_price, 2, (some .int)) kX13_price) (gv_Q cX13_price (some .int) (gr_sh ++ ext) (fun r hₚ => (∃ (Iₚ : gr_I) (Jₚ : gr_J), hₚ = gr_h Iₚ Jₚ ∧ gr_Inv Iₚ ∧ gr_fr [0] [] I Iₚ ∧ gr_fj [0] [] J Jₚ ∧ (∃ z : Int, r = some (.inl z) ∧ (-2147483648) ≤ z ∧ z ≤ 2147483647)))) (17, [], [], gr_sh ++ ext, gr_h I4 J5) := by
    intro I4 J5 hI4 FI4 FJ5
    refine gv_run 2 true hD (pcₚ := 27) (lvₚ := []) (stₚ := [.inl (-1)]) (hₚ := gr_h I4 J5) (C := ((True ∧ True) ∧ True)) rfl ⟨⟨trivial, trivial⟩, trivial⟩ ?_
    exact L27 I4 J5 (-1) hI4 FI4 FJ5 (by (/-1-/first | (and_intros <;> omega) | (simp only [gz_hd] at *; omega)))
  refine gv_run 3 true hD (pcₚ := 5) (lvₚ := [(0, .inr (.inr (some 0))), (1, .inl a1)]) (stₚ := []) (hₚ := gz_up (gr_h I J) 0 0 (.inl 0)) (C := (((True ∧ True) ∧ True) ∧ True)) rfl ⟨⟨⟨trivial, trivial⟩, trivial⟩, trivial⟩ ?_
  refine gr_st hI FI rfl rfl ⟨⟨by show 0 ≤ _; (/-2-/first | omega | (simp only [gz_hd] at *; omega)), by show _ ≤ 2; (/-3-/first | omega | (simp only [gz_hd] at *; omega))⟩, trivial⟩ (fun I7 hI7 FI7 q8 p8 => ?_)
  refine gv_run 1 true hD (pcₚ := 6) (lvₚ := [(0, .inr (.inr (some 0))), (1, .inl a1)]) (stₚ := [.inl a1]) (hₚ := gr_h I7 J) (C := (True ∧ True)) rfl ⟨trivial, trivial⟩ ?_
  refine gv_if_lt (t := 17) hD rfl rfl ⟨by (/-4-/first | omega | (simp only [gz_hd] at *; omega)), by (/-5-/first | omega | (simp only [gz_hd] at *; omega))⟩ (fun c9 => ?_) (fun c9 => ?_)
  · refine gv_pick [] rfl ?_
    exact L17 I7 J hI7 FI7 FJ
  · have f10 := gz_hi ((gr_b_0_186 hI7))
    refine gv_run 3 true hD (pcₚ := 14) (lvₚ := [(0, .inr (.inr (some 0))), (1, .inl a1)]) (stₚ := [.inl (I7 0 186), .inl a1]) (hₚ := gr_h I7 J) (C := (((True ∧ True) ∧ True) ∧ True)) rfl ⟨⟨⟨trivial, trivial⟩, trivial⟩, trivial⟩ ?_
    refine gv_icmp_lt (t := 21) hD rfl rfl ⟨⟨by (/-6-/first | omega | (simp only [gz_hd] at *; omega)), by (/-7-/first | omega | (simp only [gz_hd] at *; omega))⟩, ⟨by (/-8-/first | (have o1 := gz_sh f10; omega) | (simp only [gz_hd] at *; omega)), by (/-9-/first | (have o1 := gz_sh f10; omega) | (simp only [gz_hd] at *; omega))⟩⟩ (fun c11 => ?_) (fun c11 => ?_)
    · have f12 := gz_hi ((gr_b_112 hI7 (Int.toNat a1)))
      refine gv_run 4 true hD (pcₚ := 27) (lvₚ := [(0, .inr (.inr (some 0))), (1, .inl a1)]) (stₚ := [.inl (I7 112 (Int.toNat a1))]) (hₚ := gr_h I7 J) (C := ((((True ∧ True) ∧ True) ∧ True) ∧ (0 ≤ a1 ∧ a1 < ((16 : Nat) : Int)))) rfl ⟨⟨⟨⟨trivial, trivial⟩, trivial⟩, trivial⟩, ⟨by (/-10-/first | omega | (simp only [gz_hd] at *; omega)), by (/-11-/first | (have o1 := gz_sh f10; omega) | (simp only [gz_hd] at *; omega))⟩⟩ ?_
      refine gv_pick [] rfl ?_
      exact L27 I7 J ((I7 112 (Int.toNat a1))) hI7 FI7 FJ (by (/-12-/first | (have o1 := gz_sh f12; omega) | (simp only [gz_hd] at *; omega)))
    · refine gv_pick [] rfl ?_
      exact L17 I7 J hI7 FI7 FJ
set_option maxHeartbeats 8000000 in
set_option maxRecDepth 100000 in
theorem r_rule {ws0 : List Cond} {tb : String → gz_T} (hws : ∀ w ∈ gr_ws, w ∈ ws0) (htb : tb RX13 = gr_T) (ext : gz_Sh) (I : gr_I) (J : gr_J) (hI : gr_Inv I)    : ∃ r hₚ, gz_Ev ws0 tb 1 (yX13_rule, cX13_rule, 1, (some .int)) [.inr (.inr (some 0))] (gr_sh ++ ext) (gr_h I J) r (gr_sh ++ ext) hₚ 0 0 ∧ (∃ (Iₚ : gr_I) (Jₚ : gr_J), hₚ = gr_h Iₚ Jₚ ∧ gr_Inv Iₚ ∧ gr_fr [0] [] I Iₚ ∧ gr_fj [0] [] J Jₚ ∧ (∃ z : Int, r = some (.inl z) ∧ 0 ≤ z ∧ z ≤ 6)) := by
  have FI : gr_fr [0] [] I I := fun _ _ _ => rfl
  have FJ : gr_fj [0] [] J J := fun _ _ _ => rfl
  have hD : gv_D (gr_E ws0 tb 0 (yX13_rule, cX13_rule, 1, (some .int)) kX13_rule) := gq_of oX13_rule
  refine gr_ev (d := 0) (l := kX13_rule) (Po := fun r hₚ => (∃ (Iₚ : gr_I) (Jₚ : gr_J), hₚ = gr_h Iₚ Jₚ ∧ gr_Inv Iₚ ∧ gr_fr [0] [] I Iₚ ∧ gr_fj [0] [] J Jₚ ∧ (∃ z : Int, r = some (.inl z) ∧ 0 ≤ z ∧ z ≤ 6))) htb rfl (Nat.le_of_ble_eq_true rfl) ?_
  refine gv_run 3 true hD (pcₚ := 5) (lvₚ := [(0, .inr (.inr (some 0)))]) (stₚ := []) (hₚ := gz_up (gr_h I J) 0 0 (.inl 0)) (C := (((True ∧ True) ∧ True) ∧ True)) rfl ⟨⟨⟨trivial, trivial⟩, trivial⟩, trivial⟩ ?_
  refine gr_st hI FI rfl rfl ⟨⟨by show 0 ≤ _; (/-0-/first | omega | (simp only [gz_hd] at *; omega)), by show _ ≤ 2; (/-1-/first | omega | (simp only [gz_hd] at *; omega))⟩, trivial⟩ (fun I1 hI1 FI1 q2 p2 => ?_)
  have f3 := gz_hi ((gr_b_0_79 hI1))
  refine gv_run 2 true hD (pcₚ := 9) (lvₚ := [(0, .inr (.inr (some 0)))]) (stₚ := [.inl (I1 0 79)]) (hₚ := gr_h I1 J) (C := ((True ∧ True) ∧ True)) rfl ⟨⟨trivial, trivial⟩, trivial⟩ ?_
  exact gv_iret hD rfl ⟨I1, J, rfl, hI1, FI1, FJ, ⟨_, rfl, by (/-2-/first | (have o1 := gz_sh f3; omega) | (simp only [gz_hd] at *; omega))⟩⟩
set_option maxHeartbeats 8000000 in
set_option maxRecDepth 100000 in
theorem r_trees {ws0 : List Cond} {tb : String → gz_T} (hws : ∀ w ∈ gr_ws, w ∈ ws0) (htb : tb RX13 = gr_T) (ext : gz_Sh) (I : gr_I) (J : gr_J) (hI : gr_Inv I)    : ∃ r hₚ, gz_Ev ws0 tb 1 (yX13_trees, cX13_trees, 1, (some .long)) [.inr (.inr (some 0))] (gr_sh ++ ext) (gr_h I J) r (gr_sh ++ ext) hₚ 0 0 ∧ (∃ (Iₚ : gr_I) (Jₚ : gr_J), hₚ = gr_h Iₚ Jₚ ∧ gr_Inv Iₚ ∧ gr_fr [0] [] I Iₚ ∧ gr_fj [0] [] J Jₚ ∧ (∃ z : Int64, r = some (.inr (.inl z)))) := by
  have FI : gr_fr [0] [] I I := fun _ _ _ => rfl
  have FJ : gr_fj [0] [] J J := fun _ _ _ => rfl
  have hD : gv_D (gr_E ws0 tb 0 (yX13_trees, cX13_trees, 1, (some .long)) kX13_trees) := gq_of oX13_trees
  refine gr_ev (d := 0) (l := kX13_trees) (Po := fun r hₚ => (∃ (Iₚ : gr_I) (Jₚ : gr_J), hₚ = gr_h Iₚ Jₚ ∧ gr_Inv Iₚ ∧ gr_fr [0] [] I Iₚ ∧ gr_fj [0] [] J Jₚ ∧ (∃ z : Int64, r = some (.inr (.inl z))))) htb rfl (Nat.le_of_ble_eq_true rfl) ?_
  refine gv_run 3 true hD (pcₚ := 5) (lvₚ := [(0, .inr (.inr (some 0)))]) (stₚ := []) (hₚ := gz_up (gr_h I J) 0 0 (.inl 0)) (C := (((True ∧ True) ∧ True) ∧ True)) rfl ⟨⟨⟨trivial, trivial⟩, trivial⟩, trivial⟩ ?_
  refine gr_st hI FI rfl rfl ⟨⟨by show 0 ≤ _; omega, by show _ ≤ 2; omega⟩, trivial⟩ (fun I1 hI1 FI1 q2 p2 => ?_)
  refine gv_run 2 true hD (pcₚ := 9) (lvₚ := [(0, .inr (.inr (some 0)))]) (stₚ := [.inr (.inl (J 0 181))]) (hₚ := gr_h I1 J) (C := ((True ∧ True) ∧ True)) rfl ⟨⟨trivial, trivial⟩, trivial⟩ ?_
  exact gv_lret hD rfl ⟨I1, J, rfl, hI1, FI1, FJ, ⟨_, rfl⟩⟩
set_option maxHeartbeats 8000000 in
set_option maxRecDepth 100000 in
theorem r_cellsOf {ws0 : List Cond} {tb : String → gz_T} (hws : ∀ w ∈ gr_ws, w ∈ ws0) (htb : tb RX13 = gr_T) (ext : gz_Sh) (I : gr_I) (J : gr_J) (hI : gr_Inv I) (a1 : Int) (a2 : Int) (ha1 : 0 ≤ a1 ∧ a1 ≤ 7) (ha2 : 0 ≤ a2 ∧ a2 ≤ 63)  : ∃ r hₚ, gz_Ev ws0 tb 1 (yX13_cellsOf, cX13_cellsOf, 3, (some .int)) [.inr (.inr (some 0)), .inl a1, .inl a2] (gr_sh ++ ext) (gr_h I J) r (gr_sh ++ ext) hₚ 0 0 ∧ (hₚ = gr_h I J ∧ (∃ z : Int, r = some (.inl z) ∧ 0 ≤ z ∧ z ≤ 24)) := by
  have hD : gv_D (gr_E ws0 tb 0 (yX13_cellsOf, cX13_cellsOf, 3, (some .int)) kX13_cellsOf) := gq_of oX13_cellsOf
  refine gr_ev (d := 0) (l := kX13_cellsOf) (Po := fun r hₚ => (hₚ = gr_h I J ∧ (∃ z : Int, r = some (.inl z) ∧ 0 ≤ z ∧ z ≤ 24))) htb rfl (Nat.le_of_ble_eq_true rfl) ?_
  refine gv_run 7 true hD (pcₚ := 12) (lvₚ := [(0, .inr (.inr (some 0))), (1, .inl a1), (2, .inl a2)]) (stₚ := [.inr (.inr (some 37)), .inl (24 * a1), .inr (.inr (some 31))]) (hₚ := gr_h I J) (C := (((((((True ∧ True) ∧ True) ∧ True) ∧ True) ∧ True) ∧ True) ∧ True)) rfl ⟨⟨⟨⟨⟨⟨⟨trivial, trivial⟩, trivial⟩, trivial⟩, trivial⟩, trivial⟩, trivial⟩, trivial⟩ ?_
  have f1 := gz_hi ((gr_b_37 hI (Int.toNat (((64 * a1) + a2)))))
  refine gv_run 6 true hD (pcₚ := 19) (lvₚ := [(0, .inr (.inr (some 0))), (1, .inl a1), (2, .inl a2)]) (stₚ := [.inl (I 37 (Int.toNat (((64 * a1) + a2)))), .inl (24 * a1), .inr (.inr (some 31))]) (hₚ := gr_h I J) (C := ((((((True ∧ True) ∧ True) ∧ True) ∧ True) ∧ True) ∧ (0 ≤ (((64 * a1) + a2)) ∧ (((64 * a1) + a2)) < ((512 : Nat) : Int)))) rfl ⟨⟨⟨⟨⟨⟨trivial, trivial⟩, trivial⟩, trivial⟩, trivial⟩, trivial⟩, ⟨by (/-0-/first | omega | (simp only [gz_hd] at *; omega)), by (/-1-/first | omega | (simp only [gz_hd] at *; omega))⟩⟩ ?_
  have f2 := gz_hi ((gr_b_31 hI (Int.toNat (((24 * a1) + (I 37 (Int.toNat (((64 * a1) + a2)))))))))
  refine gv_run 2 true hD (pcₚ := 21) (lvₚ := [(0, .inr (.inr (some 0))), (1, .inl a1), (2, .inl a2)]) (stₚ := [.inl (I 31 (Int.toNat (((24 * a1) + (I 37 (Int.toNat (((64 * a1) + a2))))))))]) (hₚ := gr_h I J) (C := ((True ∧ True) ∧ (0 ≤ (((24 * a1) + (I 37 (Int.toNat (((64 * a1) + a2)))))) ∧ (((24 * a1) + (I 37 (Int.toNat (((64 * a1) + a2)))))) < ((192 : Nat) : Int)))) rfl ⟨⟨trivial, trivial⟩, ⟨by (/-2-/first | (have o1 := gz_sh f1; omega) | (simp only [gz_hd] at *; omega)), by (/-3-/first | (have o1 := gz_sh f1; omega) | (simp only [gz_hd] at *; omega))⟩⟩ ?_
  exact gv_iret hD rfl ⟨rfl, ⟨_, rfl, by (/-4-/first | (have o1 := gz_sh f2; omega) | (simp only [gz_hd] at *; omega))⟩⟩
set_option maxHeartbeats 8000000 in
set_option maxRecDepth 100000 in
theorem r_isIn {ws0 : List Cond} {tb : String → gz_T} (hws : ∀ w ∈ gr_ws, w ∈ ws0) (htb : tb RX13 = gr_T) (ext : gz_Sh) (I : gr_I) (J : gr_J) (hI : gr_Inv I) (a1 : Int) (a2 : Int) (a3 : Int) (ha1 : 0 ≤ a1 ∧ a1 ≤ 7) (ha2 : (-16) ≤ a2 ∧ a2 ≤ (-1)) (ha3 : (-2147483648) ≤ a3 ∧ a3 ≤ 2147483647)  : ∃ r hₚ, gz_Ev ws0 tb 1 (yX13_isIn, cX13_isIn, 4, (some .boolean)) [.inr (.inr (some 0)), .inl a1, .inl a2, .inl a3] (gr_sh ++ ext) (gr_h I J) r (gr_sh ++ ext) hₚ 0 0 ∧ (hₚ = gr_h I J ∧ (∃ z : Int, r = some (.inl z) ∧ 0 ≤ z ∧ z ≤ 1)) := by
  have hD : gv_D (gr_E ws0 tb 0 (yX13_isIn, cX13_isIn, 4, (some .boolean)) kX13_isIn) := gq_of oX13_isIn
  refine gr_ev (d := 0) (l := kX13_isIn) (Po := fun r hₚ => (hₚ = gr_h I J ∧ (∃ z : Int, r = some (.inl z) ∧ 0 ≤ z ∧ z ≤ 1))) htb rfl (Nat.le_of_ble_eq_true rfl) ?_
  have L29 : ∀ (s0_1 : Int), ((0 ≤ s0_1 ∧ s0_1 ≤ 1)) → gv_X (gr_E ws0 tb 0 (yX13_isIn, cX13_isIn, 4, (some .boolean)) kX13_isIn) (gv_Q cX13_isIn (some .boolean) (gr_sh ++ ext) (fun r hₚ => (hₚ = gr_h I J ∧ (∃ z : Int, r = some (.inl z) ∧ 0 ≤ z ∧ z ≤ 1)))) (29, [], [.inl s0_1], gr_sh ++ ext, gr_h I J) := by
    intro s0_1 m_1
    have hs0_1 := m_1
    exact gv_zret hD rfl (by (/-0-/first | omega | (simp only [gz_hd] at *; omega))) ⟨rfl, ⟨_, rfl, by (/-1-/first | omega | (simp only [gz_hd] at *; omega))⟩⟩
  refine gv_run 7 true hD (pcₚ := 10) (lvₚ := [(0, .inr (.inr (some 0))), (1, .inl a1), (2, .inl a2), (3, .inl a3)]) (stₚ := [.inl ((16 * a1) - 1), .inr (.inr (some 26))]) (hₚ := gr_h I J) (C := (((((((True ∧ True) ∧ True) ∧ True) ∧ True) ∧ True) ∧ True) ∧ True)) rfl ⟨⟨⟨⟨⟨⟨⟨trivial, trivial⟩, trivial⟩, trivial⟩, trivial⟩, trivial⟩, trivial⟩, trivial⟩ ?_
  refine gv_run 3 true hD (pcₚ := 13) (lvₚ := [(0, .inr (.inr (some 0))), (1, .inl a1), (2, .inl a2), (3, .inl a3)]) (stₚ := [.inl (I 26 (Int.toNat ((((16 * a1) - 1) - a2))))]) (hₚ := gr_h I J) (C := (((True ∧ True) ∧ True) ∧ (0 ≤ ((((16 * a1) - 1) - a2)) ∧ ((((16 * a1) - 1) - a2)) < ((128 : Nat) : Int)))) rfl ⟨⟨⟨trivial, trivial⟩, trivial⟩, ⟨by (/-2-/first | omega | (simp only [gz_hd] at *; omega)), by (/-3-/first | omega | (simp only [gz_hd] at *; omega))⟩⟩ ?_
  have f4 := gz_hi (gw_and (x := (((Int32.ofInt ((I 26 (Int.toNat ((((16 * a1) - 1) - a2))))) >>> (Int32.ofInt (a3 - 97) &&& 31)).toInt))) (y := 1) ⟨by (/-4-/first | omega | (simp only [gz_hd] at *; omega)), by (/-5-/first | omega | (simp only [gz_hd] at *; omega))⟩)
  refine gv_run 7 true hD (pcₚ := 21) (lvₚ := [(0, .inr (.inr (some 0))), (1, .inl a1), (2, .inl a2), (3, .inl a3)]) (stₚ := [.inl 1, .inl ((Int32.ofInt (((Int32.ofInt ((I 26 (Int.toNat ((((16 * a1) - 1) - a2))))) >>> (Int32.ofInt (a3 - 97) &&& 31)).toInt)) &&& Int32.ofInt 1).toInt)]) (hₚ := gr_h I J) (C := (((((((True ∧ True) ∧ True) ∧ True) ∧ True) ∧ True) ∧ True) ∧ True)) rfl ⟨⟨⟨⟨⟨⟨⟨trivial, trivial⟩, trivial⟩, trivial⟩, trivial⟩, trivial⟩, trivial⟩, trivial⟩ ?_
  refine gv_icmp_ne (t := 28) hD rfl rfl ⟨⟨by (/-6-/first | (have o1 := gz_sh f4; omega) | (simp only [gz_hd] at *; omega)), by (/-7-/first | (have o1 := gz_sh f4; omega) | (simp only [gz_hd] at *; omega))⟩, ⟨by (/-8-/first | omega | (simp only [gz_hd] at *; omega)), by (/-9-/first | omega | (simp only [gz_hd] at *; omega))⟩⟩ (fun c5 => ?_) (fun c5 => ?_)
  · refine gv_run 1 true hD (pcₚ := 29) (lvₚ := [(0, .inr (.inr (some 0))), (1, .inl a1), (2, .inl a2), (3, .inl a3)]) (stₚ := [.inl 0]) (hₚ := gr_h I J) (C := (True ∧ True)) rfl ⟨trivial, trivial⟩ ?_
    refine gv_pick [] rfl ?_
    exact L29 0 (by (/-10-/first | (and_intros <;> omega) | (simp only [gz_hd] at *; omega)))
  · refine gv_run 2 true hD (pcₚ := 29) (lvₚ := [(0, .inr (.inr (some 0))), (1, .inl a1), (2, .inl a2), (3, .inl a3)]) (stₚ := [.inl 1]) (hₚ := gr_h I J) (C := ((True ∧ True) ∧ True)) rfl ⟨⟨trivial, trivial⟩, trivial⟩ ?_
    refine gv_pick [] rfl ?_
    exact L29 1 (by (/-11-/first | (and_intros <;> omega) | (simp only [gz_hd] at *; omega)))
set_option maxHeartbeats 8000000 in
set_option maxRecDepth 100000 in
theorem r_stands {ws0 : List Cond} {tb : String → gz_T} (hws : ∀ w ∈ gr_ws, w ∈ ws0) (htb : tb RX13 = gr_T) (ext : gz_Sh) (I : gr_I) (J : gr_J) (hI : gr_Inv I) (a1 : Int) (a2 : Int) (a3 : Int) (ha1 : 0 ≤ a1 ∧ a1 ≤ 7) (ha2 : (-16) ≤ a2 ∧ a2 ≤ 32015) (ha3 : 0 ≤ a3 ∧ a3 ≤ 24)  : ∃ r hₚ, gz_Ev ws0 tb 2 (yX13_stands, cX13_stands, 6, (some .int)) [.inr (.inr (some 0)), .inl a1, .inl a2, .inl a3] (gr_sh ++ ext) (gr_h I J) r (gr_sh ++ ext) hₚ 0 0 ∧ (hₚ = gr_h I J ∧ (∃ z : Int, r = some (.inl z) ∧ (-1) ≤ z ∧ z ≤ 15 ∧ (z < 0 ∨ a3 + z ≤ I 0 126))) := by
  have hD : gv_D (gr_E ws0 tb 1 (yX13_stands, cX13_stands, 6, (some .int)) kX13_stands) := gq_of oX13_stands
  refine gr_ev (d := 1) (l := kX13_stands) (Po := fun r hₚ => (hₚ = gr_h I J ∧ (∃ z : Int, r = some (.inl z) ∧ (-1) ≤ z ∧ z ≤ 15 ∧ (z < 0 ∨ a3 + z ≤ I 0 126)))) htb rfl (Nat.le_of_ble_eq_true rfl) ?_
  have f1 := gz_hi ((gr_b_0_126 hI))
  have L32 : ∀ (s0_2 : Int), (((-1) ≤ s0_2 ∧ s0_2 ≤ 1) ∧ (s0_2 < 0 ∨ a3 + s0_2 ≤ I 0 126)) → gv_X (gr_E ws0 tb 1 (yX13_stands, cX13_stands, 6, (some .int)) kX13_stands) (gv_Q cX13_stands (some .int) (gr_sh ++ ext) (fun r hₚ => (hₚ = gr_h I J ∧ (∃ z : Int, r = some (.inl z) ∧ (-1) ≤ z ∧ z ≤ 15 ∧ (z < 0 ∨ a3 + z ≤ I 0 126))))) (32, [], [.inl s0_2], gr_sh ++ ext, gr_h I J) := by
    intro s0_2 m_2
    obtain ⟨hs0_2, e0_2⟩ := gz_h2 m_2
    exact gv_iret hD rfl ⟨rfl, ⟨_, rfl, by (/-0-/first | (and_intros; (have o1 := gz_sh hs0_2; omega); (have o1 := gz_sh hs0_2; omega); (have o1 := gz_sh e0_2; omega)) | (simp only [gz_hd] at *; omega))⟩⟩
  have L31 : gv_X (gr_E ws0 tb 1 (yX13_stands, cX13_stands, 6, (some .int)) kX13_stands) (gv_Q cX13_stands (some .int) (gr_sh ++ ext) (fun r hₚ => (hₚ = gr_h I J ∧ (∃ z : Int, r = some (.inl z) ∧ (-1) ≤ z ∧ z ≤ 15 ∧ (z < 0 ∨ a3 + z ≤ I 0 126))))) (31, [], [], gr_sh ++ ext, gr_h I J) := by
    refine gv_run 1 true hD (pcₚ := 32) (lvₚ := []) (stₚ := [.inl (-1)]) (hₚ := gr_h I J) (C := (True ∧ True)) rfl ⟨trivial, trivial⟩ ?_
    exact L32 (-1) (by (/-1-/first | (and_intros <;> omega) | (simp only [gz_hd] at *; omega)))
  have L55 : ∀ (n : Nat) (v4_6 : Int) (v5_6 : Int), (16 - v5_6).toNat < n → ((0 ≤ a2 ∧ a2 ≤ 32015) ∧ (0 ≤ a3 ∧ a3 ≤ 24) ∧ (0 ≤ v4_6 ∧ v4_6 ≤ 15) ∧ (0 ≤ v5_6 ∧ v5_6 ≤ 15) ∧ (a3 + v4_6 ≤ I 0 126)) → gv_X (gr_E ws0 tb 1 (yX13_stands, cX13_stands, 6, (some .int)) kX13_stands) (gv_Q cX13_stands (some .int) (gr_sh ++ ext) (fun r hₚ => (hₚ = gr_h I J ∧ (∃ z : Int, r = some (.inl z) ∧ (-1) ≤ z ∧ z ≤ 15 ∧ (z < 0 ∨ a3 + z ≤ I 0 126))))) (55, [(0, .inr (.inr (some 0))), (2, .inl a2), (3, .inl a3), (4, .inl v4_6), (5, .inl v5_6)], [], gr_sh ++ ext, gr_h I J) := by
    intro n
    induction n with
    | zero => intro v4_6 v5_6 hn; (/-2-/first | omega | (simp only [gz_hd] at *; omega))
    | succ n ih55 =>
      intro v4_6 v5_6 hn m_6
      obtain ⟨ha2_6, ha3_6, hv4_6, hv5_6, e0_6⟩ := gz_h5 m_6
      refine gv_run 2 true hD (pcₚ := 59) (lvₚ := [(0, .inr (.inr (some 0))), (2, .inl a2), (3, .inl a3), (4, .inl v4_6), (5, .inl v5_6)]) (stₚ := [.inl v4_6, .inl v5_6]) (hₚ := gr_h I J) (C := ((True ∧ True) ∧ True)) rfl ⟨⟨trivial, trivial⟩, trivial⟩ ?_
      refine gv_icmp_ge (t := 93) hD rfl rfl ⟨⟨by (/-3-/first | (have o1 := gz_sh hv5_6; omega) | (simp only [gz_hd] at *; omega)), by (/-4-/first | (have o1 := gz_sh hv5_6; omega) | (simp only [gz_hd] at *; omega))⟩, ⟨by (/-5-/first | (have o1 := gz_sh hv4_6; omega) | (simp only [gz_hd] at *; omega)), by (/-6-/first | (have o1 := gz_sh hv4_6; omega) | (simp only [gz_hd] at *; omega))⟩⟩ (fun c8 => ?_) (fun c8 => ?_)
      · refine gv_run 1 true hD (pcₚ := 95) (lvₚ := [(0, .inr (.inr (some 0))), (2, .inl a2), (3, .inl a3), (4, .inl v4_6), (5, .inl v5_6)]) (stₚ := [.inl v4_6]) (hₚ := gr_h I J) (C := (True ∧ True)) rfl ⟨trivial, trivial⟩ ?_
        exact gv_iret hD rfl ⟨rfl, ⟨_, rfl, by (/-7-/first | (and_intros; (have o1 := gz_sh hv4_6; omega); (have o1 := gz_sh hv4_6; omega); (have o1 := gz_sh e0_6; omega)) | (simp only [gz_hd] at *; omega))⟩⟩
      · have f9 := gz_hi ((gr_b_76 hI (Int.toNat ((a3 + v5_6)))))
        refine gv_run 6 true hD (pcₚ := 71) (lvₚ := [(0, .inr (.inr (some 0))), (2, .inl a2), (3, .inl a3), (4, .inl v4_6), (5, .inl v5_6)]) (stₚ := [.inl (I 76 (Int.toNat ((a3 + v5_6))))]) (hₚ := gr_h I J) (C := ((((((True ∧ True) ∧ True) ∧ True) ∧ True) ∧ True) ∧ (0 ≤ (a3 + v5_6) ∧ (a3 + v5_6) < ((64 : Nat) : Int)))) rfl ⟨⟨⟨⟨⟨⟨trivial, trivial⟩, trivial⟩, trivial⟩, trivial⟩, trivial⟩, ⟨by (/-8-/first | (have o1 := gz_sh hv5_6; omega) | (simp only [gz_hd] at *; omega)), by (/-9-/first | (have o1 := gz_sh hv5_6; omega) | (simp only [gz_hd] at *; omega))⟩⟩ ?_
        have f10 := gz_hi (gw_shr (x := a2) (y := 4) ⟨by (/-10-/first | (have o1 := gz_sh ha2_6; omega) | (simp only [gz_hd] at *; omega)), by (/-11-/first | omega | (simp only [gz_hd] at *; omega))⟩)
        refine gv_run 7 true hD (pcₚ := 81) (lvₚ := [(0, .inr (.inr (some 0))), (2, .inl a2), (3, .inl a3), (4, .inl v4_6), (5, .inl v5_6)]) (stₚ := [.inl (((Int32.ofInt a2 >>> (Int32.ofInt 4 &&& 31)).toInt) + v5_6), .inr (.inr (some 51)), .inl (I 76 (Int.toNat ((a3 + v5_6))))]) (hₚ := gr_h I J) (C := (((((((True ∧ True) ∧ True) ∧ True) ∧ True) ∧ True) ∧ True) ∧ True)) rfl ⟨⟨⟨⟨⟨⟨⟨trivial, trivial⟩, trivial⟩, trivial⟩, trivial⟩, trivial⟩, trivial⟩, trivial⟩ ?_
        have f11 := gz_hi ((gr_b_51 hI (Int.toNat ((((Int32.ofInt a2 >>> (Int32.ofInt 4 &&& 31)).toInt) + v5_6)))))
        refine gv_run 1 true hD (pcₚ := 82) (lvₚ := [(0, .inr (.inr (some 0))), (2, .inl a2), (3, .inl a3), (4, .inl v4_6), (5, .inl v5_6)]) (stₚ := [.inl (I 51 (Int.toNat ((((Int32.ofInt a2 >>> (Int32.ofInt 4 &&& 31)).toInt) + v5_6)))), .inl (I 76 (Int.toNat ((a3 + v5_6))))]) (hₚ := gr_h I J) (C := (True ∧ (0 ≤ ((((Int32.ofInt a2 >>> (Int32.ofInt 4 &&& 31)).toInt) + v5_6)) ∧ ((((Int32.ofInt a2 >>> (Int32.ofInt 4 &&& 31)).toInt) + v5_6)) < ((82000 : Nat) : Int)))) rfl ⟨trivial, ⟨by (/-12-/first | (have o1 := gz_sh f10; have o2 := gz_sh hv5_6; omega) | (simp only [gz_hd] at *; omega)), by (/-13-/first | (have o1 := gz_sh f10; have o2 := gz_sh hv4_6; omega) | (simp only [gz_hd] at *; omega))⟩⟩ ?_
        refine gv_icmp_eq (t := 87) hD rfl rfl ⟨⟨by (/-14-/first | (have o1 := gz_sh f9; omega) | (simp only [gz_hd] at *; omega)), by (/-15-/first | (have o1 := gz_sh f9; omega) | (simp only [gz_hd] at *; omega))⟩, ⟨by (/-16-/first | (have o1 := gz_sh f11; omega) | (simp only [gz_hd] at *; omega)), by (/-17-/first | (have o1 := gz_sh f11; omega) | (simp only [gz_hd] at *; omega))⟩⟩ (fun c12 => ?_) (fun c12 => ?_)
        · refine gv_run 2 true hD (pcₚ := 55) (lvₚ := [(5, .inl (v5_6 + 1)), (0, .inr (.inr (some 0))), (2, .inl a2), (3, .inl a3), (4, .inl v4_6)]) (stₚ := []) (hₚ := gr_h I J) (C := ((True ∧ True) ∧ True)) rfl ⟨⟨trivial, trivial⟩, trivial⟩ ?_
          refine gv_pick [1, 2, 3, 4, 0] rfl ?_
          exact ih55 v4_6 (v5_6 + 1) (by (/-18-/first | (have o1 := gz_sh hv4_6; have o2 := gz_sh hv5_6; omega) | (simp only [gz_hd] at *; omega))) (by (/-19-/first | (and_intros; (have o1 := gz_sh ha2_6; omega); (omega); (omega); (omega); (have o1 := gz_sh hv4_6; omega); (have o1 := gz_sh hv4_6; omega); (have o1 := gz_sh hv5_6; omega); (have o1 := gz_sh hv4_6; omega); (have o1 := gz_sh e0_6; omega)) | (simp only [gz_hd] at *; omega)))
        · refine gv_run 1 true hD (pcₚ := 86) (lvₚ := [(0, .inr (.inr (some 0))), (2, .inl a2), (3, .inl a3), (4, .inl v4_6), (5, .inl v5_6)]) (stₚ := [.inl (-1)]) (hₚ := gr_h I J) (C := (True ∧ True)) rfl ⟨trivial, trivial⟩ ?_
          exact gv_iret hD rfl ⟨rfl, ⟨_, rfl, by (/-20-/first | (and_intros <;> omega) | (simp only [gz_hd] at *; omega))⟩⟩
  refine gv_run 1 true hD (pcₚ := 1) (lvₚ := [(0, .inr (.inr (some 0))), (1, .inl a1), (2, .inl a2), (3, .inl a3)]) (stₚ := [.inl a2]) (hₚ := gr_h I J) (C := (True ∧ True)) rfl ⟨trivial, trivial⟩ ?_
  refine gv_if_ge (t := 33) hD rfl rfl ⟨by (/-21-/first | omega | (simp only [gz_hd] at *; omega)), by (/-22-/first | omega | (simp only [gz_hd] at *; omega))⟩ (fun c13 => ?_) (fun c13 => ?_)
  · have f14 := gz_hi (gw_and (x := a2) (y := 15) ⟨by (/-23-/first | omega | (simp only [gz_hd] at *; omega)), by (/-24-/first | omega | (simp only [gz_hd] at *; omega))⟩)
    refine gv_run 7 true hD (pcₚ := 43) (lvₚ := [(4, .inl ((Int32.ofInt a2 &&& Int32.ofInt 15).toInt)), (0, .inr (.inr (some 0))), (1, .inl a1), (2, .inl a2), (3, .inl a3)]) (stₚ := [.inl (a3 + ((Int32.ofInt a2 &&& Int32.ofInt 15).toInt))]) (hₚ := gr_h I J) (C := (((((((True ∧ True) ∧ True) ∧ True) ∧ True) ∧ True) ∧ True) ∧ True)) rfl ⟨⟨⟨⟨⟨⟨⟨trivial, trivial⟩, trivial⟩, trivial⟩, trivial⟩, trivial⟩, trivial⟩, trivial⟩ ?_
    refine gv_run 2 true hD (pcₚ := 47) (lvₚ := [(4, .inl ((Int32.ofInt a2 &&& Int32.ofInt 15).toInt)), (0, .inr (.inr (some 0))), (1, .inl a1), (2, .inl a2), (3, .inl a3)]) (stₚ := [.inl (I 0 126), .inl (a3 + ((Int32.ofInt a2 &&& Int32.ofInt 15).toInt))]) (hₚ := gr_h I J) (C := ((True ∧ True) ∧ True)) rfl ⟨⟨trivial, trivial⟩, trivial⟩ ?_
    refine gv_icmp_le (t := 52) hD rfl rfl ⟨⟨by (/-25-/first | (have o1 := gz_sh f14; omega) | (simp only [gz_hd] at *; omega)), by (/-26-/first | (have o1 := gz_sh f14; omega) | (simp only [gz_hd] at *; omega))⟩, ⟨by (/-27-/first | (have o1 := gz_sh f1; omega) | (simp only [gz_hd] at *; omega)), by (/-28-/first | (have o1 := gz_sh f1; omega) | (simp only [gz_hd] at *; omega))⟩⟩ (fun c16 => ?_) (fun c16 => ?_)
    · refine gv_run 2 true hD (pcₚ := 55) (lvₚ := [(5, .inl 0), (4, .inl ((Int32.ofInt a2 &&& Int32.ofInt 15).toInt)), (0, .inr (.inr (some 0))), (1, .inl a1), (2, .inl a2), (3, .inl a3)]) (stₚ := []) (hₚ := gr_h I J) (C := ((True ∧ True) ∧ True)) rfl ⟨⟨trivial, trivial⟩, trivial⟩ ?_
      refine gv_pick [2, 4, 5, 1, 0] rfl ?_
      exact L55 _ (((Int32.ofInt a2 &&& Int32.ofInt 15).toInt)) 0 (Nat.lt_succ_self _) (by (/-29-/first | (and_intros; (omega); (omega); (omega); (omega); (have o1 := gz_sh f14; omega); (have o1 := gz_sh f14; omega); (omega); (omega); (omega)) | (simp only [gz_hd] at *; omega)))
    · refine gv_run 1 true hD (pcₚ := 51) (lvₚ := [(4, .inl ((Int32.ofInt a2 &&& Int32.ofInt 15).toInt)), (0, .inr (.inr (some 0))), (1, .inl a1), (2, .inl a2), (3, .inl a3)]) (stₚ := [.inl (-1)]) (hₚ := gr_h I J) (C := (True ∧ True)) rfl ⟨trivial, trivial⟩ ?_
      exact gv_iret hD rfl ⟨rfl, ⟨_, rfl, by (/-30-/first | (and_intros <;> omega) | (simp only [gz_hd] at *; omega))⟩⟩
  · have f17 := gz_hi ((gr_b_0_126 hI))
    refine gv_run 3 true hD (pcₚ := 9) (lvₚ := [(0, .inr (.inr (some 0))), (1, .inl a1), (2, .inl a2), (3, .inl a3)]) (stₚ := [.inl (I 0 126), .inl a3]) (hₚ := gr_h I J) (C := (((True ∧ True) ∧ True) ∧ True)) rfl ⟨⟨⟨trivial, trivial⟩, trivial⟩, trivial⟩ ?_
    refine gv_icmp_ge (t := 31) hD rfl rfl ⟨⟨by (/-31-/first | omega | (simp only [gz_hd] at *; omega)), by (/-32-/first | omega | (simp only [gz_hd] at *; omega))⟩, ⟨by (/-33-/first | (have o1 := gz_sh f1; omega) | (simp only [gz_hd] at *; omega)), by (/-34-/first | (have o1 := gz_sh f1; omega) | (simp only [gz_hd] at *; omega))⟩⟩ (fun c18 => ?_) (fun c18 => ?_)
    · refine gv_pick [] rfl ?_
      exact L31 
    · have f19 := gz_hi ((gr_b_76 hI (Int.toNat a3)))
      refine gv_run 7 true hD (pcₚ := 21) (lvₚ := [(0, .inr (.inr (some 0))), (1, .inl a1), (2, .inl a2), (3, .inl a3)]) (stₚ := [.inl (I 76 (Int.toNat a3)), .inl a2, .inl a1, .inr (.inr (some 0))]) (hₚ := gr_h I J) (C := (((((((True ∧ True) ∧ True) ∧ True) ∧ True) ∧ True) ∧ True) ∧ (0 ≤ a3 ∧ a3 < ((64 : Nat) : Int)))) rfl ⟨⟨⟨⟨⟨⟨⟨trivial, trivial⟩, trivial⟩, trivial⟩, trivial⟩, trivial⟩, trivial⟩, ⟨by (/-35-/first | omega | (simp only [gz_hd] at *; omega)), by (/-36-/first | omega | (simp only [gz_hd] at *; omega))⟩⟩ ?_
      obtain ⟨r20, h20, E20, P20⟩ := r_isIn (ws0 := ws0) (tb := tb) hws htb ext I J hI a1 a2 ((I 76 (Int.toNat a3))) ⟨by (/-37-/first | omega | (simp only [gz_hd] at *; omega)), by (/-38-/first | omega | (simp only [gz_hd] at *; omega))⟩ ⟨by (/-39-/first | omega | (simp only [gz_hd] at *; omega)), by (/-40-/first | omega | (simp only [gz_hd] at *; omega))⟩ ⟨by (/-41-/first | (have o1 := gz_sh f19; omega) | (simp only [gz_hd] at *; omega)), by (/-42-/first | (have o1 := gz_sh f19; omega) | (simp only [gz_hd] at *; omega))⟩ 
      obtain ⟨rfl, ⟨z20, rfl, q20⟩⟩ := P20
      replace q20 := gz_hi q20
      refine gv_callV hD rfl (As := [.inl a1, .inl a2, .inl (I 76 (Int.toNat a3))]) (st := []) rfl (by decide) rfl rfl (gr_lV hws rfl) (Nat.le_of_ble_eq_true rfl) (gz_Ev_mono (d := 1) (by decide) E20) ?_
      show gv_X _ _ (24, [(0, .inr (.inr (some 0))), (1, .inl a1), (2, .inl a2), (3, .inl a3)], [.inl z20], gr_sh ++ ext, gr_h I J)
      refine gv_if_eq (t := 31) hD rfl rfl ⟨by (/-43-/first | (have o1 := gz_sh q20; omega) | (simp only [gz_hd] at *; omega)), by (/-44-/first | (have o1 := gz_sh q20; omega) | (simp only [gz_hd] at *; omega))⟩ (fun c21 => ?_) (fun c21 => ?_)
      · refine gv_pick [] rfl ?_
        exact L31 
      · refine gv_run 2 true hD (pcₚ := 32) (lvₚ := [(0, .inr (.inr (some 0))), (1, .inl a1), (2, .inl a2), (3, .inl a3)]) (stₚ := [.inl 1]) (hₚ := gr_h I J) (C := ((True ∧ True) ∧ True)) rfl ⟨⟨trivial, trivial⟩, trivial⟩ ?_
        refine gv_pick [] rfl ?_
        exact L32 1 (by (/-45-/first | (and_intros <;> omega) | (simp only [gz_hd] at *; omega)))
