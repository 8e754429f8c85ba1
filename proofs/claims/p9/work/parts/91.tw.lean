set_option maxHeartbeats 8000000 in
set_option maxRecDepth 100000 in
theorem r_bad_t {ws0 : List Cond} {tb : String → gz_T} (hws : ∀ w ∈ gr_ws, w ∈ ws0) (htb : tb RX13 = gr_T) (ext : gz_Sh) (I : gr_I) (J : gr_J) (hI : gr_Inv I)    : ∃ r hₚ, gz_Ev ws0 tb 1 (yX13_bad, cX13_bad, 1, (some .int)) [.inr (.inr (some 0))] (gr_sh ++ ext) (gr_h I J) r (gr_sh ++ ext) hₚ 0 0 ∧ (∃ (Iₚ : gr_I) (Jₚ : gr_J), hₚ = gr_h Iₚ Jₚ ∧ gr_Inv Iₚ ∧ gr_fr [0] [] I Iₚ ∧ gr_fj [0] [] J Jₚ ∧ (∃ z : Int, r = some (.inl z) ∧ 0 ≤ z ∧ z ≤ 0 ∧ (Iₚ 0 0 = 1))) := by
  have FI : gr_fr [0] [] I I := fun _ _ _ => rfl
  have FJ : gr_fj [0] [] J J := fun _ _ _ => rfl
  have hD : gv_D (gr_E ws0 tb 0 (yX13_bad, cX13_bad, 1, (some .int)) kX13_bad) := gq_of oX13_bad
  refine gr_ev (d := 0) (l := kX13_bad) (Po := fun r hₚ => (∃ (Iₚ : gr_I) (Jₚ : gr_J), hₚ = gr_h Iₚ Jₚ ∧ gr_Inv Iₚ ∧ gr_fr [0] [] I Iₚ ∧ gr_fj [0] [] J Jₚ ∧ (∃ z : Int, r = some (.inl z) ∧ 0 ≤ z ∧ z ≤ 0 ∧ (Iₚ 0 0 = 1)))) htb rfl (Nat.le_of_ble_eq_true rfl) ?_
  refine gv_run 3 true hD (pcₚ := 5) (lvₚ := [(0, .inr (.inr (some 0)))]) (stₚ := []) (hₚ := gz_up (gr_h I J) 0 0 (.inl 1)) (C := (((True ∧ True) ∧ True) ∧ True)) rfl ⟨⟨⟨trivial, trivial⟩, trivial⟩, trivial⟩ ?_
  refine gr_st hI FI rfl rfl ⟨⟨by show 0 ≤ _; omega, by show _ ≤ 2; omega⟩, trivial⟩ (fun I1 hI1 FI1 q2 p2 => ?_)
  refine gv_run 1 true hD (pcₚ := 6) (lvₚ := [(0, .inr (.inr (some 0)))]) (stₚ := [.inl 0]) (hₚ := gr_h I1 J) (C := (True ∧ True)) rfl ⟨trivial, trivial⟩ ?_
  exact gv_iret hD rfl ⟨I1, J, rfl, hI1, FI1, FJ, ⟨_, rfl, by omega⟩⟩
set_option maxHeartbeats 8000000 in
set_option maxRecDepth 100000 in
theorem r_noTongue_t {ws0 : List Cond} {tb : String → gz_T} (hws : ∀ w ∈ gr_ws, w ∈ ws0) (htb : tb RX13 = gr_T) (ext : gz_Sh) (I : gr_I) (J : gr_J) (hI : gr_Inv I) (a1 : Int) (ha1 : (-2147483648) ≤ a1 ∧ a1 ≤ 2147483647)  : ∃ r hₚ, gz_Ev ws0 tb 1 (yX13_noTongue, cX13_noTongue, 2, (some .boolean)) [.inr (.inr (some 0)), .inl a1] (gr_sh ++ ext) (gr_h I J) r (gr_sh ++ ext) hₚ 0 0 ∧ (∃ (Iₚ : gr_I) (Jₚ : gr_J), hₚ = gr_h Iₚ Jₚ ∧ gr_Inv Iₚ ∧ gr_fr [0] [] I Iₚ ∧ gr_fj [0] [] J Jₚ ∧ (∃ z : Int, r = some (.inl z) ∧ 0 ≤ z ∧ z ≤ 1 ∧ (z = 0 → 0 ≤ a1 ∧ a1 < I 0 1 ∧ a1 ≤ 7) ∧ ((z = 0 ∧ (0 ≤ a1 ∧ a1 < I 0 1)) ∨ (z = 1 ∧ ¬ (0 ≤ a1 ∧ a1 < I 0 1))) ∧ (z = 0 → Iₚ 0 0 = 0))) := by
  have FI : gr_fr [0] [] I I := fun _ _ _ => rfl
  have FJ : gr_fj [0] [] J J := fun _ _ _ => rfl
  have hD : gv_D (gr_E ws0 tb 0 (yX13_noTongue, cX13_noTongue, 2, (some .boolean)) kX13_noTongue) := gq_of oX13_noTongue
  refine gr_ev (d := 0) (l := kX13_noTongue) (Po := fun r hₚ => (∃ (Iₚ : gr_I) (Jₚ : gr_J), hₚ = gr_h Iₚ Jₚ ∧ gr_Inv Iₚ ∧ gr_fr [0] [] I Iₚ ∧ gr_fj [0] [] J Jₚ ∧ (∃ z : Int, r = some (.inl z) ∧ 0 ≤ z ∧ z ≤ 1 ∧ (z = 0 → 0 ≤ a1 ∧ a1 < I 0 1 ∧ a1 ≤ 7) ∧ ((z = 0 ∧ (0 ≤ a1 ∧ a1 < I 0 1)) ∨ (z = 1 ∧ ¬ (0 ≤ a1 ∧ a1 < I 0 1))) ∧ (z = 0 → Iₚ 0 0 = 0)))) htb rfl (Nat.le_of_ble_eq_true rfl) ?_
  have f1 := gz_hi ((gr_b_0_1 hI))
  have L18 : ∀ (s1_3 : Int), ((0 ≤ s1_3 ∧ s1_3 ≤ 1) ∧ (s1_3 = 0 → 0 ≤ a1 ∧ a1 < I 0 1 ∧ a1 ≤ 7) ∧ ((s1_3 = 0 ∧ (0 ≤ a1 ∧ a1 < I 0 1)) ∨ (s1_3 = 1 ∧ ¬ (0 ≤ a1 ∧ a1 < I 0 1)))) → gv_X (gr_E ws0 tb 0 (yX13_noTongue, cX13_noTongue, 2, (some .boolean)) kX13_noTongue) (gv_Q cX13_noTongue (some .boolean) (gr_sh ++ ext) (fun r hₚ => (∃ (Iₚ : gr_I) (Jₚ : gr_J), hₚ = gr_h Iₚ Jₚ ∧ gr_Inv Iₚ ∧ gr_fr [0] [] I Iₚ ∧ gr_fj [0] [] J Jₚ ∧ (∃ z : Int, r = some (.inl z) ∧ 0 ≤ z ∧ z ≤ 1 ∧ (z = 0 → 0 ≤ a1 ∧ a1 < I 0 1 ∧ a1 ≤ 7) ∧ ((z = 0 ∧ (0 ≤ a1 ∧ a1 < I 0 1)) ∨ (z = 1 ∧ ¬ (0 ≤ a1 ∧ a1 < I 0 1))) ∧ (z = 0 → Iₚ 0 0 = 0))))) (18, [(0, .inr (.inr (some 0)))], [.inl s1_3, .inr (.inr (some 0))], gr_sh ++ ext, gr_h I J) := by
    intro s1_3 m_3
    obtain ⟨hs1_3, e0_3, e1_3⟩ := gz_h3 m_3
    have L33 : ∀ (I6 : gr_I) (J7 : gr_J) (s0_8 : Int), gr_Inv I6 → gr_fr [0] [] I I6 → gr_fj [0] [] J J7 → ((0 ≤ s0_8 ∧ s0_8 ≤ 1) ∧ (s0_8 = 0 → 0 ≤ a1 ∧ a1 < I 0 1 ∧ a1 ≤ 7) ∧ ((s0_8 = 0 ∧ (0 ≤ a1 ∧ a1 < I 0 1)) ∨ (s0_8 = 1 ∧ ¬ (0 ≤ a1 ∧ a1 < I 0 1))) ∧ (s0_8 = 0 → I6 0 0 = 0)) → gv_X (gr_E ws0 tb 0 (yX13_noTongue, cX13_noTongue, 2, (some .boolean)) kX13_noTongue) (gv_Q cX13_noTongue (some .boolean) (gr_sh ++ ext) (fun r hₚ => (∃ (Iₚ : gr_I) (Jₚ : gr_J), hₚ = gr_h Iₚ Jₚ ∧ gr_Inv Iₚ ∧ gr_fr [0] [] I Iₚ ∧ gr_fj [0] [] J Jₚ ∧ (∃ z : Int, r = some (.inl z) ∧ 0 ≤ z ∧ z ≤ 1 ∧ (z = 0 → 0 ≤ a1 ∧ a1 < I 0 1 ∧ a1 ≤ 7) ∧ ((z = 0 ∧ (0 ≤ a1 ∧ a1 < I 0 1)) ∨ (z = 1 ∧ ¬ (0 ≤ a1 ∧ a1 < I 0 1))) ∧ (z = 0 → Iₚ 0 0 = 0))))) (33, [], [.inl s0_8], gr_sh ++ ext, gr_h I6 J7) := by
      intro I6 J7 s0_8 hI6 FI6 FJ7 m_8
      clear hs1_3 e0_3 e1_3
      obtain ⟨hs0_8, e0_8, e1_8, e2_8⟩ := gz_h4 m_8
      have f10 := gz_hi ((gr_b_0_0 hI6))
      exact gv_zret hD rfl (by (/-0-/first | (have o1 := gz_sh hs0_8; omega) | (simp only [gz_hd] at *; omega))) ⟨I6, J7, rfl, hI6, FI6, FJ7, ⟨_, rfl, by (/-1-/first | (and_intros; (have o1 := gz_sh hs0_8; omega); (have o1 := gz_sh hs0_8; omega); (have o1 := gz_sh e1_8; have o2 := gz_sh f1; omega); (have o1 := gz_sh e1_8; have o2 := gz_sh e2_8; have o3 := gz_sh f1; have o4 := gz_sh f10; have o5 := gz_sh hs0_8; omega); (have o1 := gz_sh e2_8; have o2 := gz_sh f10; have o3 := gz_sh hs0_8; omega)) | (simp only [gz_hd] at *; omega))⟩⟩
    refine gv_run 1 true hD (pcₚ := 21) (lvₚ := [(0, .inr (.inr (some 0)))]) (stₚ := []) (hₚ := gz_up (gr_h I J) 0 0 (.inl s1_3)) (C := (True ∧ True)) rfl ⟨trivial, trivial⟩ ?_
    refine gr_st hI FI rfl rfl ⟨⟨by show 0 ≤ _; (/-2-/first | (have o1 := gz_sh hs1_3; omega) | (simp only [gz_hd] at *; omega)), by show _ ≤ 2; (/-3-/first | (have o1 := gz_sh hs1_3; omega) | (simp only [gz_hd] at *; omega))⟩, trivial⟩ (fun I11 hI11 FI11 q12 p12 => ?_)
    have t13 := gz_hi (p12 0 1 (by decide))
    refine gv_run 2 true hD (pcₚ := 25) (lvₚ := [(0, .inr (.inr (some 0)))]) (stₚ := [.inl (I11 0 0)]) (hₚ := gr_h I11 J) (C := ((True ∧ True) ∧ True)) rfl ⟨⟨trivial, trivial⟩, trivial⟩ ?_
    refine gv_if_eq (t := 32) hD rfl rfl ⟨by (/-4-/first | (have o1 := gz_sh hs1_3; omega) | (simp only [gz_hd] at *; omega)), by (/-5-/first | (have o1 := gz_sh hs1_3; omega) | (simp only [gz_hd] at *; omega))⟩ (fun c17 => ?_) (fun c17 => ?_)
    · refine gv_run 1 true hD (pcₚ := 33) (lvₚ := [(0, .inr (.inr (some 0)))]) (stₚ := [.inl 0]) (hₚ := gr_h I11 J) (C := (True ∧ True)) rfl ⟨trivial, trivial⟩ ?_
      refine gv_pick [] rfl ?_
      exact L33 I11 J 0 hI11 FI11 FJ (by (/-6-/first | (and_intros; (omega); (omega); (have o1 := gz_sh e1_3; have o2 := gz_sh f1; omega); (have o1 := gz_sh e1_3; have o2 := gz_sh f1; have o3 := gz_sh t13; omega); (omega)) | (simp only [gz_hd] at *; omega)))
    · refine gv_run 2 true hD (pcₚ := 33) (lvₚ := [(0, .inr (.inr (some 0)))]) (stₚ := [.inl 1]) (hₚ := gr_h I11 J) (C := ((True ∧ True) ∧ True)) rfl ⟨⟨trivial, trivial⟩, trivial⟩ ?_
      refine gv_pick [] rfl ?_
      exact L33 I11 J 1 hI11 FI11 FJ (by (/-7-/first | (and_intros; (omega); (omega); (omega); (have o1 := gz_sh e1_3; have o2 := gz_sh hs1_3; have o3 := gz_sh t13; omega); (omega)) | (simp only [gz_hd] at *; omega)))
  have L13 : ((¬ (0 ≤ a1 ∧ a1 < I 0 1))) → gv_X (gr_E ws0 tb 0 (yX13_noTongue, cX13_noTongue, 2, (some .boolean)) kX13_noTongue) (gv_Q cX13_noTongue (some .boolean) (gr_sh ++ ext) (fun r hₚ => (∃ (Iₚ : gr_I) (Jₚ : gr_J), hₚ = gr_h Iₚ Jₚ ∧ gr_Inv Iₚ ∧ gr_fr [0] [] I Iₚ ∧ gr_fj [0] [] J Jₚ ∧ (∃ z : Int, r = some (.inl z) ∧ 0 ≤ z ∧ z ≤ 1 ∧ (z = 0 → 0 ≤ a1 ∧ a1 < I 0 1 ∧ a1 ≤ 7) ∧ ((z = 0 ∧ (0 ≤ a1 ∧ a1 < I 0 1)) ∨ (z = 1 ∧ ¬ (0 ≤ a1 ∧ a1 < I 0 1))) ∧ (z = 0 → Iₚ 0 0 = 0))))) (13, [(0, .inr (.inr (some 0)))], [.inr (.inr (some 0))], gr_sh ++ ext, gr_h I J) := by
    intro m_18
    have e0_18 := m_18
    refine gv_run 2 true hD (pcₚ := 18) (lvₚ := [(0, .inr (.inr (some 0)))]) (stₚ := [.inl 1, .inr (.inr (some 0))]) (hₚ := gr_h I J) (C := ((True ∧ True) ∧ True)) rfl ⟨⟨trivial, trivial⟩, trivial⟩ ?_
    exact L18 1 (by (/-8-/first | (and_intros <;> omega) | (simp only [gz_hd] at *; omega)))
  refine gv_run 2 true hD (pcₚ := 2) (lvₚ := [(0, .inr (.inr (some 0))), (1, .inl a1)]) (stₚ := [.inl a1, .inr (.inr (some 0))]) (hₚ := gr_h I J) (C := ((True ∧ True) ∧ True)) rfl ⟨⟨trivial, trivial⟩, trivial⟩ ?_
  refine gv_if_lt (t := 13) hD rfl rfl ⟨by (/-9-/first | omega | (simp only [gz_hd] at *; omega)), by (/-10-/first | omega | (simp only [gz_hd] at *; omega))⟩ (fun c21 => ?_) (fun c21 => ?_)
  · refine gv_pick [0] rfl ?_
    exact L13 (by (/-11-/first | omega | (simp only [gz_hd] at *; omega)))
  · have f22 := gz_hi ((gr_b_0_1 hI))
    refine gv_run 3 true hD (pcₚ := 10) (lvₚ := [(0, .inr (.inr (some 0))), (1, .inl a1)]) (stₚ := [.inl (I 0 1), .inl a1, .inr (.inr (some 0))]) (hₚ := gr_h I J) (C := (((True ∧ True) ∧ True) ∧ True)) rfl ⟨⟨⟨trivial, trivial⟩, trivial⟩, trivial⟩ ?_
    refine gv_icmp_lt (t := 17) hD rfl rfl ⟨⟨by (/-12-/first | omega | (simp only [gz_hd] at *; omega)), by (/-13-/first | omega | (simp only [gz_hd] at *; omega))⟩, ⟨by (/-14-/first | (have o1 := gz_sh f1; omega) | (simp only [gz_hd] at *; omega)), by (/-15-/first | (have o1 := gz_sh f1; omega) | (simp only [gz_hd] at *; omega))⟩⟩ (fun c23 => ?_) (fun c23 => ?_)
    · refine gv_run 1 true hD (pcₚ := 18) (lvₚ := [(0, .inr (.inr (some 0))), (1, .inl a1)]) (stₚ := [.inl 0, .inr (.inr (some 0))]) (hₚ := gr_h I J) (C := (True ∧ True)) rfl ⟨trivial, trivial⟩ ?_
      refine gv_pick [0] rfl ?_
      exact L18 0 (by (/-16-/first | (and_intros; (omega); (omega); (have o1 := gz_sh f1; omega); (omega)) | (simp only [gz_hd] at *; omega)))
    · refine gv_pick [0] rfl ?_
      exact L13 (by (/-17-/first | omega | (simp only [gz_hd] at *; omega)))
set_option maxHeartbeats 8000000 in
set_option maxRecDepth 100000 in
theorem r_noKind_t {ws0 : List Cond} {tb : String → gz_T} (hws : ∀ w ∈ gr_ws, w ∈ ws0) (htb : tb RX13 = gr_T) (ext : gz_Sh) (I : gr_I) (J : gr_J) (hI : gr_Inv I) (a1 : Int) (ha1 : (-2147483648) ≤ a1 ∧ a1 ≤ 2147483647)  : ∃ r hₚ, gz_Ev ws0 tb 1 (yX13_noKind, cX13_noKind, 2, (some .boolean)) [.inr (.inr (some 0)), .inl a1] (gr_sh ++ ext) (gr_h I J) r (gr_sh ++ ext) hₚ 0 0 ∧ (∃ (Iₚ : gr_I) (Jₚ : gr_J), hₚ = gr_h Iₚ Jₚ ∧ gr_Inv Iₚ ∧ gr_fr [0] [] I Iₚ ∧ gr_fj [0] [] J Jₚ ∧ (∃ z : Int, r = some (.inl z) ∧ 0 ≤ z ∧ z ≤ 1 ∧ (z = 0 → 0 ≤ a1 ∧ a1 ≤ 31) ∧ ((z = 0 ∧ ((0 ≤ a1 ∧ a1 < I 0 2) ∧ I 0 0 = 0)) ∨ (z = 1 ∧ ¬ ((0 ≤ a1 ∧ a1 < I 0 2) ∧ I 0 0 = 0))) ∧ (z = 0 → Iₚ 0 0 = 0))) := by
  have FI : gr_fr [0] [] I I := fun _ _ _ => rfl
  have FJ : gr_fj [0] [] J J := fun _ _ _ => rfl
  have hD : gv_D (gr_E ws0 tb 0 (yX13_noKind, cX13_noKind, 2, (some .boolean)) kX13_noKind) := gq_of oX13_noKind
  refine gr_ev (d := 0) (l := kX13_noKind) (Po := fun r hₚ => (∃ (Iₚ : gr_I) (Jₚ : gr_J), hₚ = gr_h Iₚ Jₚ ∧ gr_Inv Iₚ ∧ gr_fr [0] [] I Iₚ ∧ gr_fj [0] [] J Jₚ ∧ (∃ z : Int, r = some (.inl z) ∧ 0 ≤ z ∧ z ≤ 1 ∧ (z = 0 → 0 ≤ a1 ∧ a1 ≤ 31) ∧ ((z = 0 ∧ ((0 ≤ a1 ∧ a1 < I 0 2) ∧ I 0 0 = 0)) ∨ (z = 1 ∧ ¬ ((0 ≤ a1 ∧ a1 < I 0 2) ∧ I 0 0 = 0))) ∧ (z = 0 → Iₚ 0 0 = 0)))) htb rfl (Nat.le_of_ble_eq_true rfl) ?_
  have f1 := gz_hi ((gr_b_0_0 hI))
  have f2 := gz_hi ((gr_b_0_2 hI))
  have L17 : ∀ (I3 : gr_I) (J4 : gr_J) , gr_Inv I3 → gr_fr [0] [] I I3 → gr_fj [0] [] J J4 → ((I3 0 0 = 0 → 0 ≤ a1 ∧ a1 ≤ 31) ∧ ((I3 0 0 = 0 ∧ ((0 ≤ a1 ∧ a1 < I 0 2) ∧ I 0 0 = 0)) ∨ (¬ I3 0 0 = 0 ∧ ¬ ((0 ≤ a1 ∧ a1 < I 0 2) ∧ I 0 0 = 0)))) → gv_X (gr_E ws0 tb 0 (yX13_noKind, cX13_noKind, 2, (some .boolean)) kX13_noKind) (gv_Q cX13_noKind (some .boolean) (gr_sh ++ ext) (fun r hₚ => (∃ (Iₚ : gr_I) (Jₚ : gr_J), hₚ = gr_h Iₚ Jₚ ∧ gr_Inv Iₚ ∧ gr_fr [0] [] I Iₚ ∧ gr_fj [0] [] J Jₚ ∧ (∃ z : Int, r = some (.inl z) ∧ 0 ≤ z ∧ z ≤ 1 ∧ (z = 0 → 0 ≤ a1 ∧ a1 ≤ 31) ∧ ((z = 0 ∧ ((0 ≤ a1 ∧ a1 < I 0 2) ∧ I 0 0 = 0)) ∨ (z = 1 ∧ ¬ ((0 ≤ a1 ∧ a1 < I 0 2) ∧ I 0 0 = 0))) ∧ (z = 0 → Iₚ 0 0 = 0))))) (17, [(0, .inr (.inr (some 0)))], [], gr_sh ++ ext, gr_h I3 J4) := by
    intro I3 J4 hI3 FI3 FJ4 m_5
    obtain ⟨e0_5, e1_5⟩ := gz_h2 m_5
    have f6 := gz_hi ((gr_b_0_0 hI3))
    have L29 : ∀ (s0_8 : Int), ((0 ≤ s0_8 ∧ s0_8 ≤ 1) ∧ (s0_8 = 0 → 0 ≤ a1 ∧ a1 ≤ 31) ∧ ((s0_8 = 0 ∧ ((0 ≤ a1 ∧ a1 < I 0 2) ∧ I 0 0 = 0)) ∨ (s0_8 = 1 ∧ ¬ ((0 ≤ a1 ∧ a1 < I 0 2) ∧ I 0 0 = 0))) ∧ (s0_8 = 0 → I3 0 0 = 0)) → gv_X (gr_E ws0 tb 0 (yX13_noKind, cX13_noKind, 2, (some .boolean)) kX13_noKind) (gv_Q cX13_noKind (some .boolean) (gr_sh ++ ext) (fun r hₚ => (∃ (Iₚ : gr_I) (Jₚ : gr_J), hₚ = gr_h Iₚ Jₚ ∧ gr_Inv Iₚ ∧ gr_fr [0] [] I Iₚ ∧ gr_fj [0] [] J Jₚ ∧ (∃ z : Int, r = some (.inl z) ∧ 0 ≤ z ∧ z ≤ 1 ∧ (z = 0 → 0 ≤ a1 ∧ a1 ≤ 31) ∧ ((z = 0 ∧ ((0 ≤ a1 ∧ a1 < I 0 2) ∧ I 0 0 = 0)) ∨ (z = 1 ∧ ¬ ((0 ≤ a1 ∧ a1 < I 0 2) ∧ I 0 0 = 0))) ∧ (z = 0 → Iₚ 0 0 = 0))))) (29, [], [.inl s0_8], gr_sh ++ ext, gr_h I3 J4) := by
      intro s0_8 m_8
      obtain ⟨hs0_8, e0_8, e1_8, e2_8⟩ := gz_h4 m_8
      exact gv_zret hD rfl (by (/-0-/first | (have o1 := gz_sh hs0_8; omega) | (simp only [gz_hd] at *; omega))) ⟨I3, J4, rfl, hI3, FI3, FJ4, ⟨_, rfl, by (/-1-/first | (and_intros; (have o1 := gz_sh hs0_8; omega); (have o1 := gz_sh hs0_8; omega); (have o1 := gz_sh e1_8; have o2 := gz_sh f2; omega); (have o1 := gz_sh e1_8; have o2 := gz_sh e2_8; have o3 := gz_sh f1; have o4 := gz_sh f2; have o5 := gz_sh f6; have o6 := gz_sh hs0_8; omega); (have o1 := gz_sh e2_8; have o2 := gz_sh f6; have o3 := gz_sh hs0_8; omega)) | (simp only [gz_hd] at *; omega))⟩⟩
    refine gv_run 2 true hD (pcₚ := 21) (lvₚ := [(0, .inr (.inr (some 0)))]) (stₚ := [.inl (I3 0 0)]) (hₚ := gr_h I3 J4) (C := ((True ∧ True) ∧ True)) rfl ⟨⟨trivial, trivial⟩, trivial⟩ ?_
    refine gv_if_eq (t := 28) hD rfl rfl ⟨by (/-2-/first | (have o1 := gz_sh f6; omega) | (simp only [gz_hd] at *; omega)), by (/-3-/first | (have o1 := gz_sh f6; omega) | (simp only [gz_hd] at *; omega))⟩ (fun c12 => ?_) (fun c12 => ?_)
    · refine gv_run 1 true hD (pcₚ := 29) (lvₚ := [(0, .inr (.inr (some 0)))]) (stₚ := [.inl 0]) (hₚ := gr_h I3 J4) (C := (True ∧ True)) rfl ⟨trivial, trivial⟩ ?_
      refine gv_pick [] rfl ?_
      exact L29 0 (by (/-4-/first | (and_intros; (omega); (omega); (have o1 := gz_sh e1_5; have o2 := gz_sh f2; omega); (have o1 := gz_sh e1_5; have o2 := gz_sh f1; have o3 := gz_sh f2; omega); (omega)) | (simp only [gz_hd] at *; omega)))
    · refine gv_run 2 true hD (pcₚ := 29) (lvₚ := [(0, .inr (.inr (some 0)))]) (stₚ := [.inl 1]) (hₚ := gr_h I3 J4) (C := ((True ∧ True) ∧ True)) rfl ⟨⟨trivial, trivial⟩, trivial⟩ ?_
      refine gv_pick [] rfl ?_
      exact L29 1 (by (/-5-/first | (and_intros; (omega); (omega); (omega); (have o1 := gz_sh e1_5; have o2 := gz_sh f6; omega); (omega)) | (simp only [gz_hd] at *; omega)))
  have L12 : ((¬ (0 ≤ a1 ∧ a1 < I 0 2))) → gv_X (gr_E ws0 tb 0 (yX13_noKind, cX13_noKind, 2, (some .boolean)) kX13_noKind) (gv_Q cX13_noKind (some .boolean) (gr_sh ++ ext) (fun r hₚ => (∃ (Iₚ : gr_I) (Jₚ : gr_J), hₚ = gr_h Iₚ Jₚ ∧ gr_Inv Iₚ ∧ gr_fr [0] [] I Iₚ ∧ gr_fj [0] [] J Jₚ ∧ (∃ z : Int, r = some (.inl z) ∧ 0 ≤ z ∧ z ≤ 1 ∧ (z = 0 → 0 ≤ a1 ∧ a1 ≤ 31) ∧ ((z = 0 ∧ ((0 ≤ a1 ∧ a1 < I 0 2) ∧ I 0 0 = 0)) ∨ (z = 1 ∧ ¬ ((0 ≤ a1 ∧ a1 < I 0 2) ∧ I 0 0 = 0))) ∧ (z = 0 → Iₚ 0 0 = 0))))) (12, [(0, .inr (.inr (some 0)))], [], gr_sh ++ ext, gr_h I J) := by
    intro m_13
    have e0_13 := m_13
    refine gv_run 3 true hD (pcₚ := 17) (lvₚ := [(0, .inr (.inr (some 0)))]) (stₚ := []) (hₚ := gz_up (gr_h I J) 0 0 (.inl 1)) (C := (((True ∧ True) ∧ True) ∧ True)) rfl ⟨⟨⟨trivial, trivial⟩, trivial⟩, trivial⟩ ?_
    refine gr_st hI FI rfl rfl ⟨⟨by show 0 ≤ _; (/-6-/first | omega | (simp only [gz_hd] at *; omega)), by show _ ≤ 2; (/-7-/first | omega | (simp only [gz_hd] at *; omega))⟩, trivial⟩ (fun I16 hI16 FI16 q17 p17 => ?_)
    have t18 := gz_hi (p17 0 2 (by decide))
    exact L17 I16 J hI16 FI16 FJ (by (/-8-/first | (and_intros <;> omega) | (simp only [gz_hd] at *; omega)))
  refine gv_run 1 true hD (pcₚ := 1) (lvₚ := [(0, .inr (.inr (some 0))), (1, .inl a1)]) (stₚ := [.inl a1]) (hₚ := gr_h I J) (C := (True ∧ True)) rfl ⟨trivial, trivial⟩ ?_
  refine gv_if_lt (t := 12) hD rfl rfl ⟨by (/-9-/first | omega | (simp only [gz_hd] at *; omega)), by (/-10-/first | omega | (simp only [gz_hd] at *; omega))⟩ (fun c21 => ?_) (fun c21 => ?_)
  · refine gv_pick [0] rfl ?_
    exact L12 (by (/-11-/first | omega | (simp only [gz_hd] at *; omega)))
  · have f22 := gz_hi ((gr_b_0_2 hI))
    refine gv_run 3 true hD (pcₚ := 9) (lvₚ := [(0, .inr (.inr (some 0))), (1, .inl a1)]) (stₚ := [.inl (I 0 2), .inl a1]) (hₚ := gr_h I J) (C := (((True ∧ True) ∧ True) ∧ True)) rfl ⟨⟨⟨trivial, trivial⟩, trivial⟩, trivial⟩ ?_
    refine gv_icmp_lt (t := 17) hD rfl rfl ⟨⟨by (/-12-/first | omega | (simp only [gz_hd] at *; omega)), by (/-13-/first | omega | (simp only [gz_hd] at *; omega))⟩, ⟨by (/-14-/first | (have o1 := gz_sh f2; omega) | (simp only [gz_hd] at *; omega)), by (/-15-/first | (have o1 := gz_sh f2; omega) | (simp only [gz_hd] at *; omega))⟩⟩ (fun c23 => ?_) (fun c23 => ?_)
    · refine gv_pick [0] rfl ?_
      exact L17 I J hI FI FJ (by (/-16-/first | (and_intros; (have o1 := gz_sh f2; omega); (have o1 := gz_sh f2; omega)) | (simp only [gz_hd] at *; omega)))
    · refine gv_pick [0] rfl ?_
      exact L12 (by (/-17-/first | omega | (simp only [gz_hd] at *; omega)))
set_option maxHeartbeats 8000000 in
set_option maxRecDepth 100000 in
theorem r_noPlace_t {ws0 : List Cond} {tb : String → gz_T} (hws : ∀ w ∈ gr_ws, w ∈ ws0) (htb : tb RX13 = gr_T) (ext : gz_Sh) (I : gr_I) (J : gr_J) (hI : gr_Inv I) (a1 : Int) (ha1 : (-2147483648) ≤ a1 ∧ a1 ≤ 2147483647)  : ∃ r hₚ, gz_Ev ws0 tb 1 (yX13_noPlace, cX13_noPlace, 2, (some .boolean)) [.inr (.inr (some 0)), .inl a1] (gr_sh ++ ext) (gr_h I J) r (gr_sh ++ ext) hₚ 0 0 ∧ (∃ (Iₚ : gr_I) (Jₚ : gr_J), hₚ = gr_h Iₚ Jₚ ∧ gr_Inv Iₚ ∧ gr_fr [0] [] I Iₚ ∧ gr_fj [0] [] J Jₚ ∧ (∃ z : Int, r = some (.inl z) ∧ 0 ≤ z ∧ z ≤ 1 ∧ (z = 0 → 0 ≤ a1 ∧ a1 ≤ 7) ∧ ((z = 0 ∧ (0 ≤ a1 ∧ a1 ≤ 7)) ∨ (z = 1 ∧ ¬ (0 ≤ a1 ∧ a1 ≤ 7))))) := by
  have FI : gr_fr [0] [] I I := fun _ _ _ => rfl
  have FJ : gr_fj [0] [] J J := fun _ _ _ => rfl
  have hD : gv_D (gr_E ws0 tb 0 (yX13_noPlace, cX13_noPlace, 2, (some .boolean)) kX13_noPlace) := gq_of oX13_noPlace
  refine gr_ev (d := 0) (l := kX13_noPlace) (Po := fun r hₚ => (∃ (Iₚ : gr_I) (Jₚ : gr_J), hₚ = gr_h Iₚ Jₚ ∧ gr_Inv Iₚ ∧ gr_fr [0] [] I Iₚ ∧ gr_fj [0] [] J Jₚ ∧ (∃ z : Int, r = some (.inl z) ∧ 0 ≤ z ∧ z ≤ 1 ∧ (z = 0 → 0 ≤ a1 ∧ a1 ≤ 7) ∧ ((z = 0 ∧ (0 ≤ a1 ∧ a1 ≤ 7)) ∨ (z = 1 ∧ ¬ (0 ≤ a1 ∧ a1 ≤ 7)))))) htb rfl (Nat.le_of_ble_eq_true rfl) ?_
  have L16 : ∀ (s1_1 : Int), ((0 ≤ s1_1 ∧ s1_1 ≤ 1) ∧ (s1_1 = 0 → 0 ≤ a1 ∧ a1 ≤ 7) ∧ ((s1_1 = 0 ∧ (0 ≤ a1 ∧ a1 ≤ 7)) ∨ (s1_1 = 1 ∧ ¬ (0 ≤ a1 ∧ a1 ≤ 7)))) → gv_X (gr_E ws0 tb 0 (yX13_noPlace, cX13_noPlace, 2, (some .boolean)) kX13_noPlace) (gv_Q cX13_noPlace (some .boolean) (gr_sh ++ ext) (fun r hₚ => (∃ (Iₚ : gr_I) (Jₚ : gr_J), hₚ = gr_h Iₚ Jₚ ∧ gr_Inv Iₚ ∧ gr_fr [0] [] I Iₚ ∧ gr_fj [0] [] J Jₚ ∧ (∃ z : Int, r = some (.inl z) ∧ 0 ≤ z ∧ z ≤ 1 ∧ (z = 0 → 0 ≤ a1 ∧ a1 ≤ 7) ∧ ((z = 0 ∧ (0 ≤ a1 ∧ a1 ≤ 7)) ∨ (z = 1 ∧ ¬ (0 ≤ a1 ∧ a1 ≤ 7))))))) (16, [(0, .inr (.inr (some 0)))], [.inl s1_1, .inr (.inr (some 0))], gr_sh ++ ext, gr_h I J) := by
    intro s1_1 m_1
    obtain ⟨hs1_1, e0_1, e1_1⟩ := gz_h3 m_1
    have L31 : ∀ (I2 : gr_I) (J3 : gr_J) (s0_4 : Int), gr_Inv I2 → gr_fr [0] [] I I2 → gr_fj [0] [] J J3 → ((0 ≤ s0_4 ∧ s0_4 ≤ 1) ∧ (s0_4 = 0 → 0 ≤ a1 ∧ a1 ≤ 7) ∧ ((s0_4 = 0 ∧ (0 ≤ a1 ∧ a1 ≤ 7)) ∨ (s0_4 = 1 ∧ ¬ (0 ≤ a1 ∧ a1 ≤ 7)))) → gv_X (gr_E ws0 tb 0 (yX13_noPlace, cX13_noPlace, 2, (some .boolean)) kX13_noPlace) (gv_Q cX13_noPlace (some .boolean) (gr_sh ++ ext) (fun r hₚ => (∃ (Iₚ : gr_I) (Jₚ : gr_J), hₚ = gr_h Iₚ Jₚ ∧ gr_Inv Iₚ ∧ gr_fr [0] [] I Iₚ ∧ gr_fj [0] [] J Jₚ ∧ (∃ z : Int, r = some (.inl z) ∧ 0 ≤ z ∧ z ≤ 1 ∧ (z = 0 → 0 ≤ a1 ∧ a1 ≤ 7) ∧ ((z = 0 ∧ (0 ≤ a1 ∧ a1 ≤ 7)) ∨ (z = 1 ∧ ¬ (0 ≤ a1 ∧ a1 ≤ 7))))))) (31, [], [.inl s0_4], gr_sh ++ ext, gr_h I2 J3) := by
      intro I2 J3 s0_4 hI2 FI2 FJ3 m_4
      clear hs1_1 e0_1 e1_1
      obtain ⟨hs0_4, e0_4, e1_4⟩ := gz_h3 m_4
      exact gv_zret hD rfl (by (/-0-/first | (have o1 := gz_sh hs0_4; omega) | (simp only [gz_hd] at *; omega))) ⟨I2, J3, rfl, hI2, FI2, FJ3, ⟨_, rfl, by (/-1-/first | (and_intros; (have o1 := gz_sh hs0_4; omega); (have o1 := gz_sh hs0_4; omega); (have o1 := gz_sh e1_4; omega); (have o1 := gz_sh e1_4; have o2 := gz_sh hs0_4; omega)) | (simp only [gz_hd] at *; omega))⟩⟩
    refine gv_run 1 true hD (pcₚ := 19) (lvₚ := [(0, .inr (.inr (some 0)))]) (stₚ := []) (hₚ := gz_up (gr_h I J) 0 0 (.inl s1_1)) (C := (True ∧ True)) rfl ⟨trivial, trivial⟩ ?_
    refine gr_st hI FI rfl rfl ⟨⟨by show 0 ≤ _; (/-2-/first | (have o1 := gz_sh hs1_1; omega) | (simp only [gz_hd] at *; omega)), by show _ ≤ 2; (/-3-/first | (have o1 := gz_sh hs1_1; omega) | (simp only [gz_hd] at *; omega))⟩, trivial⟩ (fun I5 hI5 FI5 q6 p6 => ?_)
    refine gv_run 2 true hD (pcₚ := 23) (lvₚ := [(0, .inr (.inr (some 0)))]) (stₚ := [.inl (I5 0 0)]) (hₚ := gr_h I5 J) (C := ((True ∧ True) ∧ True)) rfl ⟨⟨trivial, trivial⟩, trivial⟩ ?_
    refine gv_if_eq (t := 30) hD rfl rfl ⟨by (/-4-/first | (have o1 := gz_sh hs1_1; omega) | (simp only [gz_hd] at *; omega)), by (/-5-/first | (have o1 := gz_sh hs1_1; omega) | (simp only [gz_hd] at *; omega))⟩ (fun c8 => ?_) (fun c8 => ?_)
    · refine gv_run 1 true hD (pcₚ := 31) (lvₚ := [(0, .inr (.inr (some 0)))]) (stₚ := [.inl 0]) (hₚ := gr_h I5 J) (C := (True ∧ True)) rfl ⟨trivial, trivial⟩ ?_
      refine gv_pick [] rfl ?_
      exact L31 I5 J 0 hI5 FI5 FJ (by (/-6-/first | (and_intros; (omega); (omega); (have o1 := gz_sh e1_1; omega); (have o1 := gz_sh e1_1; omega)) | (simp only [gz_hd] at *; omega)))
    · refine gv_run 2 true hD (pcₚ := 31) (lvₚ := [(0, .inr (.inr (some 0)))]) (stₚ := [.inl 1]) (hₚ := gr_h I5 J) (C := ((True ∧ True) ∧ True)) rfl ⟨⟨trivial, trivial⟩, trivial⟩ ?_
      refine gv_pick [] rfl ?_
      exact L31 I5 J 1 hI5 FI5 FJ (by (/-7-/first | (and_intros; (omega); (omega); (omega); (have o1 := gz_sh e1_1; have o2 := gz_sh hs1_1; omega)) | (simp only [gz_hd] at *; omega)))
  have L11 : ((¬ (0 ≤ a1 ∧ a1 ≤ 7))) → gv_X (gr_E ws0 tb 0 (yX13_noPlace, cX13_noPlace, 2, (some .boolean)) kX13_noPlace) (gv_Q cX13_noPlace (some .boolean) (gr_sh ++ ext) (fun r hₚ => (∃ (Iₚ : gr_I) (Jₚ : gr_J), hₚ = gr_h Iₚ Jₚ ∧ gr_Inv Iₚ ∧ gr_fr [0] [] I Iₚ ∧ gr_fj [0] [] J Jₚ ∧ (∃ z : Int, r = some (.inl z) ∧ 0 ≤ z ∧ z ≤ 1 ∧ (z = 0 → 0 ≤ a1 ∧ a1 ≤ 7) ∧ ((z = 0 ∧ (0 ≤ a1 ∧ a1 ≤ 7)) ∨ (z = 1 ∧ ¬ (0 ≤ a1 ∧ a1 ≤ 7))))))) (11, [(0, .inr (.inr (some 0)))], [.inr (.inr (some 0))], gr_sh ++ ext, gr_h I J) := by
    intro m_9
    have e0_9 := m_9
    refine gv_run 2 true hD (pcₚ := 16) (lvₚ := [(0, .inr (.inr (some 0)))]) (stₚ := [.inl 1, .inr (.inr (some 0))]) (hₚ := gr_h I J) (C := ((True ∧ True) ∧ True)) rfl ⟨⟨trivial, trivial⟩, trivial⟩ ?_
    exact L16 1 (by (/-8-/first | (and_intros <;> omega) | (simp only [gz_hd] at *; omega)))
  refine gv_run 2 true hD (pcₚ := 2) (lvₚ := [(0, .inr (.inr (some 0))), (1, .inl a1)]) (stₚ := [.inl a1, .inr (.inr (some 0))]) (hₚ := gr_h I J) (C := ((True ∧ True) ∧ True)) rfl ⟨⟨trivial, trivial⟩, trivial⟩ ?_
  refine gv_if_lt (t := 11) hD rfl rfl ⟨by (/-9-/first | omega | (simp only [gz_hd] at *; omega)), by (/-10-/first | omega | (simp only [gz_hd] at *; omega))⟩ (fun c10 => ?_) (fun c10 => ?_)
  · refine gv_pick [0] rfl ?_
    exact L11 (by (/-11-/first | omega | (simp only [gz_hd] at *; omega)))
  · refine gv_run 2 true hD (pcₚ := 8) (lvₚ := [(0, .inr (.inr (some 0))), (1, .inl a1)]) (stₚ := [.inl 7, .inl a1, .inr (.inr (some 0))]) (hₚ := gr_h I J) (C := ((True ∧ True) ∧ True)) rfl ⟨⟨trivial, trivial⟩, trivial⟩ ?_
    refine gv_icmp_le (t := 15) hD rfl rfl ⟨⟨by (/-12-/first | omega | (simp only [gz_hd] at *; omega)), by (/-13-/first | omega | (simp only [gz_hd] at *; omega))⟩, ⟨by (/-14-/first | omega | (simp only [gz_hd] at *; omega)), by (/-15-/first | omega | (simp only [gz_hd] at *; omega))⟩⟩ (fun c11 => ?_) (fun c11 => ?_)
    · refine gv_run 1 true hD (pcₚ := 16) (lvₚ := [(0, .inr (.inr (some 0))), (1, .inl a1)]) (stₚ := [.inl 0, .inr (.inr (some 0))]) (hₚ := gr_h I J) (C := (True ∧ True)) rfl ⟨trivial, trivial⟩ ?_
      refine gv_pick [0] rfl ?_
      exact L16 0 (by (/-16-/first | (and_intros <;> omega) | (simp only [gz_hd] at *; omega)))
    · refine gv_pick [0] rfl ?_
      exact L11 (by (/-17-/first | omega | (simp only [gz_hd] at *; omega)))
set_option maxHeartbeats 8000000 in
set_option maxRecDepth 100000 in
theorem r_reads_t {ws0 : List Cond} {tb : String → gz_T} (hws : ∀ w ∈ gr_ws, w ∈ ws0) (htb : tb RX13 = gr_T) (ext : gz_Sh) (I : gr_I) (J : gr_J) (hI : gr_Inv I)    : ∃ r hₚ, gz_Ev ws0 tb 1 (yX13_reads, cX13_reads, 2, none) [.inr (.inr (some 0))] (gr_sh ++ ext) (gr_h I J) r (gr_sh ++ ext) hₚ 0 0 ∧ (∃ (Iₚ : gr_I) (Jₚ : gr_J), hₚ = gr_h Iₚ Jₚ ∧ gr_Inv Iₚ ∧ gr_fr [68, 69] [57] I Iₚ ∧ gr_fj [68, 69] [57] J Jₚ ∧ r = none ∧ (Iₚ 0 69 = I 0 68) ∧ (Iₚ 0 68 = 0) ∧ (Iₚ 0 68 = 0)) := by
  have FI : gr_fr [68, 69] [57] I I := fun _ _ _ => rfl
  have FJ : gr_fj [68, 69] [57] J J := fun _ _ _ => rfl
  have hD : gv_D (gr_E ws0 tb 0 (yX13_reads, cX13_reads, 2, none) kX13_reads) := gq_of oX13_reads
  refine gr_ev (d := 0) (l := kX13_reads) (Po := fun r hₚ => (∃ (Iₚ : gr_I) (Jₚ : gr_J), hₚ = gr_h Iₚ Jₚ ∧ gr_Inv Iₚ ∧ gr_fr [68, 69] [57] I Iₚ ∧ gr_fj [68, 69] [57] J Jₚ ∧ r = none ∧ (Iₚ 0 69 = I 0 68) ∧ (Iₚ 0 68 = 0) ∧ (Iₚ 0 68 = 0))) htb rfl (Nat.le_of_ble_eq_true rfl) ?_
  have f1 := gz_hi ((gr_b_0_68 hI))
  have L10 : ∀ (n : Nat) (I3 : gr_I) (J4 : gr_J) (v1_5 : Int), (1001 - v1_5).toNat < n → gr_Inv I3 → gr_fr [68, 69] [57] I I3 → gr_fj [68, 69] [57] J J4 → ((0 ≤ v1_5 ∧ v1_5 ≤ 1000) ∧ (I3 0 69 = I 0 68) ∧ (I3 0 68 = I 0 68)) → gv_X (gr_E ws0 tb 0 (yX13_reads, cX13_reads, 2, none) kX13_reads) (gv_Q cX13_reads none (gr_sh ++ ext) (fun r hₚ => (∃ (Iₚ : gr_I) (Jₚ : gr_J), hₚ = gr_h Iₚ Jₚ ∧ gr_Inv Iₚ ∧ gr_fr [68, 69] [57] I Iₚ ∧ gr_fj [68, 69] [57] J Jₚ ∧ r = none ∧ (Iₚ 0 69 = I 0 68) ∧ (Iₚ 0 68 = 0) ∧ (Iₚ 0 68 = 0)))) (10, [(0, .inr (.inr (some 0))), (1, .inl v1_5)], [], gr_sh ++ ext, gr_h I3 J4) := by
    intro n
    induction n with
    | zero => intro I3 J4 v1_5 hn; (/-0-/first | omega | (simp only [gz_hd] at *; omega))
    | succ n ih10 =>
      intro I3 J4 v1_5 hn hI3 FI3 FJ4 m_5
      obtain ⟨hv1_5, e0_5, e1_5⟩ := gz_h3 m_5
      refine gv_run 3 true hD (pcₚ := 15) (lvₚ := [(0, .inr (.inr (some 0))), (1, .inl v1_5)]) (stₚ := [.inl (I3 0 68), .inl v1_5]) (hₚ := gr_h I3 J4) (C := (((True ∧ True) ∧ True) ∧ True)) rfl ⟨⟨⟨trivial, trivial⟩, trivial⟩, trivial⟩ ?_
      refine gv_icmp_ge (t := 36) hD rfl rfl ⟨⟨by (/-1-/first | (have o1 := gz_sh hv1_5; omega) | (simp only [gz_hd] at *; omega)), by (/-2-/first | (have o1 := gz_sh hv1_5; omega) | (simp only [gz_hd] at *; omega))⟩, ⟨by (/-3-/first | (have o1 := gz_sh e1_5; have o2 := gz_sh f1; omega) | (simp only [gz_hd] at *; omega)), by (/-4-/first | (have o1 := gz_sh e1_5; have o2 := gz_sh f1; omega) | (simp only [gz_hd] at *; omega))⟩⟩ (fun c9 => ?_) (fun c9 => ?_)
      · refine gv_run 3 true hD (pcₚ := 41) (lvₚ := [(0, .inr (.inr (some 0))), (1, .inl v1_5)]) (stₚ := []) (hₚ := gz_up (gr_h I3 J4) 0 68 (.inl 0)) (C := (((True ∧ True) ∧ True) ∧ True)) rfl ⟨⟨⟨trivial, trivial⟩, trivial⟩, trivial⟩ ?_
        refine gr_st hI3 FI3 rfl rfl ⟨⟨by show 0 ≤ _; (/-5-/first | omega | (simp only [gz_hd] at *; omega)), by show _ ≤ 1000; (/-6-/first | omega | (simp only [gz_hd] at *; omega))⟩, trivial⟩ (fun I10 hI10 FI10 q11 p11 => ?_)
        have t12 := gz_hi (p11 0 69 (by decide))
        exact gv_vret hD rfl ⟨I10, J4, rfl, hI10, FI10, FJ4, ⟨rfl, by (/-7-/first | (and_intros; (have o1 := gz_sh e0_5; have o2 := gz_sh t12; omega); (omega); (omega)) | (simp only [gz_hd] at *; omega))⟩⟩
      · have f15 := gz_hi ((gr_b_56 hI3 (Int.toNat v1_5)))
        refine gv_run 7 true hD (pcₚ := 29) (lvₚ := [(0, .inr (.inr (some 0))), (1, .inl v1_5)]) (stₚ := [.inl (I3 56 (Int.toNat v1_5)), .inl v1_5, .inr (.inr (some 57))]) (hₚ := gr_h I3 J4) (C := (((((((True ∧ True) ∧ True) ∧ True) ∧ True) ∧ True) ∧ True) ∧ (0 ≤ v1_5 ∧ v1_5 < ((1000 : Nat) : Int)))) rfl ⟨⟨⟨⟨⟨⟨⟨trivial, trivial⟩, trivial⟩, trivial⟩, trivial⟩, trivial⟩, trivial⟩, ⟨by (/-8-/first | (have o1 := gz_sh hv1_5; omega) | (simp only [gz_hd] at *; omega)), by (/-9-/first | (have o1 := gz_sh e1_5; have o2 := gz_sh f1; omega) | (simp only [gz_hd] at *; omega))⟩⟩ ?_
        have f16 := gz_hi (gw_nar_byte (x := ((I3 56 (Int.toNat v1_5)))))
        refine gv_run 1 true hD (pcₚ := 30) (lvₚ := [(0, .inr (.inr (some 0))), (1, .inl v1_5)]) (stₚ := []) (hₚ := gz_up (gr_h I3 J4) 57 (Int.toNat v1_5) (.inl (((vp_nar .byte (Int32.ofInt ((I3 56 (Int.toNat v1_5))))).toInt)))) (C := (True ∧ (0 ≤ v1_5 ∧ v1_5 < ((1000 : Nat) : Int)))) rfl ⟨trivial, ⟨by (/-10-/first | (have o1 := gz_sh hv1_5; omega) | (simp only [gz_hd] at *; omega)), by (/-11-/first | (have o1 := gz_sh e1_5; have o2 := gz_sh f1; omega) | (simp only [gz_hd] at *; omega))⟩⟩ ?_
        refine gr_st hI3 FI3 rfl rfl ⟨⟨by show (-128) ≤ _; (/-12-/first | (have o1 := gz_sh f16; omega) | (simp only [gz_hd] at *; omega)), by show _ ≤ 127; (/-13-/first | (have o1 := gz_sh f16; omega) | (simp only [gz_hd] at *; omega))⟩, trivial⟩ (fun I17 hI17 FI17 q18 p18 => ?_)
        have t19 := gz_hi (p18 0 68 (fun q => absurd q.1 (by first | exact gz_ne rfl | decide)))
        have t20 := gz_hi (p18 0 69 (fun q => absurd q.1 (by first | exact gz_ne rfl | decide)))
        refine gv_run 2 true hD (pcₚ := 10) (lvₚ := [(1, .inl (v1_5 + 1)), (0, .inr (.inr (some 0)))]) (stₚ := []) (hₚ := gr_h I17 J4) (C := ((True ∧ True) ∧ True)) rfl ⟨⟨trivial, trivial⟩, trivial⟩ ?_
        refine gv_pick [1, 0] rfl ?_
        exact ih10 I17 J4 (v1_5 + 1) (by (/-14-/first | (have o1 := gz_sh e0_5; have o2 := gz_sh e1_5; have o3 := gz_sh f1; have o4 := gz_sh hv1_5; have o5 := gz_sh t19; have o6 := gz_sh t20; omega) | (simp only [gz_hd] at *; omega))) hI17 FI17 FJ4 (by (/-15-/first | (and_intros; (have o1 := gz_sh hv1_5; omega); (have o1 := gz_sh e1_5; have o2 := gz_sh f1; omega); (have o1 := gz_sh e0_5; have o2 := gz_sh t20; omega); (have o1 := gz_sh e1_5; have o2 := gz_sh t19; omega)) | (simp only [gz_hd] at *; omega)))
  refine gv_run 3 true hD (pcₚ := 5) (lvₚ := [(0, .inr (.inr (some 0)))]) (stₚ := [.inl (I 0 68), .inr (.inr (some 0))]) (hₚ := gr_h I J) (C := (((True ∧ True) ∧ True) ∧ True)) rfl ⟨⟨⟨trivial, trivial⟩, trivial⟩, trivial⟩ ?_
  refine gv_run 1 true hD (pcₚ := 8) (lvₚ := [(0, .inr (.inr (some 0)))]) (stₚ := []) (hₚ := gz_up (gr_h I J) 0 69 (.inl (I 0 68))) (C := (True ∧ True)) rfl ⟨trivial, trivial⟩ ?_
  refine gr_st hI FI rfl rfl ⟨⟨by show 0 ≤ _; (/-16-/first | (have o1 := gz_sh f1; omega) | (simp only [gz_hd] at *; omega)), by show _ ≤ 1000; (/-17-/first | (have o1 := gz_sh f1; omega) | (simp only [gz_hd] at *; omega))⟩, trivial⟩ (fun I24 hI24 FI24 q25 p25 => ?_)
  have t26 := gz_hi (p25 0 68 (by decide))
  refine gv_run 2 true hD (pcₚ := 10) (lvₚ := [(1, .inl 0), (0, .inr (.inr (some 0)))]) (stₚ := []) (hₚ := gr_h I24 J) (C := ((True ∧ True) ∧ True)) rfl ⟨⟨trivial, trivial⟩, trivial⟩ ?_
  refine gv_pick [1, 0] rfl ?_
  exact L10 _ I24 J 0 (Nat.lt_succ_self _) hI24 FI24 FJ (by (/-18-/first | (and_intros; (omega); (omega); (omega); (have o1 := gz_sh t26; omega)) | (simp only [gz_hd] at *; omega)))
set_option maxHeartbeats 8000000 in
set_option maxRecDepth 100000 in
theorem r_oneWord_t {ws0 : List Cond} {tb : String → gz_T} (hws : ∀ w ∈ gr_ws, w ∈ ws0) (htb : tb RX13 = gr_T) (ext : gz_Sh) (I : gr_I) (J : gr_J) (hI : gr_Inv I)    : ∃ r hₚ, gz_Ev ws0 tb 2 (yX13_oneWord, cX13_oneWord, 2, (some .boolean)) [.inr (.inr (some 0))] (gr_sh ++ ext) (gr_h I J) r (gr_sh ++ ext) hₚ 0 0 ∧ (∃ (Iₚ : gr_I) (Jₚ : gr_J), hₚ = gr_h Iₚ Jₚ ∧ gr_Inv Iₚ ∧ gr_fr [68, 69, 126] [57, 76] I Iₚ ∧ gr_fj [68, 69, 126] [57, 76] J Jₚ ∧ (∃ z : Int, r = some (.inl z) ∧ 0 ≤ z ∧ z ≤ 1 ∧ (Iₚ 0 68 = 0))) := by
  have FI : gr_fr [68, 69, 126] [57, 76] I I := fun _ _ _ => rfl
  have FJ : gr_fj [68, 69, 126] [57, 76] J J := fun _ _ _ => rfl
  have hD : gv_D (gr_E ws0 tb 1 (yX13_oneWord, cX13_oneWord, 2, (some .boolean)) kX13_oneWord) := gq_of oX13_oneWord
  refine gr_ev (d := 1) (l := kX13_oneWord) (Po := fun r hₚ => (∃ (Iₚ : gr_I) (Jₚ : gr_J), hₚ = gr_h Iₚ Jₚ ∧ gr_Inv Iₚ ∧ gr_fr [68, 69, 126] [57, 76] I Iₚ ∧ gr_fj [68, 69, 126] [57, 76] J Jₚ ∧ (∃ z : Int, r = some (.inl z) ∧ 0 ≤ z ∧ z ≤ 1 ∧ (Iₚ 0 68 = 0)))) htb rfl (Nat.le_of_ble_eq_true rfl) ?_
  have f1 := (gr_b_0_69 hI)
  have f2 := (gr_b_0_68 hI)
  have L26 : ∀ (I3 : gr_I) (J4 : gr_J) , gr_Inv I3 → gr_fr [68, 69, 126] [57, 76] I I3 → gr_fj [68, 69, 126] [57, 76] J J4 → ((I3 0 68 = 0)) → gv_X (gr_E ws0 tb 1 (yX13_oneWord, cX13_oneWord, 2, (some .boolean)) kX13_oneWord) (gv_Q cX13_oneWord (some .boolean) (gr_sh ++ ext) (fun r hₚ => (∃ (Iₚ : gr_I) (Jₚ : gr_J), hₚ = gr_h Iₚ Jₚ ∧ gr_Inv Iₚ ∧ gr_fr [68, 69, 126] [57, 76] I Iₚ ∧ gr_fj [68, 69, 126] [57, 76] J Jₚ ∧ (∃ z : Int, r = some (.inl z) ∧ 0 ≤ z ∧ z ≤ 1 ∧ (Iₚ 0 68 = 0))))) (26, [], [], gr_sh ++ ext, gr_h I3 J4) := by
    intro I3 J4 hI3 FI3 FJ4 m_5
    have e0_5 := m_5
    have f6 := (gr_b_0_69 hI3)
    have f7 := (gr_b_0_68 hI3)
    refine gv_run 1 true hD (pcₚ := 27) (lvₚ := []) (stₚ := [.inl 0]) (hₚ := gr_h I3 J4) (C := (True ∧ True)) rfl ⟨trivial, trivial⟩ ?_
    exact gv_zret hD rfl (by exact gz_m 0 (by omega)) ⟨I3, J4, rfl, hI3, FI3, FJ4, ⟨_, rfl, by exact gz_m 1 (by omega)⟩⟩
  have L30 : ∀ (n : Nat) (I8 : gr_I) (J9 : gr_J) (v1_10 : Int), (25 - v1_10).toNat < n → gr_Inv I8 → gr_fr [68, 69, 126] [57, 76] I I8 → gr_fj [68, 69, 126] [57, 76] J J9 → ((0 ≤ v1_10 ∧ v1_10 ≤ 24) ∧ (I8 0 69 ≤ 24) ∧ (I8 0 68 = 0)) → gv_X (gr_E ws0 tb 1 (yX13_oneWord, cX13_oneWord, 2, (some .boolean)) kX13_oneWord) (gv_Q cX13_oneWord (some .boolean) (gr_sh ++ ext) (fun r hₚ => (∃ (Iₚ : gr_I) (Jₚ : gr_J), hₚ = gr_h Iₚ Jₚ ∧ gr_Inv Iₚ ∧ gr_fr [68, 69, 126] [57, 76] I Iₚ ∧ gr_fj [68, 69, 126] [57, 76] J Jₚ ∧ (∃ z : Int, r = some (.inl z) ∧ 0 ≤ z ∧ z ≤ 1 ∧ (Iₚ 0 68 = 0))))) (30, [(0, .inr (.inr (some 0))), (1, .inl v1_10)], [], gr_sh ++ ext, gr_h I8 J9) := by
    intro n
    induction n with
    | zero => intro I8 J9 v1_10 hn; exact gz_m 2 (by omega)
    | succ n ih30 =>
      intro I8 J9 v1_10 hn hI8 FI8 FJ9 m_10
      obtain ⟨hv1_10, e0_10, e1_10⟩ := m_10
      have f11 := (gr_b_0_69 hI8)
      have f12 := (gr_b_0_68 hI8)
      have f13 := (gr_b_0_69 hI8)
      refine gv_run 3 true hD (pcₚ := 35) (lvₚ := [(0, .inr (.inr (some 0))), (1, .inl v1_10)]) (stₚ := [.inl (I8 0 69), .inl v1_10]) (hₚ := gr_h I8 J9) (C := (((True ∧ True) ∧ True) ∧ True)) rfl ⟨⟨⟨trivial, trivial⟩, trivial⟩, trivial⟩ ?_
      refine gv_icmp_ge (t := 66) hD rfl rfl ⟨⟨by exact gz_m 3 (by omega), by exact gz_m 4 (by omega)⟩, ⟨by exact gz_m 5 (by omega), by exact gz_m 6 (by omega)⟩⟩ (fun c14 => ?_) (fun c14 => ?_)
      · have f15 := (gr_b_0_69 hI8)
        refine gv_run 3 true hD (pcₚ := 71) (lvₚ := [(0, .inr (.inr (some 0))), (1, .inl v1_10)]) (stₚ := [.inl (I8 0 69), .inr (.inr (some 0))]) (hₚ := gr_h I8 J9) (C := (((True ∧ True) ∧ True) ∧ True)) rfl ⟨⟨⟨trivial, trivial⟩, trivial⟩, trivial⟩ ?_
        refine gv_run 1 true hD (pcₚ := 74) (lvₚ := [(0, .inr (.inr (some 0))), (1, .inl v1_10)]) (stₚ := []) (hₚ := gz_up (gr_h I8 J9) 0 126 (.inl (I8 0 69))) (C := (True ∧ True)) rfl ⟨trivial, trivial⟩ ?_
        refine gr_st hI8 FI8 rfl rfl ⟨⟨by show 0 ≤ _; exact gz_m 7 (by omega), by show _ ≤ 24; exact gz_m 8 (by omega)⟩, trivial⟩ (fun I16 hI16 FI16 q17 p17 => ?_)
        have t18 := p17 0 69 (by decide)
        have t19 := p17 0 68 (by decide)
        have f20 := (gr_b_0_69 hI16)
        have f21 := (gr_b_0_68 hI16)
        refine gv_run 1 true hD (pcₚ := 75) (lvₚ := [(0, .inr (.inr (some 0))), (1, .inl v1_10)]) (stₚ := [.inl 1]) (hₚ := gr_h I16 J9) (C := (True ∧ True)) rfl ⟨trivial, trivial⟩ ?_
        exact gv_zret hD rfl (by exact gz_m 9 (by omega)) ⟨I16, J9, rfl, hI16, FI16, FJ9, ⟨_, rfl, by exact gz_m 10 (by omega)⟩⟩
      · refine gv_run 2 true hD (pcₚ := 40) (lvₚ := [(0, .inr (.inr (some 0))), (1, .inl v1_10)]) (stₚ := [.inl v1_10, .inr (.inr (some 0))]) (hₚ := gr_h I8 J9) (C := ((True ∧ True) ∧ True)) rfl ⟨⟨trivial, trivial⟩, trivial⟩ ?_
        obtain ⟨r22, h22, E22, P22⟩ := r_low (ws0 := ws0) (tb := tb) hws htb ext I8 J9 hI8 v1_10 ⟨by exact gz_m 11 (by omega), by exact gz_m 12 (by omega)⟩ 
        obtain ⟨rfl, ⟨z22, rfl, q22⟩⟩ := P22
        refine gv_callV hD rfl (As := [.inl v1_10]) (st := []) rfl (by decide) rfl rfl (gr_lV hws rfl) (Nat.le_of_ble_eq_true rfl) (gz_Ev_mono (d := 1) (by decide) E22) ?_
        show gv_X _ _ (43, [(0, .inr (.inr (some 0))), (1, .inl v1_10)], [.inl z22], gr_sh ++ ext, gr_h I8 J9)
        refine gv_if_ne (t := 48) hD rfl rfl ⟨by exact gz_m 13 (by omega), by exact gz_m 14 (by omega)⟩ (fun c23 => ?_) (fun c23 => ?_)
        · have f24 := (gr_b_57 hI8 (Int.toNat v1_10))
          refine gv_run 7 true hD (pcₚ := 59) (lvₚ := [(0, .inr (.inr (some 0))), (1, .inl v1_10)]) (stₚ := [.inl (I8 57 (Int.toNat v1_10)), .inl v1_10, .inr (.inr (some 76))]) (hₚ := gr_h I8 J9) (C := (((((((True ∧ True) ∧ True) ∧ True) ∧ True) ∧ True) ∧ True) ∧ (0 ≤ v1_10 ∧ v1_10 < ((1000 : Nat) : Int)))) rfl ⟨⟨⟨⟨⟨⟨⟨trivial, trivial⟩, trivial⟩, trivial⟩, trivial⟩, trivial⟩, trivial⟩, ⟨by exact gz_m 15 (by omega), by exact gz_m 16 (by omega)⟩⟩ ?_
          have f25 := gw_nar_byte (x := ((I8 57 (Int.toNat v1_10))))
          refine gv_run 1 true hD (pcₚ := 60) (lvₚ := [(0, .inr (.inr (some 0))), (1, .inl v1_10)]) (stₚ := []) (hₚ := gz_up (gr_h I8 J9) 76 (Int.toNat v1_10) (.inl (((vp_nar .byte (Int32.ofInt ((I8 57 (Int.toNat v1_10))))).toInt)))) (C := (True ∧ (0 ≤ v1_10 ∧ v1_10 < ((64 : Nat) : Int)))) rfl ⟨trivial, ⟨by exact gz_m 17 (by omega), by exact gz_m 18 (by omega)⟩⟩ ?_
          refine gr_st hI8 FI8 rfl rfl ⟨⟨by show (-128) ≤ _; exact gz_m 19 (by omega), by show _ ≤ 127; exact gz_m 20 (by omega)⟩, trivial⟩ (fun I26 hI26 FI26 q27 p27 => ?_)
          have t28 := p27 0 69 (fun q => absurd q.1 (by first | exact gz_ne rfl | decide))
          have t29 := p27 0 68 (fun q => absurd q.1 (by first | exact gz_ne rfl | decide))
          have f30 := (gr_b_0_69 hI26)
          have f31 := (gr_b_0_68 hI26)
          refine gv_run 2 true hD (pcₚ := 30) (lvₚ := [(1, .inl (v1_10 + 1)), (0, .inr (.inr (some 0)))]) (stₚ := []) (hₚ := gr_h I26 J9) (C := ((True ∧ True) ∧ True)) rfl ⟨⟨trivial, trivial⟩, trivial⟩ ?_
          refine gv_pick [1, 0] rfl ?_
          exact ih30 I26 J9 (v1_10 + 1) (by exact gz_m 21 (by omega)) hI26 FI26 FJ9 (by exact gz_m 22 (by omega))
        · refine gv_run 1 true hD (pcₚ := 47) (lvₚ := [(0, .inr (.inr (some 0))), (1, .inl v1_10)]) (stₚ := [.inl 0]) (hₚ := gr_h I8 J9) (C := (True ∧ True)) rfl ⟨trivial, trivial⟩ ?_
          exact gv_zret hD rfl (by exact gz_m 23 (by omega)) ⟨I8, J9, rfl, hI8, FI8, FJ9, ⟨_, rfl, by exact gz_m 24 (by omega)⟩⟩
  refine gv_run 1 true hD (pcₚ := 1) (lvₚ := [(0, .inr (.inr (some 0)))]) (stₚ := [.inr (.inr (some 0))]) (hₚ := gr_h I J) (C := (True ∧ True)) rfl ⟨trivial, trivial⟩ ?_
  obtain ⟨r32, h32, E32, P32⟩ := r_reads_t (ws0 := ws0) (tb := tb) hws htb ext I J hI   
  obtain ⟨I33, J34, rfl, hI33, g32, k32, ⟨rfl, q32⟩⟩ := P32
  have FI33 := gr_frt FI g32 rfl rfl
  have FJ34 := gr_fjt FJ k32 rfl rfl
  have f35 := (gr_b_0_69 hI33)
  have f36 := (gr_b_0_68 hI33)
  refine gv_callV hD rfl (As := []) (st := []) rfl (by decide) rfl rfl (gr_lV hws rfl) (Nat.le_of_ble_eq_true rfl) (gz_Ev_mono (d := 1) (by decide) E32) ?_
  show gv_X _ _ (4, [(0, .inr (.inr (some 0)))], [], gr_sh ++ ext, gr_h I33 J34)
  refine gv_run 3 true hD (pcₚ := 9) (lvₚ := [(0, .inr (.inr (some 0)))]) (stₚ := []) (hₚ := gz_up (gr_h I33 J34) 0 126 (.inl 0)) (C := (((True ∧ True) ∧ True) ∧ True)) rfl ⟨⟨⟨trivial, trivial⟩, trivial⟩, trivial⟩ ?_
  refine gr_st hI33 FI33 rfl rfl ⟨⟨by show 0 ≤ _; exact gz_m 25 (by omega), by show _ ≤ 24; exact gz_m 26 (by omega)⟩, trivial⟩ (fun I37 hI37 FI37 q38 p38 => ?_)
  have t39 := p38 0 69 (by decide)
  have t40 := p38 0 68 (by decide)
  have f41 := (gr_b_0_69 hI37)
  have f42 := (gr_b_0_68 hI37)
  have f43 := (gr_b_0_69 hI37)
  refine gv_run 3 true hD (pcₚ := 14) (lvₚ := [(0, .inr (.inr (some 0)))]) (stₚ := [.inl 1, .inl (I37 0 69)]) (hₚ := gr_h I37 J34) (C := (((True ∧ True) ∧ True) ∧ True)) rfl ⟨⟨⟨trivial, trivial⟩, trivial⟩, trivial⟩ ?_
  refine gv_icmp_lt (t := 26) hD rfl rfl ⟨⟨by exact gz_m 27 (by omega), by exact gz_m 28 (by omega)⟩, ⟨by exact gz_m 29 (by omega), by exact gz_m 30 (by omega)⟩⟩ (fun c44 => ?_) (fun c44 => ?_)
  · refine gv_pick [] rfl ?_
    exact L26 I37 J34 hI37 FI37 FJ34 (by exact gz_m 31 (by omega))
  · have f45 := (gr_b_0_69 hI37)
    refine gv_run 3 true hD (pcₚ := 23) (lvₚ := [(0, .inr (.inr (some 0)))]) (stₚ := [.inl 24, .inl (I37 0 69)]) (hₚ := gr_h I37 J34) (C := (((True ∧ True) ∧ True) ∧ True)) rfl ⟨⟨⟨trivial, trivial⟩, trivial⟩, trivial⟩ ?_
    refine gv_icmp_le (t := 28) hD rfl rfl ⟨⟨by exact gz_m 32 (by omega), by exact gz_m 33 (by omega)⟩, ⟨by exact gz_m 34 (by omega), by exact gz_m 35 (by omega)⟩⟩ (fun c46 => ?_) (fun c46 => ?_)
    · refine gv_run 2 true hD (pcₚ := 30) (lvₚ := [(1, .inl 0), (0, .inr (.inr (some 0)))]) (stₚ := []) (hₚ := gr_h I37 J34) (C := ((True ∧ True) ∧ True)) rfl ⟨⟨trivial, trivial⟩, trivial⟩ ?_
      refine gv_pick [1, 0] rfl ?_
      exact L30 _ I37 J34 0 (Nat.lt_succ_self _) hI37 FI37 FJ34 (by exact gz_m 36 (by omega))
    · refine gv_pick [] rfl ?_
      exact L26 I37 J34 hI37 FI37 FJ34 (by exact gz_m 37 (by omega))
set_option maxHeartbeats 8000000 in
set_option maxRecDepth 100000 in
theorem r_sentence_t {ws0 : List Cond} {tb : String → gz_T} (hws : ∀ w ∈ gr_ws, w ∈ ws0) (htb : tb RX13 = gr_T) (ext : gz_Sh) (I : gr_I) (J : gr_J) (hI : gr_Inv I)    : ∃ r hₚ, gz_Ev ws0 tb 2 (yX13_sentence, cX13_sentence, 3, (some .boolean)) [.inr (.inr (some 0))] (gr_sh ++ ext) (gr_h I J) r (gr_sh ++ ext) hₚ 0 0 ∧ (∃ (Iₚ : gr_I) (Jₚ : gr_J), hₚ = gr_h Iₚ Jₚ ∧ gr_Inv Iₚ ∧ gr_fr [68, 69, 143] [57, 83, 85] I Iₚ ∧ gr_fj [68, 69, 143] [57, 83, 85] J Jₚ ∧ (∃ z : Int, r = some (.inl z) ∧ 0 ≤ z ∧ z ≤ 1 ∧ (Iₚ 0 68 = 0))) := by
  have FI : gr_fr [68, 69, 143] [57, 83, 85] I I := fun _ _ _ => rfl
  have FJ : gr_fj [68, 69, 143] [57, 83, 85] J J := fun _ _ _ => rfl
  have hD : gv_D (gr_E ws0 tb 1 (yX13_sentence, cX13_sentence, 3, (some .boolean)) kX13_sentence) := gq_of oX13_sentence
  refine gr_ev (d := 1) (l := kX13_sentence) (Po := fun r hₚ => (∃ (Iₚ : gr_I) (Jₚ : gr_J), hₚ = gr_h Iₚ Jₚ ∧ gr_Inv Iₚ ∧ gr_fr [68, 69, 143] [57, 83, 85] I Iₚ ∧ gr_fj [68, 69, 143] [57, 83, 85] J Jₚ ∧ (∃ z : Int, r = some (.inl z) ∧ 0 ≤ z ∧ z ≤ 1 ∧ (Iₚ 0 68 = 0)))) htb rfl (Nat.le_of_ble_eq_true rfl) ?_
  have L11 : ∀ (n : Nat) (I4 : gr_I) (J5 : gr_J) (v1_6 : Int), (1001 - v1_6).toNat < n → gr_Inv I4 → gr_fr [68, 69, 143] [57, 83, 85] I I4 → gr_fj [68, 69, 143] [57, 83, 85] J J5 → ((0 ≤ v1_6 ∧ v1_6 ≤ 1000) ∧ (I4 0 68 = 0)) → gv_X (gr_E ws0 tb 1 (yX13_sentence, cX13_sentence, 3, (some .boolean)) kX13_sentence) (gv_Q cX13_sentence (some .boolean) (gr_sh ++ ext) (fun r hₚ => (∃ (Iₚ : gr_I) (Jₚ : gr_J), hₚ = gr_h Iₚ Jₚ ∧ gr_Inv Iₚ ∧ gr_fr [68, 69, 143] [57, 83, 85] I Iₚ ∧ gr_fj [68, 69, 143] [57, 83, 85] J Jₚ ∧ (∃ z : Int, r = some (.inl z) ∧ 0 ≤ z ∧ z ≤ 1 ∧ (Iₚ 0 68 = 0))))) (11, [(0, .inr (.inr (some 0))), (1, .inl v1_6)], [], gr_sh ++ ext, gr_h I4 J5) := by
    intro n
    induction n with
    | zero => intro I4 J5 v1_6 hn; (/-0-/first | omega | (simp only [gz_hd] at *; omega))
    | succ n ih11 =>
      intro I4 J5 v1_6 hn hI4 FI4 FJ5 m_6
      obtain ⟨hv1_6, e0_6⟩ := gz_h2 m_6
      have f7 := gz_hi ((gr_b_0_143 hI4))
      have f8 := gz_hi ((gr_b_0_69 hI4))
      have L36 : ((0 ≤ v1_6 ∧ v1_6 ≤ 1000) ∧ (v1_6 ≤ v1_6) ∧ (I4 0 68 = 0)) → gv_X (gr_E ws0 tb 1 (yX13_sentence, cX13_sentence, 3, (some .boolean)) kX13_sentence) (gv_Q cX13_sentence (some .boolean) (gr_sh ++ ext) (fun r hₚ => (∃ (Iₚ : gr_I) (Jₚ : gr_J), hₚ = gr_h Iₚ Jₚ ∧ gr_Inv Iₚ ∧ gr_fr [68, 69, 143] [57, 83, 85] I Iₚ ∧ gr_fj [68, 69, 143] [57, 83, 85] J Jₚ ∧ (∃ z : Int, r = some (.inl z) ∧ 0 ≤ z ∧ z ≤ 1 ∧ (Iₚ 0 68 = 0))))) (36, [(0, .inr (.inr (some 0))), (1, .inl v1_6)], [], gr_sh ++ ext, gr_h I4 J5) := by
        intro m_10
        obtain ⟨hv1_6_10, e0_10, e1_10⟩ := gz_h3 m_10
        have L56 : ∀ (s0_14 : Int), ((0 ≤ s0_14 ∧ s0_14 ≤ 1) ∧ (I4 0 68 = 0)) → gv_X (gr_E ws0 tb 1 (yX13_sentence, cX13_sentence, 3, (some .boolean)) kX13_sentence) (gv_Q cX13_sentence (some .boolean) (gr_sh ++ ext) (fun r hₚ => (∃ (Iₚ : gr_I) (Jₚ : gr_J), hₚ = gr_h Iₚ Jₚ ∧ gr_Inv Iₚ ∧ gr_fr [68, 69, 143] [57, 83, 85] I Iₚ ∧ gr_fj [68, 69, 143] [57, 83, 85] J Jₚ ∧ (∃ z : Int, r = some (.inl z) ∧ 0 ≤ z ∧ z ≤ 1 ∧ (Iₚ 0 68 = 0))))) (56, [], [.inl s0_14], gr_sh ++ ext, gr_h I4 J5) := by
          intro s0_14 m_14
          obtain ⟨hs0_14, e0_14⟩ := gz_h2 m_14
          exact gv_zret hD rfl (by (/-1-/first | (have o1 := gz_sh hs0_14; omega) | (simp only [gz_hd] at *; omega))) ⟨I4, J5, rfl, hI4, FI4, FJ5, ⟨_, rfl, by (/-2-/first | (and_intros; (have o1 := gz_sh hs0_14; omega); (have o1 := gz_sh hs0_14; omega); (have o1 := gz_sh e0_6; omega)) | (simp only [gz_hd] at *; omega))⟩⟩
        have L70 : ∀ (n : Nat) (I18 : gr_I) (J19 : gr_J) (v1_20 : Int) (v2_20 : Int), (1001 - v1_20).toNat < n → gr_Inv I18 → gr_fr [68, 69, 143] [57, 83, 85] I I18 → gr_fj [68, 69, 143] [57, 83, 85] J J19 → ((0 ≤ v1_20 ∧ v1_20 ≤ 1000) ∧ (0 ≤ v2_20 ∧ v2_20 ≤ 24) ∧ (I18 0 143 ≤ 23) ∧ (v1_6 + v2_20 ≤ v1_20) ∧ (I18 0 68 = 0)) → gv_X (gr_E ws0 tb 1 (yX13_sentence, cX13_sentence, 3, (some .boolean)) kX13_sentence) (gv_Q cX13_sentence (some .boolean) (gr_sh ++ ext) (fun r hₚ => (∃ (Iₚ : gr_I) (Jₚ : gr_J), hₚ = gr_h Iₚ Jₚ ∧ gr_Inv Iₚ ∧ gr_fr [68, 69, 143] [57, 83, 85] I Iₚ ∧ gr_fj [68, 69, 143] [57, 83, 85] J Jₚ ∧ (∃ z : Int, r = some (.inl z) ∧ 0 ≤ z ∧ z ≤ 1 ∧ (Iₚ 0 68 = 0))))) (70, [(0, .inr (.inr (some 0))), (1, .inl v1_20), (2, .inl v2_20)], [], gr_sh ++ ext, gr_h I18 J19) := by
          intro n
          induction n with
          | zero => intro I18 J19 v1_20 v2_20 hn; (/-3-/first | omega | (simp only [gz_hd] at *; omega))
          | succ n ih70 =>
            intro I18 J19 v1_20 v2_20 hn hI18 FI18 FJ19 m_20
            clear hv1_6_10 e0_10 e1_10 hv1_6 e0_6 f7 f8
            obtain ⟨hv1_20, hv2_20, e0_20, e1_20, e2_20⟩ := gz_h5 m_20
            have f21 := gz_hi ((gr_b_0_143 hI18))
            have f22 := gz_hi ((gr_b_0_69 hI18))
            have L138 : ((I18 0 68 = 0)) → gv_X (gr_E ws0 tb 1 (yX13_sentence, cX13_sentence, 3, (some .boolean)) kX13_sentence) (gv_Q cX13_sentence (some .boolean) (gr_sh ++ ext) (fun r hₚ => (∃ (Iₚ : gr_I) (Jₚ : gr_J), hₚ = gr_h Iₚ Jₚ ∧ gr_Inv Iₚ ∧ gr_fr [68, 69, 143] [57, 83, 85] I Iₚ ∧ gr_fj [68, 69, 143] [57, 83, 85] J Jₚ ∧ (∃ z : Int, r = some (.inl z) ∧ 0 ≤ z ∧ z ≤ 1 ∧ (Iₚ 0 68 = 0))))) (138, [], [], gr_sh ++ ext, gr_h I18 J19) := by
              intro m_24
              have e0_24 := m_24
              refine gv_run 1 true hD (pcₚ := 139) (lvₚ := []) (stₚ := [.inl 0]) (hₚ := gr_h I18 J19) (C := (True ∧ True)) rfl ⟨trivial, trivial⟩ ?_
              exact gv_zret hD rfl (by (/-4-/first | omega | (simp only [gz_hd] at *; omega))) ⟨I18, J19, rfl, hI18, FI18, FJ19, ⟨_, rfl, by (/-5-/first | (and_intros; (omega); (omega); (have o1 := gz_sh e2_20; omega)) | (simp only [gz_hd] at *; omega))⟩⟩
            have L140 : ((0 ≤ v1_20 ∧ v1_20 ≤ 1000) ∧ (1 ≤ v2_20 ∧ v2_20 ≤ 24) ∧ (I18 0 143 ≤ 23) ∧ (v1_6 + v2_20 ≤ v1_20) ∧ (I18 0 68 = 0)) → gv_X (gr_E ws0 tb 1 (yX13_sentence, cX13_sentence, 3, (some .boolean)) kX13_sentence) (gv_Q cX13_sentence (some .boolean) (gr_sh ++ ext) (fun r hₚ => (∃ (Iₚ : gr_I) (Jₚ : gr_J), hₚ = gr_h Iₚ Jₚ ∧ gr_Inv Iₚ ∧ gr_fr [68, 69, 143] [57, 83, 85] I Iₚ ∧ gr_fj [68, 69, 143] [57, 83, 85] J Jₚ ∧ (∃ z : Int, r = some (.inl z) ∧ 0 ≤ z ∧ z ≤ 1 ∧ (Iₚ 0 68 = 0))))) (140, [(0, .inr (.inr (some 0))), (1, .inl v1_20), (2, .inl v2_20)], [], gr_sh ++ ext, gr_h I18 J19) := by
              intro m_28
              obtain ⟨hv1_20_28, hv2_20_28, e0_28, e1_28, e2_28⟩ := gz_h5 m_28
              refine gv_run 7 true hD (pcₚ := 151) (lvₚ := [(0, .inr (.inr (some 0))), (1, .inl v1_20), (2, .inl v2_20)]) (stₚ := [.inl 1, .inl (I18 0 143), .inr (.inr (some 0)), .inl (I18 0 143), .inr (.inr (some 85))]) (hₚ := gr_h I18 J19) (C := (((((((True ∧ True) ∧ True) ∧ True) ∧ True) ∧ True) ∧ True) ∧ True)) rfl ⟨⟨⟨⟨⟨⟨⟨trivial, trivial⟩, trivial⟩, trivial⟩, trivial⟩, trivial⟩, trivial⟩, trivial⟩ ?_
              refine gv_run 2 true hD (pcₚ := 155) (lvₚ := [(0, .inr (.inr (some 0))), (1, .inl v1_20), (2, .inl v2_20)]) (stₚ := [.inl (I18 0 143), .inr (.inr (some 85))]) (hₚ := gz_up (gr_h I18 J19) 0 143 (.inl (((I18 0 143) + 1)))) (C := ((True ∧ True) ∧ True)) rfl ⟨⟨trivial, trivial⟩, trivial⟩ ?_
              refine gr_st hI18 FI18 rfl rfl ⟨⟨by show 0 ≤ _; (/-6-/first | (have o1 := gz_sh f21; omega) | (simp only [gz_hd] at *; omega)), by show _ ≤ 24; (/-7-/first | (have o1 := gz_sh e0_20; omega) | (simp only [gz_hd] at *; omega))⟩, trivial⟩ (fun I33 hI33 FI33 q34 p34 => ?_)
              have t36 := gz_hi (p34 0 68 (by decide))
              refine gv_run 2 true hD (pcₚ := 157) (lvₚ := [(0, .inr (.inr (some 0))), (1, .inl v1_20), (2, .inl v2_20)]) (stₚ := []) (hₚ := gz_up (gr_h I33 J19) 85 (Int.toNat ((I18 0 143))) (.inl v2_20)) (C := ((True ∧ True) ∧ (0 ≤ (I18 0 143) ∧ (I18 0 143) < ((24 : Nat) : Int)))) rfl ⟨⟨trivial, trivial⟩, ⟨by (/-8-/first | (have o1 := gz_sh f21; omega) | (simp only [gz_hd] at *; omega)), by (/-9-/first | (have o1 := gz_sh e0_20; omega) | (simp only [gz_hd] at *; omega))⟩⟩ ?_
              refine gr_st hI33 FI33 rfl rfl ⟨⟨by show 0 ≤ _; (/-10-/first | (have o1 := gz_sh hv2_20_28; omega) | (simp only [gz_hd] at *; omega)), by show _ ≤ 24; (/-11-/first | (have o1 := gz_sh hv2_20; omega) | (simp only [gz_hd] at *; omega))⟩, trivial⟩ (fun I40 hI40 FI40 q41 p41 => ?_)
              have t44 := gz_hi (p41 0 68 (fun q => absurd q.1 (by first | exact gz_ne rfl | decide)))
              refine gv_run 1 true hD (pcₚ := 11) (lvₚ := [(0, .inr (.inr (some 0))), (1, .inl v1_20), (2, .inl v2_20)]) (stₚ := []) (hₚ := gr_h I40 J19) (C := (True ∧ True)) rfl ⟨trivial, trivial⟩ ?_
              refine gv_pick [0, 1] rfl ?_
              exact ih11 I40 J19 v1_20 (by (/-12-/first | (have o1 := gz_sh e1_20; have o2 := gz_sh e2_20; have o3 := gz_sh hv1_20; have o4 := gz_sh hv2_20; have o5 := gz_sh hv2_20_28; omega) | (simp only [gz_hd] at *; omega))) hI40 FI40 FJ19 (by (/-13-/first | (and_intros; (have o1 := gz_sh hv1_20; omega); (have o1 := gz_sh hv1_20; omega); (have o1 := gz_sh e2_20; have o2 := gz_sh t36; have o3 := gz_sh t44; omega)) | (simp only [gz_hd] at *; omega)))
            refine gv_run 2 true hD (pcₚ := 72) (lvₚ := [(0, .inr (.inr (some 0))), (1, .inl v1_20), (2, .inl v2_20)]) (stₚ := [.inl v1_20, .inr (.inr (some 0))]) (hₚ := gr_h I18 J19) (C := ((True ∧ True) ∧ True)) rfl ⟨⟨trivial, trivial⟩, trivial⟩ ?_
            obtain ⟨r48, h48, E48, P48⟩ := r_low (ws0 := ws0) (tb := tb) hws htb ext I18 J19 hI18 v1_20 ⟨by (/-14-/first | (have o1 := gz_sh hv1_20; omega) | (simp only [gz_hd] at *; omega)), by (/-15-/first | (have o1 := gz_sh hv1_20; omega) | (simp only [gz_hd] at *; omega))⟩ 
            obtain ⟨rfl, ⟨z48, rfl, q48⟩⟩ := P48
            replace q48 := gz_hi q48
            refine gv_callV hD rfl (As := [.inl v1_20]) (st := []) rfl (by decide) rfl rfl (gr_lV hws rfl) (Nat.le_of_ble_eq_true rfl) (gz_Ev_mono (d := 1) (by decide) E48) ?_
            show gv_X _ _ (75, [(0, .inr (.inr (some 0))), (1, .inl v1_20), (2, .inl v2_20)], [.inl z48], gr_sh ++ ext, gr_h I18 J19)
            refine gv_if_eq (t := 115) hD rfl rfl ⟨by (/-16-/first | (have o1 := gz_sh q48; omega) | (simp only [gz_hd] at *; omega)), by (/-17-/first | (have o1 := gz_sh q48; omega) | (simp only [gz_hd] at *; omega))⟩ (fun c49 => ?_) (fun c49 => ?_)
            · refine gv_run 1 true hD (pcₚ := 116) (lvₚ := [(0, .inr (.inr (some 0))), (1, .inl v1_20), (2, .inl v2_20)]) (stₚ := [.inl v2_20]) (hₚ := gr_h I18 J19) (C := (True ∧ True)) rfl ⟨trivial, trivial⟩ ?_
              refine gv_if_eq (t := 138) hD rfl rfl ⟨by (/-18-/first | (have o1 := gz_sh hv2_20; omega) | (simp only [gz_hd] at *; omega)), by (/-19-/first | (have o1 := gz_sh hv2_20; omega) | (simp only [gz_hd] at *; omega))⟩ (fun c50 => ?_) (fun c50 => ?_)
              · refine gv_pick [] rfl ?_
                exact L138 (by (/-20-/first | (have o1 := gz_sh e2_20; omega) | (simp only [gz_hd] at *; omega)))
              · have f51 := gz_hi ((gr_b_0_69 hI18))
                refine gv_run 3 true hD (pcₚ := 124) (lvₚ := [(0, .inr (.inr (some 0))), (1, .inl v1_20), (2, .inl v2_20)]) (stₚ := [.inl (I18 0 69), .inl v1_20]) (hₚ := gr_h I18 J19) (C := (((True ∧ True) ∧ True) ∧ True)) rfl ⟨⟨⟨trivial, trivial⟩, trivial⟩, trivial⟩ ?_
                refine gv_icmp_ge (t := 140) hD rfl rfl ⟨⟨by (/-21-/first | (have o1 := gz_sh hv1_20; omega) | (simp only [gz_hd] at *; omega)), by (/-22-/first | (have o1 := gz_sh hv1_20; omega) | (simp only [gz_hd] at *; omega))⟩, ⟨by (/-23-/first | (have o1 := gz_sh f22; omega) | (simp only [gz_hd] at *; omega)), by (/-24-/first | (have o1 := gz_sh f22; omega) | (simp only [gz_hd] at *; omega))⟩⟩ (fun c52 => ?_) (fun c52 => ?_)
                · exact L140 (by (/-25-/first | (and_intros; (have o1 := gz_sh hv1_20; omega); (have o1 := gz_sh hv1_20; omega); (have o1 := gz_sh hv2_20; omega); (have o1 := gz_sh hv2_20; omega); (have o1 := gz_sh e0_20; omega); (have o1 := gz_sh e1_20; omega); (have o1 := gz_sh e2_20; omega)) | (simp only [gz_hd] at *; omega)))
                · have f53 := gz_hi ((gr_b_57 hI18 (Int.toNat v1_20)))
                  refine gv_run 4 true hD (pcₚ := 133) (lvₚ := [(0, .inr (.inr (some 0))), (1, .inl v1_20), (2, .inl v2_20)]) (stₚ := [.inl (I18 57 (Int.toNat v1_20))]) (hₚ := gr_h I18 J19) (C := ((((True ∧ True) ∧ True) ∧ True) ∧ (0 ≤ v1_20 ∧ v1_20 < ((1000 : Nat) : Int)))) rfl ⟨⟨⟨⟨trivial, trivial⟩, trivial⟩, trivial⟩, ⟨by (/-26-/first | (have o1 := gz_sh hv1_20; omega) | (simp only [gz_hd] at *; omega)), by (/-27-/first | (have o1 := gz_sh f22; omega) | (simp only [gz_hd] at *; omega))⟩⟩ ?_
                  refine gv_run 1 true hD (pcₚ := 135) (lvₚ := [(0, .inr (.inr (some 0))), (1, .inl v1_20), (2, .inl v2_20)]) (stₚ := [.inl 32, .inl (I18 57 (Int.toNat v1_20))]) (hₚ := gr_h I18 J19) (C := (True ∧ True)) rfl ⟨trivial, trivial⟩ ?_
                  refine gv_icmp_eq (t := 140) hD rfl rfl ⟨⟨by (/-28-/first | (have o1 := gz_sh f53; omega) | (simp only [gz_hd] at *; omega)), by (/-29-/first | (have o1 := gz_sh f53; omega) | (simp only [gz_hd] at *; omega))⟩, ⟨by (/-30-/first | omega | (simp only [gz_hd] at *; omega)), by (/-31-/first | omega | (simp only [gz_hd] at *; omega))⟩⟩ (fun c54 => ?_) (fun c54 => ?_)
                  · exact L140 (by (/-32-/first | (and_intros; (have o1 := gz_sh hv1_20; omega); (have o1 := gz_sh hv1_20; omega); (have o1 := gz_sh hv2_20; omega); (have o1 := gz_sh hv2_20; omega); (have o1 := gz_sh e0_20; omega); (have o1 := gz_sh e1_20; omega); (have o1 := gz_sh e2_20; omega)) | (simp only [gz_hd] at *; omega)))
                  · refine gv_pick [] rfl ?_
                    exact L138 (by (/-33-/first | (have o1 := gz_sh e2_20; omega) | (simp only [gz_hd] at *; omega)))
            · refine gv_run 2 true hD (pcₚ := 81) (lvₚ := [(0, .inr (.inr (some 0))), (1, .inl v1_20), (2, .inl v2_20)]) (stₚ := [.inl 24, .inl v2_20]) (hₚ := gr_h I18 J19) (C := ((True ∧ True) ∧ True)) rfl ⟨⟨trivial, trivial⟩, trivial⟩ ?_
              refine gv_icmp_ne (t := 86) hD rfl rfl ⟨⟨by (/-34-/first | (have o1 := gz_sh hv2_20; omega) | (simp only [gz_hd] at *; omega)), by (/-35-/first | (have o1 := gz_sh hv2_20; omega) | (simp only [gz_hd] at *; omega))⟩, ⟨by (/-36-/first | omega | (simp only [gz_hd] at *; omega)), by (/-37-/first | omega | (simp only [gz_hd] at *; omega))⟩⟩ (fun c55 => ?_) (fun c55 => ?_)
              · have f56 := gz_hi ((gr_b_0_143 hI18))
                refine gv_run 7 true hD (pcₚ := 98) (lvₚ := [(0, .inr (.inr (some 0))), (1, .inl v1_20), (2, .inl v2_20)]) (stₚ := [.inl v2_20, .inl (24 * (I18 0 143)), .inr (.inr (some 83))]) (hₚ := gr_h I18 J19) (C := (((((((True ∧ True) ∧ True) ∧ True) ∧ True) ∧ True) ∧ True) ∧ True)) rfl ⟨⟨⟨⟨⟨⟨⟨trivial, trivial⟩, trivial⟩, trivial⟩, trivial⟩, trivial⟩, trivial⟩, trivial⟩ ?_
                refine gv_run 7 true hD (pcₚ := 111) (lvₚ := [(1, .inl (v1_20 + 1)), (2, .inl (v2_20 + 1)), (0, .inr (.inr (some 0)))]) (stₚ := [.inl (I18 57 (Int.toNat v1_20)), .inl ((24 * (I18 0 143)) + v2_20), .inr (.inr (some 83))]) (hₚ := gr_h I18 J19) (C := (((((((True ∧ True) ∧ True) ∧ True) ∧ True) ∧ True) ∧ True) ∧ (0 ≤ v1_20 ∧ v1_20 < ((1000 : Nat) : Int)))) rfl ⟨⟨⟨⟨⟨⟨⟨trivial, trivial⟩, trivial⟩, trivial⟩, trivial⟩, trivial⟩, trivial⟩, ⟨by (/-38-/first | (have o1 := gz_sh hv1_20; omega) | (simp only [gz_hd] at *; omega)), by (/-39-/first | (have o1 := gz_sh f22; have o2 := gz_sh hv1_20; have o3 := gz_sh hv2_20; have o4 := gz_sh q48; omega) | (simp only [gz_hd] at *; omega))⟩⟩ ?_
                have f58 := gz_hi (gw_nar_byte (x := ((I18 57 (Int.toNat v1_20)))))
                refine gv_run 1 true hD (pcₚ := 112) (lvₚ := [(1, .inl (v1_20 + 1)), (2, .inl (v2_20 + 1)), (0, .inr (.inr (some 0)))]) (stₚ := []) (hₚ := gz_up (gr_h I18 J19) 83 (Int.toNat (((24 * (I18 0 143)) + v2_20))) (.inl (((vp_nar .byte (Int32.ofInt ((I18 57 (Int.toNat v1_20))))).toInt)))) (C := (True ∧ (0 ≤ (((24 * (I18 0 143)) + v2_20)) ∧ (((24 * (I18 0 143)) + v2_20)) < ((576 : Nat) : Int)))) rfl ⟨trivial, ⟨by (/-40-/first | (have o1 := gz_sh f21; have o2 := gz_sh hv2_20; omega) | (simp only [gz_hd] at *; omega)), by (/-41-/first | (have o1 := gz_sh e0_20; have o2 := gz_sh hv2_20; omega) | (simp only [gz_hd] at *; omega))⟩⟩ ?_
                refine gr_st hI18 FI18 rfl rfl ⟨⟨by show (-128) ≤ _; (/-42-/first | (have o1 := gz_sh f58; omega) | (simp only [gz_hd] at *; omega)), by show _ ≤ 127; (/-43-/first | (have o1 := gz_sh f58; omega) | (simp only [gz_hd] at *; omega))⟩, trivial⟩ (fun I59 hI59 FI59 q60 p60 => ?_)
                have t61 := gz_hi (p60 0 143 (fun q => absurd q.1 (by first | exact gz_ne rfl | decide)))
                have t62 := gz_hi (p60 0 69 (fun q => absurd q.1 (by first | exact gz_ne rfl | decide)))
                have t63 := gz_hi (p60 0 68 (fun q => absurd q.1 (by first | exact gz_ne rfl | decide)))
                refine gv_run 1 true hD (pcₚ := 70) (lvₚ := [(1, .inl (v1_20 + 1)), (2, .inl (v2_20 + 1)), (0, .inr (.inr (some 0)))]) (stₚ := []) (hₚ := gr_h I59 J19) (C := (True ∧ True)) rfl ⟨trivial, trivial⟩ ?_
                refine gv_pick [2, 0, 1] rfl ?_
                exact ih70 I59 J19 (v1_20 + 1) (v2_20 + 1) (by (/-44-/first | (have o1 := gz_sh e0_20; have o2 := gz_sh e1_20; have o3 := gz_sh e2_20; have o4 := gz_sh f21; have o5 := gz_sh f22; have o6 := gz_sh hv1_20; have o7 := gz_sh hv2_20; have o8 := gz_sh q48; have o9 := gz_sh t61; have o10 := gz_sh t62; omega) | (simp only [gz_hd] at *; omega))) hI59 FI59 FJ19 (by (/-45-/first | (and_intros; (have o1 := gz_sh hv1_20; omega); (have o1 := gz_sh e0_20; have o2 := gz_sh e1_20; have o3 := gz_sh e2_20; have o4 := gz_sh f21; have o5 := gz_sh f22; have o6 := gz_sh hv1_20; have o7 := gz_sh hv2_20; have o8 := gz_sh q48; have o9 := gz_sh t61; have o10 := gz_sh t62; have o11 := gz_sh t63; omega); (have o1 := gz_sh hv2_20; omega); (have o1 := gz_sh hv2_20; omega); (have o1 := gz_sh e0_20; have o2 := gz_sh t61; omega); (have o1 := gz_sh e1_20; omega); (have o1 := gz_sh e2_20; have o2 := gz_sh t63; omega)) | (simp only [gz_hd] at *; omega)))
              · refine gv_run 1 true hD (pcₚ := 85) (lvₚ := [(0, .inr (.inr (some 0))), (1, .inl v1_20), (2, .inl v2_20)]) (stₚ := [.inl 0]) (hₚ := gr_h I18 J19) (C := (True ∧ True)) rfl ⟨trivial, trivial⟩ ?_
                exact gv_zret hD rfl (by (/-46-/first | omega | (simp only [gz_hd] at *; omega))) ⟨I18, J19, rfl, hI18, FI18, FJ19, ⟨_, rfl, by (/-47-/first | (and_intros; (omega); (omega); (have o1 := gz_sh e2_20; omega)) | (simp only [gz_hd] at *; omega))⟩⟩
        refine gv_run 3 true hD (pcₚ := 41) (lvₚ := [(0, .inr (.inr (some 0))), (1, .inl v1_6)]) (stₚ := [.inl (I4 0 69), .inl v1_6]) (hₚ := gr_h I4 J5) (C := (((True ∧ True) ∧ True) ∧ True)) rfl ⟨⟨⟨trivial, trivial⟩, trivial⟩, trivial⟩ ?_
        refine gv_icmp_ne (t := 57) hD rfl rfl ⟨⟨by (/-48-/first | (have o1 := gz_sh hv1_6; omega) | (simp only [gz_hd] at *; omega)), by (/-49-/first | (have o1 := gz_sh hv1_6; omega) | (simp only [gz_hd] at *; omega))⟩, ⟨by (/-50-/first | (have o1 := gz_sh f8; omega) | (simp only [gz_hd] at *; omega)), by (/-51-/first | (have o1 := gz_sh f8; omega) | (simp only [gz_hd] at *; omega))⟩⟩ (fun c68 => ?_) (fun c68 => ?_)
        · have f69 := gz_hi ((gr_b_0_143 hI4))
          refine gv_run 3 true hD (pcₚ := 63) (lvₚ := [(0, .inr (.inr (some 0))), (1, .inl v1_6)]) (stₚ := [.inl 24, .inl (I4 0 143)]) (hₚ := gr_h I4 J5) (C := (((True ∧ True) ∧ True) ∧ True)) rfl ⟨⟨⟨trivial, trivial⟩, trivial⟩, trivial⟩ ?_
          refine gv_icmp_ne (t := 68) hD rfl rfl ⟨⟨by (/-52-/first | (have o1 := gz_sh f7; omega) | (simp only [gz_hd] at *; omega)), by (/-53-/first | (have o1 := gz_sh f7; omega) | (simp only [gz_hd] at *; omega))⟩, ⟨by (/-54-/first | omega | (simp only [gz_hd] at *; omega)), by (/-55-/first | omega | (simp only [gz_hd] at *; omega))⟩⟩ (fun c70 => ?_) (fun c70 => ?_)
          · refine gv_run 2 true hD (pcₚ := 70) (lvₚ := [(2, .inl 0), (0, .inr (.inr (some 0))), (1, .inl v1_6)]) (stₚ := []) (hₚ := gr_h I4 J5) (C := ((True ∧ True) ∧ True)) rfl ⟨⟨trivial, trivial⟩, trivial⟩ ?_
            refine gv_pick [1, 2, 0] rfl ?_
            exact L70 _ I4 J5 v1_6 0 (Nat.lt_succ_self _) hI4 FI4 FJ5 (by (/-56-/first | (and_intros; (have o1 := gz_sh hv1_6; omega); (have o1 := gz_sh hv1_6; omega); (omega); (omega); (have o1 := gz_sh f7; omega); (omega); (have o1 := gz_sh e0_6; omega)) | (simp only [gz_hd] at *; omega)))
          · refine gv_run 1 true hD (pcₚ := 67) (lvₚ := [(0, .inr (.inr (some 0))), (1, .inl v1_6)]) (stₚ := [.inl 0]) (hₚ := gr_h I4 J5) (C := (True ∧ True)) rfl ⟨trivial, trivial⟩ ?_
            exact gv_zret hD rfl (by (/-57-/first | omega | (simp only [gz_hd] at *; omega))) ⟨I4, J5, rfl, hI4, FI4, FJ5, ⟨_, rfl, by (/-58-/first | (and_intros; (omega); (omega); (have o1 := gz_sh e0_6; omega)) | (simp only [gz_hd] at *; omega))⟩⟩
        · have f71 := gz_hi ((gr_b_0_143 hI4))
          refine gv_run 2 true hD (pcₚ := 48) (lvₚ := [(0, .inr (.inr (some 0))), (1, .inl v1_6)]) (stₚ := [.inl (I4 0 143)]) (hₚ := gr_h I4 J5) (C := ((True ∧ True) ∧ True)) rfl ⟨⟨trivial, trivial⟩, trivial⟩ ?_
          refine gv_if_le (t := 55) hD rfl rfl ⟨by (/-59-/first | (have o1 := gz_sh f7; omega) | (simp only [gz_hd] at *; omega)), by (/-60-/first | (have o1 := gz_sh f7; omega) | (simp only [gz_hd] at *; omega))⟩ (fun c72 => ?_) (fun c72 => ?_)
          · refine gv_run 1 true hD (pcₚ := 56) (lvₚ := [(0, .inr (.inr (some 0))), (1, .inl v1_6)]) (stₚ := [.inl 0]) (hₚ := gr_h I4 J5) (C := (True ∧ True)) rfl ⟨trivial, trivial⟩ ?_
            refine gv_pick [] rfl ?_
            exact L56 0 (by (/-61-/first | (and_intros; (omega); (omega); (have o1 := gz_sh e0_6; omega)) | (simp only [gz_hd] at *; omega)))
          · refine gv_run 2 true hD (pcₚ := 56) (lvₚ := [(0, .inr (.inr (some 0))), (1, .inl v1_6)]) (stₚ := [.inl 1]) (hₚ := gr_h I4 J5) (C := ((True ∧ True) ∧ True)) rfl ⟨⟨trivial, trivial⟩, trivial⟩ ?_
            refine gv_pick [] rfl ?_
            exact L56 1 (by (/-62-/first | (and_intros; (omega); (omega); (have o1 := gz_sh e0_6; omega)) | (simp only [gz_hd] at *; omega)))
      refine gv_run 3 true hD (pcₚ := 16) (lvₚ := [(0, .inr (.inr (some 0))), (1, .inl v1_6)]) (stₚ := [.inl (I4 0 69), .inl v1_6]) (hₚ := gr_h I4 J5) (C := (((True ∧ True) ∧ True) ∧ True)) rfl ⟨⟨⟨trivial, trivial⟩, trivial⟩, trivial⟩ ?_
      refine gv_icmp_ge (t := 36) hD rfl rfl ⟨⟨by (/-63-/first | (have o1 := gz_sh hv1_6; omega) | (simp only [gz_hd] at *; omega)), by (/-64-/first | (have o1 := gz_sh hv1_6; omega) | (simp only [gz_hd] at *; omega))⟩, ⟨by (/-65-/first | (have o1 := gz_sh f8; omega) | (simp only [gz_hd] at *; omega)), by (/-66-/first | (have o1 := gz_sh f8; omega) | (simp only [gz_hd] at *; omega))⟩⟩ (fun c74 => ?_) (fun c74 => ?_)
      · exact L36 (by (/-67-/first | (and_intros; (have o1 := gz_sh hv1_6; omega); (have o1 := gz_sh hv1_6; omega); (omega); (have o1 := gz_sh e0_6; omega)) | (simp only [gz_hd] at *; omega)))
      · have f75 := gz_hi ((gr_b_57 hI4 (Int.toNat v1_6)))
        refine gv_run 4 true hD (pcₚ := 25) (lvₚ := [(0, .inr (.inr (some 0))), (1, .inl v1_6)]) (stₚ := [.inl (I4 57 (Int.toNat v1_6))]) (hₚ := gr_h I4 J5) (C := ((((True ∧ True) ∧ True) ∧ True) ∧ (0 ≤ v1_6 ∧ v1_6 < ((1000 : Nat) : Int)))) rfl ⟨⟨⟨⟨trivial, trivial⟩, trivial⟩, trivial⟩, ⟨by (/-68-/first | (have o1 := gz_sh hv1_6; omega) | (simp only [gz_hd] at *; omega)), by (/-69-/first | (have o1 := gz_sh f8; omega) | (simp only [gz_hd] at *; omega))⟩⟩ ?_
        refine gv_run 1 true hD (pcₚ := 27) (lvₚ := [(0, .inr (.inr (some 0))), (1, .inl v1_6)]) (stₚ := [.inl 32, .inl (I4 57 (Int.toNat v1_6))]) (hₚ := gr_h I4 J5) (C := (True ∧ True)) rfl ⟨trivial, trivial⟩ ?_
        refine gv_icmp_ne (t := 36) hD rfl rfl ⟨⟨by (/-70-/first | (have o1 := gz_sh f75; omega) | (simp only [gz_hd] at *; omega)), by (/-71-/first | (have o1 := gz_sh f75; omega) | (simp only [gz_hd] at *; omega))⟩, ⟨by (/-72-/first | omega | (simp only [gz_hd] at *; omega)), by (/-73-/first | omega | (simp only [gz_hd] at *; omega))⟩⟩ (fun c76 => ?_) (fun c76 => ?_)
        · exact L36 (by (/-74-/first | (and_intros; (have o1 := gz_sh hv1_6; omega); (have o1 := gz_sh hv1_6; omega); (omega); (have o1 := gz_sh e0_6; omega)) | (simp only [gz_hd] at *; omega)))
        · refine gv_run 2 true hD (pcₚ := 11) (lvₚ := [(1, .inl (v1_6 + 1)), (0, .inr (.inr (some 0)))]) (stₚ := []) (hₚ := gr_h I4 J5) (C := ((True ∧ True) ∧ True)) rfl ⟨⟨trivial, trivial⟩, trivial⟩ ?_
          refine gv_pick [1, 0] rfl ?_
          exact ih11 I4 J5 (v1_6 + 1) (by (/-75-/first | (have o1 := gz_sh e0_6; have o2 := gz_sh f8; have o3 := gz_sh hv1_6; omega) | (simp only [gz_hd] at *; omega))) hI4 FI4 FJ5 (by (/-76-/first | (and_intros; (have o1 := gz_sh hv1_6; omega); (have o1 := gz_sh f8; omega); (have o1 := gz_sh e0_6; omega)) | (simp only [gz_hd] at *; omega)))
  refine gv_run 1 true hD (pcₚ := 1) (lvₚ := [(0, .inr (.inr (some 0)))]) (stₚ := [.inr (.inr (some 0))]) (hₚ := gr_h I J) (C := (True ∧ True)) rfl ⟨trivial, trivial⟩ ?_
  obtain ⟨r77, h77, E77, P77⟩ := r_reads_t (ws0 := ws0) (tb := tb) hws htb ext I J hI   
  obtain ⟨I78, J79, rfl, hI78, g77, k77, ⟨rfl, q77⟩⟩ := P77
  replace q77 := gz_hi q77
  have FI78 := gr_frt FI g77 rfl rfl
  have FJ79 := gr_fjt FJ k77 rfl rfl
  refine gv_callV hD rfl (As := []) (st := []) rfl (by decide) rfl rfl (gr_lV hws rfl) (Nat.le_of_ble_eq_true rfl) (gz_Ev_mono (d := 1) (by decide) E77) ?_
  show gv_X _ _ (4, [(0, .inr (.inr (some 0)))], [], gr_sh ++ ext, gr_h I78 J79)
  refine gv_run 3 true hD (pcₚ := 9) (lvₚ := [(0, .inr (.inr (some 0)))]) (stₚ := []) (hₚ := gz_up (gr_h I78 J79) 0 143 (.inl 0)) (C := (((True ∧ True) ∧ True) ∧ True)) rfl ⟨⟨⟨trivial, trivial⟩, trivial⟩, trivial⟩ ?_
  refine gr_st hI78 FI78 rfl rfl ⟨⟨by show 0 ≤ _; (/-77-/first | omega | (simp only [gz_hd] at *; omega)), by show _ ≤ 24; (/-78-/first | omega | (simp only [gz_hd] at *; omega))⟩, trivial⟩ (fun I84 hI84 FI84 q85 p85 => ?_)
  have t87 := gz_hi (p85 0 68 (by decide))
  refine gv_run 2 true hD (pcₚ := 11) (lvₚ := [(1, .inl 0), (0, .inr (.inr (some 0)))]) (stₚ := []) (hₚ := gr_h I84 J79) (C := ((True ∧ True) ∧ True)) rfl ⟨⟨trivial, trivial⟩, trivial⟩ ?_
  refine gv_pick [1, 0] rfl ?_
  exact L11 _ I84 J79 0 (Nat.lt_succ_self _) hI84 FI84 FJ79 (by (/-79-/first | (and_intros; (omega); (omega); (have o1 := gz_sh q77; have o2 := gz_sh t87; omega)) | (simp only [gz_hd] at *; omega)))
set_option maxHeartbeats 8000000 in
set_option maxRecDepth 100000 in
theorem r_end_t {ws0 : List Cond} {tb : String → gz_T} (hws : ∀ w ∈ gr_ws, w ∈ ws0) (htb : tb RX13 = gr_T) (ext : gz_Sh) (I : gr_I) (J : gr_J) (hI : gr_Inv I) (a1 : Int) (ha1 : (-2147483648) ≤ a1 ∧ a1 ≤ 2147483647)  : ∃ r hₚ, gz_Ev ws0 tb 2 (yX13_end, cX13_end, 2, (some .int)) [.inr (.inr (some 0)), .inl a1] (gr_sh ++ ext) (gr_h I J) r (gr_sh ++ ext) hₚ 0 0 ∧ (∃ (Iₚ : gr_I) (Jₚ : gr_J), hₚ = gr_h Iₚ Jₚ ∧ gr_Inv Iₚ ∧ gr_fr [0, 68] [] I Iₚ ∧ gr_fj [0, 68] [] J Jₚ ∧ (∃ z : Int, r = some (.inl z) ∧ 0 ≤ z ∧ z ≤ 1000 ∧ (((0 ≤ a1 ∧ a1 ≤ I 0 68) ∧ Iₚ 0 68 = a1 ∧ z = a1 ∧ Iₚ 0 0 = 0) ∨ (¬ (0 ≤ a1 ∧ a1 ≤ I 0 68) ∧ Iₚ 0 68 = I 0 68 ∧ Iₚ 0 0 = 1)))) := by
  have FI : gr_fr [0, 68] [] I I := fun _ _ _ => rfl
  have FJ : gr_fj [0, 68] [] J J := fun _ _ _ => rfl
  have hD : gv_D (gr_E ws0 tb 1 (yX13_end, cX13_end, 2, (some .int)) kX13_end) := gq_of oX13_end
  refine gr_ev (d := 1) (l := kX13_end) (Po := fun r hₚ => (∃ (Iₚ : gr_I) (Jₚ : gr_J), hₚ = gr_h Iₚ Jₚ ∧ gr_Inv Iₚ ∧ gr_fr [0, 68] [] I Iₚ ∧ gr_fj [0, 68] [] J Jₚ ∧ (∃ z : Int, r = some (.inl z) ∧ 0 ≤ z ∧ z ≤ 1000 ∧ (((0 ≤ a1 ∧ a1 ≤ I 0 68) ∧ Iₚ 0 68 = a1 ∧ z = a1 ∧ Iₚ 0 0 = 0) ∨ (¬ (0 ≤ a1 ∧ a1 ≤ I 0 68) ∧ Iₚ 0 68 = I 0 68 ∧ Iₚ 0 0 = 1))))) htb rfl (Nat.le_of_ble_eq_true rfl) ?_
  have f1 := gz_hi ((gr_b_0_68 hI))
  have L17 : ∀ (I3 : gr_I) (J4 : gr_J) , gr_Inv I3 → gr_fr [0, 68] [] I I3 → gr_fj [0, 68] [] J J4 → ((¬ (0 ≤ a1 ∧ a1 ≤ I 0 68)) ∧ (I3 0 68 = I 0 68)) → gv_X (gr_E ws0 tb 1 (yX13_end, cX13_end, 2, (some .int)) kX13_end) (gv_Q cX13_end (some .int) (gr_sh ++ ext) (fun r hₚ => (∃ (Iₚ : gr_I) (Jₚ : gr_J), hₚ = gr_h Iₚ Jₚ ∧ gr_Inv Iₚ ∧ gr_fr [0, 68] [] I Iₚ ∧ gr_fj [0, 68] [] J Jₚ ∧ (∃ z : Int, r = some (.inl z) ∧ 0 ≤ z ∧ z ≤ 1000 ∧ (((0 ≤ a1 ∧ a1 ≤ I 0 68) ∧ Iₚ 0 68 = a1 ∧ z = a1 ∧ Iₚ 0 0 = 0) ∨ (¬ (0 ≤ a1 ∧ a1 ≤ I 0 68) ∧ Iₚ 0 68 = I 0 68 ∧ Iₚ 0 0 = 1)))))) (17, [(0, .inr (.inr (some 0)))], [], gr_sh ++ ext, gr_h I3 J4) := by
    intro I3 J4 hI3 FI3 FJ4 m_5
    obtain ⟨e0_5, e1_5⟩ := gz_h2 m_5
    refine gv_run 1 true hD (pcₚ := 18) (lvₚ := [(0, .inr (.inr (some 0)))]) (stₚ := [.inr (.inr (some 0))]) (hₚ := gr_h I3 J4) (C := (True ∧ True)) rfl ⟨trivial, trivial⟩ ?_
    obtain ⟨r8, h8, E8, P8⟩ := r_bad_t (ws0 := ws0) (tb := tb) hws htb ext I3 J4 hI3   
    obtain ⟨I9, J10, rfl, hI9, g8, k8, ⟨z8, rfl, q8⟩⟩ := P8
    replace q8 := gz_hi q8
    have FI9 := gr_frt FI3 g8 rfl rfl
    have FJ10 := gr_fjt FJ4 k8 rfl rfl
    have t11 := gz_hi (g8 0 68 rfl)
    refine gv_callV hD rfl (As := []) (st := []) rfl (by decide) rfl rfl (gr_lV hws rfl) (Nat.le_of_ble_eq_true rfl) (gz_Ev_mono (d := 1) (by decide) E8) ?_
    show gv_X _ _ (21, [(0, .inr (.inr (some 0)))], [.inl z8], gr_sh ++ ext, gr_h I9 J10)
    exact gv_iret hD rfl ⟨I9, J10, rfl, hI9, FI9, FJ10, ⟨_, rfl, by (/-0-/first | (and_intros; (have o1 := gz_sh q8; omega); (have o1 := gz_sh q8; omega); (have o1 := gz_sh e0_5; have o2 := gz_sh e1_5; have o3 := gz_sh q8; have o4 := gz_sh t11; omega)) | (simp only [gz_hd] at *; omega))⟩⟩
  refine gv_run 3 true hD (pcₚ := 5) (lvₚ := [(0, .inr (.inr (some 0))), (1, .inl a1)]) (stₚ := []) (hₚ := gz_up (gr_h I J) 0 0 (.inl 0)) (C := (((True ∧ True) ∧ True) ∧ True)) rfl ⟨⟨⟨trivial, trivial⟩, trivial⟩, trivial⟩ ?_
  refine gr_st hI FI rfl rfl ⟨⟨by show 0 ≤ _; (/-1-/first | omega | (simp only [gz_hd] at *; omega)), by show _ ≤ 2; (/-2-/first | omega | (simp only [gz_hd] at *; omega))⟩, trivial⟩ (fun I14 hI14 FI14 q15 p15 => ?_)
  have t16 := gz_hi (p15 0 68 (by decide))
  refine gv_run 1 true hD (pcₚ := 6) (lvₚ := [(0, .inr (.inr (some 0))), (1, .inl a1)]) (stₚ := [.inl a1]) (hₚ := gr_h I14 J) (C := (True ∧ True)) rfl ⟨trivial, trivial⟩ ?_
  refine gv_if_lt (t := 17) hD rfl rfl ⟨by (/-3-/first | omega | (simp only [gz_hd] at *; omega)), by (/-4-/first | omega | (simp only [gz_hd] at *; omega))⟩ (fun c19 => ?_) (fun c19 => ?_)
  · refine gv_pick [0] rfl ?_
    exact L17 I14 J hI14 FI14 FJ (by (/-5-/first | (and_intros; (omega); (have o1 := gz_sh t16; omega)) | (simp only [gz_hd] at *; omega)))
  · have f20 := gz_hi ((gr_b_0_68 hI14))
    refine gv_run 3 true hD (pcₚ := 14) (lvₚ := [(0, .inr (.inr (some 0))), (1, .inl a1)]) (stₚ := [.inl (I14 0 68), .inl a1]) (hₚ := gr_h I14 J) (C := (((True ∧ True) ∧ True) ∧ True)) rfl ⟨⟨⟨trivial, trivial⟩, trivial⟩, trivial⟩ ?_
    refine gv_icmp_le (t := 22) hD rfl rfl ⟨⟨by (/-6-/first | omega | (simp only [gz_hd] at *; omega)), by (/-7-/first | omega | (simp only [gz_hd] at *; omega))⟩, ⟨by (/-8-/first | (have o1 := gz_sh f1; have o2 := gz_sh t16; omega) | (simp only [gz_hd] at *; omega)), by (/-9-/first | (have o1 := gz_sh f1; have o2 := gz_sh t16; omega) | (simp only [gz_hd] at *; omega))⟩⟩ (fun c21 => ?_) (fun c21 => ?_)
    · refine gv_run 3 true hD (pcₚ := 27) (lvₚ := [(0, .inr (.inr (some 0))), (1, .inl a1)]) (stₚ := []) (hₚ := gz_up (gr_h I14 J) 0 68 (.inl a1)) (C := (((True ∧ True) ∧ True) ∧ True)) rfl ⟨⟨⟨trivial, trivial⟩, trivial⟩, trivial⟩ ?_
      refine gr_st hI14 FI14 rfl rfl ⟨⟨by show 0 ≤ _; (/-10-/first | omega | (simp only [gz_hd] at *; omega)), by show _ ≤ 1000; (/-11-/first | (have o1 := gz_sh f1; have o2 := gz_sh t16; omega) | (simp only [gz_hd] at *; omega))⟩, trivial⟩ (fun I22 hI22 FI22 q23 p23 => ?_)
      have t24 := gz_hi (p23 0 0 (by decide))
      have f25 := gz_hi ((gr_b_0_68 hI22))
      refine gv_run 1 true hD (pcₚ := 28) (lvₚ := [(0, .inr (.inr (some 0))), (1, .inl a1)]) (stₚ := [.inl a1]) (hₚ := gr_h I22 J) (C := (True ∧ True)) rfl ⟨trivial, trivial⟩ ?_
      exact gv_iret hD rfl ⟨I22, J, rfl, hI22, FI22, FJ, ⟨_, rfl, by (/-12-/first | (and_intros; (omega); (have o1 := gz_sh f25; omega); (have o1 := gz_sh t16; have o2 := gz_sh t24; omega)) | (simp only [gz_hd] at *; omega))⟩⟩
    · refine gv_pick [0] rfl ?_
      exact L17 I14 J hI14 FI14 FJ (by (/-13-/first | (and_intros; (have o1 := gz_sh t16; omega); (have o1 := gz_sh t16; omega)) | (simp only [gz_hd] at *; omega)))
