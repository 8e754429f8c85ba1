set_option maxHeartbeats 8000000 in
set_option maxRecDepth 100000 in
theorem r_sign {ws0 : List Cond} {tb : String → gz_T} (hws : ∀ w ∈ gr_ws, w ∈ ws0) (htb : tb RX13 = gr_T) (ext : gz_Sh) (I : gr_I) (J : gr_J) (hI : gr_Inv I) (a1 : Int) (ha1 : 0 ≤ a1 ∧ a1 ≤ 127) (x0 : I 0 71 = 4 → I 0 72 ≤ 999) : ∃ r hₚ, gz_Ev ws0 tb 1 (yX13_sign, cX13_sign, 2, (some .boolean)) [.inr (.inr (some 0)), .inl a1] (gr_sh ++ ext) (gr_h I J) r (gr_sh ++ ext) hₚ 0 0 ∧ (hₚ = gr_h I J ∧ (∃ z : Int, r = some (.inl z) ∧ 0 ≤ z ∧ z ≤ 1 ∧ (z = 0 ∨ I 0 71 = 4))) := by
  have hD : gv_D (gr_E ws0 tb 0 (yX13_sign, cX13_sign, 2, (some .boolean)) kX13_sign) := gq_of oX13_sign
  refine gr_ev (d := 0) (l := kX13_sign) (Po := fun r hₚ => (hₚ = gr_h I J ∧ (∃ z : Int, r = some (.inl z) ∧ 0 ≤ z ∧ z ≤ 1 ∧ (z = 0 ∨ I 0 71 = 4)))) htb rfl (Nat.le_of_ble_eq_true rfl) ?_
  have f1 := gz_hi ((gr_b_0_71 hI))
  have L26 : ∀ (s0_2 : Int), ((0 ≤ s0_2 ∧ s0_2 ≤ 1) ∧ (s0_2 = 0 ∨ I 0 71 = 4)) → gv_X (gr_E ws0 tb 0 (yX13_sign, cX13_sign, 2, (some .boolean)) kX13_sign) (gv_Q cX13_sign (some .boolean) (gr_sh ++ ext) (fun r hₚ => (hₚ = gr_h I J ∧ (∃ z : Int, r = some (.inl z) ∧ 0 ≤ z ∧ z ≤ 1 ∧ (z = 0 ∨ I 0 71 = 4))))) (26, [], [.inl s0_2], gr_sh ++ ext, gr_h I J) := by
    intro s0_2 m_2
    obtain ⟨hs0_2, e0_2⟩ := gz_h2 m_2
    exact gv_zret hD rfl (by (/-0-/first | (have o1 := gz_sh hs0_2; omega) | (simp only [gz_hd] at *; omega))) ⟨rfl, ⟨_, rfl, by (/-1-/first | (and_intros; (have o1 := gz_sh hs0_2; omega); (have o1 := gz_sh hs0_2; omega); (have o1 := gz_sh e0_2; have o2 := gz_sh f1; have o3 := gz_sh hs0_2; omega)) | (simp only [gz_hd] at *; omega))⟩⟩
  have L25 : gv_X (gr_E ws0 tb 0 (yX13_sign, cX13_sign, 2, (some .boolean)) kX13_sign) (gv_Q cX13_sign (some .boolean) (gr_sh ++ ext) (fun r hₚ => (hₚ = gr_h I J ∧ (∃ z : Int, r = some (.inl z) ∧ 0 ≤ z ∧ z ≤ 1 ∧ (z = 0 ∨ I 0 71 = 4))))) (25, [], [], gr_sh ++ ext, gr_h I J) := by
    refine gv_run 1 true hD (pcₚ := 26) (lvₚ := []) (stₚ := [.inl 0]) (hₚ := gr_h I J) (C := (True ∧ True)) rfl ⟨trivial, trivial⟩ ?_
    exact L26 0 (by (/-2-/first | (and_intros <;> omega) | (simp only [gz_hd] at *; omega)))
  refine gv_run 3 true hD (pcₚ := 5) (lvₚ := [(0, .inr (.inr (some 0))), (1, .inl a1)]) (stₚ := [.inl 4, .inl (I 0 71)]) (hₚ := gr_h I J) (C := (((True ∧ True) ∧ True) ∧ True)) rfl ⟨⟨⟨trivial, trivial⟩, trivial⟩, trivial⟩ ?_
  refine gv_icmp_ne (t := 25) hD rfl rfl ⟨⟨by (/-3-/first | (have o1 := gz_sh f1; omega) | (simp only [gz_hd] at *; omega)), by (/-4-/first | (have o1 := gz_sh f1; omega) | (simp only [gz_hd] at *; omega))⟩, ⟨by (/-5-/first | omega | (simp only [gz_hd] at *; omega)), by (/-6-/first | omega | (simp only [gz_hd] at *; omega))⟩⟩ (fun c7 => ?_) (fun c7 => ?_)
  · refine gv_pick [] rfl ?_
    exact L25 
  · have f8 := gz_hi ((gr_b_0_72 hI))
    have f9 := gz_hi ((gr_b_57 hI (Int.toNat ((I 0 72)))))
    refine gv_run 5 true hD (pcₚ := 17) (lvₚ := [(0, .inr (.inr (some 0))), (1, .inl a1)]) (stₚ := [.inl (I 57 (Int.toNat ((I 0 72))))]) (hₚ := gr_h I J) (C := (((((True ∧ True) ∧ True) ∧ True) ∧ True) ∧ (0 ≤ (I 0 72) ∧ (I 0 72) < ((1000 : Nat) : Int)))) rfl ⟨⟨⟨⟨⟨trivial, trivial⟩, trivial⟩, trivial⟩, trivial⟩, ⟨by (/-7-/first | (have o1 := gz_sh f8; omega) | (simp only [gz_hd] at *; omega)), by (/-8-/first | omega | (simp only [gz_hd] at *; omega))⟩⟩ ?_
    refine gv_run 1 true hD (pcₚ := 18) (lvₚ := [(0, .inr (.inr (some 0))), (1, .inl a1)]) (stₚ := [.inl a1, .inl (I 57 (Int.toNat ((I 0 72))))]) (hₚ := gr_h I J) (C := (True ∧ True)) rfl ⟨trivial, trivial⟩ ?_
    refine gv_icmp_ne (t := 25) hD rfl rfl ⟨⟨by (/-9-/first | (have o1 := gz_sh f9; omega) | (simp only [gz_hd] at *; omega)), by (/-10-/first | (have o1 := gz_sh f9; omega) | (simp only [gz_hd] at *; omega))⟩, ⟨by (/-11-/first | omega | (simp only [gz_hd] at *; omega)), by (/-12-/first | omega | (simp only [gz_hd] at *; omega))⟩⟩ (fun c10 => ?_) (fun c10 => ?_)
    · refine gv_pick [] rfl ?_
      exact L25 
    · refine gv_run 2 true hD (pcₚ := 26) (lvₚ := [(0, .inr (.inr (some 0))), (1, .inl a1)]) (stₚ := [.inl 1]) (hₚ := gr_h I J) (C := ((True ∧ True) ∧ True)) rfl ⟨⟨trivial, trivial⟩, trivial⟩ ?_
      refine gv_pick [] rfl ?_
      exact L26 1 (by (/-13-/first | (and_intros <;> omega) | (simp only [gz_hd] at *; omega)))
set_option maxHeartbeats 8000000 in
set_option maxRecDepth 100000 in
theorem r_same {ws0 : List Cond} {tb : String → gz_T} (hws : ∀ w ∈ gr_ws, w ∈ ws0) (htb : tb RX13 = gr_T) (ext : gz_Sh) (I : gr_I) (J : gr_J) (hI : gr_Inv I) (a1 : Int) (a2 : Int) (ha1 : (-2147483648) ≤ a1 ∧ a1 ≤ 2147483647) (ha2 : (-2147483648) ≤ a2 ∧ a2 ≤ 2147483647)  : ∃ r hₚ, gz_Ev ws0 tb 1 (yX13_same, cX13_same, 4, (some .boolean)) [.inr (.inr (some 0)), .inl a1, .inl a2] (gr_sh ++ ext) (gr_h I J) r (gr_sh ++ ext) hₚ 0 0 ∧ (∃ (Iₚ : gr_I) (Jₚ : gr_J), hₚ = gr_h Iₚ Jₚ ∧ gr_Inv Iₚ ∧ gr_fr [0] [] I Iₚ ∧ gr_fj [0] [] J Jₚ ∧ (∃ z : Int, r = some (.inl z) ∧ 0 ≤ z ∧ z ≤ 1)) := by
  have FI : gr_fr [0] [] I I := fun _ _ _ => rfl
  have FJ : gr_fj [0] [] J J := fun _ _ _ => rfl
  have hD : gv_D (gr_E ws0 tb 0 (yX13_same, cX13_same, 4, (some .boolean)) kX13_same) := gq_of oX13_same
  refine gr_ev (d := 0) (l := kX13_same) (Po := fun r hₚ => (∃ (Iₚ : gr_I) (Jₚ : gr_J), hₚ = gr_h Iₚ Jₚ ∧ gr_Inv Iₚ ∧ gr_fr [0] [] I Iₚ ∧ gr_fj [0] [] J Jₚ ∧ (∃ z : Int, r = some (.inl z) ∧ 0 ≤ z ∧ z ≤ 1))) htb rfl (Nat.le_of_ble_eq_true rfl) ?_
  have L26 : ∀ (s1_2 : Int), (((-2147483648) ≤ a1 ∧ a1 ≤ 2147483647) ∧ ((-2147483648) ≤ a2 ∧ a2 ≤ 2147483647) ∧ (0 ≤ s1_2 ∧ s1_2 ≤ 1) ∧ (s1_2 = 0 → 0 ≤ a1 ∧ a1 ≤ 7 ∧ 0 ≤ a2 ∧ a2 ≤ 7)) → gv_X (gr_E ws0 tb 0 (yX13_same, cX13_same, 4, (some .boolean)) kX13_same) (gv_Q cX13_same (some .boolean) (gr_sh ++ ext) (fun r hₚ => (∃ (Iₚ : gr_I) (Jₚ : gr_J), hₚ = gr_h Iₚ Jₚ ∧ gr_Inv Iₚ ∧ gr_fr [0] [] I Iₚ ∧ gr_fj [0] [] J Jₚ ∧ (∃ z : Int, r = some (.inl z) ∧ 0 ≤ z ∧ z ≤ 1)))) (26, [(0, .inr (.inr (some 0))), (1, .inl a1), (2, .inl a2)], [.inl s1_2, .inr (.inr (some 0))], gr_sh ++ ext, gr_h I J) := by
    intro s1_2 m_2
    obtain ⟨ha1_2, ha2_2, hs1_2, e0_2⟩ := gz_h4 m_2
    have L51 : ∀ (I4 : gr_I) (J5 : gr_J) , gr_Inv I4 → gr_fr [0] [] I I4 → gr_fj [0] [] J J5 → gv_X (gr_E ws0 tb 0 (yX13_same, cX13_same, 4, (some .boolean)) kX13_same) (gv_Q cX13_same (some .boolean) (gr_sh ++ ext) (fun r hₚ => (∃ (Iₚ : gr_I) (Jₚ : gr_J), hₚ = gr_h Iₚ Jₚ ∧ gr_Inv Iₚ ∧ gr_fr [0] [] I Iₚ ∧ gr_fj [0] [] J Jₚ ∧ (∃ z : Int, r = some (.inl z) ∧ 0 ≤ z ∧ z ≤ 1)))) (51, [], [], gr_sh ++ ext, gr_h I4 J5) := by
      intro I4 J5 hI4 FI4 FJ5
      refine gv_run 1 true hD (pcₚ := 52) (lvₚ := []) (stₚ := [.inl 0]) (hₚ := gr_h I4 J5) (C := (True ∧ True)) rfl ⟨trivial, trivial⟩ ?_
      exact gv_zret hD rfl (by (/-0-/first | omega | (simp only [gz_hd] at *; omega))) ⟨I4, J5, rfl, hI4, FI4, FJ5, ⟨_, rfl, by (/-1-/first | (and_intros <;> omega) | (simp only [gz_hd] at *; omega))⟩⟩
    have L55 : ∀ (n : Nat) (I8 : gr_I) (J9 : gr_J) (v3_10 : Int), (61 - v3_10).toNat < n → gr_Inv I8 → gr_fr [0] [] I I8 → gr_fj [0] [] J J9 → ((0 ≤ a1 ∧ a1 ≤ 7) ∧ (0 ≤ a2 ∧ a2 ≤ 7) ∧ (0 ≤ v3_10 ∧ v3_10 ≤ 60)) → gv_X (gr_E ws0 tb 0 (yX13_same, cX13_same, 4, (some .boolean)) kX13_same) (gv_Q cX13_same (some .boolean) (gr_sh ++ ext) (fun r hₚ => (∃ (Iₚ : gr_I) (Jₚ : gr_J), hₚ = gr_h Iₚ Jₚ ∧ gr_Inv Iₚ ∧ gr_fr [0] [] I Iₚ ∧ gr_fj [0] [] J Jₚ ∧ (∃ z : Int, r = some (.inl z) ∧ 0 ≤ z ∧ z ≤ 1)))) (55, [(0, .inr (.inr (some 0))), (1, .inl a1), (2, .inl a2), (3, .inl v3_10)], [], gr_sh ++ ext, gr_h I8 J9) := by
      intro n
      induction n with
      | zero => intro I8 J9 v3_10 hn; (/-2-/first | omega | (simp only [gz_hd] at *; omega))
      | succ n ih55 =>
        intro I8 J9 v3_10 hn hI8 FI8 FJ9 m_10
        obtain ⟨ha1_10, ha2_10, hv3_10⟩ := gz_h3 m_10
        have f12 := gz_hi ((gr_b_115 hI8 (Int.toNat a1)))
        refine gv_run 5 true hD (pcₚ := 62) (lvₚ := [(0, .inr (.inr (some 0))), (1, .inl a1), (2, .inl a2), (3, .inl v3_10)]) (stₚ := [.inl (I8 115 (Int.toNat a1)), .inl v3_10]) (hₚ := gr_h I8 J9) (C := (((((True ∧ True) ∧ True) ∧ True) ∧ True) ∧ (0 ≤ a1 ∧ a1 < ((8 : Nat) : Int)))) rfl ⟨⟨⟨⟨⟨trivial, trivial⟩, trivial⟩, trivial⟩, trivial⟩, ⟨by (/-3-/first | (have o1 := gz_sh ha1_10; omega) | (simp only [gz_hd] at *; omega)), by (/-4-/first | (have o1 := gz_sh ha1_10; omega) | (simp only [gz_hd] at *; omega))⟩⟩ ?_
        refine gv_icmp_ge (t := 98) hD rfl rfl ⟨⟨by (/-5-/first | (have o1 := gz_sh hv3_10; omega) | (simp only [gz_hd] at *; omega)), by (/-6-/first | (have o1 := gz_sh hv3_10; omega) | (simp only [gz_hd] at *; omega))⟩, ⟨by (/-7-/first | (have o1 := gz_sh f12; omega) | (simp only [gz_hd] at *; omega)), by (/-8-/first | (have o1 := gz_sh f12; omega) | (simp only [gz_hd] at *; omega))⟩⟩ (fun c13 => ?_) (fun c13 => ?_)
        · refine gv_run 1 true hD (pcₚ := 99) (lvₚ := [(0, .inr (.inr (some 0))), (1, .inl a1), (2, .inl a2), (3, .inl v3_10)]) (stₚ := [.inl 1]) (hₚ := gr_h I8 J9) (C := (True ∧ True)) rfl ⟨trivial, trivial⟩ ?_
          exact gv_zret hD rfl (by (/-9-/first | omega | (simp only [gz_hd] at *; omega))) ⟨I8, J9, rfl, hI8, FI8, FJ9, ⟨_, rfl, by (/-10-/first | (and_intros <;> omega) | (simp only [gz_hd] at *; omega))⟩⟩
        · refine gv_run 7 true hD (pcₚ := 75) (lvₚ := [(0, .inr (.inr (some 0))), (1, .inl a1), (2, .inl a2), (3, .inl v3_10)]) (stₚ := [.inl ((60 * a1) + v3_10), .inr (.inr (some 114))]) (hₚ := gr_h I8 J9) (C := (((((((True ∧ True) ∧ True) ∧ True) ∧ True) ∧ True) ∧ True) ∧ True)) rfl ⟨⟨⟨⟨⟨⟨⟨trivial, trivial⟩, trivial⟩, trivial⟩, trivial⟩, trivial⟩, trivial⟩, trivial⟩ ?_
          have f14 := gz_hi ((gr_b_114 hI8 (Int.toNat (((60 * a1) + v3_10)))))
          refine gv_run 1 true hD (pcₚ := 76) (lvₚ := [(0, .inr (.inr (some 0))), (1, .inl a1), (2, .inl a2), (3, .inl v3_10)]) (stₚ := [.inl (I8 114 (Int.toNat (((60 * a1) + v3_10))))]) (hₚ := gr_h I8 J9) (C := (True ∧ (0 ≤ (((60 * a1) + v3_10)) ∧ (((60 * a1) + v3_10)) < ((480 : Nat) : Int)))) rfl ⟨trivial, ⟨by (/-11-/first | (have o1 := gz_sh ha1_10; have o2 := gz_sh hv3_10; omega) | (simp only [gz_hd] at *; omega)), by (/-12-/first | (have o1 := gz_sh f12; have o2 := gz_sh ha1_10; omega) | (simp only [gz_hd] at *; omega))⟩⟩ ?_
          refine gv_run 7 true hD (pcₚ := 86) (lvₚ := [(0, .inr (.inr (some 0))), (1, .inl a1), (2, .inl a2), (3, .inl v3_10)]) (stₚ := [.inl ((60 * a2) + v3_10), .inr (.inr (some 114)), .inl (I8 114 (Int.toNat (((60 * a1) + v3_10))))]) (hₚ := gr_h I8 J9) (C := (((((((True ∧ True) ∧ True) ∧ True) ∧ True) ∧ True) ∧ True) ∧ True)) rfl ⟨⟨⟨⟨⟨⟨⟨trivial, trivial⟩, trivial⟩, trivial⟩, trivial⟩, trivial⟩, trivial⟩, trivial⟩ ?_
          have f15 := gz_hi ((gr_b_114 hI8 (Int.toNat (((60 * a2) + v3_10)))))
          refine gv_run 1 true hD (pcₚ := 87) (lvₚ := [(0, .inr (.inr (some 0))), (1, .inl a1), (2, .inl a2), (3, .inl v3_10)]) (stₚ := [.inl (I8 114 (Int.toNat (((60 * a2) + v3_10)))), .inl (I8 114 (Int.toNat (((60 * a1) + v3_10))))]) (hₚ := gr_h I8 J9) (C := (True ∧ (0 ≤ (((60 * a2) + v3_10)) ∧ (((60 * a2) + v3_10)) < ((480 : Nat) : Int)))) rfl ⟨trivial, ⟨by (/-13-/first | (have o1 := gz_sh ha2_10; have o2 := gz_sh hv3_10; omega) | (simp only [gz_hd] at *; omega)), by (/-14-/first | (have o1 := gz_sh f12; have o2 := gz_sh ha2_10; omega) | (simp only [gz_hd] at *; omega))⟩⟩ ?_
          refine gv_icmp_eq (t := 92) hD rfl rfl ⟨⟨by (/-15-/first | (have o1 := gz_sh f14; omega) | (simp only [gz_hd] at *; omega)), by (/-16-/first | (have o1 := gz_sh f14; omega) | (simp only [gz_hd] at *; omega))⟩, ⟨by (/-17-/first | (have o1 := gz_sh f15; omega) | (simp only [gz_hd] at *; omega)), by (/-18-/first | (have o1 := gz_sh f15; omega) | (simp only [gz_hd] at *; omega))⟩⟩ (fun c16 => ?_) (fun c16 => ?_)
          · refine gv_run 2 true hD (pcₚ := 55) (lvₚ := [(3, .inl (v3_10 + 1)), (0, .inr (.inr (some 0))), (1, .inl a1), (2, .inl a2)]) (stₚ := []) (hₚ := gr_h I8 J9) (C := ((True ∧ True) ∧ True)) rfl ⟨⟨trivial, trivial⟩, trivial⟩ ?_
            refine gv_pick [1, 2, 3, 0] rfl ?_
            exact ih55 I8 J9 (v3_10 + 1) (by (/-19-/first | (have o1 := gz_sh f12; have o2 := gz_sh hv3_10; omega) | (simp only [gz_hd] at *; omega))) hI8 FI8 FJ9 (by (/-20-/first | (and_intros; (have o1 := gz_sh ha1_10; omega); (have o1 := gz_sh ha1_10; omega); (have o1 := gz_sh ha2_10; omega); (have o1 := gz_sh ha2_10; omega); (have o1 := gz_sh hv3_10; omega); (have o1 := gz_sh f12; omega)) | (simp only [gz_hd] at *; omega)))
          · refine gv_run 1 true hD (pcₚ := 91) (lvₚ := [(0, .inr (.inr (some 0))), (1, .inl a1), (2, .inl a2), (3, .inl v3_10)]) (stₚ := [.inl 0]) (hₚ := gr_h I8 J9) (C := (True ∧ True)) rfl ⟨trivial, trivial⟩ ?_
            exact gv_zret hD rfl (by (/-21-/first | omega | (simp only [gz_hd] at *; omega))) ⟨I8, J9, rfl, hI8, FI8, FJ9, ⟨_, rfl, by (/-22-/first | (and_intros <;> omega) | (simp only [gz_hd] at *; omega))⟩⟩
    refine gv_run 1 true hD (pcₚ := 29) (lvₚ := [(0, .inr (.inr (some 0))), (1, .inl a1), (2, .inl a2)]) (stₚ := []) (hₚ := gz_up (gr_h I J) 0 0 (.inl s1_2)) (C := (True ∧ True)) rfl ⟨trivial, trivial⟩ ?_
    refine gr_st hI FI rfl rfl ⟨⟨by show 0 ≤ _; (/-23-/first | (have o1 := gz_sh hs1_2; omega) | (simp only [gz_hd] at *; omega)), by show _ ≤ 2; (/-24-/first | (have o1 := gz_sh hs1_2; omega) | (simp only [gz_hd] at *; omega))⟩, trivial⟩ (fun I17 hI17 FI17 q18 p18 => ?_)
    refine gv_run 2 true hD (pcₚ := 33) (lvₚ := [(0, .inr (.inr (some 0))), (1, .inl a1), (2, .inl a2)]) (stₚ := [.inl (I17 0 0)]) (hₚ := gr_h I17 J) (C := ((True ∧ True) ∧ True)) rfl ⟨⟨trivial, trivial⟩, trivial⟩ ?_
    refine gv_if_ne (t := 51) hD rfl rfl ⟨by (/-25-/first | (have o1 := gz_sh hs1_2; omega) | (simp only [gz_hd] at *; omega)), by (/-26-/first | (have o1 := gz_sh hs1_2; omega) | (simp only [gz_hd] at *; omega))⟩ (fun c21 => ?_) (fun c21 => ?_)
    · refine gv_pick [] rfl ?_
      exact L51 I17 J hI17 FI17 FJ
    · have f22 := gz_hi ((gr_b_115 hI17 (Int.toNat a1)))
      refine gv_run 4 true hD (pcₚ := 42) (lvₚ := [(0, .inr (.inr (some 0))), (1, .inl a1), (2, .inl a2)]) (stₚ := [.inl (I17 115 (Int.toNat a1))]) (hₚ := gr_h I17 J) (C := ((((True ∧ True) ∧ True) ∧ True) ∧ (0 ≤ a1 ∧ a1 < ((8 : Nat) : Int)))) rfl ⟨⟨⟨⟨trivial, trivial⟩, trivial⟩, trivial⟩, ⟨by (/-27-/first | (have o1 := gz_sh e0_2; omega) | (simp only [gz_hd] at *; omega)), by (/-28-/first | (have o1 := gz_sh e0_2; omega) | (simp only [gz_hd] at *; omega))⟩⟩ ?_
      have f23 := gz_hi ((gr_b_115 hI17 (Int.toNat a2)))
      refine gv_run 4 true hD (pcₚ := 48) (lvₚ := [(0, .inr (.inr (some 0))), (1, .inl a1), (2, .inl a2)]) (stₚ := [.inl (I17 115 (Int.toNat a2)), .inl (I17 115 (Int.toNat a1))]) (hₚ := gr_h I17 J) (C := ((((True ∧ True) ∧ True) ∧ True) ∧ (0 ≤ a2 ∧ a2 < ((8 : Nat) : Int)))) rfl ⟨⟨⟨⟨trivial, trivial⟩, trivial⟩, trivial⟩, ⟨by (/-29-/first | (have o1 := gz_sh e0_2; omega) | (simp only [gz_hd] at *; omega)), by (/-30-/first | (have o1 := gz_sh e0_2; omega) | (simp only [gz_hd] at *; omega))⟩⟩ ?_
      refine gv_icmp_eq (t := 53) hD rfl rfl ⟨⟨by (/-31-/first | (have o1 := gz_sh f22; omega) | (simp only [gz_hd] at *; omega)), by (/-32-/first | (have o1 := gz_sh f22; omega) | (simp only [gz_hd] at *; omega))⟩, ⟨by (/-33-/first | (have o1 := gz_sh f23; omega) | (simp only [gz_hd] at *; omega)), by (/-34-/first | (have o1 := gz_sh f23; omega) | (simp only [gz_hd] at *; omega))⟩⟩ (fun c24 => ?_) (fun c24 => ?_)
      · refine gv_run 2 true hD (pcₚ := 55) (lvₚ := [(3, .inl 0), (0, .inr (.inr (some 0))), (1, .inl a1), (2, .inl a2)]) (stₚ := []) (hₚ := gr_h I17 J) (C := ((True ∧ True) ∧ True)) rfl ⟨⟨trivial, trivial⟩, trivial⟩ ?_
        refine gv_pick [1, 2, 3, 0] rfl ?_
        exact L55 _ I17 J 0 (Nat.lt_succ_self _) hI17 FI17 FJ (by (/-35-/first | (and_intros; (have o1 := gz_sh e0_2; omega); (have o1 := gz_sh e0_2; omega); (have o1 := gz_sh e0_2; omega); (have o1 := gz_sh e0_2; omega); (omega); (omega)) | (simp only [gz_hd] at *; omega)))
      · refine gv_pick [] rfl ?_
        exact L51 I17 J hI17 FI17 FJ
  have L21 : (((-2147483648) ≤ a1 ∧ a1 ≤ 2147483647) ∧ ((-2147483648) ≤ a2 ∧ a2 ≤ 2147483647)) → gv_X (gr_E ws0 tb 0 (yX13_same, cX13_same, 4, (some .boolean)) kX13_same) (gv_Q cX13_same (some .boolean) (gr_sh ++ ext) (fun r hₚ => (∃ (Iₚ : gr_I) (Jₚ : gr_J), hₚ = gr_h Iₚ Jₚ ∧ gr_Inv Iₚ ∧ gr_fr [0] [] I Iₚ ∧ gr_fj [0] [] J Jₚ ∧ (∃ z : Int, r = some (.inl z) ∧ 0 ≤ z ∧ z ≤ 1)))) (21, [(0, .inr (.inr (some 0))), (1, .inl a1), (2, .inl a2)], [.inr (.inr (some 0))], gr_sh ++ ext, gr_h I J) := by
    intro m_25
    obtain ⟨ha1_25, ha2_25⟩ := gz_h2 m_25
    refine gv_run 2 true hD (pcₚ := 26) (lvₚ := [(0, .inr (.inr (some 0))), (1, .inl a1), (2, .inl a2)]) (stₚ := [.inl 1, .inr (.inr (some 0))]) (hₚ := gr_h I J) (C := ((True ∧ True) ∧ True)) rfl ⟨⟨trivial, trivial⟩, trivial⟩ ?_
    exact L26 1 (by (/-36-/first | (and_intros <;> omega) | (simp only [gz_hd] at *; omega)))
  refine gv_run 2 true hD (pcₚ := 2) (lvₚ := [(0, .inr (.inr (some 0))), (1, .inl a1), (2, .inl a2)]) (stₚ := [.inl a1, .inr (.inr (some 0))]) (hₚ := gr_h I J) (C := ((True ∧ True) ∧ True)) rfl ⟨⟨trivial, trivial⟩, trivial⟩ ?_
  refine gv_if_lt (t := 21) hD rfl rfl ⟨by (/-37-/first | omega | (simp only [gz_hd] at *; omega)), by (/-38-/first | omega | (simp only [gz_hd] at *; omega))⟩ (fun c27 => ?_) (fun c27 => ?_)
  · exact L21 (by (/-39-/first | (and_intros <;> omega) | (simp only [gz_hd] at *; omega)))
  · refine gv_run 2 true hD (pcₚ := 8) (lvₚ := [(0, .inr (.inr (some 0))), (1, .inl a1), (2, .inl a2)]) (stₚ := [.inl 7, .inl a1, .inr (.inr (some 0))]) (hₚ := gr_h I J) (C := ((True ∧ True) ∧ True)) rfl ⟨⟨trivial, trivial⟩, trivial⟩ ?_
    refine gv_icmp_gt (t := 21) hD rfl rfl ⟨⟨by (/-40-/first | omega | (simp only [gz_hd] at *; omega)), by (/-41-/first | omega | (simp only [gz_hd] at *; omega))⟩, ⟨by (/-42-/first | omega | (simp only [gz_hd] at *; omega)), by (/-43-/first | omega | (simp only [gz_hd] at *; omega))⟩⟩ (fun c28 => ?_) (fun c28 => ?_)
    · exact L21 (by (/-44-/first | (and_intros <;> omega) | (simp only [gz_hd] at *; omega)))
    · refine gv_run 1 true hD (pcₚ := 12) (lvₚ := [(0, .inr (.inr (some 0))), (1, .inl a1), (2, .inl a2)]) (stₚ := [.inl a2, .inr (.inr (some 0))]) (hₚ := gr_h I J) (C := (True ∧ True)) rfl ⟨trivial, trivial⟩ ?_
      refine gv_if_lt (t := 21) hD rfl rfl ⟨by (/-45-/first | omega | (simp only [gz_hd] at *; omega)), by (/-46-/first | omega | (simp only [gz_hd] at *; omega))⟩ (fun c29 => ?_) (fun c29 => ?_)
      · exact L21 (by (/-47-/first | (and_intros <;> omega) | (simp only [gz_hd] at *; omega)))
      · refine gv_run 2 true hD (pcₚ := 18) (lvₚ := [(0, .inr (.inr (some 0))), (1, .inl a1), (2, .inl a2)]) (stₚ := [.inl 7, .inl a2, .inr (.inr (some 0))]) (hₚ := gr_h I J) (C := ((True ∧ True) ∧ True)) rfl ⟨⟨trivial, trivial⟩, trivial⟩ ?_
        refine gv_icmp_le (t := 25) hD rfl rfl ⟨⟨by (/-48-/first | omega | (simp only [gz_hd] at *; omega)), by (/-49-/first | omega | (simp only [gz_hd] at *; omega))⟩, ⟨by (/-50-/first | omega | (simp only [gz_hd] at *; omega)), by (/-51-/first | omega | (simp only [gz_hd] at *; omega))⟩⟩ (fun c30 => ?_) (fun c30 => ?_)
        · refine gv_run 1 true hD (pcₚ := 26) (lvₚ := [(0, .inr (.inr (some 0))), (1, .inl a1), (2, .inl a2)]) (stₚ := [.inl 0, .inr (.inr (some 0))]) (hₚ := gr_h I J) (C := (True ∧ True)) rfl ⟨trivial, trivial⟩ ?_
          exact L26 0 (by (/-52-/first | (and_intros <;> omega) | (simp only [gz_hd] at *; omega)))
        · exact L21 (by (/-53-/first | (and_intros <;> omega) | (simp only [gz_hd] at *; omega)))
set_option maxHeartbeats 8000000 in
set_option maxRecDepth 100000 in
theorem r_times {ws0 : List Cond} {tb : String → gz_T} (hws : ∀ w ∈ gr_ws, w ∈ ws0) (htb : tb RX13 = gr_T) (ext : gz_Sh) (I : gr_I) (J : gr_J) (hI : gr_Inv I) (a1 : Int64) (a2 : Int64)   : ∃ r hₚ, gz_Ev ws0 tb 1 (yX13_times, cX13_times, 4, (some .long)) [.inr (.inl a1), .inr (.inl a2)] (gr_sh ++ ext) (gr_h I J) r (gr_sh ++ ext) hₚ 0 0 ∧ (hₚ = gr_h I J ∧ (∃ z : Int64, r = some (.inr (.inl z)))) := by
  have hD : gv_D (gr_E ws0 tb 0 (yX13_times, cX13_times, 4, (some .long)) kX13_times) := gq_of oX13_times
  refine gr_ev (d := 0) (l := kX13_times) (Po := fun r hₚ => (hₚ = gr_h I J ∧ (∃ z : Int64, r = some (.inr (.inl z))))) htb rfl (Nat.le_of_ble_eq_true rfl) ?_
  have L25 : ∀ (s0_1 : Int64), gv_X (gr_E ws0 tb 0 (yX13_times, cX13_times, 4, (some .long)) kX13_times) (gv_Q cX13_times (some .long) (gr_sh ++ ext) (fun r hₚ => (hₚ = gr_h I J ∧ (∃ z : Int64, r = some (.inr (.inl z)))))) (25, [], [.inr (.inl s0_1)], gr_sh ++ ext, gr_h I J) := by
    intro s0_1
    exact gv_lret hD rfl ⟨rfl, ⟨_, rfl⟩⟩
  have L22 : gv_X (gr_E ws0 tb 0 (yX13_times, cX13_times, 4, (some .long)) kX13_times) (gv_Q cX13_times (some .long) (gr_sh ++ ext) (fun r hₚ => (hₚ = gr_h I J ∧ (∃ z : Int64, r = some (.inr (.inl z)))))) (22, [(0, .inr (.inl a1)), (2, .inr (.inl a2))], [], gr_sh ++ ext, gr_h I J) := by
    refine gv_run 3 true hD (pcₚ := 25) (lvₚ := [(0, .inr (.inl a1)), (2, .inr (.inl a2))]) (stₚ := [.inr (.inl (a1 * a2))]) (hₚ := gr_h I J) (C := (((True ∧ True) ∧ True) ∧ True)) rfl ⟨⟨⟨trivial, trivial⟩, trivial⟩, trivial⟩ ?_
    refine gv_pick [] rfl ?_
    exact L25 (a1 * a2)
  have f3 := gz_hi (gw_cmp (a1) ((Int64.ofNat 0)))
  refine gv_run 3 true hD (pcₚ := 3) (lvₚ := [(0, .inr (.inl a1)), (2, .inr (.inl a2))]) (stₚ := [.inl ((lg_cmp (a1) ((Int64.ofNat 0))).toInt)]) (hₚ := gr_h I J) (C := (((True ∧ True) ∧ True) ∧ True)) rfl ⟨⟨⟨trivial, trivial⟩, trivial⟩, trivial⟩ ?_
  refine gv_if_eq (t := 22) hD rfl rfl ⟨by (/-0-/first | (have o1 := gz_sh f3; omega) | (simp only [gz_hd] at *; omega)), by (/-1-/first | (have o1 := gz_sh f3; omega) | (simp only [gz_hd] at *; omega))⟩ (fun c4 => ?_) (fun c4 => ?_)
  · exact L22
  · have f5 := gz_hi (gw_cmp (a2) (((1000000000000000000) / a1)))
    refine gv_run 5 true hD (pcₚ := 13) (lvₚ := [(0, .inr (.inl a1)), (2, .inr (.inl a2))]) (stₚ := [.inl ((lg_cmp (a2) (((1000000000000000000) / a1))).toInt)]) (hₚ := gr_h I J) (C := (((((True ∧ True) ∧ True) ∧ True) ∧ (¬ a1 = 0)) ∧ True)) rfl ⟨⟨⟨⟨⟨trivial, trivial⟩, trivial⟩, trivial⟩, (by intro q; subst q; exact absurd (show (lg_cmp 0 (Int64.ofNat 0)).toInt = 0 by decide) (by assumption))⟩, trivial⟩ ?_
    refine gv_if_le (t := 22) hD rfl rfl ⟨by (/-2-/first | (have o1 := gz_sh f5; omega) | (simp only [gz_hd] at *; omega)), by (/-3-/first | (have o1 := gz_sh f5; omega) | (simp only [gz_hd] at *; omega))⟩ (fun c6 => ?_) (fun c6 => ?_)
    · exact L22
    · refine gv_run 2 true hD (pcₚ := 25) (lvₚ := [(0, .inr (.inl a1)), (2, .inr (.inl a2))]) (stₚ := [.inr (.inl (1000000000000000000))]) (hₚ := gr_h I J) (C := ((True ∧ True) ∧ True)) rfl ⟨⟨trivial, trivial⟩, trivial⟩ ?_
      refine gv_pick [] rfl ?_
      exact L25 (1000000000000000000)
set_option maxHeartbeats 8000000 in
set_option maxRecDepth 100000 in
theorem r_word__84 {ws0 : List Cond} {tb : String → gz_T} (hws : ∀ w ∈ gr_ws, w ∈ ws0) (htb : tb RX13 = gr_T) (ext : gz_Sh) (I : gr_I) (J : gr_J) (hI : gr_Inv I) (a1 : Int) (a3 : Int) (a4 : Int) (ha1 : 0 ≤ a1 ∧ a1 ≤ 23) (ha3 : 0 ≤ a3 ∧ a3 ≤ 576) (ha4 : 0 ≤ a4 ∧ a4 ≤ 24) (x0 : a3 + a4 ≤ 576) : ∃ r hₚ, gz_Ev ws0 tb 1 (yX13_word_, cX13_word_, 6, none) [.inr (.inr (some 0)), .inl a1, .inr (.inr (some 84)), .inl a3, .inl a4] (gr_sh ++ ext) (gr_h I J) r (gr_sh ++ ext) hₚ 0 0 ∧ (∃ (Iₚ : gr_I) (Jₚ : gr_J), hₚ = gr_h Iₚ Jₚ ∧ gr_Inv Iₚ ∧ gr_fr [] [83, 85] I Iₚ ∧ gr_fj [] [83, 85] J Jₚ ∧ r = none) := by
  have FI : gr_fr [] [83, 85] I I := fun _ _ _ => rfl
  have FJ : gr_fj [] [83, 85] J J := fun _ _ _ => rfl
  have hD : gv_D (gr_E ws0 tb 0 (yX13_word_, cX13_word_, 6, none) kX13_word_) := gq_of oX13_word_
  refine gr_ev (d := 0) (l := kX13_word_) (Po := fun r hₚ => (∃ (Iₚ : gr_I) (Jₚ : gr_J), hₚ = gr_h Iₚ Jₚ ∧ gr_Inv Iₚ ∧ gr_fr [] [83, 85] I Iₚ ∧ gr_fj [] [83, 85] J Jₚ ∧ r = none)) htb rfl (Nat.le_of_ble_eq_true rfl) ?_
  have L11 : ∀ (n : Nat) (I1 : gr_I) (J2 : gr_J) (v5_3 : Int), (25 - v5_3).toNat < n → gr_Inv I1 → gr_fr [] [83, 85] I I1 → gr_fj [] [83, 85] J J2 → ((0 ≤ a1 ∧ a1 ≤ 23) ∧ (0 ≤ a3 ∧ a3 ≤ 576) ∧ (0 ≤ a4 ∧ a4 ≤ 24) ∧ (0 ≤ v5_3 ∧ v5_3 ≤ 24)) → gv_X (gr_E ws0 tb 0 (yX13_word_, cX13_word_, 6, none) kX13_word_) (gv_Q cX13_word_ none (gr_sh ++ ext) (fun r hₚ => (∃ (Iₚ : gr_I) (Jₚ : gr_J), hₚ = gr_h Iₚ Jₚ ∧ gr_Inv Iₚ ∧ gr_fr [] [83, 85] I Iₚ ∧ gr_fj [] [83, 85] J Jₚ ∧ r = none))) (11, [(0, .inr (.inr (some 0))), (1, .inl a1), (2, .inr (.inr (some 84))), (3, .inl a3), (4, .inl a4), (5, .inl v5_3)], [], gr_sh ++ ext, gr_h I1 J2) := by
    intro n
    induction n with
    | zero => intro I1 J2 v5_3 hn; (/-0-/first | omega | (simp only [gz_hd] at *; omega))
    | succ n ih11 =>
      intro I1 J2 v5_3 hn hI1 FI1 FJ2 m_3
      obtain ⟨ha1_3, ha3_3, ha4_3, hv5_3⟩ := gz_h4 m_3
      refine gv_run 2 true hD (pcₚ := 15) (lvₚ := [(0, .inr (.inr (some 0))), (1, .inl a1), (2, .inr (.inr (some 84))), (3, .inl a3), (4, .inl a4), (5, .inl v5_3)]) (stₚ := [.inl a4, .inl v5_3]) (hₚ := gr_h I1 J2) (C := ((True ∧ True) ∧ True)) rfl ⟨⟨trivial, trivial⟩, trivial⟩ ?_
      refine gv_icmp_ge (t := 42) hD rfl rfl ⟨⟨by (/-1-/first | (have o1 := gz_sh hv5_3; omega) | (simp only [gz_hd] at *; omega)), by (/-2-/first | (have o1 := gz_sh hv5_3; omega) | (simp only [gz_hd] at *; omega))⟩, ⟨by (/-3-/first | omega | (simp only [gz_hd] at *; omega)), by (/-4-/first | omega | (simp only [gz_hd] at *; omega))⟩⟩ (fun c4 => ?_) (fun c4 => ?_)
      · exact gv_vret hD rfl ⟨I1, J2, rfl, hI1, FI1, FJ2, rfl⟩
      · refine gv_run 7 true hD (pcₚ := 29) (lvₚ := [(0, .inr (.inr (some 0))), (1, .inl a1), (2, .inr (.inr (some 84))), (3, .inl a3), (4, .inl a4), (5, .inl v5_3)]) (stₚ := [.inl ((24 * a1) + v5_3), .inr (.inr (some 83))]) (hₚ := gr_h I1 J2) (C := (((((((True ∧ True) ∧ True) ∧ True) ∧ True) ∧ True) ∧ True) ∧ True)) rfl ⟨⟨⟨⟨⟨⟨⟨trivial, trivial⟩, trivial⟩, trivial⟩, trivial⟩, trivial⟩, trivial⟩, trivial⟩ ?_
        refine gv_run 5 true hD (pcₚ := 35) (lvₚ := [(0, .inr (.inr (some 0))), (1, .inl a1), (2, .inr (.inr (some 84))), (3, .inl a3), (4, .inl a4), (5, .inl v5_3)]) (stₚ := [.inl (I1 84 (Int.toNat ((a3 + v5_3)))), .inl ((24 * a1) + v5_3), .inr (.inr (some 83))]) (hₚ := gr_h I1 J2) (C := (((((True ∧ True) ∧ True) ∧ True) ∧ True) ∧ (0 ≤ (a3 + v5_3) ∧ (a3 + v5_3) < ((576 : Nat) : Int)))) rfl ⟨⟨⟨⟨⟨trivial, trivial⟩, trivial⟩, trivial⟩, trivial⟩, ⟨by (/-5-/first | (have o1 := gz_sh hv5_3; omega) | (simp only [gz_hd] at *; omega)), by (/-6-/first | omega | (simp only [gz_hd] at *; omega))⟩⟩ ?_
        have f6 := gz_hi (gw_nar_byte (x := ((I1 84 (Int.toNat ((a3 + v5_3)))))))
        refine gv_run 1 true hD (pcₚ := 36) (lvₚ := [(0, .inr (.inr (some 0))), (1, .inl a1), (2, .inr (.inr (some 84))), (3, .inl a3), (4, .inl a4), (5, .inl v5_3)]) (stₚ := []) (hₚ := gz_up (gr_h I1 J2) 83 (Int.toNat (((24 * a1) + v5_3))) (.inl (((vp_nar .byte (Int32.ofInt ((I1 84 (Int.toNat ((a3 + v5_3))))))).toInt)))) (C := (True ∧ (0 ≤ (((24 * a1) + v5_3)) ∧ (((24 * a1) + v5_3)) < ((576 : Nat) : Int)))) rfl ⟨trivial, ⟨by (/-7-/first | (have o1 := gz_sh hv5_3; omega) | (simp only [gz_hd] at *; omega)), by (/-8-/first | omega | (simp only [gz_hd] at *; omega))⟩⟩ ?_
        refine gr_st hI1 FI1 rfl rfl ⟨⟨by show (-128) ≤ _; (/-9-/first | (have o1 := gz_sh f6; omega) | (simp only [gz_hd] at *; omega)), by show _ ≤ 127; (/-10-/first | (have o1 := gz_sh f6; omega) | (simp only [gz_hd] at *; omega))⟩, trivial⟩ (fun I7 hI7 FI7 q8 p8 => ?_)
        refine gv_run 2 true hD (pcₚ := 11) (lvₚ := [(5, .inl (v5_3 + 1)), (0, .inr (.inr (some 0))), (1, .inl a1), (2, .inr (.inr (some 84))), (3, .inl a3), (4, .inl a4)]) (stₚ := []) (hₚ := gr_h I7 J2) (C := ((True ∧ True) ∧ True)) rfl ⟨⟨trivial, trivial⟩, trivial⟩ ?_
        refine gv_pick [1, 2, 3, 4, 5, 0] rfl ?_
        exact ih11 I7 J2 (v5_3 + 1) (by (/-11-/first | (have o1 := gz_sh hv5_3; omega) | (simp only [gz_hd] at *; omega))) hI7 FI7 FJ2 (by (/-12-/first | (and_intros; (omega); (omega); (omega); (omega); (omega); (omega); (have o1 := gz_sh hv5_3; omega); (omega)) | (simp only [gz_hd] at *; omega)))
  refine gv_run 4 true hD (pcₚ := 7) (lvₚ := [(0, .inr (.inr (some 0))), (1, .inl a1), (2, .inr (.inr (some 84))), (3, .inl a3), (4, .inl a4)]) (stₚ := [.inl a4, .inl a1, .inr (.inr (some 85))]) (hₚ := gr_h I J) (C := ((((True ∧ True) ∧ True) ∧ True) ∧ True)) rfl ⟨⟨⟨⟨trivial, trivial⟩, trivial⟩, trivial⟩, trivial⟩ ?_
  refine gv_run 1 true hD (pcₚ := 8) (lvₚ := [(0, .inr (.inr (some 0))), (1, .inl a1), (2, .inr (.inr (some 84))), (3, .inl a3), (4, .inl a4)]) (stₚ := []) (hₚ := gz_up (gr_h I J) 85 (Int.toNat a1) (.inl a4)) (C := (True ∧ (0 ≤ a1 ∧ a1 < ((24 : Nat) : Int)))) rfl ⟨trivial, ⟨by (/-13-/first | omega | (simp only [gz_hd] at *; omega)), by (/-14-/first | omega | (simp only [gz_hd] at *; omega))⟩⟩ ?_
  refine gr_st hI FI rfl rfl ⟨⟨by show 0 ≤ _; (/-15-/first | omega | (simp only [gz_hd] at *; omega)), by show _ ≤ 24; (/-16-/first | omega | (simp only [gz_hd] at *; omega))⟩, trivial⟩ (fun I9 hI9 FI9 q10 p10 => ?_)
  refine gv_run 2 true hD (pcₚ := 11) (lvₚ := [(5, .inl 0), (0, .inr (.inr (some 0))), (1, .inl a1), (2, .inr (.inr (some 84))), (3, .inl a3), (4, .inl a4)]) (stₚ := []) (hₚ := gr_h I9 J) (C := ((True ∧ True) ∧ True)) rfl ⟨⟨trivial, trivial⟩, trivial⟩ ?_
  refine gv_pick [1, 2, 3, 4, 5, 0] rfl ?_
  exact L11 _ I9 J 0 (Nat.lt_succ_self _) hI9 FI9 FJ (by (/-17-/first | (and_intros <;> omega) | (simp only [gz_hd] at *; omega)))
set_option maxHeartbeats 8000000 in
set_option maxRecDepth 100000 in
theorem r_word__78 {ws0 : List Cond} {tb : String → gz_T} (hws : ∀ w ∈ gr_ws, w ∈ ws0) (htb : tb RX13 = gr_T) (ext : gz_Sh) (I : gr_I) (J : gr_J) (hI : gr_Inv I) (a1 : Int) (a3 : Int) (a4 : Int) (ha1 : 0 ≤ a1 ∧ a1 ≤ 23) (ha3 : 0 ≤ a3 ∧ a3 ≤ 36864) (ha4 : 0 ≤ a4 ∧ a4 ≤ 24) (x0 : a3 + a4 ≤ 36864) : ∃ r hₚ, gz_Ev ws0 tb 1 (yX13_word_, cX13_word_, 6, none) [.inr (.inr (some 0)), .inl a1, .inr (.inr (some 78)), .inl a3, .inl a4] (gr_sh ++ ext) (gr_h I J) r (gr_sh ++ ext) hₚ 0 0 ∧ (∃ (Iₚ : gr_I) (Jₚ : gr_J), hₚ = gr_h Iₚ Jₚ ∧ gr_Inv Iₚ ∧ gr_fr [] [83, 85] I Iₚ ∧ gr_fj [] [83, 85] J Jₚ ∧ r = none) := by
  have FI : gr_fr [] [83, 85] I I := fun _ _ _ => rfl
  have FJ : gr_fj [] [83, 85] J J := fun _ _ _ => rfl
  have hD : gv_D (gr_E ws0 tb 0 (yX13_word_, cX13_word_, 6, none) kX13_word_) := gq_of oX13_word_
  refine gr_ev (d := 0) (l := kX13_word_) (Po := fun r hₚ => (∃ (Iₚ : gr_I) (Jₚ : gr_J), hₚ = gr_h Iₚ Jₚ ∧ gr_Inv Iₚ ∧ gr_fr [] [83, 85] I Iₚ ∧ gr_fj [] [83, 85] J Jₚ ∧ r = none)) htb rfl (Nat.le_of_ble_eq_true rfl) ?_
  have L11 : ∀ (n : Nat) (I1 : gr_I) (J2 : gr_J) (v5_3 : Int), (25 - v5_3).toNat < n → gr_Inv I1 → gr_fr [] [83, 85] I I1 → gr_fj [] [83, 85] J J2 → ((0 ≤ a1 ∧ a1 ≤ 23) ∧ (0 ≤ a3 ∧ a3 ≤ 36864) ∧ (0 ≤ a4 ∧ a4 ≤ 24) ∧ (0 ≤ v5_3 ∧ v5_3 ≤ 24)) → gv_X (gr_E ws0 tb 0 (yX13_word_, cX13_word_, 6, none) kX13_word_) (gv_Q cX13_word_ none (gr_sh ++ ext) (fun r hₚ => (∃ (Iₚ : gr_I) (Jₚ : gr_J), hₚ = gr_h Iₚ Jₚ ∧ gr_Inv Iₚ ∧ gr_fr [] [83, 85] I Iₚ ∧ gr_fj [] [83, 85] J Jₚ ∧ r = none))) (11, [(0, .inr (.inr (some 0))), (1, .inl a1), (2, .inr (.inr (some 78))), (3, .inl a3), (4, .inl a4), (5, .inl v5_3)], [], gr_sh ++ ext, gr_h I1 J2) := by
    intro n
    induction n with
    | zero => intro I1 J2 v5_3 hn; (/-0-/first | omega | (simp only [gz_hd] at *; omega))
    | succ n ih11 =>
      intro I1 J2 v5_3 hn hI1 FI1 FJ2 m_3
      obtain ⟨ha1_3, ha3_3, ha4_3, hv5_3⟩ := gz_h4 m_3
      refine gv_run 2 true hD (pcₚ := 15) (lvₚ := [(0, .inr (.inr (some 0))), (1, .inl a1), (2, .inr (.inr (some 78))), (3, .inl a3), (4, .inl a4), (5, .inl v5_3)]) (stₚ := [.inl a4, .inl v5_3]) (hₚ := gr_h I1 J2) (C := ((True ∧ True) ∧ True)) rfl ⟨⟨trivial, trivial⟩, trivial⟩ ?_
      refine gv_icmp_ge (t := 42) hD rfl rfl ⟨⟨by (/-1-/first | (have o1 := gz_sh hv5_3; omega) | (simp only [gz_hd] at *; omega)), by (/-2-/first | (have o1 := gz_sh hv5_3; omega) | (simp only [gz_hd] at *; omega))⟩, ⟨by (/-3-/first | omega | (simp only [gz_hd] at *; omega)), by (/-4-/first | omega | (simp only [gz_hd] at *; omega))⟩⟩ (fun c4 => ?_) (fun c4 => ?_)
      · exact gv_vret hD rfl ⟨I1, J2, rfl, hI1, FI1, FJ2, rfl⟩
      · refine gv_run 7 true hD (pcₚ := 29) (lvₚ := [(0, .inr (.inr (some 0))), (1, .inl a1), (2, .inr (.inr (some 78))), (3, .inl a3), (4, .inl a4), (5, .inl v5_3)]) (stₚ := [.inl ((24 * a1) + v5_3), .inr (.inr (some 83))]) (hₚ := gr_h I1 J2) (C := (((((((True ∧ True) ∧ True) ∧ True) ∧ True) ∧ True) ∧ True) ∧ True)) rfl ⟨⟨⟨⟨⟨⟨⟨trivial, trivial⟩, trivial⟩, trivial⟩, trivial⟩, trivial⟩, trivial⟩, trivial⟩ ?_
        refine gv_run 5 true hD (pcₚ := 35) (lvₚ := [(0, .inr (.inr (some 0))), (1, .inl a1), (2, .inr (.inr (some 78))), (3, .inl a3), (4, .inl a4), (5, .inl v5_3)]) (stₚ := [.inl (I1 78 (Int.toNat ((a3 + v5_3)))), .inl ((24 * a1) + v5_3), .inr (.inr (some 83))]) (hₚ := gr_h I1 J2) (C := (((((True ∧ True) ∧ True) ∧ True) ∧ True) ∧ (0 ≤ (a3 + v5_3) ∧ (a3 + v5_3) < ((36864 : Nat) : Int)))) rfl ⟨⟨⟨⟨⟨trivial, trivial⟩, trivial⟩, trivial⟩, trivial⟩, ⟨by (/-5-/first | (have o1 := gz_sh hv5_3; omega) | (simp only [gz_hd] at *; omega)), by (/-6-/first | omega | (simp only [gz_hd] at *; omega))⟩⟩ ?_
        have f6 := gz_hi (gw_nar_byte (x := ((I1 78 (Int.toNat ((a3 + v5_3)))))))
        refine gv_run 1 true hD (pcₚ := 36) (lvₚ := [(0, .inr (.inr (some 0))), (1, .inl a1), (2, .inr (.inr (some 78))), (3, .inl a3), (4, .inl a4), (5, .inl v5_3)]) (stₚ := []) (hₚ := gz_up (gr_h I1 J2) 83 (Int.toNat (((24 * a1) + v5_3))) (.inl (((vp_nar .byte (Int32.ofInt ((I1 78 (Int.toNat ((a3 + v5_3))))))).toInt)))) (C := (True ∧ (0 ≤ (((24 * a1) + v5_3)) ∧ (((24 * a1) + v5_3)) < ((576 : Nat) : Int)))) rfl ⟨trivial, ⟨by (/-7-/first | (have o1 := gz_sh hv5_3; omega) | (simp only [gz_hd] at *; omega)), by (/-8-/first | omega | (simp only [gz_hd] at *; omega))⟩⟩ ?_
        refine gr_st hI1 FI1 rfl rfl ⟨⟨by show (-128) ≤ _; (/-9-/first | (have o1 := gz_sh f6; omega) | (simp only [gz_hd] at *; omega)), by show _ ≤ 127; (/-10-/first | (have o1 := gz_sh f6; omega) | (simp only [gz_hd] at *; omega))⟩, trivial⟩ (fun I7 hI7 FI7 q8 p8 => ?_)
        refine gv_run 2 true hD (pcₚ := 11) (lvₚ := [(5, .inl (v5_3 + 1)), (0, .inr (.inr (some 0))), (1, .inl a1), (2, .inr (.inr (some 78))), (3, .inl a3), (4, .inl a4)]) (stₚ := []) (hₚ := gr_h I7 J2) (C := ((True ∧ True) ∧ True)) rfl ⟨⟨trivial, trivial⟩, trivial⟩ ?_
        refine gv_pick [1, 2, 3, 4, 5, 0] rfl ?_
        exact ih11 I7 J2 (v5_3 + 1) (by (/-11-/first | (have o1 := gz_sh hv5_3; omega) | (simp only [gz_hd] at *; omega))) hI7 FI7 FJ2 (by (/-12-/first | (and_intros; (omega); (omega); (omega); (omega); (omega); (omega); (have o1 := gz_sh hv5_3; omega); (omega)) | (simp only [gz_hd] at *; omega)))
  refine gv_run 4 true hD (pcₚ := 7) (lvₚ := [(0, .inr (.inr (some 0))), (1, .inl a1), (2, .inr (.inr (some 78))), (3, .inl a3), (4, .inl a4)]) (stₚ := [.inl a4, .inl a1, .inr (.inr (some 85))]) (hₚ := gr_h I J) (C := ((((True ∧ True) ∧ True) ∧ True) ∧ True)) rfl ⟨⟨⟨⟨trivial, trivial⟩, trivial⟩, trivial⟩, trivial⟩ ?_
  refine gv_run 1 true hD (pcₚ := 8) (lvₚ := [(0, .inr (.inr (some 0))), (1, .inl a1), (2, .inr (.inr (some 78))), (3, .inl a3), (4, .inl a4)]) (stₚ := []) (hₚ := gz_up (gr_h I J) 85 (Int.toNat a1) (.inl a4)) (C := (True ∧ (0 ≤ a1 ∧ a1 < ((24 : Nat) : Int)))) rfl ⟨trivial, ⟨by (/-13-/first | omega | (simp only [gz_hd] at *; omega)), by (/-14-/first | omega | (simp only [gz_hd] at *; omega))⟩⟩ ?_
  refine gr_st hI FI rfl rfl ⟨⟨by show 0 ≤ _; (/-15-/first | omega | (simp only [gz_hd] at *; omega)), by show _ ≤ 24; (/-16-/first | omega | (simp only [gz_hd] at *; omega))⟩, trivial⟩ (fun I9 hI9 FI9 q10 p10 => ?_)
  refine gv_run 2 true hD (pcₚ := 11) (lvₚ := [(5, .inl 0), (0, .inr (.inr (some 0))), (1, .inl a1), (2, .inr (.inr (some 78))), (3, .inl a3), (4, .inl a4)]) (stₚ := []) (hₚ := gr_h I9 J) (C := ((True ∧ True) ∧ True)) rfl ⟨⟨trivial, trivial⟩, trivial⟩ ?_
  refine gv_pick [1, 2, 3, 4, 5, 0] rfl ?_
  exact L11 _ I9 J 0 (Nat.lt_succ_self _) hI9 FI9 FJ (by (/-17-/first | (and_intros <;> omega) | (simp only [gz_hd] at *; omega)))
