set_option maxHeartbeats 8000000 in
set_option maxRecDepth 100000 in
theorem d_X2_hash {ws0 : List Cond} {tb : String → gz_T} (hws : gc_Ws ws0) (htb : gc_tbs tb) (sh : gz_Sh) (ro : Nat → Nat) (I : gr_I) (J : gr_J) (A : gc_A) (hI : gc_Inv ro I) (m : Nat) (a1 : Nat) (a2 : Int) (a3 : Int) (S_a1 : sh[a1]? = some (true, 0, m)) (R_a1 : ro a1 = 1) (B_a1 : a1 < 1000000) (M_a1 : m < 2147483648) (ha2 : 0 ≤ a2 ∧ a2 ≤ 60000) (ha3 : 0 ≤ a3 ∧ a3 ≤ 1000) (x0 : a2 + a3 ≤ m) : ∃ r hₚ, gz_Ev ws0 tb 1 (yX2_hash, cX2_hash, 5, (some .int)) [.inr (.inr (some a1)), .inl a2, .inl a3] sh (gc_h sh I J A) r sh hₚ 0 0 ∧ (hₚ = gc_h sh I J A ∧ (∃ z : Int, r = some (.inl z) ∧ 0 ≤ z ∧ z ≤ 511)) := by
  have hD : gv_D (gc_E2 ws0 tb 0 (yX2_hash, cX2_hash, 5, (some .int)) kX2_hash) := gq_of oX2_hash
  refine gc_ev2 (d := 0) (l := kX2_hash) (Po := fun r hₚ => (hₚ = gc_h sh I J A ∧ (∃ z : Int, r = some (.inl z) ∧ 0 ≤ z ∧ z ≤ 511))) htb rfl (Nat.le_of_ble_eq_true rfl) ?_
  have L5 : ∀ (n9 : Nat) (v3_1 : Int) (v4_1 : Int), (61001 - v4_1).toNat < n9 → ((0 ≤ a2 ∧ a2 ≤ 60000) ∧ (0 ≤ a3 ∧ a3 ≤ 1000) ∧ (0 ≤ v4_1 ∧ v4_1 ≤ 61000)) → gv_X (gc_E2 ws0 tb 0 (yX2_hash, cX2_hash, 5, (some .int)) kX2_hash) (gv_Q cX2_hash (some .int) sh (fun r hₚ => (hₚ = gc_h sh I J A ∧ (∃ z : Int, r = some (.inl z) ∧ 0 ≤ z ∧ z ≤ 511)))) (5, [(0, .inr (.inr (some a1))), (1, .inl a2), (2, .inl a3), (3, .inl v3_1), (4, .inl v4_1)], [], sh, gc_h sh I J A) := by
    intro n9
    induction n9 with
    | zero => intro v3_1 v4_1 hn; (/-0-/first | omega | (simp only [gz_hd] at *; omega))
    | succ n9 ih5 =>
      intro v3_1 v4_1 hn m_1
      obtain ⟨ha2_1, ha3_1, hv4_1⟩ := gz_h3 m_1
      refine gv_run 4 true hD (pcₚ := 10) (lvₚ := [(0, .inr (.inr (some a1))), (1, .inl a2), (2, .inl a3), (3, .inl v3_1), (4, .inl v4_1)]) (stₚ := [.inl (a2 + a3), .inl v4_1]) (hₚ := gc_h sh I J A) (C := ((((True ∧ True) ∧ True) ∧ True) ∧ True)) rfl ⟨⟨⟨⟨trivial, trivial⟩, trivial⟩, trivial⟩, trivial⟩ ?_
      refine gv_icmp_ge (t := 29) hD rfl rfl ⟨⟨by (/-1-/first | (have o1 := gz_sh hv4_1; omega) | (simp only [gz_hd] at *; omega)), by (/-2-/first | (have o1 := gz_sh hv4_1; omega) | (simp only [gz_hd] at *; omega))⟩, ⟨by (/-3-/first | omega | (simp only [gz_hd] at *; omega)), by (/-4-/first | omega | (simp only [gz_hd] at *; omega))⟩⟩ (fun c2 => ?_) (fun c2 => ?_)
      · show gv_X _ _ (29, [(0, .inr (.inr (some a1))), (1, .inl a2), (2, .inl a3), (3, .inl v3_1), (4, .inl v4_1)], [], sh, gc_h sh I J A)
        have f5 := gz_hi (gw_and (x := (((Int32.ofInt v3_1 ^^^ Int32.ofInt (((Int32.ofInt v3_1 >>> (Int32.ofInt 9 &&& 31)).toInt))).toInt))) (y := 511) ⟨by (/-5-/first | omega | (simp only [gz_hd] at *; omega)), by (/-6-/first | omega | (simp only [gz_hd] at *; omega))⟩)
        refine gv_run 7 true hD (pcₚ := 39) (lvₚ := [(0, .inr (.inr (some a1))), (1, .inl a2), (2, .inl a3), (3, .inl v3_1), (4, .inl v4_1)]) (stₚ := [.inl ((Int32.ofInt (((Int32.ofInt v3_1 ^^^ Int32.ofInt (((Int32.ofInt v3_1 >>> (Int32.ofInt 9 &&& 31)).toInt))).toInt)) &&& Int32.ofInt 511).toInt)]) (hₚ := gc_h sh I J A) (C := (((((((True ∧ True) ∧ True) ∧ True) ∧ True) ∧ True) ∧ True) ∧ True)) rfl ⟨⟨⟨⟨⟨⟨⟨trivial, trivial⟩, trivial⟩, trivial⟩, trivial⟩, trivial⟩, trivial⟩, trivial⟩ ?_
        exact gv_iret hD rfl ⟨rfl, ⟨_, rfl, by (/-7-/first | (have o1 := gz_sh f5; omega) | (simp only [gz_hd] at *; omega))⟩⟩
      · show gv_X _ _ (13, [(0, .inr (.inr (some a1))), (1, .inl a2), (2, .inl a3), (3, .inl v3_1), (4, .inl v4_1)], [], sh, gc_h sh I J A)
        refine gv_run 5 true hD (pcₚ := 20) (lvₚ := [(0, .inr (.inr (some a1))), (1, .inl a2), (2, .inl a3), (3, .inl v3_1), (4, .inl v4_1)]) (stₚ := [.inl v4_1, .inr (.inr (some a1)), .inl (v3_1 * 31)]) (hₚ := gc_h sh I J A) (C := (((((True ∧ True) ∧ True) ∧ True) ∧ True) ∧ True)) rfl ⟨⟨⟨⟨⟨trivial, trivial⟩, trivial⟩, trivial⟩, trivial⟩, trivial⟩ ?_
        refine gv_bald hD rfl S_a1 (Or.inl rfl) ⟨by (/-8-/first | omega | (simp only [gz_hd] at *; omega)), B_a1⟩ ⟨by (/-9-/first | (have o1 := gz_sh hv4_1; omega) | (simp only [gz_hd] at *; omega)), by (/-10-/first | omega | (simp only [gz_hd] at *; omega))⟩ (gc_iI S_a1 rfl) ?_
        show gv_X _ _ (21, [(0, .inr (.inr (some a1))), (1, .inl a2), (2, .inl a3), (3, .inl v3_1), (4, .inl v4_1)], [.inl (I a1 (Int.toNat v4_1)), .inl (v3_1 * 31)], sh, gc_h sh I J A)
        refine gv_run 4 true hD (pcₚ := 5) (lvₚ := [(4, .inl (v4_1 + 1)), (3, .inl ((v3_1 * 31) + (I a1 (Int.toNat v4_1)))), (0, .inr (.inr (some a1))), (1, .inl a2), (2, .inl a3)]) (stₚ := []) (hₚ := gc_h sh I J A) (C := ((((True ∧ True) ∧ True) ∧ True) ∧ True)) rfl ⟨⟨⟨⟨trivial, trivial⟩, trivial⟩, trivial⟩, trivial⟩ ?_
        refine gv_pick [2, 3, 4, 1, 0] rfl ?_
        exact ih5 (((v3_1 * 31) + (I a1 (Int.toNat v4_1)))) (v4_1 + 1) (by (/-11-/first | (have o1 := gz_sh hv4_1; omega) | (simp only [gz_hd] at *; omega))) (by (/-12-/first | (and_intros; (omega); (omega); (omega); (omega); (have o1 := gz_sh hv4_1; omega); (omega)) | (simp only [gz_hd] at *; omega)))
  refine gv_run 4 true hD (pcₚ := 5) (lvₚ := [(4, .inl a2), (3, .inl 0), (0, .inr (.inr (some a1))), (1, .inl a2), (2, .inl a3)]) (stₚ := []) (hₚ := gc_h sh I J A) (C := ((((True ∧ True) ∧ True) ∧ True) ∧ True)) rfl ⟨⟨⟨⟨trivial, trivial⟩, trivial⟩, trivial⟩, trivial⟩ ?_
  refine gv_pick [2, 3, 4, 1, 0] rfl ?_
  exact L5 _ 0 a2 (Nat.lt_succ_self _) (by (/-13-/first | (and_intros <;> omega) | (simp only [gz_hd] at *; omega)))
set_option maxHeartbeats 8000000 in
set_option maxRecDepth 100000 in
theorem d_X2_endsWith {ws0 : List Cond} {tb : String → gz_T} (hws : gc_Ws ws0) (htb : gc_tbs tb) (sh : gz_Sh) (ro : Nat → Nat) (I : gr_I) (J : gr_J) (A : gc_A) (hI : gc_Inv ro I) (p : Nat) (m : Nat) (a1 : Int) (a2 : Nat) (a3 : Int) (a4 : Int) (hp : gc_isForms sh ro A p) (S_a2 : sh[a2]? = some (true, 0, m)) (R_a2 : ro a2 = 1) (B_a2 : a2 < 1000000) (M_a2 : m < 2147483648) (ha1 : 0 ≤ a1 ∧ a1 ≤ 1535) (ha3 : 0 ≤ a3 ∧ a3 ≤ 60000) (ha4 : 0 ≤ a4 ∧ a4 ≤ 24) (x0 : a3 + a4 ≤ m) : ∃ r hₚ, gz_Ev ws0 tb 1 (yX2_endsWith, cX2_endsWith, 7, (some .boolean)) [.inr (.inr (some p)), .inl a1, .inr (.inr (some a2)), .inl a3, .inl a4] sh (gc_h sh I J A) r sh hₚ 0 0 ∧ (hₚ = gc_h sh I J A ∧ (∃ z : Int, r = some (.inl z) ∧ 0 ≤ z ∧ z ≤ 1)) := by
  obtain ⟨S_p, R_p, B_p, A_p_0, S_20, R_20, B_20, A_p_1, S_p_1, R_p_1, B_p_1, A_p_2, S_p_2, R_p_2, B_p_2, A_p_3, S_p_3, R_p_3, B_p_3, A_p_4, S_p_4, R_p_4, B_p_4, A_p_5, S_p_5, R_p_5, B_p_5, S_p_6, R_p_6, B_p_6, S_p_7, R_p_7, B_p_7⟩ := id hp
  replace R_p := gz_hi R_p
  replace B_p := gz_hi B_p
  replace R_20 := gz_hi R_20
  replace B_20 := gz_hi B_20
  replace R_p_1 := gz_hi R_p_1
  replace B_p_1 := gz_hi B_p_1
  replace R_p_2 := gz_hi R_p_2
  replace B_p_2 := gz_hi B_p_2
  replace R_p_3 := gz_hi R_p_3
  replace B_p_3 := gz_hi B_p_3
  replace R_p_4 := gz_hi R_p_4
  replace B_p_4 := gz_hi B_p_4
  replace R_p_5 := gz_hi R_p_5
  replace B_p_5 := gz_hi B_p_5
  replace R_p_6 := gz_hi R_p_6
  replace B_p_6 := gz_hi B_p_6
  replace R_p_7 := gz_hi R_p_7
  replace B_p_7 := gz_hi B_p_7
  have hD : gv_D (gc_E2 ws0 tb 0 (yX2_endsWith, cX2_endsWith, 7, (some .boolean)) kX2_endsWith) := gq_of oX2_endsWith
  refine gc_ev2 (d := 0) (l := kX2_endsWith) (Po := fun r hₚ => (hₚ = gc_h sh I J A ∧ (∃ z : Int, r = some (.inl z) ∧ 0 ≤ z ∧ z ≤ 1))) htb rfl (Nat.le_of_ble_eq_true rfl) ?_
  have L32 : ∀ (n9 : Nat) (v5_1 : Int) (v6_1 : Int), (25 - v6_1).toNat < n9 → ((0 ≤ a3 ∧ a3 ≤ 60000) ∧ (0 ≤ a4 ∧ a4 ≤ 24) ∧ ((-25) ≤ v5_1 ∧ v5_1 ≤ 36864) ∧ (0 ≤ v6_1 ∧ v6_1 ≤ 24) ∧ (24 * a1 ≤ v5_1) ∧ (v5_1 + a4 ≤ 24 * a1 + 24)) → gv_X (gc_E2 ws0 tb 0 (yX2_endsWith, cX2_endsWith, 7, (some .boolean)) kX2_endsWith) (gv_Q cX2_endsWith (some .boolean) sh (fun r hₚ => (hₚ = gc_h sh I J A ∧ (∃ z : Int, r = some (.inl z) ∧ 0 ≤ z ∧ z ≤ 1)))) (32, [(0, .inr (.inr (some p))), (2, .inr (.inr (some a2))), (3, .inl a3), (4, .inl a4), (5, .inl v5_1), (6, .inl v6_1)], [], sh, gc_h sh I J A) := by
    intro n9
    induction n9 with
    | zero => intro v5_1 v6_1 hn; (/-0-/first | omega | (simp only [gz_hd] at *; omega))
    | succ n9 ih32 =>
      intro v5_1 v6_1 hn m_1
      obtain ⟨ha3_1, ha4_1, hv5_1, hv6_1, e0_1, e1_1⟩ := gz_h6 m_1
      refine gv_run 2 true hD (pcₚ := 36) (lvₚ := [(0, .inr (.inr (some p))), (2, .inr (.inr (some a2))), (3, .inl a3), (4, .inl a4), (5, .inl v5_1), (6, .inl v6_1)]) (stₚ := [.inl a4, .inl v6_1]) (hₚ := gc_h sh I J A) (C := ((True ∧ True) ∧ True)) rfl ⟨⟨trivial, trivial⟩, trivial⟩ ?_
      refine gv_icmp_ge (t := 66) hD rfl rfl ⟨⟨by (/-1-/first | (have o1 := gz_sh hv6_1; omega) | (simp only [gz_hd] at *; omega)), by (/-2-/first | (have o1 := gz_sh hv6_1; omega) | (simp only [gz_hd] at *; omega))⟩, ⟨by (/-3-/first | omega | (simp only [gz_hd] at *; omega)), by (/-4-/first | omega | (simp only [gz_hd] at *; omega))⟩⟩ (fun c2 => ?_) (fun c2 => ?_)
      · show gv_X _ _ (66, [(0, .inr (.inr (some p))), (2, .inr (.inr (some a2))), (3, .inl a3), (4, .inl a4), (5, .inl v5_1), (6, .inl v6_1)], [], sh, gc_h sh I J A)
        refine gv_run 1 true hD (pcₚ := 67) (lvₚ := [(0, .inr (.inr (some p))), (2, .inr (.inr (some a2))), (3, .inl a3), (4, .inl a4), (5, .inl v5_1), (6, .inl v6_1)]) (stₚ := [.inl 1]) (hₚ := gc_h sh I J A) (C := (True ∧ True)) rfl ⟨trivial, trivial⟩ ?_
        exact gv_zret hD rfl (by (/-5-/first | omega | (simp only [gz_hd] at *; omega))) ⟨rfl, ⟨_, rfl, by (/-6-/first | (and_intros <;> omega) | (simp only [gz_hd] at *; omega))⟩⟩
      · show gv_X _ _ (39, [(0, .inr (.inr (some p))), (2, .inr (.inr (some a2))), (3, .inl a3), (4, .inl a4), (5, .inl v5_1), (6, .inl v6_1)], [], sh, gc_h sh I J A)
        refine gv_run 1 true hD (pcₚ := 40) (lvₚ := [(0, .inr (.inr (some p))), (2, .inr (.inr (some a2))), (3, .inl a3), (4, .inl a4), (5, .inl v5_1), (6, .inl v6_1)]) (stₚ := [.inr (.inr (some p))]) (hₚ := gc_h sh I J A) (C := (True ∧ True)) rfl ⟨trivial, trivial⟩ ?_
        refine gv_get hD rfl rfl S_p ⟨by decide, (gz_sh B_p)⟩ (gc_hA S_p rfl A_p_1) ?_
        show gv_X _ _ (43, [(0, .inr (.inr (some p))), (2, .inr (.inr (some a2))), (3, .inl a3), (4, .inl a4), (5, .inl v5_1), (6, .inl v6_1)], [.inr (.inr (some (p + 1)))], sh, gc_h sh I J A)
        refine gv_run 3 true hD (pcₚ := 48) (lvₚ := [(0, .inr (.inr (some p))), (2, .inr (.inr (some a2))), (3, .inl a3), (4, .inl a4), (5, .inl v5_1), (6, .inl v6_1)]) (stₚ := [.inl (v5_1 + v6_1), .inr (.inr (some (p + 1)))]) (hₚ := gc_h sh I J A) (C := (((True ∧ True) ∧ True) ∧ True)) rfl ⟨⟨⟨trivial, trivial⟩, trivial⟩, trivial⟩ ?_
        have f3 := gz_hi ((show (-128) ≤ I (p + 1) (Int.toNat (v5_1 + v6_1)) ∧ I (p + 1) (Int.toNat (v5_1 + v6_1)) ≤ 127 from gc_in2 hI (gz_sh R_p_1) rfl rfl rfl))
        refine gv_bald hD rfl S_p_1 (Or.inl rfl) ⟨by decide, (gz_sh B_p_1)⟩ ⟨by (/-7-/first | (have o1 := gz_sh e0_1; have o2 := gz_sh hv6_1; omega) | (simp only [gz_hd] at *; omega)), by (/-8-/first | (have o1 := gz_sh e1_1; omega) | (simp only [gz_hd] at *; omega))⟩ (gc_iI S_p_1 rfl) ?_
        show gv_X _ _ (49, [(0, .inr (.inr (some p))), (2, .inr (.inr (some a2))), (3, .inl a3), (4, .inl a4), (5, .inl v5_1), (6, .inl v6_1)], [.inl (I (p + 1) (Int.toNat (v5_1 + v6_1)))], sh, gc_h sh I J A)
        refine gv_run 4 true hD (pcₚ := 54) (lvₚ := [(0, .inr (.inr (some p))), (2, .inr (.inr (some a2))), (3, .inl a3), (4, .inl a4), (5, .inl v5_1), (6, .inl v6_1)]) (stₚ := [.inl (a3 + v6_1), .inr (.inr (some a2)), .inl (I (p + 1) (Int.toNat (v5_1 + v6_1)))]) (hₚ := gc_h sh I J A) (C := ((((True ∧ True) ∧ True) ∧ True) ∧ True)) rfl ⟨⟨⟨⟨trivial, trivial⟩, trivial⟩, trivial⟩, trivial⟩ ?_
        have f4 := gz_hi ((show (-128) ≤ I a2 (Int.toNat (a3 + v6_1)) ∧ I a2 (Int.toNat (a3 + v6_1)) ≤ 127 from gc_in2 hI R_a2 rfl rfl rfl))
        refine gv_bald hD rfl S_a2 (Or.inl rfl) ⟨by (/-9-/first | omega | (simp only [gz_hd] at *; omega)), B_a2⟩ ⟨by (/-10-/first | (have o1 := gz_sh hv6_1; omega) | (simp only [gz_hd] at *; omega)), by (/-11-/first | omega | (simp only [gz_hd] at *; omega))⟩ (gc_iI S_a2 rfl) ?_
        show gv_X _ _ (55, [(0, .inr (.inr (some p))), (2, .inr (.inr (some a2))), (3, .inl a3), (4, .inl a4), (5, .inl v5_1), (6, .inl v6_1)], [.inl (I a2 (Int.toNat (a3 + v6_1))), .inl (I (p + 1) (Int.toNat (v5_1 + v6_1)))], sh, gc_h sh I J A)
        refine gv_icmp_eq (t := 60) hD rfl rfl ⟨⟨by (/-12-/first | (have o1 := gz_sh f3; omega) | (simp only [gz_hd] at *; omega)), by (/-13-/first | (have o1 := gz_sh f3; omega) | (simp only [gz_hd] at *; omega))⟩, ⟨by (/-14-/first | (have o1 := gz_sh f4; omega) | (simp only [gz_hd] at *; omega)), by (/-15-/first | (have o1 := gz_sh f4; omega) | (simp only [gz_hd] at *; omega))⟩⟩ (fun c5 => ?_) (fun c5 => ?_)
        · show gv_X _ _ (60, [(0, .inr (.inr (some p))), (2, .inr (.inr (some a2))), (3, .inl a3), (4, .inl a4), (5, .inl v5_1), (6, .inl v6_1)], [], sh, gc_h sh I J A)
          refine gv_run 2 true hD (pcₚ := 32) (lvₚ := [(6, .inl (v6_1 + 1)), (0, .inr (.inr (some p))), (2, .inr (.inr (some a2))), (3, .inl a3), (4, .inl a4), (5, .inl v5_1)]) (stₚ := []) (hₚ := gc_h sh I J A) (C := ((True ∧ True) ∧ True)) rfl ⟨⟨trivial, trivial⟩, trivial⟩ ?_
          refine gv_pick [1, 2, 3, 4, 5, 0] rfl ?_
          exact ih32 v5_1 (v6_1 + 1) (by (/-16-/first | (have o1 := gz_sh hv6_1; omega) | (simp only [gz_hd] at *; omega))) (by (/-17-/first | (and_intros; (omega); (omega); (omega); (omega); (have o1 := gz_sh hv5_1; omega); (have o1 := gz_sh hv5_1; omega); (have o1 := gz_sh hv6_1; omega); (omega); (have o1 := gz_sh e0_1; omega); (have o1 := gz_sh e1_1; omega)) | (simp only [gz_hd] at *; omega)))
        · show gv_X _ _ (58, [(0, .inr (.inr (some p))), (2, .inr (.inr (some a2))), (3, .inl a3), (4, .inl a4), (5, .inl v5_1), (6, .inl v6_1)], [], sh, gc_h sh I J A)
          refine gv_run 1 true hD (pcₚ := 59) (lvₚ := [(0, .inr (.inr (some p))), (2, .inr (.inr (some a2))), (3, .inl a3), (4, .inl a4), (5, .inl v5_1), (6, .inl v6_1)]) (stₚ := [.inl 0]) (hₚ := gc_h sh I J A) (C := (True ∧ True)) rfl ⟨trivial, trivial⟩ ?_
          exact gv_zret hD rfl (by (/-18-/first | omega | (simp only [gz_hd] at *; omega))) ⟨rfl, ⟨_, rfl, by (/-19-/first | (and_intros <;> omega) | (simp only [gz_hd] at *; omega))⟩⟩
  refine gv_run 1 true hD (pcₚ := 1) (lvₚ := [(0, .inr (.inr (some p))), (1, .inl a1), (2, .inr (.inr (some a2))), (3, .inl a3), (4, .inl a4)]) (stₚ := [.inr (.inr (some p))]) (hₚ := gc_h sh I J A) (C := (True ∧ True)) rfl ⟨trivial, trivial⟩ ?_
  refine gv_get hD rfl rfl S_p ⟨by decide, (gz_sh B_p)⟩ (gc_hA S_p rfl A_p_2) ?_
  show gv_X _ _ (4, [(0, .inr (.inr (some p))), (1, .inl a1), (2, .inr (.inr (some a2))), (3, .inl a3), (4, .inl a4)], [.inr (.inr (some (p + 2)))], sh, gc_h sh I J A)
  refine gv_run 1 true hD (pcₚ := 5) (lvₚ := [(0, .inr (.inr (some p))), (1, .inl a1), (2, .inr (.inr (some a2))), (3, .inl a3), (4, .inl a4)]) (stₚ := [.inl a1, .inr (.inr (some (p + 2)))]) (hₚ := gc_h sh I J A) (C := (True ∧ True)) rfl ⟨trivial, trivial⟩ ?_
  have f6 := gz_hi ((show (-1) ≤ I (p + 2) (Int.toNat a1) ∧ I (p + 2) (Int.toNat a1) ≤ 24 from gc_in2 hI (gz_sh R_p_2) rfl rfl rfl))
  refine gv_iald hD rfl S_p_2 rfl ⟨by decide, (gz_sh B_p_2)⟩ ⟨by (/-20-/first | omega | (simp only [gz_hd] at *; omega)), by (/-21-/first | omega | (simp only [gz_hd] at *; omega))⟩ (gc_iI S_p_2 rfl) ?_
  show gv_X _ _ (6, [(0, .inr (.inr (some p))), (1, .inl a1), (2, .inr (.inr (some a2))), (3, .inl a3), (4, .inl a4)], [.inl (I (p + 2) (Int.toNat a1))], sh, gc_h sh I J A)
  refine gv_run 1 true hD (pcₚ := 8) (lvₚ := [(0, .inr (.inr (some p))), (1, .inl a1), (2, .inr (.inr (some a2))), (3, .inl a3), (4, .inl a4)]) (stₚ := [.inl a4, .inl (I (p + 2) (Int.toNat a1))]) (hₚ := gc_h sh I J A) (C := (True ∧ True)) rfl ⟨trivial, trivial⟩ ?_
  refine gv_icmp_ge (t := 13) hD rfl rfl ⟨⟨by (/-22-/first | (have o1 := gz_sh f6; omega) | (simp only [gz_hd] at *; omega)), by (/-23-/first | (have o1 := gz_sh f6; omega) | (simp only [gz_hd] at *; omega))⟩, ⟨by (/-24-/first | omega | (simp only [gz_hd] at *; omega)), by (/-25-/first | omega | (simp only [gz_hd] at *; omega))⟩⟩ (fun c7 => ?_) (fun c7 => ?_)
  · show gv_X _ _ (13, [(0, .inr (.inr (some p))), (1, .inl a1), (2, .inr (.inr (some a2))), (3, .inl a3), (4, .inl a4)], [], sh, gc_h sh I J A)
    refine gv_run 4 true hD (pcₚ := 18) (lvₚ := [(0, .inr (.inr (some p))), (1, .inl a1), (2, .inr (.inr (some a2))), (3, .inl a3), (4, .inl a4)]) (stₚ := [.inr (.inr (some p)), .inl (a1 * 24)]) (hₚ := gc_h sh I J A) (C := ((((True ∧ True) ∧ True) ∧ True) ∧ True)) rfl ⟨⟨⟨⟨trivial, trivial⟩, trivial⟩, trivial⟩, trivial⟩ ?_
    refine gv_get hD rfl rfl S_p ⟨by decide, (gz_sh B_p)⟩ (gc_hA S_p rfl A_p_2) ?_
    show gv_X _ _ (21, [(0, .inr (.inr (some p))), (1, .inl a1), (2, .inr (.inr (some a2))), (3, .inl a3), (4, .inl a4)], [.inr (.inr (some (p + 2))), .inl (a1 * 24)], sh, gc_h sh I J A)
    refine gv_run 1 true hD (pcₚ := 22) (lvₚ := [(0, .inr (.inr (some p))), (1, .inl a1), (2, .inr (.inr (some a2))), (3, .inl a3), (4, .inl a4)]) (stₚ := [.inl a1, .inr (.inr (some (p + 2))), .inl (a1 * 24)]) (hₚ := gc_h sh I J A) (C := (True ∧ True)) rfl ⟨trivial, trivial⟩ ?_
    refine gv_iald hD rfl S_p_2 rfl ⟨by decide, (gz_sh B_p_2)⟩ ⟨by (/-26-/first | omega | (simp only [gz_hd] at *; omega)), by (/-27-/first | omega | (simp only [gz_hd] at *; omega))⟩ (gc_iI S_p_2 rfl) ?_
    show gv_X _ _ (23, [(0, .inr (.inr (some p))), (1, .inl a1), (2, .inr (.inr (some a2))), (3, .inl a3), (4, .inl a4)], [.inl (I (p + 2) (Int.toNat a1)), .inl (a1 * 24)], sh, gc_h sh I J A)
    refine gv_run 6 true hD (pcₚ := 32) (lvₚ := [(6, .inl 0), (5, .inl (((a1 * 24) + (I (p + 2) (Int.toNat a1))) - a4)), (0, .inr (.inr (some p))), (1, .inl a1), (2, .inr (.inr (some a2))), (3, .inl a3), (4, .inl a4)]) (stₚ := []) (hₚ := gc_h sh I J A) (C := ((((((True ∧ True) ∧ True) ∧ True) ∧ True) ∧ True) ∧ True)) rfl ⟨⟨⟨⟨⟨⟨trivial, trivial⟩, trivial⟩, trivial⟩, trivial⟩, trivial⟩, trivial⟩ ?_
    refine gv_pick [2, 4, 5, 6, 1, 0] rfl ?_
    exact L32 _ ((((a1 * 24) + (I (p + 2) (Int.toNat a1))) - a4)) 0 (Nat.lt_succ_self _) (by (/-28-/first | (and_intros; (omega); (omega); (omega); (omega); (have o1 := gz_sh f6; omega); (have o1 := gz_sh f6; omega); (omega); (omega); (omega); (have o1 := gz_sh f6; omega)) | (simp only [gz_hd] at *; omega)))
  · show gv_X _ _ (11, [(0, .inr (.inr (some p))), (1, .inl a1), (2, .inr (.inr (some a2))), (3, .inl a3), (4, .inl a4)], [], sh, gc_h sh I J A)
    refine gv_run 1 true hD (pcₚ := 12) (lvₚ := [(0, .inr (.inr (some p))), (1, .inl a1), (2, .inr (.inr (some a2))), (3, .inl a3), (4, .inl a4)]) (stₚ := [.inl 0]) (hₚ := gc_h sh I J A) (C := (True ∧ True)) rfl ⟨trivial, trivial⟩ ?_
    exact gv_zret hD rfl (by (/-29-/first | omega | (simp only [gz_hd] at *; omega))) ⟨rfl, ⟨_, rfl, by (/-30-/first | (and_intros <;> omega) | (simp only [gz_hd] at *; omega))⟩⟩
set_option maxHeartbeats 8000000 in
set_option maxRecDepth 100000 in
theorem d_X2_isForm {ws0 : List Cond} {tb : String → gz_T} (hws : gc_Ws ws0) (htb : gc_tbs tb) (sh : gz_Sh) (ro : Nat → Nat) (I : gr_I) (J : gr_J) (A : gc_A) (hI : gc_Inv ro I) (p : Nat) (m : Nat) (a1 : Int) (a2 : Nat) (a3 : Int) (a4 : Int) (hp : gc_isForms sh ro A p) (S_a2 : sh[a2]? = some (true, 0, m)) (R_a2 : ro a2 = 1) (B_a2 : a2 < 1000000) (M_a2 : m < 2147483648) (ha1 : 0 ≤ a1 ∧ a1 ≤ 1535) (ha3 : 0 ≤ a3 ∧ a3 ≤ 60000) (ha4 : 0 ≤ a4 ∧ a4 ≤ 24) (x0 : a3 + a4 ≤ m) : ∃ r hₚ, gz_Ev ws0 tb 2 (yX2_isForm, cX2_isForm, 5, (some .boolean)) [.inr (.inr (some p)), .inl a1, .inr (.inr (some a2)), .inl a3, .inl a4] sh (gc_h sh I J A) r sh hₚ 0 0 ∧ (hₚ = gc_h sh I J A ∧ (∃ z : Int, r = some (.inl z) ∧ 0 ≤ z ∧ z ≤ 1)) := by
  obtain ⟨S_p, R_p, B_p, A_p_0, S_20, R_20, B_20, A_p_1, S_p_1, R_p_1, B_p_1, A_p_2, S_p_2, R_p_2, B_p_2, A_p_3, S_p_3, R_p_3, B_p_3, A_p_4, S_p_4, R_p_4, B_p_4, A_p_5, S_p_5, R_p_5, B_p_5, S_p_6, R_p_6, B_p_6, S_p_7, R_p_7, B_p_7⟩ := id hp
  replace R_p := gz_hi R_p
  replace B_p := gz_hi B_p
  replace R_20 := gz_hi R_20
  replace B_20 := gz_hi B_20
  replace R_p_1 := gz_hi R_p_1
  replace B_p_1 := gz_hi B_p_1
  replace R_p_2 := gz_hi R_p_2
  replace B_p_2 := gz_hi B_p_2
  replace R_p_3 := gz_hi R_p_3
  replace B_p_3 := gz_hi B_p_3
  replace R_p_4 := gz_hi R_p_4
  replace B_p_4 := gz_hi B_p_4
  replace R_p_5 := gz_hi R_p_5
  replace B_p_5 := gz_hi B_p_5
  replace R_p_6 := gz_hi R_p_6
  replace B_p_6 := gz_hi B_p_6
  replace R_p_7 := gz_hi R_p_7
  replace B_p_7 := gz_hi B_p_7
  have hD : gv_D (gc_E2 ws0 tb 1 (yX2_isForm, cX2_isForm, 5, (some .boolean)) kX2_isForm) := gq_of oX2_isForm
  refine gc_ev2 (d := 1) (l := kX2_isForm) (Po := fun r hₚ => (hₚ = gc_h sh I J A ∧ (∃ z : Int, r = some (.inl z) ∧ 0 ≤ z ∧ z ≤ 1))) htb rfl (Nat.le_of_ble_eq_true rfl) ?_
  have L28 : ∀ (s0_1 : Int), ((0 ≤ s0_1 ∧ s0_1 ≤ 1)) → gv_X (gc_E2 ws0 tb 1 (yX2_isForm, cX2_isForm, 5, (some .boolean)) kX2_isForm) (gv_Q cX2_isForm (some .boolean) sh (fun r hₚ => (hₚ = gc_h sh I J A ∧ (∃ z : Int, r = some (.inl z) ∧ 0 ≤ z ∧ z ≤ 1)))) (28, [], [.inl s0_1], sh, gc_h sh I J A) := by
    intro s0_1 m_1
    have hs0_1 := m_1
    exact gv_zret hD rfl (by (/-0-/first | omega | (simp only [gz_hd] at *; omega))) ⟨rfl, ⟨_, rfl, by (/-1-/first | omega | (simp only [gz_hd] at *; omega))⟩⟩
  have L27 : gv_X (gc_E2 ws0 tb 1 (yX2_isForm, cX2_isForm, 5, (some .boolean)) kX2_isForm) (gv_Q cX2_isForm (some .boolean) sh (fun r hₚ => (hₚ = gc_h sh I J A ∧ (∃ z : Int, r = some (.inl z) ∧ 0 ≤ z ∧ z ≤ 1)))) (27, [], [], sh, gc_h sh I J A) := by
    refine gv_run 1 true hD (pcₚ := 28) (lvₚ := []) (stₚ := [.inl 0]) (hₚ := gc_h sh I J A) (C := (True ∧ True)) rfl ⟨trivial, trivial⟩ ?_
    exact L28 0 (by (/-2-/first | (and_intros <;> omega) | (simp only [gz_hd] at *; omega)))
  refine gv_run 1 true hD (pcₚ := 1) (lvₚ := [(0, .inr (.inr (some p))), (1, .inl a1), (2, .inr (.inr (some a2))), (3, .inl a3), (4, .inl a4)]) (stₚ := [.inr (.inr (some p))]) (hₚ := gc_h sh I J A) (C := (True ∧ True)) rfl ⟨trivial, trivial⟩ ?_
  refine gv_get hD rfl rfl S_p ⟨by decide, (gz_sh B_p)⟩ (gc_hA S_p rfl A_p_2) ?_
  show gv_X _ _ (4, [(0, .inr (.inr (some p))), (1, .inl a1), (2, .inr (.inr (some a2))), (3, .inl a3), (4, .inl a4)], [.inr (.inr (some (p + 2)))], sh, gc_h sh I J A)
  refine gv_run 1 true hD (pcₚ := 5) (lvₚ := [(0, .inr (.inr (some p))), (1, .inl a1), (2, .inr (.inr (some a2))), (3, .inl a3), (4, .inl a4)]) (stₚ := [.inl a1, .inr (.inr (some (p + 2)))]) (hₚ := gc_h sh I J A) (C := (True ∧ True)) rfl ⟨trivial, trivial⟩ ?_
  have f3 := gz_hi ((show (-1) ≤ I (p + 2) (Int.toNat a1) ∧ I (p + 2) (Int.toNat a1) ≤ 24 from gc_in2 hI (gz_sh R_p_2) rfl rfl rfl))
  refine gv_iald hD rfl S_p_2 rfl ⟨by decide, (gz_sh B_p_2)⟩ ⟨by (/-3-/first | omega | (simp only [gz_hd] at *; omega)), by (/-4-/first | omega | (simp only [gz_hd] at *; omega))⟩ (gc_iI S_p_2 rfl) ?_
  show gv_X _ _ (6, [(0, .inr (.inr (some p))), (1, .inl a1), (2, .inr (.inr (some a2))), (3, .inl a3), (4, .inl a4)], [.inl (I (p + 2) (Int.toNat a1))], sh, gc_h sh I J A)
  refine gv_run 1 true hD (pcₚ := 8) (lvₚ := [(0, .inr (.inr (some p))), (1, .inl a1), (2, .inr (.inr (some a2))), (3, .inl a3), (4, .inl a4)]) (stₚ := [.inl a4, .inl (I (p + 2) (Int.toNat a1))]) (hₚ := gc_h sh I J A) (C := (True ∧ True)) rfl ⟨trivial, trivial⟩ ?_
  refine gv_icmp_ne (t := 27) hD rfl rfl ⟨⟨by (/-5-/first | (have o1 := gz_sh f3; omega) | (simp only [gz_hd] at *; omega)), by (/-6-/first | (have o1 := gz_sh f3; omega) | (simp only [gz_hd] at *; omega))⟩, ⟨by (/-7-/first | omega | (simp only [gz_hd] at *; omega)), by (/-8-/first | omega | (simp only [gz_hd] at *; omega))⟩⟩ (fun c4 => ?_) (fun c4 => ?_)
  · show gv_X _ _ (27, [(0, .inr (.inr (some p))), (1, .inl a1), (2, .inr (.inr (some a2))), (3, .inl a3), (4, .inl a4)], [], sh, gc_h sh I J A)
    refine gv_pick [] rfl ?_
    exact L27 
  · show gv_X _ _ (11, [(0, .inr (.inr (some p))), (1, .inl a1), (2, .inr (.inr (some a2))), (3, .inl a3), (4, .inl a4)], [], sh, gc_h sh I J A)
    refine gv_run 5 true hD (pcₚ := 17) (lvₚ := [(0, .inr (.inr (some p))), (1, .inl a1), (2, .inr (.inr (some a2))), (3, .inl a3), (4, .inl a4)]) (stₚ := [.inl a4, .inl a3, .inr (.inr (some a2)), .inl a1, .inr (.inr (some p))]) (hₚ := gc_h sh I J A) (C := (((((True ∧ True) ∧ True) ∧ True) ∧ True) ∧ True)) rfl ⟨⟨⟨⟨⟨trivial, trivial⟩, trivial⟩, trivial⟩, trivial⟩, trivial⟩ ?_
    obtain ⟨r5, h5, E5, P5⟩ := d_X2_endsWith (ws0 := ws0) (tb := tb) hws htb sh ro I J A hI p m a1 a2 a3 a4 hp S_a2 R_a2 B_a2 (by (/-9-/first | omega | (simp only [gz_hd] at *; omega)))  ⟨by (/-10-/first | omega | (simp only [gz_hd] at *; omega)), by (/-11-/first | omega | (simp only [gz_hd] at *; omega))⟩ ⟨by (/-12-/first | omega | (simp only [gz_hd] at *; omega)), by (/-13-/first | omega | (simp only [gz_hd] at *; omega))⟩ ⟨by (/-14-/first | omega | (simp only [gz_hd] at *; omega)), by (/-15-/first | omega | (simp only [gz_hd] at *; omega))⟩ (by (/-16-/first | omega | (simp only [gz_hd] at *; omega))) 
    obtain ⟨rfl, ⟨z5, rfl, q5⟩⟩ := P5
    replace q5 := gz_hi q5
    refine gv_callV hD rfl (As := [.inl a1, .inr (.inr (some a2)), .inl a3, .inl a4]) (st := []) rfl (gz_sh B_p) S_p rfl (gc_lV2 hws rfl) (Nat.le_of_ble_eq_true rfl) (gz_Ev_mono (d := 1) (by decide) E5) ?_
    show gv_X _ _ (20, [(0, .inr (.inr (some p))), (1, .inl a1), (2, .inr (.inr (some a2))), (3, .inl a3), (4, .inl a4)], [.inl z5], sh, gc_h sh I J A)
    refine gv_if_eq (t := 27) hD rfl rfl ⟨by (/-17-/first | (have o1 := gz_sh q5; omega) | (simp only [gz_hd] at *; omega)), by (/-18-/first | (have o1 := gz_sh q5; omega) | (simp only [gz_hd] at *; omega))⟩ (fun c6 => ?_) (fun c6 => ?_)
    · show gv_X _ _ (27, [(0, .inr (.inr (some p))), (1, .inl a1), (2, .inr (.inr (some a2))), (3, .inl a3), (4, .inl a4)], [], sh, gc_h sh I J A)
      refine gv_pick [] rfl ?_
      exact L27 
    · show gv_X _ _ (23, [(0, .inr (.inr (some p))), (1, .inl a1), (2, .inr (.inr (some a2))), (3, .inl a3), (4, .inl a4)], [], sh, gc_h sh I J A)
      refine gv_run 2 true hD (pcₚ := 28) (lvₚ := [(0, .inr (.inr (some p))), (1, .inl a1), (2, .inr (.inr (some a2))), (3, .inl a3), (4, .inl a4)]) (stₚ := [.inl 1]) (hₚ := gc_h sh I J A) (C := ((True ∧ True) ∧ True)) rfl ⟨⟨trivial, trivial⟩, trivial⟩ ?_
      refine gv_pick [] rfl ?_
      exact L28 1 (by (/-19-/first | (and_intros <;> omega) | (simp only [gz_hd] at *; omega)))
set_option maxHeartbeats 8000000 in
set_option maxRecDepth 100000 in
theorem d_X2_findSame {ws0 : List Cond} {tb : String → gz_T} (hws : gc_Ws ws0) (htb : gc_tbs tb) (sh : gz_Sh) (ro : Nat → Nat) (I : gr_I) (J : gr_J) (A : gc_A) (hI : gc_Inv ro I) (p : Nat) (m : Nat) (a1 : Nat) (a2 : Int) (a3 : Int) (hp : gc_isForms sh ro A p) (S_a1 : sh[a1]? = some (true, 0, m)) (R_a1 : ro a1 = 1) (B_a1 : a1 < 1000000) (M_a1 : m < 2147483648) (ha2 : 0 ≤ a2 ∧ a2 ≤ 60000) (ha3 : 0 ≤ a3 ∧ a3 ≤ 24) (x0 : a2 + a3 ≤ m) : ∃ r hₚ, gz_Ev ws0 tb 2 (yX2_findSame, cX2_findSame, 7, (some .int)) [.inr (.inr (some p)), .inr (.inr (some a1)), .inl a2, .inl a3] sh (gc_h sh I J A) r sh hₚ 0 0 ∧ (∃ (Iₚ : gr_I) (Jₚ : gr_J), hₚ = gc_h sh Iₚ Jₚ A ∧ gc_Inv ro Iₚ ∧ (∀ q j : Nat, (q = (p + 5)) ∨ Iₚ q j = I q j) ∧ (∀ q j : Nat, (False) ∨ Jₚ q j = J q j) ∧ (∃ z : Int, r = some (.inl z) ∧ 0 ≤ z ∧ z ≤ 1536)) := by
  have FI : ∀ q j : Nat, (q = (p + 5)) ∨ I q j = I q j := fun _ _ => Or.inr rfl
  have FJ : ∀ q j : Nat, (False) ∨ J q j = J q j := fun _ _ => Or.inr rfl
  obtain ⟨S_p, R_p, B_p, A_p_0, S_20, R_20, B_20, A_p_1, S_p_1, R_p_1, B_p_1, A_p_2, S_p_2, R_p_2, B_p_2, A_p_3, S_p_3, R_p_3, B_p_3, A_p_4, S_p_4, R_p_4, B_p_4, A_p_5, S_p_5, R_p_5, B_p_5, S_p_6, R_p_6, B_p_6, S_p_7, R_p_7, B_p_7⟩ := id hp
  replace R_p := gz_hi R_p
  replace B_p := gz_hi B_p
  replace R_20 := gz_hi R_20
  replace B_20 := gz_hi B_20
  replace R_p_1 := gz_hi R_p_1
  replace B_p_1 := gz_hi B_p_1
  replace R_p_2 := gz_hi R_p_2
  replace B_p_2 := gz_hi B_p_2
  replace R_p_3 := gz_hi R_p_3
  replace B_p_3 := gz_hi B_p_3
  replace R_p_4 := gz_hi R_p_4
  replace B_p_4 := gz_hi B_p_4
  replace R_p_5 := gz_hi R_p_5
  replace B_p_5 := gz_hi B_p_5
  replace R_p_6 := gz_hi R_p_6
  replace B_p_6 := gz_hi B_p_6
  replace R_p_7 := gz_hi R_p_7
  replace B_p_7 := gz_hi B_p_7
  have hD : gv_D (gc_E2 ws0 tb 1 (yX2_findSame, cX2_findSame, 7, (some .int)) kX2_findSame) := gq_of oX2_findSame
  refine gc_ev2 (d := 1) (l := kX2_findSame) (Po := fun r hₚ => (∃ (Iₚ : gr_I) (Jₚ : gr_J), hₚ = gc_h sh Iₚ Jₚ A ∧ gc_Inv ro Iₚ ∧ (∀ q j : Nat, (q = (p + 5)) ∨ Iₚ q j = I q j) ∧ (∀ q j : Nat, (False) ∨ Jₚ q j = J q j) ∧ (∃ z : Int, r = some (.inl z) ∧ 0 ≤ z ∧ z ≤ 1536))) htb rfl (Nat.le_of_ble_eq_true rfl) ?_
  have L19 : ∀ (n9 : Nat) (I1 : gr_I) (J2 : gr_J) (v4_3 : Int) (v5_3 : Int) (v6_3 : Int), (1537 - v6_3).toNat < n9 → gc_Inv ro I1 → (∀ q j : Nat, (q = (p + 5)) ∨ I1 q j = I q j) → (∀ q j : Nat, (False) ∨ J2 q j = J q j) → ((0 ≤ a2 ∧ a2 ≤ 60000) ∧ (0 ≤ a3 ∧ a3 ≤ 24) ∧ (0 ≤ v4_3 ∧ v4_3 ≤ 1536) ∧ ((-1) ≤ v5_3 ∧ v5_3 ≤ 1535) ∧ (0 ≤ v6_3 ∧ v6_3 ≤ 1536) ∧ (v4_3 ≤ v6_3)) → gv_X (gc_E2 ws0 tb 1 (yX2_findSame, cX2_findSame, 7, (some .int)) kX2_findSame) (gv_Q cX2_findSame (some .int) sh (fun r hₚ => (∃ (Iₚ : gr_I) (Jₚ : gr_J), hₚ = gc_h sh Iₚ Jₚ A ∧ gc_Inv ro Iₚ ∧ (∀ q j : Nat, (q = (p + 5)) ∨ Iₚ q j = I q j) ∧ (∀ q j : Nat, (False) ∨ Jₚ q j = J q j) ∧ (∃ z : Int, r = some (.inl z) ∧ 0 ≤ z ∧ z ≤ 1536)))) (19, [(0, .inr (.inr (some p))), (1, .inr (.inr (some a1))), (2, .inl a2), (3, .inl a3), (4, .inl v4_3), (5, .inl v5_3), (6, .inl v6_3)], [], sh, gc_h sh I1 J2 A) := by
    intro n9
    induction n9 with
    | zero => intro I1 J2 v4_3 v5_3 v6_3 hn; (/-0-/first | omega | (simp only [gz_hd] at *; omega))
    | succ n9 ih19 =>
      intro I1 J2 v4_3 v5_3 v6_3 hn hI1 FI1 FJ2 m_3
      obtain ⟨ha2_3, ha3_3, hv4_3, hv5_3, hv6_3, e0_3⟩ := gz_h6 m_3
      have L69 : ∀ (I4 : gr_I) (J5 : gr_J) (v4_6 : Int), gc_Inv ro I4 → (∀ q j : Nat, (q = (p + 5)) ∨ I4 q j = I q j) → (∀ q j : Nat, (False) ∨ J5 q j = J q j) → ((0 ≤ a2 ∧ a2 ≤ 60000) ∧ (0 ≤ a3 ∧ a3 ≤ 24) ∧ (0 ≤ v4_6 ∧ v4_6 ≤ 1536) ∧ (0 ≤ v5_3 ∧ v5_3 ≤ 1535) ∧ (0 ≤ v6_3 ∧ v6_3 ≤ 1535) ∧ (v4_6 ≤ v6_3 + 1)) → gv_X (gc_E2 ws0 tb 1 (yX2_findSame, cX2_findSame, 7, (some .int)) kX2_findSame) (gv_Q cX2_findSame (some .int) sh (fun r hₚ => (∃ (Iₚ : gr_I) (Jₚ : gr_J), hₚ = gc_h sh Iₚ Jₚ A ∧ gc_Inv ro Iₚ ∧ (∀ q j : Nat, (q = (p + 5)) ∨ Iₚ q j = I q j) ∧ (∀ q j : Nat, (False) ∨ Jₚ q j = J q j) ∧ (∃ z : Int, r = some (.inl z) ∧ 0 ≤ z ∧ z ≤ 1536)))) (69, [(0, .inr (.inr (some p))), (1, .inr (.inr (some a1))), (2, .inl a2), (3, .inl a3), (4, .inl v4_6), (5, .inl v5_3), (6, .inl v6_3)], [], sh, gc_h sh I4 J5 A) := by
        intro I4 J5 v4_6 hI4 FI4 FJ5 m_6
        clear ha2_3 ha3_3 hv4_3 hv5_3 hv6_3 e0_3
        obtain ⟨ha2_6, ha3_6, hv4_6, hv5_3_6, hv6_3_6, e0_6⟩ := gz_h6 m_6
        refine gv_run 1 true hD (pcₚ := 70) (lvₚ := [(0, .inr (.inr (some p))), (1, .inr (.inr (some a1))), (2, .inl a2), (3, .inl a3), (4, .inl v4_6), (5, .inl v5_3), (6, .inl v6_3)]) (stₚ := [.inr (.inr (some p))]) (hₚ := gc_h sh I4 J5 A) (C := (True ∧ True)) rfl ⟨trivial, trivial⟩ ?_
        refine gv_get hD rfl rfl S_p ⟨by decide, (gz_sh B_p)⟩ (gc_hA S_p rfl A_p_3) ?_
        show gv_X _ _ (73, [(0, .inr (.inr (some p))), (1, .inr (.inr (some a1))), (2, .inl a2), (3, .inl a3), (4, .inl v4_6), (5, .inl v5_3), (6, .inl v6_3)], [.inr (.inr (some (p + 3)))], sh, gc_h sh I4 J5 A)
        refine gv_run 1 true hD (pcₚ := 75) (lvₚ := [(0, .inr (.inr (some p))), (1, .inr (.inr (some a1))), (2, .inl a2), (3, .inl a3), (4, .inl v4_6), (5, .inl v5_3), (6, .inl v6_3)]) (stₚ := [.inl v5_3, .inr (.inr (some (p + 3)))]) (hₚ := gc_h sh I4 J5 A) (C := (True ∧ True)) rfl ⟨trivial, trivial⟩ ?_
        have f7 := gz_hi ((show (-1) ≤ I4 (p + 3) (Int.toNat v5_3) ∧ I4 (p + 3) (Int.toNat v5_3) ≤ 1535 from gc_in2 hI4 (gz_sh R_p_3) rfl rfl rfl))
        refine gv_iald hD rfl S_p_3 rfl ⟨by decide, (gz_sh B_p_3)⟩ ⟨by (/-1-/first | (have o1 := gz_sh hv5_3_6; omega) | (simp only [gz_hd] at *; omega)), by (/-2-/first | (have o1 := gz_sh hv5_3_6; omega) | (simp only [gz_hd] at *; omega))⟩ (gc_iI S_p_3 rfl) ?_
        show gv_X _ _ (76, [(0, .inr (.inr (some p))), (1, .inr (.inr (some a1))), (2, .inl a2), (3, .inl a3), (4, .inl v4_6), (5, .inl v5_3), (6, .inl v6_3)], [.inl (I4 (p + 3) (Int.toNat v5_3))], sh, gc_h sh I4 J5 A)
        refine gv_run 3 true hD (pcₚ := 19) (lvₚ := [(6, .inl (v6_3 + 1)), (5, .inl (I4 (p + 3) (Int.toNat v5_3))), (0, .inr (.inr (some p))), (1, .inr (.inr (some a1))), (2, .inl a2), (3, .inl a3), (4, .inl v4_6)]) (stₚ := []) (hₚ := gc_h sh I4 J5 A) (C := (((True ∧ True) ∧ True) ∧ True)) rfl ⟨⟨⟨trivial, trivial⟩, trivial⟩, trivial⟩ ?_
        refine gv_pick [2, 3, 4, 5, 6, 1, 0] rfl ?_
        exact ih19 I4 J5 v4_6 ((I4 (p + 3) (Int.toNat v5_3))) (v6_3 + 1) (by (/-3-/first | (have o1 := gz_sh hv6_3_6; omega) | (simp only [gz_hd] at *; omega))) hI4 FI4 FJ5 (by (/-4-/first | (and_intros; (omega); (omega); (omega); (omega); (have o1 := gz_sh hv4_6; omega); (have o1 := gz_sh hv4_6; omega); (have o1 := gz_sh f7; omega); (have o1 := gz_sh f7; omega); (have o1 := gz_sh hv6_3_6; omega); (have o1 := gz_sh hv6_3_6; omega); (have o1 := gz_sh e0_6; omega)) | (simp only [gz_hd] at *; omega)))
      have L84 : ((0 ≤ v4_3 ∧ v4_3 ≤ 1536)) → gv_X (gc_E2 ws0 tb 1 (yX2_findSame, cX2_findSame, 7, (some .int)) kX2_findSame) (gv_Q cX2_findSame (some .int) sh (fun r hₚ => (∃ (Iₚ : gr_I) (Jₚ : gr_J), hₚ = gc_h sh Iₚ Jₚ A ∧ gc_Inv ro Iₚ ∧ (∀ q j : Nat, (q = (p + 5)) ∨ Iₚ q j = I q j) ∧ (∀ q j : Nat, (False) ∨ Jₚ q j = J q j) ∧ (∃ z : Int, r = some (.inl z) ∧ 0 ≤ z ∧ z ≤ 1536)))) (84, [(4, .inl v4_3)], [], sh, gc_h sh I1 J2 A) := by
        intro m_8
        have hv4_3_8 := m_8
        refine gv_run 1 true hD (pcₚ := 86) (lvₚ := [(4, .inl v4_3)]) (stₚ := [.inl v4_3]) (hₚ := gc_h sh I1 J2 A) (C := (True ∧ True)) rfl ⟨trivial, trivial⟩ ?_
        exact gv_iret hD rfl ⟨I1, J2, rfl, hI1, FI1, FJ2, ⟨_, rfl, by (/-5-/first | omega | (simp only [gz_hd] at *; omega))⟩⟩
      refine gv_run 2 true hD (pcₚ := 22) (lvₚ := [(0, .inr (.inr (some p))), (1, .inr (.inr (some a1))), (2, .inl a2), (3, .inl a3), (4, .inl v4_3), (5, .inl v5_3), (6, .inl v6_3)]) (stₚ := [.inr (.inr (some p)), .inl v6_3]) (hₚ := gc_h sh I1 J2 A) (C := ((True ∧ True) ∧ True)) rfl ⟨⟨trivial, trivial⟩, trivial⟩ ?_
      refine gv_get hD rfl rfl S_p ⟨by decide, (gz_sh B_p)⟩ (gc_hA S_p rfl A_p_5) ?_
      show gv_X _ _ (25, [(0, .inr (.inr (some p))), (1, .inr (.inr (some a1))), (2, .inl a2), (3, .inl a3), (4, .inl v4_3), (5, .inl v5_3), (6, .inl v6_3)], [.inr (.inr (some (p + 5))), .inl v6_3], sh, gc_h sh I1 J2 A)
      refine gv_len hD rfl S_p_5 ⟨by decide, (gz_sh B_p_5)⟩ ?_
      show gv_X _ _ (26, [(0, .inr (.inr (some p))), (1, .inr (.inr (some a1))), (2, .inl a2), (3, .inl a3), (4, .inl v4_3), (5, .inl v5_3), (6, .inl v6_3)], [.inl 1536, .inl v6_3], sh, gc_h sh I1 J2 A)
      refine gv_icmp_ge (t := 84) hD rfl rfl ⟨⟨by (/-6-/first | (have o1 := gz_sh hv6_3; omega) | (simp only [gz_hd] at *; omega)), by (/-7-/first | (have o1 := gz_sh hv6_3; omega) | (simp only [gz_hd] at *; omega))⟩, ⟨by (/-8-/first | omega | (simp only [gz_hd] at *; omega)), by (/-9-/first | omega | (simp only [gz_hd] at *; omega))⟩⟩ (fun c9 => ?_) (fun c9 => ?_)
      · show gv_X _ _ (84, [(0, .inr (.inr (some p))), (1, .inr (.inr (some a1))), (2, .inl a2), (3, .inl a3), (4, .inl v4_3), (5, .inl v5_3), (6, .inl v6_3)], [], sh, gc_h sh I1 J2 A)
        refine gv_pick [4] rfl ?_
        exact L84 (by (/-10-/first | (have o1 := gz_sh hv4_3; omega) | (simp only [gz_hd] at *; omega)))
      · show gv_X _ _ (29, [(0, .inr (.inr (some p))), (1, .inr (.inr (some a1))), (2, .inl a2), (3, .inl a3), (4, .inl v4_3), (5, .inl v5_3), (6, .inl v6_3)], [], sh, gc_h sh I1 J2 A)
        refine gv_run 1 true hD (pcₚ := 31) (lvₚ := [(0, .inr (.inr (some p))), (1, .inr (.inr (some a1))), (2, .inl a2), (3, .inl a3), (4, .inl v4_3), (5, .inl v5_3), (6, .inl v6_3)]) (stₚ := [.inl v5_3]) (hₚ := gc_h sh I1 J2 A) (C := (True ∧ True)) rfl ⟨trivial, trivial⟩ ?_
        refine gv_if_lt (t := 84) hD rfl rfl ⟨by (/-11-/first | (have o1 := gz_sh hv5_3; omega) | (simp only [gz_hd] at *; omega)), by (/-12-/first | (have o1 := gz_sh hv5_3; omega) | (simp only [gz_hd] at *; omega))⟩ (fun c10 => ?_) (fun c10 => ?_)
        · show gv_X _ _ (84, [(0, .inr (.inr (some p))), (1, .inr (.inr (some a1))), (2, .inl a2), (3, .inl a3), (4, .inl v4_3), (5, .inl v5_3), (6, .inl v6_3)], [], sh, gc_h sh I1 J2 A)
          refine gv_pick [4] rfl ?_
          exact L84 (by (/-13-/first | (have o1 := gz_sh hv4_3; omega) | (simp only [gz_hd] at *; omega)))
        · show gv_X _ _ (34, [(0, .inr (.inr (some p))), (1, .inr (.inr (some a1))), (2, .inl a2), (3, .inl a3), (4, .inl v4_3), (5, .inl v5_3), (6, .inl v6_3)], [], sh, gc_h sh I1 J2 A)
          refine gv_run 1 true hD (pcₚ := 35) (lvₚ := [(0, .inr (.inr (some p))), (1, .inr (.inr (some a1))), (2, .inl a2), (3, .inl a3), (4, .inl v4_3), (5, .inl v5_3), (6, .inl v6_3)]) (stₚ := [.inr (.inr (some p))]) (hₚ := gc_h sh I1 J2 A) (C := (True ∧ True)) rfl ⟨trivial, trivial⟩ ?_
          refine gv_get hD rfl rfl S_p ⟨by decide, (gz_sh B_p)⟩ (gc_hA S_p rfl A_p_2) ?_
          show gv_X _ _ (38, [(0, .inr (.inr (some p))), (1, .inr (.inr (some a1))), (2, .inl a2), (3, .inl a3), (4, .inl v4_3), (5, .inl v5_3), (6, .inl v6_3)], [.inr (.inr (some (p + 2)))], sh, gc_h sh I1 J2 A)
          refine gv_run 1 true hD (pcₚ := 40) (lvₚ := [(0, .inr (.inr (some p))), (1, .inr (.inr (some a1))), (2, .inl a2), (3, .inl a3), (4, .inl v4_3), (5, .inl v5_3), (6, .inl v6_3)]) (stₚ := [.inl v5_3, .inr (.inr (some (p + 2)))]) (hₚ := gc_h sh I1 J2 A) (C := (True ∧ True)) rfl ⟨trivial, trivial⟩ ?_
          have f11 := gz_hi ((show (-1) ≤ I1 (p + 2) (Int.toNat v5_3) ∧ I1 (p + 2) (Int.toNat v5_3) ≤ 24 from gc_in2 hI1 (gz_sh R_p_2) rfl rfl rfl))
          refine gv_iald hD rfl S_p_2 rfl ⟨by decide, (gz_sh B_p_2)⟩ ⟨by (/-14-/first | omega | (simp only [gz_hd] at *; omega)), by (/-15-/first | (have o1 := gz_sh hv5_3; omega) | (simp only [gz_hd] at *; omega))⟩ (gc_iI S_p_2 rfl) ?_
          show gv_X _ _ (41, [(0, .inr (.inr (some p))), (1, .inr (.inr (some a1))), (2, .inl a2), (3, .inl a3), (4, .inl v4_3), (5, .inl v5_3), (6, .inl v6_3)], [.inl (I1 (p + 2) (Int.toNat v5_3))], sh, gc_h sh I1 J2 A)
          refine gv_run 1 true hD (pcₚ := 42) (lvₚ := [(0, .inr (.inr (some p))), (1, .inr (.inr (some a1))), (2, .inl a2), (3, .inl a3), (4, .inl v4_3), (5, .inl v5_3), (6, .inl v6_3)]) (stₚ := [.inl a3, .inl (I1 (p + 2) (Int.toNat v5_3))]) (hₚ := gc_h sh I1 J2 A) (C := (True ∧ True)) rfl ⟨trivial, trivial⟩ ?_
          refine gv_icmp_ne (t := 69) hD rfl rfl ⟨⟨by (/-16-/first | (have o1 := gz_sh f11; omega) | (simp only [gz_hd] at *; omega)), by (/-17-/first | (have o1 := gz_sh f11; omega) | (simp only [gz_hd] at *; omega))⟩, ⟨by (/-18-/first | omega | (simp only [gz_hd] at *; omega)), by (/-19-/first | omega | (simp only [gz_hd] at *; omega))⟩⟩ (fun c12 => ?_) (fun c12 => ?_)
          · show gv_X _ _ (69, [(0, .inr (.inr (some p))), (1, .inr (.inr (some a1))), (2, .inl a2), (3, .inl a3), (4, .inl v4_3), (5, .inl v5_3), (6, .inl v6_3)], [], sh, gc_h sh I1 J2 A)
            exact L69 I1 J2 v4_3 hI1 FI1 FJ2 (by (/-20-/first | (and_intros; (omega); (omega); (omega); (omega); (have o1 := gz_sh hv4_3; omega); (have o1 := gz_sh hv4_3; omega); (omega); (have o1 := gz_sh hv5_3; omega); (have o1 := gz_sh hv6_3; omega); (omega); (have o1 := gz_sh e0_3; omega)) | (simp only [gz_hd] at *; omega)))
          · show gv_X _ _ (45, [(0, .inr (.inr (some p))), (1, .inr (.inr (some a1))), (2, .inl a2), (3, .inl a3), (4, .inl v4_3), (5, .inl v5_3), (6, .inl v6_3)], [], sh, gc_h sh I1 J2 A)
            refine gv_run 5 true hD (pcₚ := 51) (lvₚ := [(0, .inr (.inr (some p))), (1, .inr (.inr (some a1))), (2, .inl a2), (3, .inl a3), (4, .inl v4_3), (5, .inl v5_3), (6, .inl v6_3)]) (stₚ := [.inl a3, .inl a2, .inr (.inr (some a1)), .inl v5_3, .inr (.inr (some p))]) (hₚ := gc_h sh I1 J2 A) (C := (((((True ∧ True) ∧ True) ∧ True) ∧ True) ∧ True)) rfl ⟨⟨⟨⟨⟨trivial, trivial⟩, trivial⟩, trivial⟩, trivial⟩, trivial⟩ ?_
            obtain ⟨r13, h13, E13, P13⟩ := d_X2_endsWith (ws0 := ws0) (tb := tb) hws htb sh ro I1 J2 A hI1 p m v5_3 a1 a2 a3 hp S_a1 R_a1 B_a1 (by (/-21-/first | omega | (simp only [gz_hd] at *; omega)))  ⟨by (/-22-/first | omega | (simp only [gz_hd] at *; omega)), by (/-23-/first | (have o1 := gz_sh hv5_3; omega) | (simp only [gz_hd] at *; omega))⟩ ⟨by (/-24-/first | omega | (simp only [gz_hd] at *; omega)), by (/-25-/first | omega | (simp only [gz_hd] at *; omega))⟩ ⟨by (/-26-/first | omega | (simp only [gz_hd] at *; omega)), by (/-27-/first | omega | (simp only [gz_hd] at *; omega))⟩ (by (/-28-/first | omega | (simp only [gz_hd] at *; omega))) 
            obtain ⟨rfl, ⟨z13, rfl, q13⟩⟩ := P13
            replace q13 := gz_hi q13
            refine gv_callV hD rfl (As := [.inl v5_3, .inr (.inr (some a1)), .inl a2, .inl a3]) (st := []) rfl (gz_sh B_p) S_p rfl (gc_lV2 hws rfl) (Nat.le_of_ble_eq_true rfl) (gz_Ev_mono (d := 1) (by decide) E13) ?_
            show gv_X _ _ (54, [(0, .inr (.inr (some p))), (1, .inr (.inr (some a1))), (2, .inl a2), (3, .inl a3), (4, .inl v4_3), (5, .inl v5_3), (6, .inl v6_3)], [.inl z13], sh, gc_h sh I1 J2 A)
            refine gv_if_eq (t := 69) hD rfl rfl ⟨by (/-29-/first | (have o1 := gz_sh q13; omega) | (simp only [gz_hd] at *; omega)), by (/-30-/first | (have o1 := gz_sh q13; omega) | (simp only [gz_hd] at *; omega))⟩ (fun c14 => ?_) (fun c14 => ?_)
            · show gv_X _ _ (69, [(0, .inr (.inr (some p))), (1, .inr (.inr (some a1))), (2, .inl a2), (3, .inl a3), (4, .inl v4_3), (5, .inl v5_3), (6, .inl v6_3)], [], sh, gc_h sh I1 J2 A)
              exact L69 I1 J2 v4_3 hI1 FI1 FJ2 (by (/-31-/first | (and_intros; (omega); (omega); (omega); (omega); (have o1 := gz_sh hv4_3; omega); (have o1 := gz_sh hv4_3; omega); (omega); (have o1 := gz_sh hv5_3; omega); (have o1 := gz_sh hv6_3; omega); (omega); (have o1 := gz_sh e0_3; omega)) | (simp only [gz_hd] at *; omega)))
            · show gv_X _ _ (57, [(0, .inr (.inr (some p))), (1, .inr (.inr (some a1))), (2, .inl a2), (3, .inl a3), (4, .inl v4_3), (5, .inl v5_3), (6, .inl v6_3)], [], sh, gc_h sh I1 J2 A)
              refine gv_run 1 true hD (pcₚ := 58) (lvₚ := [(0, .inr (.inr (some p))), (1, .inr (.inr (some a1))), (2, .inl a2), (3, .inl a3), (4, .inl v4_3), (5, .inl v5_3), (6, .inl v6_3)]) (stₚ := [.inr (.inr (some p))]) (hₚ := gc_h sh I1 J2 A) (C := (True ∧ True)) rfl ⟨trivial, trivial⟩ ?_
              refine gv_get hD rfl rfl S_p ⟨by decide, (gz_sh B_p)⟩ (gc_hA S_p rfl A_p_5) ?_
              show gv_X _ _ (61, [(0, .inr (.inr (some p))), (1, .inr (.inr (some a1))), (2, .inl a2), (3, .inl a3), (4, .inl v4_3), (5, .inl v5_3), (6, .inl v6_3)], [.inr (.inr (some (p + 5)))], sh, gc_h sh I1 J2 A)
              refine gv_run 3 true hD (pcₚ := 68) (lvₚ := [(4, .inl (v4_3 + 1)), (0, .inr (.inr (some p))), (1, .inr (.inr (some a1))), (2, .inl a2), (3, .inl a3), (5, .inl v5_3), (6, .inl v6_3)]) (stₚ := [.inl v5_3, .inl v4_3, .inr (.inr (some (p + 5)))]) (hₚ := gc_h sh I1 J2 A) (C := (((True ∧ True) ∧ True) ∧ True)) rfl ⟨⟨⟨trivial, trivial⟩, trivial⟩, trivial⟩ ?_
              refine gv_iast hD rfl S_p_5 ⟨by decide, (gz_sh B_p_5)⟩ ⟨by (/-32-/first | (have o1 := gz_sh hv4_3; omega) | (simp only [gz_hd] at *; omega)), by (/-33-/first | (have o1 := gz_sh e0_3; omega) | (simp only [gz_hd] at *; omega))⟩ ?_
              refine gc_st hI1 S_p_5 rfl (gz_sh R_p_5) (lo := 0) (hi := 1535) rfl rfl (by (/-34-/first | omega | (simp only [gz_hd] at *; omega))) (by (/-35-/first | (have o1 := gz_sh hv5_3; omega) | (simp only [gz_hd] at *; omega))) (fun I15 hI15 q16 p16 => ?_)
              have FI15 := gc_frs (W := fun q j => q = (p + 5)) FI1 rfl p16
              show gv_X _ _ (69, [(4, .inl (v4_3 + 1)), (0, .inr (.inr (some p))), (1, .inr (.inr (some a1))), (2, .inl a2), (3, .inl a3), (5, .inl v5_3), (6, .inl v6_3)], [], sh, gc_h sh I15 J2 A)
              refine gv_pick [1, 2, 3, 4, 0, 5, 6] rfl ?_
              exact L69 I15 J2 (v4_3 + 1) hI15 FI15 FJ2 (by (/-36-/first | (and_intros; (omega); (omega); (omega); (omega); (have o1 := gz_sh hv4_3; omega); (have o1 := gz_sh e0_3; omega); (omega); (have o1 := gz_sh hv5_3; omega); (have o1 := gz_sh hv6_3; omega); (omega); (have o1 := gz_sh e0_3; omega)) | (simp only [gz_hd] at *; omega)))
  refine gv_run 3 true hD (pcₚ := 4) (lvₚ := [(4, .inl 0), (0, .inr (.inr (some p))), (1, .inr (.inr (some a1))), (2, .inl a2), (3, .inl a3)]) (stₚ := [.inr (.inr (some p))]) (hₚ := gc_h sh I J A) (C := (((True ∧ True) ∧ True) ∧ True)) rfl ⟨⟨⟨trivial, trivial⟩, trivial⟩, trivial⟩ ?_
  refine gv_get hD rfl rfl S_p ⟨by decide, (gz_sh B_p)⟩ (gc_hA S_p rfl A_p_4) ?_
  show gv_X _ _ (7, [(4, .inl 0), (0, .inr (.inr (some p))), (1, .inr (.inr (some a1))), (2, .inl a2), (3, .inl a3)], [.inr (.inr (some (p + 4)))], sh, gc_h sh I J A)
  refine gv_run 3 true hD (pcₚ := 10) (lvₚ := [(4, .inl 0), (0, .inr (.inr (some p))), (1, .inr (.inr (some a1))), (2, .inl a2), (3, .inl a3)]) (stₚ := [.inl a3, .inl a2, .inr (.inr (some a1)), .inr (.inr (some (p + 4)))]) (hₚ := gc_h sh I J A) (C := (((True ∧ True) ∧ True) ∧ True)) rfl ⟨⟨⟨trivial, trivial⟩, trivial⟩, trivial⟩ ?_
  obtain ⟨r17, h17, E17, P17⟩ := d_X2_hash (ws0 := ws0) (tb := tb) hws htb sh ro I J A hI  m a1 a2 a3  S_a1 R_a1 B_a1 (by (/-37-/first | omega | (simp only [gz_hd] at *; omega)))  ⟨by (/-38-/first | omega | (simp only [gz_hd] at *; omega)), by (/-39-/first | omega | (simp only [gz_hd] at *; omega))⟩ ⟨by (/-40-/first | omega | (simp only [gz_hd] at *; omega)), by (/-41-/first | omega | (simp only [gz_hd] at *; omega))⟩ (by (/-42-/first | omega | (simp only [gz_hd] at *; omega))) 
  obtain ⟨rfl, ⟨z17, rfl, q17⟩⟩ := P17
  replace q17 := gz_hi q17
  refine gv_callS hD rfl (As := [.inr (.inr (some a1)), .inl a2, .inl a3]) (st := [.inr (.inr (some (p + 4)))]) rfl (gc_lS2 hws rfl) (Nat.le_of_ble_eq_true rfl) (gz_Ev_mono (d := 1) (by decide) E17) ?_
  show gv_X _ _ (13, [(4, .inl 0), (0, .inr (.inr (some p))), (1, .inr (.inr (some a1))), (2, .inl a2), (3, .inl a3)], [.inl z17, .inr (.inr (some (p + 4)))], sh, gc_h sh I J A)
  have f18 := gz_hi ((show (-1) ≤ I (p + 4) (Int.toNat z17) ∧ I (p + 4) (Int.toNat z17) ≤ 1535 from gc_in2 hI (gz_sh R_p_4) rfl rfl rfl))
  refine gv_iald hD rfl S_p_4 rfl ⟨by decide, (gz_sh B_p_4)⟩ ⟨by (/-43-/first | (have o1 := gz_sh q17; omega) | (simp only [gz_hd] at *; omega)), by (/-44-/first | (have o1 := gz_sh q17; omega) | (simp only [gz_hd] at *; omega))⟩ (gc_iI S_p_4 rfl) ?_
  show gv_X _ _ (14, [(4, .inl 0), (0, .inr (.inr (some p))), (1, .inr (.inr (some a1))), (2, .inl a2), (3, .inl a3)], [.inl (I (p + 4) (Int.toNat z17))], sh, gc_h sh I J A)
  refine gv_run 3 true hD (pcₚ := 19) (lvₚ := [(6, .inl 0), (5, .inl (I (p + 4) (Int.toNat z17))), (4, .inl 0), (0, .inr (.inr (some p))), (1, .inr (.inr (some a1))), (2, .inl a2), (3, .inl a3)]) (stₚ := []) (hₚ := gc_h sh I J A) (C := (((True ∧ True) ∧ True) ∧ True)) rfl ⟨⟨⟨trivial, trivial⟩, trivial⟩, trivial⟩ ?_
  refine gv_pick [3, 4, 5, 6, 2, 1, 0] rfl ?_
  exact L19 _ I J 0 ((I (p + 4) (Int.toNat z17))) 0 (Nat.lt_succ_self _) hI FI FJ (by (/-45-/first | (and_intros; (omega); (omega); (omega); (omega); (omega); (omega); (have o1 := gz_sh f18; omega); (have o1 := gz_sh f18; omega); (omega); (omega); (omega)) | (simp only [gz_hd] at *; omega)))
