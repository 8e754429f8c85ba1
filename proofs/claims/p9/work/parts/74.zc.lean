set_option maxHeartbeats 8000000 in
set_option maxRecDepth 100000 in
theorem d_X2_findSame_b {ws0 : List Cond} {tb : String → gz_T} (hws : gc_Ws ws0) (htb : gc_tbs tb) (sh : gz_Sh) (ro : Nat → Nat) (I : gr_I) (J : gr_J) (A : gc_A) (hI : gc_Inv ro I) (p : Nat) (m : Nat) (wb : Int) (a1 : Nat) (a2 : Int) (a3 : Int) (hp : gc_isForms sh ro A p) (S_a1 : sh[a1]? = some (true, 0, m)) (R_a1 : ro a1 = 1) (B_a1 : a1 < 1000000) (M_a1 : m < 2147483648) (ha2 : 0 ≤ a2 ∧ a2 ≤ 60000) (ha3 : 0 ≤ a3 ∧ a3 ≤ 24) (x0 : a2 + a3 ≤ m) (x1 : gc_FB p wb I) : ∃ r hₚ, gz_Ev ws0 tb 2 (yX2_findSame, cX2_findSame, 7, (some .int)) [.inr (.inr (some p)), .inr (.inr (some a1)), .inl a2, .inl a3] sh (gc_h sh I J A) r sh hₚ 0 0 ∧ (∃ (Iₚ : gr_I) (Jₚ : gr_J), hₚ = gc_h sh Iₚ Jₚ A ∧ gc_Inv ro Iₚ ∧ (∀ q j : Nat, (q = (p + 5)) ∨ Iₚ q j = I q j) ∧ (∀ q j : Nat, (False) ∨ Jₚ q j = J q j) ∧ (∃ z : Int, r = some (.inl z) ∧ 0 ≤ z ∧ z ≤ 1536 ∧ (gc_rg (p + 5) Iₚ z 0 (wb - 1)))) := by
  have FI : ∀ q j : Nat, (q = (p + 5)) ∨ I q j = I q j := fun _ _ => Or.inr rfl
  have FJ : ∀ q j : Nat, (False) ∨ J q j = J q j := fun _ _ => Or.inr rfl
  obtain ⟨S_p, R_p, B_p, A_p_0, S_20, R_20, B_20, A_p_1, S_p_1, R_p_1, B_p_1, A_p_2, S_p_2, R_p_2, B_p_2, A_p_3, S_p_3, R_p_3, B_p_3, A_p_4, S_p_4, R_p_4, B_p_4, A_p_5, S_p_5, R_p_5, B_p_5, S_p_6, R_p_6, B_p_6, S_p_7, R_p_7, B_p_7⟩ := id hp
  replace R_p := gz_hi R_p
  replace B_p := gz_hi B_p
  replace R_20 := gz_hi R_20
  replace B_20 := gz_hi B_20
  replace R_p_1 := gz_hi R_p_1
  replace B_p_1 := gz_hi B_p_1
  replace R_p_2 := gz_hi R_p_2
  replace B_p_2 := gz_hi B_p_2
  replace R_p_3 := gz_hi R_p_3
  replace B_p_3 := gz_hi B_p_3
  replace R_p_4 := gz_hi R_p_4
  replace B_p_4 := gz_hi B_p_4
  replace R_p_5 := gz_hi R_p_5
  replace B_p_5 := gz_hi B_p_5
  replace R_p_6 := gz_hi R_p_6
  replace B_p_6 := gz_hi B_p_6
  replace R_p_7 := gz_hi R_p_7
  replace B_p_7 := gz_hi B_p_7
  have hD : gv_D (gc_E2 ws0 tb 1 (yX2_findSame, cX2_findSame, 7, (some .int)) kX2_findSame) := gq_of oX2_findSame
  refine gc_ev2 (d := 1) (l := kX2_findSame) (Po := fun r hₚ => (∃ (Iₚ : gr_I) (Jₚ : gr_J), hₚ = gc_h sh Iₚ Jₚ A ∧ gc_Inv ro Iₚ ∧ (∀ q j : Nat, (q = (p + 5)) ∨ Iₚ q j = I q j) ∧ (∀ q j : Nat, (False) ∨ Jₚ q j = J q j) ∧ (∃ z : Int, r = some (.inl z) ∧ 0 ≤ z ∧ z ≤ 1536 ∧ (gc_rg (p + 5) Iₚ z 0 (wb - 1))))) htb rfl (Nat.le_of_ble_eq_true rfl) ?_
  have L19 : ∀ (n9 : Nat) (I1 : gr_I) (J2 : gr_J) (v4_3 : Int) (v5_3 : Int) (v6_3 : Int), (1537 - v6_3).toNat < n9 → gc_Inv ro I1 → (∀ q j : Nat, (q = (p + 5)) ∨ I1 q j = I q j) → (∀ q j : Nat, (False) ∨ J2 q j = J q j) → ((0 ≤ a2 ∧ a2 ≤ 60000) ∧ (0 ≤ a3 ∧ a3 ≤ 24) ∧ (0 ≤ v4_3 ∧ v4_3 ≤ 1536) ∧ ((-1) ≤ v5_3 ∧ v5_3 ≤ 1535) ∧ (0 ≤ v6_3 ∧ v6_3 ≤ 1536) ∧ (v4_3 ≤ v6_3) ∧ (v5_3 < wb)) → (gc_rg (p + 5) I1 v4_3 0 (wb - 1)) → gv_X (gc_E2 ws0 tb 1 (yX2_findSame, cX2_findSame, 7, (some .int)) kX2_findSame) (gv_Q cX2_findSame (some .int) sh (fun r hₚ => (∃ (Iₚ : gr_I) (Jₚ : gr_J), hₚ = gc_h sh Iₚ Jₚ A ∧ gc_Inv ro Iₚ ∧ (∀ q j : Nat, (q = (p + 5)) ∨ Iₚ q j = I q j) ∧ (∀ q j : Nat, (False) ∨ Jₚ q j = J q j) ∧ (∃ z : Int, r = some (.inl z) ∧ 0 ≤ z ∧ z ≤ 1536 ∧ (gc_rg (p + 5) Iₚ z 0 (wb - 1)))))) (19, [(0, .inr (.inr (some p))), (1, .inr (.inr (some a1))), (2, .inl a2), (3, .inl a3), (4, .inl v4_3), (5, .inl v5_3), (6, .inl v6_3)], [], sh, gc_h sh I1 J2 A) := by
    intro n9
    induction n9 with
    | zero => intro I1 J2 v4_3 v5_3 v6_3 hn; (/-0-/first | omega | (simp only [gz_hd] at *; omega))
    | succ n9 ih19 =>
      intro I1 J2 v4_3 v5_3 v6_3 hn hI1 FI1 FJ2 m_3 e1_3
      obtain ⟨ha2_3, ha3_3, hv4_3, hv5_3, hv6_3, e0_3, e2_3⟩ := gz_h7 m_3
      have L69 : ∀ (I4 : gr_I) (J5 : gr_J) (v4_6 : Int), gc_Inv ro I4 → (∀ q j : Nat, (q = (p + 5)) ∨ I4 q j = I q j) → (∀ q j : Nat, (False) ∨ J5 q j = J q j) → ((0 ≤ a2 ∧ a2 ≤ 60000) ∧ (0 ≤ a3 ∧ a3 ≤ 24) ∧ (0 ≤ v4_6 ∧ v4_6 ≤ 1536) ∧ (0 ≤ v5_3 ∧ v5_3 ≤ 1535) ∧ (0 ≤ v6_3 ∧ v6_3 ≤ 1535) ∧ (v4_6 ≤ v6_3 + 1) ∧ (v5_3 < wb)) → (gc_rg (p + 5) I4 v4_6 0 (wb - 1)) → gv_X (gc_E2 ws0 tb 1 (yX2_findSame, cX2_findSame, 7, (some .int)) kX2_findSame) (gv_Q cX2_findSame (some .int) sh (fun r hₚ => (∃ (Iₚ : gr_I) (Jₚ : gr_J), hₚ = gc_h sh Iₚ Jₚ A ∧ gc_Inv ro Iₚ ∧ (∀ q j : Nat, (q = (p + 5)) ∨ Iₚ q j = I q j) ∧ (∀ q j : Nat, (False) ∨ Jₚ q j = J q j) ∧ (∃ z : Int, r = some (.inl z) ∧ 0 ≤ z ∧ z ≤ 1536 ∧ (gc_rg (p + 5) Iₚ z 0 (wb - 1)))))) (69, [(0, .inr (.inr (some p))), (1, .inr (.inr (some a1))), (2, .inl a2), (3, .inl a3), (4, .inl v4_6), (5, .inl v5_3), (6, .inl v6_3)], [], sh, gc_h sh I4 J5 A) := by
        intro I4 J5 v4_6 hI4 FI4 FJ5 m_6 e1_6
        clear ha2_3 ha3_3 hv4_3 hv5_3 hv6_3 e0_3 e2_3
        obtain ⟨ha2_6, ha3_6, hv4_6, hv5_3_6, hv6_3_6, e0_6, e2_6⟩ := gz_h7 m_6
        refine gv_run 1 true hD (pcₚ := 70) (lvₚ := [(0, .inr (.inr (some p))), (1, .inr (.inr (some a1))), (2, .inl a2), (3, .inl a3), (4, .inl v4_6), (5, .inl v5_3), (6, .inl v6_3)]) (stₚ := [.inr (.inr (some p))]) (hₚ := gc_h sh I4 J5 A) (C := (True ∧ True)) rfl ⟨trivial, trivial⟩ ?_
        refine gv_get hD rfl rfl S_p ⟨by decide, (gz_sh B_p)⟩ (gc_hA S_p rfl A_p_3) ?_
        show gv_X _ _ (73, [(0, .inr (.inr (some p))), (1, .inr (.inr (some a1))), (2, .inl a2), (3, .inl a3), (4, .inl v4_6), (5, .inl v5_3), (6, .inl v6_3)], [.inr (.inr (some (p + 3)))], sh, gc_h sh I4 J5 A)
        refine gv_run 1 true hD (pcₚ := 75) (lvₚ := [(0, .inr (.inr (some p))), (1, .inr (.inr (some a1))), (2, .inl a2), (3, .inl a3), (4, .inl v4_6), (5, .inl v5_3), (6, .inl v6_3)]) (stₚ := [.inl v5_3, .inr (.inr (some (p + 3)))]) (hₚ := gc_h sh I4 J5 A) (C := (True ∧ True)) rfl ⟨trivial, trivial⟩ ?_
        have f7 := gz_hi ((show (-1) ≤ I4 (p + 3) (Int.toNat v5_3) ∧ I4 (p + 3) (Int.toNat v5_3) ≤ 1535 from gc_in2 hI4 (gz_sh R_p_3) rfl rfl rfl))
        refine gv_iald hD rfl S_p_3 rfl ⟨by decide, (gz_sh B_p_3)⟩ ⟨by (/-1-/first | (have o1 := gz_sh hv5_3_6; omega) | (simp only [gz_hd] at *; omega)), by (/-2-/first | (have o1 := gz_sh hv5_3_6; omega) | (simp only [gz_hd] at *; omega))⟩ (gc_iI S_p_3 rfl) ?_
        show gv_X _ _ (76, [(0, .inr (.inr (some p))), (1, .inr (.inr (some a1))), (2, .inl a2), (3, .inl a3), (4, .inl v4_6), (5, .inl v5_3), (6, .inl v6_3)], [.inl (I4 (p + 3) (Int.toNat v5_3))], sh, gc_h sh I4 J5 A)
        have t8 := gz_hi (x1.2 (Int.toNat v5_3))
        have t9 := gz_hi ((FI4 (p + 3) (Int.toNat v5_3)).resolve_left (by (/-3-/first | omega | (simp only [gz_hd] at *; omega))))
        refine gv_run 3 true hD (pcₚ := 19) (lvₚ := [(6, .inl (v6_3 + 1)), (5, .inl (I4 (p + 3) (Int.toNat v5_3))), (0, .inr (.inr (some p))), (1, .inr (.inr (some a1))), (2, .inl a2), (3, .inl a3), (4, .inl v4_6)]) (stₚ := []) (hₚ := gc_h sh I4 J5 A) (C := (((True ∧ True) ∧ True) ∧ True)) rfl ⟨⟨⟨trivial, trivial⟩, trivial⟩, trivial⟩ ?_
        refine gv_pick [2, 3, 4, 5, 6, 1, 0] rfl ?_
        exact ih19 I4 J5 v4_6 ((I4 (p + 3) (Int.toNat v5_3))) (v6_3 + 1) (by (/-4-/first | (have o1 := gz_sh hv6_3_6; have o2 := gz_sh t8; omega) | (simp only [gz_hd] at *; omega))) hI4 FI4 FJ5 (by (/-5-/first | (and_intros; (omega); (omega); (omega); (omega); (have o1 := gz_sh hv4_6; omega); (have o1 := gz_sh hv4_6; omega); (have o1 := gz_sh f7; omega); (have o1 := gz_sh f7; omega); (have o1 := gz_sh hv6_3_6; omega); (have o1 := gz_sh hv6_3_6; omega); (have o1 := gz_sh e0_6; omega); (have o1 := gz_sh e2_6; have o2 := gz_sh hv5_3_6; have o3 := gz_sh t8; have o4 := gz_sh t9; omega)) | (simp only [gz_hd] at *; omega))) e1_6
      have L84 : ((0 ≤ v4_3 ∧ v4_3 ≤ 1536)) → gv_X (gc_E2 ws0 tb 1 (yX2_findSame, cX2_findSame, 7, (some .int)) kX2_findSame) (gv_Q cX2_findSame (some .int) sh (fun r hₚ => (∃ (Iₚ : gr_I) (Jₚ : gr_J), hₚ = gc_h sh Iₚ Jₚ A ∧ gc_Inv ro Iₚ ∧ (∀ q j : Nat, (q = (p + 5)) ∨ Iₚ q j = I q j) ∧ (∀ q j : Nat, (False) ∨ Jₚ q j = J q j) ∧ (∃ z : Int, r = some (.inl z) ∧ 0 ≤ z ∧ z ≤ 1536 ∧ (gc_rg (p + 5) Iₚ z 0 (wb - 1)))))) (84, [(4, .inl v4_3)], [], sh, gc_h sh I1 J2 A) := by
        intro m_10
        have hv4_3_10 := m_10
        refine gv_run 1 true hD (pcₚ := 86) (lvₚ := [(4, .inl v4_3)]) (stₚ := [.inl v4_3]) (hₚ := gc_h sh I1 J2 A) (C := (True ∧ True)) rfl ⟨trivial, trivial⟩ ?_
        exact gv_iret hD rfl ⟨I1, J2, rfl, hI1, FI1, FJ2, ⟨_, rfl, by (/-6-/first | (have o1 := gz_sh hv4_3; omega) | (simp only [gz_hd] at *; omega)), by (/-7-/first | (have o1 := gz_sh hv4_3; omega) | (simp only [gz_hd] at *; omega)), e1_3⟩⟩
      refine gv_run 2 true hD (pcₚ := 22) (lvₚ := [(0, .inr (.inr (some p))), (1, .inr (.inr (some a1))), (2, .inl a2), (3, .inl a3), (4, .inl v4_3), (5, .inl v5_3), (6, .inl v6_3)]) (stₚ := [.inr (.inr (some p)), .inl v6_3]) (hₚ := gc_h sh I1 J2 A) (C := ((True ∧ True) ∧ True)) rfl ⟨⟨trivial, trivial⟩, trivial⟩ ?_
      refine gv_get hD rfl rfl S_p ⟨by decide, (gz_sh B_p)⟩ (gc_hA S_p rfl A_p_5) ?_
      show gv_X _ _ (25, [(0, .inr (.inr (some p))), (1, .inr (.inr (some a1))), (2, .inl a2), (3, .inl a3), (4, .inl v4_3), (5, .inl v5_3), (6, .inl v6_3)], [.inr (.inr (some (p + 5))), .inl v6_3], sh, gc_h sh I1 J2 A)
      refine gv_len hD rfl S_p_5 ⟨by decide, (gz_sh B_p_5)⟩ ?_
      show gv_X _ _ (26, [(0, .inr (.inr (some p))), (1, .inr (.inr (some a1))), (2, .inl a2), (3, .inl a3), (4, .inl v4_3), (5, .inl v5_3), (6, .inl v6_3)], [.inl 1536, .inl v6_3], sh, gc_h sh I1 J2 A)
      refine gv_icmp_ge (t := 84) hD rfl rfl ⟨⟨by (/-8-/first | (have o1 := gz_sh hv6_3; omega) | (simp only [gz_hd] at *; omega)), by (/-9-/first | (have o1 := gz_sh hv6_3; omega) | (simp only [gz_hd] at *; omega))⟩, ⟨by (/-10-/first | omega | (simp only [gz_hd] at *; omega)), by (/-11-/first | omega | (simp only [gz_hd] at *; omega))⟩⟩ (fun c11 => ?_) (fun c11 => ?_)
      · show gv_X _ _ (84, [(0, .inr (.inr (some p))), (1, .inr (.inr (some a1))), (2, .inl a2), (3, .inl a3), (4, .inl v4_3), (5, .inl v5_3), (6, .inl v6_3)], [], sh, gc_h sh I1 J2 A)
        refine gv_pick [4] rfl ?_
        exact L84 (by (/-12-/first | (have o1 := gz_sh hv4_3; omega) | (simp only [gz_hd] at *; omega)))
      · show gv_X _ _ (29, [(0, .inr (.inr (some p))), (1, .inr (.inr (some a1))), (2, .inl a2), (3, .inl a3), (4, .inl v4_3), (5, .inl v5_3), (6, .inl v6_3)], [], sh, gc_h sh I1 J2 A)
        refine gv_run 1 true hD (pcₚ := 31) (lvₚ := [(0, .inr (.inr (some p))), (1, .inr (.inr (some a1))), (2, .inl a2), (3, .inl a3), (4, .inl v4_3), (5, .inl v5_3), (6, .inl v6_3)]) (stₚ := [.inl v5_3]) (hₚ := gc_h sh I1 J2 A) (C := (True ∧ True)) rfl ⟨trivial, trivial⟩ ?_
        refine gv_if_lt (t := 84) hD rfl rfl ⟨by (/-13-/first | (have o1 := gz_sh hv5_3; omega) | (simp only [gz_hd] at *; omega)), by (/-14-/first | (have o1 := gz_sh hv5_3; omega) | (simp only [gz_hd] at *; omega))⟩ (fun c12 => ?_) (fun c12 => ?_)
        · show gv_X _ _ (84, [(0, .inr (.inr (some p))), (1, .inr (.inr (some a1))), (2, .inl a2), (3, .inl a3), (4, .inl v4_3), (5, .inl v5_3), (6, .inl v6_3)], [], sh, gc_h sh I1 J2 A)
          refine gv_pick [4] rfl ?_
          exact L84 (by (/-15-/first | (have o1 := gz_sh hv4_3; omega) | (simp only [gz_hd] at *; omega)))
        · show gv_X _ _ (34, [(0, .inr (.inr (some p))), (1, .inr (.inr (some a1))), (2, .inl a2), (3, .inl a3), (4, .inl v4_3), (5, .inl v5_3), (6, .inl v6_3)], [], sh, gc_h sh I1 J2 A)
          refine gv_run 1 true hD (pcₚ := 35) (lvₚ := [(0, .inr (.inr (some p))), (1, .inr (.inr (some a1))), (2, .inl a2), (3, .inl a3), (4, .inl v4_3), (5, .inl v5_3), (6, .inl v6_3)]) (stₚ := [.inr (.inr (some p))]) (hₚ := gc_h sh I1 J2 A) (C := (True ∧ True)) rfl ⟨trivial, trivial⟩ ?_
          refine gv_get hD rfl rfl S_p ⟨by decide, (gz_sh B_p)⟩ (gc_hA S_p rfl A_p_2) ?_
          show gv_X _ _ (38, [(0, .inr (.inr (some p))), (1, .inr (.inr (some a1))), (2, .inl a2), (3, .inl a3), (4, .inl v4_3), (5, .inl v5_3), (6, .inl v6_3)], [.inr (.inr (some (p + 2)))], sh, gc_h sh I1 J2 A)
          refine gv_run 1 true hD (pcₚ := 40) (lvₚ := [(0, .inr (.inr (some p))), (1, .inr (.inr (some a1))), (2, .inl a2), (3, .inl a3), (4, .inl v4_3), (5, .inl v5_3), (6, .inl v6_3)]) (stₚ := [.inl v5_3, .inr (.inr (some (p + 2)))]) (hₚ := gc_h sh I1 J2 A) (C := (True ∧ True)) rfl ⟨trivial, trivial⟩ ?_
          have f13 := gz_hi ((show (-1) ≤ I1 (p + 2) (Int.toNat v5_3) ∧ I1 (p + 2) (Int.toNat v5_3) ≤ 24 from gc_in2 hI1 (gz_sh R_p_2) rfl rfl rfl))
          refine gv_iald hD rfl S_p_2 rfl ⟨by decide, (gz_sh B_p_2)⟩ ⟨by (/-16-/first | omega | (simp only [gz_hd] at *; omega)), by (/-17-/first | (have o1 := gz_sh hv5_3; omega) | (simp only [gz_hd] at *; omega))⟩ (gc_iI S_p_2 rfl) ?_
          show gv_X _ _ (41, [(0, .inr (.inr (some p))), (1, .inr (.inr (some a1))), (2, .inl a2), (3, .inl a3), (4, .inl v4_3), (5, .inl v5_3), (6, .inl v6_3)], [.inl (I1 (p + 2) (Int.toNat v5_3))], sh, gc_h sh I1 J2 A)
          refine gv_run 1 true hD (pcₚ := 42) (lvₚ := [(0, .inr (.inr (some p))), (1, .inr (.inr (some a1))), (2, .inl a2), (3, .inl a3), (4, .inl v4_3), (5, .inl v5_3), (6, .inl v6_3)]) (stₚ := [.inl a3, .inl (I1 (p + 2) (Int.toNat v5_3))]) (hₚ := gc_h sh I1 J2 A) (C := (True ∧ True)) rfl ⟨trivial, trivial⟩ ?_
          refine gv_icmp_ne (t := 69) hD rfl rfl ⟨⟨by (/-18-/first | (have o1 := gz_sh f13; omega) | (simp only [gz_hd] at *; omega)), by (/-19-/first | (have o1 := gz_sh f13; omega) | (simp only [gz_hd] at *; omega))⟩, ⟨by (/-20-/first | omega | (simp only [gz_hd] at *; omega)), by (/-21-/first | omega | (simp only [gz_hd] at *; omega))⟩⟩ (fun c14 => ?_) (fun c14 => ?_)
          · show gv_X _ _ (69, [(0, .inr (.inr (some p))), (1, .inr (.inr (some a1))), (2, .inl a2), (3, .inl a3), (4, .inl v4_3), (5, .inl v5_3), (6, .inl v6_3)], [], sh, gc_h sh I1 J2 A)
            exact L69 I1 J2 v4_3 hI1 FI1 FJ2 (by (/-22-/first | (and_intros; (omega); (omega); (omega); (omega); (have o1 := gz_sh hv4_3; omega); (have o1 := gz_sh hv4_3; omega); (omega); (have o1 := gz_sh hv5_3; omega); (have o1 := gz_sh hv6_3; omega); (omega); (have o1 := gz_sh e0_3; omega); (have o1 := gz_sh e2_3; omega)) | (simp only [gz_hd] at *; omega))) e1_3
          · show gv_X _ _ (45, [(0, .inr (.inr (some p))), (1, .inr (.inr (some a1))), (2, .inl a2), (3, .inl a3), (4, .inl v4_3), (5, .inl v5_3), (6, .inl v6_3)], [], sh, gc_h sh I1 J2 A)
            refine gv_run 5 true hD (pcₚ := 51) (lvₚ := [(0, .inr (.inr (some p))), (1, .inr (.inr (some a1))), (2, .inl a2), (3, .inl a3), (4, .inl v4_3), (5, .inl v5_3), (6, .inl v6_3)]) (stₚ := [.inl a3, .inl a2, .inr (.inr (some a1)), .inl v5_3, .inr (.inr (some p))]) (hₚ := gc_h sh I1 J2 A) (C := (((((True ∧ True) ∧ True) ∧ True) ∧ True) ∧ True)) rfl ⟨⟨⟨⟨⟨trivial, trivial⟩, trivial⟩, trivial⟩, trivial⟩, trivial⟩ ?_
            obtain ⟨r15, h15, E15, P15⟩ := d_X2_endsWith (ws0 := ws0) (tb := tb) hws htb sh ro I1 J2 A hI1 p m v5_3 a1 a2 a3 hp S_a1 R_a1 B_a1 (by (/-23-/first | omega | (simp only [gz_hd] at *; omega)))  ⟨by (/-24-/first | omega | (simp only [gz_hd] at *; omega)), by (/-25-/first | (have o1 := gz_sh hv5_3; omega) | (simp only [gz_hd] at *; omega))⟩ ⟨by (/-26-/first | omega | (simp only [gz_hd] at *; omega)), by (/-27-/first | omega | (simp only [gz_hd] at *; omega))⟩ ⟨by (/-28-/first | omega | (simp only [gz_hd] at *; omega)), by (/-29-/first | omega | (simp only [gz_hd] at *; omega))⟩ (by (/-30-/first | omega | (simp only [gz_hd] at *; omega))) 
            obtain ⟨rfl, ⟨z15, rfl, q15⟩⟩ := P15
            replace q15 := gz_hi q15
            refine gv_callV hD rfl (As := [.inl v5_3, .inr (.inr (some a1)), .inl a2, .inl a3]) (st := []) rfl (gz_sh B_p) S_p rfl (gc_lV2 hws rfl) (Nat.le_of_ble_eq_true rfl) (gz_Ev_mono (d := 1) (by decide) E15) ?_
            show gv_X _ _ (54, [(0, .inr (.inr (some p))), (1, .inr (.inr (some a1))), (2, .inl a2), (3, .inl a3), (4, .inl v4_3), (5, .inl v5_3), (6, .inl v6_3)], [.inl z15], sh, gc_h sh I1 J2 A)
            refine gv_if_eq (t := 69) hD rfl rfl ⟨by (/-31-/first | (have o1 := gz_sh q15; omega) | (simp only [gz_hd] at *; omega)), by (/-32-/first | (have o1 := gz_sh q15; omega) | (simp only [gz_hd] at *; omega))⟩ (fun c16 => ?_) (fun c16 => ?_)
            · show gv_X _ _ (69, [(0, .inr (.inr (some p))), (1, .inr (.inr (some a1))), (2, .inl a2), (3, .inl a3), (4, .inl v4_3), (5, .inl v5_3), (6, .inl v6_3)], [], sh, gc_h sh I1 J2 A)
              exact L69 I1 J2 v4_3 hI1 FI1 FJ2 (by (/-33-/first | (and_intros; (omega); (omega); (omega); (omega); (have o1 := gz_sh hv4_3; omega); (have o1 := gz_sh hv4_3; omega); (omega); (have o1 := gz_sh hv5_3; omega); (have o1 := gz_sh hv6_3; omega); (omega); (have o1 := gz_sh e0_3; omega); (have o1 := gz_sh e2_3; omega)) | (simp only [gz_hd] at *; omega))) e1_3
            · show gv_X _ _ (57, [(0, .inr (.inr (some p))), (1, .inr (.inr (some a1))), (2, .inl a2), (3, .inl a3), (4, .inl v4_3), (5, .inl v5_3), (6, .inl v6_3)], [], sh, gc_h sh I1 J2 A)
              refine gv_run 1 true hD (pcₚ := 58) (lvₚ := [(0, .inr (.inr (some p))), (1, .inr (.inr (some a1))), (2, .inl a2), (3, .inl a3), (4, .inl v4_3), (5, .inl v5_3), (6, .inl v6_3)]) (stₚ := [.inr (.inr (some p))]) (hₚ := gc_h sh I1 J2 A) (C := (True ∧ True)) rfl ⟨trivial, trivial⟩ ?_
              refine gv_get hD rfl rfl S_p ⟨by decide, (gz_sh B_p)⟩ (gc_hA S_p rfl A_p_5) ?_
              show gv_X _ _ (61, [(0, .inr (.inr (some p))), (1, .inr (.inr (some a1))), (2, .inl a2), (3, .inl a3), (4, .inl v4_3), (5, .inl v5_3), (6, .inl v6_3)], [.inr (.inr (some (p + 5)))], sh, gc_h sh I1 J2 A)
              refine gv_run 3 true hD (pcₚ := 68) (lvₚ := [(4, .inl (v4_3 + 1)), (0, .inr (.inr (some p))), (1, .inr (.inr (some a1))), (2, .inl a2), (3, .inl a3), (5, .inl v5_3), (6, .inl v6_3)]) (stₚ := [.inl v5_3, .inl v4_3, .inr (.inr (some (p + 5)))]) (hₚ := gc_h sh I1 J2 A) (C := (((True ∧ True) ∧ True) ∧ True)) rfl ⟨⟨⟨trivial, trivial⟩, trivial⟩, trivial⟩ ?_
              refine gv_iast hD rfl S_p_5 ⟨by decide, (gz_sh B_p_5)⟩ ⟨by (/-34-/first | (have o1 := gz_sh hv4_3; omega) | (simp only [gz_hd] at *; omega)), by (/-35-/first | (have o1 := gz_sh e0_3; omega) | (simp only [gz_hd] at *; omega))⟩ ?_
              refine gc_st hI1 S_p_5 rfl (gz_sh R_p_5) (lo := 0) (hi := 1535) rfl rfl (by (/-36-/first | omega | (simp only [gz_hd] at *; omega))) (by (/-37-/first | (have o1 := gz_sh hv5_3; omega) | (simp only [gz_hd] at *; omega))) (fun I17 hI17 q18 p18 => ?_)
              have FI17 := gc_frs (W := fun q j => q = (p + 5)) FI1 rfl p18
              show gv_X _ _ (69, [(4, .inl (v4_3 + 1)), (0, .inr (.inr (some p))), (1, .inr (.inr (some a1))), (2, .inl a2), (3, .inl a3), (5, .inl v5_3), (6, .inl v6_3)], [], sh, gc_h sh I17 J2 A)
              refine gv_pick [1, 2, 3, 4, 0, 5, 6] rfl ?_
              exact L69 I17 J2 (v4_3 + 1) hI17 FI17 FJ2 (by (/-38-/first | (and_intros; (omega); (omega); (omega); (omega); (have o1 := gz_sh hv4_3; omega); (have o1 := gz_sh e0_3; omega); (omega); (have o1 := gz_sh hv5_3; omega); (have o1 := gz_sh hv6_3; omega); (omega); (have o1 := gz_sh e0_3; omega); (have o1 := gz_sh e2_3; omega)) | (simp only [gz_hd] at *; omega))) (gc_rg_push e1_3 (by (/-39-/first | (have o1 := gz_sh hv4_3; omega) | (simp only [gz_hd] at *; omega))) p18 (by (/-40-/first | (and_intros; (omega); (have o1 := gz_sh e2_3; omega)) | (simp only [gz_hd] at *; omega))))
  refine gv_run 3 true hD (pcₚ := 4) (lvₚ := [(4, .inl 0), (0, .inr (.inr (some p))), (1, .inr (.inr (some a1))), (2, .inl a2), (3, .inl a3)]) (stₚ := [.inr (.inr (some p))]) (hₚ := gc_h sh I J A) (C := (((True ∧ True) ∧ True) ∧ True)) rfl ⟨⟨⟨trivial, trivial⟩, trivial⟩, trivial⟩ ?_
  refine gv_get hD rfl rfl S_p ⟨by decide, (gz_sh B_p)⟩ (gc_hA S_p rfl A_p_4) ?_
  show gv_X _ _ (7, [(4, .inl 0), (0, .inr (.inr (some p))), (1, .inr (.inr (some a1))), (2, .inl a2), (3, .inl a3)], [.inr (.inr (some (p + 4)))], sh, gc_h sh I J A)
  refine gv_run 3 true hD (pcₚ := 10) (lvₚ := [(4, .inl 0), (0, .inr (.inr (some p))), (1, .inr (.inr (some a1))), (2, .inl a2), (3, .inl a3)]) (stₚ := [.inl a3, .inl a2, .inr (.inr (some a1)), .inr (.inr (some (p + 4)))]) (hₚ := gc_h sh I J A) (C := (((True ∧ True) ∧ True) ∧ True)) rfl ⟨⟨⟨trivial, trivial⟩, trivial⟩, trivial⟩ ?_
  obtain ⟨r19, h19, E19, P19⟩ := d_X2_hash (ws0 := ws0) (tb := tb) hws htb sh ro I J A hI  m a1 a2 a3  S_a1 R_a1 B_a1 (by (/-41-/first | omega | (simp only [gz_hd] at *; omega)))  ⟨by (/-42-/first | omega | (simp only [gz_hd] at *; omega)), by (/-43-/first | omega | (simp only [gz_hd] at *; omega))⟩ ⟨by (/-44-/first | omega | (simp only [gz_hd] at *; omega)), by (/-45-/first | omega | (simp only [gz_hd] at *; omega))⟩ (by (/-46-/first | omega | (simp only [gz_hd] at *; omega))) 
  obtain ⟨rfl, ⟨z19, rfl, q19⟩⟩ := P19
  replace q19 := gz_hi q19
  refine gv_callS hD rfl (As := [.inr (.inr (some a1)), .inl a2, .inl a3]) (st := [.inr (.inr (some (p + 4)))]) rfl (gc_lS2 hws rfl) (Nat.le_of_ble_eq_true rfl) (gz_Ev_mono (d := 1) (by decide) E19) ?_
  show gv_X _ _ (13, [(4, .inl 0), (0, .inr (.inr (some p))), (1, .inr (.inr (some a1))), (2, .inl a2), (3, .inl a3)], [.inl z19, .inr (.inr (some (p + 4)))], sh, gc_h sh I J A)
  have f20 := gz_hi ((show (-1) ≤ I (p + 4) (Int.toNat z19) ∧ I (p + 4) (Int.toNat z19) ≤ 1535 from gc_in2 hI (gz_sh R_p_4) rfl rfl rfl))
  refine gv_iald hD rfl S_p_4 rfl ⟨by decide, (gz_sh B_p_4)⟩ ⟨by (/-47-/first | (have o1 := gz_sh q19; omega) | (simp only [gz_hd] at *; omega)), by (/-48-/first | (have o1 := gz_sh q19; omega) | (simp only [gz_hd] at *; omega))⟩ (gc_iI S_p_4 rfl) ?_
  show gv_X _ _ (14, [(4, .inl 0), (0, .inr (.inr (some p))), (1, .inr (.inr (some a1))), (2, .inl a2), (3, .inl a3)], [.inl (I (p + 4) (Int.toNat z19))], sh, gc_h sh I J A)
  have t21 := gz_hi (x1.1 (Int.toNat z19) (by (/-49-/first | (have o1 := gz_sh q19; omega) | (simp only [gz_hd] at *; omega))))
  refine gv_run 3 true hD (pcₚ := 19) (lvₚ := [(6, .inl 0), (5, .inl (I (p + 4) (Int.toNat z19))), (4, .inl 0), (0, .inr (.inr (some p))), (1, .inr (.inr (some a1))), (2, .inl a2), (3, .inl a3)]) (stₚ := []) (hₚ := gc_h sh I J A) (C := (((True ∧ True) ∧ True) ∧ True)) rfl ⟨⟨⟨trivial, trivial⟩, trivial⟩, trivial⟩ ?_
  refine gv_pick [3, 4, 5, 6, 2, 1, 0] rfl ?_
  exact L19 _ I J 0 ((I (p + 4) (Int.toNat z19))) 0 (Nat.lt_succ_self _) hI FI FJ (by (/-50-/first | (and_intros; (omega); (omega); (omega); (omega); (omega); (omega); (have o1 := gz_sh f20; omega); (have o1 := gz_sh f20; omega); (omega); (omega); (omega); (have o1 := gz_sh t21; omega)) | (simp only [gz_hd] at *; omega))) (fun k a b => by (/-51-/first | (and_intros <;> omega) | (simp only [gz_hd] at *; omega)))
