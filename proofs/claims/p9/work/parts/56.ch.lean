set_option maxHeartbeats 8000000 in
set_option maxRecDepth 100000 in
theorem d_X8_writeTree {ws0 : List Cond} {tb : String → gz_T} (hws : gc_Ws ws0) (htb : gc_tbs tb) (sh : gz_Sh) (ro : Nat → Nat) (I : gr_I) (J : gr_J) (A : gc_A) (hI : gc_Inv ro I) (m : Nat) (a1 : Nat) (a2 : Int) (a3 : Nat) (hb : gc_Base sh ro A) (S_a1 : sh[a1]? = some (true, 1, m)) (R_a1 : ro a1 = 37) (B_a1 : a1 < 1000000) (M_a1 : m < 2147483648) (h_a3 : gc_isText sh ro A a3) (ha2 : 0 ≤ a2 ∧ a2 ≤ 60) (x0 : a2 ≤ m) : ∃ r hₚ, gz_Ev ws0 tb 3 (yX8_writeTree, cX8_writeTree, 6, none) [.inr (.inr (some 1)), .inr (.inr (some a1)), .inl a2, .inr (.inr (some a3))] sh (gc_h sh I J A) r sh hₚ 0 0 ∧ (∃ (Iₚ : gr_I) (Jₚ : gr_J), hₚ = gc_h sh Iₚ Jₚ A ∧ gc_Inv ro Iₚ ∧ (∀ q j : Nat, ((q = a3 ∧ j = 1) ∨ q = (a3 + 1) ∨ q = 22) ∨ Iₚ q j = I q j) ∧ (∀ q j : Nat, (False) ∨ Jₚ q j = J q j) ∧ r = none) := by
  have FI : ∀ q j : Nat, ((q = a3 ∧ j = 1) ∨ q = (a3 + 1) ∨ q = 22) ∨ I q j = I q j := fun _ _ => Or.inr rfl
  have FJ : ∀ q j : Nat, (False) ∨ J q j = J q j := fun _ _ => Or.inr rfl
  have A_1_1 : A 1 1 = some 4 := gc_bA_1_1 hb
  have A_1_20 : A 1 20 = some 22 := gc_bA_1_20 hb
  have A_1_7 : A 1 7 = some 12 := gc_bA_1_7 hb
  have A_4_0 : A 4 0 = some 5 := gc_bA_4_0 hb
  have B_1 := gz_hi (show 1 < 1000000 from by decide)
  have B_12 := gz_hi (show 12 < 1000000 from by decide)
  have B_22 := gz_hi (show 22 < 1000000 from by decide)
  have B_4 := gz_hi (show 4 < 1000000 from by decide)
  have B_5 := gz_hi (show 5 < 1000000 from by decide)
  have R_12 := gz_hi (show ro 12 = 26 from gc_bR_12 hb)
  have R_22 := gz_hi (show ro 22 = 38 from gc_bR_22 hb)
  have S_1 : sh[1]? = some (false, 8, 21) := gc_bS_1 hb
  have S_12 : sh[12]? = some (true, 1, 96) := gc_bS_12 hb
  have S_22 : sh[22]? = some (true, 1, 60) := gc_bS_22 hb
  have S_4 : sh[4]? = some (false, 4, 2) := gc_bS_4 hb
  have S_5 : sh[5]? = some (true, 2, 96) := gc_bS_5 hb
  obtain ⟨S_a3, R_a3, B_a3, A_a3_0, S_a3_1, R_a3_1, B_a3_1, A_a3_2, S_a3_2, R_a3_2, B_a3_2, A_a3_3, S_a3_3, R_a3_3, B_a3_3⟩ := id h_a3
  replace R_a3 := gz_hi R_a3
  replace B_a3 := gz_hi B_a3
  replace R_a3_1 := gz_hi R_a3_1
  replace B_a3_1 := gz_hi B_a3_1
  replace R_a3_2 := gz_hi R_a3_2
  replace B_a3_2 := gz_hi B_a3_2
  replace R_a3_3 := gz_hi R_a3_3
  replace B_a3_3 := gz_hi B_a3_3
  have N1 : a3 ≠ 22 := fun h => by
    have h9 := S_a3
    rw [h, S_22] at h9
    cases h9
  have N2 : a3 + 1 ≠ 22 := fun h => by
    have h9 := S_a3_1
    rw [h, S_22] at h9
    cases h9
  have N3 : a1 ≠ a3 := fun h => by
    have h9 := S_a1
    rw [h, S_a3] at h9
    cases h9
  have N4 : a1 ≠ a3 + 1 := fun h => by
    have h9 := S_a1
    rw [h, S_a3_1] at h9
    cases h9
  have N5 : a3 ≠ 12 := fun h => by
    have h9 := S_a3
    rw [h, S_12] at h9
    cases h9
  have N6 : a3 + 1 ≠ 12 := fun h => by
    have h9 := S_a3_1
    rw [h, S_12] at h9
    cases h9
  have hD : gv_D (gc_E8 ws0 tb 2 (yX8_writeTree, cX8_writeTree, 6, none) kX8_writeTree) := gq_of oX8_writeTree
  refine gc_ev8 (d := 2) (l := kX8_writeTree) (Po := fun r hₚ => (∃ (Iₚ : gr_I) (Jₚ : gr_J), hₚ = gc_h sh Iₚ Jₚ A ∧ gc_Inv ro Iₚ ∧ (∀ q j : Nat, ((q = a3 ∧ j = 1) ∨ q = (a3 + 1) ∨ q = 22) ∨ Iₚ q j = I q j) ∧ (∀ q j : Nat, (False) ∨ Jₚ q j = J q j) ∧ r = none)) htb rfl (Nat.le_of_ble_eq_true rfl) ?_
  have L6 : ∀ (n9 : Nat) (I1 : gr_I) (J2 : gr_J) (v4_3 : Int) (v5_3 : Int), (61 - v5_3).toNat < n9 → gc_Inv ro I1 → (∀ q j : Nat, ((q = a3 ∧ j = 1) ∨ q = (a3 + 1) ∨ q = 22) ∨ I1 q j = I q j) → (∀ q j : Nat, (False) ∨ J2 q j = J q j) → ((0 ≤ a2 ∧ a2 ≤ 60) ∧ (0 ≤ v4_3 ∧ v4_3 ≤ 60) ∧ (0 ≤ v5_3 ∧ v5_3 ≤ 60) ∧ (v4_3 ≤ v5_3)) → (gc_ge 22 I1 v4_3) → gv_X (gc_E8 ws0 tb 2 (yX8_writeTree, cX8_writeTree, 6, none) kX8_writeTree) (gv_Q cX8_writeTree none sh (fun r hₚ => (∃ (Iₚ : gr_I) (Jₚ : gr_J), hₚ = gc_h sh Iₚ Jₚ A ∧ gc_Inv ro Iₚ ∧ (∀ q j : Nat, ((q = a3 ∧ j = 1) ∨ q = (a3 + 1) ∨ q = 22) ∨ Iₚ q j = I q j) ∧ (∀ q j : Nat, (False) ∨ Jₚ q j = J q j) ∧ r = none))) (6, [(0, .inr (.inr (some 1))), (1, .inr (.inr (some a1))), (2, .inl a2), (3, .inr (.inr (some a3))), (4, .inl v4_3), (5, .inl v5_3)], [], sh, gc_h sh I1 J2 A) := by
    intro n9
    induction n9 with
    | zero => intro I1 J2 v4_3 v5_3 hn; (/-0-/first | omega | (simp only [gz_hd] at *; omega))
    | succ n9 ih6 =>
      intro I1 J2 v4_3 v5_3 hn hI1 FI1 FJ2 m_3 e0_3
      obtain ⟨ha2_3, hv4_3, hv5_3, e1_3⟩ := gz_h4 m_3
      have L122 : ∀ (I4 : gr_I) (J5 : gr_J) (v4_6 : Int), gc_Inv ro I4 → (∀ q j : Nat, ((q = a3 ∧ j = 1) ∨ q = (a3 + 1) ∨ q = 22) ∨ I4 q j = I q j) → (∀ q j : Nat, (False) ∨ J5 q j = J q j) → ((1 ≤ a2 ∧ a2 ≤ 60) ∧ (0 ≤ v4_6 ∧ v4_6 ≤ 60) ∧ (0 ≤ v5_3 ∧ v5_3 ≤ 59) ∧ (v4_6 ≤ v5_3 + 1) ∧ (v5_3 < a2)) → (gc_ge 22 I4 v4_6) → gv_X (gc_E8 ws0 tb 2 (yX8_writeTree, cX8_writeTree, 6, none) kX8_writeTree) (gv_Q cX8_writeTree none sh (fun r hₚ => (∃ (Iₚ : gr_I) (Jₚ : gr_J), hₚ = gc_h sh Iₚ Jₚ A ∧ gc_Inv ro Iₚ ∧ (∀ q j : Nat, ((q = a3 ∧ j = 1) ∨ q = (a3 + 1) ∨ q = 22) ∨ Iₚ q j = I q j) ∧ (∀ q j : Nat, (False) ∨ Jₚ q j = J q j) ∧ r = none))) (122, [(0, .inr (.inr (some 1))), (1, .inr (.inr (some a1))), (2, .inl a2), (3, .inr (.inr (some a3))), (4, .inl v4_6), (5, .inl v5_3)], [], sh, gc_h sh I4 J5 A) := by
        intro I4 J5 v4_6 hI4 FI4 FJ5 m_6 e1_6
        clear ha2_3 hv4_3 hv5_3 e1_3
        obtain ⟨ha2_6, hv4_6, hv5_3_6, e0_6, e2_6⟩ := gz_h5 m_6
        refine gv_run 2 true hD (pcₚ := 6) (lvₚ := [(5, .inl (v5_3 + 1)), (0, .inr (.inr (some 1))), (1, .inr (.inr (some a1))), (2, .inl a2), (3, .inr (.inr (some a3))), (4, .inl v4_6)]) (stₚ := []) (hₚ := gc_h sh I4 J5 A) (C := ((True ∧ True) ∧ True)) rfl ⟨⟨trivial, trivial⟩, trivial⟩ ?_
        refine gv_pick [1, 2, 3, 4, 5, 0] rfl ?_
        exact ih6 I4 J5 v4_6 (v5_3 + 1) (by (/-1-/first | (have o1 := gz_sh hv5_3_6; omega) | (simp only [gz_hd] at *; omega))) hI4 FI4 FJ5 (by (/-2-/first | (and_intros; (have o1 := gz_sh ha2_6; omega); (omega); (have o1 := gz_sh hv4_6; omega); (have o1 := gz_sh hv4_6; omega); (have o1 := gz_sh hv5_3_6; omega); (have o1 := gz_sh hv5_3_6; omega); (have o1 := gz_sh e0_6; omega)) | (simp only [gz_hd] at *; omega))) e1_6
      have L68 : ∀ (n9 : Nat) (I7 : gr_I) (J8 : gr_J) (v4_9 : Int), (v4_9 - (-1)).toNat < n9 → gc_Inv ro I7 → (∀ q j : Nat, ((q = a3 ∧ j = 1) ∨ q = (a3 + 1) ∨ q = 22) ∨ I7 q j = I q j) → (∀ q j : Nat, (False) ∨ J8 q j = J q j) → ((1 ≤ a2 ∧ a2 ≤ 60) ∧ (0 ≤ v4_9 ∧ v4_9 ≤ 60) ∧ (0 ≤ v5_3 ∧ v5_3 ≤ 59) ∧ (v4_9 ≤ v5_3) ∧ (v5_3 < a2)) → (gc_ge 22 I7 v4_9) → gv_X (gc_E8 ws0 tb 2 (yX8_writeTree, cX8_writeTree, 6, none) kX8_writeTree) (gv_Q cX8_writeTree none sh (fun r hₚ => (∃ (Iₚ : gr_I) (Jₚ : gr_J), hₚ = gc_h sh Iₚ Jₚ A ∧ gc_Inv ro Iₚ ∧ (∀ q j : Nat, ((q = a3 ∧ j = 1) ∨ q = (a3 + 1) ∨ q = 22) ∨ Iₚ q j = I q j) ∧ (∀ q j : Nat, (False) ∨ Jₚ q j = J q j) ∧ r = none))) (68, [(0, .inr (.inr (some 1))), (1, .inr (.inr (some a1))), (2, .inl a2), (3, .inr (.inr (some a3))), (4, .inl v4_9), (5, .inl v5_3)], [], sh, gc_h sh I7 J8 A) := by
        intro n9
        induction n9 with
        | zero => intro I7 J8 v4_9 hn; (/-3-/first | omega | (simp only [gz_hd] at *; omega))
        | succ n9 ih68 =>
          intro I7 J8 v4_9 hn hI7 FI7 FJ8 m_9 e1_9
          clear ha2_3 hv4_3 hv5_3 e1_3
          obtain ⟨ha2_9, hv4_9, hv5_3_9, e0_9, e2_9⟩ := gz_h5 m_9
          have L98 : ((1 ≤ a2 ∧ a2 ≤ 60) ∧ (0 ≤ v4_9 ∧ v4_9 ≤ 60) ∧ (0 ≤ v5_3 ∧ v5_3 ≤ 59) ∧ (v4_9 ≤ v5_3) ∧ (v4_9 ≤ 0 ∨ ¬ I7 22 (Int.toNat (v4_9 - 1)) = 1) ∧ (v5_3 < a2)) → (gc_ge 22 I7 v4_9) → gv_X (gc_E8 ws0 tb 2 (yX8_writeTree, cX8_writeTree, 6, none) kX8_writeTree) (gv_Q cX8_writeTree none sh (fun r hₚ => (∃ (Iₚ : gr_I) (Jₚ : gr_J), hₚ = gc_h sh Iₚ Jₚ A ∧ gc_Inv ro Iₚ ∧ (∀ q j : Nat, ((q = a3 ∧ j = 1) ∨ q = (a3 + 1) ∨ q = 22) ∨ Iₚ q j = I q j) ∧ (∀ q j : Nat, (False) ∨ Jₚ q j = J q j) ∧ r = none))) (98, [(0, .inr (.inr (some 1))), (1, .inr (.inr (some a1))), (2, .inl a2), (3, .inr (.inr (some a3))), (4, .inl v4_9), (5, .inl v5_3)], [], sh, gc_h sh I7 J8 A) := by
            intro m_10 e2_10
            obtain ⟨ha2_10, hv4_9_10, hv5_3_10, e0_10, e1_10, e3_10⟩ := gz_h6 m_10
            refine gv_run 1 true hD (pcₚ := 100) (lvₚ := [(0, .inr (.inr (some 1))), (1, .inr (.inr (some a1))), (2, .inl a2), (3, .inr (.inr (some a3))), (4, .inl v4_9), (5, .inl v5_3)]) (stₚ := [.inl v4_9]) (hₚ := gc_h sh I7 J8 A) (C := (True ∧ True)) rfl ⟨trivial, trivial⟩ ?_
            refine gv_if_le (t := 122) hD rfl rfl ⟨by (/-4-/first | (have o1 := gz_sh hv4_9; omega) | (simp only [gz_hd] at *; omega)), by (/-5-/first | (have o1 := gz_sh hv4_9; omega) | (simp only [gz_hd] at *; omega))⟩ (fun c11 => ?_) (fun c11 => ?_)
            · show gv_X _ _ (122, [(0, .inr (.inr (some 1))), (1, .inr (.inr (some a1))), (2, .inl a2), (3, .inr (.inr (some a3))), (4, .inl v4_9), (5, .inl v5_3)], [], sh, gc_h sh I7 J8 A)
              exact L122 I7 J8 v4_9 hI7 FI7 FJ8 (by (/-6-/first | (and_intros; (have o1 := gz_sh ha2_9; omega); (omega); (have o1 := gz_sh hv4_9; omega); (omega); (have o1 := gz_sh hv5_3_9; omega); (have o1 := gz_sh hv5_3_9; omega); (have o1 := gz_sh hv5_3_9; omega); (have o1 := gz_sh e2_9; omega)) | (simp only [gz_hd] at *; omega))) e2_10
            · show gv_X _ _ (103, [(0, .inr (.inr (some 1))), (1, .inr (.inr (some a1))), (2, .inl a2), (3, .inr (.inr (some a3))), (4, .inl v4_9), (5, .inl v5_3)], [], sh, gc_h sh I7 J8 A)
              refine gv_run 2 true hD (pcₚ := 106) (lvₚ := [(0, .inr (.inr (some 1))), (1, .inr (.inr (some a1))), (2, .inl a2), (3, .inr (.inr (some a3))), (4, .inl v4_9), (5, .inl v5_3)]) (stₚ := [.inl 44, .inr (.inr (some a3))]) (hₚ := gc_h sh I7 J8 A) (C := ((True ∧ True) ∧ True)) rfl ⟨⟨trivial, trivial⟩, trivial⟩ ?_
              obtain ⟨r12, h12, E12, P12⟩ := d_X9_put (ws0 := ws0) (tb := tb) hws htb sh ro I7 J8 A hI7 a3 44 h_a3   ⟨by (/-7-/first | omega | (simp only [gz_hd] at *; omega)), by (/-8-/first | omega | (simp only [gz_hd] at *; omega))⟩  
              obtain ⟨I13, J14, rfl, hI13, g12, k12, rfl⟩ := P12
              have FI13 := gc_frc (W := fun q j => (q = a3 ∧ j = 1) ∨ q = (a3 + 1) ∨ q = 22) (V := fun q j => (q = a3 ∧ j = 1) ∨ q = (a3 + 1)) FI7 (fun q j h => (h.elim (fun h => (Or.inl h)) (fun h => (Or.inr (Or.inl h))))) g12
              obtain rfl : J8 = J14 := funext fun q => funext fun j => ((k12 q j).resolve_left id).symm
              refine gv_callV hD rfl (As := [.inl 44]) (st := []) rfl (gz_sh B_a3) S_a3 rfl (gc_lV8 hws rfl) (Nat.le_of_ble_eq_true rfl) (gz_Ev_mono (d := 1) (by decide) E12) ?_
              show gv_X _ _ (109, [(0, .inr (.inr (some 1))), (1, .inr (.inr (some a1))), (2, .inl a2), (3, .inr (.inr (some a3))), (4, .inl v4_9), (5, .inl v5_3)], [], sh, gc_h sh I13 J8 A)
              refine gv_run 1 true hD (pcₚ := 110) (lvₚ := [(0, .inr (.inr (some 1))), (1, .inr (.inr (some a1))), (2, .inl a2), (3, .inr (.inr (some a3))), (4, .inl v4_9), (5, .inl v5_3)]) (stₚ := [.inr (.inr (some 1))]) (hₚ := gc_h sh I13 J8 A) (C := (True ∧ True)) rfl ⟨trivial, trivial⟩ ?_
              refine gv_get hD rfl rfl S_1 ⟨by decide, (gz_sh B_1)⟩ (gc_hA S_1 rfl A_1_20) ?_
              show gv_X _ _ (113, [(0, .inr (.inr (some 1))), (1, .inr (.inr (some a1))), (2, .inl a2), (3, .inr (.inr (some a3))), (4, .inl v4_9), (5, .inl v5_3)], [.inr (.inr (some 22))], sh, gc_h sh I13 J8 A)
              refine gv_run 3 true hD (pcₚ := 117) (lvₚ := [(0, .inr (.inr (some 1))), (1, .inr (.inr (some a1))), (2, .inl a2), (3, .inr (.inr (some a3))), (4, .inl v4_9), (5, .inl v5_3)]) (stₚ := [.inl (v4_9 - 1), .inr (.inr (some 22))]) (hₚ := gc_h sh I13 J8 A) (C := (((True ∧ True) ∧ True) ∧ True)) rfl ⟨⟨⟨trivial, trivial⟩, trivial⟩, trivial⟩ ?_
              have t15 := gz_hi ((gc_ge_fr e2_10 (fun k => (g12 22 k).resolve_left (by (/-9-/first | (have o1 := gz_sh e1_10; have o2 := gz_sh hv4_9; have o3 := gz_sh hv5_3_9; omega) | (simp only [gz_hd] at *; omega))))) (v4_9 - 1) (by (/-10-/first | omega | (simp only [gz_hd] at *; omega))) (by (/-11-/first | omega | (simp only [gz_hd] at *; omega))))
              have t16 := gz_hi ((g12 22 (Int.toNat (v4_9 - 1))).resolve_left (by (/-12-/first | (have o1 := gz_sh e1_10; have o2 := gz_sh hv4_9; have o3 := gz_sh hv5_3_9; omega) | (simp only [gz_hd] at *; omega))))
              refine gv_run 1 true hD (pcₚ := 118) (lvₚ := [(0, .inr (.inr (some 1))), (1, .inr (.inr (some a1))), (2, .inl a2), (3, .inr (.inr (some a3))), (4, .inl v4_9), (5, .inl v5_3)]) (stₚ := [.inl (v4_9 - 1), .inr (.inr (some 22)), .inl (v4_9 - 1), .inr (.inr (some 22))]) (hₚ := gc_h sh I13 J8 A) (C := (True ∧ True)) rfl ⟨trivial, trivial⟩ ?_
              have f17 := gz_hi ((gc_b_38 hI13 (gz_sh R_22) (Int.toNat (v4_9 - 1))))
              refine gv_iald hD rfl S_22 rfl ⟨by decide, (gz_sh B_22)⟩ ⟨by (/-13-/first | omega | (simp only [gz_hd] at *; omega)), by (/-14-/first | (have o1 := gz_sh hv4_9; omega) | (simp only [gz_hd] at *; omega))⟩ (gc_iI S_22 rfl) ?_
              show gv_X _ _ (119, [(0, .inr (.inr (some 1))), (1, .inr (.inr (some a1))), (2, .inl a2), (3, .inr (.inr (some a3))), (4, .inl v4_9), (5, .inl v5_3)], [.inl (I13 22 (Int.toNat (v4_9 - 1))), .inl (v4_9 - 1), .inr (.inr (some 22))], sh, gc_h sh I13 J8 A)
              refine gv_run 2 true hD (pcₚ := 121) (lvₚ := [(0, .inr (.inr (some 1))), (1, .inr (.inr (some a1))), (2, .inl a2), (3, .inr (.inr (some a3))), (4, .inl v4_9), (5, .inl v5_3)]) (stₚ := [.inl ((I13 22 (Int.toNat (v4_9 - 1))) - 1), .inl (v4_9 - 1), .inr (.inr (some 22))]) (hₚ := gc_h sh I13 J8 A) (C := ((True ∧ True) ∧ True)) rfl ⟨⟨trivial, trivial⟩, trivial⟩ ?_
              refine gv_iast hD rfl S_22 ⟨by decide, (gz_sh B_22)⟩ ⟨by (/-15-/first | omega | (simp only [gz_hd] at *; omega)), by (/-16-/first | (have o1 := gz_sh hv4_9; omega) | (simp only [gz_hd] at *; omega))⟩ ?_
              refine gc_st hI13 S_22 rfl (gz_sh R_22) (lo := 0) (hi := 59) rfl rfl (by (/-17-/first | (have o1 := gz_sh t15; omega) | (simp only [gz_hd] at *; omega))) (by (/-18-/first | (have o1 := gz_sh f17; omega) | (simp only [gz_hd] at *; omega))) (fun I18 hI18 q19 p19 => ?_)
              have FI18 := gc_frs (W := fun q j => (q = a3 ∧ j = 1) ∨ q = (a3 + 1) ∨ q = 22) FI13 (Or.inr (Or.inr rfl)) p19
              show gv_X _ _ (122, [(0, .inr (.inr (some 1))), (1, .inr (.inr (some a1))), (2, .inl a2), (3, .inr (.inr (some a3))), (4, .inl v4_9), (5, .inl v5_3)], [], sh, gc_h sh I18 J8 A)
              exact L122 I18 J8 v4_9 hI18 FI18 FJ8 (by (/-19-/first | (and_intros; (have o1 := gz_sh ha2_9; omega); (omega); (omega); (have o1 := gz_sh hv4_9; omega); (have o1 := gz_sh hv5_3_9; omega); (have o1 := gz_sh hv5_3_9; omega); (have o1 := gz_sh e0_9; omega); (have o1 := gz_sh e2_9; omega)) | (simp only [gz_hd] at *; omega))) (gc_ge_set (gc_ge_fr e2_10 (fun k => (g12 22 k).resolve_left (by (/-20-/first | (have o1 := gz_sh e1_10; have o2 := gz_sh f17; have o3 := gz_sh hv4_9; have o4 := gz_sh hv5_3_9; have o5 := gz_sh t15; have o6 := gz_sh t16; omega) | (simp only [gz_hd] at *; omega))))) (by (/-21-/first | omega | (simp only [gz_hd] at *; omega))) p19 (by (/-22-/first | (have o1 := gz_sh e1_10; have o2 := gz_sh t15; have o3 := gz_sh t16; omega) | (simp only [gz_hd] at *; omega))))
          refine gv_run 1 true hD (pcₚ := 70) (lvₚ := [(0, .inr (.inr (some 1))), (1, .inr (.inr (some a1))), (2, .inl a2), (3, .inr (.inr (some a3))), (4, .inl v4_9), (5, .inl v5_3)]) (stₚ := [.inl v4_9]) (hₚ := gc_h sh I7 J8 A) (C := (True ∧ True)) rfl ⟨trivial, trivial⟩ ?_
          refine gv_if_le (t := 98) hD rfl rfl ⟨by (/-23-/first | (have o1 := gz_sh hv4_9; omega) | (simp only [gz_hd] at *; omega)), by (/-24-/first | (have o1 := gz_sh hv4_9; omega) | (simp only [gz_hd] at *; omega))⟩ (fun c20 => ?_) (fun c20 => ?_)
          · show gv_X _ _ (98, [(0, .inr (.inr (some 1))), (1, .inr (.inr (some a1))), (2, .inl a2), (3, .inr (.inr (some a3))), (4, .inl v4_9), (5, .inl v5_3)], [], sh, gc_h sh I7 J8 A)
            exact L98 (by (/-25-/first | (and_intros; (have o1 := gz_sh ha2_9; omega); (omega); (have o1 := gz_sh hv4_9; omega); (omega); (have o1 := gz_sh hv5_3_9; omega); (have o1 := gz_sh hv5_3_9; omega); (have o1 := gz_sh hv5_3_9; omega); (omega); (have o1 := gz_sh e2_9; omega)) | (simp only [gz_hd] at *; omega))) e1_9
          · show gv_X _ _ (73, [(0, .inr (.inr (some 1))), (1, .inr (.inr (some a1))), (2, .inl a2), (3, .inr (.inr (some a3))), (4, .inl v4_9), (5, .inl v5_3)], [], sh, gc_h sh I7 J8 A)
            refine gv_run 1 true hD (pcₚ := 74) (lvₚ := [(0, .inr (.inr (some 1))), (1, .inr (.inr (some a1))), (2, .inl a2), (3, .inr (.inr (some a3))), (4, .inl v4_9), (5, .inl v5_3)]) (stₚ := [.inr (.inr (some 1))]) (hₚ := gc_h sh I7 J8 A) (C := (True ∧ True)) rfl ⟨trivial, trivial⟩ ?_
            refine gv_get hD rfl rfl S_1 ⟨by decide, (gz_sh B_1)⟩ (gc_hA S_1 rfl A_1_20) ?_
            show gv_X _ _ (77, [(0, .inr (.inr (some 1))), (1, .inr (.inr (some a1))), (2, .inl a2), (3, .inr (.inr (some a3))), (4, .inl v4_9), (5, .inl v5_3)], [.inr (.inr (some 22))], sh, gc_h sh I7 J8 A)
            refine gv_run 3 true hD (pcₚ := 81) (lvₚ := [(0, .inr (.inr (some 1))), (1, .inr (.inr (some a1))), (2, .inl a2), (3, .inr (.inr (some a3))), (4, .inl v4_9), (5, .inl v5_3)]) (stₚ := [.inl (v4_9 - 1), .inr (.inr (some 22))]) (hₚ := gc_h sh I7 J8 A) (C := (((True ∧ True) ∧ True) ∧ True)) rfl ⟨⟨⟨trivial, trivial⟩, trivial⟩, trivial⟩ ?_
            have f21 := gz_hi ((gc_b_38 hI7 (gz_sh R_22) (Int.toNat (v4_9 - 1))))
            refine gv_iald hD rfl S_22 rfl ⟨by decide, (gz_sh B_22)⟩ ⟨by (/-26-/first | omega | (simp only [gz_hd] at *; omega)), by (/-27-/first | (have o1 := gz_sh hv4_9; omega) | (simp only [gz_hd] at *; omega))⟩ (gc_iI S_22 rfl) ?_
            show gv_X _ _ (82, [(0, .inr (.inr (some 1))), (1, .inr (.inr (some a1))), (2, .inl a2), (3, .inr (.inr (some a3))), (4, .inl v4_9), (5, .inl v5_3)], [.inl (I7 22 (Int.toNat (v4_9 - 1)))], sh, gc_h sh I7 J8 A)
            refine gv_run 1 true hD (pcₚ := 83) (lvₚ := [(0, .inr (.inr (some 1))), (1, .inr (.inr (some a1))), (2, .inl a2), (3, .inr (.inr (some a3))), (4, .inl v4_9), (5, .inl v5_3)]) (stₚ := [.inl 1, .inl (I7 22 (Int.toNat (v4_9 - 1)))]) (hₚ := gc_h sh I7 J8 A) (C := (True ∧ True)) rfl ⟨trivial, trivial⟩ ?_
            refine gv_icmp_ne (t := 98) hD rfl rfl ⟨⟨by (/-28-/first | (have o1 := gz_sh f21; omega) | (simp only [gz_hd] at *; omega)), by (/-29-/first | (have o1 := gz_sh f21; omega) | (simp only [gz_hd] at *; omega))⟩, ⟨by (/-30-/first | omega | (simp only [gz_hd] at *; omega)), by (/-31-/first | omega | (simp only [gz_hd] at *; omega))⟩⟩ (fun c22 => ?_) (fun c22 => ?_)
            · show gv_X _ _ (98, [(0, .inr (.inr (some 1))), (1, .inr (.inr (some a1))), (2, .inl a2), (3, .inr (.inr (some a3))), (4, .inl v4_9), (5, .inl v5_3)], [], sh, gc_h sh I7 J8 A)
              exact L98 (by (/-32-/first | (and_intros; (have o1 := gz_sh ha2_9; omega); (omega); (omega); (have o1 := gz_sh hv4_9; omega); (have o1 := gz_sh hv5_3_9; omega); (have o1 := gz_sh hv5_3_9; omega); (have o1 := gz_sh e0_9; omega); (omega); (have o1 := gz_sh e2_9; omega)) | (simp only [gz_hd] at *; omega))) e1_9
            · show gv_X _ _ (86, [(0, .inr (.inr (some 1))), (1, .inr (.inr (some a1))), (2, .inl a2), (3, .inr (.inr (some a3))), (4, .inl v4_9), (5, .inl v5_3)], [], sh, gc_h sh I7 J8 A)
              refine gv_run 2 true hD (pcₚ := 89) (lvₚ := [(0, .inr (.inr (some 1))), (1, .inr (.inr (some a1))), (2, .inl a2), (3, .inr (.inr (some a3))), (4, .inl v4_9), (5, .inl v5_3)]) (stₚ := [.inl 41, .inr (.inr (some a3))]) (hₚ := gc_h sh I7 J8 A) (C := ((True ∧ True) ∧ True)) rfl ⟨⟨trivial, trivial⟩, trivial⟩ ?_
              obtain ⟨r23, h23, E23, P23⟩ := d_X9_put (ws0 := ws0) (tb := tb) hws htb sh ro I7 J8 A hI7 a3 41 h_a3   ⟨by (/-33-/first | omega | (simp only [gz_hd] at *; omega)), by (/-34-/first | omega | (simp only [gz_hd] at *; omega))⟩  
              obtain ⟨I24, J25, rfl, hI24, g23, k23, rfl⟩ := P23
              have FI24 := gc_frc (W := fun q j => (q = a3 ∧ j = 1) ∨ q = (a3 + 1) ∨ q = 22) (V := fun q j => (q = a3 ∧ j = 1) ∨ q = (a3 + 1)) FI7 (fun q j h => (h.elim (fun h => (Or.inl h)) (fun h => (Or.inr (Or.inl h))))) g23
              obtain rfl : J8 = J25 := funext fun q => funext fun j => ((k23 q j).resolve_left id).symm
              refine gv_callV hD rfl (As := [.inl 41]) (st := []) rfl (gz_sh B_a3) S_a3 rfl (gc_lV8 hws rfl) (Nat.le_of_ble_eq_true rfl) (gz_Ev_mono (d := 1) (by decide) E23) ?_
              show gv_X _ _ (92, [(0, .inr (.inr (some 1))), (1, .inr (.inr (some a1))), (2, .inl a2), (3, .inr (.inr (some a3))), (4, .inl v4_9), (5, .inl v5_3)], [], sh, gc_h sh I24 J8 A)
              refine gv_run 2 true hD (pcₚ := 68) (lvₚ := [(4, .inl (v4_9 + (-1))), (0, .inr (.inr (some 1))), (1, .inr (.inr (some a1))), (2, .inl a2), (3, .inr (.inr (some a3))), (5, .inl v5_3)]) (stₚ := []) (hₚ := gc_h sh I24 J8 A) (C := ((True ∧ True) ∧ True)) rfl ⟨⟨trivial, trivial⟩, trivial⟩ ?_
              refine gv_pick [1, 2, 3, 4, 0, 5] rfl ?_
              exact ih68 I24 J8 ((v4_9 + (-1))) (by (/-35-/first | (have o1 := gz_sh e0_9; have o2 := gz_sh e2_9; have o3 := gz_sh ha2_9; have o4 := gz_sh hv4_9; have o5 := gz_sh hv5_3_9; omega) | (simp only [gz_hd] at *; omega))) hI24 FI24 FJ8 (by (/-36-/first | (and_intros; (have o1 := gz_sh ha2_9; omega); (omega); (omega); (have o1 := gz_sh hv4_9; omega); (have o1 := gz_sh hv5_3_9; omega); (have o1 := gz_sh hv5_3_9; omega); (have o1 := gz_sh e0_9; omega); (have o1 := gz_sh e2_9; omega)) | (simp only [gz_hd] at *; omega))) (gc_ge_pop (gc_ge_fr e1_9 (fun k => (g23 22 k).resolve_left (by (/-37-/first | (have o1 := gz_sh e0_9; have o2 := gz_sh e2_9; have o3 := gz_sh ha2_9; have o4 := gz_sh hv4_9; have o5 := gz_sh hv5_3_9; omega) | (simp only [gz_hd] at *; omega))))))
      refine gv_run 2 true hD (pcₚ := 9) (lvₚ := [(0, .inr (.inr (some 1))), (1, .inr (.inr (some a1))), (2, .inl a2), (3, .inr (.inr (some a3))), (4, .inl v4_3), (5, .inl v5_3)]) (stₚ := [.inl a2, .inl v5_3]) (hₚ := gc_h sh I1 J2 A) (C := ((True ∧ True) ∧ True)) rfl ⟨⟨trivial, trivial⟩, trivial⟩ ?_
      refine gv_icmp_ge (t := 128) hD rfl rfl ⟨⟨by (/-38-/first | (have o1 := gz_sh hv5_3; omega) | (simp only [gz_hd] at *; omega)), by (/-39-/first | (have o1 := gz_sh hv5_3; omega) | (simp only [gz_hd] at *; omega))⟩, ⟨by (/-40-/first | omega | (simp only [gz_hd] at *; omega)), by (/-41-/first | omega | (simp only [gz_hd] at *; omega))⟩⟩ (fun c26 => ?_) (fun c26 => ?_)
      · show gv_X _ _ (128, [(0, .inr (.inr (some 1))), (1, .inr (.inr (some a1))), (2, .inl a2), (3, .inr (.inr (some a3))), (4, .inl v4_3), (5, .inl v5_3)], [], sh, gc_h sh I1 J2 A)
        exact gv_vret hD rfl ⟨I1, J2, rfl, hI1, FI1, FJ2, rfl⟩
      · show gv_X _ _ (12, [(0, .inr (.inr (some 1))), (1, .inr (.inr (some a1))), (2, .inl a2), (3, .inr (.inr (some a3))), (4, .inl v4_3), (5, .inl v5_3)], [], sh, gc_h sh I1 J2 A)
        refine gv_run 2 true hD (pcₚ := 14) (lvₚ := [(0, .inr (.inr (some 1))), (1, .inr (.inr (some a1))), (2, .inl a2), (3, .inr (.inr (some a3))), (4, .inl v4_3), (5, .inl v5_3)]) (stₚ := [.inr (.inr (some 1)), .inr (.inr (some a3))]) (hₚ := gc_h sh I1 J2 A) (C := ((True ∧ True) ∧ True)) rfl ⟨⟨trivial, trivial⟩, trivial⟩ ?_
        refine gv_get hD rfl rfl S_1 ⟨by decide, (gz_sh B_1)⟩ (gc_hA S_1 rfl A_1_1) ?_
        show gv_X _ _ (17, [(0, .inr (.inr (some 1))), (1, .inr (.inr (some a1))), (2, .inl a2), (3, .inr (.inr (some a3))), (4, .inl v4_3), (5, .inl v5_3)], [.inr (.inr (some 4)), .inr (.inr (some a3))], sh, gc_h sh I1 J2 A)
        refine gv_get hD rfl rfl S_4 ⟨by decide, (gz_sh B_4)⟩ (gc_hA S_4 rfl A_4_0) ?_
        show gv_X _ _ (20, [(0, .inr (.inr (some 1))), (1, .inr (.inr (some a1))), (2, .inl a2), (3, .inr (.inr (some a3))), (4, .inl v4_3), (5, .inl v5_3)], [.inr (.inr (some 5)), .inr (.inr (some a3))], sh, gc_h sh I1 J2 A)
        refine gv_run 2 true hD (pcₚ := 23) (lvₚ := [(0, .inr (.inr (some 1))), (1, .inr (.inr (some a1))), (2, .inl a2), (3, .inr (.inr (some a3))), (4, .inl v4_3), (5, .inl v5_3)]) (stₚ := [.inl v5_3, .inr (.inr (some a1)), .inr (.inr (some 5)), .inr (.inr (some a3))]) (hₚ := gc_h sh I1 J2 A) (C := ((True ∧ True) ∧ True)) rfl ⟨⟨trivial, trivial⟩, trivial⟩ ?_
        have f27 := gz_hi ((show 0 ≤ I1 a1 (Int.toNat v5_3) ∧ I1 a1 (Int.toNat v5_3) ≤ 95 from gc_in2 hI1 R_a1 rfl rfl rfl))
        refine gv_iald hD rfl S_a1 rfl ⟨by (/-42-/first | omega | (simp only [gz_hd] at *; omega)), B_a1⟩ ⟨by (/-43-/first | (have o1 := gz_sh hv5_3; omega) | (simp only [gz_hd] at *; omega)), by (/-44-/first | omega | (simp only [gz_hd] at *; omega))⟩ (gc_iI S_a1 rfl) ?_
        show gv_X _ _ (24, [(0, .inr (.inr (some 1))), (1, .inr (.inr (some a1))), (2, .inl a2), (3, .inr (.inr (some a3))), (4, .inl v4_3), (5, .inl v5_3)], [.inl (I1 a1 (Int.toNat v5_3)), .inr (.inr (some 5)), .inr (.inr (some a3))], sh, gc_h sh I1 J2 A)
        refine gv_lald hD rfl S_5 rfl ⟨by decide, (gz_sh B_5)⟩ ⟨by (/-45-/first | (have o1 := gz_sh f27; omega) | (simp only [gz_hd] at *; omega)), by (/-46-/first | (have o1 := gz_sh f27; omega) | (simp only [gz_hd] at *; omega))⟩ (gc_jJ S_5 rfl) ?_
        show gv_X _ _ (25, [(0, .inr (.inr (some 1))), (1, .inr (.inr (some a1))), (2, .inl a2), (3, .inr (.inr (some a3))), (4, .inl v4_3), (5, .inl v5_3)], [.inr (.inl (J2 5 (Int.toNat ((I1 a1 (Int.toNat v5_3)))))), .inr (.inr (some a3))], sh, gc_h sh I1 J2 A)
        obtain ⟨r28, h28, E28, P28⟩ := d_X9_putName (ws0 := ws0) (tb := tb) hws htb sh ro I1 J2 A hI1 a3 ((J2 5 (Int.toNat ((I1 a1 (Int.toNat v5_3)))))) h_a3     
        obtain ⟨I29, J30, rfl, hI29, g28, k28, rfl⟩ := P28
        have FI29 := gc_frc (W := fun q j => (q = a3 ∧ j = 1) ∨ q = (a3 + 1) ∨ q = 22) (V := fun q j => (q = a3 ∧ j = 1) ∨ q = (a3 + 1)) FI1 (fun q j h => (h.elim (fun h => (Or.inl h)) (fun h => (Or.inr (Or.inl h))))) g28
        obtain rfl : J2 = J30 := funext fun q => funext fun j => ((k28 q j).resolve_left id).symm
        refine gv_callV hD rfl (As := [.inr (.inl (J2 5 (Int.toNat ((I1 a1 (Int.toNat v5_3))))))]) (st := []) rfl (gz_sh B_a3) S_a3 rfl (gc_lV8 hws rfl) (Nat.le_of_ble_eq_true rfl) (gz_Ev_mono (d := 2) (by decide) E28) ?_
        show gv_X _ _ (28, [(0, .inr (.inr (some 1))), (1, .inr (.inr (some a1))), (2, .inl a2), (3, .inr (.inr (some a3))), (4, .inl v4_3), (5, .inl v5_3)], [], sh, gc_h sh I29 J2 A)
        refine gv_run 1 true hD (pcₚ := 29) (lvₚ := [(0, .inr (.inr (some 1))), (1, .inr (.inr (some a1))), (2, .inl a2), (3, .inr (.inr (some a3))), (4, .inl v4_3), (5, .inl v5_3)]) (stₚ := [.inr (.inr (some 1))]) (hₚ := gc_h sh I29 J2 A) (C := (True ∧ True)) rfl ⟨trivial, trivial⟩ ?_
        refine gv_get hD rfl rfl S_1 ⟨by decide, (gz_sh B_1)⟩ (gc_hA S_1 rfl A_1_7) ?_
        show gv_X _ _ (32, [(0, .inr (.inr (some 1))), (1, .inr (.inr (some a1))), (2, .inl a2), (3, .inr (.inr (some a3))), (4, .inl v4_3), (5, .inl v5_3)], [.inr (.inr (some 12))], sh, gc_h sh I29 J2 A)
        refine gv_run 2 true hD (pcₚ := 35) (lvₚ := [(0, .inr (.inr (some 1))), (1, .inr (.inr (some a1))), (2, .inl a2), (3, .inr (.inr (some a3))), (4, .inl v4_3), (5, .inl v5_3)]) (stₚ := [.inl v5_3, .inr (.inr (some a1)), .inr (.inr (some 12))]) (hₚ := gc_h sh I29 J2 A) (C := ((True ∧ True) ∧ True)) rfl ⟨⟨trivial, trivial⟩, trivial⟩ ?_
        have f31 := gz_hi ((show 0 ≤ I29 a1 (Int.toNat v5_3) ∧ I29 a1 (Int.toNat v5_3) ≤ 95 from gc_in2 hI29 R_a1 rfl rfl rfl))
        refine gv_iald hD rfl S_a1 rfl ⟨by (/-47-/first | omega | (simp only [gz_hd] at *; omega)), B_a1⟩ ⟨by (/-48-/first | (have o1 := gz_sh hv5_3; omega) | (simp only [gz_hd] at *; omega)), by (/-49-/first | omega | (simp only [gz_hd] at *; omega))⟩ (gc_iI S_a1 rfl) ?_
        show gv_X _ _ (36, [(0, .inr (.inr (some 1))), (1, .inr (.inr (some a1))), (2, .inl a2), (3, .inr (.inr (some a3))), (4, .inl v4_3), (5, .inl v5_3)], [.inl (I29 a1 (Int.toNat v5_3)), .inr (.inr (some 12))], sh, gc_h sh I29 J2 A)
        have f32 := gz_hi ((gc_b_26 hI29 (gz_sh R_12) (Int.toNat ((I29 a1 (Int.toNat v5_3))))))
        refine gv_iald hD rfl S_12 rfl ⟨by decide, (gz_sh B_12)⟩ ⟨by (/-50-/first | (have o1 := gz_sh f31; omega) | (simp only [gz_hd] at *; omega)), by (/-51-/first | (have o1 := gz_sh f31; omega) | (simp only [gz_hd] at *; omega))⟩ (gc_iI S_12 rfl) ?_
        show gv_X _ _ (37, [(0, .inr (.inr (some 1))), (1, .inr (.inr (some a1))), (2, .inl a2), (3, .inr (.inr (some a3))), (4, .inl v4_3), (5, .inl v5_3)], [.inl (I29 12 (Int.toNat ((I29 a1 (Int.toNat v5_3)))))], sh, gc_h sh I29 J2 A)
        refine gv_if_le (t := 68) hD rfl rfl ⟨by (/-52-/first | (have o1 := gz_sh f32; omega) | (simp only [gz_hd] at *; omega)), by (/-53-/first | (have o1 := gz_sh f32; omega) | (simp only [gz_hd] at *; omega))⟩ (fun c33 => ?_) (fun c33 => ?_)
        · show gv_X _ _ (68, [(0, .inr (.inr (some 1))), (1, .inr (.inr (some a1))), (2, .inl a2), (3, .inr (.inr (some a3))), (4, .inl v4_3), (5, .inl v5_3)], [], sh, gc_h sh I29 J2 A)
          exact L68 _ I29 J2 v4_3 (Nat.lt_succ_self _) hI29 FI29 FJ2 (by (/-54-/first | (and_intros; (have o1 := gz_sh hv5_3; omega); (omega); (have o1 := gz_sh hv4_3; omega); (have o1 := gz_sh hv4_3; omega); (have o1 := gz_sh hv5_3; omega); (omega); (have o1 := gz_sh e1_3; omega); (omega)) | (simp only [gz_hd] at *; omega))) (gc_ge_fr e0_3 (fun k => (g28 22 k).resolve_left (by (/-55-/first | (have o1 := gz_sh hv5_3; omega) | (simp only [gz_hd] at *; omega)))))
        · show gv_X _ _ (40, [(0, .inr (.inr (some 1))), (1, .inr (.inr (some a1))), (2, .inl a2), (3, .inr (.inr (some a3))), (4, .inl v4_3), (5, .inl v5_3)], [], sh, gc_h sh I29 J2 A)
          refine gv_run 2 true hD (pcₚ := 43) (lvₚ := [(0, .inr (.inr (some 1))), (1, .inr (.inr (some a1))), (2, .inl a2), (3, .inr (.inr (some a3))), (4, .inl v4_3), (5, .inl v5_3)]) (stₚ := [.inl 40, .inr (.inr (some a3))]) (hₚ := gc_h sh I29 J2 A) (C := ((True ∧ True) ∧ True)) rfl ⟨⟨trivial, trivial⟩, trivial⟩ ?_
          obtain ⟨r34, h34, E34, P34⟩ := d_X9_put (ws0 := ws0) (tb := tb) hws htb sh ro I29 J2 A hI29 a3 40 h_a3   ⟨by (/-56-/first | omega | (simp only [gz_hd] at *; omega)), by (/-57-/first | omega | (simp only [gz_hd] at *; omega))⟩  
          obtain ⟨I35, J36, rfl, hI35, g34, k34, rfl⟩ := P34
          have FI35 := gc_frc (W := fun q j => (q = a3 ∧ j = 1) ∨ q = (a3 + 1) ∨ q = 22) (V := fun q j => (q = a3 ∧ j = 1) ∨ q = (a3 + 1)) FI29 (fun q j h => (h.elim (fun h => (Or.inl h)) (fun h => (Or.inr (Or.inl h))))) g34
          obtain rfl : J2 = J36 := funext fun q => funext fun j => ((k34 q j).resolve_left id).symm
          refine gv_callV hD rfl (As := [.inl 40]) (st := []) rfl (gz_sh B_a3) S_a3 rfl (gc_lV8 hws rfl) (Nat.le_of_ble_eq_true rfl) (gz_Ev_mono (d := 1) (by decide) E34) ?_
          show gv_X _ _ (46, [(0, .inr (.inr (some 1))), (1, .inr (.inr (some a1))), (2, .inl a2), (3, .inr (.inr (some a3))), (4, .inl v4_3), (5, .inl v5_3)], [], sh, gc_h sh I35 J2 A)
          refine gv_run 1 true hD (pcₚ := 47) (lvₚ := [(0, .inr (.inr (some 1))), (1, .inr (.inr (some a1))), (2, .inl a2), (3, .inr (.inr (some a3))), (4, .inl v4_3), (5, .inl v5_3)]) (stₚ := [.inr (.inr (some 1))]) (hₚ := gc_h sh I35 J2 A) (C := (True ∧ True)) rfl ⟨trivial, trivial⟩ ?_
          refine gv_get hD rfl rfl S_1 ⟨by decide, (gz_sh B_1)⟩ (gc_hA S_1 rfl A_1_20) ?_
          show gv_X _ _ (50, [(0, .inr (.inr (some 1))), (1, .inr (.inr (some a1))), (2, .inl a2), (3, .inr (.inr (some a3))), (4, .inl v4_3), (5, .inl v5_3)], [.inr (.inr (some 22))], sh, gc_h sh I35 J2 A)
          refine gv_run 3 true hD (pcₚ := 56) (lvₚ := [(4, .inl (v4_3 + 1)), (0, .inr (.inr (some 1))), (1, .inr (.inr (some a1))), (2, .inl a2), (3, .inr (.inr (some a3))), (5, .inl v5_3)]) (stₚ := [.inr (.inr (some 1)), .inl v4_3, .inr (.inr (some 22))]) (hₚ := gc_h sh I35 J2 A) (C := (((True ∧ True) ∧ True) ∧ True)) rfl ⟨⟨⟨trivial, trivial⟩, trivial⟩, trivial⟩ ?_
          refine gv_get hD rfl rfl S_1 ⟨by decide, (gz_sh B_1)⟩ (gc_hA S_1 rfl A_1_7) ?_
          show gv_X _ _ (59, [(4, .inl (v4_3 + 1)), (0, .inr (.inr (some 1))), (1, .inr (.inr (some a1))), (2, .inl a2), (3, .inr (.inr (some a3))), (5, .inl v5_3)], [.inr (.inr (some 12)), .inl v4_3, .inr (.inr (some 22))], sh, gc_h sh I35 J2 A)
          refine gv_run 2 true hD (pcₚ := 62) (lvₚ := [(4, .inl (v4_3 + 1)), (0, .inr (.inr (some 1))), (1, .inr (.inr (some a1))), (2, .inl a2), (3, .inr (.inr (some a3))), (5, .inl v5_3)]) (stₚ := [.inl v5_3, .inr (.inr (some a1)), .inr (.inr (some 12)), .inl v4_3, .inr (.inr (some 22))]) (hₚ := gc_h sh I35 J2 A) (C := ((True ∧ True) ∧ True)) rfl ⟨⟨trivial, trivial⟩, trivial⟩ ?_
          have f37 := gz_hi ((show 0 ≤ I35 a1 (Int.toNat v5_3) ∧ I35 a1 (Int.toNat v5_3) ≤ 95 from gc_in2 hI35 R_a1 rfl rfl rfl))
          refine gv_iald hD rfl S_a1 rfl ⟨by (/-58-/first | omega | (simp only [gz_hd] at *; omega)), B_a1⟩ ⟨by (/-59-/first | (have o1 := gz_sh hv5_3; omega) | (simp only [gz_hd] at *; omega)), by (/-60-/first | omega | (simp only [gz_hd] at *; omega))⟩ (gc_iI S_a1 rfl) ?_
          show gv_X _ _ (63, [(4, .inl (v4_3 + 1)), (0, .inr (.inr (some 1))), (1, .inr (.inr (some a1))), (2, .inl a2), (3, .inr (.inr (some a3))), (5, .inl v5_3)], [.inl (I35 a1 (Int.toNat v5_3)), .inr (.inr (some 12)), .inl v4_3, .inr (.inr (some 22))], sh, gc_h sh I35 J2 A)
          refine gv_iald hD rfl S_12 rfl ⟨by decide, (gz_sh B_12)⟩ ⟨by (/-61-/first | (have o1 := gz_sh f37; omega) | (simp only [gz_hd] at *; omega)), by (/-62-/first | (have o1 := gz_sh f37; omega) | (simp only [gz_hd] at *; omega))⟩ (gc_iI S_12 rfl) ?_
          show gv_X _ _ (64, [(4, .inl (v4_3 + 1)), (0, .inr (.inr (some 1))), (1, .inr (.inr (some a1))), (2, .inl a2), (3, .inr (.inr (some a3))), (5, .inl v5_3)], [.inl (I35 12 (Int.toNat ((I35 a1 (Int.toNat v5_3))))), .inl v4_3, .inr (.inr (some 22))], sh, gc_h sh I35 J2 A)
          have t39 := gz_hi ((show I35 12 (Int.toNat (I35 a1 (Int.toNat v5_3))) = I29 12 (Int.toNat (I29 a1 (Int.toNat v5_3))) from by rw [show I35 a1 (Int.toNat v5_3) = I29 a1 (Int.toNat v5_3) from ((g34 a1 (Int.toNat v5_3)).resolve_left (by (/-63-/first | (have o1 := gz_sh B_a3; have o2 := gz_sh B_a3_1; have o3 := gz_sh B_a3_2; have o4 := gz_sh B_a3_3; have o5 := gz_sh hv5_3; omega) | (simp only [gz_hd] at *; omega))))]; exact ((g34 12 _).resolve_left (by (/-64-/first | (have o1 := gz_sh hv5_3; omega) | (simp only [gz_hd] at *; omega))))))
          refine gv_iast hD rfl S_22 ⟨by decide, (gz_sh B_22)⟩ ⟨by (/-65-/first | (have o1 := gz_sh hv4_3; omega) | (simp only [gz_hd] at *; omega)), by (/-66-/first | (have o1 := gz_sh e1_3; omega) | (simp only [gz_hd] at *; omega))⟩ ?_
          refine gc_st hI35 S_22 rfl (gz_sh R_22) (lo := 0) (hi := 59) rfl rfl (by (/-67-/first | (have o1 := gz_sh t39; omega) | (simp only [gz_hd] at *; omega))) (by (/-68-/first | (have o1 := gz_sh f32; have o2 := gz_sh t39; omega) | (simp only [gz_hd] at *; omega))) (fun I40 hI40 q41 p41 => ?_)
          have FI40 := gc_frs (W := fun q j => (q = a3 ∧ j = 1) ∨ q = (a3 + 1) ∨ q = 22) FI35 (Or.inr (Or.inr rfl)) p41
          show gv_X _ _ (65, [(4, .inl (v4_3 + 1)), (0, .inr (.inr (some 1))), (1, .inr (.inr (some a1))), (2, .inl a2), (3, .inr (.inr (some a3))), (5, .inl v5_3)], [], sh, gc_h sh I40 J2 A)
          refine gv_run 1 true hD (pcₚ := 122) (lvₚ := [(4, .inl (v4_3 + 1)), (0, .inr (.inr (some 1))), (1, .inr (.inr (some a1))), (2, .inl a2), (3, .inr (.inr (some a3))), (5, .inl v5_3)]) (stₚ := []) (hₚ := gc_h sh I40 J2 A) (C := (True ∧ True)) rfl ⟨trivial, trivial⟩ ?_
          refine gv_pick [1, 2, 3, 4, 0, 5] rfl ?_
          exact L122 I40 J2 (v4_3 + 1) hI40 FI40 FJ2 (by (/-69-/first | (and_intros; (have o1 := gz_sh hv5_3; omega); (omega); (have o1 := gz_sh hv4_3; omega); (have o1 := gz_sh e1_3; omega); (have o1 := gz_sh hv5_3; omega); (omega); (have o1 := gz_sh e1_3; omega); (omega)) | (simp only [gz_hd] at *; omega))) (gc_ge_push (gc_ge_fr (gc_ge_fr e0_3 (fun k => (g28 22 k).resolve_left (by (/-70-/first | (have o1 := gz_sh hv5_3; omega) | (simp only [gz_hd] at *; omega))))) (fun k => (g34 22 k).resolve_left (by (/-71-/first | (have o1 := gz_sh hv5_3; omega) | (simp only [gz_hd] at *; omega))))) (by (/-72-/first | (have o1 := gz_sh hv4_3; omega) | (simp only [gz_hd] at *; omega))) p41 (by (/-73-/first | (have o1 := gz_sh t39; omega) | (simp only [gz_hd] at *; omega))))
  refine gv_run 4 true hD (pcₚ := 6) (lvₚ := [(5, .inl 0), (4, .inl 0), (0, .inr (.inr (some 1))), (1, .inr (.inr (some a1))), (2, .inl a2), (3, .inr (.inr (some a3)))]) (stₚ := []) (hₚ := gc_h sh I J A) (C := ((((True ∧ True) ∧ True) ∧ True) ∧ True)) rfl ⟨⟨⟨⟨trivial, trivial⟩, trivial⟩, trivial⟩, trivial⟩ ?_
  refine gv_pick [2, 3, 4, 5, 1, 0] rfl ?_
  exact L6 _ I J 0 0 (Nat.lt_succ_self _) hI FI FJ (by (/-74-/first | (and_intros <;> omega) | (simp only [gz_hd] at *; omega))) (fun k a b => by (/-75-/first | omega | (simp only [gz_hd] at *; omega)))
