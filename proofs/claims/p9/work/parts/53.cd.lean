set_option maxHeartbeats 8000000 in
set_option maxRecDepth 100000 in
theorem d_X9_takeName {ws0 : List Cond} {tb : String → gz_T} (hws : gc_Ws ws0) (htb : gc_tbs tb) (sh : gz_Sh) (ro : Nat → Nat) (I : gr_I) (J : gr_J) (A : gc_A) (hI : gc_Inv ro I) (p : Nat)  (hp : gc_isText sh ro A p)  (x0 : I p 5 < I p 1) (x1 : 97 ≤ I (p + 1) (Int.toNat (I p 5)) ∧ I (p + 1) (Int.toNat (I p 5)) ≤ 122) : ∃ r hₚ, gz_Ev ws0 tb 1 (yX9_takeName, cX9_takeName, 3, none) [.inr (.inr (some p))] sh (gc_h sh I J A) r sh hₚ 0 0 ∧ (∃ (Iₚ : gr_I) (Jₚ : gr_J), hₚ = gc_h sh Iₚ Jₚ A ∧ gc_Inv ro Iₚ ∧ (∀ q j : Nat, ((q = p ∧ j = 6) ∨ (q = p ∧ j = 7)) ∨ Iₚ q j = I q j) ∧ (∀ q j : Nat, ((q = p ∧ j = 9)) ∨ Jₚ q j = J q j) ∧ r = none ∧ (I p 5 < Iₚ p 6) ∧ (Iₚ p 6 ≤ I p 1) ∧ (Iₚ p 7 = 1)) := by
  have FI : ∀ q j : Nat, ((q = p ∧ j = 6) ∨ (q = p ∧ j = 7)) ∨ I q j = I q j := fun _ _ => Or.inr rfl
  have FJ : ∀ q j : Nat, ((q = p ∧ j = 9)) ∨ J q j = J q j := fun _ _ => Or.inr rfl
  obtain ⟨S_p, R_p, B_p, A_p_0, S_p_1, R_p_1, B_p_1, A_p_2, S_p_2, R_p_2, B_p_2, A_p_3, S_p_3, R_p_3, B_p_3⟩ := id hp
  replace R_p := gz_hi R_p
  replace B_p := gz_hi B_p
  replace R_p_1 := gz_hi R_p_1
  replace B_p_1 := gz_hi B_p_1
  replace R_p_2 := gz_hi R_p_2
  replace B_p_2 := gz_hi B_p_2
  replace R_p_3 := gz_hi R_p_3
  replace B_p_3 := gz_hi B_p_3
  have hD : gv_D (gc_E9 ws0 tb 0 (yX9_takeName, cX9_takeName, 3, none) kX9_takeName) := gq_of oX9_takeName
  refine gc_ev9 (d := 0) (l := kX9_takeName) (Po := fun r hₚ => (∃ (Iₚ : gr_I) (Jₚ : gr_J), hₚ = gc_h sh Iₚ Jₚ A ∧ gc_Inv ro Iₚ ∧ (∀ q j : Nat, ((q = p ∧ j = 6) ∨ (q = p ∧ j = 7)) ∨ Iₚ q j = I q j) ∧ (∀ q j : Nat, ((q = p ∧ j = 9)) ∨ Jₚ q j = J q j) ∧ r = none ∧ (I p 5 < Iₚ p 6) ∧ (Iₚ p 6 ≤ I p 1) ∧ (Iₚ p 7 = 1))) htb rfl (Nat.le_of_ble_eq_true rfl) ?_
  have f1 := gz_hi ((show 0 ≤ I p 1 ∧ I p 1 ≤ 1000 from gc_in2 hI (gz_sh R_p) rfl rfl rfl))
  have f2 := gz_hi ((show 0 ≤ I p 5 ∧ I p 5 ≤ 1000 from gc_in2 hI (gz_sh R_p) rfl rfl rfl))
  have L10 : ∀ (n9 : Nat) (I5 : gr_I) (J6 : gr_J) (v1_7 : Int), (1001 - v1_7).toNat < n9 → gc_Inv ro I5 → (∀ q j : Nat, ((q = p ∧ j = 6) ∨ (q = p ∧ j = 7)) ∨ I5 q j = I q j) → (∀ q j : Nat, ((q = p ∧ j = 9)) ∨ J6 q j = J q j) → ((0 ≤ v1_7 ∧ v1_7 ≤ 1000) ∧ (I5 p 5 = I p 5) ∧ (I5 p 1 = I p 1) ∧ (I5 p 5 ≤ v1_7) ∧ (v1_7 ≤ I5 p 1) ∧ (I5 p 5 < v1_7 ∨ (v1_7 = I5 p 5 ∧ 97 ≤ I5 (p + 1) (Int.toNat v1_7) ∧ I5 (p + 1) (Int.toNat v1_7) ≤ 122))) → gv_X (gc_E9 ws0 tb 0 (yX9_takeName, cX9_takeName, 3, none) kX9_takeName) (gv_Q cX9_takeName none sh (fun r hₚ => (∃ (Iₚ : gr_I) (Jₚ : gr_J), hₚ = gc_h sh Iₚ Jₚ A ∧ gc_Inv ro Iₚ ∧ (∀ q j : Nat, ((q = p ∧ j = 6) ∨ (q = p ∧ j = 7)) ∨ Iₚ q j = I q j) ∧ (∀ q j : Nat, ((q = p ∧ j = 9)) ∨ Jₚ q j = J q j) ∧ r = none ∧ (I p 5 < Iₚ p 6) ∧ (Iₚ p 6 ≤ I p 1) ∧ (Iₚ p 7 = 1)))) (10, [(0, .inr (.inr (some p))), (1, .inl v1_7)], [], sh, gc_h sh I5 J6 A) := by
    intro n9
    induction n9 with
    | zero => intro I5 J6 v1_7 hn; (/-0-/first | omega | (simp only [gz_hd] at *; omega))
    | succ n9 ih10 =>
      intro I5 J6 v1_7 hn hI5 FI5 FJ6 m_7
      obtain ⟨hv1_7, e0_7, e1_7, e2_7, e3_7, e4_7⟩ := gz_h6 m_7
      have L83 : ((0 ≤ v1_7 ∧ v1_7 ≤ 1000) ∧ (I5 p 5 = I p 5) ∧ (I5 p 1 = I p 1) ∧ (I5 p 5 < v1_7) ∧ (v1_7 ≤ I5 p 1)) → gv_X (gc_E9 ws0 tb 0 (yX9_takeName, cX9_takeName, 3, none) kX9_takeName) (gv_Q cX9_takeName none sh (fun r hₚ => (∃ (Iₚ : gr_I) (Jₚ : gr_J), hₚ = gc_h sh Iₚ Jₚ A ∧ gc_Inv ro Iₚ ∧ (∀ q j : Nat, ((q = p ∧ j = 6) ∨ (q = p ∧ j = 7)) ∨ Iₚ q j = I q j) ∧ (∀ q j : Nat, ((q = p ∧ j = 9)) ∨ Jₚ q j = J q j) ∧ r = none ∧ (I p 5 < Iₚ p 6) ∧ (Iₚ p 6 ≤ I p 1) ∧ (Iₚ p 7 = 1)))) (83, [(0, .inr (.inr (some p))), (1, .inl v1_7)], [], sh, gc_h sh I5 J6 A) := by
        intro m_12
        obtain ⟨hv1_7_12, e0_12, e1_12, e2_12, e3_12⟩ := gz_h5 m_12
        refine gv_run 2 true hD (pcₚ := 85) (lvₚ := [(0, .inr (.inr (some p))), (1, .inl v1_7)]) (stₚ := [.inl 1, .inr (.inr (some p))]) (hₚ := gc_h sh I5 J6 A) (C := ((True ∧ True) ∧ True)) rfl ⟨⟨trivial, trivial⟩, trivial⟩ ?_
        refine gv_put hD rfl rfl S_p ⟨by decide, (gz_sh B_p)⟩ rfl trivial ?_
        refine gc_st (k := 7) hI5 S_p rfl (gz_sh R_p) (lo := 0) (hi := 125) rfl rfl (by (/-1-/first | omega | (simp only [gz_hd] at *; omega))) (by (/-2-/first | omega | (simp only [gz_hd] at *; omega))) (fun I17 hI17 q18 p18 => ?_)
        have FI17 := gc_frs (W := fun q j => (q = p ∧ j = 6) ∨ (q = p ∧ j = 7)) FI5 (Or.inr ⟨rfl, rfl⟩) p18
        have t19 := gz_hi (p18 p 1 (fun h => absurd h.2 (by first | exact gz_ne rfl | decide)))
        have t20 := gz_hi (p18 p 5 (fun h => absurd h.2 (by first | exact gz_ne rfl | decide)))
        show gv_X _ _ (88, [(0, .inr (.inr (some p))), (1, .inl v1_7)], [], sh, gc_h sh I17 J6 A)
        refine gv_run 2 true hD (pcₚ := 90) (lvₚ := [(0, .inr (.inr (some p))), (1, .inl v1_7)]) (stₚ := [.inl v1_7, .inr (.inr (some p))]) (hₚ := gc_h sh I17 J6 A) (C := ((True ∧ True) ∧ True)) rfl ⟨⟨trivial, trivial⟩, trivial⟩ ?_
        refine gv_put hD rfl rfl S_p ⟨by decide, (gz_sh B_p)⟩ rfl trivial ?_
        refine gc_st (k := 6) hI17 S_p rfl (gz_sh R_p) (lo := 0) (hi := 1001) rfl rfl (by (/-3-/first | (have o1 := gz_sh hv1_7; omega) | (simp only [gz_hd] at *; omega))) (by (/-4-/first | (have o1 := gz_sh hv1_7; omega) | (simp only [gz_hd] at *; omega))) (fun I23 hI23 q24 p24 => ?_)
        have FI23 := gc_frs (W := fun q j => (q = p ∧ j = 6) ∨ (q = p ∧ j = 7)) FI17 (Or.inl ⟨rfl, rfl⟩) p24
        have t25 := gz_hi (p24 p 1 (fun h => absurd h.2 (by first | exact gz_ne rfl | decide)))
        have t26 := gz_hi (p24 p 5 (fun h => absurd h.2 (by first | exact gz_ne rfl | decide)))
        have t27 := gz_hi (p24 p 7 (fun h => absurd h.2 (by first | exact gz_ne rfl | decide)))
        show gv_X _ _ (93, [(0, .inr (.inr (some p))), (1, .inl v1_7)], [], sh, gc_h sh I23 J6 A)
        exact gv_vret hD rfl ⟨I23, J6, rfl, hI23, FI23, FJ6, ⟨rfl, by (/-5-/first | (and_intros; (have o1 := gz_sh e0_7; have o2 := gz_sh e2_12; omega); (have o1 := gz_sh e1_7; have o2 := gz_sh e3_7; omega); (have o1 := gz_sh t27; omega)) | (simp only [gz_hd] at *; omega))⟩⟩
      have L63 : ∀ (v2_29 : Int), ((0 ≤ v1_7 ∧ v1_7 ≤ 999) ∧ (48 ≤ v2_29 ∧ v2_29 ≤ 122) ∧ (I5 p 5 = I p 5) ∧ (I5 p 1 = I p 1) ∧ (I5 p 5 ≤ v1_7) ∧ (v1_7 < I5 p 1)) → gv_X (gc_E9 ws0 tb 0 (yX9_takeName, cX9_takeName, 3, none) kX9_takeName) (gv_Q cX9_takeName none sh (fun r hₚ => (∃ (Iₚ : gr_I) (Jₚ : gr_J), hₚ = gc_h sh Iₚ Jₚ A ∧ gc_Inv ro Iₚ ∧ (∀ q j : Nat, ((q = p ∧ j = 6) ∨ (q = p ∧ j = 7)) ∨ Iₚ q j = I q j) ∧ (∀ q j : Nat, ((q = p ∧ j = 9)) ∨ Jₚ q j = J q j) ∧ r = none ∧ (I p 5 < Iₚ p 6) ∧ (Iₚ p 6 ≤ I p 1) ∧ (Iₚ p 7 = 1)))) (63, [(0, .inr (.inr (some p))), (1, .inl v1_7), (2, .inl v2_29)], [], sh, gc_h sh I5 J6 A) := by
        intro v2_29 m_29
        obtain ⟨hv1_7_29, hv2_29, e0_29, e1_29, e2_29, e3_29⟩ := gz_h6 m_29
        refine gv_run 2 true hD (pcₚ := 65) (lvₚ := [(0, .inr (.inr (some p))), (1, .inl v1_7), (2, .inl v2_29)]) (stₚ := [.inr (.inr (some p)), .inr (.inr (some p))]) (hₚ := gc_h sh I5 J6 A) (C := ((True ∧ True) ∧ True)) rfl ⟨⟨trivial, trivial⟩, trivial⟩ ?_
        refine gv_get hD rfl rfl S_p ⟨by decide, (gz_sh B_p)⟩ (gc_hJ S_p rfl) ?_
        show gv_X _ _ (68, [(0, .inr (.inr (some p))), (1, .inl v1_7), (2, .inl v2_29)], [.inr (.inl (J6 p 9)), .inr (.inr (some p))], sh, gc_h sh I5 J6 A)
        refine gv_run 5 true hD (pcₚ := 74) (lvₚ := [(0, .inr (.inr (some p))), (1, .inl v1_7), (2, .inl v2_29)]) (stₚ := [.inr (.inl (((J6 p 9) <<< ((Int32.ofInt 8).toInt64 &&& 63)) ||| (Int32.ofInt v2_29).toInt64)), .inr (.inr (some p))]) (hₚ := gc_h sh I5 J6 A) (C := (((((True ∧ True) ∧ True) ∧ True) ∧ True) ∧ True)) rfl ⟨⟨⟨⟨⟨trivial, trivial⟩, trivial⟩, trivial⟩, trivial⟩, trivial⟩ ?_
        refine gv_put hD rfl rfl S_p ⟨by decide, (gz_sh B_p)⟩ rfl trivial ?_
        refine gc_stJ S_p rfl (fun J34 q35 p35 => ?_)
        have FJ34 := gc_frs (W := fun q j => (q = p ∧ j = 9)) FJ6 ⟨rfl, rfl⟩ p35
        show gv_X _ _ (77, [(0, .inr (.inr (some p))), (1, .inl v1_7), (2, .inl v2_29)], [], sh, gc_h sh I5 J34 A)
        refine gv_run 2 true hD (pcₚ := 10) (lvₚ := [(1, .inl (v1_7 + 1)), (0, .inr (.inr (some p))), (2, .inl v2_29)]) (stₚ := []) (hₚ := gc_h sh I5 J34 A) (C := ((True ∧ True) ∧ True)) rfl ⟨⟨trivial, trivial⟩, trivial⟩ ?_
        refine gv_pick [1, 0] rfl ?_
        exact ih10 I5 J34 (v1_7 + 1) (by (/-6-/first | (have o1 := gz_sh e0_7; have o2 := gz_sh e1_7; have o3 := gz_sh e2_7; have o4 := gz_sh e3_29; have o5 := gz_sh e4_7; have o6 := gz_sh hv1_7; have o7 := gz_sh hv1_7_29; omega) | (simp only [gz_hd] at *; omega))) hI5 FI5 FJ34 (by (/-7-/first | (and_intros; (have o1 := gz_sh hv1_7; omega); (have o1 := gz_sh hv1_7_29; omega); (have o1 := gz_sh e0_7; omega); (have o1 := gz_sh e1_7; omega); (have o1 := gz_sh e2_7; omega); (have o1 := gz_sh e3_29; omega); (have o1 := gz_sh e2_7; omega)) | (simp only [gz_hd] at *; omega)))
      have L48 : ∀ (v2_36 : Int), ((0 ≤ v1_7 ∧ v1_7 ≤ 999) ∧ ((-128) ≤ v2_36 ∧ v2_36 ≤ 127) ∧ (I5 p 5 = I p 5) ∧ (I5 p 1 = I p 1) ∧ (I5 p 5 ≤ v1_7) ∧ (v1_7 < I5 p 1) ∧ (I5 p 5 < v1_7 ∨ (v1_7 = I5 p 5 ∧ 97 ≤ I5 (p + 1) (Int.toNat v1_7) ∧ I5 (p + 1) (Int.toNat v1_7) ≤ 122)) ∧ (v2_36 = I5 (p + 1) (Int.toNat v1_7)) ∧ (v2_36 < 97 ∨ 122 < v2_36)) → gv_X (gc_E9 ws0 tb 0 (yX9_takeName, cX9_takeName, 3, none) kX9_takeName) (gv_Q cX9_takeName none sh (fun r hₚ => (∃ (Iₚ : gr_I) (Jₚ : gr_J), hₚ = gc_h sh Iₚ Jₚ A ∧ gc_Inv ro Iₚ ∧ (∀ q j : Nat, ((q = p ∧ j = 6) ∨ (q = p ∧ j = 7)) ∨ Iₚ q j = I q j) ∧ (∀ q j : Nat, ((q = p ∧ j = 9)) ∨ Jₚ q j = J q j) ∧ r = none ∧ (I p 5 < Iₚ p 6) ∧ (Iₚ p 6 ≤ I p 1) ∧ (Iₚ p 7 = 1)))) (48, [(0, .inr (.inr (some p))), (1, .inl v1_7), (2, .inl v2_36)], [], sh, gc_h sh I5 J6 A) := by
        intro v2_36 m_36
        obtain ⟨hv1_7_36, hv2_36, e0_36, e1_36, e2_36, e3_36, e4_36, e5_36, e6_36⟩ := gz_h9 m_36
        refine gv_run 2 true hD (pcₚ := 51) (lvₚ := [(0, .inr (.inr (some p))), (1, .inl v1_7), (2, .inl v2_36)]) (stₚ := [.inl 48, .inl v2_36]) (hₚ := gc_h sh I5 J6 A) (C := ((True ∧ True) ∧ True)) rfl ⟨⟨trivial, trivial⟩, trivial⟩ ?_
        refine gv_icmp_lt (t := 83) hD rfl rfl ⟨⟨by (/-8-/first | (have o1 := gz_sh hv2_36; omega) | (simp only [gz_hd] at *; omega)), by (/-9-/first | (have o1 := gz_sh hv2_36; omega) | (simp only [gz_hd] at *; omega))⟩, ⟨by (/-10-/first | omega | (simp only [gz_hd] at *; omega)), by (/-11-/first | omega | (simp only [gz_hd] at *; omega))⟩⟩ (fun c41 => ?_) (fun c41 => ?_)
        · show gv_X _ _ (83, [(0, .inr (.inr (some p))), (1, .inl v1_7), (2, .inl v2_36)], [], sh, gc_h sh I5 J6 A)
          refine gv_pick [0, 1] rfl ?_
          exact L83 (by (/-12-/first | (and_intros; (have o1 := gz_sh hv1_7; omega); (have o1 := gz_sh hv1_7_36; omega); (have o1 := gz_sh e0_7; omega); (have o1 := gz_sh e1_7; omega); (have o1 := gz_sh e4_36; have o2 := gz_sh e5_36; omega); (have o1 := gz_sh e3_36; omega)) | (simp only [gz_hd] at *; omega)))
        · show gv_X _ _ (54, [(0, .inr (.inr (some p))), (1, .inl v1_7), (2, .inl v2_36)], [], sh, gc_h sh I5 J6 A)
          refine gv_run 2 true hD (pcₚ := 57) (lvₚ := [(0, .inr (.inr (some p))), (1, .inl v1_7), (2, .inl v2_36)]) (stₚ := [.inl 57, .inl v2_36]) (hₚ := gc_h sh I5 J6 A) (C := ((True ∧ True) ∧ True)) rfl ⟨⟨trivial, trivial⟩, trivial⟩ ?_
          refine gv_icmp_le (t := 63) hD rfl rfl ⟨⟨by (/-13-/first | omega | (simp only [gz_hd] at *; omega)), by (/-14-/first | (have o1 := gz_sh hv2_36; omega) | (simp only [gz_hd] at *; omega))⟩, ⟨by (/-15-/first | omega | (simp only [gz_hd] at *; omega)), by (/-16-/first | omega | (simp only [gz_hd] at *; omega))⟩⟩ (fun c42 => ?_) (fun c42 => ?_)
          · show gv_X _ _ (63, [(0, .inr (.inr (some p))), (1, .inl v1_7), (2, .inl v2_36)], [], sh, gc_h sh I5 J6 A)
            exact L63 v2_36 (by (/-17-/first | (and_intros; (have o1 := gz_sh hv1_7; omega); (have o1 := gz_sh hv1_7_36; omega); (omega); (omega); (have o1 := gz_sh e0_7; omega); (have o1 := gz_sh e1_7; omega); (have o1 := gz_sh e2_7; omega); (have o1 := gz_sh e3_36; omega)) | (simp only [gz_hd] at *; omega)))
          · show gv_X _ _ (60, [(0, .inr (.inr (some p))), (1, .inl v1_7), (2, .inl v2_36)], [], sh, gc_h sh I5 J6 A)
            refine gv_run 1 true hD (pcₚ := 83) (lvₚ := [(0, .inr (.inr (some p))), (1, .inl v1_7), (2, .inl v2_36)]) (stₚ := []) (hₚ := gc_h sh I5 J6 A) (C := (True ∧ True)) rfl ⟨trivial, trivial⟩ ?_
            refine gv_pick [0, 1] rfl ?_
            exact L83 (by (/-18-/first | (and_intros; (have o1 := gz_sh hv1_7; omega); (have o1 := gz_sh hv1_7_36; omega); (have o1 := gz_sh e0_7; omega); (have o1 := gz_sh e1_7; omega); (have o1 := gz_sh e4_36; have o2 := gz_sh e5_36; have o3 := gz_sh e6_36; omega); (have o1 := gz_sh e3_36; omega)) | (simp only [gz_hd] at *; omega)))
      refine gv_run 2 true hD (pcₚ := 12) (lvₚ := [(0, .inr (.inr (some p))), (1, .inl v1_7)]) (stₚ := [.inr (.inr (some p)), .inl v1_7]) (hₚ := gc_h sh I5 J6 A) (C := ((True ∧ True) ∧ True)) rfl ⟨⟨trivial, trivial⟩, trivial⟩ ?_
      refine gv_get hD rfl rfl S_p ⟨by decide, (gz_sh B_p)⟩ (gc_hI S_p rfl) ?_
      show gv_X _ _ (15, [(0, .inr (.inr (some p))), (1, .inl v1_7)], [.inl (I5 p 1), .inl v1_7], sh, gc_h sh I5 J6 A)
      refine gv_icmp_ge (t := 83) hD rfl rfl ⟨⟨by (/-19-/first | (have o1 := gz_sh hv1_7; omega) | (simp only [gz_hd] at *; omega)), by (/-20-/first | (have o1 := gz_sh hv1_7; omega) | (simp only [gz_hd] at *; omega))⟩, ⟨by (/-21-/first | (have o1 := gz_sh e1_7; have o2 := gz_sh f1; omega) | (simp only [gz_hd] at *; omega)), by (/-22-/first | (have o1 := gz_sh e1_7; have o2 := gz_sh f1; omega) | (simp only [gz_hd] at *; omega))⟩⟩ (fun c44 => ?_) (fun c44 => ?_)
      · show gv_X _ _ (83, [(0, .inr (.inr (some p))), (1, .inl v1_7)], [], sh, gc_h sh I5 J6 A)
        exact L83 (by (/-23-/first | (and_intros; (have o1 := gz_sh e1_7; have o2 := gz_sh f1; omega); (have o1 := gz_sh e1_7; have o2 := gz_sh e3_7; have o3 := gz_sh f1; omega); (have o1 := gz_sh e0_7; omega); (have o1 := gz_sh e1_7; omega); (have o1 := gz_sh e0_7; have o2 := gz_sh e1_7; omega); (have o1 := gz_sh e3_7; omega)) | (simp only [gz_hd] at *; omega)))
      · show gv_X _ _ (18, [(0, .inr (.inr (some p))), (1, .inl v1_7)], [], sh, gc_h sh I5 J6 A)
        refine gv_run 2 true hD (pcₚ := 20) (lvₚ := [(0, .inr (.inr (some p))), (1, .inl v1_7)]) (stₚ := [.inr (.inr (some p)), .inl v1_7]) (hₚ := gc_h sh I5 J6 A) (C := ((True ∧ True) ∧ True)) rfl ⟨⟨trivial, trivial⟩, trivial⟩ ?_
        refine gv_get hD rfl rfl S_p ⟨by decide, (gz_sh B_p)⟩ (gc_hI S_p rfl) ?_
        show gv_X _ _ (23, [(0, .inr (.inr (some p))), (1, .inl v1_7)], [.inl (I5 p 5), .inl v1_7], sh, gc_h sh I5 J6 A)
        refine gv_run 2 true hD (pcₚ := 26) (lvₚ := [(0, .inr (.inr (some p))), (1, .inl v1_7)]) (stₚ := [.inl ((I5 p 5) + 8), .inl v1_7]) (hₚ := gc_h sh I5 J6 A) (C := ((True ∧ True) ∧ True)) rfl ⟨⟨trivial, trivial⟩, trivial⟩ ?_
        refine gv_icmp_ge (t := 83) hD rfl rfl ⟨⟨by (/-24-/first | (have o1 := gz_sh hv1_7; omega) | (simp only [gz_hd] at *; omega)), by (/-25-/first | (have o1 := gz_sh hv1_7; omega) | (simp only [gz_hd] at *; omega))⟩, ⟨by (/-26-/first | (have o1 := gz_sh e0_7; have o2 := gz_sh f2; omega) | (simp only [gz_hd] at *; omega)), by (/-27-/first | (have o1 := gz_sh e0_7; have o2 := gz_sh f2; omega) | (simp only [gz_hd] at *; omega))⟩⟩ (fun c46 => ?_) (fun c46 => ?_)
        · show gv_X _ _ (83, [(0, .inr (.inr (some p))), (1, .inl v1_7)], [], sh, gc_h sh I5 J6 A)
          exact L83 (by (/-28-/first | (and_intros; (have o1 := gz_sh hv1_7; omega); (have o1 := gz_sh hv1_7; omega); (have o1 := gz_sh e0_7; omega); (have o1 := gz_sh e1_7; omega); (omega); (omega)) | (simp only [gz_hd] at *; omega)))
        · show gv_X _ _ (29, [(0, .inr (.inr (some p))), (1, .inl v1_7)], [], sh, gc_h sh I5 J6 A)
          refine gv_run 1 true hD (pcₚ := 30) (lvₚ := [(0, .inr (.inr (some p))), (1, .inl v1_7)]) (stₚ := [.inr (.inr (some p))]) (hₚ := gc_h sh I5 J6 A) (C := (True ∧ True)) rfl ⟨trivial, trivial⟩ ?_
          refine gv_get hD rfl rfl S_p ⟨by decide, (gz_sh B_p)⟩ (gc_hA S_p rfl A_p_0) ?_
          show gv_X _ _ (33, [(0, .inr (.inr (some p))), (1, .inl v1_7)], [.inr (.inr (some (p + 1)))], sh, gc_h sh I5 J6 A)
          refine gv_run 1 true hD (pcₚ := 34) (lvₚ := [(0, .inr (.inr (some p))), (1, .inl v1_7)]) (stₚ := [.inl v1_7, .inr (.inr (some (p + 1)))]) (hₚ := gc_h sh I5 J6 A) (C := (True ∧ True)) rfl ⟨trivial, trivial⟩ ?_
          have f47 := gz_hi ((show (-128) ≤ I5 (p + 1) (Int.toNat v1_7) ∧ I5 (p + 1) (Int.toNat v1_7) ≤ 127 from gc_in2 hI5 (gz_sh R_p_1) rfl rfl rfl))
          refine gv_bald hD rfl S_p_1 (Or.inl rfl) ⟨by decide, (gz_sh B_p_1)⟩ ⟨by (/-29-/first | (have o1 := gz_sh hv1_7; omega) | (simp only [gz_hd] at *; omega)), by (/-30-/first | (have o1 := gz_sh e1_7; have o2 := gz_sh f1; omega) | (simp only [gz_hd] at *; omega))⟩ (gc_iI S_p_1 rfl) ?_
          show gv_X _ _ (35, [(0, .inr (.inr (some p))), (1, .inl v1_7)], [.inl (I5 (p + 1) (Int.toNat v1_7))], sh, gc_h sh I5 J6 A)
          refine gv_run 3 true hD (pcₚ := 39) (lvₚ := [(2, .inl (I5 (p + 1) (Int.toNat v1_7))), (0, .inr (.inr (some p))), (1, .inl v1_7)]) (stₚ := [.inl 97, .inl (I5 (p + 1) (Int.toNat v1_7))]) (hₚ := gc_h sh I5 J6 A) (C := (((True ∧ True) ∧ True) ∧ True)) rfl ⟨⟨⟨trivial, trivial⟩, trivial⟩, trivial⟩ ?_
          refine gv_icmp_lt (t := 48) hD rfl rfl ⟨⟨by (/-31-/first | (have o1 := gz_sh f47; omega) | (simp only [gz_hd] at *; omega)), by (/-32-/first | (have o1 := gz_sh f47; omega) | (simp only [gz_hd] at *; omega))⟩, ⟨by (/-33-/first | omega | (simp only [gz_hd] at *; omega)), by (/-34-/first | omega | (simp only [gz_hd] at *; omega))⟩⟩ (fun c48 => ?_) (fun c48 => ?_)
          · show gv_X _ _ (48, [(2, .inl (I5 (p + 1) (Int.toNat v1_7))), (0, .inr (.inr (some p))), (1, .inl v1_7)], [], sh, gc_h sh I5 J6 A)
            refine gv_pick [1, 2, 0] rfl ?_
            exact L48 ((I5 (p + 1) (Int.toNat v1_7))) (by (/-35-/first | (and_intros; (have o1 := gz_sh hv1_7; omega); (have o1 := gz_sh e1_7; have o2 := gz_sh f1; omega); (have o1 := gz_sh f47; omega); (omega); (have o1 := gz_sh e0_7; omega); (have o1 := gz_sh e1_7; omega); (have o1 := gz_sh e2_7; omega); (omega); (have o1 := gz_sh e4_7; omega); (omega); (omega)) | (simp only [gz_hd] at *; omega)))
          · show gv_X _ _ (42, [(2, .inl (I5 (p + 1) (Int.toNat v1_7))), (0, .inr (.inr (some p))), (1, .inl v1_7)], [], sh, gc_h sh I5 J6 A)
            refine gv_run 2 true hD (pcₚ := 45) (lvₚ := [(2, .inl (I5 (p + 1) (Int.toNat v1_7))), (0, .inr (.inr (some p))), (1, .inl v1_7)]) (stₚ := [.inl 122, .inl (I5 (p + 1) (Int.toNat v1_7))]) (hₚ := gc_h sh I5 J6 A) (C := ((True ∧ True) ∧ True)) rfl ⟨⟨trivial, trivial⟩, trivial⟩ ?_
            refine gv_icmp_le (t := 63) hD rfl rfl ⟨⟨by (/-36-/first | omega | (simp only [gz_hd] at *; omega)), by (/-37-/first | (have o1 := gz_sh f47; omega) | (simp only [gz_hd] at *; omega))⟩, ⟨by (/-38-/first | omega | (simp only [gz_hd] at *; omega)), by (/-39-/first | omega | (simp only [gz_hd] at *; omega))⟩⟩ (fun c49 => ?_) (fun c49 => ?_)
            · show gv_X _ _ (63, [(2, .inl (I5 (p + 1) (Int.toNat v1_7))), (0, .inr (.inr (some p))), (1, .inl v1_7)], [], sh, gc_h sh I5 J6 A)
              refine gv_pick [1, 2, 0] rfl ?_
              exact L63 ((I5 (p + 1) (Int.toNat v1_7))) (by (/-40-/first | (and_intros; (have o1 := gz_sh hv1_7; omega); (have o1 := gz_sh e1_7; have o2 := gz_sh f1; omega); (omega); (omega); (have o1 := gz_sh e0_7; omega); (have o1 := gz_sh e1_7; omega); (have o1 := gz_sh e2_7; omega); (omega)) | (simp only [gz_hd] at *; omega)))
            · show gv_X _ _ (48, [(2, .inl (I5 (p + 1) (Int.toNat v1_7))), (0, .inr (.inr (some p))), (1, .inl v1_7)], [], sh, gc_h sh I5 J6 A)
              refine gv_pick [1, 2, 0] rfl ?_
              exact L48 ((I5 (p + 1) (Int.toNat v1_7))) (by (/-41-/first | (and_intros; (have o1 := gz_sh hv1_7; omega); (have o1 := gz_sh e1_7; have o2 := gz_sh f1; omega); (omega); (have o1 := gz_sh f47; omega); (have o1 := gz_sh e0_7; omega); (have o1 := gz_sh e1_7; omega); (have o1 := gz_sh e2_7; omega); (omega); (have o1 := gz_sh e4_7; omega); (omega); (omega)) | (simp only [gz_hd] at *; omega)))
  refine gv_run 1 true hD (pcₚ := 1) (lvₚ := [(0, .inr (.inr (some p)))]) (stₚ := [.inr (.inr (some p))]) (hₚ := gc_h sh I J A) (C := (True ∧ True)) rfl ⟨trivial, trivial⟩ ?_
  refine gv_get hD rfl rfl S_p ⟨by decide, (gz_sh B_p)⟩ (gc_hI S_p rfl) ?_
  show gv_X _ _ (4, [(0, .inr (.inr (some p)))], [.inl (I p 5)], sh, gc_h sh I J A)
  refine gv_run 3 true hD (pcₚ := 7) (lvₚ := [(1, .inl (I p 5)), (0, .inr (.inr (some p)))]) (stₚ := [.inr (.inl (Int64.ofNat 0)), .inr (.inr (some p))]) (hₚ := gc_h sh I J A) (C := (((True ∧ True) ∧ True) ∧ True)) rfl ⟨⟨⟨trivial, trivial⟩, trivial⟩, trivial⟩ ?_
  refine gv_put hD rfl rfl S_p ⟨by decide, (gz_sh B_p)⟩ rfl trivial ?_
  refine gc_stJ S_p rfl (fun J51 q52 p52 => ?_)
  have FJ51 := gc_frs (W := fun q j => (q = p ∧ j = 9)) FJ ⟨rfl, rfl⟩ p52
  show gv_X _ _ (10, [(1, .inl (I p 5)), (0, .inr (.inr (some p)))], [], sh, gc_h sh I J51 A)
  refine gv_pick [1, 0] rfl ?_
  exact L10 _ I J51 (I p 5) (Nat.lt_succ_self _) hI FI FJ51 (by (/-42-/first | (and_intros; (have o1 := gz_sh f2; omega); (have o1 := gz_sh f2; omega); (omega); (omega); (omega); (omega); (omega)) | (simp only [gz_hd] at *; omega)))
set_option maxHeartbeats 8000000 in
set_option maxRecDepth 100000 in
theorem d_X9_takeNumber {ws0 : List Cond} {tb : String → gz_T} (hws : gc_Ws ws0) (htb : gc_tbs tb) (sh : gz_Sh) (ro : Nat → Nat) (I : gr_I) (J : gr_J) (A : gc_A) (hI : gc_Inv ro I) (p : Nat)  (hp : gc_isText sh ro A p)  (x0 : I p 5 < I p 1) (x1 : 48 ≤ I (p + 1) (Int.toNat (I p 5)) ∧ I (p + 1) (Int.toNat (I p 5)) ≤ 57) : ∃ r hₚ, gz_Ev ws0 tb 1 (yX9_takeNumber, cX9_takeNumber, 2, none) [.inr (.inr (some p))] sh (gc_h sh I J A) r sh hₚ 0 0 ∧ (∃ (Iₚ : gr_I) (Jₚ : gr_J), hₚ = gc_h sh Iₚ Jₚ A ∧ gc_Inv ro Iₚ ∧ (∀ q j : Nat, ((q = p ∧ j = 6) ∨ (q = p ∧ j = 7) ∨ (q = p ∧ j = 8)) ∨ Iₚ q j = I q j) ∧ (∀ q j : Nat, (False) ∨ Jₚ q j = J q j) ∧ r = none ∧ (I p 5 < Iₚ p 6) ∧ (Iₚ p 6 ≤ I p 1) ∧ (Iₚ p 7 = 2)) := by
  have FI : ∀ q j : Nat, ((q = p ∧ j = 6) ∨ (q = p ∧ j = 7) ∨ (q = p ∧ j = 8)) ∨ I q j = I q j := fun _ _ => Or.inr rfl
  have FJ : ∀ q j : Nat, (False) ∨ J q j = J q j := fun _ _ => Or.inr rfl
  obtain ⟨S_p, R_p, B_p, A_p_0, S_p_1, R_p_1, B_p_1, A_p_2, S_p_2, R_p_2, B_p_2, A_p_3, S_p_3, R_p_3, B_p_3⟩ := id hp
  replace R_p := gz_hi R_p
  replace B_p := gz_hi B_p
  replace R_p_1 := gz_hi R_p_1
  replace B_p_1 := gz_hi B_p_1
  replace R_p_2 := gz_hi R_p_2
  replace B_p_2 := gz_hi B_p_2
  replace R_p_3 := gz_hi R_p_3
  replace B_p_3 := gz_hi B_p_3
  have hD : gv_D (gc_E9 ws0 tb 0 (yX9_takeNumber, cX9_takeNumber, 2, none) kX9_takeNumber) := gq_of oX9_takeNumber
  refine gc_ev9 (d := 0) (l := kX9_takeNumber) (Po := fun r hₚ => (∃ (Iₚ : gr_I) (Jₚ : gr_J), hₚ = gc_h sh Iₚ Jₚ A ∧ gc_Inv ro Iₚ ∧ (∀ q j : Nat, ((q = p ∧ j = 6) ∨ (q = p ∧ j = 7) ∨ (q = p ∧ j = 8)) ∨ Iₚ q j = I q j) ∧ (∀ q j : Nat, (False) ∨ Jₚ q j = J q j) ∧ r = none ∧ (I p 5 < Iₚ p 6) ∧ (Iₚ p 6 ≤ I p 1) ∧ (Iₚ p 7 = 2))) htb rfl (Nat.le_of_ble_eq_true rfl) ?_
  have N_p_1__p := gz_hi (show ¬ ((p + 1) = p) from by (/-0-/first | omega | (simp only [gz_hd] at *; omega)))
  have f1 := gz_hi ((show 0 ≤ I p 1 ∧ I p 1 ≤ 1000 from gc_in2 hI (gz_sh R_p) rfl rfl rfl))
  have f2 := gz_hi ((show 0 ≤ I p 5 ∧ I p 5 ≤ 1000 from gc_in2 hI (gz_sh R_p) rfl rfl rfl))
  have L10 : ∀ (n9 : Nat) (I6 : gr_I) (J7 : gr_J) (v1_8 : Int), (1001 - v1_8).toNat < n9 → gc_Inv ro I6 → (∀ q j : Nat, ((q = p ∧ j = 6) ∨ (q = p ∧ j = 7) ∨ (q = p ∧ j = 8)) ∨ I6 q j = I q j) → (∀ q j : Nat, (False) ∨ J7 q j = J q j) → ((0 ≤ v1_8 ∧ v1_8 ≤ 1000) ∧ (I6 p 5 = I p 5) ∧ (I6 p 1 = I p 1) ∧ (v1_8 ≤ I6 p 1) ∧ (I6 p 5 < v1_8 ∨ (v1_8 = I6 p 5 ∧ 48 ≤ I6 (p + 1) (Int.toNat v1_8) ∧ I6 (p + 1) (Int.toNat v1_8) ≤ 57)) ∧ ((v1_8 - I6 p 5 = 0 ∧ I6 p 8 ≤ 0) ∨ (v1_8 - I6 p 5 = 1 ∧ I6 p 8 ≤ 9) ∨ (v1_8 - I6 p 5 = 2 ∧ I6 p 8 ≤ 99) ∨ (v1_8 - I6 p 5 = 3 ∧ I6 p 8 ≤ 999) ∨ (v1_8 - I6 p 5 = 4 ∧ I6 p 8 ≤ 9999) ∨ (v1_8 - I6 p 5 = 5 ∧ I6 p 8 ≤ 99999) ∨ (v1_8 - I6 p 5 = 6 ∧ I6 p 8 ≤ 999999))) → gv_X (gc_E9 ws0 tb 0 (yX9_takeNumber, cX9_takeNumber, 2, none) kX9_takeNumber) (gv_Q cX9_takeNumber none sh (fun r hₚ => (∃ (Iₚ : gr_I) (Jₚ : gr_J), hₚ = gc_h sh Iₚ Jₚ A ∧ gc_Inv ro Iₚ ∧ (∀ q j : Nat, ((q = p ∧ j = 6) ∨ (q = p ∧ j = 7) ∨ (q = p ∧ j = 8)) ∨ Iₚ q j = I q j) ∧ (∀ q j : Nat, (False) ∨ Jₚ q j = J q j) ∧ r = none ∧ (I p 5 < Iₚ p 6) ∧ (Iₚ p 6 ≤ I p 1) ∧ (Iₚ p 7 = 2)))) (10, [(0, .inr (.inr (some p))), (1, .inl v1_8)], [], sh, gc_h sh I6 J7 A) := by
    intro n9
    induction n9 with
    | zero => intro I6 J7 v1_8 hn; (/-1-/first | (have o1 := gz_sh f2; omega) | (simp only [gz_hd] at *; omega))
    | succ n9 ih10 =>
      intro I6 J7 v1_8 hn hI6 FI6 FJ7 m_8
      obtain ⟨hv1_8, e0_8, e1_8, e2_8, e3_8, e4_8⟩ := gz_h6 m_8
      have f13 := gz_hi ((show 0 ≤ I6 p 8 ∧ I6 p 8 ≤ 999999 from gc_in2 hI6 (gz_sh R_p) rfl rfl rfl))
      have L78 : ((0 ≤ v1_8 ∧ v1_8 ≤ 1000) ∧ (I6 p 5 = I p 5) ∧ (I6 p 1 = I p 1) ∧ (I6 p 5 < v1_8) ∧ (v1_8 ≤ I6 p 1)) → gv_X (gc_E9 ws0 tb 0 (yX9_takeNumber, cX9_takeNumber, 2, none) kX9_takeNumber) (gv_Q cX9_takeNumber none sh (fun r hₚ => (∃ (Iₚ : gr_I) (Jₚ : gr_J), hₚ = gc_h sh Iₚ Jₚ A ∧ gc_Inv ro Iₚ ∧ (∀ q j : Nat, ((q = p ∧ j = 6) ∨ (q = p ∧ j = 7) ∨ (q = p ∧ j = 8)) ∨ Iₚ q j = I q j) ∧ (∀ q j : Nat, (False) ∨ Jₚ q j = J q j) ∧ r = none ∧ (I p 5 < Iₚ p 6) ∧ (Iₚ p 6 ≤ I p 1) ∧ (Iₚ p 7 = 2)))) (78, [(0, .inr (.inr (some p))), (1, .inl v1_8)], [], sh, gc_h sh I6 J7 A) := by
        intro m_14
        obtain ⟨hv1_8_14, e0_14, e1_14, e2_14, e3_14⟩ := gz_h5 m_14
        refine gv_run 2 true hD (pcₚ := 80) (lvₚ := [(0, .inr (.inr (some p))), (1, .inl v1_8)]) (stₚ := [.inl 2, .inr (.inr (some p))]) (hₚ := gc_h sh I6 J7 A) (C := ((True ∧ True) ∧ True)) rfl ⟨⟨trivial, trivial⟩, trivial⟩ ?_
        refine gv_put hD rfl rfl S_p ⟨by decide, (gz_sh B_p)⟩ rfl trivial ?_
        refine gc_st (k := 7) hI6 S_p rfl (gz_sh R_p) (lo := 0) (hi := 125) rfl rfl (by (/-2-/first | omega | (simp only [gz_hd] at *; omega))) (by (/-3-/first | omega | (simp only [gz_hd] at *; omega))) (fun I20 hI20 q21 p21 => ?_)
        have FI20 := gc_frs (W := fun q j => (q = p ∧ j = 6) ∨ (q = p ∧ j = 7) ∨ (q = p ∧ j = 8)) FI6 (Or.inr (Or.inl ⟨rfl, rfl⟩)) p21
        have t22 := gz_hi (p21 p 1 (fun h => absurd h.2 (by first | exact gz_ne rfl | decide)))
        have t23 := gz_hi (p21 p 5 (fun h => absurd h.2 (by first | exact gz_ne rfl | decide)))
        show gv_X _ _ (83, [(0, .inr (.inr (some p))), (1, .inl v1_8)], [], sh, gc_h sh I20 J7 A)
        refine gv_run 2 true hD (pcₚ := 85) (lvₚ := [(0, .inr (.inr (some p))), (1, .inl v1_8)]) (stₚ := [.inl v1_8, .inr (.inr (some p))]) (hₚ := gc_h sh I20 J7 A) (C := ((True ∧ True) ∧ True)) rfl ⟨⟨trivial, trivial⟩, trivial⟩ ?_
        refine gv_put hD rfl rfl S_p ⟨by decide, (gz_sh B_p)⟩ rfl trivial ?_
        refine gc_st (k := 6) hI20 S_p rfl (gz_sh R_p) (lo := 0) (hi := 1001) rfl rfl (by (/-4-/first | (have o1 := gz_sh hv1_8; omega) | (simp only [gz_hd] at *; omega))) (by (/-5-/first | (have o1 := gz_sh hv1_8; omega) | (simp only [gz_hd] at *; omega))) (fun I28 hI28 q29 p29 => ?_)
        have FI28 := gc_frs (W := fun q j => (q = p ∧ j = 6) ∨ (q = p ∧ j = 7) ∨ (q = p ∧ j = 8)) FI20 (Or.inl ⟨rfl, rfl⟩) p29
        have t30 := gz_hi (p29 p 1 (fun h => absurd h.2 (by first | exact gz_ne rfl | decide)))
        have t31 := gz_hi (p29 p 5 (fun h => absurd h.2 (by first | exact gz_ne rfl | decide)))
        have t32 := gz_hi (p29 p 7 (fun h => absurd h.2 (by first | exact gz_ne rfl | decide)))
        show gv_X _ _ (88, [(0, .inr (.inr (some p))), (1, .inl v1_8)], [], sh, gc_h sh I28 J7 A)
        exact gv_vret hD rfl ⟨I28, J7, rfl, hI28, FI28, FJ7, ⟨rfl, by (/-6-/first | (and_intros; (have o1 := gz_sh e0_8; have o2 := gz_sh e2_14; omega); (have o1 := gz_sh e1_8; have o2 := gz_sh e2_8; omega); (have o1 := gz_sh t32; omega)) | (simp only [gz_hd] at *; omega))⟩⟩
      refine gv_run 2 true hD (pcₚ := 12) (lvₚ := [(0, .inr (.inr (some p))), (1, .inl v1_8)]) (stₚ := [.inr (.inr (some p)), .inl v1_8]) (hₚ := gc_h sh I6 J7 A) (C := ((True ∧ True) ∧ True)) rfl ⟨⟨trivial, trivial⟩, trivial⟩ ?_
      refine gv_get hD rfl rfl S_p ⟨by decide, (gz_sh B_p)⟩ (gc_hI S_p rfl) ?_
      show gv_X _ _ (15, [(0, .inr (.inr (some p))), (1, .inl v1_8)], [.inl (I6 p 1), .inl v1_8], sh, gc_h sh I6 J7 A)
      refine gv_icmp_ge (t := 78) hD rfl rfl ⟨⟨by (/-7-/first | (have o1 := gz_sh hv1_8; omega) | (simp only [gz_hd] at *; omega)), by (/-8-/first | (have o1 := gz_sh hv1_8; omega) | (simp only [gz_hd] at *; omega))⟩, ⟨by (/-9-/first | (have o1 := gz_sh e1_8; have o2 := gz_sh f1; omega) | (simp only [gz_hd] at *; omega)), by (/-10-/first | (have o1 := gz_sh e1_8; have o2 := gz_sh f1; omega) | (simp only [gz_hd] at *; omega))⟩⟩ (fun c37 => ?_) (fun c37 => ?_)
      · show gv_X _ _ (78, [(0, .inr (.inr (some p))), (1, .inl v1_8)], [], sh, gc_h sh I6 J7 A)
        exact L78 (by (/-11-/first | (and_intros; (have o1 := gz_sh e1_8; have o2 := gz_sh f1; omega); (have o1 := gz_sh e1_8; have o2 := gz_sh e2_8; have o3 := gz_sh f1; omega); (have o1 := gz_sh e0_8; omega); (have o1 := gz_sh e1_8; omega); (have o1 := gz_sh e0_8; have o2 := gz_sh e1_8; omega); (have o1 := gz_sh e2_8; omega)) | (simp only [gz_hd] at *; omega)))
      · show gv_X _ _ (18, [(0, .inr (.inr (some p))), (1, .inl v1_8)], [], sh, gc_h sh I6 J7 A)
        refine gv_run 2 true hD (pcₚ := 20) (lvₚ := [(0, .inr (.inr (some p))), (1, .inl v1_8)]) (stₚ := [.inr (.inr (some p)), .inl v1_8]) (hₚ := gc_h sh I6 J7 A) (C := ((True ∧ True) ∧ True)) rfl ⟨⟨trivial, trivial⟩, trivial⟩ ?_
        refine gv_get hD rfl rfl S_p ⟨by decide, (gz_sh B_p)⟩ (gc_hI S_p rfl) ?_
        show gv_X _ _ (23, [(0, .inr (.inr (some p))), (1, .inl v1_8)], [.inl (I6 p 5), .inl v1_8], sh, gc_h sh I6 J7 A)
        refine gv_run 2 true hD (pcₚ := 26) (lvₚ := [(0, .inr (.inr (some p))), (1, .inl v1_8)]) (stₚ := [.inl ((I6 p 5) + 6), .inl v1_8]) (hₚ := gc_h sh I6 J7 A) (C := ((True ∧ True) ∧ True)) rfl ⟨⟨trivial, trivial⟩, trivial⟩ ?_
        refine gv_icmp_ge (t := 78) hD rfl rfl ⟨⟨by (/-12-/first | (have o1 := gz_sh hv1_8; omega) | (simp only [gz_hd] at *; omega)), by (/-13-/first | (have o1 := gz_sh hv1_8; omega) | (simp only [gz_hd] at *; omega))⟩, ⟨by (/-14-/first | (have o1 := gz_sh e0_8; have o2 := gz_sh f2; omega) | (simp only [gz_hd] at *; omega)), by (/-15-/first | (have o1 := gz_sh e0_8; have o2 := gz_sh f2; omega) | (simp only [gz_hd] at *; omega))⟩⟩ (fun c39 => ?_) (fun c39 => ?_)
        · show gv_X _ _ (78, [(0, .inr (.inr (some p))), (1, .inl v1_8)], [], sh, gc_h sh I6 J7 A)
          exact L78 (by (/-16-/first | (and_intros; (have o1 := gz_sh hv1_8; omega); (have o1 := gz_sh hv1_8; omega); (have o1 := gz_sh e0_8; omega); (have o1 := gz_sh e1_8; omega); (omega); (omega)) | (simp only [gz_hd] at *; omega)))
        · show gv_X _ _ (29, [(0, .inr (.inr (some p))), (1, .inl v1_8)], [], sh, gc_h sh I6 J7 A)
          refine gv_run 1 true hD (pcₚ := 30) (lvₚ := [(0, .inr (.inr (some p))), (1, .inl v1_8)]) (stₚ := [.inr (.inr (some p))]) (hₚ := gc_h sh I6 J7 A) (C := (True ∧ True)) rfl ⟨trivial, trivial⟩ ?_
          refine gv_get hD rfl rfl S_p ⟨by decide, (gz_sh B_p)⟩ (gc_hA S_p rfl A_p_0) ?_
          show gv_X _ _ (33, [(0, .inr (.inr (some p))), (1, .inl v1_8)], [.inr (.inr (some (p + 1)))], sh, gc_h sh I6 J7 A)
          refine gv_run 1 true hD (pcₚ := 34) (lvₚ := [(0, .inr (.inr (some p))), (1, .inl v1_8)]) (stₚ := [.inl v1_8, .inr (.inr (some (p + 1)))]) (hₚ := gc_h sh I6 J7 A) (C := (True ∧ True)) rfl ⟨trivial, trivial⟩ ?_
          have f40 := gz_hi ((show (-128) ≤ I6 (p + 1) (Int.toNat v1_8) ∧ I6 (p + 1) (Int.toNat v1_8) ≤ 127 from gc_in2 hI6 (gz_sh R_p_1) rfl rfl rfl))
          refine gv_bald hD rfl S_p_1 (Or.inl rfl) ⟨by decide, (gz_sh B_p_1)⟩ ⟨by (/-17-/first | (have o1 := gz_sh hv1_8; omega) | (simp only [gz_hd] at *; omega)), by (/-18-/first | (have o1 := gz_sh e1_8; have o2 := gz_sh f1; omega) | (simp only [gz_hd] at *; omega))⟩ (gc_iI S_p_1 rfl) ?_
          show gv_X _ _ (35, [(0, .inr (.inr (some p))), (1, .inl v1_8)], [.inl (I6 (p + 1) (Int.toNat v1_8))], sh, gc_h sh I6 J7 A)
          refine gv_run 1 true hD (pcₚ := 37) (lvₚ := [(0, .inr (.inr (some p))), (1, .inl v1_8)]) (stₚ := [.inl 48, .inl (I6 (p + 1) (Int.toNat v1_8))]) (hₚ := gc_h sh I6 J7 A) (C := (True ∧ True)) rfl ⟨trivial, trivial⟩ ?_
          refine gv_icmp_lt (t := 78) hD rfl rfl ⟨⟨by (/-19-/first | (have o1 := gz_sh f40; omega) | (simp only [gz_hd] at *; omega)), by (/-20-/first | (have o1 := gz_sh f40; omega) | (simp only [gz_hd] at *; omega))⟩, ⟨by (/-21-/first | omega | (simp only [gz_hd] at *; omega)), by (/-22-/first | omega | (simp only [gz_hd] at *; omega))⟩⟩ (fun c41 => ?_) (fun c41 => ?_)
          · show gv_X _ _ (78, [(0, .inr (.inr (some p))), (1, .inl v1_8)], [], sh, gc_h sh I6 J7 A)
            exact L78 (by (/-23-/first | (and_intros; (have o1 := gz_sh hv1_8; omega); (have o1 := gz_sh hv1_8; omega); (have o1 := gz_sh e0_8; omega); (have o1 := gz_sh e1_8; omega); (have o1 := gz_sh e3_8; omega); (omega)) | (simp only [gz_hd] at *; omega)))
          · show gv_X _ _ (40, [(0, .inr (.inr (some p))), (1, .inl v1_8)], [], sh, gc_h sh I6 J7 A)
            refine gv_run 1 true hD (pcₚ := 41) (lvₚ := [(0, .inr (.inr (some p))), (1, .inl v1_8)]) (stₚ := [.inr (.inr (some p))]) (hₚ := gc_h sh I6 J7 A) (C := (True ∧ True)) rfl ⟨trivial, trivial⟩ ?_
            refine gv_get hD rfl rfl S_p ⟨by decide, (gz_sh B_p)⟩ (gc_hA S_p rfl A_p_0) ?_
            show gv_X _ _ (44, [(0, .inr (.inr (some p))), (1, .inl v1_8)], [.inr (.inr (some (p + 1)))], sh, gc_h sh I6 J7 A)
            refine gv_run 1 true hD (pcₚ := 45) (lvₚ := [(0, .inr (.inr (some p))), (1, .inl v1_8)]) (stₚ := [.inl v1_8, .inr (.inr (some (p + 1)))]) (hₚ := gc_h sh I6 J7 A) (C := (True ∧ True)) rfl ⟨trivial, trivial⟩ ?_
            refine gv_bald hD rfl S_p_1 (Or.inl rfl) ⟨by decide, (gz_sh B_p_1)⟩ ⟨by (/-24-/first | (have o1 := gz_sh hv1_8; omega) | (simp only [gz_hd] at *; omega)), by (/-25-/first | (have o1 := gz_sh e1_8; have o2 := gz_sh f1; omega) | (simp only [gz_hd] at *; omega))⟩ (gc_iI S_p_1 rfl) ?_
            show gv_X _ _ (46, [(0, .inr (.inr (some p))), (1, .inl v1_8)], [.inl (I6 (p + 1) (Int.toNat v1_8))], sh, gc_h sh I6 J7 A)
            refine gv_run 1 true hD (pcₚ := 48) (lvₚ := [(0, .inr (.inr (some p))), (1, .inl v1_8)]) (stₚ := [.inl 57, .inl (I6 (p + 1) (Int.toNat v1_8))]) (hₚ := gc_h sh I6 J7 A) (C := (True ∧ True)) rfl ⟨trivial, trivial⟩ ?_
            refine gv_icmp_gt (t := 78) hD rfl rfl ⟨⟨by (/-26-/first | omega | (simp only [gz_hd] at *; omega)), by (/-27-/first | (have o1 := gz_sh f40; omega) | (simp only [gz_hd] at *; omega))⟩, ⟨by (/-28-/first | omega | (simp only [gz_hd] at *; omega)), by (/-29-/first | omega | (simp only [gz_hd] at *; omega))⟩⟩ (fun c43 => ?_) (fun c43 => ?_)
            · show gv_X _ _ (78, [(0, .inr (.inr (some p))), (1, .inl v1_8)], [], sh, gc_h sh I6 J7 A)
              exact L78 (by (/-30-/first | (and_intros; (have o1 := gz_sh hv1_8; omega); (have o1 := gz_sh hv1_8; omega); (have o1 := gz_sh e0_8; omega); (have o1 := gz_sh e1_8; omega); (have o1 := gz_sh e3_8; omega); (omega)) | (simp only [gz_hd] at *; omega)))
            · show gv_X _ _ (51, [(0, .inr (.inr (some p))), (1, .inl v1_8)], [], sh, gc_h sh I6 J7 A)
              refine gv_run 2 true hD (pcₚ := 53) (lvₚ := [(0, .inr (.inr (some p))), (1, .inl v1_8)]) (stₚ := [.inr (.inr (some p)), .inr (.inr (some p))]) (hₚ := gc_h sh I6 J7 A) (C := ((True ∧ True) ∧ True)) rfl ⟨⟨trivial, trivial⟩, trivial⟩ ?_
              refine gv_get hD rfl rfl S_p ⟨by decide, (gz_sh B_p)⟩ (gc_hI S_p rfl) ?_
              show gv_X _ _ (56, [(0, .inr (.inr (some p))), (1, .inl v1_8)], [.inl (I6 p 8), .inr (.inr (some p))], sh, gc_h sh I6 J7 A)
              refine gv_run 3 true hD (pcₚ := 60) (lvₚ := [(0, .inr (.inr (some p))), (1, .inl v1_8)]) (stₚ := [.inr (.inr (some p)), .inl ((I6 p 8) * 10), .inr (.inr (some p))]) (hₚ := gc_h sh I6 J7 A) (C := (((True ∧ True) ∧ True) ∧ True)) rfl ⟨⟨⟨trivial, trivial⟩, trivial⟩, trivial⟩ ?_
              refine gv_get hD rfl rfl S_p ⟨by decide, (gz_sh B_p)⟩ (gc_hA S_p rfl A_p_0) ?_
              show gv_X _ _ (63, [(0, .inr (.inr (some p))), (1, .inl v1_8)], [.inr (.inr (some (p + 1))), .inl ((I6 p 8) * 10), .inr (.inr (some p))], sh, gc_h sh I6 J7 A)
              refine gv_run 1 true hD (pcₚ := 64) (lvₚ := [(0, .inr (.inr (some p))), (1, .inl v1_8)]) (stₚ := [.inl v1_8, .inr (.inr (some (p + 1))), .inl ((I6 p 8) * 10), .inr (.inr (some p))]) (hₚ := gc_h sh I6 J7 A) (C := (True ∧ True)) rfl ⟨trivial, trivial⟩ ?_
              refine gv_bald hD rfl S_p_1 (Or.inl rfl) ⟨by decide, (gz_sh B_p_1)⟩ ⟨by (/-31-/first | (have o1 := gz_sh hv1_8; omega) | (simp only [gz_hd] at *; omega)), by (/-32-/first | (have o1 := gz_sh e1_8; have o2 := gz_sh f1; omega) | (simp only [gz_hd] at *; omega))⟩ (gc_iI S_p_1 rfl) ?_
              show gv_X _ _ (65, [(0, .inr (.inr (some p))), (1, .inl v1_8)], [.inl (I6 (p + 1) (Int.toNat v1_8)), .inl ((I6 p 8) * 10), .inr (.inr (some p))], sh, gc_h sh I6 J7 A)
              refine gv_run 3 true hD (pcₚ := 69) (lvₚ := [(0, .inr (.inr (some p))), (1, .inl v1_8)]) (stₚ := [.inl ((((I6 p 8) * 10) + (I6 (p + 1) (Int.toNat v1_8))) - 48), .inr (.inr (some p))]) (hₚ := gc_h sh I6 J7 A) (C := (((True ∧ True) ∧ True) ∧ True)) rfl ⟨⟨⟨trivial, trivial⟩, trivial⟩, trivial⟩ ?_
              refine gv_put hD rfl rfl S_p ⟨by decide, (gz_sh B_p)⟩ rfl trivial ?_
              refine gc_st (k := 8) hI6 S_p rfl (gz_sh R_p) (lo := 0) (hi := 999999) rfl rfl (by (/-33-/first | (have o1 := gz_sh f13; omega) | (simp only [gz_hd] at *; omega))) (by (/-34-/first | (have o1 := gz_sh e4_8; omega) | (simp only [gz_hd] at *; omega))) (fun I46 hI46 q47 p47 => ?_)
              have FI46 := gc_frs (W := fun q j => (q = p ∧ j = 6) ∨ (q = p ∧ j = 7) ∨ (q = p ∧ j = 8)) FI6 (Or.inr (Or.inr ⟨rfl, rfl⟩)) p47
              have t48 := gz_hi (p47 p 1 (fun h => absurd h.2 (by first | exact gz_ne rfl | decide)))
              have t49 := gz_hi (p47 p 5 (fun h => absurd h.2 (by first | exact gz_ne rfl | decide)))
              have f53 := gz_hi ((show 0 ≤ I46 p 8 ∧ I46 p 8 ≤ 999999 from gc_in2 hI46 (gz_sh R_p) rfl rfl rfl))
              show gv_X _ _ (72, [(0, .inr (.inr (some p))), (1, .inl v1_8)], [], sh, gc_h sh I46 J7 A)
              refine gv_run 2 true hD (pcₚ := 10) (lvₚ := [(1, .inl (v1_8 + 1)), (0, .inr (.inr (some p)))]) (stₚ := []) (hₚ := gc_h sh I46 J7 A) (C := ((True ∧ True) ∧ True)) rfl ⟨⟨trivial, trivial⟩, trivial⟩ ?_
              refine gv_pick [1, 0] rfl ?_
              exact ih10 I46 J7 (v1_8 + 1) (by (/-35-/first | (have o1 := gz_sh e0_8; have o2 := gz_sh e1_8; have o3 := gz_sh e3_8; have o4 := gz_sh e4_8; have o5 := gz_sh f1; have o6 := gz_sh f2; have o7 := gz_sh hv1_8; have o8 := gz_sh t48; have o9 := gz_sh t49; omega) | (simp only [gz_hd] at *; omega))) hI46 FI46 FJ7 (by (/-36-/first | (and_intros; (have o1 := gz_sh hv1_8; omega); (have o1 := gz_sh e1_8; have o2 := gz_sh f1; omega); (have o1 := gz_sh e0_8; have o2 := gz_sh t49; omega); (have o1 := gz_sh e1_8; have o2 := gz_sh t48; omega); (have o1 := gz_sh t48; omega); (have o1 := gz_sh e4_8; have o2 := gz_sh t49; omega); (have o1 := gz_sh e0_8; have o2 := gz_sh e1_8; have o3 := gz_sh e4_8; have o4 := gz_sh f1; have o5 := gz_sh f13; have o6 := gz_sh f2; have o7 := gz_sh f40; have o8 := gz_sh f53; have o9 := gz_sh hv1_8; have o10 := gz_sh t48; have o11 := gz_sh t49; omega)) | (simp only [gz_hd] at *; omega)))
  refine gv_run 1 true hD (pcₚ := 1) (lvₚ := [(0, .inr (.inr (some p)))]) (stₚ := [.inr (.inr (some p))]) (hₚ := gc_h sh I J A) (C := (True ∧ True)) rfl ⟨trivial, trivial⟩ ?_
  refine gv_get hD rfl rfl S_p ⟨by decide, (gz_sh B_p)⟩ (gc_hI S_p rfl) ?_
  show gv_X _ _ (4, [(0, .inr (.inr (some p)))], [.inl (I p 5)], sh, gc_h sh I J A)
  refine gv_run 3 true hD (pcₚ := 7) (lvₚ := [(1, .inl (I p 5)), (0, .inr (.inr (some p)))]) (stₚ := [.inl 0, .inr (.inr (some p))]) (hₚ := gc_h sh I J A) (C := (((True ∧ True) ∧ True) ∧ True)) rfl ⟨⟨⟨trivial, trivial⟩, trivial⟩, trivial⟩ ?_
  refine gv_put hD rfl rfl S_p ⟨by decide, (gz_sh B_p)⟩ rfl trivial ?_
  refine gc_st (k := 8) hI S_p rfl (gz_sh R_p) (lo := 0) (hi := 999999) rfl rfl (by (/-37-/first | omega | (simp only [gz_hd] at *; omega))) (by (/-38-/first | omega | (simp only [gz_hd] at *; omega))) (fun I55 hI55 q56 p56 => ?_)
  have FI55 := gc_frs (W := fun q j => (q = p ∧ j = 6) ∨ (q = p ∧ j = 7) ∨ (q = p ∧ j = 8)) FI (Or.inr (Or.inr ⟨rfl, rfl⟩)) p56
  have t57 := gz_hi (p56 p 1 (fun h => absurd h.2 (by first | exact gz_ne rfl | decide)))
  have t58 := gz_hi (p56 p 5 (fun h => absurd h.2 (by first | exact gz_ne rfl | decide)))
  have t61 := gz_hi (p56 (p + 1) (Int.toNat (I p 5)) (fun h => absurd h.1 (gz_sh N_p_1__p)))
  show gv_X _ _ (10, [(1, .inl (I p 5)), (0, .inr (.inr (some p)))], [], sh, gc_h sh I55 J A)
  refine gv_pick [1, 0] rfl ?_
  exact L10 _ I55 J (I p 5) (Nat.lt_succ_self _) hI55 FI55 FJ (by (/-39-/first | (and_intros; (have o1 := gz_sh f2; omega); (have o1 := gz_sh f2; omega); (have o1 := gz_sh t58; omega); (have o1 := gz_sh t57; omega); (have o1 := gz_sh t57; omega); (have o1 := gz_sh t58; have o2 := gz_sh t61; omega); (have o1 := gz_sh t58; omega)) | (simp only [gz_hd] at *; omega)))
set_option maxHeartbeats 8000000 in
set_option maxRecDepth 100000 in
theorem d_X9_takeLetters {ws0 : List Cond} {tb : String → gz_T} (hws : gc_Ws ws0) (htb : gc_tbs tb) (sh : gz_Sh) (ro : Nat → Nat) (I : gr_I) (J : gr_J) (A : gc_A) (hI : gc_Inv ro I) (p : Nat)  (hp : gc_isText sh ro A p)  (x0 : I p 5 < I p 1) : ∃ r hₚ, gz_Ev ws0 tb 1 (yX9_takeLetters, cX9_takeLetters, 3, none) [.inr (.inr (some p))] sh (gc_h sh I J A) r sh hₚ 0 0 ∧ (∃ (Iₚ : gr_I) (Jₚ : gr_J), hₚ = gc_h sh Iₚ Jₚ A ∧ gc_Inv ro Iₚ ∧ (∀ q j : Nat, ((q = p ∧ j = 6) ∨ (q = p ∧ j = 7)) ∨ Iₚ q j = I q j) ∧ (∀ q j : Nat, (False) ∨ Jₚ q j = J q j) ∧ r = none ∧ ((Iₚ p 7 = 3 ∧ Iₚ p 6 ≤ I p 1 ∧ 2 ≤ Iₚ p 6 - I p 5 ∧ Iₚ p 6 - I p 5 ≤ 14) ∨ Iₚ p 7 = 5) ∧ (I p 5 < Iₚ p 6) ∧ (gc_lt p Iₚ (Iₚ p 5) (Iₚ p 6 - 1))) := by
  have FI : ∀ q j : Nat, ((q = p ∧ j = 6) ∨ (q = p ∧ j = 7)) ∨ I q j = I q j := fun _ _ => Or.inr rfl
  have FJ : ∀ q j : Nat, (False) ∨ J q j = J q j := fun _ _ => Or.inr rfl
  obtain ⟨S_p, R_p, B_p, A_p_0, S_p_1, R_p_1, B_p_1, A_p_2, S_p_2, R_p_2, B_p_2, A_p_3, S_p_3, R_p_3, B_p_3⟩ := id hp
  replace R_p := gz_hi R_p
  replace B_p := gz_hi B_p
  replace R_p_1 := gz_hi R_p_1
  replace B_p_1 := gz_hi B_p_1
  replace R_p_2 := gz_hi R_p_2
  replace B_p_2 := gz_hi B_p_2
  replace R_p_3 := gz_hi R_p_3
  replace B_p_3 := gz_hi B_p_3
  have hD : gv_D (gc_E9 ws0 tb 0 (yX9_takeLetters, cX9_takeLetters, 3, none) kX9_takeLetters) := gq_of oX9_takeLetters
  refine gc_ev9 (d := 0) (l := kX9_takeLetters) (Po := fun r hₚ => (∃ (Iₚ : gr_I) (Jₚ : gr_J), hₚ = gc_h sh Iₚ Jₚ A ∧ gc_Inv ro Iₚ ∧ (∀ q j : Nat, ((q = p ∧ j = 6) ∨ (q = p ∧ j = 7)) ∨ Iₚ q j = I q j) ∧ (∀ q j : Nat, (False) ∨ Jₚ q j = J q j) ∧ r = none ∧ ((Iₚ p 7 = 3 ∧ Iₚ p 6 ≤ I p 1 ∧ 2 ≤ Iₚ p 6 - I p 5 ∧ Iₚ p 6 - I p 5 ≤ 14) ∨ Iₚ p 7 = 5) ∧ (I p 5 < Iₚ p 6) ∧ (gc_lt p Iₚ (Iₚ p 5) (Iₚ p 6 - 1)))) htb rfl (Nat.le_of_ble_eq_true rfl) ?_
  have f1 := gz_hi ((show 0 ≤ I p 1 ∧ I p 1 ≤ 1000 from gc_in2 hI (gz_sh R_p) rfl rfl rfl))
  have f2 := gz_hi ((show 0 ≤ I p 5 ∧ I p 5 ≤ 1000 from gc_in2 hI (gz_sh R_p) rfl rfl rfl))
  have L7 : ∀ (n9 : Nat) (v1_5 : Int), (1001 - v1_5).toNat < n9 → ((1 ≤ v1_5 ∧ v1_5 ≤ 1000) ∧ (I p 5 < v1_5) ∧ (v1_5 ≤ I p 1) ∧ (v1_5 - I p 5 ≤ 13)) → (gc_lt p I (I p 5) v1_5) → gv_X (gc_E9 ws0 tb 0 (yX9_takeLetters, cX9_takeLetters, 3, none) kX9_takeLetters) (gv_Q cX9_takeLetters none sh (fun r hₚ => (∃ (Iₚ : gr_I) (Jₚ : gr_J), hₚ = gc_h sh Iₚ Jₚ A ∧ gc_Inv ro Iₚ ∧ (∀ q j : Nat, ((q = p ∧ j = 6) ∨ (q = p ∧ j = 7)) ∨ Iₚ q j = I q j) ∧ (∀ q j : Nat, (False) ∨ Jₚ q j = J q j) ∧ r = none ∧ ((Iₚ p 7 = 3 ∧ Iₚ p 6 ≤ I p 1 ∧ 2 ≤ Iₚ p 6 - I p 5 ∧ Iₚ p 6 - I p 5 ≤ 14) ∨ Iₚ p 7 = 5) ∧ (I p 5 < Iₚ p 6) ∧ (gc_lt p Iₚ (Iₚ p 5) (Iₚ p 6 - 1))))) (7, [(0, .inr (.inr (some p))), (1, .inl v1_5)], [], sh, gc_h sh I J A) := by
    intro n9
    induction n9 with
    | zero => intro v1_5 hn; (/-0-/first | omega | (simp only [gz_hd] at *; omega))
    | succ n9 ih7 =>
      intro v1_5 hn m_5 e3_5
      obtain ⟨hv1_5, e0_5, e1_5, e2_5⟩ := gz_h4 m_5
      have L54 : ((1 ≤ v1_5 ∧ v1_5 ≤ 1000) ∧ (I p 5 < v1_5) ∧ (v1_5 ≤ I p 1) ∧ (v1_5 - I p 5 ≤ 13)) → (gc_lt p I (I p 5) v1_5) → gv_X (gc_E9 ws0 tb 0 (yX9_takeLetters, cX9_takeLetters, 3, none) kX9_takeLetters) (gv_Q cX9_takeLetters none sh (fun r hₚ => (∃ (Iₚ : gr_I) (Jₚ : gr_J), hₚ = gc_h sh Iₚ Jₚ A ∧ gc_Inv ro Iₚ ∧ (∀ q j : Nat, ((q = p ∧ j = 6) ∨ (q = p ∧ j = 7)) ∨ Iₚ q j = I q j) ∧ (∀ q j : Nat, (False) ∨ Jₚ q j = J q j) ∧ r = none ∧ ((Iₚ p 7 = 3 ∧ Iₚ p 6 ≤ I p 1 ∧ 2 ≤ Iₚ p 6 - I p 5 ∧ Iₚ p 6 - I p 5 ≤ 14) ∨ Iₚ p 7 = 5) ∧ (I p 5 < Iₚ p 6) ∧ (gc_lt p Iₚ (Iₚ p 5) (Iₚ p 6 - 1))))) (54, [(0, .inr (.inr (some p))), (1, .inl v1_5)], [], sh, gc_h sh I J A) := by
        intro m_10 e3_10
        obtain ⟨hv1_5_10, e0_10, e1_10, e2_10⟩ := gz_h4 m_10
        have L78 : ∀ (s0_15 : Int), ((1 ≤ v1_5 ∧ v1_5 ≤ 1000) ∧ (0 ≤ s0_15 ∧ s0_15 ≤ 1) ∧ (I p 5 < v1_5) ∧ (v1_5 ≤ I p 1) ∧ (v1_5 - I p 5 ≤ 13) ∧ (s0_15 = 0 ∨ v1_5 < I p 1)) → (gc_lt p I (I p 5) v1_5) → gv_X (gc_E9 ws0 tb 0 (yX9_takeLetters, cX9_takeLetters, 3, none) kX9_takeLetters) (gv_Q cX9_takeLetters none sh (fun r hₚ => (∃ (Iₚ : gr_I) (Jₚ : gr_J), hₚ = gc_h sh Iₚ Jₚ A ∧ gc_Inv ro Iₚ ∧ (∀ q j : Nat, ((q = p ∧ j = 6) ∨ (q = p ∧ j = 7)) ∨ Iₚ q j = I q j) ∧ (∀ q j : Nat, (False) ∨ Jₚ q j = J q j) ∧ r = none ∧ ((Iₚ p 7 = 3 ∧ Iₚ p 6 ≤ I p 1 ∧ 2 ≤ Iₚ p 6 - I p 5 ∧ Iₚ p 6 - I p 5 ≤ 14) ∨ Iₚ p 7 = 5) ∧ (I p 5 < Iₚ p 6) ∧ (gc_lt p Iₚ (Iₚ p 5) (Iₚ p 6 - 1))))) (78, [(0, .inr (.inr (some p))), (1, .inl v1_5)], [.inl s0_15], sh, gc_h sh I J A) := by
          intro s0_15 m_15 e4_15
          obtain ⟨hv1_5_15, hs0_15, e0_15, e1_15, e2_15, e3_15⟩ := gz_h6 m_15
          have L89 : ∀ (s1_20 : Int), ((1 ≤ v1_5 ∧ v1_5 ≤ 1000) ∧ (3 ≤ s1_20 ∧ s1_20 ≤ 5) ∧ (I p 5 < v1_5) ∧ (v1_5 ≤ I p 1) ∧ (v1_5 - I p 5 ≤ 13) ∧ (s1_20 = 5 ∨ (s1_20 = 3 ∧ v1_5 < I p 1))) → (gc_lt p I (I p 5) v1_5) → gv_X (gc_E9 ws0 tb 0 (yX9_takeLetters, cX9_takeLetters, 3, none) kX9_takeLetters) (gv_Q cX9_takeLetters none sh (fun r hₚ => (∃ (Iₚ : gr_I) (Jₚ : gr_J), hₚ = gc_h sh Iₚ Jₚ A ∧ gc_Inv ro Iₚ ∧ (∀ q j : Nat, ((q = p ∧ j = 6) ∨ (q = p ∧ j = 7)) ∨ Iₚ q j = I q j) ∧ (∀ q j : Nat, (False) ∨ Jₚ q j = J q j) ∧ r = none ∧ ((Iₚ p 7 = 3 ∧ Iₚ p 6 ≤ I p 1 ∧ 2 ≤ Iₚ p 6 - I p 5 ∧ Iₚ p 6 - I p 5 ≤ 14) ∨ Iₚ p 7 = 5) ∧ (I p 5 < Iₚ p 6) ∧ (gc_lt p Iₚ (Iₚ p 5) (Iₚ p 6 - 1))))) (89, [(0, .inr (.inr (some p))), (1, .inl v1_5)], [.inl s1_20, .inr (.inr (some p))], sh, gc_h sh I J A) := by
            intro s1_20 m_20 e4_20
            obtain ⟨hv1_5_20, hs1_20, e0_20, e1_20, e2_20, e3_20⟩ := gz_h6 m_20
            refine gv_put hD rfl rfl S_p ⟨by decide, (gz_sh B_p)⟩ rfl trivial ?_
            refine gc_st (k := 7) hI S_p rfl (gz_sh R_p) (lo := 0) (hi := 125) rfl rfl (by (/-1-/first | (have o1 := gz_sh hs1_20; omega) | (simp only [gz_hd] at *; omega))) (by (/-2-/first | (have o1 := gz_sh hs1_20; omega) | (simp only [gz_hd] at *; omega))) (fun I25 hI25 q26 p26 => ?_)
            have FI25 := gc_frs (W := fun q j => (q = p ∧ j = 6) ∨ (q = p ∧ j = 7)) FI (Or.inr ⟨rfl, rfl⟩) p26
            have t27 := gz_hi (p26 p 1 (fun h => absurd h.2 (by first | exact gz_ne rfl | decide)))
            have t28 := gz_hi (p26 p 5 (fun h => absurd h.2 (by first | exact gz_ne rfl | decide)))
            show gv_X _ _ (92, [(0, .inr (.inr (some p))), (1, .inl v1_5)], [], sh, gc_h sh I25 J A)
            refine gv_run 4 true hD (pcₚ := 96) (lvₚ := [(0, .inr (.inr (some p))), (1, .inl v1_5)]) (stₚ := [.inl (v1_5 + 1), .inr (.inr (some p))]) (hₚ := gc_h sh I25 J A) (C := ((((True ∧ True) ∧ True) ∧ True) ∧ True)) rfl ⟨⟨⟨⟨trivial, trivial⟩, trivial⟩, trivial⟩, trivial⟩ ?_
            refine gv_put hD rfl rfl S_p ⟨by decide, (gz_sh B_p)⟩ rfl trivial ?_
            refine gc_st (k := 6) hI25 S_p rfl (gz_sh R_p) (lo := 0) (hi := 1001) rfl rfl (by (/-3-/first | (have o1 := gz_sh hv1_5; omega) | (simp only [gz_hd] at *; omega))) (by (/-4-/first | (have o1 := gz_sh hv1_5; omega) | (simp only [gz_hd] at *; omega))) (fun I31 hI31 q32 p32 => ?_)
            have FI31 := gc_frs (W := fun q j => (q = p ∧ j = 6) ∨ (q = p ∧ j = 7)) FI25 (Or.inl ⟨rfl, rfl⟩) p32
            have t33 := gz_hi (p32 p 1 (fun h => absurd h.2 (by first | exact gz_ne rfl | decide)))
            have t34 := gz_hi (p32 p 5 (fun h => absurd h.2 (by first | exact gz_ne rfl | decide)))
            have t35 := gz_hi (p32 p 7 (fun h => absurd h.2 (by first | exact gz_ne rfl | decide)))
            show gv_X _ _ (99, [(0, .inr (.inr (some p))), (1, .inl v1_5)], [], sh, gc_h sh I31 J A)
            exact gv_vret hD rfl ⟨I31, J, rfl, hI31, FI31, FJ, ⟨rfl, by (/-5-/first | (have o1 := gz_sh e0_5; have o2 := gz_sh e1_5; have o3 := gz_sh e2_5; have o4 := gz_sh e3_20; have o5 := gz_sh hs1_20; have o6 := gz_sh t27; have o7 := gz_sh t28; have o8 := gz_sh t33; have o9 := gz_sh t34; have o10 := gz_sh t35; omega) | (simp only [gz_hd] at *; omega)), by (/-6-/first | (have o1 := gz_sh e0_5; omega) | (simp only [gz_hd] at *; omega)), gc_lt_fr e4_20 (fun k => by rw [p32 (p + 1) k (fun h => absurd h.1 (by (/-7-/first | omega | (simp only [gz_hd] at *; omega)))), p26 (p + 1) k (fun h => absurd h.1 (by (/-8-/first | omega | (simp only [gz_hd] at *; omega))))]) (by (/-9-/first | (have o1 := gz_sh t28; have o2 := gz_sh t34; omega) | (simp only [gz_hd] at *; omega))) (by (/-10-/first | omega | (simp only [gz_hd] at *; omega)))⟩⟩
          refine gv_run 3 true hD (pcₚ := 81) (lvₚ := [(2, .inl s0_15), (0, .inr (.inr (some p))), (1, .inl v1_5)]) (stₚ := [.inl s0_15, .inr (.inr (some p))]) (hₚ := gc_h sh I J A) (C := (((True ∧ True) ∧ True) ∧ True)) rfl ⟨⟨⟨trivial, trivial⟩, trivial⟩, trivial⟩ ?_
          refine gv_if_eq (t := 88) hD rfl rfl ⟨by (/-11-/first | (have o1 := gz_sh hs0_15; omega) | (simp only [gz_hd] at *; omega)), by (/-12-/first | (have o1 := gz_sh hs0_15; omega) | (simp only [gz_hd] at *; omega))⟩ (fun c37 => ?_) (fun c37 => ?_)
          · show gv_X _ _ (88, [(2, .inl s0_15), (0, .inr (.inr (some p))), (1, .inl v1_5)], [.inr (.inr (some p))], sh, gc_h sh I J A)
            refine gv_run 1 true hD (pcₚ := 89) (lvₚ := [(2, .inl s0_15), (0, .inr (.inr (some p))), (1, .inl v1_5)]) (stₚ := [.inl 5, .inr (.inr (some p))]) (hₚ := gc_h sh I J A) (C := (True ∧ True)) rfl ⟨trivial, trivial⟩ ?_
            refine gv_pick [1, 2] rfl ?_
            exact L89 5 (by (/-13-/first | (and_intros; (have o1 := gz_sh hv1_5; omega); (have o1 := gz_sh hv1_5; omega); (omega); (omega); (have o1 := gz_sh e0_5; omega); (have o1 := gz_sh e1_5; omega); (have o1 := gz_sh e2_5; omega); (omega)) | (simp only [gz_hd] at *; omega))) e4_15
          · show gv_X _ _ (84, [(2, .inl s0_15), (0, .inr (.inr (some p))), (1, .inl v1_5)], [.inr (.inr (some p))], sh, gc_h sh I J A)
            refine gv_run 2 true hD (pcₚ := 89) (lvₚ := [(2, .inl s0_15), (0, .inr (.inr (some p))), (1, .inl v1_5)]) (stₚ := [.inl 3, .inr (.inr (some p))]) (hₚ := gc_h sh I J A) (C := ((True ∧ True) ∧ True)) rfl ⟨⟨trivial, trivial⟩, trivial⟩ ?_
            refine gv_pick [1, 2] rfl ?_
            exact L89 3 (by (/-14-/first | (and_intros; (have o1 := gz_sh hv1_5; omega); (have o1 := gz_sh hv1_5; omega); (omega); (omega); (have o1 := gz_sh e0_5; omega); (have o1 := gz_sh e1_5; omega); (have o1 := gz_sh e2_5; omega); (have o1 := gz_sh e0_5; have o2 := gz_sh e1_5; have o3 := gz_sh e2_5; have o4 := gz_sh e3_15; have o5 := gz_sh hs0_15; have o6 := gz_sh hv1_5; omega)) | (simp only [gz_hd] at *; omega))) e4_15
        have L77 : ((1 ≤ v1_5 ∧ v1_5 ≤ 1000) ∧ (I p 5 < v1_5) ∧ (v1_5 ≤ I p 1) ∧ (v1_5 - I p 5 ≤ 13)) → (gc_lt p I (I p 5) v1_5) → gv_X (gc_E9 ws0 tb 0 (yX9_takeLetters, cX9_takeLetters, 3, none) kX9_takeLetters) (gv_Q cX9_takeLetters none sh (fun r hₚ => (∃ (Iₚ : gr_I) (Jₚ : gr_J), hₚ = gc_h sh Iₚ Jₚ A ∧ gc_Inv ro Iₚ ∧ (∀ q j : Nat, ((q = p ∧ j = 6) ∨ (q = p ∧ j = 7)) ∨ Iₚ q j = I q j) ∧ (∀ q j : Nat, (False) ∨ Jₚ q j = J q j) ∧ r = none ∧ ((Iₚ p 7 = 3 ∧ Iₚ p 6 ≤ I p 1 ∧ 2 ≤ Iₚ p 6 - I p 5 ∧ Iₚ p 6 - I p 5 ≤ 14) ∨ Iₚ p 7 = 5) ∧ (I p 5 < Iₚ p 6) ∧ (gc_lt p Iₚ (Iₚ p 5) (Iₚ p 6 - 1))))) (77, [(0, .inr (.inr (some p))), (1, .inl v1_5)], [], sh, gc_h sh I J A) := by
          intro m_38 e3_38
          obtain ⟨hv1_5_38, e0_38, e1_38, e2_38⟩ := gz_h4 m_38
          refine gv_run 1 true hD (pcₚ := 78) (lvₚ := [(0, .inr (.inr (some p))), (1, .inl v1_5)]) (stₚ := [.inl 0]) (hₚ := gc_h sh I J A) (C := (True ∧ True)) rfl ⟨trivial, trivial⟩ ?_
          exact L78 0 (by (/-15-/first | (and_intros; (have o1 := gz_sh hv1_5; omega); (have o1 := gz_sh hv1_5; omega); (omega); (omega); (have o1 := gz_sh e0_5; omega); (have o1 := gz_sh e1_5; omega); (have o1 := gz_sh e2_5; omega); (omega)) | (simp only [gz_hd] at *; omega))) e3_38
        refine gv_run 2 true hD (pcₚ := 56) (lvₚ := [(0, .inr (.inr (some p))), (1, .inl v1_5)]) (stₚ := [.inr (.inr (some p)), .inl v1_5]) (hₚ := gc_h sh I J A) (C := ((True ∧ True) ∧ True)) rfl ⟨⟨trivial, trivial⟩, trivial⟩ ?_
        refine gv_get hD rfl rfl S_p ⟨by decide, (gz_sh B_p)⟩ (gc_hI S_p rfl) ?_
        show gv_X _ _ (59, [(0, .inr (.inr (some p))), (1, .inl v1_5)], [.inl (I p 1), .inl v1_5], sh, gc_h sh I J A)
        refine gv_icmp_ge (t := 77) hD rfl rfl ⟨⟨by (/-16-/first | (have o1 := gz_sh hv1_5; omega) | (simp only [gz_hd] at *; omega)), by (/-17-/first | (have o1 := gz_sh hv1_5; omega) | (simp only [gz_hd] at *; omega))⟩, ⟨by (/-18-/first | (have o1 := gz_sh f1; omega) | (simp only [gz_hd] at *; omega)), by (/-19-/first | (have o1 := gz_sh f1; omega) | (simp only [gz_hd] at *; omega))⟩⟩ (fun c44 => ?_) (fun c44 => ?_)
        · show gv_X _ _ (77, [(0, .inr (.inr (some p))), (1, .inl v1_5)], [], sh, gc_h sh I J A)
          exact L77 (by (/-20-/first | (and_intros; (have o1 := gz_sh hv1_5; omega); (have o1 := gz_sh hv1_5; omega); (have o1 := gz_sh e0_5; omega); (have o1 := gz_sh e1_5; omega); (have o1 := gz_sh e2_5; omega)) | (simp only [gz_hd] at *; omega))) e3_10
        · show gv_X _ _ (62, [(0, .inr (.inr (some p))), (1, .inl v1_5)], [], sh, gc_h sh I J A)
          refine gv_run 1 true hD (pcₚ := 63) (lvₚ := [(0, .inr (.inr (some p))), (1, .inl v1_5)]) (stₚ := [.inr (.inr (some p))]) (hₚ := gc_h sh I J A) (C := (True ∧ True)) rfl ⟨trivial, trivial⟩ ?_
          refine gv_get hD rfl rfl S_p ⟨by decide, (gz_sh B_p)⟩ (gc_hA S_p rfl A_p_0) ?_
          show gv_X _ _ (66, [(0, .inr (.inr (some p))), (1, .inl v1_5)], [.inr (.inr (some (p + 1)))], sh, gc_h sh I J A)
          refine gv_run 1 true hD (pcₚ := 67) (lvₚ := [(0, .inr (.inr (some p))), (1, .inl v1_5)]) (stₚ := [.inl v1_5, .inr (.inr (some (p + 1)))]) (hₚ := gc_h sh I J A) (C := (True ∧ True)) rfl ⟨trivial, trivial⟩ ?_
          have f45 := gz_hi ((show (-128) ≤ I (p + 1) (Int.toNat v1_5) ∧ I (p + 1) (Int.toNat v1_5) ≤ 127 from gc_in2 hI (gz_sh R_p_1) rfl rfl rfl))
          refine gv_bald hD rfl S_p_1 (Or.inl rfl) ⟨by decide, (gz_sh B_p_1)⟩ ⟨by (/-21-/first | (have o1 := gz_sh hv1_5; omega) | (simp only [gz_hd] at *; omega)), by (/-22-/first | (have o1 := gz_sh f1; omega) | (simp only [gz_hd] at *; omega))⟩ (gc_iI S_p_1 rfl) ?_
          show gv_X _ _ (68, [(0, .inr (.inr (some p))), (1, .inl v1_5)], [.inl (I (p + 1) (Int.toNat v1_5))], sh, gc_h sh I J A)
          refine gv_run 1 true hD (pcₚ := 70) (lvₚ := [(0, .inr (.inr (some p))), (1, .inl v1_5)]) (stₚ := [.inl 39, .inl (I (p + 1) (Int.toNat v1_5))]) (hₚ := gc_h sh I J A) (C := (True ∧ True)) rfl ⟨trivial, trivial⟩ ?_
          refine gv_icmp_ne (t := 77) hD rfl rfl ⟨⟨by (/-23-/first | (have o1 := gz_sh f45; omega) | (simp only [gz_hd] at *; omega)), by (/-24-/first | (have o1 := gz_sh f45; omega) | (simp only [gz_hd] at *; omega))⟩, ⟨by (/-25-/first | omega | (simp only [gz_hd] at *; omega)), by (/-26-/first | omega | (simp only [gz_hd] at *; omega))⟩⟩ (fun c46 => ?_) (fun c46 => ?_)
          · show gv_X _ _ (77, [(0, .inr (.inr (some p))), (1, .inl v1_5)], [], sh, gc_h sh I J A)
            exact L77 (by (/-27-/first | (and_intros; (have o1 := gz_sh hv1_5; omega); (have o1 := gz_sh hv1_5; omega); (have o1 := gz_sh e0_5; omega); (omega); (have o1 := gz_sh e2_5; omega)) | (simp only [gz_hd] at *; omega))) e3_10
          · show gv_X _ _ (73, [(0, .inr (.inr (some p))), (1, .inl v1_5)], [], sh, gc_h sh I J A)
            refine gv_run 2 true hD (pcₚ := 78) (lvₚ := [(0, .inr (.inr (some p))), (1, .inl v1_5)]) (stₚ := [.inl 1]) (hₚ := gc_h sh I J A) (C := ((True ∧ True) ∧ True)) rfl ⟨⟨trivial, trivial⟩, trivial⟩ ?_
            exact L78 1 (by (/-28-/first | (and_intros; (have o1 := gz_sh hv1_5; omega); (have o1 := gz_sh hv1_5; omega); (omega); (omega); (have o1 := gz_sh e0_5; omega); (omega); (have o1 := gz_sh e2_5; omega); (omega)) | (simp only [gz_hd] at *; omega))) e3_10
      refine gv_run 2 true hD (pcₚ := 9) (lvₚ := [(0, .inr (.inr (some p))), (1, .inl v1_5)]) (stₚ := [.inr (.inr (some p)), .inl v1_5]) (hₚ := gc_h sh I J A) (C := ((True ∧ True) ∧ True)) rfl ⟨⟨trivial, trivial⟩, trivial⟩ ?_
      refine gv_get hD rfl rfl S_p ⟨by decide, (gz_sh B_p)⟩ (gc_hI S_p rfl) ?_
      show gv_X _ _ (12, [(0, .inr (.inr (some p))), (1, .inl v1_5)], [.inl (I p 1), .inl v1_5], sh, gc_h sh I J A)
      refine gv_icmp_ge (t := 54) hD rfl rfl ⟨⟨by (/-29-/first | (have o1 := gz_sh hv1_5; omega) | (simp only [gz_hd] at *; omega)), by (/-30-/first | (have o1 := gz_sh hv1_5; omega) | (simp only [gz_hd] at *; omega))⟩, ⟨by (/-31-/first | (have o1 := gz_sh f1; omega) | (simp only [gz_hd] at *; omega)), by (/-32-/first | (have o1 := gz_sh f1; omega) | (simp only [gz_hd] at *; omega))⟩⟩ (fun c48 => ?_) (fun c48 => ?_)
      · show gv_X _ _ (54, [(0, .inr (.inr (some p))), (1, .inl v1_5)], [], sh, gc_h sh I J A)
        exact L54 (by (/-33-/first | (and_intros; (have o1 := gz_sh hv1_5; omega); (have o1 := gz_sh hv1_5; omega); (have o1 := gz_sh e0_5; omega); (have o1 := gz_sh e1_5; omega); (have o1 := gz_sh e2_5; omega)) | (simp only [gz_hd] at *; omega))) e3_5
      · show gv_X _ _ (15, [(0, .inr (.inr (some p))), (1, .inl v1_5)], [], sh, gc_h sh I J A)
        refine gv_run 2 true hD (pcₚ := 17) (lvₚ := [(0, .inr (.inr (some p))), (1, .inl v1_5)]) (stₚ := [.inr (.inr (some p)), .inl v1_5]) (hₚ := gc_h sh I J A) (C := ((True ∧ True) ∧ True)) rfl ⟨⟨trivial, trivial⟩, trivial⟩ ?_
        refine gv_get hD rfl rfl S_p ⟨by decide, (gz_sh B_p)⟩ (gc_hI S_p rfl) ?_
        show gv_X _ _ (20, [(0, .inr (.inr (some p))), (1, .inl v1_5)], [.inl (I p 5), .inl v1_5], sh, gc_h sh I J A)
        refine gv_run 2 true hD (pcₚ := 23) (lvₚ := [(0, .inr (.inr (some p))), (1, .inl v1_5)]) (stₚ := [.inl ((I p 5) + 13), .inl v1_5]) (hₚ := gc_h sh I J A) (C := ((True ∧ True) ∧ True)) rfl ⟨⟨trivial, trivial⟩, trivial⟩ ?_
        refine gv_icmp_ge (t := 54) hD rfl rfl ⟨⟨by (/-34-/first | (have o1 := gz_sh hv1_5; omega) | (simp only [gz_hd] at *; omega)), by (/-35-/first | (have o1 := gz_sh hv1_5; omega) | (simp only [gz_hd] at *; omega))⟩, ⟨by (/-36-/first | (have o1 := gz_sh f2; omega) | (simp only [gz_hd] at *; omega)), by (/-37-/first | (have o1 := gz_sh f2; omega) | (simp only [gz_hd] at *; omega))⟩⟩ (fun c50 => ?_) (fun c50 => ?_)
        · show gv_X _ _ (54, [(0, .inr (.inr (some p))), (1, .inl v1_5)], [], sh, gc_h sh I J A)
          exact L54 (by (/-38-/first | (and_intros; (have o1 := gz_sh hv1_5; omega); (have o1 := gz_sh hv1_5; omega); (omega); (omega); (have o1 := gz_sh e2_5; omega)) | (simp only [gz_hd] at *; omega))) e3_5
        · show gv_X _ _ (26, [(0, .inr (.inr (some p))), (1, .inl v1_5)], [], sh, gc_h sh I J A)
          refine gv_run 1 true hD (pcₚ := 27) (lvₚ := [(0, .inr (.inr (some p))), (1, .inl v1_5)]) (stₚ := [.inr (.inr (some p))]) (hₚ := gc_h sh I J A) (C := (True ∧ True)) rfl ⟨trivial, trivial⟩ ?_
          refine gv_get hD rfl rfl S_p ⟨by decide, (gz_sh B_p)⟩ (gc_hA S_p rfl A_p_0) ?_
          show gv_X _ _ (30, [(0, .inr (.inr (some p))), (1, .inl v1_5)], [.inr (.inr (some (p + 1)))], sh, gc_h sh I J A)
          refine gv_run 1 true hD (pcₚ := 31) (lvₚ := [(0, .inr (.inr (some p))), (1, .inl v1_5)]) (stₚ := [.inl v1_5, .inr (.inr (some (p + 1)))]) (hₚ := gc_h sh I J A) (C := (True ∧ True)) rfl ⟨trivial, trivial⟩ ?_
          have f51 := gz_hi ((show (-128) ≤ I (p + 1) (Int.toNat v1_5) ∧ I (p + 1) (Int.toNat v1_5) ≤ 127 from gc_in2 hI (gz_sh R_p_1) rfl rfl rfl))
          refine gv_bald hD rfl S_p_1 (Or.inl rfl) ⟨by decide, (gz_sh B_p_1)⟩ ⟨by (/-39-/first | (have o1 := gz_sh hv1_5; omega) | (simp only [gz_hd] at *; omega)), by (/-40-/first | (have o1 := gz_sh f1; omega) | (simp only [gz_hd] at *; omega))⟩ (gc_iI S_p_1 rfl) ?_
          show gv_X _ _ (32, [(0, .inr (.inr (some p))), (1, .inl v1_5)], [.inl (I (p + 1) (Int.toNat v1_5))], sh, gc_h sh I J A)
          refine gv_run 1 true hD (pcₚ := 34) (lvₚ := [(0, .inr (.inr (some p))), (1, .inl v1_5)]) (stₚ := [.inl 97, .inl (I (p + 1) (Int.toNat v1_5))]) (hₚ := gc_h sh I J A) (C := (True ∧ True)) rfl ⟨trivial, trivial⟩ ?_
          refine gv_icmp_lt (t := 54) hD rfl rfl ⟨⟨by (/-41-/first | (have o1 := gz_sh f51; omega) | (simp only [gz_hd] at *; omega)), by (/-42-/first | (have o1 := gz_sh f51; omega) | (simp only [gz_hd] at *; omega))⟩, ⟨by (/-43-/first | omega | (simp only [gz_hd] at *; omega)), by (/-44-/first | omega | (simp only [gz_hd] at *; omega))⟩⟩ (fun c52 => ?_) (fun c52 => ?_)
          · show gv_X _ _ (54, [(0, .inr (.inr (some p))), (1, .inl v1_5)], [], sh, gc_h sh I J A)
            exact L54 (by (/-45-/first | (and_intros; (have o1 := gz_sh hv1_5; omega); (have o1 := gz_sh hv1_5; omega); (have o1 := gz_sh e0_5; omega); (omega); (omega)) | (simp only [gz_hd] at *; omega))) e3_5
          · show gv_X _ _ (37, [(0, .inr (.inr (some p))), (1, .inl v1_5)], [], sh, gc_h sh I J A)
            refine gv_run 1 true hD (pcₚ := 38) (lvₚ := [(0, .inr (.inr (some p))), (1, .inl v1_5)]) (stₚ := [.inr (.inr (some p))]) (hₚ := gc_h sh I J A) (C := (True ∧ True)) rfl ⟨trivial, trivial⟩ ?_
            refine gv_get hD rfl rfl S_p ⟨by decide, (gz_sh B_p)⟩ (gc_hA S_p rfl A_p_0) ?_
            show gv_X _ _ (41, [(0, .inr (.inr (some p))), (1, .inl v1_5)], [.inr (.inr (some (p + 1)))], sh, gc_h sh I J A)
            refine gv_run 1 true hD (pcₚ := 42) (lvₚ := [(0, .inr (.inr (some p))), (1, .inl v1_5)]) (stₚ := [.inl v1_5, .inr (.inr (some (p + 1)))]) (hₚ := gc_h sh I J A) (C := (True ∧ True)) rfl ⟨trivial, trivial⟩ ?_
            refine gv_bald hD rfl S_p_1 (Or.inl rfl) ⟨by decide, (gz_sh B_p_1)⟩ ⟨by (/-46-/first | (have o1 := gz_sh hv1_5; omega) | (simp only [gz_hd] at *; omega)), by (/-47-/first | (have o1 := gz_sh f1; omega) | (simp only [gz_hd] at *; omega))⟩ (gc_iI S_p_1 rfl) ?_
            show gv_X _ _ (43, [(0, .inr (.inr (some p))), (1, .inl v1_5)], [.inl (I (p + 1) (Int.toNat v1_5))], sh, gc_h sh I J A)
            refine gv_run 1 true hD (pcₚ := 45) (lvₚ := [(0, .inr (.inr (some p))), (1, .inl v1_5)]) (stₚ := [.inl 122, .inl (I (p + 1) (Int.toNat v1_5))]) (hₚ := gc_h sh I J A) (C := (True ∧ True)) rfl ⟨trivial, trivial⟩ ?_
            refine gv_icmp_gt (t := 54) hD rfl rfl ⟨⟨by (/-48-/first | omega | (simp only [gz_hd] at *; omega)), by (/-49-/first | (have o1 := gz_sh f51; omega) | (simp only [gz_hd] at *; omega))⟩, ⟨by (/-50-/first | omega | (simp only [gz_hd] at *; omega)), by (/-51-/first | omega | (simp only [gz_hd] at *; omega))⟩⟩ (fun c54 => ?_) (fun c54 => ?_)
            · show gv_X _ _ (54, [(0, .inr (.inr (some p))), (1, .inl v1_5)], [], sh, gc_h sh I J A)
              exact L54 (by (/-52-/first | (and_intros; (have o1 := gz_sh hv1_5; omega); (have o1 := gz_sh hv1_5; omega); (have o1 := gz_sh e0_5; omega); (omega); (omega)) | (simp only [gz_hd] at *; omega))) e3_5
            · show gv_X _ _ (48, [(0, .inr (.inr (some p))), (1, .inl v1_5)], [], sh, gc_h sh I J A)
              refine gv_run 2 true hD (pcₚ := 7) (lvₚ := [(1, .inl (v1_5 + 1)), (0, .inr (.inr (some p)))]) (stₚ := []) (hₚ := gc_h sh I J A) (C := ((True ∧ True) ∧ True)) rfl ⟨⟨trivial, trivial⟩, trivial⟩ ?_
              refine gv_pick [1, 0] rfl ?_
              exact ih7 (v1_5 + 1) (by (/-53-/first | (have o1 := gz_sh e0_5; have o2 := gz_sh e2_5; have o3 := gz_sh f1; have o4 := gz_sh hv1_5; omega) | (simp only [gz_hd] at *; omega))) (by (/-54-/first | (and_intros; (have o1 := gz_sh hv1_5; omega); (have o1 := gz_sh f1; omega); (have o1 := gz_sh e0_5; omega); (omega); (omega)) | (simp only [gz_hd] at *; omega))) (gc_lt_nx e3_5 (by (/-55-/first | (and_intros <;> omega) | (simp only [gz_hd] at *; omega))))
  refine gv_run 1 true hD (pcₚ := 1) (lvₚ := [(0, .inr (.inr (some p)))]) (stₚ := [.inr (.inr (some p))]) (hₚ := gc_h sh I J A) (C := (True ∧ True)) rfl ⟨trivial, trivial⟩ ?_
  refine gv_get hD rfl rfl S_p ⟨by decide, (gz_sh B_p)⟩ (gc_hI S_p rfl) ?_
  show gv_X _ _ (4, [(0, .inr (.inr (some p)))], [.inl (I p 5)], sh, gc_h sh I J A)
  refine gv_run 3 true hD (pcₚ := 7) (lvₚ := [(1, .inl ((I p 5) + 1)), (0, .inr (.inr (some p)))]) (stₚ := []) (hₚ := gc_h sh I J A) (C := (((True ∧ True) ∧ True) ∧ True)) rfl ⟨⟨⟨trivial, trivial⟩, trivial⟩, trivial⟩ ?_
  refine gv_pick [1, 0] rfl ?_
  exact L7 _ (((I p 5) + 1)) (Nat.lt_succ_self _) (by (/-56-/first | (and_intros; (have o1 := gz_sh f2; omega); (have o1 := gz_sh f1; omega); (omega); (omega); (omega)) | (simp only [gz_hd] at *; omega))) (fun k a b => by (/-57-/first | (and_intros <;> omega) | (simp only [gz_hd] at *; omega)))
set_option maxHeartbeats 8000000 in
set_option maxRecDepth 100000 in
theorem d_X9_advance {ws0 : List Cond} {tb : String → gz_T} (hws : gc_Ws ws0) (htb : gc_tbs tb) (sh : gz_Sh) (ro : Nat → Nat) (I : gr_I) (J : gr_J) (A : gc_A) (hI : gc_Inv ro I) (p : Nat)  (hp : gc_isText sh ro A p)  (x0 : I p 6 ≤ I p 1) : ∃ r hₚ, gz_Ev ws0 tb 2 (yX9_advance, cX9_advance, 3, none) [.inr (.inr (some p))] sh (gc_h sh I J A) r sh hₚ 0 0 ∧ (∃ (Iₚ : gr_I) (Jₚ : gr_J), hₚ = gc_h sh Iₚ Jₚ A ∧ gc_Inv ro Iₚ ∧ (∀ q j : Nat, ((q = p ∧ j = 5) ∨ (q = p ∧ j = 6) ∨ (q = p ∧ j = 7) ∨ (q = p ∧ j = 8)) ∨ Iₚ q j = I q j) ∧ (∀ q j : Nat, ((q = p ∧ j = 9)) ∨ Jₚ q j = J q j) ∧ r = none ∧ (Iₚ p 5 ≤ Iₚ p 6) ∧ (Iₚ p 7 = 5 ∨ Iₚ p 6 ≤ Iₚ p 1) ∧ (Iₚ p 5 ≤ Iₚ p 1) ∧ (Iₚ p 7 = 4 ∨ (Iₚ p 5 < Iₚ p 6 ∧ Iₚ p 5 < Iₚ p 1)) ∧ (Iₚ p 7 = 3 → 2 ≤ Iₚ p 6 - Iₚ p 5 ∧ Iₚ p 6 - Iₚ p 5 ≤ 14) ∧ (I p 6 ≤ Iₚ p 5) ∧ (Iₚ p 1 = I p 1) ∧ (Iₚ p 7 = 3 → gc_lt p Iₚ (Iₚ p 5) (Iₚ p 6 - 1))) := by
  have FI : ∀ q j : Nat, ((q = p ∧ j = 5) ∨ (q = p ∧ j = 6) ∨ (q = p ∧ j = 7) ∨ (q = p ∧ j = 8)) ∨ I q j = I q j := fun _ _ => Or.inr rfl
  have FJ : ∀ q j : Nat, ((q = p ∧ j = 9)) ∨ J q j = J q j := fun _ _ => Or.inr rfl
  obtain ⟨S_p, R_p, B_p, A_p_0, S_p_1, R_p_1, B_p_1, A_p_2, S_p_2, R_p_2, B_p_2, A_p_3, S_p_3, R_p_3, B_p_3⟩ := id hp
  replace R_p := gz_hi R_p
  replace B_p := gz_hi B_p
  replace R_p_1 := gz_hi R_p_1
  replace B_p_1 := gz_hi B_p_1
  replace R_p_2 := gz_hi R_p_2
  replace B_p_2 := gz_hi B_p_2
  replace R_p_3 := gz_hi R_p_3
  replace B_p_3 := gz_hi B_p_3
  have hD : gv_D (gc_E9 ws0 tb 1 (yX9_advance, cX9_advance, 3, none) kX9_advance) := gq_of oX9_advance
  refine gc_ev9 (d := 1) (l := kX9_advance) (Po := fun r hₚ => (∃ (Iₚ : gr_I) (Jₚ : gr_J), hₚ = gc_h sh Iₚ Jₚ A ∧ gc_Inv ro Iₚ ∧ (∀ q j : Nat, ((q = p ∧ j = 5) ∨ (q = p ∧ j = 6) ∨ (q = p ∧ j = 7) ∨ (q = p ∧ j = 8)) ∨ Iₚ q j = I q j) ∧ (∀ q j : Nat, ((q = p ∧ j = 9)) ∨ Jₚ q j = J q j) ∧ r = none ∧ (Iₚ p 5 ≤ Iₚ p 6) ∧ (Iₚ p 7 = 5 ∨ Iₚ p 6 ≤ Iₚ p 1) ∧ (Iₚ p 5 ≤ Iₚ p 1) ∧ (Iₚ p 7 = 4 ∨ (Iₚ p 5 < Iₚ p 6 ∧ Iₚ p 5 < Iₚ p 1)) ∧ (Iₚ p 7 = 3 → 2 ≤ Iₚ p 6 - Iₚ p 5 ∧ Iₚ p 6 - Iₚ p 5 ≤ 14) ∧ (I p 6 ≤ Iₚ p 5) ∧ (Iₚ p 1 = I p 1) ∧ (Iₚ p 7 = 3 → gc_lt p Iₚ (Iₚ p 5) (Iₚ p 6 - 1)))) htb rfl (Nat.le_of_ble_eq_true rfl) ?_
  have f1 := gz_hi ((show 0 ≤ I p 1 ∧ I p 1 ≤ 1000 from gc_in2 hI (gz_sh R_p) rfl rfl rfl))
  have f3 := gz_hi ((show 0 ≤ I p 6 ∧ I p 6 ≤ 1001 from gc_in2 hI (gz_sh R_p) rfl rfl rfl))
  have L5 : ∀ (n9 : Nat) (v1_5 : Int), (1001 - v1_5).toNat < n9 → ((0 ≤ v1_5 ∧ v1_5 ≤ 1000) ∧ (v1_5 ≤ I p 1) ∧ (I p 6 ≤ v1_5)) → gv_X (gc_E9 ws0 tb 1 (yX9_advance, cX9_advance, 3, none) kX9_advance) (gv_Q cX9_advance none sh (fun r hₚ => (∃ (Iₚ : gr_I) (Jₚ : gr_J), hₚ = gc_h sh Iₚ Jₚ A ∧ gc_Inv ro Iₚ ∧ (∀ q j : Nat, ((q = p ∧ j = 5) ∨ (q = p ∧ j = 6) ∨ (q = p ∧ j = 7) ∨ (q = p ∧ j = 8)) ∨ Iₚ q j = I q j) ∧ (∀ q j : Nat, ((q = p ∧ j = 9)) ∨ Jₚ q j = J q j) ∧ r = none ∧ (Iₚ p 5 ≤ Iₚ p 6) ∧ (Iₚ p 7 = 5 ∨ Iₚ p 6 ≤ Iₚ p 1) ∧ (Iₚ p 5 ≤ Iₚ p 1) ∧ (Iₚ p 7 = 4 ∨ (Iₚ p 5 < Iₚ p 6 ∧ Iₚ p 5 < Iₚ p 1)) ∧ (Iₚ p 7 = 3 → 2 ≤ Iₚ p 6 - Iₚ p 5 ∧ Iₚ p 6 - Iₚ p 5 ≤ 14) ∧ (I p 6 ≤ Iₚ p 5) ∧ (Iₚ p 1 = I p 1) ∧ (Iₚ p 7 = 3 → gc_lt p Iₚ (Iₚ p 5) (Iₚ p 6 - 1))))) (5, [(0, .inr (.inr (some p))), (1, .inl v1_5)], [], sh, gc_h sh I J A) := by
    intro n9
    induction n9 with
    | zero => intro v1_5 hn; (/-0-/first | omega | (simp only [gz_hd] at *; omega))
    | succ n9 ih5 =>
      intro v1_5 hn m_5
      obtain ⟨hv1_5, e0_5, e1_5⟩ := gz_h3 m_5
      have L30 : ((0 ≤ v1_5 ∧ v1_5 ≤ 1000) ∧ (v1_5 ≤ I p 1) ∧ (I p 6 ≤ v1_5)) → gv_X (gc_E9 ws0 tb 1 (yX9_advance, cX9_advance, 3, none) kX9_advance) (gv_Q cX9_advance none sh (fun r hₚ => (∃ (Iₚ : gr_I) (Jₚ : gr_J), hₚ = gc_h sh Iₚ Jₚ A ∧ gc_Inv ro Iₚ ∧ (∀ q j : Nat, ((q = p ∧ j = 5) ∨ (q = p ∧ j = 6) ∨ (q = p ∧ j = 7) ∨ (q = p ∧ j = 8)) ∨ Iₚ q j = I q j) ∧ (∀ q j : Nat, ((q = p ∧ j = 9)) ∨ Jₚ q j = J q j) ∧ r = none ∧ (Iₚ p 5 ≤ Iₚ p 6) ∧ (Iₚ p 7 = 5 ∨ Iₚ p 6 ≤ Iₚ p 1) ∧ (Iₚ p 5 ≤ Iₚ p 1) ∧ (Iₚ p 7 = 4 ∨ (Iₚ p 5 < Iₚ p 6 ∧ Iₚ p 5 < Iₚ p 1)) ∧ (Iₚ p 7 = 3 → 2 ≤ Iₚ p 6 - Iₚ p 5 ∧ Iₚ p 6 - Iₚ p 5 ≤ 14) ∧ (I p 6 ≤ Iₚ p 5) ∧ (Iₚ p 1 = I p 1) ∧ (Iₚ p 7 = 3 → gc_lt p Iₚ (Iₚ p 5) (Iₚ p 6 - 1))))) (30, [(0, .inr (.inr (some p))), (1, .inl v1_5)], [], sh, gc_h sh I J A) := by
        intro m_10
        obtain ⟨hv1_5_10, e0_10, e1_10⟩ := gz_h3 m_10
        have L141 : ∀ (I15 : gr_I) (J16 : gr_J) , gc_Inv ro I15 → (∀ q j : Nat, ((q = p ∧ j = 5) ∨ (q = p ∧ j = 6) ∨ (q = p ∧ j = 7) ∨ (q = p ∧ j = 8)) ∨ I15 q j = I q j) → (∀ q j : Nat, ((q = p ∧ j = 9)) ∨ J16 q j = J q j) → ((I15 p 5 ≤ I15 p 6) ∧ (I15 p 7 = 5 ∨ I15 p 6 ≤ I15 p 1) ∧ (I15 p 5 ≤ I15 p 1) ∧ (I15 p 7 = 4 ∨ (I15 p 5 < I15 p 6 ∧ I15 p 5 < I15 p 1)) ∧ (I15 p 7 = 3 → 2 ≤ I15 p 6 - I15 p 5 ∧ I15 p 6 - I15 p 5 ≤ 14) ∧ (I p 6 ≤ I15 p 5) ∧ (I15 p 1 = I p 1)) → (I15 p 7 = 3 → gc_lt p I15 (I15 p 5) (I15 p 6 - 1)) → gv_X (gc_E9 ws0 tb 1 (yX9_advance, cX9_advance, 3, none) kX9_advance) (gv_Q cX9_advance none sh (fun r hₚ => (∃ (Iₚ : gr_I) (Jₚ : gr_J), hₚ = gc_h sh Iₚ Jₚ A ∧ gc_Inv ro Iₚ ∧ (∀ q j : Nat, ((q = p ∧ j = 5) ∨ (q = p ∧ j = 6) ∨ (q = p ∧ j = 7) ∨ (q = p ∧ j = 8)) ∨ Iₚ q j = I q j) ∧ (∀ q j : Nat, ((q = p ∧ j = 9)) ∨ Jₚ q j = J q j) ∧ r = none ∧ (Iₚ p 5 ≤ Iₚ p 6) ∧ (Iₚ p 7 = 5 ∨ Iₚ p 6 ≤ Iₚ p 1) ∧ (Iₚ p 5 ≤ Iₚ p 1) ∧ (Iₚ p 7 = 4 ∨ (Iₚ p 5 < Iₚ p 6 ∧ Iₚ p 5 < Iₚ p 1)) ∧ (Iₚ p 7 = 3 → 2 ≤ Iₚ p 6 - Iₚ p 5 ∧ Iₚ p 6 - Iₚ p 5 ≤ 14) ∧ (I p 6 ≤ Iₚ p 5) ∧ (Iₚ p 1 = I p 1) ∧ (Iₚ p 7 = 3 → gc_lt p Iₚ (Iₚ p 5) (Iₚ p 6 - 1))))) (141, [], [], sh, gc_h sh I15 J16 A) := by
          intro I15 J16 hI15 FI15 FJ16 m_17 e7_17
          clear hv1_5_10 e0_10 e1_10 hv1_5 e0_5 e1_5
          obtain ⟨e0_17, e1_17, e2_17, e3_17, e4_17, e5_17, e6_17⟩ := gz_h7 m_17
          exact gv_vret hD rfl ⟨I15, J16, rfl, hI15, FI15, FJ16, ⟨rfl, by (/-1-/first | (have o1 := gz_sh e0_17; omega) | (simp only [gz_hd] at *; omega)), by (/-2-/first | (have o1 := gz_sh e1_17; omega) | (simp only [gz_hd] at *; omega)), by (/-3-/first | (have o1 := gz_sh e2_17; omega) | (simp only [gz_hd] at *; omega)), by (/-4-/first | (have o1 := gz_sh e3_17; omega) | (simp only [gz_hd] at *; omega)), by (/-5-/first | (have o1 := gz_sh e4_17; omega) | (simp only [gz_hd] at *; omega)), by (/-6-/first | (have o1 := gz_sh e5_17; omega) | (simp only [gz_hd] at *; omega)), by (/-7-/first | (have o1 := gz_sh e6_17; omega) | (simp only [gz_hd] at *; omega)), e7_17⟩⟩
        have L105 : ∀ (I22 : gr_I) (J23 : gr_J) (v2_24 : Int), gc_Inv ro I22 → (∀ q j : Nat, ((q = p ∧ j = 5) ∨ (q = p ∧ j = 6) ∨ (q = p ∧ j = 7) ∨ (q = p ∧ j = 8)) ∨ I22 q j = I q j) → (∀ q j : Nat, ((q = p ∧ j = 9)) ∨ J23 q j = J q j) → ((0 ≤ v1_5 ∧ v1_5 ≤ 999) ∧ ((-128) ≤ v2_24 ∧ v2_24 ≤ 127) ∧ (I22 p 1 = I p 1) ∧ (v1_5 < I22 p 1) ∧ (I p 6 ≤ v1_5) ∧ (I22 p 5 = v1_5)) → gv_X (gc_E9 ws0 tb 1 (yX9_advance, cX9_advance, 3, none) kX9_advance) (gv_Q cX9_advance none sh (fun r hₚ => (∃ (Iₚ : gr_I) (Jₚ : gr_J), hₚ = gc_h sh Iₚ Jₚ A ∧ gc_Inv ro Iₚ ∧ (∀ q j : Nat, ((q = p ∧ j = 5) ∨ (q = p ∧ j = 6) ∨ (q = p ∧ j = 7) ∨ (q = p ∧ j = 8)) ∨ Iₚ q j = I q j) ∧ (∀ q j : Nat, ((q = p ∧ j = 9)) ∨ Jₚ q j = J q j) ∧ r = none ∧ (Iₚ p 5 ≤ Iₚ p 6) ∧ (Iₚ p 7 = 5 ∨ Iₚ p 6 ≤ Iₚ p 1) ∧ (Iₚ p 5 ≤ Iₚ p 1) ∧ (Iₚ p 7 = 4 ∨ (Iₚ p 5 < Iₚ p 6 ∧ Iₚ p 5 < Iₚ p 1)) ∧ (Iₚ p 7 = 3 → 2 ≤ Iₚ p 6 - Iₚ p 5 ∧ Iₚ p 6 - Iₚ p 5 ≤ 14) ∧ (I p 6 ≤ Iₚ p 5) ∧ (Iₚ p 1 = I p 1) ∧ (Iₚ p 7 = 3 → gc_lt p Iₚ (Iₚ p 5) (Iₚ p 6 - 1))))) (105, [(0, .inr (.inr (some p))), (1, .inl v1_5), (2, .inl v2_24)], [], sh, gc_h sh I22 J23 A) := by
          intro I22 J23 v2_24 hI22 FI22 FJ23 m_24
          clear hv1_5_10 e0_10 e1_10 hv1_5 e0_5 e1_5
          obtain ⟨hv1_5_24, hv2_24, e0_24, e1_24, e2_24, e3_24⟩ := gz_h6 m_24
          have L131 : ∀ (s1_29 : Int), ((0 ≤ v1_5 ∧ v1_5 ≤ 999) ∧ ((-128) ≤ s1_29 ∧ s1_29 ≤ 127) ∧ (I22 p 1 = I p 1) ∧ (v1_5 < I22 p 1) ∧ (I p 6 ≤ v1_5) ∧ (I22 p 5 = v1_5) ∧ (s1_29 = 5 ∨ (35 ≤ s1_29 ∧ s1_29 ≤ 125))) → gv_X (gc_E9 ws0 tb 1 (yX9_advance, cX9_advance, 3, none) kX9_advance) (gv_Q cX9_advance none sh (fun r hₚ => (∃ (Iₚ : gr_I) (Jₚ : gr_J), hₚ = gc_h sh Iₚ Jₚ A ∧ gc_Inv ro Iₚ ∧ (∀ q j : Nat, ((q = p ∧ j = 5) ∨ (q = p ∧ j = 6) ∨ (q = p ∧ j = 7) ∨ (q = p ∧ j = 8)) ∨ Iₚ q j = I q j) ∧ (∀ q j : Nat, ((q = p ∧ j = 9)) ∨ Jₚ q j = J q j) ∧ r = none ∧ (Iₚ p 5 ≤ Iₚ p 6) ∧ (Iₚ p 7 = 5 ∨ Iₚ p 6 ≤ Iₚ p 1) ∧ (Iₚ p 5 ≤ Iₚ p 1) ∧ (Iₚ p 7 = 4 ∨ (Iₚ p 5 < Iₚ p 6 ∧ Iₚ p 5 < Iₚ p 1)) ∧ (Iₚ p 7 = 3 → 2 ≤ Iₚ p 6 - Iₚ p 5 ∧ Iₚ p 6 - Iₚ p 5 ≤ 14) ∧ (I p 6 ≤ Iₚ p 5) ∧ (Iₚ p 1 = I p 1) ∧ (Iₚ p 7 = 3 → gc_lt p Iₚ (Iₚ p 5) (Iₚ p 6 - 1))))) (131, [(0, .inr (.inr (some p))), (1, .inl v1_5)], [.inl s1_29, .inr (.inr (some p))], sh, gc_h sh I22 J23 A) := by
            intro s1_29 m_29
            obtain ⟨hv1_5_29, hs1_29, e0_29, e1_29, e2_29, e3_29, e4_29⟩ := gz_h7 m_29
            refine gv_put hD rfl rfl S_p ⟨by decide, (gz_sh B_p)⟩ rfl trivial ?_
            refine gc_st (k := 7) hI22 S_p rfl (gz_sh R_p) (lo := 0) (hi := 125) rfl rfl (by (/-8-/first | (have o1 := gz_sh e4_29; omega) | (simp only [gz_hd] at *; omega))) (by (/-9-/first | (have o1 := gz_sh e4_29; omega) | (simp only [gz_hd] at *; omega))) (fun I34 hI34 q35 p35 => ?_)
            have FI34 := gc_frs (W := fun q j => (q = p ∧ j = 5) ∨ (q = p ∧ j = 6) ∨ (q = p ∧ j = 7) ∨ (q = p ∧ j = 8)) FI22 (Or.inr (Or.inr (Or.inl ⟨rfl, rfl⟩))) p35
            have t36 := gz_hi (p35 p 1 (fun h => absurd h.2 (by first | exact gz_ne rfl | decide)))
            have t37 := gz_hi (p35 p 5 (fun h => absurd h.2 (by first | exact gz_ne rfl | decide)))
            show gv_X _ _ (134, [(0, .inr (.inr (some p))), (1, .inl v1_5)], [], sh, gc_h sh I34 J23 A)
            refine gv_run 4 true hD (pcₚ := 138) (lvₚ := [(0, .inr (.inr (some p))), (1, .inl v1_5)]) (stₚ := [.inl (v1_5 + 1), .inr (.inr (some p))]) (hₚ := gc_h sh I34 J23 A) (C := ((((True ∧ True) ∧ True) ∧ True) ∧ True)) rfl ⟨⟨⟨⟨trivial, trivial⟩, trivial⟩, trivial⟩, trivial⟩ ?_
            refine gv_put hD rfl rfl S_p ⟨by decide, (gz_sh B_p)⟩ rfl trivial ?_
            refine gc_st (k := 6) hI34 S_p rfl (gz_sh R_p) (lo := 0) (hi := 1001) rfl rfl (by (/-10-/first | (have o1 := gz_sh hv1_5_24; omega) | (simp only [gz_hd] at *; omega))) (by (/-11-/first | (have o1 := gz_sh hv1_5_24; omega) | (simp only [gz_hd] at *; omega))) (fun I40 hI40 q41 p41 => ?_)
            have FI40 := gc_frs (W := fun q j => (q = p ∧ j = 5) ∨ (q = p ∧ j = 6) ∨ (q = p ∧ j = 7) ∨ (q = p ∧ j = 8)) FI34 (Or.inr (Or.inl ⟨rfl, rfl⟩)) p41
            have t42 := gz_hi (p41 p 1 (fun h => absurd h.2 (by first | exact gz_ne rfl | decide)))
            have t43 := gz_hi (p41 p 5 (fun h => absurd h.2 (by first | exact gz_ne rfl | decide)))
            have t44 := gz_hi (p41 p 7 (fun h => absurd h.2 (by first | exact gz_ne rfl | decide)))
            show gv_X _ _ (141, [(0, .inr (.inr (some p))), (1, .inl v1_5)], [], sh, gc_h sh I40 J23 A)
            refine gv_pick [] rfl ?_
            exact L141 I40 J23 hI40 FI40 FJ23 (by (/-12-/first | (and_intros; (have o1 := gz_sh e3_24; have o2 := gz_sh t37; have o3 := gz_sh t43; omega); (have o1 := gz_sh e1_24; have o2 := gz_sh t36; have o3 := gz_sh t42; omega); (have o1 := gz_sh e1_24; have o2 := gz_sh e3_24; have o3 := gz_sh t36; have o4 := gz_sh t37; have o5 := gz_sh t42; have o6 := gz_sh t43; omega); (have o1 := gz_sh e1_24; have o2 := gz_sh e3_24; have o3 := gz_sh t36; have o4 := gz_sh t37; have o5 := gz_sh t42; have o6 := gz_sh t43; omega); (have o1 := gz_sh e4_29; have o2 := gz_sh t44; omega); (have o1 := gz_sh e2_24; have o2 := gz_sh e3_24; have o3 := gz_sh t37; have o4 := gz_sh t43; omega); (have o1 := gz_sh e0_24; have o2 := gz_sh t36; have o3 := gz_sh t42; omega)) | (simp only [gz_hd] at *; omega))) (fun h => by (/-13-/first | (have o1 := gz_sh e4_29; have o2 := gz_sh t44; omega) | (simp only [gz_hd] at *; omega)))
          refine gv_run 2 true hD (pcₚ := 108) (lvₚ := [(0, .inr (.inr (some p))), (1, .inl v1_5), (2, .inl v2_24)]) (stₚ := [.inl 39, .inl v2_24]) (hₚ := gc_h sh I22 J23 A) (C := ((True ∧ True) ∧ True)) rfl ⟨⟨trivial, trivial⟩, trivial⟩ ?_
          refine gv_icmp_ne (t := 118) hD rfl rfl ⟨⟨by (/-14-/first | (have o1 := gz_sh hv2_24; omega) | (simp only [gz_hd] at *; omega)), by (/-15-/first | (have o1 := gz_sh hv2_24; omega) | (simp only [gz_hd] at *; omega))⟩, ⟨by (/-16-/first | omega | (simp only [gz_hd] at *; omega)), by (/-17-/first | omega | (simp only [gz_hd] at *; omega))⟩⟩ (fun c46 => ?_) (fun c46 => ?_)
          · show gv_X _ _ (118, [(0, .inr (.inr (some p))), (1, .inl v1_5), (2, .inl v2_24)], [], sh, gc_h sh I22 J23 A)
            refine gv_run 2 true hD (pcₚ := 120) (lvₚ := [(0, .inr (.inr (some p))), (1, .inl v1_5), (2, .inl v2_24)]) (stₚ := [.inl v2_24, .inr (.inr (some p))]) (hₚ := gc_h sh I22 J23 A) (C := ((True ∧ True) ∧ True)) rfl ⟨⟨trivial, trivial⟩, trivial⟩ ?_
            obtain ⟨r47, h47, E47, P47⟩ := d_X9_isSign (ws0 := ws0) (tb := tb) hws htb sh ro I22 J23 A hI22  v2_24    ⟨by (/-18-/first | (have o1 := gz_sh hv2_24; omega) | (simp only [gz_hd] at *; omega)), by (/-19-/first | (have o1 := gz_sh hv2_24; omega) | (simp only [gz_hd] at *; omega))⟩  
            obtain ⟨rfl, ⟨z47, rfl, q47⟩⟩ := P47
            replace q47 := gz_hi q47
            refine gv_callS hD rfl (As := [.inl v2_24]) (st := [.inr (.inr (some p))]) rfl (gc_lS9 hws rfl) (Nat.le_of_ble_eq_true rfl) (gz_Ev_mono (d := 1) (by decide) E47) ?_
            show gv_X _ _ (123, [(0, .inr (.inr (some p))), (1, .inl v1_5), (2, .inl v2_24)], [.inl z47, .inr (.inr (some p))], sh, gc_h sh I22 J23 A)
            refine gv_if_eq (t := 130) hD rfl rfl ⟨by (/-20-/first | (have o1 := gz_sh q47; omega) | (simp only [gz_hd] at *; omega)), by (/-21-/first | (have o1 := gz_sh q47; omega) | (simp only [gz_hd] at *; omega))⟩ (fun c48 => ?_) (fun c48 => ?_)
            · show gv_X _ _ (130, [(0, .inr (.inr (some p))), (1, .inl v1_5), (2, .inl v2_24)], [.inr (.inr (some p))], sh, gc_h sh I22 J23 A)
              refine gv_run 1 true hD (pcₚ := 131) (lvₚ := [(0, .inr (.inr (some p))), (1, .inl v1_5), (2, .inl v2_24)]) (stₚ := [.inl 5, .inr (.inr (some p))]) (hₚ := gc_h sh I22 J23 A) (C := (True ∧ True)) rfl ⟨trivial, trivial⟩ ?_
              refine gv_pick [0, 1] rfl ?_
              exact L131 5 (by (/-22-/first | (and_intros; (have o1 := gz_sh hv1_5_24; omega); (have o1 := gz_sh hv1_5_24; omega); (omega); (omega); (have o1 := gz_sh e0_24; omega); (have o1 := gz_sh e1_24; omega); (have o1 := gz_sh e2_24; omega); (have o1 := gz_sh e3_24; omega); (omega)) | (simp only [gz_hd] at *; omega)))
            · show gv_X _ _ (126, [(0, .inr (.inr (some p))), (1, .inl v1_5), (2, .inl v2_24)], [.inr (.inr (some p))], sh, gc_h sh I22 J23 A)
              refine gv_run 2 true hD (pcₚ := 131) (lvₚ := [(0, .inr (.inr (some p))), (1, .inl v1_5), (2, .inl v2_24)]) (stₚ := [.inl v2_24, .inr (.inr (some p))]) (hₚ := gc_h sh I22 J23 A) (C := ((True ∧ True) ∧ True)) rfl ⟨⟨trivial, trivial⟩, trivial⟩ ?_
              refine gv_pick [0, 1] rfl ?_
              exact L131 v2_24 (by (/-23-/first | (and_intros; (have o1 := gz_sh hv1_5_24; omega); (have o1 := gz_sh hv1_5_24; omega); (have o1 := gz_sh hv2_24; omega); (have o1 := gz_sh hv2_24; omega); (have o1 := gz_sh e0_24; omega); (have o1 := gz_sh e1_24; omega); (have o1 := gz_sh e2_24; omega); (have o1 := gz_sh e3_24; omega); (have o1 := gz_sh e0_24; have o2 := gz_sh e1_24; have o3 := gz_sh e2_24; have o4 := gz_sh e3_24; have o5 := gz_sh hv1_5_24; have o6 := gz_sh hv2_24; have o7 := gz_sh q47; omega)) | (simp only [gz_hd] at *; omega)))
          · show gv_X _ _ (111, [(0, .inr (.inr (some p))), (1, .inl v1_5), (2, .inl v2_24)], [], sh, gc_h sh I22 J23 A)
            refine gv_run 1 true hD (pcₚ := 112) (lvₚ := [(0, .inr (.inr (some p))), (1, .inl v1_5), (2, .inl v2_24)]) (stₚ := [.inr (.inr (some p))]) (hₚ := gc_h sh I22 J23 A) (C := (True ∧ True)) rfl ⟨trivial, trivial⟩ ?_
            obtain ⟨r49, h49, E49, P49⟩ := d_X9_takeLetters (ws0 := ws0) (tb := tb) hws htb sh ro I22 J23 A hI22 p  hp    (by (/-24-/first | (have o1 := gz_sh e1_24; have o2 := gz_sh e3_24; omega) | (simp only [gz_hd] at *; omega))) 
            obtain ⟨I50, J51, rfl, hI50, g49, k49, ⟨rfl, q49⟩⟩ := P49
            replace q49 := gz_hi q49
            have FI50 := gc_frc (W := fun q j => (q = p ∧ j = 5) ∨ (q = p ∧ j = 6) ∨ (q = p ∧ j = 7) ∨ (q = p ∧ j = 8)) (V := fun q j => (q = p ∧ j = 6) ∨ (q = p ∧ j = 7)) FI22 (fun q j h => (h.elim (fun h => (Or.inr (Or.inl h))) (fun h => (Or.inr (Or.inr (Or.inl h)))))) g49
            have t52 := gz_hi ((g49 p 1).resolve_left (fun h => h.elim (fun h => absurd h.2 (by first | exact gz_ne rfl | decide)) (fun h => absurd h.2 (by first | exact gz_ne rfl | decide))))
            have t53 := gz_hi ((g49 p 5).resolve_left (fun h => h.elim (fun h => absurd h.2 (by first | exact gz_ne rfl | decide)) (fun h => absurd h.2 (by first | exact gz_ne rfl | decide))))
            have f55 := gz_hi ((show 0 ≤ I50 p 7 ∧ I50 p 7 ≤ 125 from gc_in2 hI50 (gz_sh R_p) rfl rfl rfl))
            obtain rfl : J23 = J51 := funext fun q => funext fun j => ((k49 q j).resolve_left id).symm
            refine gv_callV hD rfl (As := []) (st := []) rfl (gz_sh B_p) S_p rfl (gc_lV9 hws rfl) (Nat.le_of_ble_eq_true rfl) (gz_Ev_mono (d := 1) (by decide) E49) ?_
            show gv_X _ _ (115, [(0, .inr (.inr (some p))), (1, .inl v1_5), (2, .inl v2_24)], [], sh, gc_h sh I50 J23 A)
            refine gv_run 1 true hD (pcₚ := 141) (lvₚ := [(0, .inr (.inr (some p))), (1, .inl v1_5), (2, .inl v2_24)]) (stₚ := []) (hₚ := gc_h sh I50 J23 A) (C := (True ∧ True)) rfl ⟨trivial, trivial⟩ ?_
            refine gv_pick [] rfl ?_
            exact L141 I50 J23 hI50 FI50 FJ23 (by (/-25-/first | (and_intros; (have o1 := gz_sh q49; have o2 := gz_sh t53; omega); (have o1 := gz_sh q49; have o2 := gz_sh t52; omega); (have o1 := gz_sh e1_24; have o2 := gz_sh e3_24; have o3 := gz_sh t52; have o4 := gz_sh t53; omega); (have o1 := gz_sh e1_24; have o2 := gz_sh e3_24; have o3 := gz_sh q49; have o4 := gz_sh t52; have o5 := gz_sh t53; omega); (have o1 := gz_sh q49; have o2 := gz_sh t53; omega); (have o1 := gz_sh e2_24; have o2 := gz_sh e3_24; have o3 := gz_sh t53; omega); (have o1 := gz_sh e0_24; have o2 := gz_sh t52; omega)) | (simp only [gz_hd] at *; omega))) (fun _ => (gz_sh q49).2.2)
        refine gv_run 2 true hD (pcₚ := 32) (lvₚ := [(0, .inr (.inr (some p))), (1, .inl v1_5)]) (stₚ := [.inl v1_5, .inr (.inr (some p))]) (hₚ := gc_h sh I J A) (C := ((True ∧ True) ∧ True)) rfl ⟨⟨trivial, trivial⟩, trivial⟩ ?_
        refine gv_put hD rfl rfl S_p ⟨by decide, (gz_sh B_p)⟩ rfl trivial ?_
        refine gc_st (k := 5) hI S_p rfl (gz_sh R_p) (lo := 0) (hi := 1000) rfl rfl (by (/-26-/first | (have o1 := gz_sh hv1_5; omega) | (simp only [gz_hd] at *; omega))) (by (/-27-/first | (have o1 := gz_sh hv1_5; omega) | (simp only [gz_hd] at *; omega))) (fun I56 hI56 q57 p57 => ?_)
        have FI56 := gc_frs (W := fun q j => (q = p ∧ j = 5) ∨ (q = p ∧ j = 6) ∨ (q = p ∧ j = 7) ∨ (q = p ∧ j = 8)) FI (Or.inl ⟨rfl, rfl⟩) p57
        have t58 := gz_hi (p57 p 1 (fun h => absurd h.2 (by first | exact gz_ne rfl | decide)))
        have t59 := gz_hi (p57 p 6 (fun h => absurd h.2 (by first | exact gz_ne rfl | decide)))
        show gv_X _ _ (35, [(0, .inr (.inr (some p))), (1, .inl v1_5)], [], sh, gc_h sh I56 J A)
        refine gv_run 2 true hD (pcₚ := 37) (lvₚ := [(0, .inr (.inr (some p))), (1, .inl v1_5)]) (stₚ := [.inr (.inr (some p)), .inl v1_5]) (hₚ := gc_h sh I56 J A) (C := ((True ∧ True) ∧ True)) rfl ⟨⟨trivial, trivial⟩, trivial⟩ ?_
        refine gv_get hD rfl rfl S_p ⟨by decide, (gz_sh B_p)⟩ (gc_hI S_p rfl) ?_
        show gv_X _ _ (40, [(0, .inr (.inr (some p))), (1, .inl v1_5)], [.inl (I56 p 1), .inl v1_5], sh, gc_h sh I56 J A)
        refine gv_icmp_lt (t := 65) hD rfl rfl ⟨⟨by (/-28-/first | (have o1 := gz_sh hv1_5; omega) | (simp only [gz_hd] at *; omega)), by (/-29-/first | (have o1 := gz_sh hv1_5; omega) | (simp only [gz_hd] at *; omega))⟩, ⟨by (/-30-/first | (have o1 := gz_sh f1; have o2 := gz_sh t58; omega) | (simp only [gz_hd] at *; omega)), by (/-31-/first | (have o1 := gz_sh f1; have o2 := gz_sh t58; omega) | (simp only [gz_hd] at *; omega))⟩⟩ (fun c63 => ?_) (fun c63 => ?_)
        · show gv_X _ _ (65, [(0, .inr (.inr (some p))), (1, .inl v1_5)], [], sh, gc_h sh I56 J A)
          refine gv_run 1 true hD (pcₚ := 66) (lvₚ := [(0, .inr (.inr (some p))), (1, .inl v1_5)]) (stₚ := [.inr (.inr (some p))]) (hₚ := gc_h sh I56 J A) (C := (True ∧ True)) rfl ⟨trivial, trivial⟩ ?_
          refine gv_get hD rfl rfl S_p ⟨by decide, (gz_sh B_p)⟩ (gc_hA S_p rfl A_p_0) ?_
          show gv_X _ _ (69, [(0, .inr (.inr (some p))), (1, .inl v1_5)], [.inr (.inr (some (p + 1)))], sh, gc_h sh I56 J A)
          refine gv_run 1 true hD (pcₚ := 70) (lvₚ := [(0, .inr (.inr (some p))), (1, .inl v1_5)]) (stₚ := [.inl v1_5, .inr (.inr (some (p + 1)))]) (hₚ := gc_h sh I56 J A) (C := (True ∧ True)) rfl ⟨trivial, trivial⟩ ?_
          have f64 := gz_hi ((show (-128) ≤ I56 (p + 1) (Int.toNat v1_5) ∧ I56 (p + 1) (Int.toNat v1_5) ≤ 127 from gc_in2 hI56 (gz_sh R_p_1) rfl rfl rfl))
          refine gv_bald hD rfl S_p_1 (Or.inl rfl) ⟨by decide, (gz_sh B_p_1)⟩ ⟨by (/-32-/first | (have o1 := gz_sh hv1_5; omega) | (simp only [gz_hd] at *; omega)), by (/-33-/first | (have o1 := gz_sh f1; have o2 := gz_sh t58; omega) | (simp only [gz_hd] at *; omega))⟩ (gc_iI S_p_1 rfl) ?_
          show gv_X _ _ (71, [(0, .inr (.inr (some p))), (1, .inl v1_5)], [.inl (I56 (p + 1) (Int.toNat v1_5))], sh, gc_h sh I56 J A)
          refine gv_run 2 true hD (pcₚ := 73) (lvₚ := [(2, .inl (I56 (p + 1) (Int.toNat v1_5))), (0, .inr (.inr (some p))), (1, .inl v1_5)]) (stₚ := [.inl (I56 (p + 1) (Int.toNat v1_5))]) (hₚ := gc_h sh I56 J A) (C := ((True ∧ True) ∧ True)) rfl ⟨⟨trivial, trivial⟩, trivial⟩ ?_
          obtain ⟨r65, h65, E65, P65⟩ := d_X9_isLetter (ws0 := ws0) (tb := tb) hws htb sh ro I56 J A hI56  ((I56 (p + 1) (Int.toNat v1_5)))    ⟨by (/-34-/first | (have o1 := gz_sh f64; omega) | (simp only [gz_hd] at *; omega)), by (/-35-/first | (have o1 := gz_sh f64; omega) | (simp only [gz_hd] at *; omega))⟩  
          obtain ⟨rfl, ⟨z65, rfl, q65⟩⟩ := P65
          replace q65 := gz_hi q65
          refine gv_callS hD rfl (As := [.inl (I56 (p + 1) (Int.toNat v1_5))]) (st := []) rfl (gc_lS9 hws rfl) (Nat.le_of_ble_eq_true rfl) (gz_Ev_mono (d := 1) (by decide) E65) ?_
          show gv_X _ _ (76, [(2, .inl (I56 (p + 1) (Int.toNat v1_5))), (0, .inr (.inr (some p))), (1, .inl v1_5)], [.inl z65], sh, gc_h sh I56 J A)
          refine gv_if_eq (t := 86) hD rfl rfl ⟨by (/-36-/first | (have o1 := gz_sh q65; omega) | (simp only [gz_hd] at *; omega)), by (/-37-/first | (have o1 := gz_sh q65; omega) | (simp only [gz_hd] at *; omega))⟩ (fun c66 => ?_) (fun c66 => ?_)
          · show gv_X _ _ (86, [(2, .inl (I56 (p + 1) (Int.toNat v1_5))), (0, .inr (.inr (some p))), (1, .inl v1_5)], [], sh, gc_h sh I56 J A)
            refine gv_run 2 true hD (pcₚ := 89) (lvₚ := [(2, .inl (I56 (p + 1) (Int.toNat v1_5))), (0, .inr (.inr (some p))), (1, .inl v1_5)]) (stₚ := [.inl 48, .inl (I56 (p + 1) (Int.toNat v1_5))]) (hₚ := gc_h sh I56 J A) (C := ((True ∧ True) ∧ True)) rfl ⟨⟨trivial, trivial⟩, trivial⟩ ?_
            refine gv_icmp_lt (t := 105) hD rfl rfl ⟨⟨by (/-38-/first | (have o1 := gz_sh f64; omega) | (simp only [gz_hd] at *; omega)), by (/-39-/first | (have o1 := gz_sh f64; omega) | (simp only [gz_hd] at *; omega))⟩, ⟨by (/-40-/first | omega | (simp only [gz_hd] at *; omega)), by (/-41-/first | omega | (simp only [gz_hd] at *; omega))⟩⟩ (fun c67 => ?_) (fun c67 => ?_)
            · show gv_X _ _ (105, [(2, .inl (I56 (p + 1) (Int.toNat v1_5))), (0, .inr (.inr (some p))), (1, .inl v1_5)], [], sh, gc_h sh I56 J A)
              refine gv_pick [1, 2, 0] rfl ?_
              exact L105 I56 J ((I56 (p + 1) (Int.toNat v1_5))) hI56 FI56 FJ (by (/-42-/first | (and_intros; (have o1 := gz_sh hv1_5; omega); (have o1 := gz_sh f1; have o2 := gz_sh t58; omega); (have o1 := gz_sh f64; omega); (omega); (have o1 := gz_sh t58; omega); (omega); (have o1 := gz_sh e1_5; omega); (omega)) | (simp only [gz_hd] at *; omega)))
            · show gv_X _ _ (92, [(2, .inl (I56 (p + 1) (Int.toNat v1_5))), (0, .inr (.inr (some p))), (1, .inl v1_5)], [], sh, gc_h sh I56 J A)
              refine gv_run 2 true hD (pcₚ := 95) (lvₚ := [(2, .inl (I56 (p + 1) (Int.toNat v1_5))), (0, .inr (.inr (some p))), (1, .inl v1_5)]) (stₚ := [.inl 57, .inl (I56 (p + 1) (Int.toNat v1_5))]) (hₚ := gc_h sh I56 J A) (C := ((True ∧ True) ∧ True)) rfl ⟨⟨trivial, trivial⟩, trivial⟩ ?_
              refine gv_icmp_gt (t := 105) hD rfl rfl ⟨⟨by (/-43-/first | omega | (simp only [gz_hd] at *; omega)), by (/-44-/first | (have o1 := gz_sh f64; omega) | (simp only [gz_hd] at *; omega))⟩, ⟨by (/-45-/first | omega | (simp only [gz_hd] at *; omega)), by (/-46-/first | omega | (simp only [gz_hd] at *; omega))⟩⟩ (fun c68 => ?_) (fun c68 => ?_)
              · show gv_X _ _ (105, [(2, .inl (I56 (p + 1) (Int.toNat v1_5))), (0, .inr (.inr (some p))), (1, .inl v1_5)], [], sh, gc_h sh I56 J A)
                refine gv_pick [1, 2, 0] rfl ?_
                exact L105 I56 J ((I56 (p + 1) (Int.toNat v1_5))) hI56 FI56 FJ (by (/-47-/first | (and_intros; (have o1 := gz_sh hv1_5; omega); (have o1 := gz_sh f1; have o2 := gz_sh t58; omega); (omega); (have o1 := gz_sh f64; omega); (have o1 := gz_sh t58; omega); (omega); (have o1 := gz_sh e1_5; omega); (omega)) | (simp only [gz_hd] at *; omega)))
              · show gv_X _ _ (98, [(2, .inl (I56 (p + 1) (Int.toNat v1_5))), (0, .inr (.inr (some p))), (1, .inl v1_5)], [], sh, gc_h sh I56 J A)
                refine gv_run 1 true hD (pcₚ := 99) (lvₚ := [(2, .inl (I56 (p + 1) (Int.toNat v1_5))), (0, .inr (.inr (some p))), (1, .inl v1_5)]) (stₚ := [.inr (.inr (some p))]) (hₚ := gc_h sh I56 J A) (C := (True ∧ True)) rfl ⟨trivial, trivial⟩ ?_
                obtain ⟨r69, h69, E69, P69⟩ := d_X9_takeNumber (ws0 := ws0) (tb := tb) hws htb sh ro I56 J A hI56 p  hp    (by (/-48-/first | omega | (simp only [gz_hd] at *; omega))) (by rw [q57]; (/-49-/first | (and_intros <;> omega) | (simp only [gz_hd] at *; omega))) 
                obtain ⟨I70, J71, rfl, hI70, g69, k69, ⟨rfl, q69⟩⟩ := P69
                replace q69 := gz_hi q69
                have FI70 := gc_frc (W := fun q j => (q = p ∧ j = 5) ∨ (q = p ∧ j = 6) ∨ (q = p ∧ j = 7) ∨ (q = p ∧ j = 8)) (V := fun q j => (q = p ∧ j = 6) ∨ (q = p ∧ j = 7) ∨ (q = p ∧ j = 8)) FI56 (fun q j h => (h.elim (fun h => (Or.inr (Or.inl h))) (fun h => (h.elim (fun h => (Or.inr (Or.inr (Or.inl h)))) (fun h => (Or.inr (Or.inr (Or.inr h)))))))) g69
                have t72 := gz_hi ((g69 p 1).resolve_left (fun h => h.elim (fun h => absurd h.2 (by first | exact gz_ne rfl | decide)) (fun h => h.elim (fun h => absurd h.2 (by first | exact gz_ne rfl | decide)) (fun h => absurd h.2 (by first | exact gz_ne rfl | decide)))))
                have t73 := gz_hi ((g69 p 5).resolve_left (fun h => h.elim (fun h => absurd h.2 (by first | exact gz_ne rfl | decide)) (fun h => h.elim (fun h => absurd h.2 (by first | exact gz_ne rfl | decide)) (fun h => absurd h.2 (by first | exact gz_ne rfl | decide)))))
                obtain rfl : J = J71 := funext fun q => funext fun j => ((k69 q j).resolve_left id).symm
                refine gv_callV hD rfl (As := []) (st := []) rfl (gz_sh B_p) S_p rfl (gc_lV9 hws rfl) (Nat.le_of_ble_eq_true rfl) (gz_Ev_mono (d := 1) (by decide) E69) ?_
                show gv_X _ _ (102, [(2, .inl (I56 (p + 1) (Int.toNat v1_5))), (0, .inr (.inr (some p))), (1, .inl v1_5)], [], sh, gc_h sh I70 J A)
                refine gv_run 1 true hD (pcₚ := 141) (lvₚ := [(2, .inl (I56 (p + 1) (Int.toNat v1_5))), (0, .inr (.inr (some p))), (1, .inl v1_5)]) (stₚ := []) (hₚ := gc_h sh I70 J A) (C := (True ∧ True)) rfl ⟨trivial, trivial⟩ ?_
                refine gv_pick [] rfl ?_
                exact L141 I70 J hI70 FI70 FJ (by (/-50-/first | (and_intros; (have o1 := gz_sh q69; have o2 := gz_sh t73; omega); (have o1 := gz_sh q69; have o2 := gz_sh t72; omega); (have o1 := gz_sh t72; have o2 := gz_sh t73; omega); (have o1 := gz_sh q69; have o2 := gz_sh t72; have o3 := gz_sh t73; omega); (have o1 := gz_sh q69; omega); (have o1 := gz_sh e1_5; have o2 := gz_sh t73; omega); (have o1 := gz_sh t58; have o2 := gz_sh t72; omega)) | (simp only [gz_hd] at *; omega))) (fun h => by (/-51-/first | (have o1 := gz_sh q69; omega) | (simp only [gz_hd] at *; omega)))
          · show gv_X _ _ (79, [(2, .inl (I56 (p + 1) (Int.toNat v1_5))), (0, .inr (.inr (some p))), (1, .inl v1_5)], [], sh, gc_h sh I56 J A)
            refine gv_run 1 true hD (pcₚ := 80) (lvₚ := [(2, .inl (I56 (p + 1) (Int.toNat v1_5))), (0, .inr (.inr (some p))), (1, .inl v1_5)]) (stₚ := [.inr (.inr (some p))]) (hₚ := gc_h sh I56 J A) (C := (True ∧ True)) rfl ⟨trivial, trivial⟩ ?_
            obtain ⟨r76, h76, E76, P76⟩ := d_X9_takeName (ws0 := ws0) (tb := tb) hws htb sh ro I56 J A hI56 p  hp    (by (/-52-/first | omega | (simp only [gz_hd] at *; omega))) (by rw [q57]; (/-53-/first | (and_intros; (have o1 := gz_sh q65; omega); (have o1 := gz_sh q65; omega)) | (simp only [gz_hd] at *; omega))) 
            obtain ⟨I77, J78, rfl, hI77, g76, k76, ⟨rfl, q76⟩⟩ := P76
            replace q76 := gz_hi q76
            have FI77 := gc_frc (W := fun q j => (q = p ∧ j = 5) ∨ (q = p ∧ j = 6) ∨ (q = p ∧ j = 7) ∨ (q = p ∧ j = 8)) (V := fun q j => (q = p ∧ j = 6) ∨ (q = p ∧ j = 7)) FI56 (fun q j h => (h.elim (fun h => (Or.inr (Or.inl h))) (fun h => (Or.inr (Or.inr (Or.inl h)))))) g76
            have FJ78 := gc_frc (W := fun q j => (q = p ∧ j = 9)) (V := fun q j => (q = p ∧ j = 9)) FJ (fun q j h => h) k76
            have t79 := gz_hi ((g76 p 1).resolve_left (fun h => h.elim (fun h => absurd h.2 (by first | exact gz_ne rfl | decide)) (fun h => absurd h.2 (by first | exact gz_ne rfl | decide))))
            have t80 := gz_hi ((g76 p 5).resolve_left (fun h => h.elim (fun h => absurd h.2 (by first | exact gz_ne rfl | decide)) (fun h => absurd h.2 (by first | exact gz_ne rfl | decide))))
            refine gv_callV hD rfl (As := []) (st := []) rfl (gz_sh B_p) S_p rfl (gc_lV9 hws rfl) (Nat.le_of_ble_eq_true rfl) (gz_Ev_mono (d := 1) (by decide) E76) ?_
            show gv_X _ _ (83, [(2, .inl (I56 (p + 1) (Int.toNat v1_5))), (0, .inr (.inr (some p))), (1, .inl v1_5)], [], sh, gc_h sh I77 J78 A)
            refine gv_run 1 true hD (pcₚ := 141) (lvₚ := [(2, .inl (I56 (p + 1) (Int.toNat v1_5))), (0, .inr (.inr (some p))), (1, .inl v1_5)]) (stₚ := []) (hₚ := gc_h sh I77 J78 A) (C := (True ∧ True)) rfl ⟨trivial, trivial⟩ ?_
            refine gv_pick [] rfl ?_
            exact L141 I77 J78 hI77 FI77 FJ78 (by (/-54-/first | (and_intros; (have o1 := gz_sh q76; have o2 := gz_sh t80; omega); (have o1 := gz_sh q76; have o2 := gz_sh t79; omega); (have o1 := gz_sh t79; have o2 := gz_sh t80; omega); (have o1 := gz_sh q76; have o2 := gz_sh t79; have o3 := gz_sh t80; omega); (have o1 := gz_sh q76; omega); (have o1 := gz_sh e1_5; have o2 := gz_sh t80; omega); (have o1 := gz_sh t58; have o2 := gz_sh t79; omega)) | (simp only [gz_hd] at *; omega))) (fun h => by (/-55-/first | (have o1 := gz_sh q76; omega) | (simp only [gz_hd] at *; omega)))
        · show gv_X _ _ (43, [(0, .inr (.inr (some p))), (1, .inl v1_5)], [], sh, gc_h sh I56 J A)
          refine gv_run 2 true hD (pcₚ := 45) (lvₚ := [(0, .inr (.inr (some p))), (1, .inl v1_5)]) (stₚ := [.inl 4, .inr (.inr (some p))]) (hₚ := gc_h sh I56 J A) (C := ((True ∧ True) ∧ True)) rfl ⟨⟨trivial, trivial⟩, trivial⟩ ?_
          refine gv_put hD rfl rfl S_p ⟨by decide, (gz_sh B_p)⟩ rfl trivial ?_
          refine gc_st (k := 7) hI56 S_p rfl (gz_sh R_p) (lo := 0) (hi := 125) rfl rfl (by (/-56-/first | omega | (simp only [gz_hd] at *; omega))) (by (/-57-/first | omega | (simp only [gz_hd] at *; omega))) (fun I83 hI83 q84 p84 => ?_)
          have FI83 := gc_frs (W := fun q j => (q = p ∧ j = 5) ∨ (q = p ∧ j = 6) ∨ (q = p ∧ j = 7) ∨ (q = p ∧ j = 8)) FI56 (Or.inr (Or.inr (Or.inl ⟨rfl, rfl⟩))) p84
          have t85 := gz_hi (p84 p 1 (fun h => absurd h.2 (by first | exact gz_ne rfl | decide)))
          have t86 := gz_hi (p84 p 5 (fun h => absurd h.2 (by first | exact gz_ne rfl | decide)))
          have t87 := gz_hi (p84 p 6 (fun h => absurd h.2 (by first | exact gz_ne rfl | decide)))
          show gv_X _ _ (48, [(0, .inr (.inr (some p))), (1, .inl v1_5)], [], sh, gc_h sh I83 J A)
          refine gv_run 2 true hD (pcₚ := 50) (lvₚ := [(0, .inr (.inr (some p))), (1, .inl v1_5)]) (stₚ := [.inr (.inr (some p)), .inr (.inr (some p))]) (hₚ := gc_h sh I83 J A) (C := ((True ∧ True) ∧ True)) rfl ⟨⟨trivial, trivial⟩, trivial⟩ ?_
          refine gv_get hD rfl rfl S_p ⟨by decide, (gz_sh B_p)⟩ (gc_hI S_p rfl) ?_
          show gv_X _ _ (53, [(0, .inr (.inr (some p))), (1, .inl v1_5)], [.inl (I83 p 1), .inr (.inr (some p))], sh, gc_h sh I83 J A)
          refine gv_put hD rfl rfl S_p ⟨by decide, (gz_sh B_p)⟩ rfl trivial ?_
          refine gc_st (k := 5) hI83 S_p rfl (gz_sh R_p) (lo := 0) (hi := 1000) rfl rfl (by (/-58-/first | (have o1 := gz_sh f1; have o2 := gz_sh t58; have o3 := gz_sh t85; omega) | (simp only [gz_hd] at *; omega))) (by (/-59-/first | (have o1 := gz_sh f1; have o2 := gz_sh t58; have o3 := gz_sh t85; omega) | (simp only [gz_hd] at *; omega))) (fun I90 hI90 q91 p91 => ?_)
          have FI90 := gc_frs (W := fun q j => (q = p ∧ j = 5) ∨ (q = p ∧ j = 6) ∨ (q = p ∧ j = 7) ∨ (q = p ∧ j = 8)) FI83 (Or.inl ⟨rfl, rfl⟩) p91
          have t92 := gz_hi (p91 p 1 (fun h => absurd h.2 (by first | exact gz_ne rfl | decide)))
          have t93 := gz_hi (p91 p 6 (fun h => absurd h.2 (by first | exact gz_ne rfl | decide)))
          have t94 := gz_hi (p91 p 7 (fun h => absurd h.2 (by first | exact gz_ne rfl | decide)))
          show gv_X _ _ (56, [(0, .inr (.inr (some p))), (1, .inl v1_5)], [], sh, gc_h sh I90 J A)
          refine gv_run 2 true hD (pcₚ := 58) (lvₚ := [(0, .inr (.inr (some p))), (1, .inl v1_5)]) (stₚ := [.inr (.inr (some p)), .inr (.inr (some p))]) (hₚ := gc_h sh I90 J A) (C := ((True ∧ True) ∧ True)) rfl ⟨⟨trivial, trivial⟩, trivial⟩ ?_
          refine gv_get hD rfl rfl S_p ⟨by decide, (gz_sh B_p)⟩ (gc_hI S_p rfl) ?_
          show gv_X _ _ (61, [(0, .inr (.inr (some p))), (1, .inl v1_5)], [.inl (I90 p 1), .inr (.inr (some p))], sh, gc_h sh I90 J A)
          refine gv_put hD rfl rfl S_p ⟨by decide, (gz_sh B_p)⟩ rfl trivial ?_
          refine gc_st (k := 6) hI90 S_p rfl (gz_sh R_p) (lo := 0) (hi := 1001) rfl rfl (by (/-60-/first | (have o1 := gz_sh f1; have o2 := gz_sh t58; have o3 := gz_sh t85; have o4 := gz_sh t92; omega) | (simp only [gz_hd] at *; omega))) (by (/-61-/first | (have o1 := gz_sh f1; have o2 := gz_sh t58; have o3 := gz_sh t85; have o4 := gz_sh t92; omega) | (simp only [gz_hd] at *; omega))) (fun I97 hI97 q98 p98 => ?_)
          have FI97 := gc_frs (W := fun q j => (q = p ∧ j = 5) ∨ (q = p ∧ j = 6) ∨ (q = p ∧ j = 7) ∨ (q = p ∧ j = 8)) FI90 (Or.inr (Or.inl ⟨rfl, rfl⟩)) p98
          have t99 := gz_hi (p98 p 1 (fun h => absurd h.2 (by first | exact gz_ne rfl | decide)))
          have t100 := gz_hi (p98 p 5 (fun h => absurd h.2 (by first | exact gz_ne rfl | decide)))
          have t101 := gz_hi (p98 p 7 (fun h => absurd h.2 (by first | exact gz_ne rfl | decide)))
          show gv_X _ _ (64, [(0, .inr (.inr (some p))), (1, .inl v1_5)], [], sh, gc_h sh I97 J A)
          exact gv_vret hD rfl ⟨I97, J, rfl, hI97, FI97, FJ, ⟨rfl, by (/-62-/first | (have o1 := gz_sh t100; have o2 := gz_sh t92; omega) | (simp only [gz_hd] at *; omega)), by (/-63-/first | (have o1 := gz_sh t99; omega) | (simp only [gz_hd] at *; omega)), by (/-64-/first | (have o1 := gz_sh t100; have o2 := gz_sh t92; have o3 := gz_sh t99; omega) | (simp only [gz_hd] at *; omega)), by (/-65-/first | (have o1 := gz_sh t101; have o2 := gz_sh t94; omega) | (simp only [gz_hd] at *; omega)), by (/-66-/first | (have o1 := gz_sh t101; have o2 := gz_sh t94; omega) | (simp only [gz_hd] at *; omega)), by (/-67-/first | (have o1 := gz_sh t100; have o2 := gz_sh t58; have o3 := gz_sh t85; omega) | (simp only [gz_hd] at *; omega)), by (/-68-/first | (have o1 := gz_sh t58; have o2 := gz_sh t85; have o3 := gz_sh t92; have o4 := gz_sh t99; omega) | (simp only [gz_hd] at *; omega)), (fun h => by (/-69-/first | (have o1 := gz_sh t101; have o2 := gz_sh t94; omega) | (simp only [gz_hd] at *; omega)))⟩⟩
      refine gv_run 2 true hD (pcₚ := 7) (lvₚ := [(0, .inr (.inr (some p))), (1, .inl v1_5)]) (stₚ := [.inr (.inr (some p)), .inl v1_5]) (hₚ := gc_h sh I J A) (C := ((True ∧ True) ∧ True)) rfl ⟨⟨trivial, trivial⟩, trivial⟩ ?_
      refine gv_get hD rfl rfl S_p ⟨by decide, (gz_sh B_p)⟩ (gc_hI S_p rfl) ?_
      show gv_X _ _ (10, [(0, .inr (.inr (some p))), (1, .inl v1_5)], [.inl (I p 1), .inl v1_5], sh, gc_h sh I J A)
      refine gv_icmp_ge (t := 30) hD rfl rfl ⟨⟨by (/-70-/first | (have o1 := gz_sh hv1_5; omega) | (simp only [gz_hd] at *; omega)), by (/-71-/first | (have o1 := gz_sh hv1_5; omega) | (simp only [gz_hd] at *; omega))⟩, ⟨by (/-72-/first | (have o1 := gz_sh f1; omega) | (simp only [gz_hd] at *; omega)), by (/-73-/first | (have o1 := gz_sh f1; omega) | (simp only [gz_hd] at *; omega))⟩⟩ (fun c104 => ?_) (fun c104 => ?_)
      · show gv_X _ _ (30, [(0, .inr (.inr (some p))), (1, .inl v1_5)], [], sh, gc_h sh I J A)
        exact L30 (by (/-74-/first | (and_intros; (have o1 := gz_sh f1; omega); (have o1 := gz_sh e0_5; have o2 := gz_sh f1; omega); (have o1 := gz_sh e0_5; omega); (omega)) | (simp only [gz_hd] at *; omega)))
      · show gv_X _ _ (13, [(0, .inr (.inr (some p))), (1, .inl v1_5)], [], sh, gc_h sh I J A)
        refine gv_run 1 true hD (pcₚ := 14) (lvₚ := [(0, .inr (.inr (some p))), (1, .inl v1_5)]) (stₚ := [.inr (.inr (some p))]) (hₚ := gc_h sh I J A) (C := (True ∧ True)) rfl ⟨trivial, trivial⟩ ?_
        refine gv_get hD rfl rfl S_p ⟨by decide, (gz_sh B_p)⟩ (gc_hA S_p rfl A_p_0) ?_
        show gv_X _ _ (17, [(0, .inr (.inr (some p))), (1, .inl v1_5)], [.inr (.inr (some (p + 1)))], sh, gc_h sh I J A)
        refine gv_run 1 true hD (pcₚ := 18) (lvₚ := [(0, .inr (.inr (some p))), (1, .inl v1_5)]) (stₚ := [.inl v1_5, .inr (.inr (some (p + 1)))]) (hₚ := gc_h sh I J A) (C := (True ∧ True)) rfl ⟨trivial, trivial⟩ ?_
        have f105 := gz_hi ((show (-128) ≤ I (p + 1) (Int.toNat v1_5) ∧ I (p + 1) (Int.toNat v1_5) ≤ 127 from gc_in2 hI (gz_sh R_p_1) rfl rfl rfl))
        refine gv_bald hD rfl S_p_1 (Or.inl rfl) ⟨by decide, (gz_sh B_p_1)⟩ ⟨by (/-75-/first | (have o1 := gz_sh hv1_5; omega) | (simp only [gz_hd] at *; omega)), by (/-76-/first | (have o1 := gz_sh f1; omega) | (simp only [gz_hd] at *; omega))⟩ (gc_iI S_p_1 rfl) ?_
        show gv_X _ _ (19, [(0, .inr (.inr (some p))), (1, .inl v1_5)], [.inl (I (p + 1) (Int.toNat v1_5))], sh, gc_h sh I J A)
        refine gv_run 1 true hD (pcₚ := 21) (lvₚ := [(0, .inr (.inr (some p))), (1, .inl v1_5)]) (stₚ := [.inl 32, .inl (I (p + 1) (Int.toNat v1_5))]) (hₚ := gc_h sh I J A) (C := (True ∧ True)) rfl ⟨trivial, trivial⟩ ?_
        refine gv_icmp_ne (t := 30) hD rfl rfl ⟨⟨by (/-77-/first | (have o1 := gz_sh f105; omega) | (simp only [gz_hd] at *; omega)), by (/-78-/first | (have o1 := gz_sh f105; omega) | (simp only [gz_hd] at *; omega))⟩, ⟨by (/-79-/first | omega | (simp only [gz_hd] at *; omega)), by (/-80-/first | omega | (simp only [gz_hd] at *; omega))⟩⟩ (fun c106 => ?_) (fun c106 => ?_)
        · show gv_X _ _ (30, [(0, .inr (.inr (some p))), (1, .inl v1_5)], [], sh, gc_h sh I J A)
          exact L30 (by (/-81-/first | (and_intros; (have o1 := gz_sh hv1_5; omega); (have o1 := gz_sh hv1_5; omega); (omega); (have o1 := gz_sh e1_5; omega)) | (simp only [gz_hd] at *; omega)))
        · show gv_X _ _ (24, [(0, .inr (.inr (some p))), (1, .inl v1_5)], [], sh, gc_h sh I J A)
          refine gv_run 2 true hD (pcₚ := 5) (lvₚ := [(1, .inl (v1_5 + 1)), (0, .inr (.inr (some p)))]) (stₚ := []) (hₚ := gc_h sh I J A) (C := ((True ∧ True) ∧ True)) rfl ⟨⟨trivial, trivial⟩, trivial⟩ ?_
          refine gv_pick [1, 0] rfl ?_
          exact ih5 (v1_5 + 1) (by (/-82-/first | (have o1 := gz_sh e1_5; have o2 := gz_sh f1; have o3 := gz_sh hv1_5; omega) | (simp only [gz_hd] at *; omega))) (by (/-83-/first | (and_intros; (have o1 := gz_sh hv1_5; omega); (have o1 := gz_sh f1; omega); (omega); (have o1 := gz_sh e1_5; omega)) | (simp only [gz_hd] at *; omega)))
  refine gv_run 1 true hD (pcₚ := 1) (lvₚ := [(0, .inr (.inr (some p)))]) (stₚ := [.inr (.inr (some p))]) (hₚ := gc_h sh I J A) (C := (True ∧ True)) rfl ⟨trivial, trivial⟩ ?_
  refine gv_get hD rfl rfl S_p ⟨by decide, (gz_sh B_p)⟩ (gc_hI S_p rfl) ?_
  show gv_X _ _ (4, [(0, .inr (.inr (some p)))], [.inl (I p 6)], sh, gc_h sh I J A)
  refine gv_run 1 true hD (pcₚ := 5) (lvₚ := [(1, .inl (I p 6)), (0, .inr (.inr (some p)))]) (stₚ := []) (hₚ := gc_h sh I J A) (C := (True ∧ True)) rfl ⟨trivial, trivial⟩ ?_
  refine gv_pick [1, 0] rfl ?_
  exact L5 _ (I p 6) (Nat.lt_succ_self _) (by (/-84-/first | (and_intros; (have o1 := gz_sh f3; omega); (have o1 := gz_sh f1; omega); (omega); (omega)) | (simp only [gz_hd] at *; omega)))
set_option maxHeartbeats 8000000 in
set_option maxRecDepth 100000 in
theorem d_X9_rewind {ws0 : List Cond} {tb : String → gz_T} (hws : gc_Ws ws0) (htb : gc_tbs tb) (sh : gz_Sh) (ro : Nat → Nat) (I : gr_I) (J : gr_J) (A : gc_A) (hI : gc_Inv ro I) (p : Nat)  (hp : gc_isText sh ro A p)   : ∃ r hₚ, gz_Ev ws0 tb 3 (yX9_rewind, cX9_rewind, 1, none) [.inr (.inr (some p))] sh (gc_h sh I J A) r sh hₚ 0 0 ∧ (∃ (Iₚ : gr_I) (Jₚ : gr_J), hₚ = gc_h sh Iₚ Jₚ A ∧ gc_Inv ro Iₚ ∧ (∀ q j : Nat, ((q = p ∧ j = 5) ∨ (q = p ∧ j = 6) ∨ (q = p ∧ j = 7) ∨ (q = p ∧ j = 8)) ∨ Iₚ q j = I q j) ∧ (∀ q j : Nat, ((q = p ∧ j = 9)) ∨ Jₚ q j = J q j) ∧ r = none ∧ (Iₚ p 5 ≤ Iₚ p 6) ∧ (Iₚ p 7 = 5 ∨ Iₚ p 6 ≤ Iₚ p 1) ∧ (Iₚ p 5 ≤ Iₚ p 1) ∧ (Iₚ p 7 = 4 ∨ (Iₚ p 5 < Iₚ p 6 ∧ Iₚ p 5 < Iₚ p 1)) ∧ (Iₚ p 7 = 3 → 2 ≤ Iₚ p 6 - Iₚ p 5 ∧ Iₚ p 6 - Iₚ p 5 ≤ 14) ∧ (Iₚ p 1 = I p 1) ∧ (Iₚ p 7 = 3 → gc_lt p Iₚ (Iₚ p 5) (Iₚ p 6 - 1))) := by
  have FI : ∀ q j : Nat, ((q = p ∧ j = 5) ∨ (q = p ∧ j = 6) ∨ (q = p ∧ j = 7) ∨ (q = p ∧ j = 8)) ∨ I q j = I q j := fun _ _ => Or.inr rfl
  have FJ : ∀ q j : Nat, ((q = p ∧ j = 9)) ∨ J q j = J q j := fun _ _ => Or.inr rfl
  obtain ⟨S_p, R_p, B_p, A_p_0, S_p_1, R_p_1, B_p_1, A_p_2, S_p_2, R_p_2, B_p_2, A_p_3, S_p_3, R_p_3, B_p_3⟩ := id hp
  replace R_p := gz_hi R_p
  replace B_p := gz_hi B_p
  replace R_p_1 := gz_hi R_p_1
  replace B_p_1 := gz_hi B_p_1
  replace R_p_2 := gz_hi R_p_2
  replace B_p_2 := gz_hi B_p_2
  replace R_p_3 := gz_hi R_p_3
  replace B_p_3 := gz_hi B_p_3
  have hD : gv_D (gc_E9 ws0 tb 2 (yX9_rewind, cX9_rewind, 1, none) kX9_rewind) := gq_of oX9_rewind
  refine gc_ev9 (d := 2) (l := kX9_rewind) (Po := fun r hₚ => (∃ (Iₚ : gr_I) (Jₚ : gr_J), hₚ = gc_h sh Iₚ Jₚ A ∧ gc_Inv ro Iₚ ∧ (∀ q j : Nat, ((q = p ∧ j = 5) ∨ (q = p ∧ j = 6) ∨ (q = p ∧ j = 7) ∨ (q = p ∧ j = 8)) ∨ Iₚ q j = I q j) ∧ (∀ q j : Nat, ((q = p ∧ j = 9)) ∨ Jₚ q j = J q j) ∧ r = none ∧ (Iₚ p 5 ≤ Iₚ p 6) ∧ (Iₚ p 7 = 5 ∨ Iₚ p 6 ≤ Iₚ p 1) ∧ (Iₚ p 5 ≤ Iₚ p 1) ∧ (Iₚ p 7 = 4 ∨ (Iₚ p 5 < Iₚ p 6 ∧ Iₚ p 5 < Iₚ p 1)) ∧ (Iₚ p 7 = 3 → 2 ≤ Iₚ p 6 - Iₚ p 5 ∧ Iₚ p 6 - Iₚ p 5 ≤ 14) ∧ (Iₚ p 1 = I p 1) ∧ (Iₚ p 7 = 3 → gc_lt p Iₚ (Iₚ p 5) (Iₚ p 6 - 1)))) htb rfl (Nat.le_of_ble_eq_true rfl) ?_
  have f1 := gz_hi ((show 0 ≤ I p 1 ∧ I p 1 ≤ 1000 from gc_in2 hI (gz_sh R_p) rfl rfl rfl))
  refine gv_run 2 true hD (pcₚ := 2) (lvₚ := [(0, .inr (.inr (some p)))]) (stₚ := [.inl 0, .inr (.inr (some p))]) (hₚ := gc_h sh I J A) (C := ((True ∧ True) ∧ True)) rfl ⟨⟨trivial, trivial⟩, trivial⟩ ?_
  refine gv_put hD rfl rfl S_p ⟨by decide, (gz_sh B_p)⟩ rfl trivial ?_
  refine gc_st (k := 6) hI S_p rfl (gz_sh R_p) (lo := 0) (hi := 1001) rfl rfl (by (/-0-/first | omega | (simp only [gz_hd] at *; omega))) (by (/-1-/first | omega | (simp only [gz_hd] at *; omega))) (fun I5 hI5 q6 p6 => ?_)
  have FI5 := gc_frs (W := fun q j => (q = p ∧ j = 5) ∨ (q = p ∧ j = 6) ∨ (q = p ∧ j = 7) ∨ (q = p ∧ j = 8)) FI (Or.inr (Or.inl ⟨rfl, rfl⟩)) p6
  have t7 := gz_hi (p6 p 1 (fun h => absurd h.2 (by first | exact gz_ne rfl | decide)))
  show gv_X _ _ (5, [(0, .inr (.inr (some p)))], [], sh, gc_h sh I5 J A)
  refine gv_run 1 true hD (pcₚ := 6) (lvₚ := [(0, .inr (.inr (some p)))]) (stₚ := [.inr (.inr (some p))]) (hₚ := gc_h sh I5 J A) (C := (True ∧ True)) rfl ⟨trivial, trivial⟩ ?_
  obtain ⟨r11, h11, E11, P11⟩ := d_X9_advance (ws0 := ws0) (tb := tb) hws htb sh ro I5 J A hI5 p  hp    (by (/-2-/first | (have o1 := gz_sh f1; have o2 := gz_sh t7; omega) | (simp only [gz_hd] at *; omega))) 
  obtain ⟨I12, J13, rfl, hI12, g11, k11, ⟨rfl, V11_0, V11_1, V11_2, V11_3, V11_4, q11⟩⟩ := P11
  replace q11 := gz_hi q11
  have FI12 := gc_frc (W := fun q j => (q = p ∧ j = 5) ∨ (q = p ∧ j = 6) ∨ (q = p ∧ j = 7) ∨ (q = p ∧ j = 8)) (V := fun q j => (q = p ∧ j = 5) ∨ (q = p ∧ j = 6) ∨ (q = p ∧ j = 7) ∨ (q = p ∧ j = 8)) FI5 (fun q j h => (h.elim (fun h => (Or.inl h)) (fun h => (h.elim (fun h => (Or.inr (Or.inl h))) (fun h => (h.elim (fun h => (Or.inr (Or.inr (Or.inl h)))) (fun h => (Or.inr (Or.inr (Or.inr h)))))))))) g11
  have FJ13 := gc_frc (W := fun q j => (q = p ∧ j = 9)) (V := fun q j => (q = p ∧ j = 9)) FJ (fun q j h => h) k11
  refine gv_callV hD rfl (As := []) (st := []) rfl (gz_sh B_p) S_p rfl (gc_lV9 hws rfl) (Nat.le_of_ble_eq_true rfl) (gz_Ev_mono (d := 2) (by decide) E11) ?_
  show gv_X _ _ (9, [(0, .inr (.inr (some p)))], [], sh, gc_h sh I12 J13 A)
  exact gv_vret hD rfl ⟨I12, J13, rfl, hI12, FI12, FJ13, ⟨rfl, by (/-3-/first | omega | (simp only [gz_hd] at *; omega)), by (/-4-/first | omega | (simp only [gz_hd] at *; omega)), by (/-5-/first | omega | (simp only [gz_hd] at *; omega)), by (/-6-/first | omega | (simp only [gz_hd] at *; omega)), by (/-7-/first | omega | (simp only [gz_hd] at *; omega)), by (/-8-/first | (have o1 := gz_sh q11; have o2 := gz_sh t7; omega) | (simp only [gz_hd] at *; omega)), (gz_sh q11).2.2⟩⟩
set_option maxHeartbeats 8000000 in
set_option maxRecDepth 100000 in
theorem d_X9_onlyName {ws0 : List Cond} {tb : String → gz_T} (hws : gc_Ws ws0) (htb : gc_tbs tb) (sh : gz_Sh) (ro : Nat → Nat) (I : gr_I) (J : gr_J) (A : gc_A) (hI : gc_Inv ro I) (p : Nat)  (hp : gc_isText sh ro A p)   : ∃ r hₚ, gz_Ev ws0 tb 4 (yX9_onlyName, cX9_onlyName, 3, (some .long)) [.inr (.inr (some p))] sh (gc_h sh I J A) r sh hₚ 0 0 ∧ (∃ (Iₚ : gr_I) (Jₚ : gr_J), hₚ = gc_h sh Iₚ Jₚ A ∧ gc_Inv ro Iₚ ∧ (∀ q j : Nat, ((q = p ∧ j = 5) ∨ (q = p ∧ j = 6) ∨ (q = p ∧ j = 7) ∨ (q = p ∧ j = 8)) ∨ Iₚ q j = I q j) ∧ (∀ q j : Nat, ((q = p ∧ j = 9)) ∨ Jₚ q j = J q j) ∧ (∃ z : Int64, r = some (.inr (.inl z)) ∧ (Iₚ p 5 ≤ Iₚ p 6) ∧ (Iₚ p 7 = 5 ∨ Iₚ p 6 ≤ Iₚ p 1) ∧ (Iₚ p 5 ≤ Iₚ p 1) ∧ (Iₚ p 7 = 4 ∨ (Iₚ p 5 < Iₚ p 6 ∧ Iₚ p 5 < Iₚ p 1)) ∧ (Iₚ p 7 = 3 → 2 ≤ Iₚ p 6 - Iₚ p 5 ∧ Iₚ p 6 - Iₚ p 5 ≤ 14) ∧ (Iₚ p 1 = I p 1))) := by
  have FI : ∀ q j : Nat, ((q = p ∧ j = 5) ∨ (q = p ∧ j = 6) ∨ (q = p ∧ j = 7) ∨ (q = p ∧ j = 8)) ∨ I q j = I q j := fun _ _ => Or.inr rfl
  have FJ : ∀ q j : Nat, ((q = p ∧ j = 9)) ∨ J q j = J q j := fun _ _ => Or.inr rfl
  obtain ⟨S_p, R_p, B_p, A_p_0, S_p_1, R_p_1, B_p_1, A_p_2, S_p_2, R_p_2, B_p_2, A_p_3, S_p_3, R_p_3, B_p_3⟩ := id hp
  replace R_p := gz_hi R_p
  replace B_p := gz_hi B_p
  replace R_p_1 := gz_hi R_p_1
  replace B_p_1 := gz_hi B_p_1
  replace R_p_2 := gz_hi R_p_2
  replace B_p_2 := gz_hi B_p_2
  replace R_p_3 := gz_hi R_p_3
  replace B_p_3 := gz_hi B_p_3
  have hD : gv_D (gc_E9 ws0 tb 3 (yX9_onlyName, cX9_onlyName, 3, (some .long)) kX9_onlyName) := gq_of oX9_onlyName
  refine gc_ev9 (d := 3) (l := kX9_onlyName) (Po := fun r hₚ => (∃ (Iₚ : gr_I) (Jₚ : gr_J), hₚ = gc_h sh Iₚ Jₚ A ∧ gc_Inv ro Iₚ ∧ (∀ q j : Nat, ((q = p ∧ j = 5) ∨ (q = p ∧ j = 6) ∨ (q = p ∧ j = 7) ∨ (q = p ∧ j = 8)) ∨ Iₚ q j = I q j) ∧ (∀ q j : Nat, ((q = p ∧ j = 9)) ∨ Jₚ q j = J q j) ∧ (∃ z : Int64, r = some (.inr (.inl z)) ∧ (Iₚ p 5 ≤ Iₚ p 6) ∧ (Iₚ p 7 = 5 ∨ Iₚ p 6 ≤ Iₚ p 1) ∧ (Iₚ p 5 ≤ Iₚ p 1) ∧ (Iₚ p 7 = 4 ∨ (Iₚ p 5 < Iₚ p 6 ∧ Iₚ p 5 < Iₚ p 1)) ∧ (Iₚ p 7 = 3 → 2 ≤ Iₚ p 6 - Iₚ p 5 ∧ Iₚ p 6 - Iₚ p 5 ≤ 14) ∧ (Iₚ p 1 = I p 1)))) htb rfl (Nat.le_of_ble_eq_true rfl) ?_
  have L36 : ∀ (I5 : gr_I) (J6 : gr_J) (s0_7 : Int64), gc_Inv ro I5 → (∀ q j : Nat, ((q = p ∧ j = 5) ∨ (q = p ∧ j = 6) ∨ (q = p ∧ j = 7) ∨ (q = p ∧ j = 8)) ∨ I5 q j = I q j) → (∀ q j : Nat, ((q = p ∧ j = 9)) ∨ J6 q j = J q j) → ((I5 p 5 ≤ I5 p 6) ∧ (I5 p 7 = 5 ∨ I5 p 6 ≤ I5 p 1) ∧ (I5 p 5 ≤ I5 p 1) ∧ (I5 p 7 = 4 ∨ (I5 p 5 < I5 p 6 ∧ I5 p 5 < I5 p 1)) ∧ (I5 p 7 = 3 → 2 ≤ I5 p 6 - I5 p 5 ∧ I5 p 6 - I5 p 5 ≤ 14) ∧ (I5 p 1 = I p 1)) → gv_X (gc_E9 ws0 tb 3 (yX9_onlyName, cX9_onlyName, 3, (some .long)) kX9_onlyName) (gv_Q cX9_onlyName (some .long) sh (fun r hₚ => (∃ (Iₚ : gr_I) (Jₚ : gr_J), hₚ = gc_h sh Iₚ Jₚ A ∧ gc_Inv ro Iₚ ∧ (∀ q j : Nat, ((q = p ∧ j = 5) ∨ (q = p ∧ j = 6) ∨ (q = p ∧ j = 7) ∨ (q = p ∧ j = 8)) ∨ Iₚ q j = I q j) ∧ (∀ q j : Nat, ((q = p ∧ j = 9)) ∨ Jₚ q j = J q j) ∧ (∃ z : Int64, r = some (.inr (.inl z)) ∧ (Iₚ p 5 ≤ Iₚ p 6) ∧ (Iₚ p 7 = 5 ∨ Iₚ p 6 ≤ Iₚ p 1) ∧ (Iₚ p 5 ≤ Iₚ p 1) ∧ (Iₚ p 7 = 4 ∨ (Iₚ p 5 < Iₚ p 6 ∧ Iₚ p 5 < Iₚ p 1)) ∧ (Iₚ p 7 = 3 → 2 ≤ Iₚ p 6 - Iₚ p 5 ∧ Iₚ p 6 - Iₚ p 5 ≤ 14) ∧ (Iₚ p 1 = I p 1))))) (36, [], [.inr (.inl s0_7)], sh, gc_h sh I5 J6 A) := by
    intro I5 J6 s0_7 hI5 FI5 FJ6 m_7
    obtain ⟨e0_7, e1_7, e2_7, e3_7, e4_7, e5_7⟩ := gz_h6 m_7
    exact gv_lret hD rfl ⟨I5, J6, rfl, hI5, FI5, FJ6, ⟨_, rfl, by (/-0-/first | (have o1 := gz_sh e0_7; omega) | (simp only [gz_hd] at *; omega)), by (/-1-/first | (have o1 := gz_sh e1_7; omega) | (simp only [gz_hd] at *; omega)), by (/-2-/first | (have o1 := gz_sh e2_7; omega) | (simp only [gz_hd] at *; omega)), by (/-3-/first | (have o1 := gz_sh e3_7; omega) | (simp only [gz_hd] at *; omega)), by (/-4-/first | (have o1 := gz_sh e4_7; omega) | (simp only [gz_hd] at *; omega)), by (/-5-/first | (have o1 := gz_sh e5_7; omega) | (simp only [gz_hd] at *; omega))⟩⟩
  refine gv_run 1 true hD (pcₚ := 1) (lvₚ := [(0, .inr (.inr (some p)))]) (stₚ := [.inr (.inr (some p))]) (hₚ := gc_h sh I J A) (C := (True ∧ True)) rfl ⟨trivial, trivial⟩ ?_
  obtain ⟨r12, h12, E12, P12⟩ := d_X9_rewind (ws0 := ws0) (tb := tb) hws htb sh ro I J A hI p  hp     
  obtain ⟨I13, J14, rfl, hI13, g12, k12, ⟨rfl, V12_0, V12_1, V12_2, V12_3, V12_4, q12⟩⟩ := P12
  replace q12 := gz_hi q12
  have FI13 := gc_frc (W := fun q j => (q = p ∧ j = 5) ∨ (q = p ∧ j = 6) ∨ (q = p ∧ j = 7) ∨ (q = p ∧ j = 8)) (V := fun q j => (q = p ∧ j = 5) ∨ (q = p ∧ j = 6) ∨ (q = p ∧ j = 7) ∨ (q = p ∧ j = 8)) FI (fun q j h => (h.elim (fun h => (Or.inl h)) (fun h => (h.elim (fun h => (Or.inr (Or.inl h))) (fun h => (h.elim (fun h => (Or.inr (Or.inr (Or.inl h)))) (fun h => (Or.inr (Or.inr (Or.inr h)))))))))) g12
  have FJ14 := gc_frc (W := fun q j => (q = p ∧ j = 9)) (V := fun q j => (q = p ∧ j = 9)) FJ (fun q j h => h) k12
  have t15 := gz_hi ((g12 p 1).resolve_left (fun h => h.elim (fun h => absurd h.2 (by first | exact gz_ne rfl | decide)) (fun h => h.elim (fun h => absurd h.2 (by first | exact gz_ne rfl | decide)) (fun h => h.elim (fun h => absurd h.2 (by first | exact gz_ne rfl | decide)) (fun h => absurd h.2 (by first | exact gz_ne rfl | decide))))))
  have f18 := gz_hi ((show 0 ≤ I13 p 7 ∧ I13 p 7 ≤ 125 from gc_in2 hI13 (gz_sh R_p) rfl rfl rfl))
  refine gv_callV hD rfl (As := []) (st := []) rfl (gz_sh B_p) S_p rfl (gc_lV9 hws rfl) (Nat.le_of_ble_eq_true rfl) (gz_Ev_mono (d := 3) (by decide) E12) ?_
  show gv_X _ _ (4, [(0, .inr (.inr (some p)))], [], sh, gc_h sh I13 J14 A)
  refine gv_run 1 true hD (pcₚ := 5) (lvₚ := [(0, .inr (.inr (some p)))]) (stₚ := [.inr (.inr (some p))]) (hₚ := gc_h sh I13 J14 A) (C := (True ∧ True)) rfl ⟨trivial, trivial⟩ ?_
  refine gv_get hD rfl rfl S_p ⟨by decide, (gz_sh B_p)⟩ (gc_hI S_p rfl) ?_
  show gv_X _ _ (8, [(0, .inr (.inr (some p)))], [.inl (I13 p 7)], sh, gc_h sh I13 J14 A)
  refine gv_run 1 true hD (pcₚ := 9) (lvₚ := [(0, .inr (.inr (some p)))]) (stₚ := [.inl 1, .inl (I13 p 7)]) (hₚ := gc_h sh I13 J14 A) (C := (True ∧ True)) rfl ⟨trivial, trivial⟩ ?_
  refine gv_icmp_eq (t := 14) hD rfl rfl ⟨⟨by (/-6-/first | (have o1 := gz_sh f18; omega) | (simp only [gz_hd] at *; omega)), by (/-7-/first | (have o1 := gz_sh f18; omega) | (simp only [gz_hd] at *; omega))⟩, ⟨by (/-8-/first | omega | (simp only [gz_hd] at *; omega)), by (/-9-/first | omega | (simp only [gz_hd] at *; omega))⟩⟩ (fun c20 => ?_) (fun c20 => ?_)
  · show gv_X _ _ (14, [(0, .inr (.inr (some p)))], [], sh, gc_h sh I13 J14 A)
    refine gv_run 1 true hD (pcₚ := 15) (lvₚ := [(0, .inr (.inr (some p)))]) (stₚ := [.inr (.inr (some p))]) (hₚ := gc_h sh I13 J14 A) (C := (True ∧ True)) rfl ⟨trivial, trivial⟩ ?_
    refine gv_get hD rfl rfl S_p ⟨by decide, (gz_sh B_p)⟩ (gc_hJ S_p rfl) ?_
    show gv_X _ _ (18, [(0, .inr (.inr (some p)))], [.inr (.inl (J14 p 9))], sh, gc_h sh I13 J14 A)
    refine gv_run 2 true hD (pcₚ := 20) (lvₚ := [(1, .inr (.inl (J14 p 9))), (0, .inr (.inr (some p)))]) (stₚ := [.inr (.inr (some p))]) (hₚ := gc_h sh I13 J14 A) (C := ((True ∧ True) ∧ True)) rfl ⟨⟨trivial, trivial⟩, trivial⟩ ?_
    obtain ⟨r21, h21, E21, P21⟩ := d_X9_advance (ws0 := ws0) (tb := tb) hws htb sh ro I13 J14 A hI13 p  hp    (by (/-10-/first | omega | (simp only [gz_hd] at *; omega))) 
    obtain ⟨I22, J23, rfl, hI22, g21, k21, ⟨rfl, V21_0, V21_1, V21_2, V21_3, V21_4, q21⟩⟩ := P21
    replace q21 := gz_hi q21
    have FI22 := gc_frc (W := fun q j => (q = p ∧ j = 5) ∨ (q = p ∧ j = 6) ∨ (q = p ∧ j = 7) ∨ (q = p ∧ j = 8)) (V := fun q j => (q = p ∧ j = 5) ∨ (q = p ∧ j = 6) ∨ (q = p ∧ j = 7) ∨ (q = p ∧ j = 8)) FI13 (fun q j h => (h.elim (fun h => (Or.inl h)) (fun h => (h.elim (fun h => (Or.inr (Or.inl h))) (fun h => (h.elim (fun h => (Or.inr (Or.inr (Or.inl h)))) (fun h => (Or.inr (Or.inr (Or.inr h)))))))))) g21
    have FJ23 := gc_frc (W := fun q j => (q = p ∧ j = 9)) (V := fun q j => (q = p ∧ j = 9)) FJ14 (fun q j h => h) k21
    have f27 := gz_hi ((show 0 ≤ I22 p 7 ∧ I22 p 7 ≤ 125 from gc_in2 hI22 (gz_sh R_p) rfl rfl rfl))
    have t28 : I13 p 5 ≤ I22 p 5 ∧ (I13 p 7 = 4 ∨ I13 p 5 < I22 p 5) := by (/-11-/first | (and_intros; (have o1 := gz_sh q21; omega); (have o1 := gz_sh q21; omega)) | (simp only [gz_hd] at *; omega))
    clear V12_0 V12_1 V12_2 V12_3 V12_4
    refine gv_callV hD rfl (As := []) (st := []) rfl (gz_sh B_p) S_p rfl (gc_lV9 hws rfl) (Nat.le_of_ble_eq_true rfl) (gz_Ev_mono (d := 2) (by decide) E21) ?_
    show gv_X _ _ (23, [(1, .inr (.inl (J14 p 9))), (0, .inr (.inr (some p)))], [], sh, gc_h sh I22 J23 A)
    refine gv_run 1 true hD (pcₚ := 24) (lvₚ := [(1, .inr (.inl (J14 p 9))), (0, .inr (.inr (some p)))]) (stₚ := [.inr (.inr (some p))]) (hₚ := gc_h sh I22 J23 A) (C := (True ∧ True)) rfl ⟨trivial, trivial⟩ ?_
    refine gv_get hD rfl rfl S_p ⟨by decide, (gz_sh B_p)⟩ (gc_hI S_p rfl) ?_
    show gv_X _ _ (27, [(1, .inr (.inl (J14 p 9))), (0, .inr (.inr (some p)))], [.inl (I22 p 7)], sh, gc_h sh I22 J23 A)
    refine gv_run 1 true hD (pcₚ := 28) (lvₚ := [(1, .inr (.inl (J14 p 9))), (0, .inr (.inr (some p)))]) (stₚ := [.inl 4, .inl (I22 p 7)]) (hₚ := gc_h sh I22 J23 A) (C := (True ∧ True)) rfl ⟨trivial, trivial⟩ ?_
    refine gv_icmp_ne (t := 35) hD rfl rfl ⟨⟨by (/-12-/first | (have o1 := gz_sh f27; omega) | (simp only [gz_hd] at *; omega)), by (/-13-/first | (have o1 := gz_sh f27; omega) | (simp only [gz_hd] at *; omega))⟩, ⟨by (/-14-/first | omega | (simp only [gz_hd] at *; omega)), by (/-15-/first | omega | (simp only [gz_hd] at *; omega))⟩⟩ (fun c30 => ?_) (fun c30 => ?_)
    · show gv_X _ _ (35, [(1, .inr (.inl (J14 p 9))), (0, .inr (.inr (some p)))], [], sh, gc_h sh I22 J23 A)
      refine gv_run 1 true hD (pcₚ := 36) (lvₚ := [(1, .inr (.inl (J14 p 9))), (0, .inr (.inr (some p)))]) (stₚ := [.inr (.inl (Int64.ofNat 0))]) (hₚ := gc_h sh I22 J23 A) (C := (True ∧ True)) rfl ⟨trivial, trivial⟩ ?_
      refine gv_pick [] rfl ?_
      exact L36 I22 J23 (Int64.ofNat 0) hI22 FI22 FJ23 (by (/-16-/first | (and_intros; (omega); (omega); (omega); (have o1 := gz_sh f27; have o2 := gz_sh q12; have o3 := gz_sh q21; omega); (omega); (have o1 := gz_sh q12; have o2 := gz_sh q21; omega)) | (simp only [gz_hd] at *; omega)))
    · show gv_X _ _ (31, [(1, .inr (.inl (J14 p 9))), (0, .inr (.inr (some p)))], [], sh, gc_h sh I22 J23 A)
      refine gv_run 2 true hD (pcₚ := 36) (lvₚ := [(1, .inr (.inl (J14 p 9))), (0, .inr (.inr (some p)))]) (stₚ := [.inr (.inl (J14 p 9))]) (hₚ := gc_h sh I22 J23 A) (C := ((True ∧ True) ∧ True)) rfl ⟨⟨trivial, trivial⟩, trivial⟩ ?_
      refine gv_pick [] rfl ?_
      exact L36 I22 J23 (J14 p 9) hI22 FI22 FJ23 (by (/-17-/first | (and_intros; (omega); (omega); (omega); (omega); (omega); (have o1 := gz_sh q12; have o2 := gz_sh q21; omega)) | (simp only [gz_hd] at *; omega)))
  · show gv_X _ _ (12, [(0, .inr (.inr (some p)))], [], sh, gc_h sh I13 J14 A)
    refine gv_run 1 true hD (pcₚ := 13) (lvₚ := [(0, .inr (.inr (some p)))]) (stₚ := [.inr (.inl (Int64.ofNat 0))]) (hₚ := gc_h sh I13 J14 A) (C := (True ∧ True)) rfl ⟨trivial, trivial⟩ ?_
    exact gv_lret hD rfl ⟨I13, J14, rfl, hI13, FI13, FJ14, ⟨_, rfl, by (/-18-/first | omega | (simp only [gz_hd] at *; omega)), by (/-19-/first | omega | (simp only [gz_hd] at *; omega)), by (/-20-/first | omega | (simp only [gz_hd] at *; omega)), by (/-21-/first | omega | (simp only [gz_hd] at *; omega)), by (/-22-/first | omega | (simp only [gz_hd] at *; omega)), by (/-23-/first | (have o1 := gz_sh t15; omega) | (simp only [gz_hd] at *; omega))⟩⟩
