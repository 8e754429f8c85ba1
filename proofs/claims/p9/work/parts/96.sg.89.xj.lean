set_option maxHeartbeats 8000000 in
set_option maxRecDepth 100000 in
theorem d_X5_setBarred_z {ws0 : List Cond} {tb : String → gz_T} (hws : gc_Ws ws0) (htb : gc_tbs tb) (sh : gz_Sh) (ro : Nat → Nat) (I : gr_I) (J : gr_J) (A : gc_A) (hI : gc_Inv ro I) (a1 : Int) (a2 : Int) (hb : gc_Base sh ro A) (ha1 : 0 ≤ a1 ∧ a1 ≤ 95) (ha2 : 0 ≤ a2 ∧ a2 ≤ 1)  : ∃ r hₚ, gz_Ev ws0 tb 1 (yX5_setBarred, cX5_setBarred, 3, none) [.inr (.inr (some 61)), .inl a1, .inl a2] sh (gc_h sh I J A) r sh hₚ 0 0 ∧ (∃ (Iₚ : gr_I) (Jₚ : gr_J), hₚ = gc_h sh Iₚ Jₚ A ∧ gc_Inv ro Iₚ ∧ (∀ q j : Nat, ((q = 61 ∧ j = 4) ∨ q = 62) ∨ Iₚ q j = I q j) ∧ (∀ q j : Nat, (False) ∨ Jₚ q j = J q j) ∧ r = none ∧ (Iₚ 61 4 = 0 ∨ I 61 3 = 0)) := by
  have FI : ∀ q j : Nat, ((q = 61 ∧ j = 4) ∨ q = 62) ∨ I q j = I q j := fun _ _ => Or.inr rfl
  have FJ : ∀ q j : Nat, (False) ∨ J q j = J q j := fun _ _ => Or.inr rfl
  have A_61_5 : A 61 5 = some 62 := gc_bA_61_5 hb
  have B_61 := gz_hi (show 61 < 1000000 from by decide)
  have B_62 := gz_hi (show 62 < 1000000 from by decide)
  have R_61 := gz_hi (show ro 61 = 72 from gc_bR_61 hb)
  have R_62 := gz_hi (show ro 62 = 2 from gc_bR_62 hb)
  have S_61 : sh[61]? = some (false, 5, 19) := gc_bS_61 hb
  have S_62 : sh[62]? = some (true, 3, 96) := gc_bS_62 hb
  have hD : gv_D (gc_E5 ws0 tb 0 (yX5_setBarred, cX5_setBarred, 3, none) kX5_setBarred) := gq_of oX5_setBarred
  refine gc_ev5 (d := 0) (l := kX5_setBarred) (Po := fun r hₚ => (∃ (Iₚ : gr_I) (Jₚ : gr_J), hₚ = gc_h sh Iₚ Jₚ A ∧ gc_Inv ro Iₚ ∧ (∀ q j : Nat, ((q = 61 ∧ j = 4) ∨ q = 62) ∨ Iₚ q j = I q j) ∧ (∀ q j : Nat, (False) ∨ Jₚ q j = J q j) ∧ r = none ∧ (Iₚ 61 4 = 0 ∨ I 61 3 = 0))) htb rfl (Nat.le_of_ble_eq_true rfl) ?_
  have f1 := gz_hi ((gc_b_72_3 hI (gz_sh R_61)))
  have L19 : ∀ (I3 : gr_I) (J4 : gr_J) , gc_Inv ro I3 → (∀ q j : Nat, ((q = 61 ∧ j = 4) ∨ q = 62) ∨ I3 q j = I q j) → (∀ q j : Nat, (False) ∨ J4 q j = J q j) → ((I3 61 4 = 0 ∨ I 61 3 = 0)) → gv_X (gc_E5 ws0 tb 0 (yX5_setBarred, cX5_setBarred, 3, none) kX5_setBarred) (gv_Q cX5_setBarred none sh (fun r hₚ => (∃ (Iₚ : gr_I) (Jₚ : gr_J), hₚ = gc_h sh Iₚ Jₚ A ∧ gc_Inv ro Iₚ ∧ (∀ q j : Nat, ((q = 61 ∧ j = 4) ∨ q = 62) ∨ Iₚ q j = I q j) ∧ (∀ q j : Nat, (False) ∨ Jₚ q j = J q j) ∧ r = none ∧ (Iₚ 61 4 = 0 ∨ I 61 3 = 0)))) (19, [], [], sh, gc_h sh I3 J4 A) := by
    intro I3 J4 hI3 FI3 FJ4 m_5
    have e0_5 := m_5
    exact gv_vret hD rfl ⟨I3, J4, rfl, hI3, FI3, FJ4, ⟨rfl, by (/-0-/first | omega | (simp only [gz_hd] at *; omega))⟩⟩
  refine gv_run 1 true hD (pcₚ := 1) (lvₚ := [(0, .inr (.inr (some 61))), (1, .inl a1), (2, .inl a2)]) (stₚ := [.inr (.inr (some 61))]) (hₚ := gc_h sh I J A) (C := (True ∧ True)) rfl ⟨trivial, trivial⟩ ?_
  refine gv_get hD rfl rfl S_61 ⟨by decide, (gz_sh B_61)⟩ (gc_hI S_61 rfl) ?_
  show gv_X _ _ (4, [(0, .inr (.inr (some 61))), (1, .inl a1), (2, .inl a2)], [.inl (I 61 3)], sh, gc_h sh I J A)
  refine gv_if_eq (t := 19) hD rfl rfl ⟨by (/-1-/first | (have o1 := gz_sh f1; omega) | (simp only [gz_hd] at *; omega)), by (/-2-/first | (have o1 := gz_sh f1; omega) | (simp only [gz_hd] at *; omega))⟩ (fun c9 => ?_) (fun c9 => ?_)
  · show gv_X _ _ (19, [(0, .inr (.inr (some 61))), (1, .inl a1), (2, .inl a2)], [], sh, gc_h sh I J A)
    refine gv_pick [] rfl ?_
    exact L19 I J hI FI FJ (by (/-3-/first | omega | (simp only [gz_hd] at *; omega)))
  · show gv_X _ _ (7, [(0, .inr (.inr (some 61))), (1, .inl a1), (2, .inl a2)], [], sh, gc_h sh I J A)
    refine gv_run 1 true hD (pcₚ := 8) (lvₚ := [(0, .inr (.inr (some 61))), (1, .inl a1), (2, .inl a2)]) (stₚ := [.inr (.inr (some 61))]) (hₚ := gc_h sh I J A) (C := (True ∧ True)) rfl ⟨trivial, trivial⟩ ?_
    refine gv_get hD rfl rfl S_61 ⟨by decide, (gz_sh B_61)⟩ (gc_hA S_61 rfl A_61_5) ?_
    show gv_X _ _ (11, [(0, .inr (.inr (some 61))), (1, .inl a1), (2, .inl a2)], [.inr (.inr (some 62))], sh, gc_h sh I J A)
    refine gv_run 2 true hD (pcₚ := 13) (lvₚ := [(0, .inr (.inr (some 61))), (1, .inl a1), (2, .inl a2)]) (stₚ := [.inl a2, .inl a1, .inr (.inr (some 62))]) (hₚ := gc_h sh I J A) (C := ((True ∧ True) ∧ True)) rfl ⟨⟨trivial, trivial⟩, trivial⟩ ?_
    have f10 := gz_hi (gw_nar_boolean (x := a2))
    refine gv_zast hD rfl S_62 ⟨by decide, (gz_sh B_62)⟩ ⟨by (/-4-/first | omega | (simp only [gz_hd] at *; omega)), by (/-5-/first | omega | (simp only [gz_hd] at *; omega))⟩ ?_
    refine gc_st hI S_62 rfl (gz_sh R_62) (lo := 0) (hi := 1) rfl rfl (by (/-6-/first | (have o1 := gz_sh f10; omega) | (simp only [gz_hd] at *; omega))) (by (/-7-/first | (have o1 := gz_sh f10; omega) | (simp only [gz_hd] at *; omega))) (fun I11 hI11 q12 p12 => ?_)
    have FI11 := gc_frs (W := fun q j => (q = 61 ∧ j = 4) ∨ q = 62) FI (Or.inr rfl) p12
    have t13 := gz_hi (p12 61 3 (fun h => absurd h.1 (by first | exact gz_ne rfl | decide)))
    show gv_X _ _ (14, [(0, .inr (.inr (some 61))), (1, .inl a1), (2, .inl a2)], [], sh, gc_h sh I11 J A)
    refine gv_run 2 true hD (pcₚ := 16) (lvₚ := [(0, .inr (.inr (some 61))), (1, .inl a1), (2, .inl a2)]) (stₚ := [.inl 0, .inr (.inr (some 61))]) (hₚ := gc_h sh I11 J A) (C := ((True ∧ True) ∧ True)) rfl ⟨⟨trivial, trivial⟩, trivial⟩ ?_
    refine gv_put hD rfl rfl S_61 ⟨by decide, (gz_sh B_61)⟩ rfl (by (/-8-/first | omega | (simp only [gz_hd] at *; omega))) ?_
    refine gc_st (k := 4) hI11 S_61 rfl (gz_sh R_61) (lo := 0) (hi := 1) rfl rfl (by (/-9-/first | omega | (simp only [gz_hd] at *; omega))) (by (/-10-/first | omega | (simp only [gz_hd] at *; omega))) (fun I15 hI15 q16 p16 => ?_)
    have FI15 := gc_frs (W := fun q j => (q = 61 ∧ j = 4) ∨ q = 62) FI11 (Or.inl ⟨rfl, rfl⟩) p16
    have t17 := gz_hi (p16 61 3 (fun h => absurd h.2 (by first | exact gz_ne rfl | decide)))
    show gv_X _ _ (19, [(0, .inr (.inr (some 61))), (1, .inl a1), (2, .inl a2)], [], sh, gc_h sh I15 J A)
    refine gv_pick [] rfl ?_
    exact L19 I15 J hI15 FI15 FJ (by (/-11-/first | omega | (simp only [gz_hd] at *; omega)))
