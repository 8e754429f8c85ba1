set_option maxHeartbeats 8000000 in
set_option maxRecDepth 100000 in
theorem d_X9_putBytes_q {ws0 : List Cond} {tb : String → gz_T} (hws : gc_Ws ws0) (htb : gc_tbs tb) (sh : gz_Sh) (ro : Nat → Nat) (I : gr_I) (J : gr_J) (A : gc_A) (hI : gc_Inv ro I) (p : Nat) (m : Nat) (a1 : Nat) (a2 : Int) (a3 : Int) (hp : gc_isText sh ro A p) (S_a1 : sh[a1]? = some (true, 0, m)) (R_a1 : ro a1 = 36) (B_a1 : a1 < 1000000) (M_a1 : m < 2147483648) (ha2 : 0 ≤ a2 ∧ a2 ≤ 60000) (ha3 : 0 ≤ a3 ∧ a3 ≤ 1000)  : ∃ r hₚ, gz_Ev ws0 tb 2 (yX9_putBytes, cX9_putBytes, 5, none) [.inr (.inr (some p)), .inr (.inr (some a1)), .inl a2, .inl a3] sh (gc_h sh I J A) r sh hₚ 0 0 ∧ (∃ (Iₚ : gr_I) (Jₚ : gr_J), hₚ = gc_h sh Iₚ Jₚ A ∧ gc_Inv ro Iₚ ∧ (∀ q j : Nat, ((q = p ∧ j = 1) ∨ q = (p + 1)) ∨ Iₚ q j = I q j) ∧ (∀ q j : Nat, (False) ∨ Jₚ q j = J q j) ∧ r = none) := by
  have FI : ∀ q j : Nat, ((q = p ∧ j = 1) ∨ q = (p + 1)) ∨ I q j = I q j := fun _ _ => Or.inr rfl
  have FJ : ∀ q j : Nat, (False) ∨ J q j = J q j := fun _ _ => Or.inr rfl
  obtain ⟨S_p, R_p, B_p, A_p_0, S_p_1, R_p_1, B_p_1, A_p_2, S_p_2, R_p_2, B_p_2, A_p_3, S_p_3, R_p_3, B_p_3⟩ := id hp
  replace R_p := gz_hi R_p
  replace B_p := gz_hi B_p
  replace R_p_1 := gz_hi R_p_1
  replace B_p_1 := gz_hi B_p_1
  replace R_p_2 := gz_hi R_p_2
  replace B_p_2 := gz_hi B_p_2
  replace R_p_3 := gz_hi R_p_3
  replace B_p_3 := gz_hi B_p_3
  have hD : gv_D (gc_E9 ws0 tb 1 (yX9_putBytes, cX9_putBytes, 5, none) kX9_putBytes) := gq_of oX9_putBytes
  refine gc_ev9 (d := 1) (l := kX9_putBytes) (Po := fun r hₚ => (∃ (Iₚ : gr_I) (Jₚ : gr_J), hₚ = gc_h sh Iₚ Jₚ A ∧ gc_Inv ro Iₚ ∧ (∀ q j : Nat, ((q = p ∧ j = 1) ∨ q = (p + 1)) ∨ Iₚ q j = I q j) ∧ (∀ q j : Nat, (False) ∨ Jₚ q j = J q j) ∧ r = none)) htb rfl (Nat.le_of_ble_eq_true rfl) ?_
  have L3 : ∀ (n9 : Nat) (I1 : gr_I) (J2 : gr_J) (v4_3 : Int), (61001 - v4_3).toNat < n9 → gc_Inv ro I1 → (∀ q j : Nat, ((q = p ∧ j = 1) ∨ q = (p + 1)) ∨ I1 q j = I q j) → (∀ q j : Nat, (False) ∨ J2 q j = J q j) → ((0 ≤ a2 ∧ a2 ≤ 60000) ∧ (0 ≤ a3 ∧ a3 ≤ 1000) ∧ (0 ≤ v4_3 ∧ v4_3 ≤ 61000)) → gv_X (gc_E9 ws0 tb 1 (yX9_putBytes, cX9_putBytes, 5, none) kX9_putBytes) (gv_Q cX9_putBytes none sh (fun r hₚ => (∃ (Iₚ : gr_I) (Jₚ : gr_J), hₚ = gc_h sh Iₚ Jₚ A ∧ gc_Inv ro Iₚ ∧ (∀ q j : Nat, ((q = p ∧ j = 1) ∨ q = (p + 1)) ∨ Iₚ q j = I q j) ∧ (∀ q j : Nat, (False) ∨ Jₚ q j = J q j) ∧ r = none))) (3, [(0, .inr (.inr (some p))), (1, .inr (.inr (some a1))), (2, .inl a2), (3, .inl a3), (4, .inl v4_3)], [], sh, gc_h sh I1 J2 A) := by
    intro n9
    induction n9 with
    | zero => intro I1 J2 v4_3 hn; (/-0-/first | omega | (simp only [gz_hd] at *; omega))
    | succ n9 ih3 =>
      intro I1 J2 v4_3 hn hI1 FI1 FJ2 m_3
      obtain ⟨ha2_3, ha3_3, hv4_3⟩ := gz_h3 m_3
      have L32 : gv_X (gc_E9 ws0 tb 1 (yX9_putBytes, cX9_putBytes, 5, none) kX9_putBytes) (gv_Q cX9_putBytes none sh (fun r hₚ => (∃ (Iₚ : gr_I) (Jₚ : gr_J), hₚ = gc_h sh Iₚ Jₚ A ∧ gc_Inv ro Iₚ ∧ (∀ q j : Nat, ((q = p ∧ j = 1) ∨ q = (p + 1)) ∨ Iₚ q j = I q j) ∧ (∀ q j : Nat, (False) ∨ Jₚ q j = J q j) ∧ r = none))) (32, [], [], sh, gc_h sh I1 J2 A) := by
        exact gv_vret hD rfl ⟨I1, J2, rfl, hI1, FI1, FJ2, rfl⟩
      refine gv_run 4 true hD (pcₚ := 8) (lvₚ := [(0, .inr (.inr (some p))), (1, .inr (.inr (some a1))), (2, .inl a2), (3, .inl a3), (4, .inl v4_3)]) (stₚ := [.inl (a2 + a3), .inl v4_3]) (hₚ := gc_h sh I1 J2 A) (C := ((((True ∧ True) ∧ True) ∧ True) ∧ True)) rfl ⟨⟨⟨⟨trivial, trivial⟩, trivial⟩, trivial⟩, trivial⟩ ?_
      refine gv_icmp_ge (t := 32) hD rfl rfl ⟨⟨by (/-1-/first | (have o1 := gz_sh hv4_3; omega) | (simp only [gz_hd] at *; omega)), by (/-2-/first | (have o1 := gz_sh hv4_3; omega) | (simp only [gz_hd] at *; omega))⟩, ⟨by (/-3-/first | omega | (simp only [gz_hd] at *; omega)), by (/-4-/first | omega | (simp only [gz_hd] at *; omega))⟩⟩ (fun c5 => ?_) (fun c5 => ?_)
      · show gv_X _ _ (32, [(0, .inr (.inr (some p))), (1, .inr (.inr (some a1))), (2, .inl a2), (3, .inl a3), (4, .inl v4_3)], [], sh, gc_h sh I1 J2 A)
        refine gv_pick [] rfl ?_
        exact L32 
      · show gv_X _ _ (11, [(0, .inr (.inr (some p))), (1, .inr (.inr (some a1))), (2, .inl a2), (3, .inl a3), (4, .inl v4_3)], [], sh, gc_h sh I1 J2 A)
        refine gv_run 2 true hD (pcₚ := 14) (lvₚ := [(0, .inr (.inr (some p))), (1, .inr (.inr (some a1))), (2, .inl a2), (3, .inl a3), (4, .inl v4_3)]) (stₚ := [.inr (.inr (some a1)), .inl v4_3]) (hₚ := gc_h sh I1 J2 A) (C := ((True ∧ True) ∧ True)) rfl ⟨⟨trivial, trivial⟩, trivial⟩ ?_
        refine gv_len hD rfl S_a1 ⟨by (/-5-/first | omega | (simp only [gz_hd] at *; omega)), B_a1⟩ ?_
        show gv_X _ _ (15, [(0, .inr (.inr (some p))), (1, .inr (.inr (some a1))), (2, .inl a2), (3, .inl a3), (4, .inl v4_3)], [.inl ((m : Nat) : Int), .inl v4_3], sh, gc_h sh I1 J2 A)
        refine gv_icmp_ge (t := 32) hD rfl rfl ⟨⟨by (/-6-/first | (have o1 := gz_sh hv4_3; omega) | (simp only [gz_hd] at *; omega)), by (/-7-/first | (have o1 := gz_sh hv4_3; omega) | (simp only [gz_hd] at *; omega))⟩, ⟨by (/-8-/first | omega | (simp only [gz_hd] at *; omega)), by (/-9-/first | omega | (simp only [gz_hd] at *; omega))⟩⟩ (fun c6 => ?_) (fun c6 => ?_)
        · show gv_X _ _ (32, [(0, .inr (.inr (some p))), (1, .inr (.inr (some a1))), (2, .inl a2), (3, .inl a3), (4, .inl v4_3)], [], sh, gc_h sh I1 J2 A)
          refine gv_pick [] rfl ?_
          exact L32 
        · show gv_X _ _ (18, [(0, .inr (.inr (some p))), (1, .inr (.inr (some a1))), (2, .inl a2), (3, .inl a3), (4, .inl v4_3)], [], sh, gc_h sh I1 J2 A)
          refine gv_run 3 true hD (pcₚ := 22) (lvₚ := [(0, .inr (.inr (some p))), (1, .inr (.inr (some a1))), (2, .inl a2), (3, .inl a3), (4, .inl v4_3)]) (stₚ := [.inl v4_3, .inr (.inr (some a1)), .inr (.inr (some p))]) (hₚ := gc_h sh I1 J2 A) (C := (((True ∧ True) ∧ True) ∧ True)) rfl ⟨⟨⟨trivial, trivial⟩, trivial⟩, trivial⟩ ?_
          have f7 := gz_hi ((show 0 ≤ I1 a1 (Int.toNat v4_3) ∧ I1 a1 (Int.toNat v4_3) ≤ 127 from gc_in2 hI1 R_a1 rfl rfl rfl))
          refine gv_bald hD rfl S_a1 (Or.inl rfl) ⟨by (/-10-/first | omega | (simp only [gz_hd] at *; omega)), B_a1⟩ ⟨by (/-11-/first | (have o1 := gz_sh hv4_3; omega) | (simp only [gz_hd] at *; omega)), by (/-12-/first | omega | (simp only [gz_hd] at *; omega))⟩ (gc_iI S_a1 rfl) ?_
          show gv_X _ _ (23, [(0, .inr (.inr (some p))), (1, .inr (.inr (some a1))), (2, .inl a2), (3, .inl a3), (4, .inl v4_3)], [.inl (I1 a1 (Int.toNat v4_3)), .inr (.inr (some p))], sh, gc_h sh I1 J2 A)
          obtain ⟨r8, h8, E8, P8⟩ := d_X9_put (ws0 := ws0) (tb := tb) hws htb sh ro I1 J2 A hI1 p ((I1 a1 (Int.toNat v4_3))) hp   ⟨by (/-13-/first | (have o1 := gz_sh f7; omega) | (simp only [gz_hd] at *; omega)), by (/-14-/first | (have o1 := gz_sh f7; omega) | (simp only [gz_hd] at *; omega))⟩  
          obtain ⟨I9, J10, rfl, hI9, g8, k8, rfl⟩ := P8
          have FI9 := gc_frc (W := fun q j => (q = p ∧ j = 1) ∨ q = (p + 1)) (V := fun q j => (q = p ∧ j = 1) ∨ q = (p + 1)) FI1 (fun q j h => (h.elim (fun h => (Or.inl h)) (fun h => (Or.inr h)))) g8
          obtain rfl : J2 = J10 := funext fun q => funext fun j => ((k8 q j).resolve_left id).symm
          refine gv_callV hD rfl (As := [.inl (I1 a1 (Int.toNat v4_3))]) (st := []) rfl (gz_sh B_p) S_p rfl (gc_lV9 hws rfl) (Nat.le_of_ble_eq_true rfl) (gz_Ev_mono (d := 1) (by decide) E8) ?_
          show gv_X _ _ (26, [(0, .inr (.inr (some p))), (1, .inr (.inr (some a1))), (2, .inl a2), (3, .inl a3), (4, .inl v4_3)], [], sh, gc_h sh I9 J2 A)
          refine gv_run 2 true hD (pcₚ := 3) (lvₚ := [(4, .inl (v4_3 + 1)), (0, .inr (.inr (some p))), (1, .inr (.inr (some a1))), (2, .inl a2), (3, .inl a3)]) (stₚ := []) (hₚ := gc_h sh I9 J2 A) (C := ((True ∧ True) ∧ True)) rfl ⟨⟨trivial, trivial⟩, trivial⟩ ?_
          refine gv_pick [1, 2, 3, 4, 0] rfl ?_
          exact ih3 I9 J2 (v4_3 + 1) (by (/-15-/first | (have o1 := gz_sh hv4_3; omega) | (simp only [gz_hd] at *; omega))) hI9 FI9 FJ2 (by (/-16-/first | (and_intros; (omega); (omega); (omega); (omega); (have o1 := gz_sh hv4_3; omega); (omega)) | (simp only [gz_hd] at *; omega)))
  refine gv_run 2 true hD (pcₚ := 3) (lvₚ := [(4, .inl a2), (0, .inr (.inr (some p))), (1, .inr (.inr (some a1))), (2, .inl a2), (3, .inl a3)]) (stₚ := []) (hₚ := gc_h sh I J A) (C := ((True ∧ True) ∧ True)) rfl ⟨⟨trivial, trivial⟩, trivial⟩ ?_
  refine gv_pick [1, 2, 3, 4, 0] rfl ?_
  exact L3 _ I J a2 (Nat.lt_succ_self _) hI FI FJ (by (/-17-/first | (and_intros <;> omega) | (simp only [gz_hd] at *; omega)))
set_option maxHeartbeats 8000000 in
set_option maxRecDepth 100000 in
theorem d_X9_putSpaced_q {ws0 : List Cond} {tb : String → gz_T} (hws : gc_Ws ws0) (htb : gc_tbs tb) (sh : gz_Sh) (ro : Nat → Nat) (I : gr_I) (J : gr_J) (A : gc_A) (hI : gc_Inv ro I) (p : Nat) (m : Nat) (a1 : Nat) (a2 : Int) (a3 : Int) (hp : gc_isText sh ro A p) (S_a1 : sh[a1]? = some (true, 0, m)) (R_a1 : ro a1 = 36) (B_a1 : a1 < 1000000) (M_a1 : m < 2147483648) (ha2 : 0 ≤ a2 ∧ a2 ≤ 60000) (ha3 : 0 ≤ a3 ∧ a3 ≤ 1000)  : ∃ r hₚ, gz_Ev ws0 tb 3 (yX9_putSpaced, cX9_putSpaced, 4, none) [.inr (.inr (some p)), .inr (.inr (some a1)), .inl a2, .inl a3] sh (gc_h sh I J A) r sh hₚ 0 0 ∧ (∃ (Iₚ : gr_I) (Jₚ : gr_J), hₚ = gc_h sh Iₚ Jₚ A ∧ gc_Inv ro Iₚ ∧ (∀ q j : Nat, ((q = p ∧ j = 1) ∨ q = (p + 1)) ∨ Iₚ q j = I q j) ∧ (∀ q j : Nat, (False) ∨ Jₚ q j = J q j) ∧ r = none) := by
  have FI : ∀ q j : Nat, ((q = p ∧ j = 1) ∨ q = (p + 1)) ∨ I q j = I q j := fun _ _ => Or.inr rfl
  have FJ : ∀ q j : Nat, (False) ∨ J q j = J q j := fun _ _ => Or.inr rfl
  obtain ⟨S_p, R_p, B_p, A_p_0, S_p_1, R_p_1, B_p_1, A_p_2, S_p_2, R_p_2, B_p_2, A_p_3, S_p_3, R_p_3, B_p_3⟩ := id hp
  replace R_p := gz_hi R_p
  replace B_p := gz_hi B_p
  replace R_p_1 := gz_hi R_p_1
  replace B_p_1 := gz_hi B_p_1
  replace R_p_2 := gz_hi R_p_2
  replace B_p_2 := gz_hi B_p_2
  replace R_p_3 := gz_hi R_p_3
  replace B_p_3 := gz_hi B_p_3
  have hD : gv_D (gc_E9 ws0 tb 2 (yX9_putSpaced, cX9_putSpaced, 4, none) kX9_putSpaced) := gq_of oX9_putSpaced
  refine gc_ev9 (d := 2) (l := kX9_putSpaced) (Po := fun r hₚ => (∃ (Iₚ : gr_I) (Jₚ : gr_J), hₚ = gc_h sh Iₚ Jₚ A ∧ gc_Inv ro Iₚ ∧ (∀ q j : Nat, ((q = p ∧ j = 1) ∨ q = (p + 1)) ∨ Iₚ q j = I q j) ∧ (∀ q j : Nat, (False) ∨ Jₚ q j = J q j) ∧ r = none)) htb rfl (Nat.le_of_ble_eq_true rfl) ?_
  have L13 : ∀ (I1 : gr_I) (J2 : gr_J) , gc_Inv ro I1 → (∀ q j : Nat, ((q = p ∧ j = 1) ∨ q = (p + 1)) ∨ I1 q j = I q j) → (∀ q j : Nat, (False) ∨ J2 q j = J q j) → ((0 ≤ a2 ∧ a2 ≤ 60000) ∧ (0 ≤ a3 ∧ a3 ≤ 1000)) → gv_X (gc_E9 ws0 tb 2 (yX9_putSpaced, cX9_putSpaced, 4, none) kX9_putSpaced) (gv_Q cX9_putSpaced none sh (fun r hₚ => (∃ (Iₚ : gr_I) (Jₚ : gr_J), hₚ = gc_h sh Iₚ Jₚ A ∧ gc_Inv ro Iₚ ∧ (∀ q j : Nat, ((q = p ∧ j = 1) ∨ q = (p + 1)) ∨ Iₚ q j = I q j) ∧ (∀ q j : Nat, (False) ∨ Jₚ q j = J q j) ∧ r = none))) (13, [(0, .inr (.inr (some p))), (1, .inr (.inr (some a1))), (2, .inl a2), (3, .inl a3)], [], sh, gc_h sh I1 J2 A) := by
    intro I1 J2 hI1 FI1 FJ2 m_3
    obtain ⟨ha2_3, ha3_3⟩ := gz_h2 m_3
    refine gv_run 4 true hD (pcₚ := 17) (lvₚ := [(0, .inr (.inr (some p))), (1, .inr (.inr (some a1))), (2, .inl a2), (3, .inl a3)]) (stₚ := [.inl a3, .inl a2, .inr (.inr (some a1)), .inr (.inr (some p))]) (hₚ := gc_h sh I1 J2 A) (C := ((((True ∧ True) ∧ True) ∧ True) ∧ True)) rfl ⟨⟨⟨⟨trivial, trivial⟩, trivial⟩, trivial⟩, trivial⟩ ?_
    obtain ⟨r4, h4, E4, P4⟩ := d_X9_putBytes_q (ws0 := ws0) (tb := tb) hws htb sh ro I1 J2 A hI1 p m a1 a2 a3 hp S_a1 R_a1 B_a1 (by (/-0-/first | omega | (simp only [gz_hd] at *; omega)))  ⟨by (/-1-/first | omega | (simp only [gz_hd] at *; omega)), by (/-2-/first | omega | (simp only [gz_hd] at *; omega))⟩ ⟨by (/-3-/first | omega | (simp only [gz_hd] at *; omega)), by (/-4-/first | omega | (simp only [gz_hd] at *; omega))⟩  
    obtain ⟨I5, J6, rfl, hI5, g4, k4, rfl⟩ := P4
    have FI5 := gc_frc (W := fun q j => (q = p ∧ j = 1) ∨ q = (p + 1)) (V := fun q j => (q = p ∧ j = 1) ∨ q = (p + 1)) FI1 (fun q j h => (h.elim (fun h => (Or.inl h)) (fun h => (Or.inr h)))) g4
    obtain rfl : J2 = J6 := funext fun q => funext fun j => ((k4 q j).resolve_left id).symm
    refine gv_callV hD rfl (As := [.inr (.inr (some a1)), .inl a2, .inl a3]) (st := []) rfl (gz_sh B_p) S_p rfl (gc_lV9 hws rfl) (Nat.le_of_ble_eq_true rfl) (gz_Ev_mono (d := 2) (by decide) E4) ?_
    show gv_X _ _ (20, [(0, .inr (.inr (some p))), (1, .inr (.inr (some a1))), (2, .inl a2), (3, .inl a3)], [], sh, gc_h sh I5 J2 A)
    exact gv_vret hD rfl ⟨I5, J2, rfl, hI5, FI5, FJ2, rfl⟩
  refine gv_run 1 true hD (pcₚ := 1) (lvₚ := [(0, .inr (.inr (some p))), (1, .inr (.inr (some a1))), (2, .inl a2), (3, .inl a3)]) (stₚ := [.inr (.inr (some p))]) (hₚ := gc_h sh I J A) (C := (True ∧ True)) rfl ⟨trivial, trivial⟩ ?_
  have f7 := gz_hi ((show 0 ≤ I p 1 ∧ I p 1 ≤ 1000 from gc_in2 hI (gz_sh R_p) rfl rfl rfl))
  refine gv_get hD rfl rfl S_p ⟨by decide, (gz_sh B_p)⟩ (gc_hI S_p rfl) ?_
  show gv_X _ _ (4, [(0, .inr (.inr (some p))), (1, .inr (.inr (some a1))), (2, .inl a2), (3, .inl a3)], [.inl (I p 1)], sh, gc_h sh I J A)
  refine gv_if_le (t := 13) hD rfl rfl ⟨by (/-5-/first | (have o1 := gz_sh f7; omega) | (simp only [gz_hd] at *; omega)), by (/-6-/first | (have o1 := gz_sh f7; omega) | (simp only [gz_hd] at *; omega))⟩ (fun c8 => ?_) (fun c8 => ?_)
  · show gv_X _ _ (13, [(0, .inr (.inr (some p))), (1, .inr (.inr (some a1))), (2, .inl a2), (3, .inl a3)], [], sh, gc_h sh I J A)
    exact L13 I J hI FI FJ (by (/-7-/first | (and_intros <;> omega) | (simp only [gz_hd] at *; omega)))
  · show gv_X _ _ (7, [(0, .inr (.inr (some p))), (1, .inr (.inr (some a1))), (2, .inl a2), (3, .inl a3)], [], sh, gc_h sh I J A)
    refine gv_run 2 true hD (pcₚ := 10) (lvₚ := [(0, .inr (.inr (some p))), (1, .inr (.inr (some a1))), (2, .inl a2), (3, .inl a3)]) (stₚ := [.inl 32, .inr (.inr (some p))]) (hₚ := gc_h sh I J A) (C := ((True ∧ True) ∧ True)) rfl ⟨⟨trivial, trivial⟩, trivial⟩ ?_
    obtain ⟨r9, h9, E9, P9⟩ := d_X9_put (ws0 := ws0) (tb := tb) hws htb sh ro I J A hI p 32 hp   ⟨by (/-8-/first | omega | (simp only [gz_hd] at *; omega)), by (/-9-/first | omega | (simp only [gz_hd] at *; omega))⟩  
    obtain ⟨I10, J11, rfl, hI10, g9, k9, rfl⟩ := P9
    have FI10 := gc_frc (W := fun q j => (q = p ∧ j = 1) ∨ q = (p + 1)) (V := fun q j => (q = p ∧ j = 1) ∨ q = (p + 1)) FI (fun q j h => (h.elim (fun h => (Or.inl h)) (fun h => (Or.inr h)))) g9
    obtain rfl : J = J11 := funext fun q => funext fun j => ((k9 q j).resolve_left id).symm
    refine gv_callV hD rfl (As := [.inl 32]) (st := []) rfl (gz_sh B_p) S_p rfl (gc_lV9 hws rfl) (Nat.le_of_ble_eq_true rfl) (gz_Ev_mono (d := 1) (by decide) E9) ?_
    show gv_X _ _ (13, [(0, .inr (.inr (some p))), (1, .inr (.inr (some a1))), (2, .inl a2), (3, .inl a3)], [], sh, gc_h sh I10 J A)
    exact L13 I10 J hI10 FI10 FJ (by (/-10-/first | (and_intros <;> omega) | (simp only [gz_hd] at *; omega)))
