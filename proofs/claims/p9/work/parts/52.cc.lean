def gc_isText (sh : gz_Sh) (ro : Nat → Nat) (A : gc_A) (p : Nat) : Prop := sh[p]? = some (false, 9, 10) ∧ ro p = 3 ∧ p < 1000000 ∧ A p 0 = some (p + 1) ∧ sh[(p + 1)]? = some (true, 0, 1000) ∧ ro (p + 1) = 1 ∧ (p + 1) < 1000000 ∧ A p 2 = some (p + 2) ∧ sh[(p + 2)]? = some (true, 1, 24) ∧ ro (p + 2) = 4 ∧ (p + 2) < 1000000 ∧ A p 3 = some (p + 3) ∧ sh[(p + 3)]? = some (true, 1, 24) ∧ ro (p + 3) = 5 ∧ (p + 3) < 1000000
def gc_lt (p : Nat) (I : gr_I) (a b : Int) : Prop := ∀ k : Int, a < k → k < b → 97 ≤ I (p + 1) (Int.toNat k) ∧ I (p + 1) (Int.toNat k) ≤ 122
theorem gc_lt_nx {p : Nat} {I : gr_I} {a b : Int} (h : gc_lt p I a b) (hz : 97 ≤ I (p + 1) (Int.toNat b) ∧ I (p + 1) (Int.toNat b) ≤ 122) : gc_lt p I a (b + 1) := fun k h1 h2 => by
  by_cases hk : k = b
  · rw [hk]; exact hz
  · exact h k h1 (by omega)
theorem gc_lt_fr {p : Nat} {I Iₚ : gr_I} {a b a' b' : Int} (h : gc_lt p I a b) (hf : ∀ k, Iₚ (p + 1) k = I (p + 1) k) (ha : a ≤ a') (hb : b' ≤ b) : gc_lt p Iₚ a' b' := fun k h1 h2 => by rw [hf]; exact h k (by omega) (by omega)
def gc_SP (p : Nat) (I : gr_I) : Prop := ∀ k : Nat, (k : Int) < I p 4 → I (p + 2) k + I (p + 3) k ≤ 1000
theorem gc_SP_fr {p : Nat} {I Iₚ : gr_I} (h : gc_SP p I) (h4 : Iₚ p 4 = I p 4) (h2 : ∀ k, Iₚ (p + 2) k = I (p + 2) k) (h3 : ∀ k, Iₚ (p + 3) k = I (p + 3) k) : gc_SP p Iₚ := fun k hk => by rw [h2, h3]; exact h k (by omega)
def gc_spn (p : Nat) (I : gr_I) (n : Int) : Prop := ∀ k : Nat, (k : Int) < n → I (p + 2) k + I (p + 3) k ≤ 1000
theorem gc_spn_push {p : Nat} {I I1 I2 : gr_I} {n : Int} (h : gc_spn p I n) (h0 : 0 ≤ n) (p1 : ∀ q j, ¬ (q = p + 2 ∧ j = Int.toNat n) → I1 q j = I q j) (p2 : ∀ q j, ¬ (q = p + 3 ∧ j = Int.toNat n) → I2 q j = I1 q j) (hz : I1 (p + 2) (Int.toNat n) + I2 (p + 3) (Int.toNat n) ≤ 1000) : gc_spn p I2 (n + 1) := fun k hk => by
  by_cases e : k = Int.toNat n
  · rw [e, p2 (p + 2) _ (fun h => absurd h.1 (by omega))]; exact hz
  · rw [p2 (p + 2) k (fun h => e h.2), p2 (p + 3) k (fun h => e h.2), p1 (p + 2) k (fun h => e h.2), p1 (p + 3) k (fun h => e h.2)]; exact h k (by omega)
set_option maxHeartbeats 8000000 in
set_option maxRecDepth 100000 in
theorem d_X9_put {ws0 : List Cond} {tb : String → gz_T} (hws : gc_Ws ws0) (htb : gc_tbs tb) (sh : gz_Sh) (ro : Nat → Nat) (I : gr_I) (J : gr_J) (A : gc_A) (hI : gc_Inv ro I) (p : Nat) (a1 : Int) (hp : gc_isText sh ro A p) (ha1 : (-2147483648) ≤ a1 ∧ a1 ≤ 2147483647)  : ∃ r hₚ, gz_Ev ws0 tb 1 (yX9_put, cX9_put, 2, none) [.inr (.inr (some p)), .inl a1] sh (gc_h sh I J A) r sh hₚ 0 0 ∧ (∃ (Iₚ : gr_I) (Jₚ : gr_J), hₚ = gc_h sh Iₚ Jₚ A ∧ gc_Inv ro Iₚ ∧ (∀ q j : Nat, ((q = p ∧ j = 1) ∨ q = (p + 1)) ∨ Iₚ q j = I q j) ∧ (∀ q j : Nat, (False) ∨ Jₚ q j = J q j) ∧ r = none) := by
  have FI : ∀ q j : Nat, ((q = p ∧ j = 1) ∨ q = (p + 1)) ∨ I q j = I q j := fun _ _ => Or.inr rfl
  have FJ : ∀ q j : Nat, (False) ∨ J q j = J q j := fun _ _ => Or.inr rfl
  obtain ⟨S_p, R_p, B_p, A_p_0, S_p_1, R_p_1, B_p_1, A_p_2, S_p_2, R_p_2, B_p_2, A_p_3, S_p_3, R_p_3, B_p_3⟩ := id hp
  replace R_p := gz_hi R_p
  replace B_p := gz_hi B_p
  replace R_p_1 := gz_hi R_p_1
  replace B_p_1 := gz_hi B_p_1
  replace R_p_2 := gz_hi R_p_2
  replace B_p_2 := gz_hi B_p_2
  replace R_p_3 := gz_hi R_p_3
  replace B_p_3 := gz_hi B_p_3
  have hD : gv_D (gc_E9 ws0 tb 0 (yX9_put, cX9_put, 2, none) kX9_put) := gq_of oX9_put
  refine gc_ev9 (d := 0) (l := kX9_put) (Po := fun r hₚ => (∃ (Iₚ : gr_I) (Jₚ : gr_J), hₚ = gc_h sh Iₚ Jₚ A ∧ gc_Inv ro Iₚ ∧ (∀ q j : Nat, ((q = p ∧ j = 1) ∨ q = (p + 1)) ∨ Iₚ q j = I q j) ∧ (∀ q j : Nat, (False) ∨ Jₚ q j = J q j) ∧ r = none)) htb rfl (Nat.le_of_ble_eq_true rfl) ?_
  have N_p__p_1 := gz_hi (show ¬ (p = (p + 1)) from by (/-0-/first | omega | (simp only [gz_hd] at *; omega)))
  have f1 := gz_hi ((show 0 ≤ I p 1 ∧ I p 1 ≤ 1000 from gc_in2 hI (gz_sh R_p) rfl rfl rfl))
  have L28 : ∀ (I2 : gr_I) (J3 : gr_J) , gc_Inv ro I2 → (∀ q j : Nat, ((q = p ∧ j = 1) ∨ q = (p + 1)) ∨ I2 q j = I q j) → (∀ q j : Nat, (False) ∨ J3 q j = J q j) → gv_X (gc_E9 ws0 tb 0 (yX9_put, cX9_put, 2, none) kX9_put) (gv_Q cX9_put none sh (fun r hₚ => (∃ (Iₚ : gr_I) (Jₚ : gr_J), hₚ = gc_h sh Iₚ Jₚ A ∧ gc_Inv ro Iₚ ∧ (∀ q j : Nat, ((q = p ∧ j = 1) ∨ q = (p + 1)) ∨ Iₚ q j = I q j) ∧ (∀ q j : Nat, (False) ∨ Jₚ q j = J q j) ∧ r = none))) (28, [], [], sh, gc_h sh I2 J3 A) := by
    intro I2 J3 hI2 FI2 FJ3
    exact gv_vret hD rfl ⟨I2, J3, rfl, hI2, FI2, FJ3, rfl⟩
  refine gv_run 1 true hD (pcₚ := 1) (lvₚ := [(0, .inr (.inr (some p))), (1, .inl a1)]) (stₚ := [.inr (.inr (some p))]) (hₚ := gc_h sh I J A) (C := (True ∧ True)) rfl ⟨trivial, trivial⟩ ?_
  refine gv_get hD rfl rfl S_p ⟨by decide, (gz_sh B_p)⟩ (gc_hI S_p rfl) ?_
  show gv_X _ _ (4, [(0, .inr (.inr (some p))), (1, .inl a1)], [.inl (I p 1)], sh, gc_h sh I J A)
  refine gv_run 1 true hD (pcₚ := 7) (lvₚ := [(0, .inr (.inr (some p))), (1, .inl a1)]) (stₚ := [.inl 1000, .inl (I p 1)]) (hₚ := gc_h sh I J A) (C := (True ∧ True)) rfl ⟨trivial, trivial⟩ ?_
  refine gv_icmp_ge (t := 28) hD rfl rfl ⟨⟨by (/-1-/first | (have o1 := gz_sh f1; omega) | (simp only [gz_hd] at *; omega)), by (/-2-/first | (have o1 := gz_sh f1; omega) | (simp only [gz_hd] at *; omega))⟩, ⟨by (/-3-/first | omega | (simp only [gz_hd] at *; omega)), by (/-4-/first | omega | (simp only [gz_hd] at *; omega))⟩⟩ (fun c7 => ?_) (fun c7 => ?_)
  · show gv_X _ _ (28, [(0, .inr (.inr (some p))), (1, .inl a1)], [], sh, gc_h sh I J A)
    refine gv_pick [] rfl ?_
    exact L28 I J hI FI FJ
  · show gv_X _ _ (10, [(0, .inr (.inr (some p))), (1, .inl a1)], [], sh, gc_h sh I J A)
    refine gv_run 1 true hD (pcₚ := 11) (lvₚ := [(0, .inr (.inr (some p))), (1, .inl a1)]) (stₚ := [.inr (.inr (some p))]) (hₚ := gc_h sh I J A) (C := (True ∧ True)) rfl ⟨trivial, trivial⟩ ?_
    refine gv_get hD rfl rfl S_p ⟨by decide, (gz_sh B_p)⟩ (gc_hA S_p rfl A_p_0) ?_
    show gv_X _ _ (14, [(0, .inr (.inr (some p))), (1, .inl a1)], [.inr (.inr (some (p + 1)))], sh, gc_h sh I J A)
    refine gv_run 2 true hD (pcₚ := 16) (lvₚ := [(0, .inr (.inr (some p))), (1, .inl a1)]) (stₚ := [.inr (.inr (some p)), .inr (.inr (some p)), .inr (.inr (some (p + 1)))]) (hₚ := gc_h sh I J A) (C := ((True ∧ True) ∧ True)) rfl ⟨⟨trivial, trivial⟩, trivial⟩ ?_
    refine gv_get hD rfl rfl S_p ⟨by decide, (gz_sh B_p)⟩ (gc_hI S_p rfl) ?_
    show gv_X _ _ (19, [(0, .inr (.inr (some p))), (1, .inl a1)], [.inl (I p 1), .inr (.inr (some p)), .inr (.inr (some (p + 1)))], sh, gc_h sh I J A)
    refine gv_run 3 true hD (pcₚ := 22) (lvₚ := [(0, .inr (.inr (some p))), (1, .inl a1)]) (stₚ := [.inl ((I p 1) + 1), .inr (.inr (some p)), .inl (I p 1), .inr (.inr (some (p + 1)))]) (hₚ := gc_h sh I J A) (C := (((True ∧ True) ∧ True) ∧ True)) rfl ⟨⟨⟨trivial, trivial⟩, trivial⟩, trivial⟩ ?_
    refine gv_put hD rfl rfl S_p ⟨by decide, (gz_sh B_p)⟩ rfl trivial ?_
    refine gc_st (k := 1) hI S_p rfl (gz_sh R_p) (lo := 0) (hi := 1000) rfl rfl (by (/-5-/first | (have o1 := gz_sh f1; omega) | (simp only [gz_hd] at *; omega))) (by (/-6-/first | omega | (simp only [gz_hd] at *; omega))) (fun I9 hI9 q10 p10 => ?_)
    have FI9 := gc_frs (W := fun q j => (q = p ∧ j = 1) ∨ q = (p + 1)) FI (Or.inl ⟨rfl, rfl⟩) p10
    show gv_X _ _ (25, [(0, .inr (.inr (some p))), (1, .inl a1)], [.inl (I p 1), .inr (.inr (some (p + 1)))], sh, gc_h sh I9 J A)
    have f12 := gz_hi (gw_i2b (x := a1))
    refine gv_run 2 true hD (pcₚ := 27) (lvₚ := [(0, .inr (.inr (some p))), (1, .inl a1)]) (stₚ := [.inl ((Int32.ofInt a1).toInt8.toInt32.toInt), .inl (I p 1), .inr (.inr (some (p + 1)))]) (hₚ := gc_h sh I9 J A) (C := ((True ∧ True) ∧ True)) rfl ⟨⟨trivial, trivial⟩, trivial⟩ ?_
    have f13 := gz_hi (gc_nar (x := (((Int32.ofInt a1).toInt8.toInt32.toInt))) ⟨by (/-7-/first | (have o1 := gz_sh f12; omega) | (simp only [gz_hd] at *; omega)), by (/-8-/first | (have o1 := gz_sh f12; omega) | (simp only [gz_hd] at *; omega))⟩)
    refine gv_bast hD rfl S_p_1 ⟨by decide, (gz_sh B_p_1)⟩ ⟨by (/-9-/first | (have o1 := gz_sh f1; omega) | (simp only [gz_hd] at *; omega)), by (/-10-/first | omega | (simp only [gz_hd] at *; omega))⟩ ?_
    refine gc_st hI9 S_p_1 rfl (gz_sh R_p_1) (lo := (-128)) (hi := 127) rfl rfl (by (/-11-/first | (have o1 := gz_sh f12; have o2 := gz_sh f13; omega) | (simp only [gz_hd] at *; omega))) (by (/-12-/first | (have o1 := gz_sh f12; have o2 := gz_sh f13; omega) | (simp only [gz_hd] at *; omega))) (fun I14 hI14 q15 p15 => ?_)
    have FI14 := gc_frs (W := fun q j => (q = p ∧ j = 1) ∨ q = (p + 1)) FI9 (Or.inr rfl) p15
    show gv_X _ _ (28, [(0, .inr (.inr (some p))), (1, .inl a1)], [], sh, gc_h sh I14 J A)
    refine gv_pick [] rfl ?_
    exact L28 I14 J hI14 FI14 FJ
set_option maxHeartbeats 8000000 in
set_option maxRecDepth 100000 in
theorem d_X9_putName {ws0 : List Cond} {tb : String → gz_T} (hws : gc_Ws ws0) (htb : gc_tbs tb) (sh : gz_Sh) (ro : Nat → Nat) (I : gr_I) (J : gr_J) (A : gc_A) (hI : gc_Inv ro I) (p : Nat) (a1 : Int64) (hp : gc_isText sh ro A p)   : ∃ r hₚ, gz_Ev ws0 tb 2 (yX9_putName, cX9_putName, 5, none) [.inr (.inr (some p)), .inr (.inl a1)] sh (gc_h sh I J A) r sh hₚ 0 0 ∧ (∃ (Iₚ : gr_I) (Jₚ : gr_J), hₚ = gc_h sh Iₚ Jₚ A ∧ gc_Inv ro Iₚ ∧ (∀ q j : Nat, ((q = p ∧ j = 1) ∨ q = (p + 1)) ∨ Iₚ q j = I q j) ∧ (∀ q j : Nat, (False) ∨ Jₚ q j = J q j) ∧ r = none) := by
  have FI : ∀ q j : Nat, ((q = p ∧ j = 1) ∨ q = (p + 1)) ∨ I q j = I q j := fun _ _ => Or.inr rfl
  have FJ : ∀ q j : Nat, (False) ∨ J q j = J q j := fun _ _ => Or.inr rfl
  obtain ⟨S_p, R_p, B_p, A_p_0, S_p_1, R_p_1, B_p_1, A_p_2, S_p_2, R_p_2, B_p_2, A_p_3, S_p_3, R_p_3, B_p_3⟩ := id hp
  replace R_p := gz_hi R_p
  replace B_p := gz_hi B_p
  replace R_p_1 := gz_hi R_p_1
  replace B_p_1 := gz_hi B_p_1
  replace R_p_2 := gz_hi R_p_2
  replace B_p_2 := gz_hi B_p_2
  replace R_p_3 := gz_hi R_p_3
  replace B_p_3 := gz_hi B_p_3
  have hD : gv_D (gc_E9 ws0 tb 1 (yX9_putName, cX9_putName, 5, none) kX9_putName) := gq_of oX9_putName
  refine gc_ev9 (d := 1) (l := kX9_putName) (Po := fun r hₚ => (∃ (Iₚ : gr_I) (Jₚ : gr_J), hₚ = gc_h sh Iₚ Jₚ A ∧ gc_Inv ro Iₚ ∧ (∀ q j : Nat, ((q = p ∧ j = 1) ∨ q = (p + 1)) ∨ Iₚ q j = I q j) ∧ (∀ q j : Nat, (False) ∨ Jₚ q j = J q j) ∧ r = none)) htb rfl (Nat.le_of_ble_eq_true rfl) ?_
  have L3 : ∀ (n9 : Nat) (I1 : gr_I) (J2 : gr_J) (v3_3 : Int), (v3_3 - (-9)).toNat < n9 → gc_Inv ro I1 → (∀ q j : Nat, ((q = p ∧ j = 1) ∨ q = (p + 1)) ∨ I1 q j = I q j) → (∀ q j : Nat, (False) ∨ J2 q j = J q j) → (((-8) ≤ v3_3 ∧ v3_3 ≤ 56)) → gv_X (gc_E9 ws0 tb 1 (yX9_putName, cX9_putName, 5, none) kX9_putName) (gv_Q cX9_putName none sh (fun r hₚ => (∃ (Iₚ : gr_I) (Jₚ : gr_J), hₚ = gc_h sh Iₚ Jₚ A ∧ gc_Inv ro Iₚ ∧ (∀ q j : Nat, ((q = p ∧ j = 1) ∨ q = (p + 1)) ∨ Iₚ q j = I q j) ∧ (∀ q j : Nat, (False) ∨ Jₚ q j = J q j) ∧ r = none))) (3, [(0, .inr (.inr (some p))), (1, .inr (.inl a1)), (3, .inl v3_3)], [], sh, gc_h sh I1 J2 A) := by
    intro n9
    induction n9 with
    | zero => intro I1 J2 v3_3 hn; (/-0-/first | omega | (simp only [gz_hd] at *; omega))
    | succ n9 ih3 =>
      intro I1 J2 v3_3 hn hI1 FI1 FJ2 m_3
      have hv3_3 := m_3
      have L28 : ∀ (I4 : gr_I) (J5 : gr_J) , gc_Inv ro I4 → (∀ q j : Nat, ((q = p ∧ j = 1) ∨ q = (p + 1)) ∨ I4 q j = I q j) → (∀ q j : Nat, (False) ∨ J5 q j = J q j) → ((0 ≤ v3_3 ∧ v3_3 ≤ 56)) → gv_X (gc_E9 ws0 tb 1 (yX9_putName, cX9_putName, 5, none) kX9_putName) (gv_Q cX9_putName none sh (fun r hₚ => (∃ (Iₚ : gr_I) (Jₚ : gr_J), hₚ = gc_h sh Iₚ Jₚ A ∧ gc_Inv ro Iₚ ∧ (∀ q j : Nat, ((q = p ∧ j = 1) ∨ q = (p + 1)) ∨ Iₚ q j = I q j) ∧ (∀ q j : Nat, (False) ∨ Jₚ q j = J q j) ∧ r = none))) (28, [(0, .inr (.inr (some p))), (1, .inr (.inl a1)), (3, .inl v3_3)], [], sh, gc_h sh I4 J5 A) := by
        intro I4 J5 hI4 FI4 FJ5 m_6
        clear hv3_3
        have hv3_3_6 := m_6
        refine gv_run 2 true hD (pcₚ := 3) (lvₚ := [(3, .inl (v3_3 + (-8))), (0, .inr (.inr (some p))), (1, .inr (.inl a1))]) (stₚ := []) (hₚ := gc_h sh I4 J5 A) (C := ((True ∧ True) ∧ True)) rfl ⟨⟨trivial, trivial⟩, trivial⟩ ?_
        refine gv_pick [1, 2, 0] rfl ?_
        exact ih3 I4 J5 ((v3_3 + (-8))) (by (/-1-/first | omega | (simp only [gz_hd] at *; omega))) hI4 FI4 FJ5 (by (/-2-/first | (and_intros <;> omega) | (simp only [gz_hd] at *; omega)))
      refine gv_run 1 true hD (pcₚ := 4) (lvₚ := [(0, .inr (.inr (some p))), (1, .inr (.inl a1)), (3, .inl v3_3)]) (stₚ := [.inl v3_3]) (hₚ := gc_h sh I1 J2 A) (C := (True ∧ True)) rfl ⟨trivial, trivial⟩ ?_
      refine gv_if_lt (t := 34) hD rfl rfl ⟨by (/-3-/first | omega | (simp only [gz_hd] at *; omega)), by (/-4-/first | omega | (simp only [gz_hd] at *; omega))⟩ (fun c7 => ?_) (fun c7 => ?_)
      · show gv_X _ _ (34, [(0, .inr (.inr (some p))), (1, .inr (.inl a1)), (3, .inl v3_3)], [], sh, gc_h sh I1 J2 A)
        exact gv_vret hD rfl ⟨I1, J2, rfl, hI1, FI1, FJ2, rfl⟩
      · show gv_X _ _ (7, [(0, .inr (.inr (some p))), (1, .inr (.inl a1)), (3, .inl v3_3)], [], sh, gc_h sh I1 J2 A)
        have f9 := gz_hi (gw_and (x := ((((a1 >>> ((Int32.ofInt v3_3).toInt64 &&& 63))).toInt32.toInt))) (y := 255) ⟨by (/-5-/first | omega | (simp only [gz_hd] at *; omega)), by (/-6-/first | omega | (simp only [gz_hd] at *; omega))⟩)
        refine gv_run 7 true hD (pcₚ := 17) (lvₚ := [(4, .inl ((Int32.ofInt ((((a1 >>> ((Int32.ofInt v3_3).toInt64 &&& 63))).toInt32.toInt)) &&& Int32.ofInt 255).toInt)), (0, .inr (.inr (some p))), (1, .inr (.inl a1)), (3, .inl v3_3)]) (stₚ := []) (hₚ := gc_h sh I1 J2 A) (C := (((((((True ∧ True) ∧ True) ∧ True) ∧ True) ∧ True) ∧ True) ∧ True)) rfl ⟨⟨⟨⟨⟨⟨⟨trivial, trivial⟩, trivial⟩, trivial⟩, trivial⟩, trivial⟩, trivial⟩, trivial⟩ ?_
        refine gv_run 1 true hD (pcₚ := 19) (lvₚ := [(4, .inl ((Int32.ofInt ((((a1 >>> ((Int32.ofInt v3_3).toInt64 &&& 63))).toInt32.toInt)) &&& Int32.ofInt 255).toInt)), (0, .inr (.inr (some p))), (1, .inr (.inl a1)), (3, .inl v3_3)]) (stₚ := [.inl ((Int32.ofInt ((((a1 >>> ((Int32.ofInt v3_3).toInt64 &&& 63))).toInt32.toInt)) &&& Int32.ofInt 255).toInt)]) (hₚ := gc_h sh I1 J2 A) (C := (True ∧ True)) rfl ⟨trivial, trivial⟩ ?_
        refine gv_if_eq (t := 28) hD rfl rfl ⟨by (/-7-/first | (have o1 := gz_sh f9; omega) | (simp only [gz_hd] at *; omega)), by (/-8-/first | (have o1 := gz_sh f9; omega) | (simp only [gz_hd] at *; omega))⟩ (fun c10 => ?_) (fun c10 => ?_)
        · show gv_X _ _ (28, [(4, .inl ((Int32.ofInt ((((a1 >>> ((Int32.ofInt v3_3).toInt64 &&& 63))).toInt32.toInt)) &&& Int32.ofInt 255).toInt)), (0, .inr (.inr (some p))), (1, .inr (.inl a1)), (3, .inl v3_3)], [], sh, gc_h sh I1 J2 A)
          refine gv_pick [1, 2, 3] rfl ?_
          exact L28 I1 J2 hI1 FI1 FJ2 (by (/-9-/first | (and_intros <;> omega) | (simp only [gz_hd] at *; omega)))
        · show gv_X _ _ (22, [(4, .inl ((Int32.ofInt ((((a1 >>> ((Int32.ofInt v3_3).toInt64 &&& 63))).toInt32.toInt)) &&& Int32.ofInt 255).toInt)), (0, .inr (.inr (some p))), (1, .inr (.inl a1)), (3, .inl v3_3)], [], sh, gc_h sh I1 J2 A)
          refine gv_run 2 true hD (pcₚ := 25) (lvₚ := [(4, .inl ((Int32.ofInt ((((a1 >>> ((Int32.ofInt v3_3).toInt64 &&& 63))).toInt32.toInt)) &&& Int32.ofInt 255).toInt)), (0, .inr (.inr (some p))), (1, .inr (.inl a1)), (3, .inl v3_3)]) (stₚ := [.inl ((Int32.ofInt ((((a1 >>> ((Int32.ofInt v3_3).toInt64 &&& 63))).toInt32.toInt)) &&& Int32.ofInt 255).toInt), .inr (.inr (some p))]) (hₚ := gc_h sh I1 J2 A) (C := ((True ∧ True) ∧ True)) rfl ⟨⟨trivial, trivial⟩, trivial⟩ ?_
          obtain ⟨r11, h11, E11, P11⟩ := d_X9_put (ws0 := ws0) (tb := tb) hws htb sh ro I1 J2 A hI1 p (((Int32.ofInt ((((a1 >>> ((Int32.ofInt v3_3).toInt64 &&& 63))).toInt32.toInt)) &&& Int32.ofInt 255).toInt)) hp   ⟨by (/-10-/first | (have o1 := gz_sh f9; omega) | (simp only [gz_hd] at *; omega)), by (/-11-/first | (have o1 := gz_sh f9; omega) | (simp only [gz_hd] at *; omega))⟩  
          obtain ⟨I12, J13, rfl, hI12, g11, k11, rfl⟩ := P11
          have FI12 := gc_frc (W := fun q j => (q = p ∧ j = 1) ∨ q = (p + 1)) (V := fun q j => (q = p ∧ j = 1) ∨ q = (p + 1)) FI1 (fun q j h => (h.elim (fun h => (Or.inl h)) (fun h => (Or.inr h)))) g11
          obtain rfl : J2 = J13 := funext fun q => funext fun j => ((k11 q j).resolve_left id).symm
          refine gv_callV hD rfl (As := [.inl ((Int32.ofInt ((((a1 >>> ((Int32.ofInt v3_3).toInt64 &&& 63))).toInt32.toInt)) &&& Int32.ofInt 255).toInt)]) (st := []) rfl (gz_sh B_p) S_p rfl (gc_lV9 hws rfl) (Nat.le_of_ble_eq_true rfl) (gz_Ev_mono (d := 1) (by decide) E11) ?_
          show gv_X _ _ (28, [(4, .inl ((Int32.ofInt ((((a1 >>> ((Int32.ofInt v3_3).toInt64 &&& 63))).toInt32.toInt)) &&& Int32.ofInt 255).toInt)), (0, .inr (.inr (some p))), (1, .inr (.inl a1)), (3, .inl v3_3)], [], sh, gc_h sh I12 J2 A)
          refine gv_pick [1, 2, 3] rfl ?_
          exact L28 I12 J2 hI12 FI12 FJ2 (by (/-12-/first | (and_intros <;> omega) | (simp only [gz_hd] at *; omega)))
  refine gv_run 2 true hD (pcₚ := 3) (lvₚ := [(3, .inl 56), (0, .inr (.inr (some p))), (1, .inr (.inl a1))]) (stₚ := []) (hₚ := gc_h sh I J A) (C := ((True ∧ True) ∧ True)) rfl ⟨⟨trivial, trivial⟩, trivial⟩ ?_
  refine gv_pick [1, 2, 0] rfl ?_
  exact L3 _ I J 56 (Nat.lt_succ_self _) hI FI FJ (by (/-13-/first | (and_intros <;> omega) | (simp only [gz_hd] at *; omega)))
set_option maxHeartbeats 8000000 in
set_option maxRecDepth 100000 in
theorem d_X9_putNumber {ws0 : List Cond} {tb : String → gz_T} (hws : gc_Ws ws0) (htb : gc_tbs tb) (sh : gz_Sh) (ro : Nat → Nat) (I : gr_I) (J : gr_J) (A : gc_A) (hI : gc_Inv ro I) (p : Nat) (a1 : Int) (hp : gc_isText sh ro A p) (ha1 : (-2000000) ≤ a1 ∧ a1 ≤ 2147483647)  : ∃ r hₚ, gz_Ev ws0 tb 2 (yX9_putNumber, cX9_putNumber, 4, none) [.inr (.inr (some p)), .inl a1] sh (gc_h sh I J A) r sh hₚ 0 0 ∧ (∃ (Iₚ : gr_I) (Jₚ : gr_J), hₚ = gc_h sh Iₚ Jₚ A ∧ gc_Inv ro Iₚ ∧ (∀ q j : Nat, ((q = p ∧ j = 1) ∨ q = (p + 1)) ∨ Iₚ q j = I q j) ∧ (∀ q j : Nat, (False) ∨ Jₚ q j = J q j) ∧ r = none) := by
  have FI : ∀ q j : Nat, ((q = p ∧ j = 1) ∨ q = (p + 1)) ∨ I q j = I q j := fun _ _ => Or.inr rfl
  have FJ : ∀ q j : Nat, (False) ∨ J q j = J q j := fun _ _ => Or.inr rfl
  obtain ⟨S_p, R_p, B_p, A_p_0, S_p_1, R_p_1, B_p_1, A_p_2, S_p_2, R_p_2, B_p_2, A_p_3, S_p_3, R_p_3, B_p_3⟩ := id hp
  replace R_p := gz_hi R_p
  replace B_p := gz_hi B_p
  replace R_p_1 := gz_hi R_p_1
  replace B_p_1 := gz_hi B_p_1
  replace R_p_2 := gz_hi R_p_2
  replace B_p_2 := gz_hi B_p_2
  replace R_p_3 := gz_hi R_p_3
  replace B_p_3 := gz_hi B_p_3
  have hD : gv_D (gc_E9 ws0 tb 1 (yX9_putNumber, cX9_putNumber, 4, none) kX9_putNumber) := gq_of oX9_putNumber
  refine gc_ev9 (d := 1) (l := kX9_putNumber) (Po := fun r hₚ => (∃ (Iₚ : gr_I) (Jₚ : gr_J), hₚ = gc_h sh Iₚ Jₚ A ∧ gc_Inv ro Iₚ ∧ (∀ q j : Nat, ((q = p ∧ j = 1) ∨ q = (p + 1)) ∨ Iₚ q j = I q j) ∧ (∀ q j : Nat, (False) ∨ Jₚ q j = J q j) ∧ r = none)) htb rfl (Nat.le_of_ble_eq_true rfl) ?_
  have L2 : ∀ (n9 : Nat) (v2_1 : Int), (1000000001 - v2_1).toNat < n9 → (((-2000000) ≤ a1 ∧ a1 ≤ 2147483647) ∧ (1 ≤ v2_1 ∧ v2_1 ≤ 999999990)) → gv_X (gc_E9 ws0 tb 1 (yX9_putNumber, cX9_putNumber, 4, none) kX9_putNumber) (gv_Q cX9_putNumber none sh (fun r hₚ => (∃ (Iₚ : gr_I) (Jₚ : gr_J), hₚ = gc_h sh Iₚ Jₚ A ∧ gc_Inv ro Iₚ ∧ (∀ q j : Nat, ((q = p ∧ j = 1) ∨ q = (p + 1)) ∨ Iₚ q j = I q j) ∧ (∀ q j : Nat, (False) ∨ Jₚ q j = J q j) ∧ r = none))) (2, [(0, .inr (.inr (some p))), (1, .inl a1), (2, .inl v2_1)], [], sh, gc_h sh I J A) := by
    intro n9
    induction n9 with
    | zero => intro v2_1 hn; (/-0-/first | omega | (simp only [gz_hd] at *; omega))
    | succ n9 ih2 =>
      intro v2_1 hn m_1
      obtain ⟨ha1_1, hv2_1⟩ := gz_h2 m_1
      have L24 : (((-2000000) ≤ a1 ∧ a1 ≤ 2147483647) ∧ (1 ≤ v2_1 ∧ v2_1 ≤ 999999990)) → gv_X (gc_E9 ws0 tb 1 (yX9_putNumber, cX9_putNumber, 4, none) kX9_putNumber) (gv_Q cX9_putNumber none sh (fun r hₚ => (∃ (Iₚ : gr_I) (Jₚ : gr_J), hₚ = gc_h sh Iₚ Jₚ A ∧ gc_Inv ro Iₚ ∧ (∀ q j : Nat, ((q = p ∧ j = 1) ∨ q = (p + 1)) ∨ Iₚ q j = I q j) ∧ (∀ q j : Nat, (False) ∨ Jₚ q j = J q j) ∧ r = none))) (24, [(0, .inr (.inr (some p))), (1, .inl a1), (2, .inl v2_1)], [], sh, gc_h sh I J A) := by
        intro m_2
        obtain ⟨ha1_2, hv2_1_2⟩ := gz_h2 m_2
        have L26 : ∀ (n9 : Nat) (I3 : gr_I) (J4 : gr_J) (v3_5 : Int), (v3_5).toNat < n9 → gc_Inv ro I3 → (∀ q j : Nat, ((q = p ∧ j = 1) ∨ q = (p + 1)) ∨ I3 q j = I q j) → (∀ q j : Nat, (False) ∨ J4 q j = J q j) → (((-2000000) ≤ a1 ∧ a1 ≤ 2147483647) ∧ (0 ≤ v3_5 ∧ v3_5 ≤ 999999990)) → gv_X (gc_E9 ws0 tb 1 (yX9_putNumber, cX9_putNumber, 4, none) kX9_putNumber) (gv_Q cX9_putNumber none sh (fun r hₚ => (∃ (Iₚ : gr_I) (Jₚ : gr_J), hₚ = gc_h sh Iₚ Jₚ A ∧ gc_Inv ro Iₚ ∧ (∀ q j : Nat, ((q = p ∧ j = 1) ∨ q = (p + 1)) ∨ Iₚ q j = I q j) ∧ (∀ q j : Nat, (False) ∨ Jₚ q j = J q j) ∧ r = none))) (26, [(0, .inr (.inr (some p))), (1, .inl a1), (3, .inl v3_5)], [], sh, gc_h sh I3 J4 A) := by
          intro n9
          induction n9 with
          | zero => intro I3 J4 v3_5 hn; (/-1-/first | omega | (simp only [gz_hd] at *; omega))
          | succ n9 ih26 =>
            intro I3 J4 v3_5 hn hI3 FI3 FJ4 m_5
            clear ha1_2 hv2_1_2 ha1_1 hv2_1
            obtain ⟨ha1_5, hv3_5⟩ := gz_h2 m_5
            refine gv_run 1 true hD (pcₚ := 27) (lvₚ := [(0, .inr (.inr (some p))), (1, .inl a1), (3, .inl v3_5)]) (stₚ := [.inl v3_5]) (hₚ := gc_h sh I3 J4 A) (C := (True ∧ True)) rfl ⟨trivial, trivial⟩ ?_
            refine gv_if_le (t := 51) hD rfl rfl ⟨by (/-2-/first | (have o1 := gz_sh hv3_5; omega) | (simp only [gz_hd] at *; omega)), by (/-3-/first | (have o1 := gz_sh hv3_5; omega) | (simp only [gz_hd] at *; omega))⟩ (fun c6 => ?_) (fun c6 => ?_)
            · show gv_X _ _ (51, [(0, .inr (.inr (some p))), (1, .inl a1), (3, .inl v3_5)], [], sh, gc_h sh I3 J4 A)
              exact gv_vret hD rfl ⟨I3, J4, rfl, hI3, FI3, FJ4, rfl⟩
            · show gv_X _ _ (30, [(0, .inr (.inr (some p))), (1, .inl a1), (3, .inl v3_5)], [], sh, gc_h sh I3 J4 A)
              have f7 := gz_hi (gc_divn (x := a1) (y := v3_5) ⟨by (/-4-/first | omega | (simp only [gz_hd] at *; omega)), by (/-5-/first | omega | (simp only [gz_hd] at *; omega))⟩ ⟨by (/-6-/first | omega | (simp only [gz_hd] at *; omega)), by (/-7-/first | (have o1 := gz_sh hv3_5; omega) | (simp only [gz_hd] at *; omega))⟩)
              have f8 := gz_hi (gc_remn (x := (((Int32.ofInt a1 / Int32.ofInt v3_5).toInt))) (y := 10) ⟨by (/-8-/first | (have o1 := gz_sh f7; omega) | (simp only [gz_hd] at *; omega)), by (/-9-/first | (have o1 := gz_sh f7; omega) | (simp only [gz_hd] at *; omega))⟩ ⟨by (/-10-/first | omega | (simp only [gz_hd] at *; omega)), by (/-11-/first | omega | (simp only [gz_hd] at *; omega))⟩)
              refine gv_run 7 true hD (pcₚ := 39) (lvₚ := [(0, .inr (.inr (some p))), (1, .inl a1), (3, .inl v3_5)]) (stₚ := [.inl ((Int32.ofInt (((Int32.ofInt a1 / Int32.ofInt v3_5).toInt)) - Int32.ofInt (((Int32.ofInt a1 / Int32.ofInt v3_5).toInt)) / Int32.ofInt 10 * Int32.ofInt 10).toInt), .inl 48, .inr (.inr (some p))]) (hₚ := gc_h sh I3 J4 A) (C := (((((((True ∧ True) ∧ True) ∧ True) ∧ True) ∧ (gz_R v3_5 ∧ ¬ v3_5 = 0)) ∧ True) ∧ (gz_R 10 ∧ ¬ 10 = 0))) rfl ⟨⟨⟨⟨⟨⟨⟨trivial, trivial⟩, trivial⟩, trivial⟩, trivial⟩, ⟨⟨by (/-12-/first | omega | (simp only [gz_hd] at *; omega)), by (/-13-/first | (have o1 := gz_sh hv3_5; omega) | (simp only [gz_hd] at *; omega))⟩, by (/-14-/first | (have o1 := gz_sh hv3_5; omega) | (simp only [gz_hd] at *; omega))⟩⟩, trivial⟩, ⟨⟨by (/-15-/first | omega | (simp only [gz_hd] at *; omega)), by (/-16-/first | omega | (simp only [gz_hd] at *; omega))⟩, by (/-17-/first | omega | (simp only [gz_hd] at *; omega))⟩⟩ ?_
              refine gv_run 1 true hD (pcₚ := 40) (lvₚ := [(0, .inr (.inr (some p))), (1, .inl a1), (3, .inl v3_5)]) (stₚ := [.inl (48 + ((Int32.ofInt (((Int32.ofInt a1 / Int32.ofInt v3_5).toInt)) - Int32.ofInt (((Int32.ofInt a1 / Int32.ofInt v3_5).toInt)) / Int32.ofInt 10 * Int32.ofInt 10).toInt)), .inr (.inr (some p))]) (hₚ := gc_h sh I3 J4 A) (C := (True ∧ True)) rfl ⟨trivial, trivial⟩ ?_
              obtain ⟨r9, h9, E9, P9⟩ := d_X9_put (ws0 := ws0) (tb := tb) hws htb sh ro I3 J4 A hI3 p ((48 + ((Int32.ofInt (((Int32.ofInt a1 / Int32.ofInt v3_5).toInt)) - Int32.ofInt (((Int32.ofInt a1 / Int32.ofInt v3_5).toInt)) / Int32.ofInt 10 * Int32.ofInt 10).toInt))) hp   ⟨by (/-18-/first | (have o1 := gz_sh f8; omega) | (simp only [gz_hd] at *; omega)), by (/-19-/first | (have o1 := gz_sh f8; omega) | (simp only [gz_hd] at *; omega))⟩  
              obtain ⟨I10, J11, rfl, hI10, g9, k9, rfl⟩ := P9
              have FI10 := gc_frc (W := fun q j => (q = p ∧ j = 1) ∨ q = (p + 1)) (V := fun q j => (q = p ∧ j = 1) ∨ q = (p + 1)) FI3 (fun q j h => (h.elim (fun h => (Or.inl h)) (fun h => (Or.inr h)))) g9
              obtain rfl : J4 = J11 := funext fun q => funext fun j => ((k9 q j).resolve_left id).symm
              refine gv_callV hD rfl (As := [.inl (48 + ((Int32.ofInt (((Int32.ofInt a1 / Int32.ofInt v3_5).toInt)) - Int32.ofInt (((Int32.ofInt a1 / Int32.ofInt v3_5).toInt)) / Int32.ofInt 10 * Int32.ofInt 10).toInt))]) (st := []) rfl (gz_sh B_p) S_p rfl (gc_lV9 hws rfl) (Nat.le_of_ble_eq_true rfl) (gz_Ev_mono (d := 1) (by decide) E9) ?_
              show gv_X _ _ (43, [(0, .inr (.inr (some p))), (1, .inl a1), (3, .inl v3_5)], [], sh, gc_h sh I10 J4 A)
              have f12 := gz_hi (gw_div (x := v3_5) (y := 10) ⟨by (/-20-/first | omega | (simp only [gz_hd] at *; omega)), by (/-21-/first | (have o1 := gz_sh hv3_5; omega) | (simp only [gz_hd] at *; omega))⟩ ⟨by (/-22-/first | omega | (simp only [gz_hd] at *; omega)), by (/-23-/first | omega | (simp only [gz_hd] at *; omega))⟩)
              refine gv_run 5 true hD (pcₚ := 26) (lvₚ := [(3, .inl ((Int32.ofInt v3_5 / Int32.ofInt 10).toInt)), (0, .inr (.inr (some p))), (1, .inl a1)]) (stₚ := []) (hₚ := gc_h sh I10 J4 A) (C := (((((True ∧ True) ∧ True) ∧ (gz_R 10 ∧ ¬ 10 = 0)) ∧ True) ∧ True)) rfl ⟨⟨⟨⟨⟨trivial, trivial⟩, trivial⟩, ⟨⟨by (/-24-/first | omega | (simp only [gz_hd] at *; omega)), by (/-25-/first | omega | (simp only [gz_hd] at *; omega))⟩, by (/-26-/first | omega | (simp only [gz_hd] at *; omega))⟩⟩, trivial⟩, trivial⟩ ?_
              refine gv_pick [1, 2, 0] rfl ?_
              exact ih26 I10 J4 (((Int32.ofInt v3_5 / Int32.ofInt 10).toInt)) (by (/-27-/first | (have o1 := gz_sh f12; have o2 := gz_sh f7; have o3 := gz_sh hv3_5; omega) | (simp only [gz_hd] at *; omega))) hI10 FI10 FJ4 (by (/-28-/first | (and_intros; (omega); (omega); (have o1 := gz_sh f12; have o2 := gz_sh hv3_5; omega); (have o1 := gz_sh f12; have o2 := gz_sh hv3_5; omega)) | (simp only [gz_hd] at *; omega)))
        refine gv_run 2 true hD (pcₚ := 26) (lvₚ := [(3, .inl v2_1), (0, .inr (.inr (some p))), (1, .inl a1), (2, .inl v2_1)]) (stₚ := []) (hₚ := gc_h sh I J A) (C := ((True ∧ True) ∧ True)) rfl ⟨⟨trivial, trivial⟩, trivial⟩ ?_
        refine gv_pick [1, 2, 0] rfl ?_
        exact L26 _ I J v2_1 (Nat.lt_succ_self _) hI FI FJ (by (/-29-/first | (and_intros; (omega); (omega); (have o1 := gz_sh hv2_1; omega); (have o1 := gz_sh hv2_1; omega)) | (simp only [gz_hd] at *; omega)))
      have f13 := gz_hi (gc_divn (x := a1) (y := 10) ⟨by (/-30-/first | omega | (simp only [gz_hd] at *; omega)), by (/-31-/first | omega | (simp only [gz_hd] at *; omega))⟩ ⟨by (/-32-/first | omega | (simp only [gz_hd] at *; omega)), by (/-33-/first | omega | (simp only [gz_hd] at *; omega))⟩)
      refine gv_run 4 true hD (pcₚ := 7) (lvₚ := [(0, .inr (.inr (some p))), (1, .inl a1), (2, .inl v2_1)]) (stₚ := [.inl ((Int32.ofInt a1 / Int32.ofInt 10).toInt), .inl v2_1]) (hₚ := gc_h sh I J A) (C := ((((True ∧ True) ∧ True) ∧ True) ∧ (gz_R 10 ∧ ¬ 10 = 0))) rfl ⟨⟨⟨⟨trivial, trivial⟩, trivial⟩, trivial⟩, ⟨⟨by (/-34-/first | omega | (simp only [gz_hd] at *; omega)), by (/-35-/first | omega | (simp only [gz_hd] at *; omega))⟩, by (/-36-/first | omega | (simp only [gz_hd] at *; omega))⟩⟩ ?_
      refine gv_icmp_gt (t := 24) hD rfl rfl ⟨⟨by (/-37-/first | (have o1 := gz_sh hv2_1; omega) | (simp only [gz_hd] at *; omega)), by (/-38-/first | (have o1 := gz_sh hv2_1; omega) | (simp only [gz_hd] at *; omega))⟩, ⟨by (/-39-/first | (have o1 := gz_sh f13; omega) | (simp only [gz_hd] at *; omega)), by (/-40-/first | (have o1 := gz_sh f13; omega) | (simp only [gz_hd] at *; omega))⟩⟩ (fun c14 => ?_) (fun c14 => ?_)
      · show gv_X _ _ (24, [(0, .inr (.inr (some p))), (1, .inl a1), (2, .inl v2_1)], [], sh, gc_h sh I J A)
        exact L24 (by (/-41-/first | (and_intros; (omega); (omega); (have o1 := gz_sh hv2_1; omega); (have o1 := gz_sh hv2_1; omega)) | (simp only [gz_hd] at *; omega)))
      · show gv_X _ _ (10, [(0, .inr (.inr (some p))), (1, .inl a1), (2, .inl v2_1)], [], sh, gc_h sh I J A)
        refine gv_run 2 true hD (pcₚ := 13) (lvₚ := [(0, .inr (.inr (some p))), (1, .inl a1), (2, .inl v2_1)]) (stₚ := [.inl 100000000, .inl v2_1]) (hₚ := gc_h sh I J A) (C := ((True ∧ True) ∧ True)) rfl ⟨⟨trivial, trivial⟩, trivial⟩ ?_
        refine gv_icmp_ge (t := 24) hD rfl rfl ⟨⟨by (/-42-/first | (have o1 := gz_sh hv2_1; omega) | (simp only [gz_hd] at *; omega)), by (/-43-/first | (have o1 := gz_sh hv2_1; omega) | (simp only [gz_hd] at *; omega))⟩, ⟨by (/-44-/first | omega | (simp only [gz_hd] at *; omega)), by (/-45-/first | omega | (simp only [gz_hd] at *; omega))⟩⟩ (fun c15 => ?_) (fun c15 => ?_)
        · show gv_X _ _ (24, [(0, .inr (.inr (some p))), (1, .inl a1), (2, .inl v2_1)], [], sh, gc_h sh I J A)
          exact L24 (by (/-46-/first | (and_intros; (omega); (omega); (omega); (have o1 := gz_sh hv2_1; omega)) | (simp only [gz_hd] at *; omega)))
        · show gv_X _ _ (16, [(0, .inr (.inr (some p))), (1, .inl a1), (2, .inl v2_1)], [], sh, gc_h sh I J A)
          refine gv_run 5 true hD (pcₚ := 2) (lvₚ := [(2, .inl (v2_1 * 10)), (0, .inr (.inr (some p))), (1, .inl a1)]) (stₚ := []) (hₚ := gc_h sh I J A) (C := (((((True ∧ True) ∧ True) ∧ True) ∧ True) ∧ True)) rfl ⟨⟨⟨⟨⟨trivial, trivial⟩, trivial⟩, trivial⟩, trivial⟩, trivial⟩ ?_
          refine gv_pick [1, 2, 0] rfl ?_
          exact ih2 (v2_1 * 10) (by (/-47-/first | (have o1 := gz_sh f13; have o2 := gz_sh hv2_1; omega) | (simp only [gz_hd] at *; omega))) (by (/-48-/first | (and_intros; (omega); (omega); (have o1 := gz_sh hv2_1; omega); (omega)) | (simp only [gz_hd] at *; omega)))
  refine gv_run 2 true hD (pcₚ := 2) (lvₚ := [(2, .inl 1), (0, .inr (.inr (some p))), (1, .inl a1)]) (stₚ := []) (hₚ := gc_h sh I J A) (C := ((True ∧ True) ∧ True)) rfl ⟨⟨trivial, trivial⟩, trivial⟩ ?_
  refine gv_pick [1, 2, 0] rfl ?_
  exact L2 _ 1 (Nat.lt_succ_self _) (by (/-49-/first | (and_intros <;> omega) | (simp only [gz_hd] at *; omega)))
set_option maxHeartbeats 8000000 in
set_option maxRecDepth 100000 in
theorem d_X9_putBytes {ws0 : List Cond} {tb : String → gz_T} (hws : gc_Ws ws0) (htb : gc_tbs tb) (sh : gz_Sh) (ro : Nat → Nat) (I : gr_I) (J : gr_J) (A : gc_A) (hI : gc_Inv ro I) (p : Nat) (m : Nat) (a1 : Nat) (a2 : Int) (a3 : Int) (hp : gc_isText sh ro A p) (S_a1 : sh[a1]? = some (true, 0, m)) (R_a1 : ro a1 = 1) (B_a1 : a1 < 1000000) (M_a1 : m < 2147483648) (ha2 : 0 ≤ a2 ∧ a2 ≤ 60000) (ha3 : 0 ≤ a3 ∧ a3 ≤ 1000)  : ∃ r hₚ, gz_Ev ws0 tb 2 (yX9_putBytes, cX9_putBytes, 5, none) [.inr (.inr (some p)), .inr (.inr (some a1)), .inl a2, .inl a3] sh (gc_h sh I J A) r sh hₚ 0 0 ∧ (∃ (Iₚ : gr_I) (Jₚ : gr_J), hₚ = gc_h sh Iₚ Jₚ A ∧ gc_Inv ro Iₚ ∧ (∀ q j : Nat, ((q = p ∧ j = 1) ∨ q = (p + 1)) ∨ Iₚ q j = I q j) ∧ (∀ q j : Nat, (False) ∨ Jₚ q j = J q j) ∧ r = none) := by
  have FI : ∀ q j : Nat, ((q = p ∧ j = 1) ∨ q = (p + 1)) ∨ I q j = I q j := fun _ _ => Or.inr rfl
  have FJ : ∀ q j : Nat, (False) ∨ J q j = J q j := fun _ _ => Or.inr rfl
  obtain ⟨S_p, R_p, B_p, A_p_0, S_p_1, R_p_1, B_p_1, A_p_2, S_p_2, R_p_2, B_p_2, A_p_3, S_p_3, R_p_3, B_p_3⟩ := id hp
  replace R_p := gz_hi R_p
  replace B_p := gz_hi B_p
  replace R_p_1 := gz_hi R_p_1
  replace B_p_1 := gz_hi B_p_1
  replace R_p_2 := gz_hi R_p_2
  replace B_p_2 := gz_hi B_p_2
  replace R_p_3 := gz_hi R_p_3
  replace B_p_3 := gz_hi B_p_3
  have hD : gv_D (gc_E9 ws0 tb 1 (yX9_putBytes, cX9_putBytes, 5, none) kX9_putBytes) := gq_of oX9_putBytes
  refine gc_ev9 (d := 1) (l := kX9_putBytes) (Po := fun r hₚ => (∃ (Iₚ : gr_I) (Jₚ : gr_J), hₚ = gc_h sh Iₚ Jₚ A ∧ gc_Inv ro Iₚ ∧ (∀ q j : Nat, ((q = p ∧ j = 1) ∨ q = (p + 1)) ∨ Iₚ q j = I q j) ∧ (∀ q j : Nat, (False) ∨ Jₚ q j = J q j) ∧ r = none)) htb rfl (Nat.le_of_ble_eq_true rfl) ?_
  have L3 : ∀ (n9 : Nat) (I1 : gr_I) (J2 : gr_J) (v4_3 : Int), (61001 - v4_3).toNat < n9 → gc_Inv ro I1 → (∀ q j : Nat, ((q = p ∧ j = 1) ∨ q = (p + 1)) ∨ I1 q j = I q j) → (∀ q j : Nat, (False) ∨ J2 q j = J q j) → ((0 ≤ a2 ∧ a2 ≤ 60000) ∧ (0 ≤ a3 ∧ a3 ≤ 1000) ∧ (0 ≤ v4_3 ∧ v4_3 ≤ 61000)) → gv_X (gc_E9 ws0 tb 1 (yX9_putBytes, cX9_putBytes, 5, none) kX9_putBytes) (gv_Q cX9_putBytes none sh (fun r hₚ => (∃ (Iₚ : gr_I) (Jₚ : gr_J), hₚ = gc_h sh Iₚ Jₚ A ∧ gc_Inv ro Iₚ ∧ (∀ q j : Nat, ((q = p ∧ j = 1) ∨ q = (p + 1)) ∨ Iₚ q j = I q j) ∧ (∀ q j : Nat, (False) ∨ Jₚ q j = J q j) ∧ r = none))) (3, [(0, .inr (.inr (some p))), (1, .inr (.inr (some a1))), (2, .inl a2), (3, .inl a3), (4, .inl v4_3)], [], sh, gc_h sh I1 J2 A) := by
    intro n9
    induction n9 with
    | zero => intro I1 J2 v4_3 hn; (/-0-/first | omega | (simp only [gz_hd] at *; omega))
    | succ n9 ih3 =>
      intro I1 J2 v4_3 hn hI1 FI1 FJ2 m_3
      obtain ⟨ha2_3, ha3_3, hv4_3⟩ := gz_h3 m_3
      have L32 : gv_X (gc_E9 ws0 tb 1 (yX9_putBytes, cX9_putBytes, 5, none) kX9_putBytes) (gv_Q cX9_putBytes none sh (fun r hₚ => (∃ (Iₚ : gr_I) (Jₚ : gr_J), hₚ = gc_h sh Iₚ Jₚ A ∧ gc_Inv ro Iₚ ∧ (∀ q j : Nat, ((q = p ∧ j = 1) ∨ q = (p + 1)) ∨ Iₚ q j = I q j) ∧ (∀ q j : Nat, (False) ∨ Jₚ q j = J q j) ∧ r = none))) (32, [], [], sh, gc_h sh I1 J2 A) := by
        exact gv_vret hD rfl ⟨I1, J2, rfl, hI1, FI1, FJ2, rfl⟩
      refine gv_run 4 true hD (pcₚ := 8) (lvₚ := [(0, .inr (.inr (some p))), (1, .inr (.inr (some a1))), (2, .inl a2), (3, .inl a3), (4, .inl v4_3)]) (stₚ := [.inl (a2 + a3), .inl v4_3]) (hₚ := gc_h sh I1 J2 A) (C := ((((True ∧ True) ∧ True) ∧ True) ∧ True)) rfl ⟨⟨⟨⟨trivial, trivial⟩, trivial⟩, trivial⟩, trivial⟩ ?_
      refine gv_icmp_ge (t := 32) hD rfl rfl ⟨⟨by (/-1-/first | (have o1 := gz_sh hv4_3; omega) | (simp only [gz_hd] at *; omega)), by (/-2-/first | (have o1 := gz_sh hv4_3; omega) | (simp only [gz_hd] at *; omega))⟩, ⟨by (/-3-/first | omega | (simp only [gz_hd] at *; omega)), by (/-4-/first | omega | (simp only [gz_hd] at *; omega))⟩⟩ (fun c5 => ?_) (fun c5 => ?_)
      · show gv_X _ _ (32, [(0, .inr (.inr (some p))), (1, .inr (.inr (some a1))), (2, .inl a2), (3, .inl a3), (4, .inl v4_3)], [], sh, gc_h sh I1 J2 A)
        refine gv_pick [] rfl ?_
        exact L32 
      · show gv_X _ _ (11, [(0, .inr (.inr (some p))), (1, .inr (.inr (some a1))), (2, .inl a2), (3, .inl a3), (4, .inl v4_3)], [], sh, gc_h sh I1 J2 A)
        refine gv_run 2 true hD (pcₚ := 14) (lvₚ := [(0, .inr (.inr (some p))), (1, .inr (.inr (some a1))), (2, .inl a2), (3, .inl a3), (4, .inl v4_3)]) (stₚ := [.inr (.inr (some a1)), .inl v4_3]) (hₚ := gc_h sh I1 J2 A) (C := ((True ∧ True) ∧ True)) rfl ⟨⟨trivial, trivial⟩, trivial⟩ ?_
        refine gv_len hD rfl S_a1 ⟨by (/-5-/first | omega | (simp only [gz_hd] at *; omega)), B_a1⟩ ?_
        show gv_X _ _ (15, [(0, .inr (.inr (some p))), (1, .inr (.inr (some a1))), (2, .inl a2), (3, .inl a3), (4, .inl v4_3)], [.inl ((m : Nat) : Int), .inl v4_3], sh, gc_h sh I1 J2 A)
        refine gv_icmp_ge (t := 32) hD rfl rfl ⟨⟨by (/-6-/first | (have o1 := gz_sh hv4_3; omega) | (simp only [gz_hd] at *; omega)), by (/-7-/first | (have o1 := gz_sh hv4_3; omega) | (simp only [gz_hd] at *; omega))⟩, ⟨by (/-8-/first | omega | (simp only [gz_hd] at *; omega)), by (/-9-/first | omega | (simp only [gz_hd] at *; omega))⟩⟩ (fun c6 => ?_) (fun c6 => ?_)
        · show gv_X _ _ (32, [(0, .inr (.inr (some p))), (1, .inr (.inr (some a1))), (2, .inl a2), (3, .inl a3), (4, .inl v4_3)], [], sh, gc_h sh I1 J2 A)
          refine gv_pick [] rfl ?_
          exact L32 
        · show gv_X _ _ (18, [(0, .inr (.inr (some p))), (1, .inr (.inr (some a1))), (2, .inl a2), (3, .inl a3), (4, .inl v4_3)], [], sh, gc_h sh I1 J2 A)
          refine gv_run 3 true hD (pcₚ := 22) (lvₚ := [(0, .inr (.inr (some p))), (1, .inr (.inr (some a1))), (2, .inl a2), (3, .inl a3), (4, .inl v4_3)]) (stₚ := [.inl v4_3, .inr (.inr (some a1)), .inr (.inr (some p))]) (hₚ := gc_h sh I1 J2 A) (C := (((True ∧ True) ∧ True) ∧ True)) rfl ⟨⟨⟨trivial, trivial⟩, trivial⟩, trivial⟩ ?_
          have f7 := gz_hi ((show (-128) ≤ I1 a1 (Int.toNat v4_3) ∧ I1 a1 (Int.toNat v4_3) ≤ 127 from gc_in2 hI1 R_a1 rfl rfl rfl))
          refine gv_bald hD rfl S_a1 (Or.inl rfl) ⟨by (/-10-/first | omega | (simp only [gz_hd] at *; omega)), B_a1⟩ ⟨by (/-11-/first | (have o1 := gz_sh hv4_3; omega) | (simp only [gz_hd] at *; omega)), by (/-12-/first | omega | (simp only [gz_hd] at *; omega))⟩ (gc_iI S_a1 rfl) ?_
          show gv_X _ _ (23, [(0, .inr (.inr (some p))), (1, .inr (.inr (some a1))), (2, .inl a2), (3, .inl a3), (4, .inl v4_3)], [.inl (I1 a1 (Int.toNat v4_3)), .inr (.inr (some p))], sh, gc_h sh I1 J2 A)
          obtain ⟨r8, h8, E8, P8⟩ := d_X9_put (ws0 := ws0) (tb := tb) hws htb sh ro I1 J2 A hI1 p ((I1 a1 (Int.toNat v4_3))) hp   ⟨by (/-13-/first | (have o1 := gz_sh f7; omega) | (simp only [gz_hd] at *; omega)), by (/-14-/first | (have o1 := gz_sh f7; omega) | (simp only [gz_hd] at *; omega))⟩  
          obtain ⟨I9, J10, rfl, hI9, g8, k8, rfl⟩ := P8
          have FI9 := gc_frc (W := fun q j => (q = p ∧ j = 1) ∨ q = (p + 1)) (V := fun q j => (q = p ∧ j = 1) ∨ q = (p + 1)) FI1 (fun q j h => (h.elim (fun h => (Or.inl h)) (fun h => (Or.inr h)))) g8
          obtain rfl : J2 = J10 := funext fun q => funext fun j => ((k8 q j).resolve_left id).symm
          refine gv_callV hD rfl (As := [.inl (I1 a1 (Int.toNat v4_3))]) (st := []) rfl (gz_sh B_p) S_p rfl (gc_lV9 hws rfl) (Nat.le_of_ble_eq_true rfl) (gz_Ev_mono (d := 1) (by decide) E8) ?_
          show gv_X _ _ (26, [(0, .inr (.inr (some p))), (1, .inr (.inr (some a1))), (2, .inl a2), (3, .inl a3), (4, .inl v4_3)], [], sh, gc_h sh I9 J2 A)
          refine gv_run 2 true hD (pcₚ := 3) (lvₚ := [(4, .inl (v4_3 + 1)), (0, .inr (.inr (some p))), (1, .inr (.inr (some a1))), (2, .inl a2), (3, .inl a3)]) (stₚ := []) (hₚ := gc_h sh I9 J2 A) (C := ((True ∧ True) ∧ True)) rfl ⟨⟨trivial, trivial⟩, trivial⟩ ?_
          refine gv_pick [1, 2, 3, 4, 0] rfl ?_
          exact ih3 I9 J2 (v4_3 + 1) (by (/-15-/first | (have o1 := gz_sh hv4_3; omega) | (simp only [gz_hd] at *; omega))) hI9 FI9 FJ2 (by (/-16-/first | (and_intros; (omega); (omega); (omega); (omega); (have o1 := gz_sh hv4_3; omega); (omega)) | (simp only [gz_hd] at *; omega)))
  refine gv_run 2 true hD (pcₚ := 3) (lvₚ := [(4, .inl a2), (0, .inr (.inr (some p))), (1, .inr (.inr (some a1))), (2, .inl a2), (3, .inl a3)]) (stₚ := []) (hₚ := gc_h sh I J A) (C := ((True ∧ True) ∧ True)) rfl ⟨⟨trivial, trivial⟩, trivial⟩ ?_
  refine gv_pick [1, 2, 3, 4, 0] rfl ?_
  exact L3 _ I J a2 (Nat.lt_succ_self _) hI FI FJ (by (/-17-/first | (and_intros <;> omega) | (simp only [gz_hd] at *; omega)))
set_option maxHeartbeats 8000000 in
set_option maxRecDepth 100000 in
theorem d_X9_putSpaced {ws0 : List Cond} {tb : String → gz_T} (hws : gc_Ws ws0) (htb : gc_tbs tb) (sh : gz_Sh) (ro : Nat → Nat) (I : gr_I) (J : gr_J) (A : gc_A) (hI : gc_Inv ro I) (p : Nat) (m : Nat) (a1 : Nat) (a2 : Int) (a3 : Int) (hp : gc_isText sh ro A p) (S_a1 : sh[a1]? = some (true, 0, m)) (R_a1 : ro a1 = 1) (B_a1 : a1 < 1000000) (M_a1 : m < 2147483648) (ha2 : 0 ≤ a2 ∧ a2 ≤ 60000) (ha3 : 0 ≤ a3 ∧ a3 ≤ 1000)  : ∃ r hₚ, gz_Ev ws0 tb 3 (yX9_putSpaced, cX9_putSpaced, 4, none) [.inr (.inr (some p)), .inr (.inr (some a1)), .inl a2, .inl a3] sh (gc_h sh I J A) r sh hₚ 0 0 ∧ (∃ (Iₚ : gr_I) (Jₚ : gr_J), hₚ = gc_h sh Iₚ Jₚ A ∧ gc_Inv ro Iₚ ∧ (∀ q j : Nat, ((q = p ∧ j = 1) ∨ q = (p + 1)) ∨ Iₚ q j = I q j) ∧ (∀ q j : Nat, (False) ∨ Jₚ q j = J q j) ∧ r = none) := by
  have FI : ∀ q j : Nat, ((q = p ∧ j = 1) ∨ q = (p + 1)) ∨ I q j = I q j := fun _ _ => Or.inr rfl
  have FJ : ∀ q j : Nat, (False) ∨ J q j = J q j := fun _ _ => Or.inr rfl
  obtain ⟨S_p, R_p, B_p, A_p_0, S_p_1, R_p_1, B_p_1, A_p_2, S_p_2, R_p_2, B_p_2, A_p_3, S_p_3, R_p_3, B_p_3⟩ := id hp
  replace R_p := gz_hi R_p
  replace B_p := gz_hi B_p
  replace R_p_1 := gz_hi R_p_1
  replace B_p_1 := gz_hi B_p_1
  replace R_p_2 := gz_hi R_p_2
  replace B_p_2 := gz_hi B_p_2
  replace R_p_3 := gz_hi R_p_3
  replace B_p_3 := gz_hi B_p_3
  have hD : gv_D (gc_E9 ws0 tb 2 (yX9_putSpaced, cX9_putSpaced, 4, none) kX9_putSpaced) := gq_of oX9_putSpaced
  refine gc_ev9 (d := 2) (l := kX9_putSpaced) (Po := fun r hₚ => (∃ (Iₚ : gr_I) (Jₚ : gr_J), hₚ = gc_h sh Iₚ Jₚ A ∧ gc_Inv ro Iₚ ∧ (∀ q j : Nat, ((q = p ∧ j = 1) ∨ q = (p + 1)) ∨ Iₚ q j = I q j) ∧ (∀ q j : Nat, (False) ∨ Jₚ q j = J q j) ∧ r = none)) htb rfl (Nat.le_of_ble_eq_true rfl) ?_
  have L13 : ∀ (I1 : gr_I) (J2 : gr_J) , gc_Inv ro I1 → (∀ q j : Nat, ((q = p ∧ j = 1) ∨ q = (p + 1)) ∨ I1 q j = I q j) → (∀ q j : Nat, (False) ∨ J2 q j = J q j) → ((0 ≤ a2 ∧ a2 ≤ 60000) ∧ (0 ≤ a3 ∧ a3 ≤ 1000)) → gv_X (gc_E9 ws0 tb 2 (yX9_putSpaced, cX9_putSpaced, 4, none) kX9_putSpaced) (gv_Q cX9_putSpaced none sh (fun r hₚ => (∃ (Iₚ : gr_I) (Jₚ : gr_J), hₚ = gc_h sh Iₚ Jₚ A ∧ gc_Inv ro Iₚ ∧ (∀ q j : Nat, ((q = p ∧ j = 1) ∨ q = (p + 1)) ∨ Iₚ q j = I q j) ∧ (∀ q j : Nat, (False) ∨ Jₚ q j = J q j) ∧ r = none))) (13, [(0, .inr (.inr (some p))), (1, .inr (.inr (some a1))), (2, .inl a2), (3, .inl a3)], [], sh, gc_h sh I1 J2 A) := by
    intro I1 J2 hI1 FI1 FJ2 m_3
    obtain ⟨ha2_3, ha3_3⟩ := gz_h2 m_3
    refine gv_run 4 true hD (pcₚ := 17) (lvₚ := [(0, .inr (.inr (some p))), (1, .inr (.inr (some a1))), (2, .inl a2), (3, .inl a3)]) (stₚ := [.inl a3, .inl a2, .inr (.inr (some a1)), .inr (.inr (some p))]) (hₚ := gc_h sh I1 J2 A) (C := ((((True ∧ True) ∧ True) ∧ True) ∧ True)) rfl ⟨⟨⟨⟨trivial, trivial⟩, trivial⟩, trivial⟩, trivial⟩ ?_
    obtain ⟨r4, h4, E4, P4⟩ := d_X9_putBytes (ws0 := ws0) (tb := tb) hws htb sh ro I1 J2 A hI1 p m a1 a2 a3 hp S_a1 R_a1 B_a1 (by (/-0-/first | omega | (simp only [gz_hd] at *; omega)))  ⟨by (/-1-/first | omega | (simp only [gz_hd] at *; omega)), by (/-2-/first | omega | (simp only [gz_hd] at *; omega))⟩ ⟨by (/-3-/first | omega | (simp only [gz_hd] at *; omega)), by (/-4-/first | omega | (simp only [gz_hd] at *; omega))⟩  
    obtain ⟨I5, J6, rfl, hI5, g4, k4, rfl⟩ := P4
    have FI5 := gc_frc (W := fun q j => (q = p ∧ j = 1) ∨ q = (p + 1)) (V := fun q j => (q = p ∧ j = 1) ∨ q = (p + 1)) FI1 (fun q j h => (h.elim (fun h => (Or.inl h)) (fun h => (Or.inr h)))) g4
    obtain rfl : J2 = J6 := funext fun q => funext fun j => ((k4 q j).resolve_left id).symm
    refine gv_callV hD rfl (As := [.inr (.inr (some a1)), .inl a2, .inl a3]) (st := []) rfl (gz_sh B_p) S_p rfl (gc_lV9 hws rfl) (Nat.le_of_ble_eq_true rfl) (gz_Ev_mono (d := 2) (by decide) E4) ?_
    show gv_X _ _ (20, [(0, .inr (.inr (some p))), (1, .inr (.inr (some a1))), (2, .inl a2), (3, .inl a3)], [], sh, gc_h sh I5 J2 A)
    exact gv_vret hD rfl ⟨I5, J2, rfl, hI5, FI5, FJ2, rfl⟩
  refine gv_run 1 true hD (pcₚ := 1) (lvₚ := [(0, .inr (.inr (some p))), (1, .inr (.inr (some a1))), (2, .inl a2), (3, .inl a3)]) (stₚ := [.inr (.inr (some p))]) (hₚ := gc_h sh I J A) (C := (True ∧ True)) rfl ⟨trivial, trivial⟩ ?_
  have f7 := gz_hi ((show 0 ≤ I p 1 ∧ I p 1 ≤ 1000 from gc_in2 hI (gz_sh R_p) rfl rfl rfl))
  refine gv_get hD rfl rfl S_p ⟨by decide, (gz_sh B_p)⟩ (gc_hI S_p rfl) ?_
  show gv_X _ _ (4, [(0, .inr (.inr (some p))), (1, .inr (.inr (some a1))), (2, .inl a2), (3, .inl a3)], [.inl (I p 1)], sh, gc_h sh I J A)
  refine gv_if_le (t := 13) hD rfl rfl ⟨by (/-5-/first | (have o1 := gz_sh f7; omega) | (simp only [gz_hd] at *; omega)), by (/-6-/first | (have o1 := gz_sh f7; omega) | (simp only [gz_hd] at *; omega))⟩ (fun c8 => ?_) (fun c8 => ?_)
  · show gv_X _ _ (13, [(0, .inr (.inr (some p))), (1, .inr (.inr (some a1))), (2, .inl a2), (3, .inl a3)], [], sh, gc_h sh I J A)
    exact L13 I J hI FI FJ (by (/-7-/first | (and_intros <;> omega) | (simp only [gz_hd] at *; omega)))
  · show gv_X _ _ (7, [(0, .inr (.inr (some p))), (1, .inr (.inr (some a1))), (2, .inl a2), (3, .inl a3)], [], sh, gc_h sh I J A)
    refine gv_run 2 true hD (pcₚ := 10) (lvₚ := [(0, .inr (.inr (some p))), (1, .inr (.inr (some a1))), (2, .inl a2), (3, .inl a3)]) (stₚ := [.inl 32, .inr (.inr (some p))]) (hₚ := gc_h sh I J A) (C := ((True ∧ True) ∧ True)) rfl ⟨⟨trivial, trivial⟩, trivial⟩ ?_
    obtain ⟨r9, h9, E9, P9⟩ := d_X9_put (ws0 := ws0) (tb := tb) hws htb sh ro I J A hI p 32 hp   ⟨by (/-8-/first | omega | (simp only [gz_hd] at *; omega)), by (/-9-/first | omega | (simp only [gz_hd] at *; omega))⟩  
    obtain ⟨I10, J11, rfl, hI10, g9, k9, rfl⟩ := P9
    have FI10 := gc_frc (W := fun q j => (q = p ∧ j = 1) ∨ q = (p + 1)) (V := fun q j => (q = p ∧ j = 1) ∨ q = (p + 1)) FI (fun q j h => (h.elim (fun h => (Or.inl h)) (fun h => (Or.inr h)))) g9
    obtain rfl : J = J11 := funext fun q => funext fun j => ((k9 q j).resolve_left id).symm
    refine gv_callV hD rfl (As := [.inl 32]) (st := []) rfl (gz_sh B_p) S_p rfl (gc_lV9 hws rfl) (Nat.le_of_ble_eq_true rfl) (gz_Ev_mono (d := 1) (by decide) E9) ?_
    show gv_X _ _ (13, [(0, .inr (.inr (some p))), (1, .inr (.inr (some a1))), (2, .inl a2), (3, .inl a3)], [], sh, gc_h sh I10 J A)
    exact L13 I10 J hI10 FI10 FJ (by (/-10-/first | (and_intros <;> omega) | (simp only [gz_hd] at *; omega)))
set_option maxHeartbeats 8000000 in
set_option maxRecDepth 100000 in
theorem d_X9_putWordsBetween {ws0 : List Cond} {tb : String → gz_T} (hws : gc_Ws ws0) (htb : gc_tbs tb) (sh : gz_Sh) (ro : Nat → Nat) (I : gr_I) (J : gr_J) (A : gc_A) (hI : gc_Inv ro I) (p : Nat) (a1 : Nat) (a2 : Int) (a3 : Int) (hp : gc_isText sh ro A p) (h_a1 : gc_isText sh ro A a1) (ha2 : 0 ≤ a2 ∧ a2 ≤ 30) (ha3 : 0 ≤ a3 ∧ a3 ≤ 30)  : ∃ r hₚ, gz_Ev ws0 tb 4 (yX9_putWordsBetween, cX9_putWordsBetween, 5, none) [.inr (.inr (some p)), .inr (.inr (some a1)), .inl a2, .inl a3] sh (gc_h sh I J A) r sh hₚ 0 0 ∧ (∃ (Iₚ : gr_I) (Jₚ : gr_J), hₚ = gc_h sh Iₚ Jₚ A ∧ gc_Inv ro Iₚ ∧ (∀ q j : Nat, ((q = p ∧ j = 1) ∨ q = (p + 1)) ∨ Iₚ q j = I q j) ∧ (∀ q j : Nat, (False) ∨ Jₚ q j = J q j) ∧ r = none) := by
  have FI : ∀ q j : Nat, ((q = p ∧ j = 1) ∨ q = (p + 1)) ∨ I q j = I q j := fun _ _ => Or.inr rfl
  have FJ : ∀ q j : Nat, (False) ∨ J q j = J q j := fun _ _ => Or.inr rfl
  obtain ⟨S_p, R_p, B_p, A_p_0, S_p_1, R_p_1, B_p_1, A_p_2, S_p_2, R_p_2, B_p_2, A_p_3, S_p_3, R_p_3, B_p_3⟩ := id hp
  replace R_p := gz_hi R_p
  replace B_p := gz_hi B_p
  replace R_p_1 := gz_hi R_p_1
  replace B_p_1 := gz_hi B_p_1
  replace R_p_2 := gz_hi R_p_2
  replace B_p_2 := gz_hi B_p_2
  replace R_p_3 := gz_hi R_p_3
  replace B_p_3 := gz_hi B_p_3
  obtain ⟨S_a1, R_a1, B_a1, A_a1_0, S_a1_1, R_a1_1, B_a1_1, A_a1_2, S_a1_2, R_a1_2, B_a1_2, A_a1_3, S_a1_3, R_a1_3, B_a1_3⟩ := id h_a1
  replace R_a1 := gz_hi R_a1
  replace B_a1 := gz_hi B_a1
  replace R_a1_1 := gz_hi R_a1_1
  replace B_a1_1 := gz_hi B_a1_1
  replace R_a1_2 := gz_hi R_a1_2
  replace B_a1_2 := gz_hi B_a1_2
  replace R_a1_3 := gz_hi R_a1_3
  replace B_a1_3 := gz_hi B_a1_3
  have hD : gv_D (gc_E9 ws0 tb 3 (yX9_putWordsBetween, cX9_putWordsBetween, 5, none) kX9_putWordsBetween) := gq_of oX9_putWordsBetween
  refine gc_ev9 (d := 3) (l := kX9_putWordsBetween) (Po := fun r hₚ => (∃ (Iₚ : gr_I) (Jₚ : gr_J), hₚ = gc_h sh Iₚ Jₚ A ∧ gc_Inv ro Iₚ ∧ (∀ q j : Nat, ((q = p ∧ j = 1) ∨ q = (p + 1)) ∨ Iₚ q j = I q j) ∧ (∀ q j : Nat, (False) ∨ Jₚ q j = J q j) ∧ r = none)) htb rfl (Nat.le_of_ble_eq_true rfl) ?_
  have L3 : ∀ (n9 : Nat) (I1 : gr_I) (J2 : gr_J) (v4_3 : Int), (31 - v4_3).toNat < n9 → gc_Inv ro I1 → (∀ q j : Nat, ((q = p ∧ j = 1) ∨ q = (p + 1)) ∨ I1 q j = I q j) → (∀ q j : Nat, (False) ∨ J2 q j = J q j) → ((0 ≤ a3 ∧ a3 ≤ 30) ∧ (0 ≤ v4_3 ∧ v4_3 ≤ 30)) → gv_X (gc_E9 ws0 tb 3 (yX9_putWordsBetween, cX9_putWordsBetween, 5, none) kX9_putWordsBetween) (gv_Q cX9_putWordsBetween none sh (fun r hₚ => (∃ (Iₚ : gr_I) (Jₚ : gr_J), hₚ = gc_h sh Iₚ Jₚ A ∧ gc_Inv ro Iₚ ∧ (∀ q j : Nat, ((q = p ∧ j = 1) ∨ q = (p + 1)) ∨ Iₚ q j = I q j) ∧ (∀ q j : Nat, (False) ∨ Jₚ q j = J q j) ∧ r = none))) (3, [(0, .inr (.inr (some p))), (1, .inr (.inr (some a1))), (3, .inl a3), (4, .inl v4_3)], [], sh, gc_h sh I1 J2 A) := by
    intro n9
    induction n9 with
    | zero => intro I1 J2 v4_3 hn; (/-0-/first | omega | (simp only [gz_hd] at *; omega))
    | succ n9 ih3 =>
      intro I1 J2 v4_3 hn hI1 FI1 FJ2 m_3
      obtain ⟨ha3_3, hv4_3⟩ := gz_h2 m_3
      have L46 : gv_X (gc_E9 ws0 tb 3 (yX9_putWordsBetween, cX9_putWordsBetween, 5, none) kX9_putWordsBetween) (gv_Q cX9_putWordsBetween none sh (fun r hₚ => (∃ (Iₚ : gr_I) (Jₚ : gr_J), hₚ = gc_h sh Iₚ Jₚ A ∧ gc_Inv ro Iₚ ∧ (∀ q j : Nat, ((q = p ∧ j = 1) ∨ q = (p + 1)) ∨ Iₚ q j = I q j) ∧ (∀ q j : Nat, (False) ∨ Jₚ q j = J q j) ∧ r = none))) (46, [], [], sh, gc_h sh I1 J2 A) := by
        exact gv_vret hD rfl ⟨I1, J2, rfl, hI1, FI1, FJ2, rfl⟩
      refine gv_run 2 true hD (pcₚ := 6) (lvₚ := [(0, .inr (.inr (some p))), (1, .inr (.inr (some a1))), (3, .inl a3), (4, .inl v4_3)]) (stₚ := [.inl a3, .inl v4_3]) (hₚ := gc_h sh I1 J2 A) (C := ((True ∧ True) ∧ True)) rfl ⟨⟨trivial, trivial⟩, trivial⟩ ?_
      refine gv_icmp_ge (t := 46) hD rfl rfl ⟨⟨by (/-1-/first | (have o1 := gz_sh hv4_3; omega) | (simp only [gz_hd] at *; omega)), by (/-2-/first | (have o1 := gz_sh hv4_3; omega) | (simp only [gz_hd] at *; omega))⟩, ⟨by (/-3-/first | omega | (simp only [gz_hd] at *; omega)), by (/-4-/first | omega | (simp only [gz_hd] at *; omega))⟩⟩ (fun c5 => ?_) (fun c5 => ?_)
      · show gv_X _ _ (46, [(0, .inr (.inr (some p))), (1, .inr (.inr (some a1))), (3, .inl a3), (4, .inl v4_3)], [], sh, gc_h sh I1 J2 A)
        refine gv_pick [] rfl ?_
        exact L46 
      · show gv_X _ _ (9, [(0, .inr (.inr (some p))), (1, .inr (.inr (some a1))), (3, .inl a3), (4, .inl v4_3)], [], sh, gc_h sh I1 J2 A)
        refine gv_run 2 true hD (pcₚ := 12) (lvₚ := [(0, .inr (.inr (some p))), (1, .inr (.inr (some a1))), (3, .inl a3), (4, .inl v4_3)]) (stₚ := [.inr (.inr (some a1)), .inl v4_3]) (hₚ := gc_h sh I1 J2 A) (C := ((True ∧ True) ∧ True)) rfl ⟨⟨trivial, trivial⟩, trivial⟩ ?_
        have f6 := gz_hi ((show 0 ≤ I1 a1 4 ∧ I1 a1 4 ≤ 24 from gc_in2 hI1 (gz_sh R_a1) rfl rfl rfl))
        refine gv_get hD rfl rfl S_a1 ⟨by decide, (gz_sh B_a1)⟩ (gc_hI S_a1 rfl) ?_
        show gv_X _ _ (15, [(0, .inr (.inr (some p))), (1, .inr (.inr (some a1))), (3, .inl a3), (4, .inl v4_3)], [.inl (I1 a1 4), .inl v4_3], sh, gc_h sh I1 J2 A)
        refine gv_icmp_ge (t := 46) hD rfl rfl ⟨⟨by (/-5-/first | (have o1 := gz_sh hv4_3; omega) | (simp only [gz_hd] at *; omega)), by (/-6-/first | (have o1 := gz_sh hv4_3; omega) | (simp only [gz_hd] at *; omega))⟩, ⟨by (/-7-/first | (have o1 := gz_sh f6; omega) | (simp only [gz_hd] at *; omega)), by (/-8-/first | (have o1 := gz_sh f6; omega) | (simp only [gz_hd] at *; omega))⟩⟩ (fun c7 => ?_) (fun c7 => ?_)
        · show gv_X _ _ (46, [(0, .inr (.inr (some p))), (1, .inr (.inr (some a1))), (3, .inl a3), (4, .inl v4_3)], [], sh, gc_h sh I1 J2 A)
          refine gv_pick [] rfl ?_
          exact L46 
        · show gv_X _ _ (18, [(0, .inr (.inr (some p))), (1, .inr (.inr (some a1))), (3, .inl a3), (4, .inl v4_3)], [], sh, gc_h sh I1 J2 A)
          refine gv_run 2 true hD (pcₚ := 20) (lvₚ := [(0, .inr (.inr (some p))), (1, .inr (.inr (some a1))), (3, .inl a3), (4, .inl v4_3)]) (stₚ := [.inr (.inr (some a1)), .inr (.inr (some p))]) (hₚ := gc_h sh I1 J2 A) (C := ((True ∧ True) ∧ True)) rfl ⟨⟨trivial, trivial⟩, trivial⟩ ?_
          refine gv_get hD rfl rfl S_a1 ⟨by decide, (gz_sh B_a1)⟩ (gc_hA S_a1 rfl A_a1_0) ?_
          show gv_X _ _ (23, [(0, .inr (.inr (some p))), (1, .inr (.inr (some a1))), (3, .inl a3), (4, .inl v4_3)], [.inr (.inr (some (a1 + 1))), .inr (.inr (some p))], sh, gc_h sh I1 J2 A)
          refine gv_run 1 true hD (pcₚ := 24) (lvₚ := [(0, .inr (.inr (some p))), (1, .inr (.inr (some a1))), (3, .inl a3), (4, .inl v4_3)]) (stₚ := [.inr (.inr (some a1)), .inr (.inr (some (a1 + 1))), .inr (.inr (some p))]) (hₚ := gc_h sh I1 J2 A) (C := (True ∧ True)) rfl ⟨trivial, trivial⟩ ?_
          refine gv_get hD rfl rfl S_a1 ⟨by decide, (gz_sh B_a1)⟩ (gc_hA S_a1 rfl A_a1_2) ?_
          show gv_X _ _ (27, [(0, .inr (.inr (some p))), (1, .inr (.inr (some a1))), (3, .inl a3), (4, .inl v4_3)], [.inr (.inr (some (a1 + 2))), .inr (.inr (some (a1 + 1))), .inr (.inr (some p))], sh, gc_h sh I1 J2 A)
          refine gv_run 1 true hD (pcₚ := 29) (lvₚ := [(0, .inr (.inr (some p))), (1, .inr (.inr (some a1))), (3, .inl a3), (4, .inl v4_3)]) (stₚ := [.inl v4_3, .inr (.inr (some (a1 + 2))), .inr (.inr (some (a1 + 1))), .inr (.inr (some p))]) (hₚ := gc_h sh I1 J2 A) (C := (True ∧ True)) rfl ⟨trivial, trivial⟩ ?_
          have f8 := gz_hi ((show 0 ≤ I1 (a1 + 2) (Int.toNat v4_3) ∧ I1 (a1 + 2) (Int.toNat v4_3) ≤ 1000 from gc_in2 hI1 (gz_sh R_a1_2) rfl rfl rfl))
          refine gv_iald hD rfl S_a1_2 rfl ⟨by decide, (gz_sh B_a1_2)⟩ ⟨by (/-9-/first | (have o1 := gz_sh hv4_3; omega) | (simp only [gz_hd] at *; omega)), by (/-10-/first | (have o1 := gz_sh f6; omega) | (simp only [gz_hd] at *; omega))⟩ (gc_iI S_a1_2 rfl) ?_
          show gv_X _ _ (30, [(0, .inr (.inr (some p))), (1, .inr (.inr (some a1))), (3, .inl a3), (4, .inl v4_3)], [.inl (I1 (a1 + 2) (Int.toNat v4_3)), .inr (.inr (some (a1 + 1))), .inr (.inr (some p))], sh, gc_h sh I1 J2 A)
          refine gv_run 1 true hD (pcₚ := 31) (lvₚ := [(0, .inr (.inr (some p))), (1, .inr (.inr (some a1))), (3, .inl a3), (4, .inl v4_3)]) (stₚ := [.inr (.inr (some a1)), .inl (I1 (a1 + 2) (Int.toNat v4_3)), .inr (.inr (some (a1 + 1))), .inr (.inr (some p))]) (hₚ := gc_h sh I1 J2 A) (C := (True ∧ True)) rfl ⟨trivial, trivial⟩ ?_
          refine gv_get hD rfl rfl S_a1 ⟨by decide, (gz_sh B_a1)⟩ (gc_hA S_a1 rfl A_a1_3) ?_
          show gv_X _ _ (34, [(0, .inr (.inr (some p))), (1, .inr (.inr (some a1))), (3, .inl a3), (4, .inl v4_3)], [.inr (.inr (some (a1 + 3))), .inl (I1 (a1 + 2) (Int.toNat v4_3)), .inr (.inr (some (a1 + 1))), .inr (.inr (some p))], sh, gc_h sh I1 J2 A)
          refine gv_run 1 true hD (pcₚ := 36) (lvₚ := [(0, .inr (.inr (some p))), (1, .inr (.inr (some a1))), (3, .inl a3), (4, .inl v4_3)]) (stₚ := [.inl v4_3, .inr (.inr (some (a1 + 3))), .inl (I1 (a1 + 2) (Int.toNat v4_3)), .inr (.inr (some (a1 + 1))), .inr (.inr (some p))]) (hₚ := gc_h sh I1 J2 A) (C := (True ∧ True)) rfl ⟨trivial, trivial⟩ ?_
          have f9 := gz_hi ((show 0 ≤ I1 (a1 + 3) (Int.toNat v4_3) ∧ I1 (a1 + 3) (Int.toNat v4_3) ≤ 24 from gc_in2 hI1 (gz_sh R_a1_3) rfl rfl rfl))
          refine gv_iald hD rfl S_a1_3 rfl ⟨by decide, (gz_sh B_a1_3)⟩ ⟨by (/-11-/first | (have o1 := gz_sh hv4_3; omega) | (simp only [gz_hd] at *; omega)), by (/-12-/first | (have o1 := gz_sh f6; omega) | (simp only [gz_hd] at *; omega))⟩ (gc_iI S_a1_3 rfl) ?_
          show gv_X _ _ (37, [(0, .inr (.inr (some p))), (1, .inr (.inr (some a1))), (3, .inl a3), (4, .inl v4_3)], [.inl (I1 (a1 + 3) (Int.toNat v4_3)), .inl (I1 (a1 + 2) (Int.toNat v4_3)), .inr (.inr (some (a1 + 1))), .inr (.inr (some p))], sh, gc_h sh I1 J2 A)
          obtain ⟨r10, h10, E10, P10⟩ := d_X9_putSpaced (ws0 := ws0) (tb := tb) hws htb sh ro I1 J2 A hI1 p 1000 (a1 + 1) ((I1 (a1 + 2) (Int.toNat v4_3))) ((I1 (a1 + 3) (Int.toNat v4_3))) hp S_a1_1 (gz_sh R_a1_1) (gz_sh B_a1_1) (by decide)  ⟨by (/-13-/first | (have o1 := gz_sh f8; omega) | (simp only [gz_hd] at *; omega)), by (/-14-/first | (have o1 := gz_sh f8; omega) | (simp only [gz_hd] at *; omega))⟩ ⟨by (/-15-/first | (have o1 := gz_sh f9; omega) | (simp only [gz_hd] at *; omega)), by (/-16-/first | (have o1 := gz_sh f9; omega) | (simp only [gz_hd] at *; omega))⟩  
          obtain ⟨I11, J12, rfl, hI11, g10, k10, rfl⟩ := P10
          have FI11 := gc_frc (W := fun q j => (q = p ∧ j = 1) ∨ q = (p + 1)) (V := fun q j => (q = p ∧ j = 1) ∨ q = (p + 1)) FI1 (fun q j h => (h.elim (fun h => (Or.inl h)) (fun h => (Or.inr h)))) g10
          obtain rfl : J2 = J12 := funext fun q => funext fun j => ((k10 q j).resolve_left id).symm
          refine gv_callV hD rfl (As := [.inr (.inr (some (a1 + 1))), .inl (I1 (a1 + 2) (Int.toNat v4_3)), .inl (I1 (a1 + 3) (Int.toNat v4_3))]) (st := []) rfl (gz_sh B_p) S_p rfl (gc_lV9 hws rfl) (Nat.le_of_ble_eq_true rfl) (gz_Ev_mono (d := 3) (by decide) E10) ?_
          show gv_X _ _ (40, [(0, .inr (.inr (some p))), (1, .inr (.inr (some a1))), (3, .inl a3), (4, .inl v4_3)], [], sh, gc_h sh I11 J2 A)
          refine gv_run 2 true hD (pcₚ := 3) (lvₚ := [(4, .inl (v4_3 + 1)), (0, .inr (.inr (some p))), (1, .inr (.inr (some a1))), (3, .inl a3)]) (stₚ := []) (hₚ := gc_h sh I11 J2 A) (C := ((True ∧ True) ∧ True)) rfl ⟨⟨trivial, trivial⟩, trivial⟩ ?_
          refine gv_pick [1, 2, 3, 0] rfl ?_
          exact ih3 I11 J2 (v4_3 + 1) (by (/-17-/first | (have o1 := gz_sh f6; have o2 := gz_sh hv4_3; omega) | (simp only [gz_hd] at *; omega))) hI11 FI11 FJ2 (by (/-18-/first | (and_intros; (omega); (omega); (have o1 := gz_sh hv4_3; omega); (have o1 := gz_sh f6; omega)) | (simp only [gz_hd] at *; omega)))
  refine gv_run 2 true hD (pcₚ := 3) (lvₚ := [(4, .inl a2), (0, .inr (.inr (some p))), (1, .inr (.inr (some a1))), (2, .inl a2), (3, .inl a3)]) (stₚ := []) (hₚ := gc_h sh I J A) (C := ((True ∧ True) ∧ True)) rfl ⟨⟨trivial, trivial⟩, trivial⟩ ?_
  refine gv_pick [1, 2, 4, 0] rfl ?_
  exact L3 _ I J a2 (Nat.lt_succ_self _) hI FI FJ (by (/-19-/first | (and_intros <;> omega) | (simp only [gz_hd] at *; omega)))
set_option maxHeartbeats 8000000 in
set_option maxRecDepth 100000 in
theorem d_X9_putWords {ws0 : List Cond} {tb : String → gz_T} (hws : gc_Ws ws0) (htb : gc_tbs tb) (sh : gz_Sh) (ro : Nat → Nat) (I : gr_I) (J : gr_J) (A : gc_A) (hI : gc_Inv ro I) (p : Nat) (a1 : Nat) (hp : gc_isText sh ro A p) (h_a1 : gc_isText sh ro A a1)   : ∃ r hₚ, gz_Ev ws0 tb 5 (yX9_putWords, cX9_putWords, 2, none) [.inr (.inr (some p)), .inr (.inr (some a1))] sh (gc_h sh I J A) r sh hₚ 0 0 ∧ (∃ (Iₚ : gr_I) (Jₚ : gr_J), hₚ = gc_h sh Iₚ Jₚ A ∧ gc_Inv ro Iₚ ∧ (∀ q j : Nat, ((q = p ∧ j = 1) ∨ q = (p + 1)) ∨ Iₚ q j = I q j) ∧ (∀ q j : Nat, (False) ∨ Jₚ q j = J q j) ∧ r = none) := by
  have FI : ∀ q j : Nat, ((q = p ∧ j = 1) ∨ q = (p + 1)) ∨ I q j = I q j := fun _ _ => Or.inr rfl
  have FJ : ∀ q j : Nat, (False) ∨ J q j = J q j := fun _ _ => Or.inr rfl
  obtain ⟨S_p, R_p, B_p, A_p_0, S_p_1, R_p_1, B_p_1, A_p_2, S_p_2, R_p_2, B_p_2, A_p_3, S_p_3, R_p_3, B_p_3⟩ := id hp
  replace R_p := gz_hi R_p
  replace B_p := gz_hi B_p
  replace R_p_1 := gz_hi R_p_1
  replace B_p_1 := gz_hi B_p_1
  replace R_p_2 := gz_hi R_p_2
  replace B_p_2 := gz_hi B_p_2
  replace R_p_3 := gz_hi R_p_3
  replace B_p_3 := gz_hi B_p_3
  obtain ⟨S_a1, R_a1, B_a1, A_a1_0, S_a1_1, R_a1_1, B_a1_1, A_a1_2, S_a1_2, R_a1_2, B_a1_2, A_a1_3, S_a1_3, R_a1_3, B_a1_3⟩ := id h_a1
  replace R_a1 := gz_hi R_a1
  replace B_a1 := gz_hi B_a1
  replace R_a1_1 := gz_hi R_a1_1
  replace B_a1_1 := gz_hi B_a1_1
  replace R_a1_2 := gz_hi R_a1_2
  replace B_a1_2 := gz_hi B_a1_2
  replace R_a1_3 := gz_hi R_a1_3
  replace B_a1_3 := gz_hi B_a1_3
  have hD : gv_D (gc_E9 ws0 tb 4 (yX9_putWords, cX9_putWords, 2, none) kX9_putWords) := gq_of oX9_putWords
  refine gc_ev9 (d := 4) (l := kX9_putWords) (Po := fun r hₚ => (∃ (Iₚ : gr_I) (Jₚ : gr_J), hₚ = gc_h sh Iₚ Jₚ A ∧ gc_Inv ro Iₚ ∧ (∀ q j : Nat, ((q = p ∧ j = 1) ∨ q = (p + 1)) ∨ Iₚ q j = I q j) ∧ (∀ q j : Nat, (False) ∨ Jₚ q j = J q j) ∧ r = none)) htb rfl (Nat.le_of_ble_eq_true rfl) ?_
  refine gv_run 4 true hD (pcₚ := 4) (lvₚ := [(0, .inr (.inr (some p))), (1, .inr (.inr (some a1)))]) (stₚ := [.inr (.inr (some a1)), .inl 0, .inr (.inr (some a1)), .inr (.inr (some p))]) (hₚ := gc_h sh I J A) (C := ((((True ∧ True) ∧ True) ∧ True) ∧ True)) rfl ⟨⟨⟨⟨trivial, trivial⟩, trivial⟩, trivial⟩, trivial⟩ ?_
  have f1 := gz_hi ((show 0 ≤ I a1 4 ∧ I a1 4 ≤ 24 from gc_in2 hI (gz_sh R_a1) rfl rfl rfl))
  refine gv_get hD rfl rfl S_a1 ⟨by decide, (gz_sh B_a1)⟩ (gc_hI S_a1 rfl) ?_
  show gv_X _ _ (7, [(0, .inr (.inr (some p))), (1, .inr (.inr (some a1)))], [.inl (I a1 4), .inl 0, .inr (.inr (some a1)), .inr (.inr (some p))], sh, gc_h sh I J A)
  obtain ⟨r2, h2, E2, P2⟩ := d_X9_putWordsBetween (ws0 := ws0) (tb := tb) hws htb sh ro I J A hI p a1 0 (I a1 4) hp h_a1  ⟨by (/-0-/first | omega | (simp only [gz_hd] at *; omega)), by (/-1-/first | omega | (simp only [gz_hd] at *; omega))⟩ ⟨by (/-2-/first | (have o1 := gz_sh f1; omega) | (simp only [gz_hd] at *; omega)), by (/-3-/first | (have o1 := gz_sh f1; omega) | (simp only [gz_hd] at *; omega))⟩  
  obtain ⟨I3, J4, rfl, hI3, g2, k2, rfl⟩ := P2
  have FI3 := gc_frc (W := fun q j => (q = p ∧ j = 1) ∨ q = (p + 1)) (V := fun q j => (q = p ∧ j = 1) ∨ q = (p + 1)) FI (fun q j h => (h.elim (fun h => (Or.inl h)) (fun h => (Or.inr h)))) g2
  obtain rfl : J = J4 := funext fun q => funext fun j => ((k2 q j).resolve_left id).symm
  refine gv_callV hD rfl (As := [.inr (.inr (some a1)), .inl 0, .inl (I a1 4)]) (st := []) rfl (gz_sh B_p) S_p rfl (gc_lV9 hws rfl) (Nat.le_of_ble_eq_true rfl) (gz_Ev_mono (d := 4) (by decide) E2) ?_
  show gv_X _ _ (10, [(0, .inr (.inr (some p))), (1, .inr (.inr (some a1)))], [], sh, gc_h sh I3 J A)
  exact gv_vret hD rfl ⟨I3, J, rfl, hI3, FI3, FJ, rfl⟩
set_option maxHeartbeats 8000000 in
set_option maxRecDepth 100000 in
theorem d_X9_equalsBytes {ws0 : List Cond} {tb : String → gz_T} (hws : gc_Ws ws0) (htb : gc_tbs tb) (sh : gz_Sh) (ro : Nat → Nat) (I : gr_I) (J : gr_J) (A : gc_A) (hI : gc_Inv ro I) (p : Nat) (m : Nat) (a1 : Nat) (a2 : Int) (hp : gc_isText sh ro A p) (S_a1 : sh[a1]? = some (true, 0, m)) (R_a1 : ro a1 = 1) (B_a1 : a1 < 1000000) (M_a1 : m < 2147483648) (ha2 : 0 ≤ a2 ∧ a2 ≤ 60000)  : ∃ r hₚ, gz_Ev ws0 tb 1 (yX9_equalsBytes, cX9_equalsBytes, 4, (some .boolean)) [.inr (.inr (some p)), .inr (.inr (some a1)), .inl a2] sh (gc_h sh I J A) r sh hₚ 0 0 ∧ (hₚ = gc_h sh I J A ∧ (∃ z : Int, r = some (.inl z) ∧ 0 ≤ z ∧ z ≤ 1)) := by
  obtain ⟨S_p, R_p, B_p, A_p_0, S_p_1, R_p_1, B_p_1, A_p_2, S_p_2, R_p_2, B_p_2, A_p_3, S_p_3, R_p_3, B_p_3⟩ := id hp
  replace R_p := gz_hi R_p
  replace B_p := gz_hi B_p
  replace R_p_1 := gz_hi R_p_1
  replace B_p_1 := gz_hi B_p_1
  replace R_p_2 := gz_hi R_p_2
  replace B_p_2 := gz_hi B_p_2
  replace R_p_3 := gz_hi R_p_3
  replace B_p_3 := gz_hi B_p_3
  have hD : gv_D (gc_E9 ws0 tb 0 (yX9_equalsBytes, cX9_equalsBytes, 4, (some .boolean)) kX9_equalsBytes) := gq_of oX9_equalsBytes
  refine gc_ev9 (d := 0) (l := kX9_equalsBytes) (Po := fun r hₚ => (hₚ = gc_h sh I J A ∧ (∃ z : Int, r = some (.inl z) ∧ 0 ≤ z ∧ z ≤ 1))) htb rfl (Nat.le_of_ble_eq_true rfl) ?_
  have f1 := gz_hi ((show 0 ≤ I p 1 ∧ I p 1 ≤ 1000 from gc_in2 hI (gz_sh R_p) rfl rfl rfl))
  have L14 : gv_X (gc_E9 ws0 tb 0 (yX9_equalsBytes, cX9_equalsBytes, 4, (some .boolean)) kX9_equalsBytes) (gv_Q cX9_equalsBytes (some .boolean) sh (fun r hₚ => (hₚ = gc_h sh I J A ∧ (∃ z : Int, r = some (.inl z) ∧ 0 ≤ z ∧ z ≤ 1)))) (14, [], [], sh, gc_h sh I J A) := by
    refine gv_run 1 true hD (pcₚ := 15) (lvₚ := []) (stₚ := [.inl 0]) (hₚ := gc_h sh I J A) (C := (True ∧ True)) rfl ⟨trivial, trivial⟩ ?_
    exact gv_zret hD rfl (by (/-0-/first | omega | (simp only [gz_hd] at *; omega))) ⟨rfl, ⟨_, rfl, by (/-1-/first | (and_intros <;> omega) | (simp only [gz_hd] at *; omega))⟩⟩
  have L18 : ∀ (n9 : Nat) (v3_4 : Int), (1001 - v3_4).toNat < n9 → ((0 ≤ a2 ∧ a2 ≤ 1000) ∧ (0 ≤ v3_4 ∧ v3_4 ≤ 1000) ∧ (a2 ≤ ((m : Nat) : Int)) ∧ (a2 ≤ 1000)) → gv_X (gc_E9 ws0 tb 0 (yX9_equalsBytes, cX9_equalsBytes, 4, (some .boolean)) kX9_equalsBytes) (gv_Q cX9_equalsBytes (some .boolean) sh (fun r hₚ => (hₚ = gc_h sh I J A ∧ (∃ z : Int, r = some (.inl z) ∧ 0 ≤ z ∧ z ≤ 1)))) (18, [(0, .inr (.inr (some p))), (1, .inr (.inr (some a1))), (2, .inl a2), (3, .inl v3_4)], [], sh, gc_h sh I J A) := by
    intro n9
    induction n9 with
    | zero => intro v3_4 hn; (/-2-/first | omega | (simp only [gz_hd] at *; omega))
    | succ n9 ih18 =>
      intro v3_4 hn m_4
      obtain ⟨ha2_4, hv3_4, e0_4, e1_4⟩ := gz_h4 m_4
      refine gv_run 2 true hD (pcₚ := 20) (lvₚ := [(0, .inr (.inr (some p))), (1, .inr (.inr (some a1))), (2, .inl a2), (3, .inl v3_4)]) (stₚ := [.inl a2, .inl v3_4]) (hₚ := gc_h sh I J A) (C := ((True ∧ True) ∧ True)) rfl ⟨⟨trivial, trivial⟩, trivial⟩ ?_
      refine gv_icmp_ge (t := 43) hD rfl rfl ⟨⟨by (/-3-/first | (have o1 := gz_sh hv3_4; omega) | (simp only [gz_hd] at *; omega)), by (/-4-/first | (have o1 := gz_sh hv3_4; omega) | (simp only [gz_hd] at *; omega))⟩, ⟨by (/-5-/first | omega | (simp only [gz_hd] at *; omega)), by (/-6-/first | (have o1 := gz_sh ha2_4; omega) | (simp only [gz_hd] at *; omega))⟩⟩ (fun c6 => ?_) (fun c6 => ?_)
      · show gv_X _ _ (43, [(0, .inr (.inr (some p))), (1, .inr (.inr (some a1))), (2, .inl a2), (3, .inl v3_4)], [], sh, gc_h sh I J A)
        refine gv_run 1 true hD (pcₚ := 44) (lvₚ := [(0, .inr (.inr (some p))), (1, .inr (.inr (some a1))), (2, .inl a2), (3, .inl v3_4)]) (stₚ := [.inl 1]) (hₚ := gc_h sh I J A) (C := (True ∧ True)) rfl ⟨trivial, trivial⟩ ?_
        exact gv_zret hD rfl (by (/-7-/first | omega | (simp only [gz_hd] at *; omega))) ⟨rfl, ⟨_, rfl, by (/-8-/first | (and_intros <;> omega) | (simp only [gz_hd] at *; omega))⟩⟩
      · show gv_X _ _ (23, [(0, .inr (.inr (some p))), (1, .inr (.inr (some a1))), (2, .inl a2), (3, .inl v3_4)], [], sh, gc_h sh I J A)
        refine gv_run 1 true hD (pcₚ := 24) (lvₚ := [(0, .inr (.inr (some p))), (1, .inr (.inr (some a1))), (2, .inl a2), (3, .inl v3_4)]) (stₚ := [.inr (.inr (some p))]) (hₚ := gc_h sh I J A) (C := (True ∧ True)) rfl ⟨trivial, trivial⟩ ?_
        refine gv_get hD rfl rfl S_p ⟨by decide, (gz_sh B_p)⟩ (gc_hA S_p rfl A_p_0) ?_
        show gv_X _ _ (27, [(0, .inr (.inr (some p))), (1, .inr (.inr (some a1))), (2, .inl a2), (3, .inl v3_4)], [.inr (.inr (some (p + 1)))], sh, gc_h sh I J A)
        refine gv_run 1 true hD (pcₚ := 28) (lvₚ := [(0, .inr (.inr (some p))), (1, .inr (.inr (some a1))), (2, .inl a2), (3, .inl v3_4)]) (stₚ := [.inl v3_4, .inr (.inr (some (p + 1)))]) (hₚ := gc_h sh I J A) (C := (True ∧ True)) rfl ⟨trivial, trivial⟩ ?_
        have f7 := gz_hi ((show (-128) ≤ I (p + 1) (Int.toNat v3_4) ∧ I (p + 1) (Int.toNat v3_4) ≤ 127 from gc_in2 hI (gz_sh R_p_1) rfl rfl rfl))
        refine gv_bald hD rfl S_p_1 (Or.inl rfl) ⟨by decide, (gz_sh B_p_1)⟩ ⟨by (/-9-/first | (have o1 := gz_sh hv3_4; omega) | (simp only [gz_hd] at *; omega)), by (/-10-/first | (have o1 := gz_sh ha2_4; omega) | (simp only [gz_hd] at *; omega))⟩ (gc_iI S_p_1 rfl) ?_
        show gv_X _ _ (29, [(0, .inr (.inr (some p))), (1, .inr (.inr (some a1))), (2, .inl a2), (3, .inl v3_4)], [.inl (I (p + 1) (Int.toNat v3_4))], sh, gc_h sh I J A)
        refine gv_run 2 true hD (pcₚ := 31) (lvₚ := [(0, .inr (.inr (some p))), (1, .inr (.inr (some a1))), (2, .inl a2), (3, .inl v3_4)]) (stₚ := [.inl v3_4, .inr (.inr (some a1)), .inl (I (p + 1) (Int.toNat v3_4))]) (hₚ := gc_h sh I J A) (C := ((True ∧ True) ∧ True)) rfl ⟨⟨trivial, trivial⟩, trivial⟩ ?_
        have f8 := gz_hi ((show (-128) ≤ I a1 (Int.toNat v3_4) ∧ I a1 (Int.toNat v3_4) ≤ 127 from gc_in2 hI R_a1 rfl rfl rfl))
        refine gv_bald hD rfl S_a1 (Or.inl rfl) ⟨by (/-11-/first | omega | (simp only [gz_hd] at *; omega)), B_a1⟩ ⟨by (/-12-/first | (have o1 := gz_sh hv3_4; omega) | (simp only [gz_hd] at *; omega)), by (/-13-/first | (have o1 := gz_sh e0_4; omega) | (simp only [gz_hd] at *; omega))⟩ (gc_iI S_a1 rfl) ?_
        show gv_X _ _ (32, [(0, .inr (.inr (some p))), (1, .inr (.inr (some a1))), (2, .inl a2), (3, .inl v3_4)], [.inl (I a1 (Int.toNat v3_4)), .inl (I (p + 1) (Int.toNat v3_4))], sh, gc_h sh I J A)
        refine gv_icmp_eq (t := 37) hD rfl rfl ⟨⟨by (/-14-/first | (have o1 := gz_sh f7; omega) | (simp only [gz_hd] at *; omega)), by (/-15-/first | (have o1 := gz_sh f7; omega) | (simp only [gz_hd] at *; omega))⟩, ⟨by (/-16-/first | (have o1 := gz_sh f8; omega) | (simp only [gz_hd] at *; omega)), by (/-17-/first | (have o1 := gz_sh f8; omega) | (simp only [gz_hd] at *; omega))⟩⟩ (fun c9 => ?_) (fun c9 => ?_)
        · show gv_X _ _ (37, [(0, .inr (.inr (some p))), (1, .inr (.inr (some a1))), (2, .inl a2), (3, .inl v3_4)], [], sh, gc_h sh I J A)
          refine gv_run 2 true hD (pcₚ := 18) (lvₚ := [(3, .inl (v3_4 + 1)), (0, .inr (.inr (some p))), (1, .inr (.inr (some a1))), (2, .inl a2)]) (stₚ := []) (hₚ := gc_h sh I J A) (C := ((True ∧ True) ∧ True)) rfl ⟨⟨trivial, trivial⟩, trivial⟩ ?_
          refine gv_pick [1, 2, 3, 0] rfl ?_
          exact ih18 (v3_4 + 1) (by (/-18-/first | (have o1 := gz_sh ha2_4; have o2 := gz_sh hv3_4; omega) | (simp only [gz_hd] at *; omega))) (by (/-19-/first | (and_intros; (omega); (have o1 := gz_sh ha2_4; omega); (have o1 := gz_sh hv3_4; omega); (have o1 := gz_sh ha2_4; omega); (have o1 := gz_sh e0_4; omega); (have o1 := gz_sh ha2_4; omega)) | (simp only [gz_hd] at *; omega)))
        · show gv_X _ _ (35, [(0, .inr (.inr (some p))), (1, .inr (.inr (some a1))), (2, .inl a2), (3, .inl v3_4)], [], sh, gc_h sh I J A)
          refine gv_run 1 true hD (pcₚ := 36) (lvₚ := [(0, .inr (.inr (some p))), (1, .inr (.inr (some a1))), (2, .inl a2), (3, .inl v3_4)]) (stₚ := [.inl 0]) (hₚ := gc_h sh I J A) (C := (True ∧ True)) rfl ⟨trivial, trivial⟩ ?_
          exact gv_zret hD rfl (by (/-20-/first | omega | (simp only [gz_hd] at *; omega))) ⟨rfl, ⟨_, rfl, by (/-21-/first | (and_intros <;> omega) | (simp only [gz_hd] at *; omega))⟩⟩
  refine gv_run 2 true hD (pcₚ := 2) (lvₚ := [(0, .inr (.inr (some p))), (1, .inr (.inr (some a1))), (2, .inl a2)]) (stₚ := [.inr (.inr (some p)), .inl a2]) (hₚ := gc_h sh I J A) (C := ((True ∧ True) ∧ True)) rfl ⟨⟨trivial, trivial⟩, trivial⟩ ?_
  refine gv_get hD rfl rfl S_p ⟨by decide, (gz_sh B_p)⟩ (gc_hI S_p rfl) ?_
  show gv_X _ _ (5, [(0, .inr (.inr (some p))), (1, .inr (.inr (some a1))), (2, .inl a2)], [.inl (I p 1), .inl a2], sh, gc_h sh I J A)
  refine gv_icmp_ne (t := 14) hD rfl rfl ⟨⟨by (/-22-/first | omega | (simp only [gz_hd] at *; omega)), by (/-23-/first | omega | (simp only [gz_hd] at *; omega))⟩, ⟨by (/-24-/first | (have o1 := gz_sh f1; omega) | (simp only [gz_hd] at *; omega)), by (/-25-/first | (have o1 := gz_sh f1; omega) | (simp only [gz_hd] at *; omega))⟩⟩ (fun c11 => ?_) (fun c11 => ?_)
  · show gv_X _ _ (14, [(0, .inr (.inr (some p))), (1, .inr (.inr (some a1))), (2, .inl a2)], [], sh, gc_h sh I J A)
    refine gv_pick [] rfl ?_
    exact L14 
  · show gv_X _ _ (8, [(0, .inr (.inr (some p))), (1, .inr (.inr (some a1))), (2, .inl a2)], [], sh, gc_h sh I J A)
    refine gv_run 2 true hD (pcₚ := 10) (lvₚ := [(0, .inr (.inr (some p))), (1, .inr (.inr (some a1))), (2, .inl a2)]) (stₚ := [.inr (.inr (some a1)), .inl a2]) (hₚ := gc_h sh I J A) (C := ((True ∧ True) ∧ True)) rfl ⟨⟨trivial, trivial⟩, trivial⟩ ?_
    refine gv_len hD rfl S_a1 ⟨by (/-26-/first | omega | (simp only [gz_hd] at *; omega)), B_a1⟩ ?_
    show gv_X _ _ (11, [(0, .inr (.inr (some p))), (1, .inr (.inr (some a1))), (2, .inl a2)], [.inl ((m : Nat) : Int), .inl a2], sh, gc_h sh I J A)
    refine gv_icmp_le (t := 16) hD rfl rfl ⟨⟨by (/-27-/first | (have o1 := gz_sh f1; omega) | (simp only [gz_hd] at *; omega)), by (/-28-/first | (have o1 := gz_sh f1; omega) | (simp only [gz_hd] at *; omega))⟩, ⟨by (/-29-/first | omega | (simp only [gz_hd] at *; omega)), by (/-30-/first | omega | (simp only [gz_hd] at *; omega))⟩⟩ (fun c12 => ?_) (fun c12 => ?_)
    · show gv_X _ _ (16, [(0, .inr (.inr (some p))), (1, .inr (.inr (some a1))), (2, .inl a2)], [], sh, gc_h sh I J A)
      refine gv_run 2 true hD (pcₚ := 18) (lvₚ := [(3, .inl 0), (0, .inr (.inr (some p))), (1, .inr (.inr (some a1))), (2, .inl a2)]) (stₚ := []) (hₚ := gc_h sh I J A) (C := ((True ∧ True) ∧ True)) rfl ⟨⟨trivial, trivial⟩, trivial⟩ ?_
      refine gv_pick [1, 2, 3, 0] rfl ?_
      exact L18 _ 0 (Nat.lt_succ_self _) (by (/-31-/first | (and_intros; (have o1 := gz_sh f1; omega); (have o1 := gz_sh f1; omega); (omega); (omega); (omega); (have o1 := gz_sh f1; omega)) | (simp only [gz_hd] at *; omega)))
    · show gv_X _ _ (14, [(0, .inr (.inr (some p))), (1, .inr (.inr (some a1))), (2, .inl a2)], [], sh, gc_h sh I J A)
      refine gv_pick [] rfl ?_
      exact L14 
set_option maxHeartbeats 8000000 in
set_option maxRecDepth 100000 in
theorem d_X9_isLetter {ws0 : List Cond} {tb : String → gz_T} (hws : gc_Ws ws0) (htb : gc_tbs tb) (sh : gz_Sh) (ro : Nat → Nat) (I : gr_I) (J : gr_J) (A : gc_A) (hI : gc_Inv ro I) (a1 : Int)  (ha1 : (-2147483648) ≤ a1 ∧ a1 ≤ 2147483647)  : ∃ r hₚ, gz_Ev ws0 tb 1 (yX9_isLetter, cX9_isLetter, 1, (some .boolean)) [.inl a1] sh (gc_h sh I J A) r sh hₚ 0 0 ∧ (hₚ = gc_h sh I J A ∧ (∃ z : Int, r = some (.inl z) ∧ 0 ≤ z ∧ z ≤ 1 ∧ (z = 0 ∨ (97 ≤ a1 ∧ a1 ≤ 122)))) := by
  have hD : gv_D (gc_E9 ws0 tb 0 (yX9_isLetter, cX9_isLetter, 1, (some .boolean)) kX9_isLetter) := gq_of oX9_isLetter
  refine gc_ev9 (d := 0) (l := kX9_isLetter) (Po := fun r hₚ => (hₚ = gc_h sh I J A ∧ (∃ z : Int, r = some (.inl z) ∧ 0 ≤ z ∧ z ≤ 1 ∧ (z = 0 ∨ (97 ≤ a1 ∧ a1 ≤ 122))))) htb rfl (Nat.le_of_ble_eq_true rfl) ?_
  have L17 : ∀ (s0_1 : Int), ((0 ≤ s0_1 ∧ s0_1 ≤ 1) ∧ (s0_1 = 0 ∨ (97 ≤ a1 ∧ a1 ≤ 122))) → gv_X (gc_E9 ws0 tb 0 (yX9_isLetter, cX9_isLetter, 1, (some .boolean)) kX9_isLetter) (gv_Q cX9_isLetter (some .boolean) sh (fun r hₚ => (hₚ = gc_h sh I J A ∧ (∃ z : Int, r = some (.inl z) ∧ 0 ≤ z ∧ z ≤ 1 ∧ (z = 0 ∨ (97 ≤ a1 ∧ a1 ≤ 122)))))) (17, [], [.inl s0_1], sh, gc_h sh I J A) := by
    intro s0_1 m_1
    obtain ⟨hs0_1, e0_1⟩ := gz_h2 m_1
    exact gv_zret hD rfl (by (/-0-/first | (have o1 := gz_sh hs0_1; omega) | (simp only [gz_hd] at *; omega))) ⟨rfl, ⟨_, rfl, by (/-1-/first | (and_intros; (have o1 := gz_sh hs0_1; omega); (have o1 := gz_sh hs0_1; omega); (have o1 := gz_sh e0_1; have o2 := gz_sh hs0_1; omega)) | (simp only [gz_hd] at *; omega))⟩⟩
  have L16 : gv_X (gc_E9 ws0 tb 0 (yX9_isLetter, cX9_isLetter, 1, (some .boolean)) kX9_isLetter) (gv_Q cX9_isLetter (some .boolean) sh (fun r hₚ => (hₚ = gc_h sh I J A ∧ (∃ z : Int, r = some (.inl z) ∧ 0 ≤ z ∧ z ≤ 1 ∧ (z = 0 ∨ (97 ≤ a1 ∧ a1 ≤ 122)))))) (16, [], [], sh, gc_h sh I J A) := by
    refine gv_run 1 true hD (pcₚ := 17) (lvₚ := []) (stₚ := [.inl 0]) (hₚ := gc_h sh I J A) (C := (True ∧ True)) rfl ⟨trivial, trivial⟩ ?_
    exact L17 0 (by (/-2-/first | (and_intros <;> omega) | (simp only [gz_hd] at *; omega)))
  refine gv_run 2 true hD (pcₚ := 3) (lvₚ := [(0, .inl a1)]) (stₚ := [.inl 97, .inl a1]) (hₚ := gc_h sh I J A) (C := ((True ∧ True) ∧ True)) rfl ⟨⟨trivial, trivial⟩, trivial⟩ ?_
  refine gv_icmp_lt (t := 16) hD rfl rfl ⟨⟨by (/-3-/first | omega | (simp only [gz_hd] at *; omega)), by (/-4-/first | omega | (simp only [gz_hd] at *; omega))⟩, ⟨by (/-5-/first | omega | (simp only [gz_hd] at *; omega)), by (/-6-/first | omega | (simp only [gz_hd] at *; omega))⟩⟩ (fun c3 => ?_) (fun c3 => ?_)
  · show gv_X _ _ (16, [(0, .inl a1)], [], sh, gc_h sh I J A)
    refine gv_pick [] rfl ?_
    exact L16 
  · show gv_X _ _ (6, [(0, .inl a1)], [], sh, gc_h sh I J A)
    refine gv_run 2 true hD (pcₚ := 9) (lvₚ := [(0, .inl a1)]) (stₚ := [.inl 122, .inl a1]) (hₚ := gc_h sh I J A) (C := ((True ∧ True) ∧ True)) rfl ⟨⟨trivial, trivial⟩, trivial⟩ ?_
    refine gv_icmp_gt (t := 16) hD rfl rfl ⟨⟨by (/-7-/first | omega | (simp only [gz_hd] at *; omega)), by (/-8-/first | omega | (simp only [gz_hd] at *; omega))⟩, ⟨by (/-9-/first | omega | (simp only [gz_hd] at *; omega)), by (/-10-/first | omega | (simp only [gz_hd] at *; omega))⟩⟩ (fun c4 => ?_) (fun c4 => ?_)
    · show gv_X _ _ (16, [(0, .inl a1)], [], sh, gc_h sh I J A)
      refine gv_pick [] rfl ?_
      exact L16 
    · show gv_X _ _ (12, [(0, .inl a1)], [], sh, gc_h sh I J A)
      refine gv_run 2 true hD (pcₚ := 17) (lvₚ := [(0, .inl a1)]) (stₚ := [.inl 1]) (hₚ := gc_h sh I J A) (C := ((True ∧ True) ∧ True)) rfl ⟨⟨trivial, trivial⟩, trivial⟩ ?_
      refine gv_pick [] rfl ?_
      exact L17 1 (by (/-11-/first | (and_intros <;> omega) | (simp only [gz_hd] at *; omega)))
set_option maxHeartbeats 8000000 in
set_option maxRecDepth 100000 in
theorem d_X9_isWord {ws0 : List Cond} {tb : String → gz_T} (hws : gc_Ws ws0) (htb : gc_tbs tb) (sh : gz_Sh) (ro : Nat → Nat) (I : gr_I) (J : gr_J) (A : gc_A) (hI : gc_Inv ro I) (p : Nat)  (hp : gc_isText sh ro A p)   : ∃ r hₚ, gz_Ev ws0 tb 2 (yX9_isWord, cX9_isWord, 2, (some .boolean)) [.inr (.inr (some p))] sh (gc_h sh I J A) r sh hₚ 0 0 ∧ (hₚ = gc_h sh I J A ∧ (∃ z : Int, r = some (.inl z) ∧ 0 ≤ z ∧ z ≤ 1 ∧ (z = 0 ∨ (1 ≤ I p 1 ∧ I p 1 ≤ 24)))) := by
  obtain ⟨S_p, R_p, B_p, A_p_0, S_p_1, R_p_1, B_p_1, A_p_2, S_p_2, R_p_2, B_p_2, A_p_3, S_p_3, R_p_3, B_p_3⟩ := id hp
  replace R_p := gz_hi R_p
  replace B_p := gz_hi B_p
  replace R_p_1 := gz_hi R_p_1
  replace B_p_1 := gz_hi B_p_1
  replace R_p_2 := gz_hi R_p_2
  replace B_p_2 := gz_hi B_p_2
  replace R_p_3 := gz_hi R_p_3
  replace B_p_3 := gz_hi B_p_3
  have hD : gv_D (gc_E9 ws0 tb 1 (yX9_isWord, cX9_isWord, 2, (some .boolean)) kX9_isWord) := gq_of oX9_isWord
  refine gc_ev9 (d := 1) (l := kX9_isWord) (Po := fun r hₚ => (hₚ = gc_h sh I J A ∧ (∃ z : Int, r = some (.inl z) ∧ 0 ≤ z ∧ z ≤ 1 ∧ (z = 0 ∨ (1 ≤ I p 1 ∧ I p 1 ≤ 24))))) htb rfl (Nat.le_of_ble_eq_true rfl) ?_
  have f1 := gz_hi ((show 0 ≤ I p 1 ∧ I p 1 ≤ 1000 from gc_in2 hI (gz_sh R_p) rfl rfl rfl))
  have L2 : ∀ (n9 : Nat) (v1_2 : Int), (1001 - v1_2).toNat < n9 → ((0 ≤ v1_2 ∧ v1_2 ≤ 1000)) → gv_X (gc_E9 ws0 tb 1 (yX9_isWord, cX9_isWord, 2, (some .boolean)) kX9_isWord) (gv_Q cX9_isWord (some .boolean) sh (fun r hₚ => (hₚ = gc_h sh I J A ∧ (∃ z : Int, r = some (.inl z) ∧ 0 ≤ z ∧ z ≤ 1 ∧ (z = 0 ∨ (1 ≤ I p 1 ∧ I p 1 ≤ 24)))))) (2, [(0, .inr (.inr (some p))), (1, .inl v1_2)], [], sh, gc_h sh I J A) := by
    intro n9
    induction n9 with
    | zero => intro v1_2 hn; (/-0-/first | omega | (simp only [gz_hd] at *; omega))
    | succ n9 ih2 =>
      intro v1_2 hn m_2
      have hv1_2 := m_2
      have L52 : ∀ (s0_4 : Int), ((0 ≤ s0_4 ∧ s0_4 ≤ 1) ∧ (s0_4 = 0 ∨ (1 ≤ I p 1 ∧ I p 1 ≤ 24))) → gv_X (gc_E9 ws0 tb 1 (yX9_isWord, cX9_isWord, 2, (some .boolean)) kX9_isWord) (gv_Q cX9_isWord (some .boolean) sh (fun r hₚ => (hₚ = gc_h sh I J A ∧ (∃ z : Int, r = some (.inl z) ∧ 0 ≤ z ∧ z ≤ 1 ∧ (z = 0 ∨ (1 ≤ I p 1 ∧ I p 1 ≤ 24)))))) (52, [], [.inl s0_4], sh, gc_h sh I J A) := by
        intro s0_4 m_4
        obtain ⟨hs0_4, e0_4⟩ := gz_h2 m_4
        exact gv_zret hD rfl (by (/-1-/first | (have o1 := gz_sh hs0_4; omega) | (simp only [gz_hd] at *; omega))) ⟨rfl, ⟨_, rfl, by (/-2-/first | (and_intros; (have o1 := gz_sh hs0_4; omega); (have o1 := gz_sh hs0_4; omega); (have o1 := gz_sh e0_4; have o2 := gz_sh f1; have o3 := gz_sh hs0_4; omega)) | (simp only [gz_hd] at *; omega))⟩⟩
      have L51 : gv_X (gc_E9 ws0 tb 1 (yX9_isWord, cX9_isWord, 2, (some .boolean)) kX9_isWord) (gv_Q cX9_isWord (some .boolean) sh (fun r hₚ => (hₚ = gc_h sh I J A ∧ (∃ z : Int, r = some (.inl z) ∧ 0 ≤ z ∧ z ≤ 1 ∧ (z = 0 ∨ (1 ≤ I p 1 ∧ I p 1 ≤ 24)))))) (51, [], [], sh, gc_h sh I J A) := by
        refine gv_run 1 true hD (pcₚ := 52) (lvₚ := []) (stₚ := [.inl 0]) (hₚ := gc_h sh I J A) (C := (True ∧ True)) rfl ⟨trivial, trivial⟩ ?_
        exact L52 0 (by (/-3-/first | (and_intros <;> omega) | (simp only [gz_hd] at *; omega)))
      refine gv_run 2 true hD (pcₚ := 4) (lvₚ := [(0, .inr (.inr (some p))), (1, .inl v1_2)]) (stₚ := [.inr (.inr (some p)), .inl v1_2]) (hₚ := gc_h sh I J A) (C := ((True ∧ True) ∧ True)) rfl ⟨⟨trivial, trivial⟩, trivial⟩ ?_
      refine gv_get hD rfl rfl S_p ⟨by decide, (gz_sh B_p)⟩ (gc_hI S_p rfl) ?_
      show gv_X _ _ (7, [(0, .inr (.inr (some p))), (1, .inl v1_2)], [.inl (I p 1), .inl v1_2], sh, gc_h sh I J A)
      refine gv_icmp_ge (t := 30) hD rfl rfl ⟨⟨by (/-4-/first | omega | (simp only [gz_hd] at *; omega)), by (/-5-/first | omega | (simp only [gz_hd] at *; omega))⟩, ⟨by (/-6-/first | (have o1 := gz_sh f1; omega) | (simp only [gz_hd] at *; omega)), by (/-7-/first | (have o1 := gz_sh f1; omega) | (simp only [gz_hd] at *; omega))⟩⟩ (fun c9 => ?_) (fun c9 => ?_)
      · show gv_X _ _ (30, [(0, .inr (.inr (some p))), (1, .inl v1_2)], [], sh, gc_h sh I J A)
        refine gv_run 1 true hD (pcₚ := 31) (lvₚ := [(0, .inr (.inr (some p))), (1, .inl v1_2)]) (stₚ := [.inr (.inr (some p))]) (hₚ := gc_h sh I J A) (C := (True ∧ True)) rfl ⟨trivial, trivial⟩ ?_
        refine gv_get hD rfl rfl S_p ⟨by decide, (gz_sh B_p)⟩ (gc_hI S_p rfl) ?_
        show gv_X _ _ (34, [(0, .inr (.inr (some p))), (1, .inl v1_2)], [.inl (I p 1)], sh, gc_h sh I J A)
        refine gv_run 1 true hD (pcₚ := 35) (lvₚ := [(0, .inr (.inr (some p))), (1, .inl v1_2)]) (stₚ := [.inl 1, .inl (I p 1)]) (hₚ := gc_h sh I J A) (C := (True ∧ True)) rfl ⟨trivial, trivial⟩ ?_
        refine gv_icmp_lt (t := 51) hD rfl rfl ⟨⟨by (/-8-/first | (have o1 := gz_sh f1; omega) | (simp only [gz_hd] at *; omega)), by (/-9-/first | (have o1 := gz_sh f1; omega) | (simp only [gz_hd] at *; omega))⟩, ⟨by (/-10-/first | omega | (simp only [gz_hd] at *; omega)), by (/-11-/first | omega | (simp only [gz_hd] at *; omega))⟩⟩ (fun c11 => ?_) (fun c11 => ?_)
        · show gv_X _ _ (51, [(0, .inr (.inr (some p))), (1, .inl v1_2)], [], sh, gc_h sh I J A)
          refine gv_pick [] rfl ?_
          exact L51 
        · show gv_X _ _ (38, [(0, .inr (.inr (some p))), (1, .inl v1_2)], [], sh, gc_h sh I J A)
          refine gv_run 1 true hD (pcₚ := 39) (lvₚ := [(0, .inr (.inr (some p))), (1, .inl v1_2)]) (stₚ := [.inr (.inr (some p))]) (hₚ := gc_h sh I J A) (C := (True ∧ True)) rfl ⟨trivial, trivial⟩ ?_
          refine gv_get hD rfl rfl S_p ⟨by decide, (gz_sh B_p)⟩ (gc_hI S_p rfl) ?_
          show gv_X _ _ (42, [(0, .inr (.inr (some p))), (1, .inl v1_2)], [.inl (I p 1)], sh, gc_h sh I J A)
          refine gv_run 1 true hD (pcₚ := 44) (lvₚ := [(0, .inr (.inr (some p))), (1, .inl v1_2)]) (stₚ := [.inl 24, .inl (I p 1)]) (hₚ := gc_h sh I J A) (C := (True ∧ True)) rfl ⟨trivial, trivial⟩ ?_
          refine gv_icmp_gt (t := 51) hD rfl rfl ⟨⟨by (/-12-/first | omega | (simp only [gz_hd] at *; omega)), by (/-13-/first | (have o1 := gz_sh f1; omega) | (simp only [gz_hd] at *; omega))⟩, ⟨by (/-14-/first | omega | (simp only [gz_hd] at *; omega)), by (/-15-/first | omega | (simp only [gz_hd] at *; omega))⟩⟩ (fun c13 => ?_) (fun c13 => ?_)
          · show gv_X _ _ (51, [(0, .inr (.inr (some p))), (1, .inl v1_2)], [], sh, gc_h sh I J A)
            refine gv_pick [] rfl ?_
            exact L51 
          · show gv_X _ _ (47, [(0, .inr (.inr (some p))), (1, .inl v1_2)], [], sh, gc_h sh I J A)
            refine gv_run 2 true hD (pcₚ := 52) (lvₚ := [(0, .inr (.inr (some p))), (1, .inl v1_2)]) (stₚ := [.inl 1]) (hₚ := gc_h sh I J A) (C := ((True ∧ True) ∧ True)) rfl ⟨⟨trivial, trivial⟩, trivial⟩ ?_
            refine gv_pick [] rfl ?_
            exact L52 1 (by (/-16-/first | (and_intros <;> omega) | (simp only [gz_hd] at *; omega)))
      · show gv_X _ _ (10, [(0, .inr (.inr (some p))), (1, .inl v1_2)], [], sh, gc_h sh I J A)
        refine gv_run 1 true hD (pcₚ := 11) (lvₚ := [(0, .inr (.inr (some p))), (1, .inl v1_2)]) (stₚ := [.inr (.inr (some p))]) (hₚ := gc_h sh I J A) (C := (True ∧ True)) rfl ⟨trivial, trivial⟩ ?_
        refine gv_get hD rfl rfl S_p ⟨by decide, (gz_sh B_p)⟩ (gc_hA S_p rfl A_p_0) ?_
        show gv_X _ _ (14, [(0, .inr (.inr (some p))), (1, .inl v1_2)], [.inr (.inr (some (p + 1)))], sh, gc_h sh I J A)
        refine gv_run 1 true hD (pcₚ := 15) (lvₚ := [(0, .inr (.inr (some p))), (1, .inl v1_2)]) (stₚ := [.inl v1_2, .inr (.inr (some (p + 1)))]) (hₚ := gc_h sh I J A) (C := (True ∧ True)) rfl ⟨trivial, trivial⟩ ?_
        have f14 := gz_hi ((show (-128) ≤ I (p + 1) (Int.toNat v1_2) ∧ I (p + 1) (Int.toNat v1_2) ≤ 127 from gc_in2 hI (gz_sh R_p_1) rfl rfl rfl))
        refine gv_bald hD rfl S_p_1 (Or.inl rfl) ⟨by decide, (gz_sh B_p_1)⟩ ⟨by (/-17-/first | omega | (simp only [gz_hd] at *; omega)), by (/-18-/first | (have o1 := gz_sh f1; omega) | (simp only [gz_hd] at *; omega))⟩ (gc_iI S_p_1 rfl) ?_
        show gv_X _ _ (16, [(0, .inr (.inr (some p))), (1, .inl v1_2)], [.inl (I (p + 1) (Int.toNat v1_2))], sh, gc_h sh I J A)
        obtain ⟨r15, h15, E15, P15⟩ := d_X9_isLetter (ws0 := ws0) (tb := tb) hws htb sh ro I J A hI  ((I (p + 1) (Int.toNat v1_2)))    ⟨by (/-19-/first | (have o1 := gz_sh f14; omega) | (simp only [gz_hd] at *; omega)), by (/-20-/first | (have o1 := gz_sh f14; omega) | (simp only [gz_hd] at *; omega))⟩  
        obtain ⟨rfl, ⟨z15, rfl, q15⟩⟩ := P15
        replace q15 := gz_hi q15
        refine gv_callS hD rfl (As := [.inl (I (p + 1) (Int.toNat v1_2))]) (st := []) rfl (gc_lS9 hws rfl) (Nat.le_of_ble_eq_true rfl) (gz_Ev_mono (d := 1) (by decide) E15) ?_
        show gv_X _ _ (19, [(0, .inr (.inr (some p))), (1, .inl v1_2)], [.inl z15], sh, gc_h sh I J A)
        refine gv_if_ne (t := 24) hD rfl rfl ⟨by (/-21-/first | (have o1 := gz_sh q15; omega) | (simp only [gz_hd] at *; omega)), by (/-22-/first | (have o1 := gz_sh q15; omega) | (simp only [gz_hd] at *; omega))⟩ (fun c16 => ?_) (fun c16 => ?_)
        · show gv_X _ _ (24, [(0, .inr (.inr (some p))), (1, .inl v1_2)], [], sh, gc_h sh I J A)
          refine gv_run 2 true hD (pcₚ := 2) (lvₚ := [(1, .inl (v1_2 + 1)), (0, .inr (.inr (some p)))]) (stₚ := []) (hₚ := gc_h sh I J A) (C := ((True ∧ True) ∧ True)) rfl ⟨⟨trivial, trivial⟩, trivial⟩ ?_
          refine gv_pick [1, 0] rfl ?_
          exact ih2 (v1_2 + 1) (by (/-23-/first | (have o1 := gz_sh f1; have o2 := gz_sh q15; omega) | (simp only [gz_hd] at *; omega))) (by (/-24-/first | (and_intros; (omega); (have o1 := gz_sh f1; omega)) | (simp only [gz_hd] at *; omega)))
        · show gv_X _ _ (22, [(0, .inr (.inr (some p))), (1, .inl v1_2)], [], sh, gc_h sh I J A)
          refine gv_run 1 true hD (pcₚ := 23) (lvₚ := [(0, .inr (.inr (some p))), (1, .inl v1_2)]) (stₚ := [.inl 0]) (hₚ := gc_h sh I J A) (C := (True ∧ True)) rfl ⟨trivial, trivial⟩ ?_
          exact gv_zret hD rfl (by (/-25-/first | omega | (simp only [gz_hd] at *; omega))) ⟨rfl, ⟨_, rfl, by (/-26-/first | (and_intros <;> omega) | (simp only [gz_hd] at *; omega))⟩⟩
  refine gv_run 2 true hD (pcₚ := 2) (lvₚ := [(1, .inl 0), (0, .inr (.inr (some p)))]) (stₚ := []) (hₚ := gc_h sh I J A) (C := ((True ∧ True) ∧ True)) rfl ⟨⟨trivial, trivial⟩, trivial⟩ ?_
  refine gv_pick [1, 0] rfl ?_
  exact L2 _ 0 (Nat.lt_succ_self _) (by (/-27-/first | (and_intros <;> omega) | (simp only [gz_hd] at *; omega)))
set_option maxHeartbeats 8000000 in
set_option maxRecDepth 100000 in
theorem d_X9_split {ws0 : List Cond} {tb : String → gz_T} (hws : gc_Ws ws0) (htb : gc_tbs tb) (sh : gz_Sh) (ro : Nat → Nat) (I : gr_I) (J : gr_J) (A : gc_A) (hI : gc_Inv ro I) (p : Nat)  (hp : gc_isText sh ro A p)   : ∃ r hₚ, gz_Ev ws0 tb 2 (yX9_split, cX9_split, 4, (some .boolean)) [.inr (.inr (some p))] sh (gc_h sh I J A) r sh hₚ 0 0 ∧ (∃ (Iₚ : gr_I) (Jₚ : gr_J), hₚ = gc_h sh Iₚ Jₚ A ∧ gc_Inv ro Iₚ ∧ (∀ q j : Nat, ((q = p ∧ j = 4) ∨ q = (p + 2) ∨ q = (p + 3)) ∨ Iₚ q j = I q j) ∧ (∀ q j : Nat, (False) ∨ Jₚ q j = J q j) ∧ (∃ z : Int, r = some (.inl z) ∧ 0 ≤ z ∧ z ≤ 1 ∧ (gc_SP p Iₚ) ∧ (z = 0 ∨ 1 ≤ Iₚ p 4) ∧ (Iₚ p 1 = I p 1))) := by
  have FI : ∀ q j : Nat, ((q = p ∧ j = 4) ∨ q = (p + 2) ∨ q = (p + 3)) ∨ I q j = I q j := fun _ _ => Or.inr rfl
  have FJ : ∀ q j : Nat, (False) ∨ J q j = J q j := fun _ _ => Or.inr rfl
  obtain ⟨S_p, R_p, B_p, A_p_0, S_p_1, R_p_1, B_p_1, A_p_2, S_p_2, R_p_2, B_p_2, A_p_3, S_p_3, R_p_3, B_p_3⟩ := id hp
  replace R_p := gz_hi R_p
  replace B_p := gz_hi B_p
  replace R_p_1 := gz_hi R_p_1
  replace B_p_1 := gz_hi B_p_1
  replace R_p_2 := gz_hi R_p_2
  replace B_p_2 := gz_hi B_p_2
  replace R_p_3 := gz_hi R_p_3
  replace B_p_3 := gz_hi B_p_3
  have hD : gv_D (gc_E9 ws0 tb 1 (yX9_split, cX9_split, 4, (some .boolean)) kX9_split) := gq_of oX9_split
  refine gc_ev9 (d := 1) (l := kX9_split) (Po := fun r hₚ => (∃ (Iₚ : gr_I) (Jₚ : gr_J), hₚ = gc_h sh Iₚ Jₚ A ∧ gc_Inv ro Iₚ ∧ (∀ q j : Nat, ((q = p ∧ j = 4) ∨ q = (p + 2) ∨ q = (p + 3)) ∨ Iₚ q j = I q j) ∧ (∀ q j : Nat, (False) ∨ Jₚ q j = J q j) ∧ (∃ z : Int, r = some (.inl z) ∧ 0 ≤ z ∧ z ≤ 1 ∧ (gc_SP p Iₚ) ∧ (z = 0 ∨ 1 ≤ Iₚ p 4) ∧ (Iₚ p 1 = I p 1)))) htb rfl (Nat.le_of_ble_eq_true rfl) ?_
  have N_p__p_2 := gz_hi (show ¬ (p = (p + 2)) from by (/-0-/first | omega | (simp only [gz_hd] at *; omega)))
  have N_p__p_3 := gz_hi (show ¬ (p = (p + 3)) from by (/-1-/first | omega | (simp only [gz_hd] at *; omega)))
  have f1 := gz_hi ((show 0 ≤ I p 1 ∧ I p 1 ≤ 1000 from gc_in2 hI (gz_sh R_p) rfl rfl rfl))
  have L9 : ∀ (n9 : Nat) (I3 : gr_I) (J4 : gr_J) (v1_5 : Int) (v2_5 : Int), (1001 - v2_5).toNat < n9 → gc_Inv ro I3 → (∀ q j : Nat, ((q = p ∧ j = 4) ∨ q = (p + 2) ∨ q = (p + 3)) ∨ I3 q j = I q j) → (∀ q j : Nat, (False) ∨ J4 q j = J q j) → ((0 ≤ v1_5 ∧ v1_5 ≤ 24) ∧ (0 ≤ v2_5 ∧ v2_5 ≤ 1000) ∧ (v2_5 ≤ I3 p 1) ∧ (I3 p 4 = 0) ∧ (I3 p 1 = I p 1)) → (gc_spn p I3 v1_5) → gv_X (gc_E9 ws0 tb 1 (yX9_split, cX9_split, 4, (some .boolean)) kX9_split) (gv_Q cX9_split (some .boolean) sh (fun r hₚ => (∃ (Iₚ : gr_I) (Jₚ : gr_J), hₚ = gc_h sh Iₚ Jₚ A ∧ gc_Inv ro Iₚ ∧ (∀ q j : Nat, ((q = p ∧ j = 4) ∨ q = (p + 2) ∨ q = (p + 3)) ∨ Iₚ q j = I q j) ∧ (∀ q j : Nat, (False) ∨ Jₚ q j = J q j) ∧ (∃ z : Int, r = some (.inl z) ∧ 0 ≤ z ∧ z ≤ 1 ∧ (gc_SP p Iₚ) ∧ (z = 0 ∨ 1 ≤ Iₚ p 4) ∧ (Iₚ p 1 = I p 1))))) (9, [(0, .inr (.inr (some p))), (1, .inl v1_5), (2, .inl v2_5)], [], sh, gc_h sh I3 J4 A) := by
    intro n9
    induction n9 with
    | zero => intro I3 J4 v1_5 v2_5 hn; (/-2-/first | omega | (simp only [gz_hd] at *; omega))
    | succ n9 ih9 =>
      intro I3 J4 v1_5 v2_5 hn hI3 FI3 FJ4 m_5 e0_5
      obtain ⟨hv1_5, hv2_5, e1_5, e2_5, e3_5⟩ := gz_h5 m_5
      have L36 : ∀ (n9 : Nat) (v2_8 : Int) (v3_8 : Int), (1001 - v2_8).toNat < n9 → ((0 ≤ v1_5 ∧ v1_5 ≤ 24) ∧ (0 ≤ v2_8 ∧ v2_8 ≤ 1000) ∧ (0 ≤ v3_8 ∧ v3_8 ≤ 999) ∧ (v2_8 ≤ I3 p 1) ∧ (v3_8 ≤ v2_8) ∧ (v3_8 = v2_5)) → gv_X (gc_E9 ws0 tb 1 (yX9_split, cX9_split, 4, (some .boolean)) kX9_split) (gv_Q cX9_split (some .boolean) sh (fun r hₚ => (∃ (Iₚ : gr_I) (Jₚ : gr_J), hₚ = gc_h sh Iₚ Jₚ A ∧ gc_Inv ro Iₚ ∧ (∀ q j : Nat, ((q = p ∧ j = 4) ∨ q = (p + 2) ∨ q = (p + 3)) ∨ Iₚ q j = I q j) ∧ (∀ q j : Nat, (False) ∨ Jₚ q j = J q j) ∧ (∃ z : Int, r = some (.inl z) ∧ 0 ≤ z ∧ z ≤ 1 ∧ (gc_SP p Iₚ) ∧ (z = 0 ∨ 1 ≤ Iₚ p 4) ∧ (Iₚ p 1 = I p 1))))) (36, [(0, .inr (.inr (some p))), (1, .inl v1_5), (2, .inl v2_8), (3, .inl v3_8)], [], sh, gc_h sh I3 J4 A) := by
        intro n9
        induction n9 with
        | zero => intro v2_8 v3_8 hn; (/-3-/first | omega | (simp only [gz_hd] at *; omega))
        | succ n9 ih36 =>
          intro v2_8 v3_8 hn m_8
          obtain ⟨hv1_5_8, hv2_8, hv3_8, e0_8, e1_8, e2_8⟩ := gz_h6 m_8
          have L62 : ((0 ≤ v1_5 ∧ v1_5 ≤ 24) ∧ (0 ≤ v2_8 ∧ v2_8 ≤ 1000) ∧ (0 ≤ v3_8 ∧ v3_8 ≤ 999) ∧ (v2_8 ≤ I3 p 1) ∧ (v3_8 ≤ v2_8) ∧ (v3_8 = v2_5)) → gv_X (gc_E9 ws0 tb 1 (yX9_split, cX9_split, 4, (some .boolean)) kX9_split) (gv_Q cX9_split (some .boolean) sh (fun r hₚ => (∃ (Iₚ : gr_I) (Jₚ : gr_J), hₚ = gc_h sh Iₚ Jₚ A ∧ gc_Inv ro Iₚ ∧ (∀ q j : Nat, ((q = p ∧ j = 4) ∨ q = (p + 2) ∨ q = (p + 3)) ∨ Iₚ q j = I q j) ∧ (∀ q j : Nat, (False) ∨ Jₚ q j = J q j) ∧ (∃ z : Int, r = some (.inl z) ∧ 0 ≤ z ∧ z ≤ 1 ∧ (gc_SP p Iₚ) ∧ (z = 0 ∨ 1 ≤ Iₚ p 4) ∧ (Iₚ p 1 = I p 1))))) (62, [(0, .inr (.inr (some p))), (1, .inl v1_5), (2, .inl v2_8), (3, .inl v3_8)], [], sh, gc_h sh I3 J4 A) := by
            intro m_11
            obtain ⟨hv1_5_11, hv2_8_11, hv3_8_11, e0_11, e1_11, e2_11⟩ := gz_h6 m_11
            have L81 : ((I3 p 4 = 0) ∧ (I3 p 1 = I p 1)) → gv_X (gc_E9 ws0 tb 1 (yX9_split, cX9_split, 4, (some .boolean)) kX9_split) (gv_Q cX9_split (some .boolean) sh (fun r hₚ => (∃ (Iₚ : gr_I) (Jₚ : gr_J), hₚ = gc_h sh Iₚ Jₚ A ∧ gc_Inv ro Iₚ ∧ (∀ q j : Nat, ((q = p ∧ j = 4) ∨ q = (p + 2) ∨ q = (p + 3)) ∨ Iₚ q j = I q j) ∧ (∀ q j : Nat, (False) ∨ Jₚ q j = J q j) ∧ (∃ z : Int, r = some (.inl z) ∧ 0 ≤ z ∧ z ≤ 1 ∧ (gc_SP p Iₚ) ∧ (z = 0 ∨ 1 ≤ Iₚ p 4) ∧ (Iₚ p 1 = I p 1))))) (81, [], [], sh, gc_h sh I3 J4 A) := by
              intro m_14
              obtain ⟨e0_14, e1_14⟩ := gz_h2 m_14
              refine gv_run 1 true hD (pcₚ := 82) (lvₚ := []) (stₚ := [.inl 0]) (hₚ := gc_h sh I3 J4 A) (C := (True ∧ True)) rfl ⟨trivial, trivial⟩ ?_
              exact gv_zret hD rfl (by (/-4-/first | omega | (simp only [gz_hd] at *; omega))) ⟨I3, J4, rfl, hI3, FI3, FJ4, ⟨_, rfl, by (/-5-/first | omega | (simp only [gz_hd] at *; omega)), by (/-6-/first | omega | (simp only [gz_hd] at *; omega)), (fun k hk => by (/-7-/first | (have o1 := gz_sh e2_5; omega) | (simp only [gz_hd] at *; omega))), by (/-8-/first | omega | (simp only [gz_hd] at *; omega)), by (/-9-/first | (have o1 := gz_sh e1_14; omega) | (simp only [gz_hd] at *; omega))⟩⟩
            refine gv_run 2 true hD (pcₚ := 64) (lvₚ := [(0, .inr (.inr (some p))), (1, .inl v1_5), (2, .inl v2_8), (3, .inl v3_8)]) (stₚ := [.inl v3_8, .inl v2_8]) (hₚ := gc_h sh I3 J4 A) (C := ((True ∧ True) ∧ True)) rfl ⟨⟨trivial, trivial⟩, trivial⟩ ?_
            refine gv_icmp_eq (t := 81) hD rfl rfl ⟨⟨by (/-10-/first | (have o1 := gz_sh hv2_8; omega) | (simp only [gz_hd] at *; omega)), by (/-11-/first | (have o1 := gz_sh hv2_8; omega) | (simp only [gz_hd] at *; omega))⟩, ⟨by (/-12-/first | (have o1 := gz_sh hv3_8; omega) | (simp only [gz_hd] at *; omega)), by (/-13-/first | (have o1 := gz_sh hv3_8; omega) | (simp only [gz_hd] at *; omega))⟩⟩ (fun c17 => ?_) (fun c17 => ?_)
            · show gv_X _ _ (81, [(0, .inr (.inr (some p))), (1, .inl v1_5), (2, .inl v2_8), (3, .inl v3_8)], [], sh, gc_h sh I3 J4 A)
              refine gv_pick [] rfl ?_
              exact L81 (by (/-14-/first | (and_intros; (have o1 := gz_sh e2_5; omega); (have o1 := gz_sh e3_5; omega)) | (simp only [gz_hd] at *; omega)))
            · show gv_X _ _ (67, [(0, .inr (.inr (some p))), (1, .inl v1_5), (2, .inl v2_8), (3, .inl v3_8)], [], sh, gc_h sh I3 J4 A)
              refine gv_run 4 true hD (pcₚ := 72) (lvₚ := [(0, .inr (.inr (some p))), (1, .inl v1_5), (2, .inl v2_8), (3, .inl v3_8)]) (stₚ := [.inl 24, .inl (v2_8 - v3_8)]) (hₚ := gc_h sh I3 J4 A) (C := ((((True ∧ True) ∧ True) ∧ True) ∧ True)) rfl ⟨⟨⟨⟨trivial, trivial⟩, trivial⟩, trivial⟩, trivial⟩ ?_
              refine gv_icmp_gt (t := 81) hD rfl rfl ⟨⟨by (/-15-/first | (have o1 := gz_sh e1_8; omega) | (simp only [gz_hd] at *; omega)), by (/-16-/first | (have o1 := gz_sh hv2_8; have o2 := gz_sh hv3_8; omega) | (simp only [gz_hd] at *; omega))⟩, ⟨by (/-17-/first | omega | (simp only [gz_hd] at *; omega)), by (/-18-/first | omega | (simp only [gz_hd] at *; omega))⟩⟩ (fun c18 => ?_) (fun c18 => ?_)
              · show gv_X _ _ (81, [(0, .inr (.inr (some p))), (1, .inl v1_5), (2, .inl v2_8), (3, .inl v3_8)], [], sh, gc_h sh I3 J4 A)
                refine gv_pick [] rfl ?_
                exact L81 (by (/-19-/first | (and_intros; (have o1 := gz_sh e2_5; omega); (have o1 := gz_sh e3_5; omega)) | (simp only [gz_hd] at *; omega)))
              · show gv_X _ _ (75, [(0, .inr (.inr (some p))), (1, .inl v1_5), (2, .inl v2_8), (3, .inl v3_8)], [], sh, gc_h sh I3 J4 A)
                refine gv_run 2 true hD (pcₚ := 78) (lvₚ := [(0, .inr (.inr (some p))), (1, .inl v1_5), (2, .inl v2_8), (3, .inl v3_8)]) (stₚ := [.inl 24, .inl v1_5]) (hₚ := gc_h sh I3 J4 A) (C := ((True ∧ True) ∧ True)) rfl ⟨⟨trivial, trivial⟩, trivial⟩ ?_
                refine gv_icmp_ne (t := 83) hD rfl rfl ⟨⟨by (/-20-/first | (have o1 := gz_sh hv1_5; omega) | (simp only [gz_hd] at *; omega)), by (/-21-/first | (have o1 := gz_sh hv1_5; omega) | (simp only [gz_hd] at *; omega))⟩, ⟨by (/-22-/first | omega | (simp only [gz_hd] at *; omega)), by (/-23-/first | omega | (simp only [gz_hd] at *; omega))⟩⟩ (fun c19 => ?_) (fun c19 => ?_)
                · show gv_X _ _ (83, [(0, .inr (.inr (some p))), (1, .inl v1_5), (2, .inl v2_8), (3, .inl v3_8)], [], sh, gc_h sh I3 J4 A)
                  refine gv_run 1 true hD (pcₚ := 84) (lvₚ := [(0, .inr (.inr (some p))), (1, .inl v1_5), (2, .inl v2_8), (3, .inl v3_8)]) (stₚ := [.inr (.inr (some p))]) (hₚ := gc_h sh I3 J4 A) (C := (True ∧ True)) rfl ⟨trivial, trivial⟩ ?_
                  refine gv_get hD rfl rfl S_p ⟨by decide, (gz_sh B_p)⟩ (gc_hA S_p rfl A_p_2) ?_
                  show gv_X _ _ (87, [(0, .inr (.inr (some p))), (1, .inl v1_5), (2, .inl v2_8), (3, .inl v3_8)], [.inr (.inr (some (p + 2)))], sh, gc_h sh I3 J4 A)
                  refine gv_run 2 true hD (pcₚ := 89) (lvₚ := [(0, .inr (.inr (some p))), (1, .inl v1_5), (2, .inl v2_8), (3, .inl v3_8)]) (stₚ := [.inl v3_8, .inl v1_5, .inr (.inr (some (p + 2)))]) (hₚ := gc_h sh I3 J4 A) (C := ((True ∧ True) ∧ True)) rfl ⟨⟨trivial, trivial⟩, trivial⟩ ?_
                  refine gv_iast hD rfl S_p_2 ⟨by decide, (gz_sh B_p_2)⟩ ⟨by (/-24-/first | (have o1 := gz_sh hv1_5; omega) | (simp only [gz_hd] at *; omega)), by (/-25-/first | (have o1 := gz_sh hv1_5; omega) | (simp only [gz_hd] at *; omega))⟩ ?_
                  refine gc_st hI3 S_p_2 rfl (gz_sh R_p_2) (lo := 0) (hi := 1000) rfl rfl (by (/-26-/first | (have o1 := gz_sh hv3_8; omega) | (simp only [gz_hd] at *; omega))) (by (/-27-/first | (have o1 := gz_sh hv3_8; omega) | (simp only [gz_hd] at *; omega))) (fun I20 hI20 q21 p21 => ?_)
                  have FI20 := gc_frs (W := fun q j => (q = p ∧ j = 4) ∨ q = (p + 2) ∨ q = (p + 3)) FI3 (Or.inr (Or.inl rfl)) p21
                  have t22 := gz_hi (p21 p 1 (fun h => absurd h.1 (gz_sh N_p__p_2)))
                  have t23 := gz_hi (p21 p 4 (fun h => absurd h.1 (gz_sh N_p__p_2)))
                  show gv_X _ _ (90, [(0, .inr (.inr (some p))), (1, .inl v1_5), (2, .inl v2_8), (3, .inl v3_8)], [], sh, gc_h sh I20 J4 A)
                  refine gv_run 1 true hD (pcₚ := 91) (lvₚ := [(0, .inr (.inr (some p))), (1, .inl v1_5), (2, .inl v2_8), (3, .inl v3_8)]) (stₚ := [.inr (.inr (some p))]) (hₚ := gc_h sh I20 J4 A) (C := (True ∧ True)) rfl ⟨trivial, trivial⟩ ?_
                  refine gv_get hD rfl rfl S_p ⟨by decide, (gz_sh B_p)⟩ (gc_hA S_p rfl A_p_3) ?_
                  show gv_X _ _ (94, [(0, .inr (.inr (some p))), (1, .inl v1_5), (2, .inl v2_8), (3, .inl v3_8)], [.inr (.inr (some (p + 3)))], sh, gc_h sh I20 J4 A)
                  refine gv_run 4 true hD (pcₚ := 98) (lvₚ := [(0, .inr (.inr (some p))), (1, .inl v1_5), (2, .inl v2_8), (3, .inl v3_8)]) (stₚ := [.inl (v2_8 - v3_8), .inl v1_5, .inr (.inr (some (p + 3)))]) (hₚ := gc_h sh I20 J4 A) (C := ((((True ∧ True) ∧ True) ∧ True) ∧ True)) rfl ⟨⟨⟨⟨trivial, trivial⟩, trivial⟩, trivial⟩, trivial⟩ ?_
                  refine gv_iast hD rfl S_p_3 ⟨by decide, (gz_sh B_p_3)⟩ ⟨by (/-28-/first | (have o1 := gz_sh hv1_5; omega) | (simp only [gz_hd] at *; omega)), by (/-29-/first | (have o1 := gz_sh hv1_5; omega) | (simp only [gz_hd] at *; omega))⟩ ?_
                  refine gc_st hI20 S_p_3 rfl (gz_sh R_p_3) (lo := 0) (hi := 24) rfl rfl (by (/-30-/first | (have o1 := gz_sh e1_8; omega) | (simp only [gz_hd] at *; omega))) (by (/-31-/first | omega | (simp only [gz_hd] at *; omega))) (fun I24 hI24 q25 p25 => ?_)
                  have FI24 := gc_frs (W := fun q j => (q = p ∧ j = 4) ∨ q = (p + 2) ∨ q = (p + 3)) FI20 (Or.inr (Or.inr rfl)) p25
                  have t26 := gz_hi (p25 p 1 (fun h => absurd h.1 (gz_sh N_p__p_3)))
                  have t27 := gz_hi (p25 p 4 (fun h => absurd h.1 (gz_sh N_p__p_3)))
                  show gv_X _ _ (99, [(0, .inr (.inr (some p))), (1, .inl v1_5), (2, .inl v2_8), (3, .inl v3_8)], [], sh, gc_h sh I24 J4 A)
                  refine gv_run 2 true hD (pcₚ := 9) (lvₚ := [(1, .inl (v1_5 + 1)), (0, .inr (.inr (some p))), (2, .inl v2_8), (3, .inl v3_8)]) (stₚ := []) (hₚ := gc_h sh I24 J4 A) (C := ((True ∧ True) ∧ True)) rfl ⟨⟨trivial, trivial⟩, trivial⟩ ?_
                  refine gv_pick [1, 0, 2] rfl ?_
                  exact ih9 I24 J4 (v1_5 + 1) v2_8 (by (/-32-/first | (have o1 := gz_sh e1_8; have o2 := gz_sh e2_5; have o3 := gz_sh e2_8; have o4 := gz_sh e3_5; have o5 := gz_sh hv1_5; have o6 := gz_sh hv2_8; have o7 := gz_sh hv3_8; omega) | (simp only [gz_hd] at *; omega))) hI24 FI24 FJ4 (by (/-33-/first | (and_intros; (have o1 := gz_sh hv1_5; omega); (have o1 := gz_sh hv1_5; omega); (have o1 := gz_sh hv2_8; omega); (have o1 := gz_sh hv2_8; omega); (have o1 := gz_sh e0_8; have o2 := gz_sh t22; have o3 := gz_sh t26; omega); (have o1 := gz_sh e2_5; have o2 := gz_sh t23; have o3 := gz_sh t27; omega); (have o1 := gz_sh e3_5; have o2 := gz_sh t22; have o3 := gz_sh t26; omega)) | (simp only [gz_hd] at *; omega))) (gc_spn_push e0_5 (by (/-34-/first | (have o1 := gz_sh hv1_5; omega) | (simp only [gz_hd] at *; omega))) p21 p25 (by (/-35-/first | (have o1 := gz_sh hv2_8; omega) | (simp only [gz_hd] at *; omega))))
                · show gv_X _ _ (81, [(0, .inr (.inr (some p))), (1, .inl v1_5), (2, .inl v2_8), (3, .inl v3_8)], [], sh, gc_h sh I3 J4 A)
                  refine gv_pick [] rfl ?_
                  exact L81 (by (/-36-/first | (and_intros; (have o1 := gz_sh e2_5; omega); (have o1 := gz_sh e3_5; omega)) | (simp only [gz_hd] at *; omega)))
          refine gv_run 2 true hD (pcₚ := 38) (lvₚ := [(0, .inr (.inr (some p))), (1, .inl v1_5), (2, .inl v2_8), (3, .inl v3_8)]) (stₚ := [.inr (.inr (some p)), .inl v2_8]) (hₚ := gc_h sh I3 J4 A) (C := ((True ∧ True) ∧ True)) rfl ⟨⟨trivial, trivial⟩, trivial⟩ ?_
          refine gv_get hD rfl rfl S_p ⟨by decide, (gz_sh B_p)⟩ (gc_hI S_p rfl) ?_
          show gv_X _ _ (41, [(0, .inr (.inr (some p))), (1, .inl v1_5), (2, .inl v2_8), (3, .inl v3_8)], [.inl (I3 p 1), .inl v2_8], sh, gc_h sh I3 J4 A)
          refine gv_icmp_ge (t := 62) hD rfl rfl ⟨⟨by (/-37-/first | (have o1 := gz_sh hv2_8; omega) | (simp only [gz_hd] at *; omega)), by (/-38-/first | (have o1 := gz_sh hv2_8; omega) | (simp only [gz_hd] at *; omega))⟩, ⟨by (/-39-/first | (have o1 := gz_sh e3_5; have o2 := gz_sh f1; omega) | (simp only [gz_hd] at *; omega)), by (/-40-/first | (have o1 := gz_sh e3_5; have o2 := gz_sh f1; omega) | (simp only [gz_hd] at *; omega))⟩⟩ (fun c29 => ?_) (fun c29 => ?_)
          · show gv_X _ _ (62, [(0, .inr (.inr (some p))), (1, .inl v1_5), (2, .inl v2_8), (3, .inl v3_8)], [], sh, gc_h sh I3 J4 A)
            exact L62 (by (/-41-/first | (and_intros; (have o1 := gz_sh hv1_5; omega); (have o1 := gz_sh hv1_5; omega); (have o1 := gz_sh e3_5; have o2 := gz_sh f1; omega); (have o1 := gz_sh e0_8; have o2 := gz_sh e3_5; have o3 := gz_sh f1; omega); (have o1 := gz_sh hv3_8; omega); (have o1 := gz_sh hv3_8; omega); (have o1 := gz_sh e0_8; omega); (have o1 := gz_sh e1_5; have o2 := gz_sh e2_8; omega); (have o1 := gz_sh e2_8; omega)) | (simp only [gz_hd] at *; omega)))
          · show gv_X _ _ (44, [(0, .inr (.inr (some p))), (1, .inl v1_5), (2, .inl v2_8), (3, .inl v3_8)], [], sh, gc_h sh I3 J4 A)
            refine gv_run 1 true hD (pcₚ := 45) (lvₚ := [(0, .inr (.inr (some p))), (1, .inl v1_5), (2, .inl v2_8), (3, .inl v3_8)]) (stₚ := [.inr (.inr (some p))]) (hₚ := gc_h sh I3 J4 A) (C := (True ∧ True)) rfl ⟨trivial, trivial⟩ ?_
            refine gv_get hD rfl rfl S_p ⟨by decide, (gz_sh B_p)⟩ (gc_hA S_p rfl A_p_0) ?_
            show gv_X _ _ (48, [(0, .inr (.inr (some p))), (1, .inl v1_5), (2, .inl v2_8), (3, .inl v3_8)], [.inr (.inr (some (p + 1)))], sh, gc_h sh I3 J4 A)
            refine gv_run 1 true hD (pcₚ := 49) (lvₚ := [(0, .inr (.inr (some p))), (1, .inl v1_5), (2, .inl v2_8), (3, .inl v3_8)]) (stₚ := [.inl v2_8, .inr (.inr (some (p + 1)))]) (hₚ := gc_h sh I3 J4 A) (C := (True ∧ True)) rfl ⟨trivial, trivial⟩ ?_
            have f30 := gz_hi ((show (-128) ≤ I3 (p + 1) (Int.toNat v2_8) ∧ I3 (p + 1) (Int.toNat v2_8) ≤ 127 from gc_in2 hI3 (gz_sh R_p_1) rfl rfl rfl))
            refine gv_bald hD rfl S_p_1 (Or.inl rfl) ⟨by decide, (gz_sh B_p_1)⟩ ⟨by (/-42-/first | (have o1 := gz_sh hv2_8; omega) | (simp only [gz_hd] at *; omega)), by (/-43-/first | (have o1 := gz_sh e3_5; have o2 := gz_sh f1; omega) | (simp only [gz_hd] at *; omega))⟩ (gc_iI S_p_1 rfl) ?_
            show gv_X _ _ (50, [(0, .inr (.inr (some p))), (1, .inl v1_5), (2, .inl v2_8), (3, .inl v3_8)], [.inl (I3 (p + 1) (Int.toNat v2_8))], sh, gc_h sh I3 J4 A)
            obtain ⟨r31, h31, E31, P31⟩ := d_X9_isLetter (ws0 := ws0) (tb := tb) hws htb sh ro I3 J4 A hI3  ((I3 (p + 1) (Int.toNat v2_8)))    ⟨by (/-44-/first | (have o1 := gz_sh f30; omega) | (simp only [gz_hd] at *; omega)), by (/-45-/first | (have o1 := gz_sh f30; omega) | (simp only [gz_hd] at *; omega))⟩  
            obtain ⟨rfl, ⟨z31, rfl, q31⟩⟩ := P31
            replace q31 := gz_hi q31
            refine gv_callS hD rfl (As := [.inl (I3 (p + 1) (Int.toNat v2_8))]) (st := []) rfl (gc_lS9 hws rfl) (Nat.le_of_ble_eq_true rfl) (gz_Ev_mono (d := 1) (by decide) E31) ?_
            show gv_X _ _ (53, [(0, .inr (.inr (some p))), (1, .inl v1_5), (2, .inl v2_8), (3, .inl v3_8)], [.inl z31], sh, gc_h sh I3 J4 A)
            refine gv_if_eq (t := 62) hD rfl rfl ⟨by (/-46-/first | (have o1 := gz_sh q31; omega) | (simp only [gz_hd] at *; omega)), by (/-47-/first | (have o1 := gz_sh q31; omega) | (simp only [gz_hd] at *; omega))⟩ (fun c32 => ?_) (fun c32 => ?_)
            · show gv_X _ _ (62, [(0, .inr (.inr (some p))), (1, .inl v1_5), (2, .inl v2_8), (3, .inl v3_8)], [], sh, gc_h sh I3 J4 A)
              exact L62 (by (/-48-/first | (and_intros; (have o1 := gz_sh hv1_5; omega); (have o1 := gz_sh hv1_5; omega); (have o1 := gz_sh hv2_8; omega); (have o1 := gz_sh hv2_8; omega); (have o1 := gz_sh hv3_8; omega); (have o1 := gz_sh hv3_8; omega); (omega); (have o1 := gz_sh e1_8; omega); (have o1 := gz_sh e2_8; omega)) | (simp only [gz_hd] at *; omega)))
            · show gv_X _ _ (56, [(0, .inr (.inr (some p))), (1, .inl v1_5), (2, .inl v2_8), (3, .inl v3_8)], [], sh, gc_h sh I3 J4 A)
              refine gv_run 2 true hD (pcₚ := 36) (lvₚ := [(2, .inl (v2_8 + 1)), (0, .inr (.inr (some p))), (1, .inl v1_5), (3, .inl v3_8)]) (stₚ := []) (hₚ := gc_h sh I3 J4 A) (C := ((True ∧ True) ∧ True)) rfl ⟨⟨trivial, trivial⟩, trivial⟩ ?_
              refine gv_pick [1, 2, 0, 3] rfl ?_
              exact ih36 (v2_8 + 1) v3_8 (by (/-49-/first | (have o1 := gz_sh e1_8; have o2 := gz_sh e2_8; have o3 := gz_sh e3_5; have o4 := gz_sh f1; have o5 := gz_sh hv1_5; have o6 := gz_sh hv2_8; have o7 := gz_sh hv3_8; have o8 := gz_sh q31; omega) | (simp only [gz_hd] at *; omega))) (by (/-50-/first | (and_intros; (have o1 := gz_sh hv1_5; omega); (have o1 := gz_sh hv1_5; omega); (have o1 := gz_sh hv2_8; omega); (have o1 := gz_sh e3_5; have o2 := gz_sh f1; omega); (have o1 := gz_sh hv3_8; omega); (have o1 := gz_sh hv3_8; omega); (omega); (have o1 := gz_sh e1_8; omega); (have o1 := gz_sh e2_8; omega)) | (simp only [gz_hd] at *; omega)))
      have L119 : ∀ (I33 : gr_I) (J34 : gr_J) (s0_35 : Int), gc_Inv ro I33 → (∀ q j : Nat, ((q = p ∧ j = 4) ∨ q = (p + 2) ∨ q = (p + 3)) ∨ I33 q j = I q j) → (∀ q j : Nat, (False) ∨ J34 q j = J q j) → ((0 ≤ s0_35 ∧ s0_35 ≤ 1) ∧ (s0_35 = 0 ∨ 1 ≤ I33 p 4) ∧ (I33 p 1 = I p 1)) → (gc_SP p I33) → gv_X (gc_E9 ws0 tb 1 (yX9_split, cX9_split, 4, (some .boolean)) kX9_split) (gv_Q cX9_split (some .boolean) sh (fun r hₚ => (∃ (Iₚ : gr_I) (Jₚ : gr_J), hₚ = gc_h sh Iₚ Jₚ A ∧ gc_Inv ro Iₚ ∧ (∀ q j : Nat, ((q = p ∧ j = 4) ∨ q = (p + 2) ∨ q = (p + 3)) ∨ Iₚ q j = I q j) ∧ (∀ q j : Nat, (False) ∨ Jₚ q j = J q j) ∧ (∃ z : Int, r = some (.inl z) ∧ 0 ≤ z ∧ z ≤ 1 ∧ (gc_SP p Iₚ) ∧ (z = 0 ∨ 1 ≤ Iₚ p 4) ∧ (Iₚ p 1 = I p 1))))) (119, [], [.inl s0_35], sh, gc_h sh I33 J34 A) := by
        intro I33 J34 s0_35 hI33 FI33 FJ34 m_35 e0_35
        clear hv1_5 hv2_5 e1_5 e2_5 e3_5
        obtain ⟨hs0_35, e1_35, e2_35⟩ := gz_h3 m_35
        exact gv_zret hD rfl (by (/-51-/first | (have o1 := gz_sh hs0_35; omega) | (simp only [gz_hd] at *; omega))) ⟨I33, J34, rfl, hI33, FI33, FJ34, ⟨_, rfl, by (/-52-/first | (have o1 := gz_sh hs0_35; omega) | (simp only [gz_hd] at *; omega)), by (/-53-/first | (have o1 := gz_sh hs0_35; omega) | (simp only [gz_hd] at *; omega)), e0_35, by (/-54-/first | (have o1 := gz_sh e1_35; omega) | (simp only [gz_hd] at *; omega)), by (/-55-/first | (have o1 := gz_sh e2_35; omega) | (simp only [gz_hd] at *; omega))⟩⟩
      refine gv_run 2 true hD (pcₚ := 11) (lvₚ := [(0, .inr (.inr (some p))), (1, .inl v1_5), (2, .inl v2_5)]) (stₚ := [.inr (.inr (some p)), .inl v2_5]) (hₚ := gc_h sh I3 J4 A) (C := ((True ∧ True) ∧ True)) rfl ⟨⟨trivial, trivial⟩, trivial⟩ ?_
      refine gv_get hD rfl rfl S_p ⟨by decide, (gz_sh B_p)⟩ (gc_hI S_p rfl) ?_
      show gv_X _ _ (14, [(0, .inr (.inr (some p))), (1, .inl v1_5), (2, .inl v2_5)], [.inl (I3 p 1), .inl v2_5], sh, gc_h sh I3 J4 A)
      refine gv_icmp_ge (t := 105) hD rfl rfl ⟨⟨by (/-56-/first | (have o1 := gz_sh hv2_5; omega) | (simp only [gz_hd] at *; omega)), by (/-57-/first | (have o1 := gz_sh hv2_5; omega) | (simp only [gz_hd] at *; omega))⟩, ⟨by (/-58-/first | (have o1 := gz_sh e3_5; have o2 := gz_sh f1; omega) | (simp only [gz_hd] at *; omega)), by (/-59-/first | (have o1 := gz_sh e3_5; have o2 := gz_sh f1; omega) | (simp only [gz_hd] at *; omega))⟩⟩ (fun c39 => ?_) (fun c39 => ?_)
      · show gv_X _ _ (105, [(0, .inr (.inr (some p))), (1, .inl v1_5), (2, .inl v2_5)], [], sh, gc_h sh I3 J4 A)
        refine gv_run 2 true hD (pcₚ := 107) (lvₚ := [(0, .inr (.inr (some p))), (1, .inl v1_5), (2, .inl v2_5)]) (stₚ := [.inl v1_5, .inr (.inr (some p))]) (hₚ := gc_h sh I3 J4 A) (C := ((True ∧ True) ∧ True)) rfl ⟨⟨trivial, trivial⟩, trivial⟩ ?_
        refine gv_put hD rfl rfl S_p ⟨by decide, (gz_sh B_p)⟩ rfl trivial ?_
        refine gc_st (k := 4) hI3 S_p rfl (gz_sh R_p) (lo := 0) (hi := 24) rfl rfl (by (/-60-/first | (have o1 := gz_sh hv1_5; omega) | (simp only [gz_hd] at *; omega))) (by (/-61-/first | (have o1 := gz_sh hv1_5; omega) | (simp only [gz_hd] at *; omega))) (fun I40 hI40 q41 p41 => ?_)
        have FI40 := gc_frs (W := fun q j => (q = p ∧ j = 4) ∨ q = (p + 2) ∨ q = (p + 3)) FI3 (Or.inl ⟨rfl, rfl⟩) p41
        have t42 := gz_hi (p41 p 1 (fun h => absurd h.2 (by first | exact gz_ne rfl | decide)))
        show gv_X _ _ (110, [(0, .inr (.inr (some p))), (1, .inl v1_5), (2, .inl v2_5)], [], sh, gc_h sh I40 J4 A)
        refine gv_run 1 true hD (pcₚ := 111) (lvₚ := [(0, .inr (.inr (some p))), (1, .inl v1_5), (2, .inl v2_5)]) (stₚ := [.inl v1_5]) (hₚ := gc_h sh I40 J4 A) (C := (True ∧ True)) rfl ⟨trivial, trivial⟩ ?_
        refine gv_if_le (t := 118) hD rfl rfl ⟨by (/-62-/first | (have o1 := gz_sh hv1_5; omega) | (simp only [gz_hd] at *; omega)), by (/-63-/first | (have o1 := gz_sh hv1_5; omega) | (simp only [gz_hd] at *; omega))⟩ (fun c44 => ?_) (fun c44 => ?_)
        · show gv_X _ _ (118, [(0, .inr (.inr (some p))), (1, .inl v1_5), (2, .inl v2_5)], [], sh, gc_h sh I40 J4 A)
          refine gv_run 1 true hD (pcₚ := 119) (lvₚ := [(0, .inr (.inr (some p))), (1, .inl v1_5), (2, .inl v2_5)]) (stₚ := [.inl 0]) (hₚ := gc_h sh I40 J4 A) (C := (True ∧ True)) rfl ⟨trivial, trivial⟩ ?_
          refine gv_pick [] rfl ?_
          exact L119 I40 J4 0 hI40 FI40 FJ4 (by (/-64-/first | (and_intros; (omega); (omega); (omega); (have o1 := gz_sh e3_5; have o2 := gz_sh t42; omega)) | (simp only [gz_hd] at *; omega))) (fun k hk => by rw [p41 (p + 2) k (fun h => absurd h.1 (by (/-65-/first | (have o1 := gz_sh hv1_5; omega) | (simp only [gz_hd] at *; omega)))), p41 (p + 3) k (fun h => absurd h.1 (by (/-66-/first | (have o1 := gz_sh hv1_5; omega) | (simp only [gz_hd] at *; omega))))]; exact e0_5 k (by (/-67-/first | (have o1 := gz_sh hv1_5; omega) | (simp only [gz_hd] at *; omega))))
        · show gv_X _ _ (114, [(0, .inr (.inr (some p))), (1, .inl v1_5), (2, .inl v2_5)], [], sh, gc_h sh I40 J4 A)
          refine gv_run 2 true hD (pcₚ := 119) (lvₚ := [(0, .inr (.inr (some p))), (1, .inl v1_5), (2, .inl v2_5)]) (stₚ := [.inl 1]) (hₚ := gc_h sh I40 J4 A) (C := ((True ∧ True) ∧ True)) rfl ⟨⟨trivial, trivial⟩, trivial⟩ ?_
          refine gv_pick [] rfl ?_
          exact L119 I40 J4 1 hI40 FI40 FJ4 (by (/-68-/first | (and_intros; (omega); (omega); (omega); (have o1 := gz_sh e3_5; have o2 := gz_sh t42; omega)) | (simp only [gz_hd] at *; omega))) (fun k hk => by rw [p41 (p + 2) k (fun h => absurd h.1 (by (/-69-/first | omega | (simp only [gz_hd] at *; omega)))), p41 (p + 3) k (fun h => absurd h.1 (by (/-70-/first | omega | (simp only [gz_hd] at *; omega))))]; exact e0_5 k (by (/-71-/first | omega | (simp only [gz_hd] at *; omega))))
      · show gv_X _ _ (17, [(0, .inr (.inr (some p))), (1, .inl v1_5), (2, .inl v2_5)], [], sh, gc_h sh I3 J4 A)
        refine gv_run 1 true hD (pcₚ := 18) (lvₚ := [(0, .inr (.inr (some p))), (1, .inl v1_5), (2, .inl v2_5)]) (stₚ := [.inr (.inr (some p))]) (hₚ := gc_h sh I3 J4 A) (C := (True ∧ True)) rfl ⟨trivial, trivial⟩ ?_
        refine gv_get hD rfl rfl S_p ⟨by decide, (gz_sh B_p)⟩ (gc_hA S_p rfl A_p_0) ?_
        show gv_X _ _ (21, [(0, .inr (.inr (some p))), (1, .inl v1_5), (2, .inl v2_5)], [.inr (.inr (some (p + 1)))], sh, gc_h sh I3 J4 A)
        refine gv_run 1 true hD (pcₚ := 22) (lvₚ := [(0, .inr (.inr (some p))), (1, .inl v1_5), (2, .inl v2_5)]) (stₚ := [.inl v2_5, .inr (.inr (some (p + 1)))]) (hₚ := gc_h sh I3 J4 A) (C := (True ∧ True)) rfl ⟨trivial, trivial⟩ ?_
        have f45 := gz_hi ((show (-128) ≤ I3 (p + 1) (Int.toNat v2_5) ∧ I3 (p + 1) (Int.toNat v2_5) ≤ 127 from gc_in2 hI3 (gz_sh R_p_1) rfl rfl rfl))
        refine gv_bald hD rfl S_p_1 (Or.inl rfl) ⟨by decide, (gz_sh B_p_1)⟩ ⟨by (/-72-/first | (have o1 := gz_sh hv2_5; omega) | (simp only [gz_hd] at *; omega)), by (/-73-/first | (have o1 := gz_sh e3_5; have o2 := gz_sh f1; omega) | (simp only [gz_hd] at *; omega))⟩ (gc_iI S_p_1 rfl) ?_
        show gv_X _ _ (23, [(0, .inr (.inr (some p))), (1, .inl v1_5), (2, .inl v2_5)], [.inl (I3 (p + 1) (Int.toNat v2_5))], sh, gc_h sh I3 J4 A)
        refine gv_run 1 true hD (pcₚ := 25) (lvₚ := [(0, .inr (.inr (some p))), (1, .inl v1_5), (2, .inl v2_5)]) (stₚ := [.inl 32, .inl (I3 (p + 1) (Int.toNat v2_5))]) (hₚ := gc_h sh I3 J4 A) (C := (True ∧ True)) rfl ⟨trivial, trivial⟩ ?_
        refine gv_icmp_ne (t := 34) hD rfl rfl ⟨⟨by (/-74-/first | (have o1 := gz_sh f45; omega) | (simp only [gz_hd] at *; omega)), by (/-75-/first | (have o1 := gz_sh f45; omega) | (simp only [gz_hd] at *; omega))⟩, ⟨by (/-76-/first | omega | (simp only [gz_hd] at *; omega)), by (/-77-/first | omega | (simp only [gz_hd] at *; omega))⟩⟩ (fun c46 => ?_) (fun c46 => ?_)
        · show gv_X _ _ (34, [(0, .inr (.inr (some p))), (1, .inl v1_5), (2, .inl v2_5)], [], sh, gc_h sh I3 J4 A)
          refine gv_run 2 true hD (pcₚ := 36) (lvₚ := [(3, .inl v2_5), (0, .inr (.inr (some p))), (1, .inl v1_5), (2, .inl v2_5)]) (stₚ := []) (hₚ := gc_h sh I3 J4 A) (C := ((True ∧ True) ∧ True)) rfl ⟨⟨trivial, trivial⟩, trivial⟩ ?_
          refine gv_pick [1, 2, 3, 0] rfl ?_
          exact L36 _ v2_5 v2_5 (Nat.lt_succ_self _) (by (/-78-/first | (and_intros; (have o1 := gz_sh hv1_5; omega); (have o1 := gz_sh hv1_5; omega); (have o1 := gz_sh hv2_5; omega); (have o1 := gz_sh hv2_5; omega); (have o1 := gz_sh hv2_5; omega); (have o1 := gz_sh e3_5; have o2 := gz_sh f1; omega); (omega); (omega); (omega)) | (simp only [gz_hd] at *; omega)))
        · show gv_X _ _ (28, [(0, .inr (.inr (some p))), (1, .inl v1_5), (2, .inl v2_5)], [], sh, gc_h sh I3 J4 A)
          refine gv_run 2 true hD (pcₚ := 9) (lvₚ := [(2, .inl (v2_5 + 1)), (0, .inr (.inr (some p))), (1, .inl v1_5)]) (stₚ := []) (hₚ := gc_h sh I3 J4 A) (C := ((True ∧ True) ∧ True)) rfl ⟨⟨trivial, trivial⟩, trivial⟩ ?_
          refine gv_pick [1, 2, 0] rfl ?_
          exact ih9 I3 J4 v1_5 (v2_5 + 1) (by (/-79-/first | (have o1 := gz_sh e3_5; have o2 := gz_sh f1; have o3 := gz_sh hv2_5; omega) | (simp only [gz_hd] at *; omega))) hI3 FI3 FJ4 (by (/-80-/first | (and_intros; (have o1 := gz_sh hv1_5; omega); (have o1 := gz_sh hv1_5; omega); (have o1 := gz_sh hv2_5; omega); (have o1 := gz_sh e3_5; have o2 := gz_sh f1; omega); (omega); (have o1 := gz_sh e2_5; omega); (have o1 := gz_sh e3_5; omega)) | (simp only [gz_hd] at *; omega))) e0_5
  refine gv_run 2 true hD (pcₚ := 2) (lvₚ := [(0, .inr (.inr (some p)))]) (stₚ := [.inl 0, .inr (.inr (some p))]) (hₚ := gc_h sh I J A) (C := ((True ∧ True) ∧ True)) rfl ⟨⟨trivial, trivial⟩, trivial⟩ ?_
  refine gv_put hD rfl rfl S_p ⟨by decide, (gz_sh B_p)⟩ rfl trivial ?_
  refine gc_st (k := 4) hI S_p rfl (gz_sh R_p) (lo := 0) (hi := 24) rfl rfl (by (/-81-/first | omega | (simp only [gz_hd] at *; omega))) (by (/-82-/first | omega | (simp only [gz_hd] at *; omega))) (fun I47 hI47 q48 p48 => ?_)
  have FI47 := gc_frs (W := fun q j => (q = p ∧ j = 4) ∨ q = (p + 2) ∨ q = (p + 3)) FI (Or.inl ⟨rfl, rfl⟩) p48
  have t49 := gz_hi (p48 p 1 (fun h => absurd h.2 (by first | exact gz_ne rfl | decide)))
  show gv_X _ _ (5, [(0, .inr (.inr (some p)))], [], sh, gc_h sh I47 J A)
  refine gv_run 4 true hD (pcₚ := 9) (lvₚ := [(2, .inl 0), (1, .inl 0), (0, .inr (.inr (some p)))]) (stₚ := []) (hₚ := gc_h sh I47 J A) (C := ((((True ∧ True) ∧ True) ∧ True) ∧ True)) rfl ⟨⟨⟨⟨trivial, trivial⟩, trivial⟩, trivial⟩, trivial⟩ ?_
  refine gv_pick [2, 1, 0] rfl ?_
  exact L9 _ I47 J 0 0 (Nat.lt_succ_self _) hI47 FI47 FJ (by (/-83-/first | (and_intros; (omega); (omega); (omega); (omega); (have o1 := gz_sh f1; have o2 := gz_sh t49; omega); (omega); (have o1 := gz_sh t49; omega)) | (simp only [gz_hd] at *; omega))) (fun k hk => by (/-84-/first | omega | (simp only [gz_hd] at *; omega)))
set_option maxHeartbeats 8000000 in
set_option maxRecDepth 100000 in
theorem d_X9_lettersSize {ws0 : List Cond} {tb : String → gz_T} (hws : gc_Ws ws0) (htb : gc_tbs tb) (sh : gz_Sh) (ro : Nat → Nat) (I : gr_I) (J : gr_J) (A : gc_A) (hI : gc_Inv ro I) (p : Nat)  (hp : gc_isText sh ro A p)   : ∃ r hₚ, gz_Ev ws0 tb 1 (yX9_lettersSize, cX9_lettersSize, 1, (some .int)) [.inr (.inr (some p))] sh (gc_h sh I J A) r sh hₚ 0 0 ∧ (hₚ = gc_h sh I J A ∧ (∃ z : Int, r = some (.inl z) ∧ (-1002) ≤ z ∧ z ≤ 999 ∧ (z = I p 6 - I p 5 - 2))) := by
  obtain ⟨S_p, R_p, B_p, A_p_0, S_p_1, R_p_1, B_p_1, A_p_2, S_p_2, R_p_2, B_p_2, A_p_3, S_p_3, R_p_3, B_p_3⟩ := id hp
  have hD : gv_D (gc_E9 ws0 tb 0 (yX9_lettersSize, cX9_lettersSize, 1, (some .int)) kX9_lettersSize) := gq_of oX9_lettersSize
  refine gc_ev9 (d := 0) (l := kX9_lettersSize) (Po := fun r hₚ => (hₚ = gc_h sh I J A ∧ (∃ z : Int, r = some (.inl z) ∧ (-1002) ≤ z ∧ z ≤ 999 ∧ (z = I p 6 - I p 5 - 2)))) htb rfl (Nat.le_of_ble_eq_true rfl) ?_
  refine gv_run 1 true hD (pcₚ := 1) (lvₚ := [(0, .inr (.inr (some p)))]) (stₚ := [.inr (.inr (some p))]) (hₚ := gc_h sh I J A) (C := (True ∧ True)) rfl ⟨trivial, trivial⟩ ?_
  have f1 := (show 0 ≤ I p 6 ∧ I p 6 ≤ 1001 from gc_in2 hI R_p rfl rfl rfl)
  refine gv_get hD rfl rfl S_p ⟨by decide, B_p⟩ (gc_hI S_p rfl) ?_
  show gv_X _ _ (4, [(0, .inr (.inr (some p)))], [.inl (I p 6)], sh, gc_h sh I J A)
  refine gv_run 1 true hD (pcₚ := 5) (lvₚ := [(0, .inr (.inr (some p)))]) (stₚ := [.inr (.inr (some p)), .inl (I p 6)]) (hₚ := gc_h sh I J A) (C := (True ∧ True)) rfl ⟨trivial, trivial⟩ ?_
  have f2 := (show 0 ≤ I p 5 ∧ I p 5 ≤ 1000 from gc_in2 hI R_p rfl rfl rfl)
  refine gv_get hD rfl rfl S_p ⟨by decide, B_p⟩ (gc_hI S_p rfl) ?_
  show gv_X _ _ (8, [(0, .inr (.inr (some p)))], [.inl (I p 5), .inl (I p 6)], sh, gc_h sh I J A)
  refine gv_run 3 true hD (pcₚ := 11) (lvₚ := [(0, .inr (.inr (some p)))]) (stₚ := [.inl (((I p 6) - (I p 5)) - 2)]) (hₚ := gc_h sh I J A) (C := (((True ∧ True) ∧ True) ∧ True)) rfl ⟨⟨⟨trivial, trivial⟩, trivial⟩, trivial⟩ ?_
  exact gv_iret hD rfl ⟨rfl, ⟨_, rfl, by omega⟩⟩
set_option maxHeartbeats 8000000 in
set_option maxRecDepth 100000 in
theorem d_X9_isSign {ws0 : List Cond} {tb : String → gz_T} (hws : gc_Ws ws0) (htb : gc_tbs tb) (sh : gz_Sh) (ro : Nat → Nat) (I : gr_I) (J : gr_J) (A : gc_A) (hI : gc_Inv ro I) (a1 : Int)  (ha1 : (-2147483648) ≤ a1 ∧ a1 ≤ 2147483647)  : ∃ r hₚ, gz_Ev ws0 tb 1 (yX9_isSign, cX9_isSign, 1, (some .boolean)) [.inl a1] sh (gc_h sh I J A) r sh hₚ 0 0 ∧ (hₚ = gc_h sh I J A ∧ (∃ z : Int, r = some (.inl z) ∧ 0 ≤ z ∧ z ≤ 1 ∧ (z = 0 ∨ (35 ≤ a1 ∧ a1 ≤ 125)))) := by
  have hD : gv_D (gc_E9 ws0 tb 0 (yX9_isSign, cX9_isSign, 1, (some .boolean)) kX9_isSign) := gq_of oX9_isSign
  refine gc_ev9 (d := 0) (l := kX9_isSign) (Po := fun r hₚ => (hₚ = gc_h sh I J A ∧ (∃ z : Int, r = some (.inl z) ∧ 0 ≤ z ∧ z ≤ 1 ∧ (z = 0 ∨ (35 ≤ a1 ∧ a1 ≤ 125))))) htb rfl (Nat.le_of_ble_eq_true rfl) ?_
  refine gv_run 1 true hD (pcₚ := 1) (lvₚ := [(0, .inl a1)]) (stₚ := [.inl a1]) (hₚ := gc_h sh I J A) (C := (True ∧ True)) rfl ⟨trivial, trivial⟩ ?_
  by_cases c1 : a1 = 35
  · refine gv_look hD rfl ⟨by omega, by omega⟩ (by decide) 163 (by rw [c1]; decide) (t := 164) rfl ?_
    refine gv_run 1 true hD (pcₚ := 165) (lvₚ := [(0, .inl a1)]) (stₚ := [.inl 1]) (hₚ := gc_h sh I J A) (C := (True ∧ True)) rfl ⟨trivial, trivial⟩ ?_
    exact gv_zret hD rfl (by omega) ⟨rfl, ⟨_, rfl, by omega⟩⟩
  by_cases c2 : a1 = 40
  · refine gv_look hD rfl ⟨by omega, by omega⟩ (by decide) 163 (by rw [c2]; decide) (t := 164) rfl ?_
    refine gv_run 1 true hD (pcₚ := 165) (lvₚ := [(0, .inl a1)]) (stₚ := [.inl 1]) (hₚ := gc_h sh I J A) (C := (True ∧ True)) rfl ⟨trivial, trivial⟩ ?_
    exact gv_zret hD rfl (by omega) ⟨rfl, ⟨_, rfl, by omega⟩⟩
  by_cases c3 : a1 = 41
  · refine gv_look hD rfl ⟨by omega, by omega⟩ (by decide) 163 (by rw [c3]; decide) (t := 164) rfl ?_
    refine gv_run 1 true hD (pcₚ := 165) (lvₚ := [(0, .inl a1)]) (stₚ := [.inl 1]) (hₚ := gc_h sh I J A) (C := (True ∧ True)) rfl ⟨trivial, trivial⟩ ?_
    exact gv_zret hD rfl (by omega) ⟨rfl, ⟨_, rfl, by omega⟩⟩
  by_cases c4 : a1 = 42
  · refine gv_look hD rfl ⟨by omega, by omega⟩ (by decide) 163 (by rw [c4]; decide) (t := 164) rfl ?_
    refine gv_run 1 true hD (pcₚ := 165) (lvₚ := [(0, .inl a1)]) (stₚ := [.inl 1]) (hₚ := gc_h sh I J A) (C := (True ∧ True)) rfl ⟨trivial, trivial⟩ ?_
    exact gv_zret hD rfl (by omega) ⟨rfl, ⟨_, rfl, by omega⟩⟩
  by_cases c5 : a1 = 43
  · refine gv_look hD rfl ⟨by omega, by omega⟩ (by decide) 163 (by rw [c5]; decide) (t := 164) rfl ?_
    refine gv_run 1 true hD (pcₚ := 165) (lvₚ := [(0, .inl a1)]) (stₚ := [.inl 1]) (hₚ := gc_h sh I J A) (C := (True ∧ True)) rfl ⟨trivial, trivial⟩ ?_
    exact gv_zret hD rfl (by omega) ⟨rfl, ⟨_, rfl, by omega⟩⟩
  by_cases c6 : a1 = 44
  · refine gv_look hD rfl ⟨by omega, by omega⟩ (by decide) 163 (by rw [c6]; decide) (t := 164) rfl ?_
    refine gv_run 1 true hD (pcₚ := 165) (lvₚ := [(0, .inl a1)]) (stₚ := [.inl 1]) (hₚ := gc_h sh I J A) (C := (True ∧ True)) rfl ⟨trivial, trivial⟩ ?_
    exact gv_zret hD rfl (by omega) ⟨rfl, ⟨_, rfl, by omega⟩⟩
  by_cases c7 : a1 = 45
  · refine gv_look hD rfl ⟨by omega, by omega⟩ (by decide) 163 (by rw [c7]; decide) (t := 164) rfl ?_
    refine gv_run 1 true hD (pcₚ := 165) (lvₚ := [(0, .inl a1)]) (stₚ := [.inl 1]) (hₚ := gc_h sh I J A) (C := (True ∧ True)) rfl ⟨trivial, trivial⟩ ?_
    exact gv_zret hD rfl (by omega) ⟨rfl, ⟨_, rfl, by omega⟩⟩
  by_cases c8 : a1 = 46
  · refine gv_look hD rfl ⟨by omega, by omega⟩ (by decide) 163 (by rw [c8]; decide) (t := 164) rfl ?_
    refine gv_run 1 true hD (pcₚ := 165) (lvₚ := [(0, .inl a1)]) (stₚ := [.inl 1]) (hₚ := gc_h sh I J A) (C := (True ∧ True)) rfl ⟨trivial, trivial⟩ ?_
    exact gv_zret hD rfl (by omega) ⟨rfl, ⟨_, rfl, by omega⟩⟩
  by_cases c9 : a1 = 47
  · refine gv_look hD rfl ⟨by omega, by omega⟩ (by decide) 163 (by rw [c9]; decide) (t := 164) rfl ?_
    refine gv_run 1 true hD (pcₚ := 165) (lvₚ := [(0, .inl a1)]) (stₚ := [.inl 1]) (hₚ := gc_h sh I J A) (C := (True ∧ True)) rfl ⟨trivial, trivial⟩ ?_
    exact gv_zret hD rfl (by omega) ⟨rfl, ⟨_, rfl, by omega⟩⟩
  by_cases c10 : a1 = 58
  · refine gv_look hD rfl ⟨by omega, by omega⟩ (by decide) 163 (by rw [c10]; decide) (t := 164) rfl ?_
    refine gv_run 1 true hD (pcₚ := 165) (lvₚ := [(0, .inl a1)]) (stₚ := [.inl 1]) (hₚ := gc_h sh I J A) (C := (True ∧ True)) rfl ⟨trivial, trivial⟩ ?_
    exact gv_zret hD rfl (by omega) ⟨rfl, ⟨_, rfl, by omega⟩⟩
  by_cases c11 : a1 = 59
  · refine gv_look hD rfl ⟨by omega, by omega⟩ (by decide) 163 (by rw [c11]; decide) (t := 164) rfl ?_
    refine gv_run 1 true hD (pcₚ := 165) (lvₚ := [(0, .inl a1)]) (stₚ := [.inl 1]) (hₚ := gc_h sh I J A) (C := (True ∧ True)) rfl ⟨trivial, trivial⟩ ?_
    exact gv_zret hD rfl (by omega) ⟨rfl, ⟨_, rfl, by omega⟩⟩
  by_cases c12 : a1 = 61
  · refine gv_look hD rfl ⟨by omega, by omega⟩ (by decide) 163 (by rw [c12]; decide) (t := 164) rfl ?_
    refine gv_run 1 true hD (pcₚ := 165) (lvₚ := [(0, .inl a1)]) (stₚ := [.inl 1]) (hₚ := gc_h sh I J A) (C := (True ∧ True)) rfl ⟨trivial, trivial⟩ ?_
    exact gv_zret hD rfl (by omega) ⟨rfl, ⟨_, rfl, by omega⟩⟩
  by_cases c13 : a1 = 62
  · refine gv_look hD rfl ⟨by omega, by omega⟩ (by decide) 163 (by rw [c13]; decide) (t := 164) rfl ?_
    refine gv_run 1 true hD (pcₚ := 165) (lvₚ := [(0, .inl a1)]) (stₚ := [.inl 1]) (hₚ := gc_h sh I J A) (C := (True ∧ True)) rfl ⟨trivial, trivial⟩ ?_
    exact gv_zret hD rfl (by omega) ⟨rfl, ⟨_, rfl, by omega⟩⟩
  by_cases c14 : a1 = 91
  · refine gv_look hD rfl ⟨by omega, by omega⟩ (by decide) 163 (by rw [c14]; decide) (t := 164) rfl ?_
    refine gv_run 1 true hD (pcₚ := 165) (lvₚ := [(0, .inl a1)]) (stₚ := [.inl 1]) (hₚ := gc_h sh I J A) (C := (True ∧ True)) rfl ⟨trivial, trivial⟩ ?_
    exact gv_zret hD rfl (by omega) ⟨rfl, ⟨_, rfl, by omega⟩⟩
  by_cases c15 : a1 = 92
  · refine gv_look hD rfl ⟨by omega, by omega⟩ (by decide) 163 (by rw [c15]; decide) (t := 164) rfl ?_
    refine gv_run 1 true hD (pcₚ := 165) (lvₚ := [(0, .inl a1)]) (stₚ := [.inl 1]) (hₚ := gc_h sh I J A) (C := (True ∧ True)) rfl ⟨trivial, trivial⟩ ?_
    exact gv_zret hD rfl (by omega) ⟨rfl, ⟨_, rfl, by omega⟩⟩
  by_cases c16 : a1 = 93
  · refine gv_look hD rfl ⟨by omega, by omega⟩ (by decide) 163 (by rw [c16]; decide) (t := 164) rfl ?_
    refine gv_run 1 true hD (pcₚ := 165) (lvₚ := [(0, .inl a1)]) (stₚ := [.inl 1]) (hₚ := gc_h sh I J A) (C := (True ∧ True)) rfl ⟨trivial, trivial⟩ ?_
    exact gv_zret hD rfl (by omega) ⟨rfl, ⟨_, rfl, by omega⟩⟩
  by_cases c17 : a1 = 95
  · refine gv_look hD rfl ⟨by omega, by omega⟩ (by decide) 163 (by rw [c17]; decide) (t := 164) rfl ?_
    refine gv_run 1 true hD (pcₚ := 165) (lvₚ := [(0, .inl a1)]) (stₚ := [.inl 1]) (hₚ := gc_h sh I J A) (C := (True ∧ True)) rfl ⟨trivial, trivial⟩ ?_
    exact gv_zret hD rfl (by omega) ⟨rfl, ⟨_, rfl, by omega⟩⟩
  by_cases c18 : a1 = 123
  · refine gv_look hD rfl ⟨by omega, by omega⟩ (by decide) 163 (by rw [c18]; decide) (t := 164) rfl ?_
    refine gv_run 1 true hD (pcₚ := 165) (lvₚ := [(0, .inl a1)]) (stₚ := [.inl 1]) (hₚ := gc_h sh I J A) (C := (True ∧ True)) rfl ⟨trivial, trivial⟩ ?_
    exact gv_zret hD rfl (by omega) ⟨rfl, ⟨_, rfl, by omega⟩⟩
  by_cases c19 : a1 = 125
  · refine gv_look hD rfl ⟨by omega, by omega⟩ (by decide) 163 (by rw [c19]; decide) (t := 164) rfl ?_
    refine gv_run 1 true hD (pcₚ := 165) (lvₚ := [(0, .inl a1)]) (stₚ := [.inl 1]) (hₚ := gc_h sh I J A) (C := (True ∧ True)) rfl ⟨trivial, trivial⟩ ?_
    exact gv_zret hD rfl (by omega) ⟨rfl, ⟨_, rfl, by omega⟩⟩
  refine gv_look hD rfl ⟨by omega, by omega⟩ (by decide) 165 (by show Op.lookupswitch.offset [(35, 163), (40, 163), (41, 163), (42, 163), (43, 163), (44, 163), (45, 163), (46, 163), (47, 163), (58, 163), (59, 163), (61, 163), (62, 163), (91, 163), (92, 163), (93, 163), (95, 163), (123, 163), (125, 163)] 165 a1 = _; rw [Op.lookupswitch.offset_cons, if_neg (fun q => c1 q.symm), Op.lookupswitch.offset_cons, if_neg (fun q => c2 q.symm), Op.lookupswitch.offset_cons, if_neg (fun q => c3 q.symm), Op.lookupswitch.offset_cons, if_neg (fun q => c4 q.symm), Op.lookupswitch.offset_cons, if_neg (fun q => c5 q.symm), Op.lookupswitch.offset_cons, if_neg (fun q => c6 q.symm), Op.lookupswitch.offset_cons, if_neg (fun q => c7 q.symm), Op.lookupswitch.offset_cons, if_neg (fun q => c8 q.symm), Op.lookupswitch.offset_cons, if_neg (fun q => c9 q.symm), Op.lookupswitch.offset_cons, if_neg (fun q => c10 q.symm), Op.lookupswitch.offset_cons, if_neg (fun q => c11 q.symm), Op.lookupswitch.offset_cons, if_neg (fun q => c12 q.symm), Op.lookupswitch.offset_cons, if_neg (fun q => c13 q.symm), Op.lookupswitch.offset_cons, if_neg (fun q => c14 q.symm), Op.lookupswitch.offset_cons, if_neg (fun q => c15 q.symm), Op.lookupswitch.offset_cons, if_neg (fun q => c16 q.symm), Op.lookupswitch.offset_cons, if_neg (fun q => c17 q.symm), Op.lookupswitch.offset_cons, if_neg (fun q => c18 q.symm), Op.lookupswitch.offset_cons, if_neg (fun q => c19 q.symm)]; rfl) (t := 166) rfl ?_
  refine gv_run 1 true hD (pcₚ := 167) (lvₚ := [(0, .inl a1)]) (stₚ := [.inl 0]) (hₚ := gc_h sh I J A) (C := (True ∧ True)) rfl ⟨trivial, trivial⟩ ?_
  exact gv_zret hD rfl (by omega) ⟨rfl, ⟨_, rfl, by omega⟩⟩
