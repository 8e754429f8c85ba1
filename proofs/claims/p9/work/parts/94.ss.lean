/-! PARITY: what a LINEARIZATION is made of -/
def gs_a4 (f : Nat → Int) (j : Nat) : Int := if j < 4 then f j else -1
theorem gs_a4_i {f : Nat → Int} {j : Nat} (h : j < 4) : gs_a4 f j = f j := if_pos h
theorem gs_a4_eq {f g : Nat → Int} (h : ∀ j, f j = g j) : gs_a4 f = gs_a4 g := funext fun j => by
  unfold gs_a4
  rw [h]
/-- an argument by its number; nf: how many the function takes, a: where each of them stands -/
def gs_ao (β : Int → Int) (N nf : Int) (a : Nat → Int) (p : Int) : Int := if gs_T β N p = 2 then (if gs_V β N p < 1 ∨ nf < gs_V β N p ∨ a (Int.toNat (gs_V β N p - 1)) < 0 then -1 - gs_A β N p else gs_X β N p) else -1 - gs_A β N p
def gs_fo (β : Int → Int) (N : Int) (I : gr_I) (J : gr_J) (p : Int) : Int := if gs_T β N p = 1 then (if gs_lt J 20 (8 * I 0 6) (I 13 (Int.toNat (I 0 6))) (gs_rn β N p) < 0 then -1 - gs_A β N p else gs_X β N p) else -1 - gs_A β N p
theorem gs_fo_eq {β : Int → Int} {N : Int} {I Iₚ : gr_I} {J Jₚ : gr_J} {p : Int} (h6 : Iₚ 0 6 = I 0 6) (h13 : ∀ k, Iₚ 13 k = I 13 k) (h20 : ∀ k, Jₚ 20 k = J 20 k) : gs_fo β N Iₚ Jₚ p = gs_fo β N I J p := by
  unfold gs_fo
  rw [show gs_lt Jₚ 20 (8 * Iₚ 0 6) (Iₚ 13 (Int.toNat (Iₚ 0 6))) (gs_rn β N p) = gs_lt J 20 (8 * I 0 6) (I 13 (Int.toNat (I 0 6))) (gs_rn β N p) from by
    rw [h13, h6]
    exact gs_lt_eq h20 rfl rfl rfl]
def gs_sa2 (β : Int → Int) (N : Int) (I : gr_I) (J : gr_J) (q : Int) : Int := if q < 0 then q else gs_fo β N I J q
def gs_sa1 (β : Int → Int) (N : Int) (I : gr_I) (J : gr_J) (nf : Int) (a : Nat → Int) (q : Int) : Int := if q < 0 then q else gs_sa2 β N I J (gs_ao β N nf a q)
def gs_sv (β : Int → Int) (N : Int) (I : gr_I) (J : gr_J) (q : Int) : Int := if gs_vl9 β N I J q < 0 then -1 - gs_A β N q else gs_X β N q
def gs_sg (β : Int → Int) (N : Int) (I : gr_I) (J : gr_J) (nf : Int) (a : Nat → Int) (q : Int) : Int := if gs_T β N q = 2 then gs_sa2 β N I J (gs_ao β N nf a q) else if gs_T β N q = 1 then gs_sv β N I J q else -1 - gs_A β N q
def gs_said2 (β : Int → Int) (N : Int) (I : gr_I) (J : gr_J) (nf : Int) (a : Nat → Int) (p : Int) : Int := if gs_kw β N p (gs_W 95) = 1 then gs_sa1 β N I J nf a (gs_ao β N nf a (gs_X β N p)) else gs_sg β N I J nf a (gs_X β N p)
def gs_said1 (β : Int → Int) (N : Int) (I : gr_I) (J : gr_J) (nf ns : Int) (a : Nat → Int) (p : Int) : Int := if ns = 6 then -1 - gs_A β N p else gs_said2 β N I J nf a p
def gs_said (β : Int → Int) (N : Int) (I : gr_I) (J : gr_J) (nf ns : Int) (a : Nat → Int) (p : Int) : Int := if gs_kw β N p (gs_W 95) = 1 ∨ gs_kw β N p (gs_W 96) = 1 then gs_said1 β N I J nf ns a p else -1 - gs_A β N p
/-- a piece: LETTERS, or an argument with the VALUES that are asked of it -/
def gs_it4 (β : Int → Int) (N : Int) (w : Int × Int) : Int := if w.1 < 0 then w.1 else gs_need β N 93 w.1
theorem gs_it4_x {β : Int → Int} {N q k : Int} (h : q < 0) : gs_it4 β N (q, k) = q := if_pos h
theorem gs_it4_e {β : Int → Int} {N q k : Int} (h : ¬ q < 0) : gs_it4 β N (q, k) = gs_need β N 93 q := if_neg h
def gs_it3 (β : Int → Int) (N : Int) (I : gr_I) (J : gr_J) (q : Int) : Int := if gs_T β N q = 91 then (if gs_T β N (gs_X β N q) = 1 then gs_it4 β N (gs_ws β N I J 1002 0 (gs_X β N q)) else -1 - gs_A β N (gs_X β N q)) else q
def gs_it2 (β : Int → Int) (N : Int) (I : gr_I) (J : gr_J) (nf : Int) (a : Nat → Int) (p : Int) : Int := if gs_V β N p - 1 < 0 ∨ nf ≤ gs_V β N p - 1 ∨ 0 ≤ a (Int.toNat (gs_V β N p - 1)) then -1 - gs_A β N p else gs_it3 β N I J (gs_X β N p)
def gs_it (β : Int → Int) (N : Int) (I : gr_I) (J : gr_J) (nf n : Int) (a : Nat → Int) (p : Int) : Int := if n = 6 then -1 - gs_A β N p else if gs_T β N p = 3 then (if gs_X β N p - gs_A β N p - 2 = 0 then -1 - gs_A β N p else gs_X β N p) else gs_it2 β N I J nf a p
/-- where an argument stands -/
def gs_ua (β : Int → Int) (N p : Int) (a : Nat → Int) (j : Nat) : Int := if gs_T β N p = 2 ∧ j = Int.toNat (gs_V β N p - 1) then gs_A β N p else a j
/-- what a piece is: below 0 an argument -/
def gs_ui (β : Int → Int) (N p : Int) (x : Int) : Prop := (gs_T β N p = 3 → 0 ≤ x) ∧ (gs_T β N p = 2 → x = -gs_V β N p)
def gs_Uit (β : Int → Int) (N p : Int) (I Iₚ : gr_I) : Prop := Iₚ 0 118 = I 0 118 + 1 ∧ (∀ j, Iₚ 74 j = gs_ua β N p (I 74) j) ∧ (∀ j, ¬ j = Int.toNat (I 0 118) → Iₚ 68 j = I 68 j) ∧ gs_ui β N p (Iₚ 68 (Int.toNat (I 0 118)))
def gs_Sit (I Iₚ : gr_I) : Prop := Iₚ 0 118 = I 0 118 ∧ ∀ j, Iₚ 74 j = I 74 j ∧ Iₚ 68 j = I 68 j
/-- the piece is laid, its number not yet -/
def gs_Uiv (β : Int → Int) (N p : Int) (I Iₚ : gr_I) : Prop := Iₚ 0 118 = I 0 118 ∧ (∀ j, Iₚ 74 j = gs_ua β N p (I 74) j) ∧ (∀ j, ¬ j = Int.toNat (I 0 118) → Iₚ 68 j = I 68 j) ∧ gs_ui β N p (Iₚ 68 (Int.toNat (I 0 118)))
theorem gs_Uiv_fr {β : Int → Int} {N p : Int} {I I1 I2 : gr_I} (h : gs_Uiv β N p I I1) (h1 : I2 0 118 = I1 0 118) (h2 : ∀ j, I2 74 j = I1 74 j) (h3 : ∀ j, I2 68 j = I1 68 j) : gs_Uiv β N p I I2 := by
  obtain ⟨a, b, c, d⟩ := h
  refine ⟨h1.trans a, fun j => (h2 j).trans (b j), fun j hj => (h3 j).trans (c j hj), ?_⟩
  rw [h3]
  exact d
theorem gs_Uit_mk {β : Int → Int} {N p : Int} {I I1 I2 : gr_I} (h : gs_Uiv β N p I I1) (h1 : I2 0 118 = I1 0 118 + 1) (h2 : ∀ j, I2 74 j = I1 74 j) (h3 : ∀ j, I2 68 j = I1 68 j) : gs_Uit β N p I I2 := by
  obtain ⟨a, b, c, d⟩ := h
  refine ⟨by omega, fun j => (h2 j).trans (b j), fun j hj => (h3 j).trans (c j hj), ?_⟩
  rw [h3]
  exact d
theorem gs_Uiv_l {β : Int → Int} {N p : Int} {I I1 I2 : gr_I} {a : Nat} (h : gs_Sit I I1) (hT : gs_T β N p = 3) (ha : a = Int.toNat (I 0 118)) (pa : ∀ x j, ¬ (x = 68 ∧ j = a) → I2 x j = I1 x j) (h0 : 0 ≤ I2 68 a) : gs_Uiv β N p I I2 := by
  subst ha
  refine ⟨(pa 0 118 (fun q => absurd q.1 (by first | exact gz_ne rfl | decide))).trans h.1, fun j => ?_, fun j hj => ?_, fun _ => h0, fun q => by omega⟩
  · unfold gs_ua
    rw [if_neg (by omega), pa 74 j (fun q => absurd q.1 (by first | exact gz_ne rfl | decide))]
    exact (h.2 j).1
  · rw [pa 68 j (fun q => hj q.2)]
    exact (h.2 j).2
theorem gs_Uiv_a {β : Int → Int} {N p : Int} {I I1 I2 I3 : gr_I} {a b : Nat} {z : Int} (h : gs_Sit I I1) (hT : gs_T β N p = 2) (ha : a = Int.toNat (gs_V β N p - 1)) (pa : ∀ x j, ¬ (x = 74 ∧ j = a) → I2 x j = I1 x j) (qa : I2 74 a = gs_A β N p) (hb : b = Int.toNat (I 0 118)) (pb : ∀ x j, ¬ (x = 68 ∧ j = b) → I3 x j = I2 x j) (qb : I3 68 b = z) (hz : z = -gs_V β N p) : gs_Uiv β N p I I3 := by
  subst ha hb
  refine ⟨?_, fun j => ?_, fun j hj => ?_, fun q => by omega, fun _ => by rw [qb, hz]⟩
  · rw [pb 0 118 (fun q => absurd q.1 (by first | exact gz_ne rfl | decide)), pa 0 118 (fun q => absurd q.1 (by first | exact gz_ne rfl | decide))]
    exact h.1
  · unfold gs_ua
    rw [pb 74 j (fun q => absurd q.1 (by first | exact gz_ne rfl | decide))]
    by_cases c : j = Int.toNat (gs_V β N p - 1)
    · rw [if_pos ⟨hT, c⟩, c, qa]
    · rw [if_neg (fun q => c q.2), pa 74 j (fun q => c q.2)]
      exact (h.2 j).1
  · rw [pb 68 j (fun q => hj q.2), pa 68 j (fun q => absurd q.1 (by first | exact gz_ne rfl | decide))]
    exact (h.2 j).2
set_option maxHeartbeats 8000000 in
set_option maxRecDepth 100000 in
theorem r_argumentOf_p {ws0 : List Cond} {tb : String → gz_T} (hws : ∀ w ∈ gr_ws, w ∈ ws0) (htb : tb RX13 = gr_T) (ext : gz_Sh) (β : Int → Int) (N9 : Int) (p9 : Int) (I : gr_I) (J : gr_J) (hI : gr_Inv I) (a1 : Int) (ha1 : 0 ≤ a1 ∧ a1 ≤ 95) (x0 : I 0 71 = 5 ∨ I 0 73 ≤ I 0 69) (x1 : I 0 72 ≤ I 0 69) (x2 : I 0 71 = 0 ∨ (I 0 72 < I 0 73 ∧ I 0 72 < I 0 69)) (x3 : I 0 71 = 3 → 2 ≤ I 0 73 - I 0 72 ∧ I 0 73 - I 0 72 ≤ 14) (x4 : I 0 72 ≤ I 0 73) (x5 : gr_ATp β N9 p9 I J) (x6 : 0 ≤ p9) : ∃ r hₚ, gz_Ev ws0 tb 11 (yX13_argumentOf, cX13_argumentOf, 2, (some .boolean)) [.inr (.inr (some 0)), .inl a1] (gr_sh ++ ext) (gr_h I J) r (gr_sh ++ ext) hₚ 0 0 ∧ (∃ (Iₚ : gr_I) (Jₚ : gr_J), hₚ = gr_h Iₚ Jₚ ∧ gr_Inv Iₚ ∧ gr_fr [71, 72, 73, 74, 75, 76, 77, 120] [] I Iₚ ∧ gr_fj [71, 72, 73, 74, 75, 76, 77, 120] [] J Jₚ ∧ (∃ z : Int, r = some (.inl z) ∧ 0 ≤ z ∧ z ≤ 1 ∧ (Iₚ 0 71 = 5 ∨ Iₚ 0 73 ≤ Iₚ 0 69) ∧ (Iₚ 0 72 ≤ Iₚ 0 69) ∧ (Iₚ 0 71 = 0 ∨ (Iₚ 0 72 < Iₚ 0 73 ∧ Iₚ 0 72 < Iₚ 0 69)) ∧ (Iₚ 0 71 = 3 → 2 ≤ Iₚ 0 73 - Iₚ 0 72 ∧ Iₚ 0 73 - Iₚ 0 72 ≤ 14) ∧ (Iₚ 0 72 ≤ Iₚ 0 73) ∧ (Iₚ 0 69 = I 0 69) ∧ (I 0 73 ≤ Iₚ 0 73) ∧ (I 0 72 ≤ Iₚ 0 72) ∧ (gs_Or z (0 ≤ (gs_ao β N9 (I 6 (Int.toNat a1)) (gs_a4 (I 74)) p9) ∧ gr_ATp β N9 (gs_ao β N9 (I 6 (Int.toNat a1)) (gs_a4 (I 74)) p9) Iₚ Jₚ) ((gs_ao β N9 (I 6 (Int.toNat a1)) (gs_a4 (I 74)) p9) < 0 ∧ Iₚ 0 77 = -1 - (gs_ao β N9 (I 6 (Int.toNat a1)) (gs_a4 (I 74)) p9))))) := by
  have FI : gr_fr [71, 72, 73, 74, 75, 76, 77, 120] [] I I := fun _ _ _ => rfl
  have FJ : gr_fj [71, 72, 73, 74, 75, 76, 77, 120] [] J J := fun _ _ _ => rfl
  have hD : gv_D (gr_E ws0 tb 10 (yX13_argumentOf, cX13_argumentOf, 2, (some .boolean)) kX13_argumentOf) := gq_of oX13_argumentOf
  refine gr_ev (d := 10) (l := kX13_argumentOf) (Po := fun r hₚ => (∃ (Iₚ : gr_I) (Jₚ : gr_J), hₚ = gr_h Iₚ Jₚ ∧ gr_Inv Iₚ ∧ gr_fr [71, 72, 73, 74, 75, 76, 77, 120] [] I Iₚ ∧ gr_fj [71, 72, 73, 74, 75, 76, 77, 120] [] J Jₚ ∧ (∃ z : Int, r = some (.inl z) ∧ 0 ≤ z ∧ z ≤ 1 ∧ (Iₚ 0 71 = 5 ∨ Iₚ 0 73 ≤ Iₚ 0 69) ∧ (Iₚ 0 72 ≤ Iₚ 0 69) ∧ (Iₚ 0 71 = 0 ∨ (Iₚ 0 72 < Iₚ 0 73 ∧ Iₚ 0 72 < Iₚ 0 69)) ∧ (Iₚ 0 71 = 3 → 2 ≤ Iₚ 0 73 - Iₚ 0 72 ∧ Iₚ 0 73 - Iₚ 0 72 ≤ 14) ∧ (Iₚ 0 72 ≤ Iₚ 0 73) ∧ (Iₚ 0 69 = I 0 69) ∧ (I 0 73 ≤ Iₚ 0 73) ∧ (I 0 72 ≤ Iₚ 0 72) ∧ (gs_Or z (0 ≤ (gs_ao β N9 (I 6 (Int.toNat a1)) (gs_a4 (I 74)) p9) ∧ gr_ATp β N9 (gs_ao β N9 (I 6 (Int.toNat a1)) (gs_a4 (I 74)) p9) Iₚ Jₚ) ((gs_ao β N9 (I 6 (Int.toNat a1)) (gs_a4 (I 74)) p9) < 0 ∧ Iₚ 0 77 = -1 - (gs_ao β N9 (I 6 (Int.toNat a1)) (gs_a4 (I 74)) p9)))))) htb rfl (Nat.le_of_ble_eq_true rfl) ?_
  have tAT := gr_ATp_l x5
  clear x0 x2 x3
  have f1 := gz_hi ((gr_b_0_71 hI))
  have f2 := gz_hi ((gr_b_0_72 hI))
  have f3 := gz_hi ((gr_b_0_73 hI))
  have f5 := gz_hi ((gr_b_0_74 hI))
  refine gv_run 3 true hD (pcₚ := 5) (lvₚ := [(0, .inr (.inr (some 0))), (1, .inl a1)]) (stₚ := [.inl 2, .inl (I 0 71)]) (hₚ := gr_h I J) (C := (((True ∧ True) ∧ True) ∧ True)) rfl ⟨⟨⟨trivial, trivial⟩, trivial⟩, trivial⟩ ?_
  refine gv_icmp_eq (t := 14) hD rfl rfl ⟨⟨by (/-0-/first | (have o1 := gz_sh f1; omega) | (simp only [gz_hd] at *; omega)), by (/-1-/first | (have o1 := gz_sh f1; omega) | (simp only [gz_hd] at *; omega))⟩, ⟨by (/-2-/first | omega | (simp only [gz_hd] at *; omega)), by (/-3-/first | omega | (simp only [gz_hd] at *; omega))⟩⟩ (fun c7 => ?_) (fun c7 => ?_)
  · have t8 := gz_hi ((gr_ATp_k x5 (c := 2) (by (/-4-/first | (and_intros <;> omega) | (simp only [gz_hd] at *; omega)))).mp (by (/-5-/first | omega | (simp only [gz_hd] at *; omega))))
    have t9 := gz_hi ((gr_ATp_rr x5).2.2.1.resolve_left (by (/-6-/first | omega | (simp only [gz_hd] at *; omega))))
    have t10 := gz_hi (gr_ATp_n x5 (gz_sh t8))
    refine gv_run 3 true hD (pcₚ := 19) (lvₚ := [(0, .inr (.inr (some 0))), (1, .inl a1)]) (stₚ := [.inl 1, .inl (I 0 74)]) (hₚ := gr_h I J) (C := (((True ∧ True) ∧ True) ∧ True)) rfl ⟨⟨⟨trivial, trivial⟩, trivial⟩, trivial⟩ ?_
    refine gv_icmp_lt (t := 49) hD rfl rfl ⟨⟨by (/-7-/first | (have o1 := gz_sh f5; omega) | (simp only [gz_hd] at *; omega)), by (/-8-/first | (have o1 := gz_sh f5; omega) | (simp only [gz_hd] at *; omega))⟩, ⟨by (/-9-/first | omega | (simp only [gz_hd] at *; omega)), by (/-10-/first | omega | (simp only [gz_hd] at *; omega))⟩⟩ (fun c12 => ?_) (fun c12 => ?_)
    · refine gv_run 2 true hD (pcₚ := 51) (lvₚ := [(0, .inr (.inr (some 0))), (1, .inl a1)]) (stₚ := [.inl 5, .inr (.inr (some 0))]) (hₚ := gr_h I J) (C := ((True ∧ True) ∧ True)) rfl ⟨⟨trivial, trivial⟩, trivial⟩ ?_
      obtain ⟨r13, h13, E13, P13⟩ := r_no__p (ws0 := ws0) (tb := tb) hws htb ext β N9 p9 I J hI 5 ⟨by (/-11-/first | omega | (simp only [gz_hd] at *; omega)), by (/-12-/first | omega | (simp only [gz_hd] at *; omega))⟩ x5 (by (/-13-/first | omega | (simp only [gz_hd] at *; omega)))
      obtain ⟨I14, J15, rfl, hI14, g13, k13, ⟨z13, rfl, q13⟩⟩ := P13
      replace q13 := gz_hi q13
      have FI14 := gr_frt FI g13 rfl rfl
      have FJ15 := gr_fjt FJ k13 rfl rfl
      have t17 := gz_hi (g13 0 72 rfl)
      have t18 := gz_hi (g13 0 73 rfl)
      have t19 := gz_hi (g13 0 69 rfl)
      have A26 := gr_ATp_F x5 g13 k13 rfl
      refine gv_callV hD rfl (As := [.inl 5]) (st := []) rfl (by decide) rfl rfl (gr_lV hws rfl) (Nat.le_of_ble_eq_true rfl) (gz_Ev_mono (d := 2) (by decide) E13) ?_
      show gv_X _ _ (54, [(0, .inr (.inr (some 0))), (1, .inl a1)], [.inl z13], gr_sh ++ ext, gr_h I14 J15)
      have b28 : (I14 0 69 = I 0 69) ∧ (I 0 73 ≤ I14 0 73) ∧ (I 0 72 ≤ I14 0 72) := by (/-14-/first | (and_intros; (have o1 := gz_sh t19; omega); (have o1 := gz_sh t18; omega); (have o1 := gz_sh t17; omega)) | (simp only [gz_hd] at *; omega))
      exact gv_zret hD rfl (by (/-15-/first | (have o1 := gz_sh q13; omega) | (simp only [gz_hd] at *; omega))) ⟨I14, J15, rfl, hI14, FI14, FJ15, ⟨_, rfl, by (/-16-/first | (have o1 := gz_sh q13; omega) | (simp only [gz_hd] at *; omega)), by (/-17-/first | (have o1 := gz_sh q13; omega) | (simp only [gz_hd] at *; omega)), (gr_ATp_rr A26).1, (gr_ATp_rr A26).2.1, (gr_ATp_rr A26).2.2.1, (gr_ATp_rr A26).2.2.2.1, (gr_ATp_rr A26).2.2.2.2, b28.1, b28.2.1, b28.2.2, (Or.inr ⟨by (/-18-/first | (have o1 := gz_sh q13; omega) | (simp only [gz_hd] at *; omega)), by unfold gs_ao; (repeat first | rw [if_pos (by (/-19-/first | (have o1 := gz_sh t10; omega) | (simp only [gz_hd] at *; omega)))] | rw [if_neg (by (/-20-/first | omega | (simp only [gz_hd] at *; omega)))]); exact ⟨by (/-21-/first | (have o1 := gz_sh f2; omega) | (simp only [gz_hd] at *; omega)), by (/-22-/first | (have o1 := gz_sh q13; omega) | (simp only [gz_hd] at *; omega))⟩⟩)⟩⟩
    · have f29 := gz_hi ((gr_b_0_74 hI))
      have f30 := gz_hi ((gr_b_6 hI (Int.toNat a1)))
      refine gv_run 6 true hD (pcₚ := 32) (lvₚ := [(0, .inr (.inr (some 0))), (1, .inl a1)]) (stₚ := [.inl (I 6 (Int.toNat a1)), .inl (I 0 74)]) (hₚ := gr_h I J) (C := ((((((True ∧ True) ∧ True) ∧ True) ∧ True) ∧ True) ∧ (0 ≤ a1 ∧ a1 < ((96 : Nat) : Int)))) rfl ⟨⟨⟨⟨⟨⟨trivial, trivial⟩, trivial⟩, trivial⟩, trivial⟩, trivial⟩, ⟨by (/-23-/first | omega | (simp only [gz_hd] at *; omega)), by (/-24-/first | omega | (simp only [gz_hd] at *; omega))⟩⟩ ?_
      refine gv_icmp_gt (t := 49) hD rfl rfl ⟨⟨by (/-25-/first | omega | (simp only [gz_hd] at *; omega)), by (/-26-/first | (have o1 := gz_sh f5; omega) | (simp only [gz_hd] at *; omega))⟩, ⟨by (/-27-/first | (have o1 := gz_sh f30; omega) | (simp only [gz_hd] at *; omega)), by (/-28-/first | (have o1 := gz_sh f30; omega) | (simp only [gz_hd] at *; omega))⟩⟩ (fun c31 => ?_) (fun c31 => ?_)
      · refine gv_run 2 true hD (pcₚ := 51) (lvₚ := [(0, .inr (.inr (some 0))), (1, .inl a1)]) (stₚ := [.inl 5, .inr (.inr (some 0))]) (hₚ := gr_h I J) (C := ((True ∧ True) ∧ True)) rfl ⟨⟨trivial, trivial⟩, trivial⟩ ?_
        obtain ⟨r32, h32, E32, P32⟩ := r_no__p (ws0 := ws0) (tb := tb) hws htb ext β N9 p9 I J hI 5 ⟨by (/-29-/first | omega | (simp only [gz_hd] at *; omega)), by (/-30-/first | omega | (simp only [gz_hd] at *; omega))⟩ x5 (by (/-31-/first | omega | (simp only [gz_hd] at *; omega)))
        obtain ⟨I33, J34, rfl, hI33, g32, k32, ⟨z32, rfl, q32⟩⟩ := P32
        replace q32 := gz_hi q32
        have FI33 := gr_frt FI g32 rfl rfl
        have FJ34 := gr_fjt FJ k32 rfl rfl
        have t36 := gz_hi (g32 0 72 rfl)
        have t37 := gz_hi (g32 0 73 rfl)
        have t38 := gz_hi (g32 0 69 rfl)
        have t39 := gz_hi (g32 0 74 rfl)
        have A45 := gr_ATp_F x5 g32 k32 rfl
        refine gv_callV hD rfl (As := [.inl 5]) (st := []) rfl (by decide) rfl rfl (gr_lV hws rfl) (Nat.le_of_ble_eq_true rfl) (gz_Ev_mono (d := 2) (by decide) E32) ?_
        show gv_X _ _ (54, [(0, .inr (.inr (some 0))), (1, .inl a1)], [.inl z32], gr_sh ++ ext, gr_h I33 J34)
        have b47 : (I33 0 69 = I 0 69) ∧ (I 0 73 ≤ I33 0 73) ∧ (I 0 72 ≤ I33 0 72) := by (/-32-/first | (and_intros; (have o1 := gz_sh t38; omega); (have o1 := gz_sh t37; omega); (have o1 := gz_sh t36; omega)) | (simp only [gz_hd] at *; omega))
        exact gv_zret hD rfl (by (/-33-/first | (have o1 := gz_sh q32; omega) | (simp only [gz_hd] at *; omega))) ⟨I33, J34, rfl, hI33, FI33, FJ34, ⟨_, rfl, by (/-34-/first | (have o1 := gz_sh q32; omega) | (simp only [gz_hd] at *; omega)), by (/-35-/first | (have o1 := gz_sh q32; omega) | (simp only [gz_hd] at *; omega)), (gr_ATp_rr A45).1, (gr_ATp_rr A45).2.1, (gr_ATp_rr A45).2.2.1, (gr_ATp_rr A45).2.2.2.1, (gr_ATp_rr A45).2.2.2.2, b47.1, b47.2.1, b47.2.2, (Or.inr ⟨by (/-36-/first | (have o1 := gz_sh q32; omega) | (simp only [gz_hd] at *; omega)), by unfold gs_ao; (repeat first | rw [if_pos (by (/-37-/first | (have o1 := gz_sh t10; omega) | (simp only [gz_hd] at *; omega)))] | rw [if_neg (by (/-38-/first | omega | (simp only [gz_hd] at *; omega)))]); exact ⟨by (/-39-/first | (have o1 := gz_sh f2; omega) | (simp only [gz_hd] at *; omega)), by (/-40-/first | (have o1 := gz_sh q32; omega) | (simp only [gz_hd] at *; omega))⟩⟩)⟩⟩
      · have f48 := gz_hi ((gr_b_0_74 hI))
        have f49 := gz_hi ((gr_b_74 hI (Int.toNat (((I 0 74) - 1)))))
        refine gv_run 7 true hD (pcₚ := 46) (lvₚ := [(0, .inr (.inr (some 0))), (1, .inl a1)]) (stₚ := [.inl (I 74 (Int.toNat (((I 0 74) - 1))))]) (hₚ := gr_h I J) (C := (((((((True ∧ True) ∧ True) ∧ True) ∧ True) ∧ True) ∧ True) ∧ (0 ≤ (((I 0 74) - 1)) ∧ (((I 0 74) - 1)) < ((4 : Nat) : Int)))) rfl ⟨⟨⟨⟨⟨⟨⟨trivial, trivial⟩, trivial⟩, trivial⟩, trivial⟩, trivial⟩, trivial⟩, ⟨by (/-41-/first | omega | (simp only [gz_hd] at *; omega)), by (/-42-/first | (have o1 := gz_sh f30; omega) | (simp only [gz_hd] at *; omega))⟩⟩ ?_
        have t50 := gz_hi ((show gs_a4 (I 74) (Int.toNat (gs_V β N9 p9 - 1)) = I 74 (Int.toNat (I 0 74 - 1)) from by rw [show gs_V β N9 p9 = I 0 74 from by (/-43-/first | (have o1 := gz_sh t10; omega) | (simp only [gz_hd] at *; omega))]; exact gs_a4_i (by (/-44-/first | (have o1 := gz_sh f30; have o2 := gz_sh f5; have o3 := gz_sh t10; omega) | (simp only [gz_hd] at *; omega)))))
        refine gv_if_ge (t := 55) hD rfl rfl ⟨by (/-45-/first | (have o1 := gz_sh f49; omega) | (simp only [gz_hd] at *; omega)), by (/-46-/first | (have o1 := gz_sh f49; omega) | (simp only [gz_hd] at *; omega))⟩ (fun c51 => ?_) (fun c51 => ?_)
        · have f52 := gz_hi ((gr_b_0_74 hI))
          refine gv_run 5 true hD (pcₚ := 62) (lvₚ := [(0, .inr (.inr (some 0))), (1, .inl a1)]) (stₚ := [.inl ((I 0 74) - 1), .inr (.inr (some 0))]) (hₚ := gr_h I J) (C := (((((True ∧ True) ∧ True) ∧ True) ∧ True) ∧ True)) rfl ⟨⟨⟨⟨⟨trivial, trivial⟩, trivial⟩, trivial⟩, trivial⟩, trivial⟩ ?_
          refine gv_run 1 true hD (pcₚ := 65) (lvₚ := [(0, .inr (.inr (some 0))), (1, .inl a1)]) (stₚ := []) (hₚ := gz_up (gr_h I J) 0 120 (.inl (((I 0 74) - 1)))) (C := (True ∧ True)) rfl ⟨trivial, trivial⟩ ?_
          refine gr_st hI FI rfl rfl ⟨⟨by show 0 ≤ _; (/-47-/first | omega | (simp only [gz_hd] at *; omega)), by show _ ≤ 3; (/-48-/first | (have o1 := gz_sh f30; omega) | (simp only [gz_hd] at *; omega))⟩, trivial⟩ (fun I53 hI53 FI53 q54 p54 => ?_)
          have t55 := gz_hi (p54 0 71 (by decide))
          have t56 := gz_hi (p54 0 72 (by decide))
          have t57 := gz_hi (p54 0 73 (by decide))
          have t58 := gz_hi (p54 0 69 (by decide))
          have t59 := gz_hi (p54 0 74 (by decide))
          have A65 := gr_ATp_sf x5 p54 rfl
          refine gv_run 1 true hD (pcₚ := 66) (lvₚ := [(0, .inr (.inr (some 0))), (1, .inl a1)]) (stₚ := [.inr (.inr (some 0))]) (hₚ := gr_h I53 J) (C := (True ∧ True)) rfl ⟨trivial, trivial⟩ ?_
          obtain ⟨r66, h66, E66, P66⟩ := r_next_p (ws0 := ws0) (tb := tb) hws htb ext β N9 I53 J hI53   ((gr_ATp_rr A65).1.resolve_left (by (/-49-/first | (have o1 := gz_sh t55; omega) | (simp only [gz_hd] at *; omega)))) A65.1.1 A65.1.2
          obtain ⟨I67, J68, rfl, hI67, g66, k66, ⟨rfl, q66⟩⟩ := P66
          replace q66 := gz_hi q66
          have FI67 := gr_frt FI53 g66 rfl rfl
          have FJ68 := gr_fjt FJ k66 rfl rfl
          have t69 := gz_hi (g66 0 69 rfl)
          have A76 := gr_ATp_nx A65 (gz_sh q66).2.2.2.2.2
          have t77 := gz_hi (gr_ATp_l A76)
          obtain ⟨_, _, -, -, -, -⟩ := (gz_sh q66)
          refine gv_callV hD rfl (As := []) (st := []) rfl (by decide) rfl rfl (gr_lV hws rfl) (Nat.le_of_ble_eq_true rfl) (gz_Ev_mono (d := 10) (by decide) E66) ?_
          show gv_X _ _ (69, [(0, .inr (.inr (some 0))), (1, .inl a1)], [], gr_sh ++ ext, gr_h I67 J68)
          refine gv_run 1 true hD (pcₚ := 70) (lvₚ := [(0, .inr (.inr (some 0))), (1, .inl a1)]) (stₚ := [.inl 1]) (hₚ := gr_h I67 J68) (C := (True ∧ True)) rfl ⟨trivial, trivial⟩ ?_
          have b78 : (I67 0 69 = I 0 69) ∧ (I 0 73 ≤ I67 0 73) ∧ (I 0 72 ≤ I67 0 72) := by (/-51-/first | (and_intros; (have o1 := gz_sh t58; have o2 := gz_sh t69; omega); (have o1 := gz_sh t57; omega); (have o1 := gz_sh t57; have o2 := gz_sh t9; omega)) | (simp only [gz_hd] at *; omega))
          exact gv_zret hD rfl (by (/-52-/first | omega | (simp only [gz_hd] at *; omega))) ⟨I67, J68, rfl, hI67, FI67, FJ68, ⟨_, rfl, by (/-53-/first | omega | (simp only [gz_hd] at *; omega)), by (/-54-/first | omega | (simp only [gz_hd] at *; omega)), (gr_ATp_rr A76).1, (gr_ATp_rr A76).2.1, (gr_ATp_rr A76).2.2.1, (gr_ATp_rr A76).2.2.2.1, (gr_ATp_rr A76).2.2.2.2, b78.1, b78.2.1, b78.2.2, (Or.inl ⟨by (/-55-/first | omega | (simp only [gz_hd] at *; omega)), by have e9 : (gs_ao β N9 (I 6 (Int.toNat a1)) (gs_a4 (I 74)) p9) = (gs_X β N9 p9) := (by unfold gs_ao; (repeat first | rw [if_pos (by (/-56-/first | (have o1 := gz_sh t8; omega) | (simp only [gz_hd] at *; omega)))] | rw [if_neg (by (/-57-/first | (have o1 := gz_sh f49; have o2 := gz_sh f5; have o3 := gz_sh t10; have o4 := gz_sh t50; have o5 := gz_sh t59; omega) | (simp only [gz_hd] at *; omega)))])); rw [e9]; exact ⟨by (/-58-/first | (have o1 := gz_sh f3; omega) | (simp only [gz_hd] at *; omega)), A76⟩⟩)⟩⟩
        · refine gv_run 2 true hD (pcₚ := 51) (lvₚ := [(0, .inr (.inr (some 0))), (1, .inl a1)]) (stₚ := [.inl 5, .inr (.inr (some 0))]) (hₚ := gr_h I J) (C := ((True ∧ True) ∧ True)) rfl ⟨⟨trivial, trivial⟩, trivial⟩ ?_
          obtain ⟨r79, h79, E79, P79⟩ := r_no__p (ws0 := ws0) (tb := tb) hws htb ext β N9 p9 I J hI 5 ⟨by (/-59-/first | omega | (simp only [gz_hd] at *; omega)), by (/-60-/first | omega | (simp only [gz_hd] at *; omega))⟩ x5 (by (/-61-/first | omega | (simp only [gz_hd] at *; omega)))
          obtain ⟨I80, J81, rfl, hI80, g79, k79, ⟨z79, rfl, q79⟩⟩ := P79
          replace q79 := gz_hi q79
          have FI80 := gr_frt FI g79 rfl rfl
          have FJ81 := gr_fjt FJ k79 rfl rfl
          have t83 := gz_hi (g79 0 72 rfl)
          have t84 := gz_hi (g79 0 73 rfl)
          have t85 := gz_hi (g79 0 69 rfl)
          have A92 := gr_ATp_F x5 g79 k79 rfl
          refine gv_callV hD rfl (As := [.inl 5]) (st := []) rfl (by decide) rfl rfl (gr_lV hws rfl) (Nat.le_of_ble_eq_true rfl) (gz_Ev_mono (d := 2) (by decide) E79) ?_
          show gv_X _ _ (54, [(0, .inr (.inr (some 0))), (1, .inl a1)], [.inl z79], gr_sh ++ ext, gr_h I80 J81)
          have b94 : (I80 0 69 = I 0 69) ∧ (I 0 73 ≤ I80 0 73) ∧ (I 0 72 ≤ I80 0 72) := by (/-62-/first | (and_intros; (have o1 := gz_sh t85; omega); (have o1 := gz_sh t84; omega); (have o1 := gz_sh t83; omega)) | (simp only [gz_hd] at *; omega))
          exact gv_zret hD rfl (by (/-63-/first | (have o1 := gz_sh q79; omega) | (simp only [gz_hd] at *; omega))) ⟨I80, J81, rfl, hI80, FI80, FJ81, ⟨_, rfl, by (/-64-/first | (have o1 := gz_sh q79; omega) | (simp only [gz_hd] at *; omega)), by (/-65-/first | (have o1 := gz_sh q79; omega) | (simp only [gz_hd] at *; omega)), (gr_ATp_rr A92).1, (gr_ATp_rr A92).2.1, (gr_ATp_rr A92).2.2.1, (gr_ATp_rr A92).2.2.2.1, (gr_ATp_rr A92).2.2.2.2, b94.1, b94.2.1, b94.2.2, (Or.inr ⟨by (/-66-/first | (have o1 := gz_sh q79; omega) | (simp only [gz_hd] at *; omega)), by unfold gs_ao; (repeat first | rw [if_pos (by (/-67-/first | (have o1 := gz_sh t50; omega) | (simp only [gz_hd] at *; omega)))] | rw [if_neg (by (/-68-/first | omega | (simp only [gz_hd] at *; omega)))]); exact ⟨by (/-69-/first | (have o1 := gz_sh f2; omega) | (simp only [gz_hd] at *; omega)), by (/-70-/first | (have o1 := gz_sh q79; omega) | (simp only [gz_hd] at *; omega))⟩⟩)⟩⟩
  · have t95 := gz_hi (gr_ATp_ne x5 (c := 2) (by (/-71-/first | (and_intros <;> omega) | (simp only [gz_hd] at *; omega))) (by (/-72-/first | omega | (simp only [gz_hd] at *; omega))))
    refine gv_run 2 true hD (pcₚ := 10) (lvₚ := [(0, .inr (.inr (some 0))), (1, .inl a1)]) (stₚ := [.inl 1, .inr (.inr (some 0))]) (hₚ := gr_h I J) (C := ((True ∧ True) ∧ True)) rfl ⟨⟨trivial, trivial⟩, trivial⟩ ?_
    obtain ⟨r96, h96, E96, P96⟩ := r_no__p (ws0 := ws0) (tb := tb) hws htb ext β N9 p9 I J hI 1 ⟨by (/-73-/first | omega | (simp only [gz_hd] at *; omega)), by (/-74-/first | omega | (simp only [gz_hd] at *; omega))⟩ x5 (by (/-75-/first | omega | (simp only [gz_hd] at *; omega)))
    obtain ⟨I97, J98, rfl, hI97, g96, k96, ⟨z96, rfl, q96⟩⟩ := P96
    replace q96 := gz_hi q96
    have FI97 := gr_frt FI g96 rfl rfl
    have FJ98 := gr_fjt FJ k96 rfl rfl
    have t100 := gz_hi (g96 0 72 rfl)
    have t101 := gz_hi (g96 0 73 rfl)
    have t102 := gz_hi (g96 0 69 rfl)
    have A109 := gr_ATp_F x5 g96 k96 rfl
    refine gv_callV hD rfl (As := [.inl 1]) (st := []) rfl (by decide) rfl rfl (gr_lV hws rfl) (Nat.le_of_ble_eq_true rfl) (gz_Ev_mono (d := 2) (by decide) E96) ?_
    show gv_X _ _ (13, [(0, .inr (.inr (some 0))), (1, .inl a1)], [.inl z96], gr_sh ++ ext, gr_h I97 J98)
    have b111 : (I97 0 69 = I 0 69) ∧ (I 0 73 ≤ I97 0 73) ∧ (I 0 72 ≤ I97 0 72) := by (/-76-/first | (and_intros; (have o1 := gz_sh t102; omega); (have o1 := gz_sh t101; omega); (have o1 := gz_sh t100; omega)) | (simp only [gz_hd] at *; omega))
    exact gv_zret hD rfl (by (/-77-/first | (have o1 := gz_sh q96; omega) | (simp only [gz_hd] at *; omega))) ⟨I97, J98, rfl, hI97, FI97, FJ98, ⟨_, rfl, by (/-78-/first | (have o1 := gz_sh q96; omega) | (simp only [gz_hd] at *; omega)), by (/-79-/first | (have o1 := gz_sh q96; omega) | (simp only [gz_hd] at *; omega)), (gr_ATp_rr A109).1, (gr_ATp_rr A109).2.1, (gr_ATp_rr A109).2.2.1, (gr_ATp_rr A109).2.2.2.1, (gr_ATp_rr A109).2.2.2.2, b111.1, b111.2.1, b111.2.2, (Or.inr ⟨by (/-80-/first | (have o1 := gz_sh q96; omega) | (simp only [gz_hd] at *; omega)), by unfold gs_ao; (repeat first | rw [if_pos (by (/-81-/first | omega | (simp only [gz_hd] at *; omega)))] | rw [if_neg (by (/-82-/first | (have o1 := gz_sh t95; omega) | (simp only [gz_hd] at *; omega)))]); exact ⟨by (/-83-/first | (have o1 := gz_sh f2; omega) | (simp only [gz_hd] at *; omega)), by (/-84-/first | (have o1 := gz_sh q96; omega) | (simp only [gz_hd] at *; omega))⟩⟩)⟩⟩
set_option maxHeartbeats 8000000 in
set_option maxRecDepth 100000 in
theorem r_featureOf_p {ws0 : List Cond} {tb : String → gz_T} (hws : ∀ w ∈ gr_ws, w ∈ ws0) (htb : tb RX13 = gr_T) (ext : gz_Sh) (β : Int → Int) (N9 : Int) (p9 : Int) (I : gr_I) (J : gr_J) (hI : gr_Inv I)   (x0 : I 0 71 = 5 ∨ I 0 73 ≤ I 0 69) (x1 : I 0 72 ≤ I 0 69) (x2 : I 0 71 = 0 ∨ (I 0 72 < I 0 73 ∧ I 0 72 < I 0 69)) (x3 : I 0 71 = 3 → 2 ≤ I 0 73 - I 0 72 ∧ I 0 73 - I 0 72 ≤ 14) (x4 : I 0 72 ≤ I 0 73) (x5 : 0 ≤ I 0 6) (x6 : I 0 119 ≤ 5) (x7 : gr_ATp β N9 p9 I J) (x8 : 0 ≤ p9) : ∃ r hₚ, gz_Ev ws0 tb 11 (yX13_featureOf, cX13_featureOf, 2, (some .boolean)) [.inr (.inr (some 0))] (gr_sh ++ ext) (gr_h I J) r (gr_sh ++ ext) hₚ 0 0 ∧ (∃ (Iₚ : gr_I) (Jₚ : gr_J), hₚ = gr_h Iₚ Jₚ ∧ gr_Inv Iₚ ∧ gr_fr [71, 72, 73, 74, 75, 76, 77] [73] I Iₚ ∧ gr_fj [71, 72, 73, 74, 75, 76, 77] [73] J Jₚ ∧ (∃ z : Int, r = some (.inl z) ∧ 0 ≤ z ∧ z ≤ 1 ∧ (Iₚ 0 71 = 5 ∨ Iₚ 0 73 ≤ Iₚ 0 69) ∧ (Iₚ 0 72 ≤ Iₚ 0 69) ∧ (Iₚ 0 71 = 0 ∨ (Iₚ 0 72 < Iₚ 0 73 ∧ Iₚ 0 72 < Iₚ 0 69)) ∧ (Iₚ 0 71 = 3 → 2 ≤ Iₚ 0 73 - Iₚ 0 72 ∧ Iₚ 0 73 - Iₚ 0 72 ≤ 14) ∧ (Iₚ 0 72 ≤ Iₚ 0 73) ∧ (Iₚ 0 69 = I 0 69) ∧ (I 0 73 ≤ Iₚ 0 73) ∧ (I 0 72 ≤ Iₚ 0 72) ∧ (gs_Or z (0 ≤ (gs_fo β N9 I J p9) ∧ gr_ATp β N9 (gs_fo β N9 I J p9) Iₚ Jₚ) ((gs_fo β N9 I J p9) < 0 ∧ Iₚ 0 77 = -1 - (gs_fo β N9 I J p9))))) := by
  have FI : gr_fr [71, 72, 73, 74, 75, 76, 77] [73] I I := fun _ _ _ => rfl
  have FJ : gr_fj [71, 72, 73, 74, 75, 76, 77] [73] J J := fun _ _ _ => rfl
  have hD : gv_D (gr_E ws0 tb 10 (yX13_featureOf, cX13_featureOf, 2, (some .boolean)) kX13_featureOf) := gq_of oX13_featureOf
  refine gr_ev (d := 10) (l := kX13_featureOf) (Po := fun r hₚ => (∃ (Iₚ : gr_I) (Jₚ : gr_J), hₚ = gr_h Iₚ Jₚ ∧ gr_Inv Iₚ ∧ gr_fr [71, 72, 73, 74, 75, 76, 77] [73] I Iₚ ∧ gr_fj [71, 72, 73, 74, 75, 76, 77] [73] J Jₚ ∧ (∃ z : Int, r = some (.inl z) ∧ 0 ≤ z ∧ z ≤ 1 ∧ (Iₚ 0 71 = 5 ∨ Iₚ 0 73 ≤ Iₚ 0 69) ∧ (Iₚ 0 72 ≤ Iₚ 0 69) ∧ (Iₚ 0 71 = 0 ∨ (Iₚ 0 72 < Iₚ 0 73 ∧ Iₚ 0 72 < Iₚ 0 69)) ∧ (Iₚ 0 71 = 3 → 2 ≤ Iₚ 0 73 - Iₚ 0 72 ∧ Iₚ 0 73 - Iₚ 0 72 ≤ 14) ∧ (Iₚ 0 72 ≤ Iₚ 0 73) ∧ (Iₚ 0 69 = I 0 69) ∧ (I 0 73 ≤ Iₚ 0 73) ∧ (I 0 72 ≤ Iₚ 0 72) ∧ (gs_Or z (0 ≤ (gs_fo β N9 I J p9) ∧ gr_ATp β N9 (gs_fo β N9 I J p9) Iₚ Jₚ) ((gs_fo β N9 I J p9) < 0 ∧ Iₚ 0 77 = -1 - (gs_fo β N9 I J p9)))))) htb rfl (Nat.le_of_ble_eq_true rfl) ?_
  have tAT := gr_ATp_l x7
  clear x0 x2 x3
  have f2 := gz_hi ((gr_b_0_72 hI))
  have f3 := gz_hi ((gr_b_0_73 hI))
  have f5 := gz_hi ((gr_b_0_6 hI))
  have f6 := gz_hi ((gr_b_0_119 hI))
  refine gv_run 1 true hD (pcₚ := 1) (lvₚ := [(0, .inr (.inr (some 0)))]) (stₚ := [.inr (.inr (some 0))]) (hₚ := gr_h I J) (C := (True ∧ True)) rfl ⟨trivial, trivial⟩ ?_
  obtain ⟨r7, h7, E7, P7⟩ := r_name_p (ws0 := ws0) (tb := tb) hws htb ext β N9 p9 I J hI   x7 (by (/-0-/first | omega | (simp only [gz_hd] at *; omega)))
  obtain ⟨I8, J9, rfl, hI8, g7, k7, ⟨z7, rfl, q7⟩⟩ := P7
  replace q7 := gz_hi q7
  have FI8 := gr_frt FI g7 rfl rfl
  have FJ9 := gr_fjt FJ k7 rfl rfl
  have t10 := gz_hi (g7 0 71 rfl)
  have t11 := gz_hi (g7 0 72 rfl)
  have t12 := gz_hi (g7 0 73 rfl)
  have t13 := gz_hi (g7 0 69 rfl)
  have t14 := gz_hi (g7 0 6 rfl)
  have t15 := gz_hi (g7 0 119 rfl)
  have V7 := gs_or_mk (gz_sh q7).2.2.2
  have A22 := gr_ATp_F x7 g7 k7 rfl
  obtain ⟨_, _, o7, -⟩ := (gz_sh q7)
  refine gv_callV hD rfl (As := []) (st := []) rfl (by decide) rfl rfl (gr_lV hws rfl) (Nat.le_of_ble_eq_true rfl) (gz_Ev_mono (d := 3) (by decide) E7) ?_
  show gv_X _ _ (4, [(0, .inr (.inr (some 0)))], [.inl z7], gr_sh ++ ext, gr_h I8 J9)
  refine gv_if_ne (t := 9) hD rfl rfl ⟨by (/-1-/first | omega | (simp only [gz_hd] at *; omega)), by (/-2-/first | omega | (simp only [gz_hd] at *; omega))⟩ (fun c24 => ?_) (fun c24 => ?_)
  · have u25 := gs_or1 V7 (by (/-3-/first | omega | (simp only [gz_hd] at *; omega)))
    have t26 := gz_hi (o7.resolve_left (by (/-4-/first | omega | (simp only [gz_hd] at *; omega))))
    have t27 := gz_hi ((gr_ATp_rr A22).2.2.1.resolve_left (by (/-5-/first | (have o1 := gz_sh t10; have o2 := gz_sh t26; omega) | (simp only [gz_hd] at *; omega))))
    clear o7 V7
    refine gv_run 7 true hD (pcₚ := 21) (lvₚ := [(0, .inr (.inr (some 0)))]) (stₚ := [.inr (.inr (some 0)), .inl (8 * (I8 0 6)), .inr (.inr (some 20))]) (hₚ := gr_h I8 J9) (C := (((((((True ∧ True) ∧ True) ∧ True) ∧ True) ∧ True) ∧ True) ∧ True)) rfl ⟨⟨⟨⟨⟨⟨⟨trivial, trivial⟩, trivial⟩, trivial⟩, trivial⟩, trivial⟩, trivial⟩, trivial⟩ ?_
    have f30 := gz_hi ((gr_b_13 hI8 (Int.toNat ((I8 0 6)))))
    refine gv_run 4 true hD (pcₚ := 29) (lvₚ := [(0, .inr (.inr (some 0)))]) (stₚ := [.inl (I8 13 (Int.toNat ((I8 0 6)))), .inl (8 * (I8 0 6)), .inr (.inr (some 20))]) (hₚ := gr_h I8 J9) (C := ((((True ∧ True) ∧ True) ∧ True) ∧ (0 ≤ (I8 0 6) ∧ (I8 0 6) < ((8 : Nat) : Int)))) rfl ⟨⟨⟨⟨trivial, trivial⟩, trivial⟩, trivial⟩, ⟨by (/-6-/first | (have o1 := gz_sh t14; omega) | (simp only [gz_hd] at *; omega)), by (/-7-/first | (have o1 := gz_sh f5; have o2 := gz_sh t14; omega) | (simp only [gz_hd] at *; omega))⟩⟩ ?_
    refine gv_run 2 true hD (pcₚ := 33) (lvₚ := [(0, .inr (.inr (some 0)))]) (stₚ := [.inr (.inl (J9 0 75)), .inl (I8 13 (Int.toNat ((I8 0 6)))), .inl (8 * (I8 0 6)), .inr (.inr (some 20))]) (hₚ := gr_h I8 J9) (C := ((True ∧ True) ∧ True)) rfl ⟨⟨trivial, trivial⟩, trivial⟩ ?_
    obtain ⟨r31, h31, E31, P31⟩ := r_find_20_p (ws0 := ws0) (tb := tb) hws htb ext I8 J9 hI8 ((8 * (I8 0 6))) ((I8 13 (Int.toNat ((I8 0 6))))) (J9 0 75) ⟨by (/-8-/first | (have o1 := gz_sh t14; omega) | (simp only [gz_hd] at *; omega)), by (/-9-/first | (have o1 := gz_sh f5; have o2 := gz_sh t14; omega) | (simp only [gz_hd] at *; omega))⟩ ⟨by (/-10-/first | (have o1 := gz_sh f30; omega) | (simp only [gz_hd] at *; omega)), by (/-11-/first | (have o1 := gz_sh f30; omega) | (simp only [gz_hd] at *; omega))⟩ (by (/-12-/first | (have o1 := gz_sh f30; have o2 := gz_sh f5; have o3 := gz_sh t14; omega) | (simp only [gz_hd] at *; omega)))
    obtain ⟨rfl, ⟨z31, rfl, q31⟩⟩ := P31
    replace q31 := gz_hi q31
    have t32 := gz_hi ((gz_sh q31).2.2.2.trans (gs_lt_eq (J := J) (row := 20) (o := 8 * I 0 6) (n := I 13 (Int.toNat (I 0 6))) (w := gs_rn β N9 p9) (fun k => (FJ9 20 k rfl)) (by (/-13-/first | (have o1 := gz_sh t14; omega) | (simp only [gz_hd] at *; omega))) (by first | exact (FI8 13 _ rfl) | (rw [show ((I8 0 6)) = I 0 6 from by (/-14-/first | (have o1 := gz_sh t14; omega) | (simp only [gz_hd] at *; omega))]; exact (FI8 13 _ rfl))) (gr_ATp_w A22)))
    refine gv_callS hD rfl (As := [.inr (.inr (some 20)), .inl (8 * (I8 0 6)), .inl (I8 13 (Int.toNat ((I8 0 6)))), .inr (.inl (J9 0 75))]) (st := []) rfl (gr_lS hws rfl) (Nat.le_of_ble_eq_true rfl) (gz_Ev_mono (d := 1) (by decide) E31) ?_
    show gv_X _ _ (36, [(0, .inr (.inr (some 0)))], [.inl z31], gr_sh ++ ext, gr_h I8 J9)
    refine gv_run 2 true hD (pcₚ := 38) (lvₚ := [(1, .inl z31), (0, .inr (.inr (some 0)))]) (stₚ := [.inl z31]) (hₚ := gr_h I8 J9) (C := ((True ∧ True) ∧ True)) rfl ⟨⟨trivial, trivial⟩, trivial⟩ ?_
    refine gv_if_ge (t := 47) hD rfl rfl ⟨by (/-15-/first | (have o1 := gz_sh q31; omega) | (simp only [gz_hd] at *; omega)), by (/-16-/first | (have o1 := gz_sh q31; omega) | (simp only [gz_hd] at *; omega))⟩ (fun c33 => ?_) (fun c33 => ?_)
    · have f34 := gz_hi ((gr_b_0_119 hI8))
      refine gv_run 5 true hD (pcₚ := 56) (lvₚ := [(1, .inl z31), (0, .inr (.inr (some 0)))]) (stₚ := [.inl z31, .inl (I8 0 119), .inr (.inr (some 73))]) (hₚ := gr_h I8 J9) (C := (((((True ∧ True) ∧ True) ∧ True) ∧ True) ∧ True)) rfl ⟨⟨⟨⟨⟨trivial, trivial⟩, trivial⟩, trivial⟩, trivial⟩, trivial⟩ ?_
      refine gv_run 1 true hD (pcₚ := 57) (lvₚ := [(1, .inl z31), (0, .inr (.inr (some 0)))]) (stₚ := []) (hₚ := gz_up (gr_h I8 J9) 73 (Int.toNat ((I8 0 119))) (.inl z31)) (C := (True ∧ (0 ≤ (I8 0 119) ∧ (I8 0 119) < ((6 : Nat) : Int)))) rfl ⟨trivial, ⟨by (/-17-/first | (have o1 := gz_sh f6; have o2 := gz_sh t15; omega) | (simp only [gz_hd] at *; omega)), by (/-18-/first | (have o1 := gz_sh t15; omega) | (simp only [gz_hd] at *; omega))⟩⟩ ?_
      refine gr_st hI8 FI8 rfl rfl ⟨⟨by show 0 ≤ _; (/-19-/first | omega | (simp only [gz_hd] at *; omega)), by show _ ≤ 7; (/-20-/first | (have o1 := gz_sh f30; have o2 := gz_sh q31; omega) | (simp only [gz_hd] at *; omega))⟩, trivial⟩ (fun I35 hI35 FI35 q36 p36 => ?_)
      have t37 := gz_hi (p36 0 71 (fun q => absurd q.1 (by first | exact gz_ne rfl | decide)))
      have t38 := gz_hi (p36 0 72 (fun q => absurd q.1 (by first | exact gz_ne rfl | decide)))
      have t39 := gz_hi (p36 0 73 (fun q => absurd q.1 (by first | exact gz_ne rfl | decide)))
      have t40 := gz_hi (p36 0 69 (fun q => absurd q.1 (by first | exact gz_ne rfl | decide)))
      have A49 := gr_ATp_sr A22 p36 rfl
      refine gv_run 1 true hD (pcₚ := 58) (lvₚ := [(1, .inl z31), (0, .inr (.inr (some 0)))]) (stₚ := [.inr (.inr (some 0))]) (hₚ := gr_h I35 J9) (C := (True ∧ True)) rfl ⟨trivial, trivial⟩ ?_
      obtain ⟨r50, h50, E50, P50⟩ := r_next_p (ws0 := ws0) (tb := tb) hws htb ext β N9 I35 J9 hI35   ((gr_ATp_rr A49).1.resolve_left (by (/-21-/first | (have o1 := gz_sh t10; have o2 := gz_sh t26; have o3 := gz_sh t37; omega) | (simp only [gz_hd] at *; omega)))) A49.1.1 A49.1.2
      obtain ⟨I51, J52, rfl, hI51, g50, k50, ⟨rfl, q50⟩⟩ := P50
      replace q50 := gz_hi q50
      have FI51 := gr_frt FI35 g50 rfl rfl
      have FJ52 := gr_fjt FJ9 k50 rfl rfl
      have t53 := gz_hi (g50 0 69 rfl)
      have A63 := gr_ATp_nx A49 (gz_sh q50).2.2.2.2.2
      have t64 := gz_hi (gr_ATp_l A63)
      obtain ⟨_, _, -, -, -, -⟩ := (gz_sh q50)
      refine gv_callV hD rfl (As := []) (st := []) rfl (by decide) rfl rfl (gr_lV hws rfl) (Nat.le_of_ble_eq_true rfl) (gz_Ev_mono (d := 10) (by decide) E50) ?_
      show gv_X _ _ (61, [(1, .inl z31), (0, .inr (.inr (some 0)))], [], gr_sh ++ ext, gr_h I51 J52)
      refine gv_run 1 true hD (pcₚ := 62) (lvₚ := [(1, .inl z31), (0, .inr (.inr (some 0)))]) (stₚ := [.inl 1]) (hₚ := gr_h I51 J52) (C := (True ∧ True)) rfl ⟨trivial, trivial⟩ ?_
      have b65 : (I51 0 69 = I 0 69) ∧ (I 0 73 ≤ I51 0 73) ∧ (I 0 72 ≤ I51 0 72) := by (/-23-/first | (and_intros; (have o1 := gz_sh t13; have o2 := gz_sh t40; have o3 := gz_sh t53; omega); (have o1 := gz_sh t12; have o2 := gz_sh t39; omega); (have o1 := gz_sh t11; have o2 := gz_sh t27; have o3 := gz_sh t39; omega)) | (simp only [gz_hd] at *; omega))
      exact gv_zret hD rfl (by (/-24-/first | omega | (simp only [gz_hd] at *; omega))) ⟨I51, J52, rfl, hI51, FI51, FJ52, ⟨_, rfl, by (/-25-/first | omega | (simp only [gz_hd] at *; omega)), by (/-26-/first | omega | (simp only [gz_hd] at *; omega)), (gr_ATp_rr A63).1, (gr_ATp_rr A63).2.1, (gr_ATp_rr A63).2.2.1, (gr_ATp_rr A63).2.2.2.1, (gr_ATp_rr A63).2.2.2.2, b65.1, b65.2.1, b65.2.2, (Or.inl ⟨by (/-27-/first | omega | (simp only [gz_hd] at *; omega)), by have e9 : (gs_fo β N9 I J p9) = (gs_X β N9 p9) := (by unfold gs_fo; (repeat first | rw [if_pos (by (/-28-/first | omega | (simp only [gz_hd] at *; omega)))] | rw [if_neg (by (/-29-/first | (have o1 := gz_sh q31; have o2 := gz_sh t32; omega) | (simp only [gz_hd] at *; omega)))])); rw [e9]; exact ⟨by (/-30-/first | (have o1 := gz_sh f3; omega) | (simp only [gz_hd] at *; omega)), A63⟩⟩)⟩⟩
    · refine gv_run 2 true hD (pcₚ := 43) (lvₚ := [(1, .inl z31), (0, .inr (.inr (some 0)))]) (stₚ := [.inl 5, .inr (.inr (some 0))]) (hₚ := gr_h I8 J9) (C := ((True ∧ True) ∧ True)) rfl ⟨⟨trivial, trivial⟩, trivial⟩ ?_
      obtain ⟨r66, h66, E66, P66⟩ := r_no__p (ws0 := ws0) (tb := tb) hws htb ext β N9 p9 I8 J9 hI8 5 ⟨by (/-31-/first | omega | (simp only [gz_hd] at *; omega)), by (/-32-/first | omega | (simp only [gz_hd] at *; omega))⟩ A22 (by (/-33-/first | omega | (simp only [gz_hd] at *; omega)))
      obtain ⟨I67, J68, rfl, hI67, g66, k66, ⟨z66, rfl, q66⟩⟩ := P66
      replace q66 := gz_hi q66
      have FI67 := gr_frt FI8 g66 rfl rfl
      have FJ68 := gr_fjt FJ9 k66 rfl rfl
      have t70 := gz_hi (g66 0 72 rfl)
      have t71 := gz_hi (g66 0 73 rfl)
      have t72 := gz_hi (g66 0 69 rfl)
      have A81 := gr_ATp_F A22 g66 k66 rfl
      refine gv_callV hD rfl (As := [.inl 5]) (st := []) rfl (by decide) rfl rfl (gr_lV hws rfl) (Nat.le_of_ble_eq_true rfl) (gz_Ev_mono (d := 2) (by decide) E66) ?_
      show gv_X _ _ (46, [(1, .inl z31), (0, .inr (.inr (some 0)))], [.inl z66], gr_sh ++ ext, gr_h I67 J68)
      have b83 : (I67 0 69 = I 0 69) ∧ (I 0 73 ≤ I67 0 73) ∧ (I 0 72 ≤ I67 0 72) := by (/-34-/first | (and_intros; (have o1 := gz_sh t13; have o2 := gz_sh t72; omega); (have o1 := gz_sh t12; have o2 := gz_sh t71; omega); (have o1 := gz_sh t11; have o2 := gz_sh t70; omega)) | (simp only [gz_hd] at *; omega))
      exact gv_zret hD rfl (by (/-35-/first | (have o1 := gz_sh q66; omega) | (simp only [gz_hd] at *; omega))) ⟨I67, J68, rfl, hI67, FI67, FJ68, ⟨_, rfl, by (/-36-/first | (have o1 := gz_sh q66; omega) | (simp only [gz_hd] at *; omega)), by (/-37-/first | (have o1 := gz_sh q66; omega) | (simp only [gz_hd] at *; omega)), (gr_ATp_rr A81).1, (gr_ATp_rr A81).2.1, (gr_ATp_rr A81).2.2.1, (gr_ATp_rr A81).2.2.2.1, (gr_ATp_rr A81).2.2.2.2, b83.1, b83.2.1, b83.2.2, (Or.inr ⟨by (/-38-/first | (have o1 := gz_sh q66; omega) | (simp only [gz_hd] at *; omega)), by unfold gs_fo; (repeat first | rw [if_pos (by (/-39-/first | (have o1 := gz_sh t32; omega) | (simp only [gz_hd] at *; omega)))] | rw [if_neg (by (/-40-/first | omega | (simp only [gz_hd] at *; omega)))]); exact ⟨by (/-41-/first | (have o1 := gz_sh f2; omega) | (simp only [gz_hd] at *; omega)), by (/-42-/first | (have o1 := gz_sh q66; omega) | (simp only [gz_hd] at *; omega))⟩⟩)⟩⟩
  · have u84 := gs_or0 V7 (by (/-43-/first | omega | (simp only [gz_hd] at *; omega)))
    clear o7 V7
    refine gv_run 1 true hD (pcₚ := 8) (lvₚ := [(0, .inr (.inr (some 0)))]) (stₚ := [.inl 0]) (hₚ := gr_h I8 J9) (C := (True ∧ True)) rfl ⟨trivial, trivial⟩ ?_
    have b85 : (I8 0 69 = I 0 69) ∧ (I 0 73 ≤ I8 0 73) ∧ (I 0 72 ≤ I8 0 72) := by (/-44-/first | (and_intros; (have o1 := gz_sh t13; omega); (have o1 := gz_sh t12; omega); (have o1 := gz_sh t11; omega)) | (simp only [gz_hd] at *; omega))
    exact gv_zret hD rfl (by (/-45-/first | omega | (simp only [gz_hd] at *; omega))) ⟨I8, J9, rfl, hI8, FI8, FJ9, ⟨_, rfl, by (/-46-/first | omega | (simp only [gz_hd] at *; omega)), by (/-47-/first | omega | (simp only [gz_hd] at *; omega)), (gr_ATp_rr A22).1, (gr_ATp_rr A22).2.1, (gr_ATp_rr A22).2.2.1, (gr_ATp_rr A22).2.2.2.1, (gr_ATp_rr A22).2.2.2.2, b85.1, b85.2.1, b85.2.2, (Or.inr ⟨by (/-48-/first | omega | (simp only [gz_hd] at *; omega)), by unfold gs_fo; (repeat first | rw [if_pos (by (/-49-/first | omega | (simp only [gz_hd] at *; omega)))] | rw [if_neg (by (/-50-/first | omega | (simp only [gz_hd] at *; omega)))]); exact ⟨by (/-51-/first | (have o1 := gz_sh f2; omega) | (simp only [gz_hd] at *; omega)), by (/-52-/first | omega | (simp only [gz_hd] at *; omega))⟩⟩)⟩⟩
