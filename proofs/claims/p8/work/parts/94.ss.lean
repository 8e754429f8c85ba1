/-! PARITY: what a LINEARIZATION is made of -/
def gs_a4 (f : Nat → Int) (j : Nat) : Int := if j < 4 then f j else -1
theorem gs_a4_i {f : Nat → Int} {j : Nat} (h : j < 4) : gs_a4 f j = f j := if_pos h
theorem gs_a4_eq {f g : Nat → Int} (h : ∀ j, f j = g j) : gs_a4 f = gs_a4 g := funext fun j => by
  unfold gs_a4
  rw [h]
/-- an argument by its number; nf: how many the function takes, a: where each of them stands -/
def gs_ao (β : Int → Int) (N nf : Int) (a : Nat → Int) (p : Int) : Int := if gs_T β N p = 2 then (if gs_V β N p < 1 ∨ nf < gs_V β N p ∨ a (Int.toNat (gs_V β N p - 1)) < 0 then -1 - gs_A β N p else gs_X β N p) else -1 - gs_A β N p
def gs_fo (β : Int → Int) (N : Int) (I : gr_I) (J : gr_J) (p : Int) : Int := if gs_T β N p = 1 then (if gs_lt J 20 (8 * I 0 6) (I 13 (Int.toNat (I 0 6))) (gs_rn β N p) < 0 then -1 - gs_A β N p else gs_X β N p) else -1 - gs_A β N p
theorem gs_fo_eq {β : Int → Int} {N : Int} {I I' : gr_I} {J J' : gr_J} {p : Int} (h6 : I' 0 6 = I 0 6) (h13 : ∀ k, I' 13 k = I 13 k) (h20 : ∀ k, J' 20 k = J 20 k) : gs_fo β N I' J' p = gs_fo β N I J p := by
  unfold gs_fo
  rw [show gs_lt J' 20 (8 * I' 0 6) (I' 13 (Int.toNat (I' 0 6))) (gs_rn β N p) = gs_lt J 20 (8 * I 0 6) (I 13 (Int.toNat (I 0 6))) (gs_rn β N p) from by
    rw [h13, h6]
    exact gs_lt_eq h20 rfl rfl rfl]
def gs_sa2 (β : Int → Int) (N : Int) (I : gr_I) (J : gr_J) (q : Int) : Int := if q < 0 then q else gs_fo β N I J q
def gs_sa1 (β : Int → Int) (N : Int) (I : gr_I) (J : gr_J) (nf : Int) (a : Nat → Int) (q : Int) : Int := if q < 0 then q else gs_sa2 β N I J (gs_ao β N nf a q)
def gs_sv (β : Int → Int) (N : Int) (I : gr_I) (J : gr_J) (q : Int) : Int := if gs_vl9 β N I J q < 0 then -1 - gs_A β N q else gs_X β N q
def gs_sg (β : Int → Int) (N : Int) (I : gr_I) (J : gr_J) (nf : Int) (a : Nat → Int) (q : Int) : Int := if gs_T β N q = 2 then gs_sa2 β N I J (gs_ao β N nf a q) else if gs_T β N q = 1 then gs_sv β N I J q else -1 - gs_A β N q
def gs_said2 (β : Int → Int) (N : Int) (I : gr_I) (J : gr_J) (nf : Int) (a : Nat → Int) (p : Int) : Int := if gs_kw β N p (gs_W 95) = 1 then gs_sa1 β N I J nf a (gs_ao β N nf a (gs_X β N p)) else gs_sg β N I J nf a (gs_X β N p)
def gs_said1 (β : Int → Int) (N : Int) (I : gr_I) (J : gr_J) (nf ns : Int) (a : Nat → Int) (p : Int) : Int := if ns = 6 then -1 - gs_A β N p else gs_said2 β N I J nf a p
def gs_said (β : Int → Int) (N : Int) (I : gr_I) (J : gr_J) (nf ns : Int) (a : Nat → Int) (p : Int) : Int := if gs_kw β N p (gs_W 95) = 1 ∨ gs_kw β N p (gs_W 96) = 1 then gs_said1 β N I J nf ns a p else -1 - gs_A β N p
/-- a piece: LETTERS, or an argument with the VALUES that are asked of it -/
def gs_it4 (β : Int → Int) (N : Int) (w : Int × Int) : Int := if w.1 < 0 then w.1 else gs_need β N 93 w.1
theorem gs_it4_x {β : Int → Int} {N q k : Int} (h : q < 0) : gs_it4 β N (q, k) = q := if_pos h
theorem gs_it4_e {β : Int → Int} {N q k : Int} (h : ¬ q < 0) : gs_it4 β N (q, k) = gs_need β N 93 q := if_neg h
def gs_it3 (β : Int → Int) (N : Int) (I : gr_I) (J : gr_J) (q : Int) : Int := if gs_T β N q = 91 then (if gs_T β N (gs_X β N q) = 1 then gs_it4 β N (gs_ws β N I J 1002 0 (gs_X β N q)) else -1 - gs_A β N (gs_X β N q)) else q
def gs_it2 (β : Int → Int) (N : Int) (I : gr_I) (J : gr_J) (nf : Int) (a : Nat → Int) (p : Int) : Int := if gs_V β N p - 1 < 0 ∨ nf ≤ gs_V β N p - 1 ∨ 0 ≤ a (Int.toNat (gs_V β N p - 1)) then -1 - gs_A β N p else gs_it3 β N I J (gs_X β N p)
def gs_it (β : Int → Int) (N : Int) (I : gr_I) (J : gr_J) (nf n : Int) (a : Nat → Int) (p : Int) : Int := if n = 6 then -1 - gs_A β N p else if gs_T β N p = 3 then (if gs_X β N p - gs_A β N p - 2 = 0 then -1 - gs_A β N p else gs_X β N p) else gs_it2 β N I J nf a p
/-- where an argument stands -/
def gs_ua (β : Int → Int) (N p : Int) (a : Nat → Int) (j : Nat) : Int := if gs_T β N p = 2 ∧ j = Int.toNat (gs_V β N p - 1) then gs_A β N p else a j
/-- what a piece is: below 0 an argument -/
def gs_ui (β : Int → Int) (N p : Int) (x : Int) : Prop := (gs_T β N p = 3 → 0 ≤ x) ∧ (gs_T β N p = 2 → x = -gs_V β N p)
def gs_Uit (β : Int → Int) (N p : Int) (I I' : gr_I) : Prop := I' 0 118 = I 0 118 + 1 ∧ (∀ j, I' 74 j = gs_ua β N p (I 74) j) ∧ (∀ j, ¬ j = Int.toNat (I 0 118) → I' 68 j = I 68 j) ∧ gs_ui β N p (I' 68 (Int.toNat (I 0 118)))
def gs_Sit (I I' : gr_I) : Prop := I' 0 118 = I 0 118 ∧ ∀ j, I' 74 j = I 74 j ∧ I' 68 j = I 68 j
/-- the piece is laid, its number not yet -/
def gs_Uiv (β : Int → Int) (N p : Int) (I I' : gr_I) : Prop := I' 0 118 = I 0 118 ∧ (∀ j, I' 74 j = gs_ua β N p (I 74) j) ∧ (∀ j, ¬ j = Int.toNat (I 0 118) → I' 68 j = I 68 j) ∧ gs_ui β N p (I' 68 (Int.toNat (I 0 118)))
theorem gs_Uiv_fr {β : Int → Int} {N p : Int} {I I1 I2 : gr_I} (h : gs_Uiv β N p I I1) (h1 : I2 0 118 = I1 0 118) (h2 : ∀ j, I2 74 j = I1 74 j) (h3 : ∀ j, I2 68 j = I1 68 j) : gs_Uiv β N p I I2 := by
  obtain ⟨a, b, c, d⟩ := h
  refine ⟨h1.trans a, fun j => (h2 j).trans (b j), fun j hj => (h3 j).trans (c j hj), ?_⟩
  rw [h3]
  exact d
theorem gs_Uit_mk {β : Int → Int} {N p : Int} {I I1 I2 : gr_I} (h : gs_Uiv β N p I I1) (h1 : I2 0 118 = I1 0 118 + 1) (h2 : ∀ j, I2 74 j = I1 74 j) (h3 : ∀ j, I2 68 j = I1 68 j) : gs_Uit β N p I I2 := by
  obtain ⟨a, b, c, d⟩ := h
  refine ⟨by omega, fun j => (h2 j).trans (b j), fun j hj => (h3 j).trans (c j hj), ?_⟩
  rw [h3]
  exact d
theorem gs_Uiv_l {β : Int → Int} {N p : Int} {I I1 I2 : gr_I} {a : Nat} (h : gs_Sit I I1) (hT : gs_T β N p = 3) (ha : a = Int.toNat (I 0 118)) (pa : ∀ x j, ¬ (x = 68 ∧ j = a) → I2 x j = I1 x j) (h0 : 0 ≤ I2 68 a) : gs_Uiv β N p I I2 := by
  subst ha
  refine ⟨(pa 0 118 (fun q => absurd q.1 (by decide))).trans h.1, fun j => ?_, fun j hj => ?_, fun _ => h0, fun q => by omega⟩
  · unfold gs_ua
    rw [if_neg (by omega), pa 74 j (fun q => absurd q.1 (by decide))]
    exact (h.2 j).1
  · rw [pa 68 j (fun q => hj q.2)]
    exact (h.2 j).2
theorem gs_Uiv_a {β : Int → Int} {N p : Int} {I I1 I2 I3 : gr_I} {a b : Nat} {z : Int} (h : gs_Sit I I1) (hT : gs_T β N p = 2) (ha : a = Int.toNat (gs_V β N p - 1)) (pa : ∀ x j, ¬ (x = 74 ∧ j = a) → I2 x j = I1 x j) (qa : I2 74 a = gs_A β N p) (hb : b = Int.toNat (I 0 118)) (pb : ∀ x j, ¬ (x = 68 ∧ j = b) → I3 x j = I2 x j) (qb : I3 68 b = z) (hz : z = -gs_V β N p) : gs_Uiv β N p I I3 := by
  subst ha hb
  refine ⟨?_, fun j => ?_, fun j hj => ?_, fun q => by omega, fun _ => by rw [qb, hz]⟩
  · rw [pb 0 118 (fun q => absurd q.1 (by decide)), pa 0 118 (fun q => absurd q.1 (by decide))]
    exact h.1
  · unfold gs_ua
    rw [pb 74 j (fun q => absurd q.1 (by decide))]
    by_cases c : j = Int.toNat (gs_V β N p - 1)
    · rw [if_pos ⟨hT, c⟩, c, qa]
    · rw [if_neg (fun q => c q.2), pa 74 j (fun q => c q.2)]
      exact (h.2 j).1
  · rw [pb 68 j (fun q => hj q.2), pa 68 j (fun q => absurd q.1 (by decide))]
    exact (h.2 j).2
set_option maxHeartbeats 8000000 in
set_option maxRecDepth 100000 in
theorem r_argumentOf_p {ws0 : List Cond} {tb : String → gz_T} (hws : ∀ w ∈ gr_ws, w ∈ ws0) (htb : tb RX13 = gr_T) (ext : gz_Sh) (β : Int → Int) (N9 : Int) (p9 : Int) (I : gr_I) (J : gr_J) (hI : gr_Inv I) (a1 : Int) (ha1 : 0 ≤ a1 ∧ a1 ≤ 95) (x0 : I 0 71 = 5 ∨ I 0 73 ≤ I 0 69) (x1 : I 0 72 ≤ I 0 69) (x2 : I 0 71 = 0 ∨ (I 0 72 < I 0 73 ∧ I 0 72 < I 0 69)) (x3 : I 0 71 = 3 → 2 ≤ I 0 73 - I 0 72 ∧ I 0 73 - I 0 72 ≤ 14) (x4 : I 0 72 ≤ I 0 73) (x5 : gr_ATp β N9 p9 I J) (x6 : 0 ≤ p9) : ∃ r h', gz_Ev ws0 tb 11 (yX13_argumentOf, cX13_argumentOf, 2, (some .boolean)) [.inr (.inr (some 0)), .inl a1] (gr_sh ++ ext) (gr_h I J) r (gr_sh ++ ext) h' 0 0 ∧ (∃ (I' : gr_I) (J' : gr_J), h' = gr_h I' J' ∧ gr_Inv I' ∧ gr_fr [71, 72, 73, 74, 75, 76, 77, 120] [] I I' ∧ gr_fj [71, 72, 73, 74, 75, 76, 77, 120] [] J J' ∧ (∃ z : Int, r = some (.inl z) ∧ 0 ≤ z ∧ z ≤ 1 ∧ (I' 0 71 = 5 ∨ I' 0 73 ≤ I' 0 69) ∧ (I' 0 72 ≤ I' 0 69) ∧ (I' 0 71 = 0 ∨ (I' 0 72 < I' 0 73 ∧ I' 0 72 < I' 0 69)) ∧ (I' 0 71 = 3 → 2 ≤ I' 0 73 - I' 0 72 ∧ I' 0 73 - I' 0 72 ≤ 14) ∧ (I' 0 72 ≤ I' 0 73) ∧ (I' 0 69 = I 0 69) ∧ (I 0 73 ≤ I' 0 73) ∧ (I 0 72 ≤ I' 0 72) ∧ (gs_Or z (0 ≤ (gs_ao β N9 (I 6 (Int.toNat a1)) (gs_a4 (I 74)) p9) ∧ gr_ATp β N9 (gs_ao β N9 (I 6 (Int.toNat a1)) (gs_a4 (I 74)) p9) I' J') ((gs_ao β N9 (I 6 (Int.toNat a1)) (gs_a4 (I 74)) p9) < 0 ∧ I' 0 77 = -1 - (gs_ao β N9 (I 6 (Int.toNat a1)) (gs_a4 (I 74)) p9))))) := by
  have FI : gr_fr [71, 72, 73, 74, 75, 76, 77, 120] [] I I := fun _ _ _ => rfl
  have FJ : gr_fj [71, 72, 73, 74, 75, 76, 77, 120] [] J J := fun _ _ _ => rfl
  have hD : gv_D (gr_E ws0 tb 10 (yX13_argumentOf, cX13_argumentOf, 2, (some .boolean)) kX13_argumentOf) := gq_of oX13_argumentOf
  refine gr_ev (d := 10) (l := kX13_argumentOf) (Po := fun r h' => (∃ (I' : gr_I) (J' : gr_J), h' = gr_h I' J' ∧ gr_Inv I' ∧ gr_fr [71, 72, 73, 74, 75, 76, 77, 120] [] I I' ∧ gr_fj [71, 72, 73, 74, 75, 76, 77, 120] [] J J' ∧ (∃ z : Int, r = some (.inl z) ∧ 0 ≤ z ∧ z ≤ 1 ∧ (I' 0 71 = 5 ∨ I' 0 73 ≤ I' 0 69) ∧ (I' 0 72 ≤ I' 0 69) ∧ (I' 0 71 = 0 ∨ (I' 0 72 < I' 0 73 ∧ I' 0 72 < I' 0 69)) ∧ (I' 0 71 = 3 → 2 ≤ I' 0 73 - I' 0 72 ∧ I' 0 73 - I' 0 72 ≤ 14) ∧ (I' 0 72 ≤ I' 0 73) ∧ (I' 0 69 = I 0 69) ∧ (I 0 73 ≤ I' 0 73) ∧ (I 0 72 ≤ I' 0 72) ∧ (gs_Or z (0 ≤ (gs_ao β N9 (I 6 (Int.toNat a1)) (gs_a4 (I 74)) p9) ∧ gr_ATp β N9 (gs_ao β N9 (I 6 (Int.toNat a1)) (gs_a4 (I 74)) p9) I' J') ((gs_ao β N9 (I 6 (Int.toNat a1)) (gs_a4 (I 74)) p9) < 0 ∧ I' 0 77 = -1 - (gs_ao β N9 (I 6 (Int.toNat a1)) (gs_a4 (I 74)) p9)))))) htb rfl (Nat.le_of_ble_eq_true rfl) ?_
  have tAT := gr_ATp_l x5
  clear x0 x2 x3
  have f1 := (gr_b_0_71 hI)
  have f2 := (gr_b_0_72 hI)
  have f3 := (gr_b_0_73 hI)
  have f4 := (gr_b_0_69 hI)
  have f5 := (gr_b_0_74 hI)
  have f6 := (gr_b_0_71 hI)
  refine gv_run 3 true hD (pc' := 5) (lv' := [(0, .inr (.inr (some 0))), (1, .inl a1)]) (st' := [.inl 2, .inl (I 0 71)]) (h' := gr_h I J) (C := (((True ∧ True) ∧ True) ∧ True)) rfl ⟨⟨⟨trivial, trivial⟩, trivial⟩, trivial⟩ ?_
  refine gv_icmp_eq (t := 14) hD rfl rfl ⟨⟨by exact gz_m 0 (by omega), by exact gz_m 1 (by omega)⟩, ⟨by exact gz_m 2 (by omega), by exact gz_m 3 (by omega)⟩⟩ (fun c7 => ?_) (fun c7 => ?_)
  · have t8 := (gr_ATp_k x5 (c := 2) (by exact gz_m 4 (by omega))).mp (by exact gz_m 5 (by omega))
    have t9 := (gr_ATp_rr x5).2.2.1.resolve_left (by exact gz_m 6 (by omega))
    have t10 := gr_ATp_n x5 t8
    have f11 := (gr_b_0_74 hI)
    refine gv_run 3 true hD (pc' := 19) (lv' := [(0, .inr (.inr (some 0))), (1, .inl a1)]) (st' := [.inl 1, .inl (I 0 74)]) (h' := gr_h I J) (C := (((True ∧ True) ∧ True) ∧ True)) rfl ⟨⟨⟨trivial, trivial⟩, trivial⟩, trivial⟩ ?_
    refine gv_icmp_lt (t := 49) hD rfl rfl ⟨⟨by exact gz_m 7 (by omega), by exact gz_m 8 (by omega)⟩, ⟨by exact gz_m 9 (by omega), by exact gz_m 10 (by omega)⟩⟩ (fun c12 => ?_) (fun c12 => ?_)
    · refine gv_run 2 true hD (pc' := 51) (lv' := [(0, .inr (.inr (some 0))), (1, .inl a1)]) (st' := [.inl 5, .inr (.inr (some 0))]) (h' := gr_h I J) (C := ((True ∧ True) ∧ True)) rfl ⟨⟨trivial, trivial⟩, trivial⟩ ?_
      obtain ⟨r13, h13, E13, P13⟩ := r_no__p (ws0 := ws0) (tb := tb) hws htb ext β N9 p9 I J hI 5 ⟨by exact gz_m 11 (by omega), by exact gz_m 12 (by omega)⟩ x5 (by exact gz_m 13 (by omega))
      obtain ⟨I14, J15, rfl, hI14, g13, k13, ⟨z13, rfl, q13⟩⟩ := P13
      have FI14 := gr_frt FI g13 rfl rfl
      have FJ15 := gr_fjt FJ k13 rfl rfl
      have t16 := g13 0 71 rfl
      have t17 := g13 0 72 rfl
      have t18 := g13 0 73 rfl
      have t19 := g13 0 69 rfl
      have t20 := g13 0 74 rfl
      have f21 := (gr_b_0_71 hI14)
      have f22 := (gr_b_0_72 hI14)
      have f23 := (gr_b_0_73 hI14)
      have f24 := (gr_b_0_69 hI14)
      have f25 := (gr_b_0_74 hI14)
      have A26 := gr_ATp_F x5 g13 k13 rfl
      have t27 := gr_ATp_l A26
      refine gv_callV hD rfl (As := [.inl 5]) (st := []) rfl (by decide) rfl rfl (gr_lV hws rfl) (Nat.le_of_ble_eq_true rfl) (gz_Ev_mono (d := 2) (by decide) E13) ?_
      show gv_X _ _ (54, [(0, .inr (.inr (some 0))), (1, .inl a1)], [.inl z13], gr_sh ++ ext, gr_h I14 J15)
      have b28 : (I14 0 69 = I 0 69) ∧ (I 0 73 ≤ I14 0 73) ∧ (I 0 72 ≤ I14 0 72) := by exact gz_m 14 (by omega)
      exact gv_zret hD rfl (by exact gz_m 15 (by omega)) ⟨I14, J15, rfl, hI14, FI14, FJ15, ⟨_, rfl, by exact gz_m 16 (by omega), by exact gz_m 17 (by omega), (gr_ATp_rr A26).1, (gr_ATp_rr A26).2.1, (gr_ATp_rr A26).2.2.1, (gr_ATp_rr A26).2.2.2.1, (gr_ATp_rr A26).2.2.2.2, b28.1, b28.2.1, b28.2.2, (Or.inr ⟨by exact gz_m 18 (by omega), by unfold gs_ao; (repeat first | rw [if_pos (by exact gz_m 19 (by omega))] | rw [if_neg (by exact gz_m 20 (by omega))]); exact ⟨by exact gz_m 21 (by omega), by exact gz_m 22 (by omega)⟩⟩)⟩⟩
    · have f29 := (gr_b_0_74 hI)
      have f30 := (gr_b_6 hI (Int.toNat a1))
      refine gv_run 6 true hD (pc' := 32) (lv' := [(0, .inr (.inr (some 0))), (1, .inl a1)]) (st' := [.inl (I 6 (Int.toNat a1)), .inl (I 0 74)]) (h' := gr_h I J) (C := ((((((True ∧ True) ∧ True) ∧ True) ∧ True) ∧ True) ∧ (0 ≤ a1 ∧ a1 < ((96 : Nat) : Int)))) rfl ⟨⟨⟨⟨⟨⟨trivial, trivial⟩, trivial⟩, trivial⟩, trivial⟩, trivial⟩, ⟨by exact gz_m 23 (by omega), by exact gz_m 24 (by omega)⟩⟩ ?_
      refine gv_icmp_gt (t := 49) hD rfl rfl ⟨⟨by exact gz_m 25 (by omega), by exact gz_m 26 (by omega)⟩, ⟨by exact gz_m 27 (by omega), by exact gz_m 28 (by omega)⟩⟩ (fun c31 => ?_) (fun c31 => ?_)
      · refine gv_run 2 true hD (pc' := 51) (lv' := [(0, .inr (.inr (some 0))), (1, .inl a1)]) (st' := [.inl 5, .inr (.inr (some 0))]) (h' := gr_h I J) (C := ((True ∧ True) ∧ True)) rfl ⟨⟨trivial, trivial⟩, trivial⟩ ?_
        obtain ⟨r32, h32, E32, P32⟩ := r_no__p (ws0 := ws0) (tb := tb) hws htb ext β N9 p9 I J hI 5 ⟨by exact gz_m 29 (by omega), by exact gz_m 30 (by omega)⟩ x5 (by exact gz_m 31 (by omega))
        obtain ⟨I33, J34, rfl, hI33, g32, k32, ⟨z32, rfl, q32⟩⟩ := P32
        have FI33 := gr_frt FI g32 rfl rfl
        have FJ34 := gr_fjt FJ k32 rfl rfl
        have t35 := g32 0 71 rfl
        have t36 := g32 0 72 rfl
        have t37 := g32 0 73 rfl
        have t38 := g32 0 69 rfl
        have t39 := g32 0 74 rfl
        have f40 := (gr_b_0_71 hI33)
        have f41 := (gr_b_0_72 hI33)
        have f42 := (gr_b_0_73 hI33)
        have f43 := (gr_b_0_69 hI33)
        have f44 := (gr_b_0_74 hI33)
        have A45 := gr_ATp_F x5 g32 k32 rfl
        have t46 := gr_ATp_l A45
        refine gv_callV hD rfl (As := [.inl 5]) (st := []) rfl (by decide) rfl rfl (gr_lV hws rfl) (Nat.le_of_ble_eq_true rfl) (gz_Ev_mono (d := 2) (by decide) E32) ?_
        show gv_X _ _ (54, [(0, .inr (.inr (some 0))), (1, .inl a1)], [.inl z32], gr_sh ++ ext, gr_h I33 J34)
        have b47 : (I33 0 69 = I 0 69) ∧ (I 0 73 ≤ I33 0 73) ∧ (I 0 72 ≤ I33 0 72) := by exact gz_m 32 (by omega)
        exact gv_zret hD rfl (by exact gz_m 33 (by omega)) ⟨I33, J34, rfl, hI33, FI33, FJ34, ⟨_, rfl, by exact gz_m 34 (by omega), by exact gz_m 35 (by omega), (gr_ATp_rr A45).1, (gr_ATp_rr A45).2.1, (gr_ATp_rr A45).2.2.1, (gr_ATp_rr A45).2.2.2.1, (gr_ATp_rr A45).2.2.2.2, b47.1, b47.2.1, b47.2.2, (Or.inr ⟨by exact gz_m 36 (by omega), by unfold gs_ao; (repeat first | rw [if_pos (by exact gz_m 37 (by omega))] | rw [if_neg (by exact gz_m 38 (by omega))]); exact ⟨by exact gz_m 39 (by omega), by exact gz_m 40 (by omega)⟩⟩)⟩⟩
      · have f48 := (gr_b_0_74 hI)
        have f49 := (gr_b_74 hI (Int.toNat (((I 0 74) - 1))))
        refine gv_run 7 true hD (pc' := 46) (lv' := [(0, .inr (.inr (some 0))), (1, .inl a1)]) (st' := [.inl (I 74 (Int.toNat (((I 0 74) - 1))))]) (h' := gr_h I J) (C := (((((((True ∧ True) ∧ True) ∧ True) ∧ True) ∧ True) ∧ True) ∧ (0 ≤ (((I 0 74) - 1)) ∧ (((I 0 74) - 1)) < ((4 : Nat) : Int)))) rfl ⟨⟨⟨⟨⟨⟨⟨trivial, trivial⟩, trivial⟩, trivial⟩, trivial⟩, trivial⟩, trivial⟩, ⟨by exact gz_m 41 (by omega), by exact gz_m 42 (by omega)⟩⟩ ?_
        have t50 := (show gs_a4 (I 74) (Int.toNat (gs_V β N9 p9 - 1)) = I 74 (Int.toNat (I 0 74 - 1)) from by rw [show gs_V β N9 p9 = I 0 74 from by exact gz_m 43 (by omega)]; exact gs_a4_i (by exact gz_m 44 (by omega)))
        refine gv_if_ge (t := 55) hD rfl rfl ⟨by exact gz_m 45 (by omega), by exact gz_m 46 (by omega)⟩ (fun c51 => ?_) (fun c51 => ?_)
        · have f52 := (gr_b_0_74 hI)
          refine gv_run 5 true hD (pc' := 62) (lv' := [(0, .inr (.inr (some 0))), (1, .inl a1)]) (st' := [.inl ((I 0 74) - 1), .inr (.inr (some 0))]) (h' := gr_h I J) (C := (((((True ∧ True) ∧ True) ∧ True) ∧ True) ∧ True)) rfl ⟨⟨⟨⟨⟨trivial, trivial⟩, trivial⟩, trivial⟩, trivial⟩, trivial⟩ ?_
          refine gv_run 1 true hD (pc' := 65) (lv' := [(0, .inr (.inr (some 0))), (1, .inl a1)]) (st' := []) (h' := gz_up (gr_h I J) 0 120 (.inl (((I 0 74) - 1)))) (C := (True ∧ True)) rfl ⟨trivial, trivial⟩ ?_
          refine gr_st hI FI rfl rfl ⟨⟨by show 0 ≤ _; exact gz_m 47 (by omega), by show _ ≤ 3; exact gz_m 48 (by omega)⟩, trivial⟩ (fun I53 hI53 FI53 q54 p54 => ?_)
          have t55 := p54 0 71 (by decide)
          have t56 := p54 0 72 (by decide)
          have t57 := p54 0 73 (by decide)
          have t58 := p54 0 69 (by decide)
          have t59 := p54 0 74 (by decide)
          have f60 := (gr_b_0_71 hI53)
          have f61 := (gr_b_0_72 hI53)
          have f62 := (gr_b_0_73 hI53)
          have f63 := (gr_b_0_69 hI53)
          have f64 := (gr_b_0_74 hI53)
          have A65 := gr_ATp_sf x5 p54 rfl
          refine gv_run 1 true hD (pc' := 66) (lv' := [(0, .inr (.inr (some 0))), (1, .inl a1)]) (st' := [.inr (.inr (some 0))]) (h' := gr_h I53 J) (C := (True ∧ True)) rfl ⟨trivial, trivial⟩ ?_
          obtain ⟨r66, h66, E66, P66⟩ := r_next_p (ws0 := ws0) (tb := tb) hws htb ext β N9 I53 J hI53   ((gr_ATp_rr A65).1.resolve_left (by exact gz_m 49 (by omega))) A65.1.1 A65.1.2
          obtain ⟨I67, J68, rfl, hI67, g66, k66, ⟨rfl, q66⟩⟩ := P66
          have FI67 := gr_frt FI53 g66 rfl rfl
          have FJ68 := gr_fjt FJ k66 rfl rfl
          have t69 := g66 0 69 rfl
          have f70 := (gr_b_0_71 hI67)
          have f71 := (gr_b_0_72 hI67)
          have f72 := (gr_b_0_73 hI67)
          have f73 := (gr_b_0_69 hI67)
          have f74 := (gr_b_0_74 hI67)
          have t75 := (gr_ATp_rr A65).2.2.1.resolve_left (by exact gz_m 50 (by omega))
          have A76 := gr_ATp_nx A65 q66.2.2.2.2.2
          have t77 := gr_ATp_l A76
          obtain ⟨_, _, -, -, -, -⟩ := q66
          refine gv_callV hD rfl (As := []) (st := []) rfl (by decide) rfl rfl (gr_lV hws rfl) (Nat.le_of_ble_eq_true rfl) (gz_Ev_mono (d := 10) (by decide) E66) ?_
          show gv_X _ _ (69, [(0, .inr (.inr (some 0))), (1, .inl a1)], [], gr_sh ++ ext, gr_h I67 J68)
          refine gv_run 1 true hD (pc' := 70) (lv' := [(0, .inr (.inr (some 0))), (1, .inl a1)]) (st' := [.inl 1]) (h' := gr_h I67 J68) (C := (True ∧ True)) rfl ⟨trivial, trivial⟩ ?_
          have b78 : (I67 0 69 = I 0 69) ∧ (I 0 73 ≤ I67 0 73) ∧ (I 0 72 ≤ I67 0 72) := by exact gz_m 51 (by omega)
          exact gv_zret hD rfl (by exact gz_m 52 (by omega)) ⟨I67, J68, rfl, hI67, FI67, FJ68, ⟨_, rfl, by exact gz_m 53 (by omega), by exact gz_m 54 (by omega), (gr_ATp_rr A76).1, (gr_ATp_rr A76).2.1, (gr_ATp_rr A76).2.2.1, (gr_ATp_rr A76).2.2.2.1, (gr_ATp_rr A76).2.2.2.2, b78.1, b78.2.1, b78.2.2, (Or.inl ⟨by exact gz_m 55 (by omega), by have e9 : (gs_ao β N9 (I 6 (Int.toNat a1)) (gs_a4 (I 74)) p9) = (gs_X β N9 p9) := (by unfold gs_ao; (repeat first | rw [if_pos (by exact gz_m 56 (by omega))] | rw [if_neg (by exact gz_m 57 (by omega))])); rw [e9]; exact ⟨by exact gz_m 58 (by omega), A76⟩⟩)⟩⟩
        · refine gv_run 2 true hD (pc' := 51) (lv' := [(0, .inr (.inr (some 0))), (1, .inl a1)]) (st' := [.inl 5, .inr (.inr (some 0))]) (h' := gr_h I J) (C := ((True ∧ True) ∧ True)) rfl ⟨⟨trivial, trivial⟩, trivial⟩ ?_
          obtain ⟨r79, h79, E79, P79⟩ := r_no__p (ws0 := ws0) (tb := tb) hws htb ext β N9 p9 I J hI 5 ⟨by exact gz_m 59 (by omega), by exact gz_m 60 (by omega)⟩ x5 (by exact gz_m 61 (by omega))
          obtain ⟨I80, J81, rfl, hI80, g79, k79, ⟨z79, rfl, q79⟩⟩ := P79
          have FI80 := gr_frt FI g79 rfl rfl
          have FJ81 := gr_fjt FJ k79 rfl rfl
          have t82 := g79 0 71 rfl
          have t83 := g79 0 72 rfl
          have t84 := g79 0 73 rfl
          have t85 := g79 0 69 rfl
          have t86 := g79 0 74 rfl
          have f87 := (gr_b_0_71 hI80)
          have f88 := (gr_b_0_72 hI80)
          have f89 := (gr_b_0_73 hI80)
          have f90 := (gr_b_0_69 hI80)
          have f91 := (gr_b_0_74 hI80)
          have A92 := gr_ATp_F x5 g79 k79 rfl
          have t93 := gr_ATp_l A92
          refine gv_callV hD rfl (As := [.inl 5]) (st := []) rfl (by decide) rfl rfl (gr_lV hws rfl) (Nat.le_of_ble_eq_true rfl) (gz_Ev_mono (d := 2) (by decide) E79) ?_
          show gv_X _ _ (54, [(0, .inr (.inr (some 0))), (1, .inl a1)], [.inl z79], gr_sh ++ ext, gr_h I80 J81)
          have b94 : (I80 0 69 = I 0 69) ∧ (I 0 73 ≤ I80 0 73) ∧ (I 0 72 ≤ I80 0 72) := by exact gz_m 62 (by omega)
          exact gv_zret hD rfl (by exact gz_m 63 (by omega)) ⟨I80, J81, rfl, hI80, FI80, FJ81, ⟨_, rfl, by exact gz_m 64 (by omega), by exact gz_m 65 (by omega), (gr_ATp_rr A92).1, (gr_ATp_rr A92).2.1, (gr_ATp_rr A92).2.2.1, (gr_ATp_rr A92).2.2.2.1, (gr_ATp_rr A92).2.2.2.2, b94.1, b94.2.1, b94.2.2, (Or.inr ⟨by exact gz_m 66 (by omega), by unfold gs_ao; (repeat first | rw [if_pos (by exact gz_m 67 (by omega))] | rw [if_neg (by exact gz_m 68 (by omega))]); exact ⟨by exact gz_m 69 (by omega), by exact gz_m 70 (by omega)⟩⟩)⟩⟩
  · have t95 := gr_ATp_ne x5 (c := 2) (by exact gz_m 71 (by omega)) (by exact gz_m 72 (by omega))
    refine gv_run 2 true hD (pc' := 10) (lv' := [(0, .inr (.inr (some 0))), (1, .inl a1)]) (st' := [.inl 1, .inr (.inr (some 0))]) (h' := gr_h I J) (C := ((True ∧ True) ∧ True)) rfl ⟨⟨trivial, trivial⟩, trivial⟩ ?_
    obtain ⟨r96, h96, E96, P96⟩ := r_no__p (ws0 := ws0) (tb := tb) hws htb ext β N9 p9 I J hI 1 ⟨by exact gz_m 73 (by omega), by exact gz_m 74 (by omega)⟩ x5 (by exact gz_m 75 (by omega))
    obtain ⟨I97, J98, rfl, hI97, g96, k96, ⟨z96, rfl, q96⟩⟩ := P96
    have FI97 := gr_frt FI g96 rfl rfl
    have FJ98 := gr_fjt FJ k96 rfl rfl
    have t99 := g96 0 71 rfl
    have t100 := g96 0 72 rfl
    have t101 := g96 0 73 rfl
    have t102 := g96 0 69 rfl
    have t103 := g96 0 74 rfl
    have f104 := (gr_b_0_71 hI97)
    have f105 := (gr_b_0_72 hI97)
    have f106 := (gr_b_0_73 hI97)
    have f107 := (gr_b_0_69 hI97)
    have f108 := (gr_b_0_74 hI97)
    have A109 := gr_ATp_F x5 g96 k96 rfl
    have t110 := gr_ATp_l A109
    refine gv_callV hD rfl (As := [.inl 1]) (st := []) rfl (by decide) rfl rfl (gr_lV hws rfl) (Nat.le_of_ble_eq_true rfl) (gz_Ev_mono (d := 2) (by decide) E96) ?_
    show gv_X _ _ (13, [(0, .inr (.inr (some 0))), (1, .inl a1)], [.inl z96], gr_sh ++ ext, gr_h I97 J98)
    have b111 : (I97 0 69 = I 0 69) ∧ (I 0 73 ≤ I97 0 73) ∧ (I 0 72 ≤ I97 0 72) := by exact gz_m 76 (by omega)
    exact gv_zret hD rfl (by exact gz_m 77 (by omega)) ⟨I97, J98, rfl, hI97, FI97, FJ98, ⟨_, rfl, by exact gz_m 78 (by omega), by exact gz_m 79 (by omega), (gr_ATp_rr A109).1, (gr_ATp_rr A109).2.1, (gr_ATp_rr A109).2.2.1, (gr_ATp_rr A109).2.2.2.1, (gr_ATp_rr A109).2.2.2.2, b111.1, b111.2.1, b111.2.2, (Or.inr ⟨by exact gz_m 80 (by omega), by unfold gs_ao; (repeat first | rw [if_pos (by exact gz_m 81 (by omega))] | rw [if_neg (by exact gz_m 82 (by omega))]); exact ⟨by exact gz_m 83 (by omega), by exact gz_m 84 (by omega)⟩⟩)⟩⟩
set_option maxHeartbeats 8000000 in
set_option maxRecDepth 100000 in
theorem r_featureOf_p {ws0 : List Cond} {tb : String → gz_T} (hws : ∀ w ∈ gr_ws, w ∈ ws0) (htb : tb RX13 = gr_T) (ext : gz_Sh) (β : Int → Int) (N9 : Int) (p9 : Int) (I : gr_I) (J : gr_J) (hI : gr_Inv I)   (x0 : I 0 71 = 5 ∨ I 0 73 ≤ I 0 69) (x1 : I 0 72 ≤ I 0 69) (x2 : I 0 71 = 0 ∨ (I 0 72 < I 0 73 ∧ I 0 72 < I 0 69)) (x3 : I 0 71 = 3 → 2 ≤ I 0 73 - I 0 72 ∧ I 0 73 - I 0 72 ≤ 14) (x4 : I 0 72 ≤ I 0 73) (x5 : 0 ≤ I 0 6) (x6 : I 0 119 ≤ 5) (x7 : gr_ATp β N9 p9 I J) (x8 : 0 ≤ p9) : ∃ r h', gz_Ev ws0 tb 11 (yX13_featureOf, cX13_featureOf, 2, (some .boolean)) [.inr (.inr (some 0))] (gr_sh ++ ext) (gr_h I J) r (gr_sh ++ ext) h' 0 0 ∧ (∃ (I' : gr_I) (J' : gr_J), h' = gr_h I' J' ∧ gr_Inv I' ∧ gr_fr [71, 72, 73, 74, 75, 76, 77] [73] I I' ∧ gr_fj [71, 72, 73, 74, 75, 76, 77] [73] J J' ∧ (∃ z : Int, r = some (.inl z) ∧ 0 ≤ z ∧ z ≤ 1 ∧ (I' 0 71 = 5 ∨ I' 0 73 ≤ I' 0 69) ∧ (I' 0 72 ≤ I' 0 69) ∧ (I' 0 71 = 0 ∨ (I' 0 72 < I' 0 73 ∧ I' 0 72 < I' 0 69)) ∧ (I' 0 71 = 3 → 2 ≤ I' 0 73 - I' 0 72 ∧ I' 0 73 - I' 0 72 ≤ 14) ∧ (I' 0 72 ≤ I' 0 73) ∧ (I' 0 69 = I 0 69) ∧ (I 0 73 ≤ I' 0 73) ∧ (I 0 72 ≤ I' 0 72) ∧ (gs_Or z (0 ≤ (gs_fo β N9 I J p9) ∧ gr_ATp β N9 (gs_fo β N9 I J p9) I' J') ((gs_fo β N9 I J p9) < 0 ∧ I' 0 77 = -1 - (gs_fo β N9 I J p9))))) := by
  have FI : gr_fr [71, 72, 73, 74, 75, 76, 77] [73] I I := fun _ _ _ => rfl
  have FJ : gr_fj [71, 72, 73, 74, 75, 76, 77] [73] J J := fun _ _ _ => rfl
  have hD : gv_D (gr_E ws0 tb 10 (yX13_featureOf, cX13_featureOf, 2, (some .boolean)) kX13_featureOf) := gq_of oX13_featureOf
  refine gr_ev (d := 10) (l := kX13_featureOf) (Po := fun r h' => (∃ (I' : gr_I) (J' : gr_J), h' = gr_h I' J' ∧ gr_Inv I' ∧ gr_fr [71, 72, 73, 74, 75, 76, 77] [73] I I' ∧ gr_fj [71, 72, 73, 74, 75, 76, 77] [73] J J' ∧ (∃ z : Int, r = some (.inl z) ∧ 0 ≤ z ∧ z ≤ 1 ∧ (I' 0 71 = 5 ∨ I' 0 73 ≤ I' 0 69) ∧ (I' 0 72 ≤ I' 0 69) ∧ (I' 0 71 = 0 ∨ (I' 0 72 < I' 0 73 ∧ I' 0 72 < I' 0 69)) ∧ (I' 0 71 = 3 → 2 ≤ I' 0 73 - I' 0 72 ∧ I' 0 73 - I' 0 72 ≤ 14) ∧ (I' 0 72 ≤ I' 0 73) ∧ (I' 0 69 = I 0 69) ∧ (I 0 73 ≤ I' 0 73) ∧ (I 0 72 ≤ I' 0 72) ∧ (gs_Or z (0 ≤ (gs_fo β N9 I J p9) ∧ gr_ATp β N9 (gs_fo β N9 I J p9) I' J') ((gs_fo β N9 I J p9) < 0 ∧ I' 0 77 = -1 - (gs_fo β N9 I J p9)))))) htb rfl (Nat.le_of_ble_eq_true rfl) ?_
  have tAT := gr_ATp_l x7
  clear x0 x2 x3
  have f1 := (gr_b_0_71 hI)
  have f2 := (gr_b_0_72 hI)
  have f3 := (gr_b_0_73 hI)
  have f4 := (gr_b_0_69 hI)
  have f5 := (gr_b_0_6 hI)
  have f6 := (gr_b_0_119 hI)
  refine gv_run 1 true hD (pc' := 1) (lv' := [(0, .inr (.inr (some 0)))]) (st' := [.inr (.inr (some 0))]) (h' := gr_h I J) (C := (True ∧ True)) rfl ⟨trivial, trivial⟩ ?_
  obtain ⟨r7, h7, E7, P7⟩ := r_name_p (ws0 := ws0) (tb := tb) hws htb ext β N9 p9 I J hI   x7 (by exact gz_m 0 (by omega))
  obtain ⟨I8, J9, rfl, hI8, g7, k7, ⟨z7, rfl, q7⟩⟩ := P7
  have FI8 := gr_frt FI g7 rfl rfl
  have FJ9 := gr_fjt FJ k7 rfl rfl
  have t10 := g7 0 71 rfl
  have t11 := g7 0 72 rfl
  have t12 := g7 0 73 rfl
  have t13 := g7 0 69 rfl
  have t14 := g7 0 6 rfl
  have t15 := g7 0 119 rfl
  have f16 := (gr_b_0_71 hI8)
  have f17 := (gr_b_0_72 hI8)
  have f18 := (gr_b_0_73 hI8)
  have f19 := (gr_b_0_69 hI8)
  have f20 := (gr_b_0_6 hI8)
  have f21 := (gr_b_0_119 hI8)
  have V7 := gs_or_mk q7.2.2.2
  have A22 := gr_ATp_F x7 g7 k7 rfl
  have t23 := gr_ATp_l A22
  obtain ⟨_, _, o7, -⟩ := q7
  refine gv_callV hD rfl (As := []) (st := []) rfl (by decide) rfl rfl (gr_lV hws rfl) (Nat.le_of_ble_eq_true rfl) (gz_Ev_mono (d := 3) (by decide) E7) ?_
  show gv_X _ _ (4, [(0, .inr (.inr (some 0)))], [.inl z7], gr_sh ++ ext, gr_h I8 J9)
  refine gv_if_ne (t := 9) hD rfl rfl ⟨by exact gz_m 1 (by omega), by exact gz_m 2 (by omega)⟩ (fun c24 => ?_) (fun c24 => ?_)
  · have u25 := gs_or1 V7 (by exact gz_m 3 (by omega))
    have t26 := o7.resolve_left (by exact gz_m 4 (by omega))
    have t27 := (gr_ATp_rr A22).2.2.1.resolve_left (by exact gz_m 5 (by omega))
    clear o7 V7
    have f28 := (gr_b_0_6 hI8)
    refine gv_run 7 true hD (pc' := 21) (lv' := [(0, .inr (.inr (some 0)))]) (st' := [.inr (.inr (some 0)), .inl (8 * (I8 0 6)), .inr (.inr (some 20))]) (h' := gr_h I8 J9) (C := (((((((True ∧ True) ∧ True) ∧ True) ∧ True) ∧ True) ∧ True) ∧ True)) rfl ⟨⟨⟨⟨⟨⟨⟨trivial, trivial⟩, trivial⟩, trivial⟩, trivial⟩, trivial⟩, trivial⟩, trivial⟩ ?_
    have f29 := (gr_b_0_6 hI8)
    have f30 := (gr_b_13 hI8 (Int.toNat ((I8 0 6))))
    refine gv_run 4 true hD (pc' := 29) (lv' := [(0, .inr (.inr (some 0)))]) (st' := [.inl (I8 13 (Int.toNat ((I8 0 6)))), .inl (8 * (I8 0 6)), .inr (.inr (some 20))]) (h' := gr_h I8 J9) (C := ((((True ∧ True) ∧ True) ∧ True) ∧ (0 ≤ (I8 0 6) ∧ (I8 0 6) < ((8 : Nat) : Int)))) rfl ⟨⟨⟨⟨trivial, trivial⟩, trivial⟩, trivial⟩, ⟨by exact gz_m 6 (by omega), by exact gz_m 7 (by omega)⟩⟩ ?_
    refine gv_run 2 true hD (pc' := 33) (lv' := [(0, .inr (.inr (some 0)))]) (st' := [.inr (.inl (J9 0 75)), .inl (I8 13 (Int.toNat ((I8 0 6)))), .inl (8 * (I8 0 6)), .inr (.inr (some 20))]) (h' := gr_h I8 J9) (C := ((True ∧ True) ∧ True)) rfl ⟨⟨trivial, trivial⟩, trivial⟩ ?_
    obtain ⟨r31, h31, E31, P31⟩ := r_find_20_p (ws0 := ws0) (tb := tb) hws htb ext I8 J9 hI8 ((8 * (I8 0 6))) ((I8 13 (Int.toNat ((I8 0 6))))) (J9 0 75) ⟨by exact gz_m 8 (by omega), by exact gz_m 9 (by omega)⟩ ⟨by exact gz_m 10 (by omega), by exact gz_m 11 (by omega)⟩ (by exact gz_m 12 (by omega))
    obtain ⟨rfl, ⟨z31, rfl, q31⟩⟩ := P31
    have t32 := q31.2.2.2.trans (gs_lt_eq (J := J) (row := 20) (o := 8 * I 0 6) (n := I 13 (Int.toNat (I 0 6))) (w := gs_rn β N9 p9) (fun k => (FJ9 20 k rfl)) (by exact gz_m 13 (by omega)) (by first | exact (FI8 13 _ rfl) | (rw [show ((I8 0 6)) = I 0 6 from by exact gz_m 14 (by omega)]; exact (FI8 13 _ rfl))) (gr_ATp_w A22))
    refine gv_callS hD rfl (As := [.inr (.inr (some 20)), .inl (8 * (I8 0 6)), .inl (I8 13 (Int.toNat ((I8 0 6)))), .inr (.inl (J9 0 75))]) (st := []) rfl (gr_lS hws rfl) (Nat.le_of_ble_eq_true rfl) (gz_Ev_mono (d := 1) (by decide) E31) ?_
    show gv_X _ _ (36, [(0, .inr (.inr (some 0)))], [.inl z31], gr_sh ++ ext, gr_h I8 J9)
    refine gv_run 2 true hD (pc' := 38) (lv' := [(1, .inl z31), (0, .inr (.inr (some 0)))]) (st' := [.inl z31]) (h' := gr_h I8 J9) (C := ((True ∧ True) ∧ True)) rfl ⟨⟨trivial, trivial⟩, trivial⟩ ?_
    refine gv_if_ge (t := 47) hD rfl rfl ⟨by exact gz_m 15 (by omega), by exact gz_m 16 (by omega)⟩ (fun c33 => ?_) (fun c33 => ?_)
    · have f34 := (gr_b_0_119 hI8)
      refine gv_run 5 true hD (pc' := 56) (lv' := [(1, .inl z31), (0, .inr (.inr (some 0)))]) (st' := [.inl z31, .inl (I8 0 119), .inr (.inr (some 73))]) (h' := gr_h I8 J9) (C := (((((True ∧ True) ∧ True) ∧ True) ∧ True) ∧ True)) rfl ⟨⟨⟨⟨⟨trivial, trivial⟩, trivial⟩, trivial⟩, trivial⟩, trivial⟩ ?_
      refine gv_run 1 true hD (pc' := 57) (lv' := [(1, .inl z31), (0, .inr (.inr (some 0)))]) (st' := []) (h' := gz_up (gr_h I8 J9) 73 (Int.toNat ((I8 0 119))) (.inl z31)) (C := (True ∧ (0 ≤ (I8 0 119) ∧ (I8 0 119) < ((6 : Nat) : Int)))) rfl ⟨trivial, ⟨by exact gz_m 17 (by omega), by exact gz_m 18 (by omega)⟩⟩ ?_
      refine gr_st hI8 FI8 rfl rfl ⟨⟨by show 0 ≤ _; exact gz_m 19 (by omega), by show _ ≤ 7; exact gz_m 20 (by omega)⟩, trivial⟩ (fun I35 hI35 FI35 q36 p36 => ?_)
      have t37 := p36 0 71 (fun q => absurd q.1 (by decide))
      have t38 := p36 0 72 (fun q => absurd q.1 (by decide))
      have t39 := p36 0 73 (fun q => absurd q.1 (by decide))
      have t40 := p36 0 69 (fun q => absurd q.1 (by decide))
      have t41 := p36 0 6 (fun q => absurd q.1 (by decide))
      have t42 := p36 0 119 (fun q => absurd q.1 (by decide))
      have f43 := (gr_b_0_71 hI35)
      have f44 := (gr_b_0_72 hI35)
      have f45 := (gr_b_0_73 hI35)
      have f46 := (gr_b_0_69 hI35)
      have f47 := (gr_b_0_6 hI35)
      have f48 := (gr_b_0_119 hI35)
      have A49 := gr_ATp_sr A22 p36 rfl
      refine gv_run 1 true hD (pc' := 58) (lv' := [(1, .inl z31), (0, .inr (.inr (some 0)))]) (st' := [.inr (.inr (some 0))]) (h' := gr_h I35 J9) (C := (True ∧ True)) rfl ⟨trivial, trivial⟩ ?_
      obtain ⟨r50, h50, E50, P50⟩ := r_next_p (ws0 := ws0) (tb := tb) hws htb ext β N9 I35 J9 hI35   ((gr_ATp_rr A49).1.resolve_left (by exact gz_m 21 (by omega))) A49.1.1 A49.1.2
      obtain ⟨I51, J52, rfl, hI51, g50, k50, ⟨rfl, q50⟩⟩ := P50
      have FI51 := gr_frt FI35 g50 rfl rfl
      have FJ52 := gr_fjt FJ9 k50 rfl rfl
      have t53 := g50 0 69 rfl
      have t54 := g50 0 6 rfl
      have t55 := g50 0 119 rfl
      have f56 := (gr_b_0_71 hI51)
      have f57 := (gr_b_0_72 hI51)
      have f58 := (gr_b_0_73 hI51)
      have f59 := (gr_b_0_69 hI51)
      have f60 := (gr_b_0_6 hI51)
      have f61 := (gr_b_0_119 hI51)
      have t62 := (gr_ATp_rr A49).2.2.1.resolve_left (by exact gz_m 22 (by omega))
      have A63 := gr_ATp_nx A49 q50.2.2.2.2.2
      have t64 := gr_ATp_l A63
      obtain ⟨_, _, -, -, -, -⟩ := q50
      refine gv_callV hD rfl (As := []) (st := []) rfl (by decide) rfl rfl (gr_lV hws rfl) (Nat.le_of_ble_eq_true rfl) (gz_Ev_mono (d := 10) (by decide) E50) ?_
      show gv_X _ _ (61, [(1, .inl z31), (0, .inr (.inr (some 0)))], [], gr_sh ++ ext, gr_h I51 J52)
      refine gv_run 1 true hD (pc' := 62) (lv' := [(1, .inl z31), (0, .inr (.inr (some 0)))]) (st' := [.inl 1]) (h' := gr_h I51 J52) (C := (True ∧ True)) rfl ⟨trivial, trivial⟩ ?_
      have b65 : (I51 0 69 = I 0 69) ∧ (I 0 73 ≤ I51 0 73) ∧ (I 0 72 ≤ I51 0 72) := by exact gz_m 23 (by omega)
      exact gv_zret hD rfl (by exact gz_m 24 (by omega)) ⟨I51, J52, rfl, hI51, FI51, FJ52, ⟨_, rfl, by exact gz_m 25 (by omega), by exact gz_m 26 (by omega), (gr_ATp_rr A63).1, (gr_ATp_rr A63).2.1, (gr_ATp_rr A63).2.2.1, (gr_ATp_rr A63).2.2.2.1, (gr_ATp_rr A63).2.2.2.2, b65.1, b65.2.1, b65.2.2, (Or.inl ⟨by exact gz_m 27 (by omega), by have e9 : (gs_fo β N9 I J p9) = (gs_X β N9 p9) := (by unfold gs_fo; (repeat first | rw [if_pos (by exact gz_m 28 (by omega))] | rw [if_neg (by exact gz_m 29 (by omega))])); rw [e9]; exact ⟨by exact gz_m 30 (by omega), A63⟩⟩)⟩⟩
    · refine gv_run 2 true hD (pc' := 43) (lv' := [(1, .inl z31), (0, .inr (.inr (some 0)))]) (st' := [.inl 5, .inr (.inr (some 0))]) (h' := gr_h I8 J9) (C := ((True ∧ True) ∧ True)) rfl ⟨⟨trivial, trivial⟩, trivial⟩ ?_
      obtain ⟨r66, h66, E66, P66⟩ := r_no__p (ws0 := ws0) (tb := tb) hws htb ext β N9 p9 I8 J9 hI8 5 ⟨by exact gz_m 31 (by omega), by exact gz_m 32 (by omega)⟩ A22 (by exact gz_m 33 (by omega))
      obtain ⟨I67, J68, rfl, hI67, g66, k66, ⟨z66, rfl, q66⟩⟩ := P66
      have FI67 := gr_frt FI8 g66 rfl rfl
      have FJ68 := gr_fjt FJ9 k66 rfl rfl
      have t69 := g66 0 71 rfl
      have t70 := g66 0 72 rfl
      have t71 := g66 0 73 rfl
      have t72 := g66 0 69 rfl
      have t73 := g66 0 6 rfl
      have t74 := g66 0 119 rfl
      have f75 := (gr_b_0_71 hI67)
      have f76 := (gr_b_0_72 hI67)
      have f77 := (gr_b_0_73 hI67)
      have f78 := (gr_b_0_69 hI67)
      have f79 := (gr_b_0_6 hI67)
      have f80 := (gr_b_0_119 hI67)
      have A81 := gr_ATp_F A22 g66 k66 rfl
      have t82 := gr_ATp_l A81
      refine gv_callV hD rfl (As := [.inl 5]) (st := []) rfl (by decide) rfl rfl (gr_lV hws rfl) (Nat.le_of_ble_eq_true rfl) (gz_Ev_mono (d := 2) (by decide) E66) ?_
      show gv_X _ _ (46, [(1, .inl z31), (0, .inr (.inr (some 0)))], [.inl z66], gr_sh ++ ext, gr_h I67 J68)
      have b83 : (I67 0 69 = I 0 69) ∧ (I 0 73 ≤ I67 0 73) ∧ (I 0 72 ≤ I67 0 72) := by exact gz_m 34 (by omega)
      exact gv_zret hD rfl (by exact gz_m 35 (by omega)) ⟨I67, J68, rfl, hI67, FI67, FJ68, ⟨_, rfl, by exact gz_m 36 (by omega), by exact gz_m 37 (by omega), (gr_ATp_rr A81).1, (gr_ATp_rr A81).2.1, (gr_ATp_rr A81).2.2.1, (gr_ATp_rr A81).2.2.2.1, (gr_ATp_rr A81).2.2.2.2, b83.1, b83.2.1, b83.2.2, (Or.inr ⟨by exact gz_m 38 (by omega), by unfold gs_fo; (repeat first | rw [if_pos (by exact gz_m 39 (by omega))] | rw [if_neg (by exact gz_m 40 (by omega))]); exact ⟨by exact gz_m 41 (by omega), by exact gz_m 42 (by omega)⟩⟩)⟩⟩
  · have u84 := gs_or0 V7 (by exact gz_m 43 (by omega))
    clear o7 V7
    refine gv_run 1 true hD (pc' := 8) (lv' := [(0, .inr (.inr (some 0)))]) (st' := [.inl 0]) (h' := gr_h I8 J9) (C := (True ∧ True)) rfl ⟨trivial, trivial⟩ ?_
    have b85 : (I8 0 69 = I 0 69) ∧ (I 0 73 ≤ I8 0 73) ∧ (I 0 72 ≤ I8 0 72) := by exact gz_m 44 (by omega)
    exact gv_zret hD rfl (by exact gz_m 45 (by omega)) ⟨I8, J9, rfl, hI8, FI8, FJ9, ⟨_, rfl, by exact gz_m 46 (by omega), by exact gz_m 47 (by omega), (gr_ATp_rr A22).1, (gr_ATp_rr A22).2.1, (gr_ATp_rr A22).2.2.1, (gr_ATp_rr A22).2.2.2.1, (gr_ATp_rr A22).2.2.2.2, b85.1, b85.2.1, b85.2.2, (Or.inr ⟨by exact gz_m 48 (by omega), by unfold gs_fo; (repeat first | rw [if_pos (by exact gz_m 49 (by omega))] | rw [if_neg (by exact gz_m 50 (by omega))]); exact ⟨by exact gz_m 51 (by omega), by exact gz_m 52 (by omega)⟩⟩)⟩⟩
