/-! PARITY: LIN -/
def gs_i0 (I : gr_I) : Int := if I 0 118 = 0 then 0 else if I 68 0 < 0 then I 68 0 else 0
/-- its pieces: the code, how many, the first one (below 0 an argument), where each argument stands -/
def gs_li (β : Int → Int) (N : Int) (I : gr_I) (J : gr_J) (nf : Int) : Nat → Int → Int → (Nat → Int) → Int → Int × Int × Int × (Nat → Int)
  | 0, n, i, a, q => (q, n, i, a)
  | m + 1, n, i, a, q => if gs_T β N q = 3 ∨ gs_T β N q = 2 then (if gs_it β N I J nf n a q < 0 then (gs_it β N I J nf n a q, n, i, a) else gs_li β N I J nf m (n + 1) (if n = 0 then (if gs_T β N q = 2 then -gs_V β N q else 0) else i) (gs_ua β N q a) (gs_it β N I J nf n a q)) else (q, n, i, a)
theorem gs_li_e {β : Int → Int} {N : Int} {I : gr_I} {J : gr_J} {nf : Int} {m : Nat} {n i : Int} {a : Nat → Int} {q : Int} (h : ¬ (gs_T β N q = 3 ∨ gs_T β N q = 2)) : gs_li β N I J nf m n i a q = (q, n, i, a) := by
  cases m with
  | zero => rfl
  | succ m => exact if_neg h
theorem gs_li_x {β : Int → Int} {N : Int} {I : gr_I} {J : gr_J} {nf : Int} {m : Nat} {n i : Int} {a : Nat → Int} {q : Int} (h : gs_T β N q = 3 ∨ gs_T β N q = 2) (u : gs_it β N I J nf n a q < 0) : gs_li β N I J nf (m + 1) n i a q = (gs_it β N I J nf n a q, n, i, a) := by
  show (if _ then _ else _) = _
  rw [if_pos h, if_pos u]
theorem gs_it_v {β : Int → Int} {N : Int} {I : gr_I} {J : gr_J} {nf n : Int} {a : Nat → Int} {q : Int} (h : gs_T β N q = 2) (hA : 0 ≤ gs_A β N q) (u : ¬ gs_it β N I J nf n a q < 0) : 1 ≤ gs_V β N q ∧ gs_V β N q ≤ nf := by
  unfold gs_it gs_it2 at u
  by_cases c : n = 6
  · rw [if_pos c] at u
    omega
  · rw [if_neg c, if_neg (by omega)] at u
    by_cases d : gs_V β N q - 1 < 0 ∨ nf ≤ gs_V β N q - 1 ∨ 0 ≤ a (Int.toNat (gs_V β N q - 1))
    · rw [if_pos d] at u
      omega
    · omega
theorem gs_li_s {β : Int → Int} {N : Int} {I : gr_I} {J : gr_J} {nf : Int} {m : Nat} {q : Int} {I1 I2 : gr_I} (h : gs_T β N q = 3 ∨ gs_T β N q = 2) (hA : 0 ≤ gs_A β N q) (u : ¬ gs_it β N I J nf (I1 0 118) (gs_a4 (I1 74)) q < 0) (h4 : nf ≤ 4) (h0 : 0 ≤ I1 0 118) (hU : gs_Uit β N q I1 I2) : gs_li β N I J nf (m + 1) (I1 0 118) (gs_i0 I1) (gs_a4 (I1 74)) q = gs_li β N I J nf m (I2 0 118) (gs_i0 I2) (gs_a4 (I2 74)) (gs_it β N I J nf (I1 0 118) (gs_a4 (I1 74)) q) := by
  obtain ⟨a, b, c, d⟩ := hU
  have ea : gs_ua β N q (gs_a4 (I1 74)) = gs_a4 (I2 74) := funext fun j => by
    by_cases c1 : j < 4
    · rw [gs_a4_i c1, b j]
      unfold gs_ua
      rw [gs_a4_i c1]
    · unfold gs_ua
      rw [show gs_a4 (I2 74) j = -1 from if_neg c1, show gs_a4 (I1 74) j = -1 from if_neg c1, if_neg (fun k => by
        have := gs_it_v k.1 hA u
        have := k.2
        omega)]
  have ei : (if I1 0 118 = 0 then (if gs_T β N q = 2 then -gs_V β N q else 0) else gs_i0 I1) = gs_i0 I2 := by
    unfold gs_i0
    rw [if_neg (show ¬ I2 0 118 = 0 by omega)]
    by_cases c1 : I1 0 118 = 0
    · rw [if_pos c1]
      rw [c1] at d
      rcases h with h | h
      · have := d.1 h
        rw [if_neg (by omega), if_neg (by exact fun q9 => absurd q9 (by show ¬ I2 68 (Int.toNat 0) < 0; omega))]
      · have := d.2 h
        have v := (gs_it_v h hA u).1
        rw [if_pos h, if_pos (by show I2 68 (Int.toNat 0) < 0; omega)]
        exact this.symm
    · rw [if_neg c1, if_neg c1, c 0 (by omega)]
  show (if _ then _ else _) = _
  rw [if_pos h, if_neg u, ea, ei, a]
/-- what is said of them -/
def gs_ls (β : Int → Int) (N : Int) (I : gr_I) (J : gr_J) (nf : Int) (a : Nat → Int) : Nat → Int → Int → Int
  | 0, _, q => q
  | m + 1, ns, q => if gs_T β N q = 44 then (if gs_said β N I J nf ns a (gs_X β N q) < 0 then gs_said β N I J nf ns a (gs_X β N q) else gs_ls β N I J nf a m (ns + 1) (gs_said β N I J nf ns a (gs_X β N q))) else q
theorem gs_ls_e {β : Int → Int} {N : Int} {I : gr_I} {J : gr_J} {nf : Int} {a : Nat → Int} {m : Nat} {ns q : Int} (h : ¬ gs_T β N q = 44) : gs_ls β N I J nf a m ns q = q := by
  cases m with
  | zero => rfl
  | succ m => exact if_neg h
theorem gs_ls_s {β : Int → Int} {N : Int} {I : gr_I} {J : gr_J} {nf : Int} {a : Nat → Int} {m : Nat} {ns q : Int} (h : gs_T β N q = 44) (u : ¬ gs_said β N I J nf ns a (gs_X β N q) < 0) : gs_ls β N I J nf a (m + 1) ns q = gs_ls β N I J nf a m (ns + 1) (gs_said β N I J nf ns a (gs_X β N q)) := by
  show (if _ then _ else _) = _
  rw [if_pos h, if_neg u]
theorem gs_ls_x {β : Int → Int} {N : Int} {I : gr_I} {J : gr_J} {nf : Int} {a : Nat → Int} {m : Nat} {ns q : Int} (h : gs_T β N q = 44) (u : gs_said β N I J nf ns a (gs_X β N q) < 0) : gs_ls β N I J nf a (m + 1) ns q = gs_said β N I J nf ns a (gs_X β N q) := by
  show (if _ then _ else _) = _
  rw [if_pos h, if_pos u]
/-- does every argument stand somewhere -/
def gs_all (a : Nat → Int) : Nat → Nat → Int
  | 0, _ => 1
  | m + 1, k => if a k < 0 then 0 else gs_all a m (k + 1)
theorem gs_all_s {a : Nat → Int} {n k : Int} (h0 : 0 ≤ k) (hk : k < n) (h : ¬ a (Int.toNat k) < 0) : gs_all a (Int.toNat (n - k)) (Int.toNat k) = gs_all a (Int.toNat (n - (k + 1))) (Int.toNat (k + 1)) := by
  rw [show Int.toNat (n - k) = Int.toNat (n - (k + 1)) + 1 from by omega, show Int.toNat (k + 1) = Int.toNat k + 1 from by omega]
  show (if _ then _ else _) = _
  rw [if_neg h]
theorem gs_all_x {a : Nat → Int} {n k : Int} (hk : k < n) (h : a (Int.toNat k) < 0) : gs_all a (Int.toNat (n - k)) (Int.toNat k) = 0 := by
  rw [show Int.toNat (n - k) = Int.toNat (n - (k + 1)) + 1 from by omega]
  exact if_pos h
theorem gs_all_e {a : Nat → Int} {n k : Int} (hk : n ≤ k) : gs_all a (Int.toNat (n - k)) (Int.toNat k) = 1 := by
  rw [show Int.toNat (n - k) = 0 from by omega]
  rfl
/-- how many LINS a function has -/
def gs_cf (g : Nat → Int) (f : Int) : Nat → Int
  | 0 => 0
  | n + 1 => gs_cf g f n + (if g n = f then 1 else 0)
theorem gs_cf_y {g : Nat → Int} {f k : Int} (h0 : 0 ≤ k) (h : g (Int.toNat k) = f) : gs_cf g f (Int.toNat (k + 1)) = gs_cf g f (Int.toNat k) + 1 := by
  rw [show Int.toNat (k + 1) = Int.toNat k + 1 from by omega]
  show gs_cf g f (Int.toNat k) + (if _ then _ else _) = _
  rw [if_pos h]
theorem gs_cf_n {g : Nat → Int} {f k : Int} (h0 : 0 ≤ k) (h : ¬ g (Int.toNat k) = f) : gs_cf g f (Int.toNat (k + 1)) = gs_cf g f (Int.toNat k) := by
  rw [show Int.toNat (k + 1) = Int.toNat k + 1 from by omega]
  show gs_cf g f (Int.toNat k) + (if _ then _ else _) = _
  rw [if_neg h]
  omega
def gs_lf (I : gr_I) (j : Nat) : Int := I 41 (Int.toNat (384 * I 0 6 + (j : Int)))
def gs_ln7 (β : Int → Int) (N : Int) (I : gr_I) (first f q : Int) : Int := gs_done β N (if gs_cf (gs_lf I) f (Int.toNat (I 19 (Int.toNat (I 0 6)))) < 4 then 1 else 0) first q
def gs_ln6 (β : Int → Int) (N : Int) (I : gr_I) (first f fa : Int) (a : Nat → Int) (q : Int) : Int := if gs_all a (Int.toNat (I 6 (Int.toNat f))) 0 = 1 then gs_ln7 β N I first f q else -1 - fa
def gs_ln4 (β : Int → Int) (N : Int) (I : gr_I) (first f fa n i : Int) (a : Nat → Int) (q : Int) : Int := if gs_T β N q = 59 then (if n = 1 ∧ i < 0 ∧ I 8 (Int.toNat f) ≤ I 7 (Int.toNat (4 * f - 1 - i)) then -1 - a (Int.toNat (-1 - i)) else gs_ln6 β N I first f fa a q) else -1 - gs_A β N q
def gs_ln3 (β : Int → Int) (N : Int) (I : gr_I) (first f fa n i : Int) (a : Nat → Int) (q : Int) : Int := if q < 0 then q else if gs_cost β N q < 0 then gs_cost β N q else gs_ln4 β N I first f fa n i a (gs_cost β N q)
def gs_ln2 (β : Int → Int) (N : Int) (I : gr_I) (J : gr_J) (first f fa : Int) (w : Int × Int × Int × (Nat → Int)) : Int := if w.1 < 0 then w.1 else gs_ln3 β N I first f fa w.2.1 w.2.2.1 w.2.2.2 (gs_ls β N I J (I 6 (Int.toNat f)) w.2.2.2 1002 0 w.1)
theorem gs_ln2_x {β : Int → Int} {N : Int} {I : gr_I} {J : gr_J} {first f fa q n i : Int} {a : Nat → Int} (h : q < 0) : gs_ln2 β N I J first f fa (q, n, i, a) = q := if_pos h
theorem gs_ln2_e {β : Int → Int} {N : Int} {I : gr_I} {J : gr_J} {first f fa q n i : Int} {a : Nat → Int} (h : ¬ q < 0) : gs_ln2 β N I J first f fa (q, n, i, a) = gs_ln3 β N I first f fa n i a (gs_ls β N I J (I 6 (Int.toNat f)) a 1002 0 q) := if_neg h
def gs_ln1 (β : Int → Int) (N : Int) (I : gr_I) (J : gr_J) (first f fa q : Int) : Int := if q < 0 then q else if gs_T β N q = 3 ∨ gs_T β N q = 2 then gs_ln2 β N I J first f fa (gs_li β N I J (I 6 (Int.toNat f)) 1002 0 0 (fun _ => -1) q) else -1 - gs_A β N q
def gs_ln0 (β : Int → Int) (N : Int) (I : gr_I) (J : gr_J) (first f p : Int) : Int := if f < 0 ∨ I 6 (Int.toNat f) = 0 then -1 - gs_A β N p else gs_ln1 β N I J first f (gs_A β N p) (gs_need β N 61 (gs_X β N p))
/-- LIN -/
def gs_lin (β : Int → Int) (N : Int) (I : gr_I) (J : gr_J) (first p : Int) : Int := if gs_T β N p = 1 then gs_ln0 β N I J first (gs_lk I J 3 3 (gs_rn β N p)) p else -1 - gs_A β N p
def gs_Uln (f : Int) (I Iₚ : gr_I) : Prop := Iₚ 19 (Int.toNat (I 0 6)) = I 19 (Int.toNat (I 0 6)) + 1 ∧ (∀ j, ¬ j = Int.toNat (I 0 6) → Iₚ 19 j = I 19 j) ∧ Iₚ 41 (Int.toNat (384 * I 0 6 + I 19 (Int.toNat (I 0 6)))) = f ∧ ∀ j, ¬ j = Int.toNat (384 * I 0 6 + I 19 (Int.toNat (I 0 6))) → Iₚ 41 j = I 41 j
def gs_Sln (I Iₚ : gr_I) : Prop := ∀ j, Iₚ 19 j = I 19 j ∧ Iₚ 41 j = I 41 j
theorem gs_Uln_fr {f : Int} {I I1 I2 : gr_I} (h : gs_Uln f I I1) (h1 : ∀ j, I2 19 j = I1 19 j) (h2 : ∀ j, I2 41 j = I1 41 j) : gs_Uln f I I2 := ⟨(h1 _).trans h.1, fun j hj => (h1 j).trans (h.2.1 j hj), (h2 _).trans h.2.2.1, fun j hj => (h2 j).trans (h.2.2.2 j hj)⟩
theorem gs_Uln_mk {f : Int} {I I1 I2 I3 : gr_I} {a b : Nat} (h : gs_Sln I I1) (ha : a = Int.toNat (I 0 6)) (pa : ∀ x j, ¬ (x = 19 ∧ j = a) → I2 x j = I1 x j) (qa : I2 19 a = I 19 (Int.toNat (I 0 6)) + 1) (hb : b = Int.toNat (384 * I 0 6 + I 19 (Int.toNat (I 0 6)))) (pb : ∀ x j, ¬ (x = 41 ∧ j = b) → I3 x j = I2 x j) (qb : I3 41 b = f) : gs_Uln f I I3 := by
  subst ha hb
  refine ⟨?_, fun j hj => ?_, qb, fun j hj => ?_⟩
  · rw [pb 19 _ (fun q => absurd q.1 (by first | exact gz_ne rfl | decide))]
    exact qa
  · rw [pb 19 _ (fun q => absurd q.1 (by first | exact gz_ne rfl | decide)), pa 19 _ (fun q => hj q.2)]
    exact (h j).1
  · rw [pb 41 _ (fun q => hj q.2), pa 41 _ (fun q => absurd q.1 (by first | exact gz_ne rfl | decide))]
    exact (h j).2
theorem gs_a4_0 {I : gr_I} (h : ∀ j : Nat, (j : Int) < 4 → I 74 j = -1) : (fun _ => -1 : Nat → Int) = gs_a4 (I 74) := funext fun j => by
  unfold gs_a4
  by_cases c : j < 4
  · rw [if_pos c, h j (by omega)]
  · rw [if_neg c]
theorem gs_i0_0 {I : gr_I} (h : I 0 118 = 0) : gs_i0 I = 0 := if_pos h
theorem gs_i0_fr {I Iₚ : gr_I} (h1 : Iₚ 0 118 = I 0 118) (h2 : Iₚ 68 0 = I 68 0) : gs_i0 Iₚ = gs_i0 I := by
  unfold gs_i0
  rw [h1, h2]
theorem gs_i0_1 {I : gr_I} : I 0 118 = 1 → (I 68 (Int.toNat 0) < 0 → gs_i0 I = I 68 (Int.toNat 0)) ∧ (¬ I 68 (Int.toNat 0) < 0 → gs_i0 I = 0) := fun h => by
  unfold gs_i0
  rw [if_neg (show ¬ I 0 118 = 0 by omega)]
  exact ⟨fun q => if_pos q, fun q => if_neg q⟩
theorem gs_ws_eq {β : Int → Int} {N : Int} {I Iₚ : gr_I} {J Jₚ : gr_J} (h6 : Iₚ 0 6 = I 0 6) (h14 : ∀ k, Iₚ 14 k = I 14 k) (h24 : ∀ k, Iₚ 24 k = I 24 k) (h25 : ∀ k, Iₚ 25 k = I 25 k) (h21 : ∀ k, Jₚ 21 k = J 21 k) : ∀ (m : Nat) (k q : Int), gs_ws β N Iₚ Jₚ m k q = gs_ws β N I J m k q
  | 0, _, _ => rfl
  | m + 1, k, q => by
    show (if gs_T β N q = 1 then (if gs_ov β N Iₚ Jₚ k q < 0 then (gs_ov β N Iₚ Jₚ k q, k) else gs_ws β N Iₚ Jₚ m (gs_ovk β N Iₚ Jₚ k q) (gs_ov β N Iₚ Jₚ k q)) else (q, k)) = _
    rw [(gs_ov_eq h6 h14 h24 h25 h21).1, (gs_ov_eq h6 h14 h24 h25 h21).2, gs_ws_eq h6 h14 h24 h25 h21 m]
    rfl
theorem gs_it_eq {β : Int → Int} {N : Int} {I Iₚ : gr_I} {J Jₚ : gr_J} {nf n : Int} {a : Nat → Int} {p : Int} (h6 : Iₚ 0 6 = I 0 6) (h14 : ∀ k, Iₚ 14 k = I 14 k) (h24 : ∀ k, Iₚ 24 k = I 24 k) (h25 : ∀ k, Iₚ 25 k = I 25 k) (h21 : ∀ k, Jₚ 21 k = J 21 k) : gs_it β N Iₚ Jₚ nf n a p = gs_it β N I J nf n a p := by
  unfold gs_it gs_it2 gs_it3
  rw [gs_ws_eq h6 h14 h24 h25 h21]
theorem gs_said_eq {β : Int → Int} {N : Int} {I Iₚ : gr_I} {J Jₚ : gr_J} {nf ns : Int} {a : Nat → Int} {p : Int} (h6 : Iₚ 0 6 = I 0 6) (h13 : ∀ k, Iₚ 13 k = I 13 k) (h14 : ∀ k, Iₚ 14 k = I 14 k) (h20 : ∀ k, Jₚ 20 k = J 20 k) (h21 : ∀ k, Jₚ 21 k = J 21 k) : gs_said β N Iₚ Jₚ nf ns a p = gs_said β N I J nf ns a p := by
  have e : ∀ q, gs_fo β N Iₚ Jₚ q = gs_fo β N I J q := fun q => gs_fo_eq h6 h13 h20
  have v : ∀ q, gs_vl9 β N Iₚ Jₚ q = gs_vl9 β N I J q := fun q => by
    unfold gs_vl9
    rw [h14, h6]
    exact gs_lt_eq h21 rfl rfl rfl
  have e2 : ∀ q, gs_sa2 β N Iₚ Jₚ q = gs_sa2 β N I J q := fun q => by
    unfold gs_sa2
    rw [e]
  have e1 : ∀ q, gs_sa1 β N Iₚ Jₚ nf a q = gs_sa1 β N I J nf a q := fun q => by
    unfold gs_sa1
    rw [e2]
  have eg : ∀ q, gs_sg β N Iₚ Jₚ nf a q = gs_sg β N I J nf a q := fun q => by
    unfold gs_sg gs_sv
    rw [e2, v]
  unfold gs_said gs_said1 gs_said2
  rw [e1, eg]
theorem gs_R1_i {f : Int} {I : gr_I} (h : gr_R1 f I) (h1 : I 0 118 = 1) (h2 : I 68 (Int.toNat 0) < 0) : 0 ≤ I 74 (Int.toNat (-1 - I 68 (Int.toNat 0))) := by
  obtain ⟨⟨a, b⟩, _⟩ := h
  rw [h1] at a
  have e : gr_ng (I 68) 0 (Int.toNat 1) = 1 := by
    show gr_ng (I 68) 0 0 + (if I 68 (0 + 0) < 0 then 1 else 0) = 1
    rw [if_pos (show I 68 (0 + 0) < 0 from h2)]
    rfl
  rw [e] at a
  have key : ∃ x : Nat, x < 4 ∧ 0 ≤ I 74 x := by
    by_cases c0 : 0 ≤ I 74 0
    · exact ⟨0, by decide, c0⟩
    · by_cases c1 : 0 ≤ I 74 1
      · exact ⟨1, by decide, c1⟩
      · by_cases c2 : 0 ≤ I 74 2
        · exact ⟨2, by decide, c2⟩
        · by_cases c3 : 0 ≤ I 74 3
          · exact ⟨3, by decide, c3⟩
          · unfold gr_s4 at a
            rw [gr_b1_0 c0, gr_b1_0 c1, gr_b1_0 c2, gr_b1_0 c3] at a
            omega
  obtain ⟨x, hx, hx0⟩ := key
  obtain ⟨k, hk, ek⟩ := (b x hx hx0).2
  have k0 : k = 0 := by omega
  subst k0
  rw [show Int.toNat (-1 - I 68 (Int.toNat 0)) = x from by
    show Int.toNat (-1 - I 68 0) = x
    omega]
  exact hx0
