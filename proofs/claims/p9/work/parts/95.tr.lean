/-! PARITY, the class's side: LIN -/
theorem gs_SO_0 {I : gr_I} {a1 : Nat} {nf : Int} (h : ∀ j : Nat, j < 4 → I (a1 + 6) j = -1) : gs_SO I a1 nf (fun _ => -1) := fun j hj => by
  rw [h j hj]
  exact ⟨fun e => absurd e (by decide), fun e => absurd e.2 (show ¬ (0 : Int) ≤ -1 by decide)⟩
/-- a FUN's kind and its arguments' kinds, on both sides -/
def gs_KA (Ir I : gr_I) : Prop := ∀ f : Int, 0 ≤ f → f < I 4 1 → I 11 (Int.toNat f) = Ir 8 (Int.toNat f) ∧ ∀ j : Int, 0 ≤ j → j < I 12 (Int.toNat f) → I 13 (Int.toNat (f * 4 + j)) = Ir 7 (Int.toNat (4 * f + j))
theorem gs_ln1_x {β : Int → Int} {N : Int} {I : gr_I} {J : gr_J} {first f fa q : Int} (hq : ¬ q < 0) (h : gs_itm β N I J (I 6 (Int.toNat f)) q < 0) : gs_ln1 β N I J first f fa q = gs_itm β N I J (I 6 (Int.toNat f)) q := by
  unfold gs_ln1
  rw [if_neg hq]
  by_cases c : gs_T β N q = 3 ∨ gs_T β N q = 2
  · have e : gs_itm β N I J (I 6 (Int.toNat f)) q = (gs_li β N I J (I 6 (Int.toNat f)) 1002 0 0 (fun _ => -1) q).1 := if_pos c
    rw [if_pos c, e]
    rw [e] at h
    exact if_pos h
  · rw [if_neg c]
    exact (if_neg c).symm
theorem gs_ln1_e {β : Int → Int} {N : Int} {I : gr_I} {J : gr_J} {first f fa q : Int} (hq : ¬ q < 0) (hA : 0 ≤ gs_A β N q) (h : 0 ≤ gs_itm β N I J (I 6 (Int.toNat f)) q) : gs_ln1 β N I J first f fa q = gs_ln3 β N I first f fa (gs_li β N I J (I 6 (Int.toNat f)) 1002 0 0 (fun _ => -1) q).2.1 (gs_li β N I J (I 6 (Int.toNat f)) 1002 0 0 (fun _ => -1) q).2.2.1 (gs_li β N I J (I 6 (Int.toNat f)) 1002 0 0 (fun _ => -1) q).2.2.2 (gs_ls β N I J (I 6 (Int.toNat f)) (gs_li β N I J (I 6 (Int.toNat f)) 1002 0 0 (fun _ => -1) q).2.2.2 1002 0 (gs_itm β N I J (I 6 (Int.toNat f)) q)) := by
  unfold gs_ln1
  rw [if_neg hq]
  by_cases c : gs_T β N q = 3 ∨ gs_T β N q = 2
  · have e : gs_itm β N I J (I 6 (Int.toNat f)) q = (gs_li β N I J (I 6 (Int.toNat f)) 1002 0 0 (fun _ => -1) q).1 := if_pos c
    rw [if_pos c, e]
    rw [e] at h
    exact if_neg (by omega)
  · have e : gs_itm β N I J (I 6 (Int.toNat f)) q = -1 - gs_A β N q := if_neg c
    omega
theorem gs_FF_b {n i : Int} {a : Nat → Int} {A0 : Int} {a1 : Nat} {I : gr_I} (h : gs_FF n i a A0 a1 I) (hn : n = 1) (h0 : 0 ≤ I (a1 + 1) 0) : i = -1 - I (a1 + 1) 0 ∧ a (Int.toNat (-1 - i)) = A0 := by
  rcases h with h | h | ⟨_, h2, h3⟩
  · omega
  · omega
  · refine ⟨h2, ?_⟩
    rw [h2, show -1 - (-1 - I (a1 + 1) 0) = I (a1 + 1) 0 from by omega]
    exact h3 hn
theorem gs_FF_g {n i : Int} {a : Nat → Int} {A0 : Int} {a1 : Nat} {I : gr_I} (h : gs_FF n i a A0 a1 I) (hn : n = 1) (h0 : I (a1 + 1) 0 < 0) : 0 ≤ i := by
  rcases h with h | h | ⟨h1, _, _⟩
  · omega
  · exact h.2
  · omega
/-- one piece, and that an argument of no smaller kind: the place of the piece is wrong -/
theorem gs_ln4_b {β : Int → Int} {N : Int} {I : gr_I} {first f fa n i : Int} {a : Nat → Int} {q : Int} (hT : gs_T β N q = 59) (hn : n = 1) (hi : i < 0) (hk : I 8 (Int.toNat f) ≤ I 7 (Int.toNat (4 * f - 1 - i))) : gs_ln4 β N I first f fa n i a q = -1 - a (Int.toNat (-1 - i)) := (if_pos hT).trans (if_pos ⟨hn, hi, hk⟩)
theorem gs_ln4_g {β : Int → Int} {N : Int} {I : gr_I} {first f fa n i : Int} {a : Nat → Int} {q : Int} (hT : gs_T β N q = 59) (h : ¬ n = 1 ∨ 0 ≤ i ∨ I 7 (Int.toNat (4 * f - 1 - i)) < I 8 (Int.toNat f)) : gs_ln4 β N I first f fa n i a q = gs_ln6 β N I first f fa a q := (if_pos hT).trans (if_neg (fun e => by
  have e1 := e.1
  have e2 := e.2.1
  have e3 := e.2.2
  omega))
theorem gs_need_p {β : Int → Int} {N c p : Int} (h : 0 ≤ gs_need β N c p) (hA : 0 ≤ gs_A β N p) : gs_T β N p = c ∧ gs_need β N c p = gs_X β N p := by
  by_cases c9 : gs_T β N p = c
  · exact ⟨c9, if_pos c9⟩
  · have e : gs_need β N c p = -1 - gs_A β N p := if_neg c9
    omega
section LN
variable {β : Int → Int} {N : Int} {I : gr_I} {J : gr_J} {first f fa n i q p : Int} {a : Nat → Int}
theorem gs_lin_a (hT : gs_T β N p = 1) (h : gs_lk I J 3 3 (gs_rn β N p) < 0 ∨ I 6 (Int.toNat (gs_lk I J 3 3 (gs_rn β N p))) = 0) : gs_lin β N I J first p = -1 - gs_A β N p := (if_pos hT).trans (if_pos h)
theorem gs_lin_e (hT : gs_T β N p = 1) (h : ¬ (gs_lk I J 3 3 (gs_rn β N p) < 0 ∨ I 6 (Int.toNat (gs_lk I J 3 3 (gs_rn β N p))) = 0)) : gs_lin β N I J first p = gs_ln1 β N I J first (gs_lk I J 3 3 (gs_rn β N p)) (gs_A β N p) (gs_need β N 61 (gs_X β N p)) := (if_pos hT).trans (if_neg h)
theorem gs_lin_z (hT : ¬ gs_T β N p = 1) : gs_lin β N I J first p = -1 - gs_A β N p := if_neg hT
theorem gs_ln1_q (h : q < 0) : gs_ln1 β N I J first f fa q = q := if_pos h
theorem gs_ln3_s (h : q < 0) : gs_ln3 β N I first f fa n i a q = q := if_pos h
theorem gs_ln3_c (h : ¬ q < 0) (hc : gs_cost β N q < 0) : gs_ln3 β N I first f fa n i a q = gs_cost β N q := (if_neg h).trans (if_pos hc)
theorem gs_ln3_e (h : ¬ q < 0) (hc : ¬ gs_cost β N q < 0) : gs_ln3 β N I first f fa n i a q = gs_ln4 β N I first f fa n i a (gs_cost β N q) := (if_neg h).trans (if_neg hc)
theorem gs_ln4_n (hT : ¬ gs_T β N q = 59) : gs_ln4 β N I first f fa n i a q = -1 - gs_A β N q := if_neg hT
theorem gs_ln6_n (h : ¬ gs_all a (Int.toNat (I 6 (Int.toNat f))) 0 = 1) : gs_ln6 β N I first f fa a q = -1 - fa := if_neg h
theorem gs_ln6_f (h : gs_all a (Int.toNat (I 6 (Int.toNat f))) 0 = 1) (hT : gs_T β N q = 59) (hc : 4 ≤ gs_cf (gs_lf I) f (Int.toNat (I 19 (Int.toNat (I 0 6))))) : gs_ln6 β N I first f fa a q = -1 - first := by
  have e : gs_ln6 β N I first f fa a q = gs_ln7 β N I first f q := if_pos h
  rw [e]
  unfold gs_ln7 gs_done
  rw [if_pos hT, if_neg (show ¬ gs_cf (gs_lf I) f (Int.toNat (I 19 (Int.toNat (I 0 6)))) < 4 by omega), if_pos rfl]
theorem gs_ln6_y (h : gs_all a (Int.toNat (I 6 (Int.toNat f))) 0 = 1) (hT : gs_T β N q = 59) (hc : gs_cf (gs_lf I) f (Int.toNat (I 19 (Int.toNat (I 0 6)))) < 4) : gs_ln6 β N I first f fa a q = gs_X β N q := by
  have e : gs_ln6 β N I first f fa a q = gs_ln7 β N I first f q := if_pos h
  rw [e]
  unfold gs_ln7 gs_done
  rw [if_pos hT, if_pos hc, if_neg (by decide)]
end LN
set_option maxHeartbeats 8000000 in
set_option maxRecDepth 100000 in
theorem d_X6_readLin_h_p {ws0 : List Cond} {tb : String → gz_T} (hws : gc_Ws ws0) (htb : gc_tbs tb) (sh : gz_Sh) (ro : Nat → Nat) (I : gr_I) (J : gr_J) (A : gc_A) (hI : gc_Inv ro I) (B : Int) (β : Int → Int) (η : Int) (p9 : Int) (Ir : gr_I) (Jr : gr_J)  (hb : gc_Base sh ro A)  (x0 : B ≤ 1280 ∧ I 1 17 + I 23 1 ≤ B + I 23 5) (x1 : gc_AT β η p9 23 I J) (x2 : 0 ≤ p9) (x3 : I 4 1 = Ir 0 3) (x4 : gs_NA (I 4 1) (J 5) (Jr 3)) (KLT_I : gc_LT I) (KTK_I : gc_TK I) {Q : gz_S → Prop} (hQ : ∀ v, gv_Q cX6_readLin (some .boolean) sh (fun r hₚ => (∃ (Iₚ : gr_I) (Jₚ : gr_J), hₚ = gc_h sh Iₚ Jₚ A ∧ gc_Inv ro Iₚ ∧ (∀ q j : Nat, ((q = 39 ∧ j = 3) ∨ (q = 39 ∧ j = 4) ∨ (q = 23 ∧ j = 5) ∨ (q = 23 ∧ j = 6) ∨ (q = 23 ∧ j = 7) ∨ (q = 23 ∧ j = 8) ∨ (q = 1 ∧ j = 17) ∨ (q = 1 ∧ j = 18) ∨ q = 20) ∨ Iₚ q j = I q j) ∧ (∀ q j : Nat, ((q = 23 ∧ j = 9)) ∨ Jₚ q j = J q j) ∧ gc_LT Iₚ ∧ gc_TK Iₚ ∧ (∃ z : Int, r = some (.inl z) ∧ 0 ≤ z ∧ z ≤ 1 ∧ (Iₚ 23 1 = I 23 1) ∧ (I 23 5 ≤ Iₚ 23 5) ∧ (B ≤ 1280 ∧ Iₚ 1 17 + Iₚ 23 1 ≤ B + Iₚ 23 5) ∧ (z = 0) ∧ (gc_PKs I Iₚ) ∧ ((gs_lin β η Ir Jr (I 39 5) p9) < 0 ∧ Iₚ 39 4 = -1 - (gs_lin β η Ir Jr (I 39 5) p9))))) v → Q v) (L24 : ∀ (I9 : gr_I) (J10 : gr_J) (v1_11 : Int), gc_Inv ro I9 → (∀ q j : Nat, ((q = 39 ∧ j = 3) ∨ (q = 39 ∧ j = 4) ∨ (q = 23 ∧ j = 5) ∨ (q = 23 ∧ j = 6) ∨ (q = 23 ∧ j = 7) ∨ (q = 23 ∧ j = 8) ∨ (q = 1 ∧ j = 17) ∨ (q = 1 ∧ j = 18) ∨ q = 20) ∨ I9 q j = I q j) → (∀ q j : Nat, ((q = 23 ∧ j = 9)) ∨ J10 q j = J q j) → gc_LT I9 → gc_TK I9 → gc_PKs I I9 → ((0 ≤ v1_11 ∧ v1_11 ≤ 1000) ∧ (I9 23 7 = 1) ∧ (v1_11 = gs_A β η p9) ∧ (I9 1 18 = I 1 18) ∧ (I9 23 1 = I 23 1) ∧ (I 23 5 ≤ I9 23 5) ∧ (B ≤ 1280 ∧ I9 1 17 + I9 23 1 ≤ B + I9 23 5)) → (0 ≤ gc_fd (J10 (4 + 1)) (J10 23 9) (Int.toNat (I9 4 1))) → (gc_AT β η p9 23 I9 J10) → gv_X (gc_E6 ws0 tb 8 (yX6_readLin, cX6_readLin, 4, (some .boolean)) kX6_readLin) Q (24, [(0, .inr (.inr (some 39))), (1, .inl v1_11)], [], sh, gc_h sh I9 J10 A)) : gv_X (gc_E6 ws0 tb 8 (yX6_readLin, cX6_readLin, 4, (some .boolean)) kX6_readLin) Q (0, [(0, .inr (.inr (some 39)))], [], sh, gc_h sh I J A) := by
  have FI : ∀ q j : Nat, ((q = 39 ∧ j = 3) ∨ (q = 39 ∧ j = 4) ∨ (q = 23 ∧ j = 5) ∨ (q = 23 ∧ j = 6) ∨ (q = 23 ∧ j = 7) ∨ (q = 23 ∧ j = 8) ∨ (q = 1 ∧ j = 17) ∨ (q = 1 ∧ j = 18) ∨ q = 20) ∨ I q j = I q j := fun _ _ => Or.inr rfl
  have FJ : ∀ q j : Nat, ((q = 23 ∧ j = 9)) ∨ J q j = J q j := fun _ _ => Or.inr rfl
  have A_1_1 : A 1 1 = some 4 := gc_bA_1_1 hb
  have A_39_0 : A 39 0 = some 1 := gc_bA_39_0 hb
  have A_39_1 : A 39 1 = some 23 := gc_bA_39_1 hb
  have B_1 := gz_hi (show 1 < 1000000 from by decide)
  have B_23 := gz_hi (show 23 < 1000000 from by decide)
  have B_39 := gz_hi (show 39 < 1000000 from by decide)
  have R_1 := gz_hi (show ro 1 = 22 from gc_bR_1 hb)
  have R_23 := gz_hi (show ro 23 = 3 from gc_bR_23 hb)
  have R_4 := gz_hi (show ro 4 = 11 from gc_bR_4 hb)
  have S_1 : sh[1]? = some (false, 8, 21) := gc_bS_1 hb
  have S_23 : sh[23]? = some (false, 9, 10) := gc_bS_23 hb
  have S_39 : sh[39]? = some (false, 6, 19) := gc_bS_39 hb
  have hD : gv_D (gc_E6 ws0 tb 8 (yX6_readLin, cX6_readLin, 4, (some .boolean)) kX6_readLin) := gq_of oX6_readLin
  have KPK_I : gc_PKs I I := gc_PKs_rf
  have f3 := gz_hi ((gc_b_3_5 hI (gz_sh R_23)))
  have tAT := gc_AT_l x1
  refine gv_run 2 true hD (pcₚ := 2) (lvₚ := [(0, .inr (.inr (some 39)))]) (stₚ := [.inr (.inr (some 39)), .inr (.inr (some 39))]) (hₚ := gc_h sh I J A) (C := ((True ∧ True) ∧ True)) rfl ⟨⟨trivial, trivial⟩, trivial⟩ ?_
  refine gv_get hD rfl rfl S_39 ⟨by decide, (gz_sh B_39)⟩ (gc_hA S_39 rfl A_39_0) ?_
  show gv_X _ _ (5, [(0, .inr (.inr (some 39)))], [.inr (.inr (some 1)), .inr (.inr (some 39))], sh, gc_h sh I J A)
  refine gv_get hD rfl rfl S_1 ⟨by decide, (gz_sh B_1)⟩ (gc_hA S_1 rfl A_1_1) ?_
  show gv_X _ _ (8, [(0, .inr (.inr (some 39)))], [.inr (.inr (some 4)), .inr (.inr (some 39))], sh, gc_h sh I J A)
  obtain ⟨r12, h12, E12, P12⟩ := d_X6_needKnown_p (ws0 := ws0) (tb := tb) hws htb sh ro I J A hI  96 11 β η p9 4 hb (gc_b4 hb)   x1 (by (/-0-/first | omega | (simp only [gz_hd] at *; omega))) 
  obtain ⟨I13, J14, rfl, hI13, g12, k12, ⟨z12, rfl, q12⟩⟩ := P12
  replace q12 := gz_hi q12
  have FI13 := gc_frc (W := fun q j => (q = 39 ∧ j = 3) ∨ (q = 39 ∧ j = 4) ∨ (q = 23 ∧ j = 5) ∨ (q = 23 ∧ j = 6) ∨ (q = 23 ∧ j = 7) ∨ (q = 23 ∧ j = 8) ∨ (q = 1 ∧ j = 17) ∨ (q = 1 ∧ j = 18) ∨ q = 20) (V := fun q j => (q = 39 ∧ j = 3) ∨ (q = 39 ∧ j = 4)) FI (fun q j h => (h.elim (fun h => (Or.inl h)) (fun h => (Or.inr (Or.inl h))))) g12
  have t15 := gz_hi ((g12 23 1).resolve_left (fun h => h.elim (fun h => absurd h.2 (by first | exact gz_ne rfl | decide)) (fun h => absurd h.2 (by first | exact gz_ne rfl | decide))))
  have t16 := gz_hi ((g12 23 5).resolve_left (fun h => h.elim (fun h => absurd h.2 (by first | exact gz_ne rfl | decide)) (fun h => absurd h.2 (by first | exact gz_ne rfl | decide))))
  have t18 := gz_hi ((g12 23 7).resolve_left (fun h => h.elim (fun h => absurd h.2 (by first | exact gz_ne rfl | decide)) (fun h => absurd h.2 (by first | exact gz_ne rfl | decide))))
  have t19 := gz_hi ((g12 1 17).resolve_left (fun h => h.elim (fun h => absurd h.2 (by first | exact gz_ne rfl | decide)) (fun h => absurd h.2 (by first | exact gz_ne rfl | decide))))
  have t20 := gz_hi ((g12 4 1).resolve_left (fun h => h.elim (fun h => absurd h.2 (by first | exact gz_ne rfl | decide)) (fun h => absurd h.2 (by first | exact gz_ne rfl | decide))))
  have t21 := gz_hi ((g12 1 18).resolve_left (fun h => h.elim (fun h => absurd h.2 (by first | exact gz_ne rfl | decide)) (fun h => absurd h.2 (by first | exact gz_ne rfl | decide))))
  obtain rfl : J = J14 := funext fun q => funext fun j => ((k12 q j).resolve_left id).symm
  have KLT_I13 := gc_LT_fr KLT_I ((g12 23 5).resolve_left (fun h => h.elim (fun h => absurd h.2 (by first | exact gz_ne rfl | decide)) (fun h => absurd h.2 (by first | exact gz_ne rfl | decide)))) ((g12 23 6).resolve_left (fun h => h.elim (fun h => absurd h.2 (by first | exact gz_ne rfl | decide)) (fun h => absurd h.2 (by first | exact gz_ne rfl | decide)))) ((g12 23 7).resolve_left (fun h => h.elim (fun h => absurd h.2 (by first | exact gz_ne rfl | decide)) (fun h => absurd h.2 (by first | exact gz_ne rfl | decide)))) (fun k => (g12 24 k).resolve_left (fun h => h.elim (fun h => absurd h.1 (by first | exact gz_ne rfl | decide)) (fun h => absurd h.1 (by first | exact gz_ne rfl | decide))))
  have KTK_I13 := gc_TK_fr KTK_I ((g12 23 1).resolve_left (fun h => h.elim (fun h => absurd h.2 (by first | exact gz_ne rfl | decide)) (fun h => absurd h.2 (by first | exact gz_ne rfl | decide)))) ((g12 23 5).resolve_left (fun h => h.elim (fun h => absurd h.2 (by first | exact gz_ne rfl | decide)) (fun h => absurd h.2 (by first | exact gz_ne rfl | decide)))) ((g12 23 6).resolve_left (fun h => h.elim (fun h => absurd h.2 (by first | exact gz_ne rfl | decide)) (fun h => absurd h.2 (by first | exact gz_ne rfl | decide)))) ((g12 23 7).resolve_left (fun h => h.elim (fun h => absurd h.2 (by first | exact gz_ne rfl | decide)) (fun h => absurd h.2 (by first | exact gz_ne rfl | decide))))
  have KPK_I13 := gc_PKs_fr KPK_I ((g12 1 17).resolve_left (fun h => h.elim (fun h => absurd h.2 (by first | exact gz_ne rfl | decide)) (fun h => absurd h.2 (by first | exact gz_ne rfl | decide)))) (fun k => (g12 20 k).resolve_left (fun h => h.elim (fun h => absurd h.1 (by first | exact gz_ne rfl | decide)) (fun h => absurd h.1 (by first | exact gz_ne rfl | decide))))
  have A22 := gc_AT_I x1 ((g12 23 1).resolve_left (fun h => h.elim (fun h => absurd h.2 (by first | exact gz_ne rfl | decide)) (fun h => absurd h.2 (by first | exact gz_ne rfl | decide)))) ((g12 23 5).resolve_left (fun h => h.elim (fun h => absurd h.2 (by first | exact gz_ne rfl | decide)) (fun h => absurd h.2 (by first | exact gz_ne rfl | decide)))) ((g12 23 6).resolve_left (fun h => h.elim (fun h => absurd h.2 (by first | exact gz_ne rfl | decide)) (fun h => absurd h.2 (by first | exact gz_ne rfl | decide)))) ((g12 23 7).resolve_left (fun h => h.elim (fun h => absurd h.2 (by first | exact gz_ne rfl | decide)) (fun h => absurd h.2 (by first | exact gz_ne rfl | decide)))) ((g12 23 8).resolve_left (fun h => h.elim (fun h => absurd h.2 (by first | exact gz_ne rfl | decide)) (fun h => absurd h.2 (by first | exact gz_ne rfl | decide)))) (fun k => (g12 24 k).resolve_left (fun h => h.elim (fun h => absurd h.1 (by first | exact gz_ne rfl | decide)) (fun h => absurd h.1 (by first | exact gz_ne rfl | decide))))
  refine gv_callV hD rfl (As := [.inr (.inr (some 4))]) (st := []) rfl (gz_sh B_39) S_39 rfl (gc_lV6 hws rfl) (Nat.le_of_ble_eq_true rfl) (gz_Ev_mono (d := 3) (by decide) E12) ?_
  show gv_X _ _ (11, [(0, .inr (.inr (some 39)))], [.inl z12], sh, gc_h sh I13 J A)
  refine gv_if_ne (t := 16) hD rfl rfl ⟨by (/-1-/first | (have o1 := gz_sh q12; omega) | (simp only [gz_hd] at *; omega)), by (/-2-/first | (have o1 := gz_sh q12; omega) | (simp only [gz_hd] at *; omega))⟩ (fun c24 => ?_) (fun c24 => ?_)
  · show gv_X _ _ (16, [(0, .inr (.inr (some 39)))], [], sh, gc_h sh I13 J A)
    have u25 := gs_or1 (gz_sh q12).2.2.2 (by (/-3-/first | omega | (simp only [gz_hd] at *; omega)))
    have L12 : gs_T β η p9 = 1 → gc_fd (J (4 + 1)) (gs_M β η p9) (Int.toNat (I 4 1)) = gs_lk Ir Jr 3 3 (gs_rn β η p9) := (fun h => by exact gs_NA_lk x4 x3 h)
    have t26 := gz_hi (L12 (by (/-4-/first | omega | (simp only [gz_hd] at *; omega))))
    refine gv_run 1 true hD (pcₚ := 17) (lvₚ := [(0, .inr (.inr (some 39)))]) (stₚ := [.inr (.inr (some 39))]) (hₚ := gc_h sh I13 J A) (C := (True ∧ True)) rfl ⟨trivial, trivial⟩ ?_
    refine gv_get hD rfl rfl S_39 ⟨by decide, (gz_sh B_39)⟩ (gc_hA S_39 rfl A_39_1) ?_
    show gv_X _ _ (20, [(0, .inr (.inr (some 39)))], [.inr (.inr (some 23))], sh, gc_h sh I13 J A)
    refine gv_get hD rfl rfl S_23 ⟨by decide, (gz_sh B_23)⟩ (gc_hI S_23 rfl) ?_
    show gv_X _ _ (23, [(0, .inr (.inr (some 39)))], [.inl (I13 23 5)], sh, gc_h sh I13 J A)
    refine gv_run 1 true hD (pcₚ := 24) (lvₚ := [(1, .inl (I13 23 5)), (0, .inr (.inr (some 39)))]) (stₚ := []) (hₚ := gc_h sh I13 J A) (C := (True ∧ True)) rfl ⟨trivial, trivial⟩ ?_
    refine gv_pick [1, 0] rfl ?_
    exact L24 I13 J (I13 23 5) hI13 FI13 FJ KLT_I13 KTK_I13 KPK_I13 (by (/-5-/first | (and_intros; (have o1 := gz_sh f3; have o2 := gz_sh t16; omega); (have o1 := gz_sh f3; have o2 := gz_sh t16; omega); (have o1 := gz_sh t18; omega); (have o1 := gz_sh t16; omega); (have o1 := gz_sh t21; omega); (have o1 := gz_sh t15; omega); (have o1 := gz_sh t16; omega); (omega); (have o1 := gz_sh t15; have o2 := gz_sh t16; have o3 := gz_sh t19; omega)) | (simp only [gz_hd] at *; omega))) (by rw [gc_AT_m A22 (by (/-6-/first | omega | (simp only [gz_hd] at *; omega))), show I13 4 1 = I 4 1 from by (/-7-/first | (have o1 := gz_sh t20; omega) | (simp only [gz_hd] at *; omega))]; (/-8-/first | omega | (simp only [gz_hd] at *; omega))) A22
  · show gv_X _ _ (14, [(0, .inr (.inr (some 39)))], [], sh, gc_h sh I13 J A)
    have u28 := gs_or0 (gz_sh q12).2.2.2 (by (/-9-/first | omega | (simp only [gz_hd] at *; omega)))
    have L12 : gs_T β η p9 = 1 → gc_fd (J (4 + 1)) (gs_M β η p9) (Int.toNat (I 4 1)) = gs_lk Ir Jr 3 3 (gs_rn β η p9) := (fun h => by exact gs_NA_lk x4 x3 h)
    refine gv_run 1 true hD (pcₚ := 15) (lvₚ := [(0, .inr (.inr (some 39)))]) (stₚ := [.inl 0]) (hₚ := gc_h sh I13 J A) (C := (True ∧ True)) rfl ⟨trivial, trivial⟩ ?_
    exact gv_Xm hQ (gv_zret hD rfl (by (/-10-/first | omega | (simp only [gz_hd] at *; omega))) ⟨I13, J, rfl, hI13, FI13, FJ, KLT_I13, KTK_I13, ⟨_, rfl, by (/-11-/first | omega | (simp only [gz_hd] at *; omega)), by (/-12-/first | omega | (simp only [gz_hd] at *; omega)), by (/-13-/first | (have o1 := gz_sh t15; omega) | (simp only [gz_hd] at *; omega)), by (/-14-/first | (have o1 := gz_sh t16; omega) | (simp only [gz_hd] at *; omega)), by (/-15-/first | (and_intros; (omega); (have o1 := gz_sh t15; have o2 := gz_sh t16; have o3 := gz_sh t19; omega)) | (simp only [gz_hd] at *; omega)), by (/-16-/first | omega | (simp only [gz_hd] at *; omega)), KPK_I13, (by by_cases c9 : gs_T β η p9 = 1; (have h9 := L12 c9; rw [gs_lin_a c9 (Or.inl (by (/-17-/first | omega | (simp only [gz_hd] at *; omega))))]; exact ⟨by (/-18-/first | (have o1 := gz_sh f3; omega) | (simp only [gz_hd] at *; omega)), by (/-19-/first | omega | (simp only [gz_hd] at *; omega))⟩); (rw [gs_lin_z c9]; exact ⟨by (/-20-/first | (have o1 := gz_sh f3; omega) | (simp only [gz_hd] at *; omega)), by (/-21-/first | omega | (simp only [gz_hd] at *; omega))⟩))⟩⟩)
