/-! FEED: the twenty bytes that both sides lay on THE TAPE. -/
/-- eight bits of a, n places up, as a signed number -/
def gs_yb (a : Int) (n : Nat) : Int := (Int8.ofBitVec (((Int32.ofInt a).toBitVec.sshiftRight n).signExtend 8)).toInt32.toInt
theorem gs_sr (X : BitVec 32) (n : Nat) (h : n ≤ 24) : (X.sshiftRight n).signExtend 8 = (X >>> n).signExtend 8 := by
  rw [BitVec.signExtend_eq_setWidth_of_le _ (by decide), BitVec.signExtend_eq_setWidth_of_le _ (by decide)]
  apply BitVec.eq_of_getLsbD_eq
  intro i hi
  have h1 : n + i < 32 := by omega
  have h2 : ¬ 32 ≤ i := by omega
  rw [BitVec.getLsbD_setWidth, BitVec.getLsbD_setWidth, BitVec.getLsbD_sshiftRight, BitVec.getLsbD_ushiftRight, if_pos h1, decide_eq_false h2]
  rfl
theorem gs_yb0 (a : Int) : (Int32.ofInt a).toInt8.toInt32.toInt = gs_yb a 0 := by
  unfold gs_yb
  rw [BitVec.sshiftRight_zero]
  rfl
theorem gs_ybc (a k : Int) (n : Nat) (h : ((Int32.ofInt k &&& 31).toBitVec.smod 32).toNat = n) : (Int32.ofInt ((Int32.ofInt a >>> (Int32.ofInt k &&& 31)).toInt)).toInt8.toInt32.toInt = gs_yb a n := by
  rw [Int32.ofInt_toInt, ← h]
  rfl
theorem gs_ybr (a k : Int) (n : Nat) (h : (((Int32.ofInt k).toUInt32 &&& Int32.toUInt32 31) % 32).toBitVec.toNat = n) (hn : n ≤ 24) : (Int32.ofInt (((Int32.ofInt a).toUInt32 >>> ((Int32.ofInt k).toUInt32 &&& Int32.toUInt32 31)).toInt32.toInt)).toInt8.toInt32.toInt = gs_yb a n := by
  rw [Int32.ofInt_toInt]
  have e : ((Int32.ofInt a).toUInt32 >>> ((Int32.ofInt k).toUInt32 &&& Int32.toUInt32 31)).toInt32.toInt8 = Int8.ofBitVec (((Int32.ofInt a).toBitVec >>> (((Int32.ofInt k).toUInt32 &&& Int32.toUInt32 31) % 32).toBitVec.toNat).signExtend 8) := rfl
  rw [e, h]
  unfold gs_yb
  rw [gs_sr _ _ hn]
/-- d bytes of a, its first ones, lie from place o on; all ahead of o is as it was -/
def gs_F4 (a : Int) (o d : Nat) (r r' : Nat → Int) : Prop := (∀ j, j < o → r' j = r j) ∧ ∀ e, e < d → r' (o + e) = gs_yb a (24 - 8 * e)
theorem gs_F4_0 (a : Int) (o : Nat) (r : Nat → Int) : gs_F4 a o 0 r r := ⟨fun _ _ => rfl, fun e he => absurd he (Nat.not_lt_zero e)⟩
theorem gs_F4_s {a : Int} {o d k : Nat} {r r' r2 : Nat → Int} (h : gs_F4 a o d r r') (hk : k = o + d) (h1 : r2 k = gs_yb a (24 - 8 * d)) (h2 : ∀ j, ¬ j = k → r2 j = r' j) : gs_F4 a o (d + 1) r r2 := by
  refine ⟨fun j hj => (h2 j (by omega)).trans (h.1 j hj), fun e he => ?_⟩
  by_cases c : e = d
  · rw [c, ← hk]
    exact h1
  · exact (h2 (o + e) (by omega)).trans (h.2 e (by omega))
theorem gs_F4_eq {a : Int} {o : Nat} {c c' r r' : Nat → Int} (h : gs_F4 a o 4 c c') (g : gs_F4 a o 4 r r') (e : ∀ j, j < o → c j = r j) : ∀ j, j < o + 4 → c' j = r' j := fun j hj => by
  by_cases k : j < o
  · rw [h.1 j k, g.1 j k, e j k]
  · have x := h.2 (j - o) (by omega)
    have y := g.2 (j - o) (by omega)
    rw [show o + (j - o) = j by omega] at x y
    rw [x, y]
def gs_F5 (a1 a2 a3 a4 a5 : Int) (o : Nat) (r r' : Nat → Int) : Prop := ∃ r1 r2 r3 r4 : Nat → Int, gs_F4 a1 o 4 r r1 ∧ gs_F4 a2 (o + 4) 4 r1 r2 ∧ gs_F4 a3 (o + 8) 4 r2 r3 ∧ gs_F4 a4 (o + 12) 4 r3 r4 ∧ gs_F4 a5 (o + 16) 4 r4 r'
theorem gs_F5_eq {a1 a2 a3 a4 a5 : Int} {o : Nat} {c c' r r' : Nat → Int} (h : gs_F5 a1 a2 a3 a4 a5 o c c') (g : gs_F5 a1 a2 a3 a4 a5 o r r') (e : ∀ j, j < o → c j = r j) : ∀ j, j < o + 20 → c' j = r' j := by
  obtain ⟨c1, c2, c3, c4, h1, h2, h3, h4, h5⟩ := h
  obtain ⟨r1, r2, r3, r4, g1, g2, g3, g4, g5⟩ := g
  exact gs_F4_eq h5 g5 (gs_F4_eq h4 g4 (gs_F4_eq h3 g3 (gs_F4_eq h2 g2 (gs_F4_eq h1 g1 e))))
set_option maxHeartbeats 8000000 in
set_option maxRecDepth 100000 in
theorem d_X9_put_b {ws0 : List Cond} {tb : String → gz_T} (hws : gc_Ws ws0) (htb : gc_tbs tb) (sh : gz_Sh) (ro : Nat → Nat) (I : gr_I) (J : gr_J) (A : gc_A) (hI : gc_Inv ro I) (p : Nat) (a1 : Int) (hp : gc_isText sh ro A p) (ha1 : (-2147483648) ≤ a1 ∧ a1 ≤ 2147483647) (x0 : I p 1 ≤ 999) : ∃ r hₚ, gz_Ev ws0 tb 1 (yX9_put, cX9_put, 2, none) [.inr (.inr (some p)), .inl a1] sh (gc_h sh I J A) r sh hₚ 0 0 ∧ (∃ (Iₚ : gr_I) (Jₚ : gr_J), hₚ = gc_h sh Iₚ Jₚ A ∧ gc_Inv ro Iₚ ∧ (∀ q j : Nat, ((q = p ∧ j = 1) ∨ (q = (p + 1) ∧ (I p 1 ≤ (j : Int)))) ∨ Iₚ q j = I q j) ∧ (∀ q j : Nat, (False) ∨ Jₚ q j = J q j) ∧ r = none ∧ (Iₚ p 1 = I p 1 + 1) ∧ (Iₚ (p + 1) (Int.toNat (I p 1)) = (Int32.ofInt a1).toInt8.toInt32.toInt) ∧ (∀ j : Nat, ¬ j = Int.toNat (I p 1) → Iₚ (p + 1) j = I (p + 1) j)) := by
  have FI : ∀ q j : Nat, ((q = p ∧ j = 1) ∨ (q = (p + 1) ∧ (I p 1 ≤ (j : Int)))) ∨ I q j = I q j := fun _ _ => Or.inr rfl
  have FJ : ∀ q j : Nat, (False) ∨ J q j = J q j := fun _ _ => Or.inr rfl
  obtain ⟨S_p, R_p, B_p, A_p_0, S_p_1, R_p_1, B_p_1, A_p_2, S_p_2, R_p_2, B_p_2, A_p_3, S_p_3, R_p_3, B_p_3⟩ := id hp
  replace R_p := gz_hi R_p
  replace B_p := gz_hi B_p
  replace R_p_1 := gz_hi R_p_1
  replace B_p_1 := gz_hi B_p_1
  replace R_p_2 := gz_hi R_p_2
  replace B_p_2 := gz_hi B_p_2
  replace R_p_3 := gz_hi R_p_3
  replace B_p_3 := gz_hi B_p_3
  have hD : gv_D (gc_E9 ws0 tb 0 (yX9_put, cX9_put, 2, none) kX9_put) := gq_of oX9_put
  refine gc_ev9 (d := 0) (l := kX9_put) (Po := fun r hₚ => (∃ (Iₚ : gr_I) (Jₚ : gr_J), hₚ = gc_h sh Iₚ Jₚ A ∧ gc_Inv ro Iₚ ∧ (∀ q j : Nat, ((q = p ∧ j = 1) ∨ (q = (p + 1) ∧ (I p 1 ≤ (j : Int)))) ∨ Iₚ q j = I q j) ∧ (∀ q j : Nat, (False) ∨ Jₚ q j = J q j) ∧ r = none ∧ (Iₚ p 1 = I p 1 + 1) ∧ (Iₚ (p + 1) (Int.toNat (I p 1)) = (Int32.ofInt a1).toInt8.toInt32.toInt) ∧ (∀ j : Nat, ¬ j = Int.toNat (I p 1) → Iₚ (p + 1) j = I (p + 1) j))) htb rfl (Nat.le_of_ble_eq_true rfl) ?_
  have N_p__p_1 := gz_hi (show ¬ (p = (p + 1)) from by (/-0-/first | omega | (simp only [gz_hd] at *; omega)))
  have f1 := gz_hi ((show 0 ≤ I p 1 ∧ I p 1 ≤ 1000 from gc_in2 hI (gz_sh R_p) rfl rfl rfl))
  refine gv_run 1 true hD (pcₚ := 1) (lvₚ := [(0, .inr (.inr (some p))), (1, .inl a1)]) (stₚ := [.inr (.inr (some p))]) (hₚ := gc_h sh I J A) (C := (True ∧ True)) rfl ⟨trivial, trivial⟩ ?_
  refine gv_get hD rfl rfl S_p ⟨by decide, (gz_sh B_p)⟩ (gc_hI S_p rfl) ?_
  show gv_X _ _ (4, [(0, .inr (.inr (some p))), (1, .inl a1)], [.inl (I p 1)], sh, gc_h sh I J A)
  refine gv_run 1 true hD (pcₚ := 7) (lvₚ := [(0, .inr (.inr (some p))), (1, .inl a1)]) (stₚ := [.inl 1000, .inl (I p 1)]) (hₚ := gc_h sh I J A) (C := (True ∧ True)) rfl ⟨trivial, trivial⟩ ?_
  refine gv_icmp_ge (t := 28) hD rfl rfl ⟨⟨by (/-1-/first | (have o1 := gz_sh f1; omega) | (simp only [gz_hd] at *; omega)), by (/-2-/first | omega | (simp only [gz_hd] at *; omega))⟩, ⟨by (/-3-/first | omega | (simp only [gz_hd] at *; omega)), by (/-4-/first | omega | (simp only [gz_hd] at *; omega))⟩⟩ (fun c7 => ?_) (fun c7 => ?_)
  · show gv_X _ _ (28, [(0, .inr (.inr (some p))), (1, .inl a1)], [], sh, gc_h sh I J A)
    exfalso; (/-5-/first | (have o1 := gz_sh f1; omega) | (simp only [gz_hd] at *; omega))
  · show gv_X _ _ (10, [(0, .inr (.inr (some p))), (1, .inl a1)], [], sh, gc_h sh I J A)
    refine gv_run 1 true hD (pcₚ := 11) (lvₚ := [(0, .inr (.inr (some p))), (1, .inl a1)]) (stₚ := [.inr (.inr (some p))]) (hₚ := gc_h sh I J A) (C := (True ∧ True)) rfl ⟨trivial, trivial⟩ ?_
    refine gv_get hD rfl rfl S_p ⟨by decide, (gz_sh B_p)⟩ (gc_hA S_p rfl A_p_0) ?_
    show gv_X _ _ (14, [(0, .inr (.inr (some p))), (1, .inl a1)], [.inr (.inr (some (p + 1)))], sh, gc_h sh I J A)
    refine gv_run 2 true hD (pcₚ := 16) (lvₚ := [(0, .inr (.inr (some p))), (1, .inl a1)]) (stₚ := [.inr (.inr (some p)), .inr (.inr (some p)), .inr (.inr (some (p + 1)))]) (hₚ := gc_h sh I J A) (C := ((True ∧ True) ∧ True)) rfl ⟨⟨trivial, trivial⟩, trivial⟩ ?_
    refine gv_get hD rfl rfl S_p ⟨by decide, (gz_sh B_p)⟩ (gc_hI S_p rfl) ?_
    show gv_X _ _ (19, [(0, .inr (.inr (some p))), (1, .inl a1)], [.inl (I p 1), .inr (.inr (some p)), .inr (.inr (some (p + 1)))], sh, gc_h sh I J A)
    refine gv_run 3 true hD (pcₚ := 22) (lvₚ := [(0, .inr (.inr (some p))), (1, .inl a1)]) (stₚ := [.inl ((I p 1) + 1), .inr (.inr (some p)), .inl (I p 1), .inr (.inr (some (p + 1)))]) (hₚ := gc_h sh I J A) (C := (((True ∧ True) ∧ True) ∧ True)) rfl ⟨⟨⟨trivial, trivial⟩, trivial⟩, trivial⟩ ?_
    refine gv_put hD rfl rfl S_p ⟨by decide, (gz_sh B_p)⟩ rfl trivial ?_
    refine gc_st (k := 1) hI S_p rfl (gz_sh R_p) (lo := 0) (hi := 1000) rfl rfl (by (/-6-/first | (have o1 := gz_sh f1; omega) | (simp only [gz_hd] at *; omega))) (by (/-7-/first | omega | (simp only [gz_hd] at *; omega))) (fun I9 hI9 q10 p10 => ?_)
    have FI9 := gc_frs (W := fun q j => (q = p ∧ j = 1) ∨ (q = (p + 1) ∧ (I p 1 ≤ (j : Int)))) FI (Or.inl ⟨rfl, rfl⟩) p10
    show gv_X _ _ (25, [(0, .inr (.inr (some p))), (1, .inl a1)], [.inl (I p 1), .inr (.inr (some (p + 1)))], sh, gc_h sh I9 J A)
    have f12 := gz_hi (gw_i2b (x := a1))
    refine gv_run 2 true hD (pcₚ := 27) (lvₚ := [(0, .inr (.inr (some p))), (1, .inl a1)]) (stₚ := [.inl ((Int32.ofInt a1).toInt8.toInt32.toInt), .inl (I p 1), .inr (.inr (some (p + 1)))]) (hₚ := gc_h sh I9 J A) (C := ((True ∧ True) ∧ True)) rfl ⟨⟨trivial, trivial⟩, trivial⟩ ?_
    have f13 := gz_hi (gc_nar (x := (((Int32.ofInt a1).toInt8.toInt32.toInt))) ⟨by (/-8-/first | (have o1 := gz_sh f12; omega) | (simp only [gz_hd] at *; omega)), by (/-9-/first | (have o1 := gz_sh f12; omega) | (simp only [gz_hd] at *; omega))⟩)
    refine gv_bast hD rfl S_p_1 ⟨by decide, (gz_sh B_p_1)⟩ ⟨by (/-10-/first | (have o1 := gz_sh f1; omega) | (simp only [gz_hd] at *; omega)), by (/-11-/first | omega | (simp only [gz_hd] at *; omega))⟩ ?_
    refine gc_st hI9 S_p_1 rfl (gz_sh R_p_1) (lo := (-128)) (hi := 127) rfl rfl (by (/-12-/first | (have o1 := gz_sh f12; have o2 := gz_sh f13; omega) | (simp only [gz_hd] at *; omega))) (by (/-13-/first | (have o1 := gz_sh f12; have o2 := gz_sh f13; omega) | (simp only [gz_hd] at *; omega))) (fun I14 hI14 q15 p15 => ?_)
    have FI14 := gc_frs (W := fun q j => (q = p ∧ j = 1) ∨ (q = (p + 1) ∧ (I p 1 ≤ (j : Int)))) FI9 (Or.inr ⟨rfl, by (/-14-/first | omega | (simp only [gz_hd] at *; omega))⟩) p15
    have t16 := gz_hi (p15 p 1 (fun h => absurd h.1 (gz_sh N_p__p_1)))
    show gv_X _ _ (28, [(0, .inr (.inr (some p))), (1, .inl a1)], [], sh, gc_h sh I14 J A)
    refine gv_pick [] rfl ?_
    exact gv_vret hD rfl ⟨I14, J, rfl, hI14, FI14, FJ, ⟨rfl, by (/-15-/first | (have o1 := gz_sh t16; omega) | (simp only [gz_hd] at *; omega)), q15.trans (gz_sh f13), fun j hj => (p15 (p + 1) j (fun h => hj h.2)).trans (p10 (p + 1) j (fun h => absurd h.1.symm (gz_sh N_p__p_1)))⟩⟩
set_option maxHeartbeats 8000000 in
set_option maxRecDepth 100000 in
theorem d_X9_putFour_b {ws0 : List Cond} {tb : String → gz_T} (hws : gc_Ws ws0) (htb : gc_tbs tb) (sh : gz_Sh) (ro : Nat → Nat) (I : gr_I) (J : gr_J) (A : gc_A) (hI : gc_Inv ro I) (p : Nat) (a1 : Int) (hp : gc_isText sh ro A p) (ha1 : (-2147483648) ≤ a1 ∧ a1 ≤ 2147483647) (x0 : I p 1 ≤ 996) : ∃ r hₚ, gz_Ev ws0 tb 2 (yX9_putFour, cX9_putFour, 2, none) [.inr (.inr (some p)), .inl a1] sh (gc_h sh I J A) r sh hₚ 0 0 ∧ (∃ (Iₚ : gr_I) (Jₚ : gr_J), hₚ = gc_h sh Iₚ Jₚ A ∧ gc_Inv ro Iₚ ∧ (∀ q j : Nat, ((q = p ∧ j = 1) ∨ (q = (p + 1) ∧ (I p 1 ≤ (j : Int)))) ∨ Iₚ q j = I q j) ∧ (∀ q j : Nat, (False) ∨ Jₚ q j = J q j) ∧ r = none ∧ (Iₚ p 1 = I p 1 + 4) ∧ (gs_F4 a1 (Int.toNat (I p 1)) 4 (I (p + 1)) (Iₚ (p + 1)))) := by
  have FI : ∀ q j : Nat, ((q = p ∧ j = 1) ∨ (q = (p + 1) ∧ (I p 1 ≤ (j : Int)))) ∨ I q j = I q j := fun _ _ => Or.inr rfl
  have FJ : ∀ q j : Nat, (False) ∨ J q j = J q j := fun _ _ => Or.inr rfl
  obtain ⟨S_p, R_p, B_p, A_p_0, S_p_1, R_p_1, B_p_1, A_p_2, S_p_2, R_p_2, B_p_2, A_p_3, S_p_3, R_p_3, B_p_3⟩ := id hp
  replace R_p := gz_hi R_p
  replace B_p := gz_hi B_p
  replace R_p_1 := gz_hi R_p_1
  replace B_p_1 := gz_hi B_p_1
  replace R_p_2 := gz_hi R_p_2
  replace B_p_2 := gz_hi B_p_2
  replace R_p_3 := gz_hi R_p_3
  replace B_p_3 := gz_hi B_p_3
  have hD : gv_D (gc_E9 ws0 tb 1 (yX9_putFour, cX9_putFour, 2, none) kX9_putFour) := gq_of oX9_putFour
  refine gc_ev9 (d := 1) (l := kX9_putFour) (Po := fun r hₚ => (∃ (Iₚ : gr_I) (Jₚ : gr_J), hₚ = gc_h sh Iₚ Jₚ A ∧ gc_Inv ro Iₚ ∧ (∀ q j : Nat, ((q = p ∧ j = 1) ∨ (q = (p + 1) ∧ (I p 1 ≤ (j : Int)))) ∨ Iₚ q j = I q j) ∧ (∀ q j : Nat, (False) ∨ Jₚ q j = J q j) ∧ r = none ∧ (Iₚ p 1 = I p 1 + 4) ∧ (gs_F4 a1 (Int.toNat (I p 1)) 4 (I (p + 1)) (Iₚ (p + 1))))) htb rfl (Nat.le_of_ble_eq_true rfl) ?_
  have f1 := gz_hi ((show 0 ≤ I p 1 ∧ I p 1 ≤ 1000 from gc_in2 hI (gz_sh R_p) rfl rfl rfl))
  have f2 := gz_hi (gw_any (Int32.ofInt a1 >>> (Int32.ofInt 24 &&& 31)))
  refine gv_run 4 true hD (pcₚ := 5) (lvₚ := [(0, .inr (.inr (some p))), (1, .inl a1)]) (stₚ := [.inl ((Int32.ofInt a1 >>> (Int32.ofInt 24 &&& 31)).toInt), .inr (.inr (some p))]) (hₚ := gc_h sh I J A) (C := ((((True ∧ True) ∧ True) ∧ True) ∧ True)) rfl ⟨⟨⟨⟨trivial, trivial⟩, trivial⟩, trivial⟩, trivial⟩ ?_
  obtain ⟨r3, h3, E3, P3⟩ := d_X9_put_b (ws0 := ws0) (tb := tb) hws htb sh ro I J A hI p (((Int32.ofInt a1 >>> (Int32.ofInt 24 &&& 31)).toInt)) hp   ⟨by (/-0-/first | (have o1 := gz_sh f2; omega) | (simp only [gz_hd] at *; omega)), by (/-1-/first | (have o1 := gz_sh f2; omega) | (simp only [gz_hd] at *; omega))⟩ (by (/-2-/first | omega | (simp only [gz_hd] at *; omega)))
  obtain ⟨I4, J5, rfl, hI4, g3, k3, ⟨rfl, q3, u3, v3⟩⟩ := P3
  replace q3 := gz_hi q3
  have w1 := gs_F4_s (gs_F4_0 a1 (Int.toNat (I p 1)) (I (p + 1))) (by (/-3-/first | omega | (simp only [gz_hd] at *; omega))) (u3.trans (gs_ybc a1 24 24 (by decide))) v3
  have FI4 := gc_frc (W := fun q j => (q = p ∧ j = 1) ∨ (q = (p + 1) ∧ (I p 1 ≤ (j : Int)))) (V := fun q j => (q = p ∧ j = 1) ∨ (q = (p + 1) ∧ (I p 1 ≤ (j : Int)))) FI (fun q j h => (h.elim (fun h => (Or.inl h)) (fun h => (Or.inr h)))) g3
  obtain rfl : J = J5 := funext fun q => funext fun j => ((k3 q j).resolve_left id).symm
  refine gv_callV hD rfl (As := [.inl ((Int32.ofInt a1 >>> (Int32.ofInt 24 &&& 31)).toInt)]) (st := []) rfl (gz_sh B_p) S_p rfl (gc_lV9 hws rfl) (Nat.le_of_ble_eq_true rfl) (gz_Ev_mono (d := 1) (by decide) E3) ?_
  show gv_X _ _ (8, [(0, .inr (.inr (some p))), (1, .inl a1)], [], sh, gc_h sh I4 J A)
  have f7 := gz_hi (gw_any (Int32.ofInt a1 >>> (Int32.ofInt 16 &&& 31)))
  refine gv_run 4 true hD (pcₚ := 13) (lvₚ := [(0, .inr (.inr (some p))), (1, .inl a1)]) (stₚ := [.inl ((Int32.ofInt a1 >>> (Int32.ofInt 16 &&& 31)).toInt), .inr (.inr (some p))]) (hₚ := gc_h sh I4 J A) (C := ((((True ∧ True) ∧ True) ∧ True) ∧ True)) rfl ⟨⟨⟨⟨trivial, trivial⟩, trivial⟩, trivial⟩, trivial⟩ ?_
  obtain ⟨r8, h8, E8, P8⟩ := d_X9_put_b (ws0 := ws0) (tb := tb) hws htb sh ro I4 J A hI4 p (((Int32.ofInt a1 >>> (Int32.ofInt 16 &&& 31)).toInt)) hp   ⟨by (/-4-/first | (have o1 := gz_sh f7; omega) | (simp only [gz_hd] at *; omega)), by (/-5-/first | (have o1 := gz_sh f7; omega) | (simp only [gz_hd] at *; omega))⟩ (by (/-6-/first | (have o1 := gz_sh q3; omega) | (simp only [gz_hd] at *; omega)))
  obtain ⟨I9, J10, rfl, hI9, g8, k8, ⟨rfl, q8, u8, v8⟩⟩ := P8
  replace q8 := gz_hi q8
  have w2 := gs_F4_s w1 (by (/-7-/first | (have o1 := gz_sh f1; have o2 := gz_sh q3; have o3 := gz_sh q8; omega) | (simp only [gz_hd] at *; omega))) (u8.trans (gs_ybc a1 16 16 (by decide))) v8
  have FI9 := gc_frc (W := fun q j => (q = p ∧ j = 1) ∨ (q = (p + 1) ∧ (I p 1 ≤ (j : Int)))) (V := fun q j => (q = p ∧ j = 1) ∨ (q = (p + 1) ∧ (I4 p 1 ≤ (j : Int)))) FI4 (fun q j h => (h.elim (fun h => (Or.inl h)) (fun h => (Or.inr ⟨h.1, by have h9 := h.2; (/-8-/first | (have o1 := gz_sh q3; omega) | (simp only [gz_hd] at *; omega))⟩)))) g8
  obtain rfl : J = J10 := funext fun q => funext fun j => ((k8 q j).resolve_left id).symm
  refine gv_callV hD rfl (As := [.inl ((Int32.ofInt a1 >>> (Int32.ofInt 16 &&& 31)).toInt)]) (st := []) rfl (gz_sh B_p) S_p rfl (gc_lV9 hws rfl) (Nat.le_of_ble_eq_true rfl) (gz_Ev_mono (d := 1) (by decide) E8) ?_
  show gv_X _ _ (16, [(0, .inr (.inr (some p))), (1, .inl a1)], [], sh, gc_h sh I9 J A)
  have f12 := gz_hi (gw_any (Int32.ofInt a1 >>> (Int32.ofInt 8 &&& 31)))
  refine gv_run 4 true hD (pcₚ := 21) (lvₚ := [(0, .inr (.inr (some p))), (1, .inl a1)]) (stₚ := [.inl ((Int32.ofInt a1 >>> (Int32.ofInt 8 &&& 31)).toInt), .inr (.inr (some p))]) (hₚ := gc_h sh I9 J A) (C := ((((True ∧ True) ∧ True) ∧ True) ∧ True)) rfl ⟨⟨⟨⟨trivial, trivial⟩, trivial⟩, trivial⟩, trivial⟩ ?_
  obtain ⟨r13, h13, E13, P13⟩ := d_X9_put_b (ws0 := ws0) (tb := tb) hws htb sh ro I9 J A hI9 p (((Int32.ofInt a1 >>> (Int32.ofInt 8 &&& 31)).toInt)) hp   ⟨by (/-9-/first | (have o1 := gz_sh f12; omega) | (simp only [gz_hd] at *; omega)), by (/-10-/first | (have o1 := gz_sh f12; omega) | (simp only [gz_hd] at *; omega))⟩ (by (/-11-/first | (have o1 := gz_sh q3; have o2 := gz_sh q8; omega) | (simp only [gz_hd] at *; omega)))
  obtain ⟨I14, J15, rfl, hI14, g13, k13, ⟨rfl, q13, u13, v13⟩⟩ := P13
  replace q13 := gz_hi q13
  have w3 := gs_F4_s w2 (by (/-12-/first | (have o1 := gz_sh f1; have o2 := gz_sh q13; have o3 := gz_sh q3; have o4 := gz_sh q8; omega) | (simp only [gz_hd] at *; omega))) (u13.trans (gs_ybc a1 8 8 (by decide))) v13
  have FI14 := gc_frc (W := fun q j => (q = p ∧ j = 1) ∨ (q = (p + 1) ∧ (I p 1 ≤ (j : Int)))) (V := fun q j => (q = p ∧ j = 1) ∨ (q = (p + 1) ∧ (I9 p 1 ≤ (j : Int)))) FI9 (fun q j h => (h.elim (fun h => (Or.inl h)) (fun h => (Or.inr ⟨h.1, by have h9 := h.2; (/-13-/first | (have o1 := gz_sh q3; have o2 := gz_sh q8; omega) | (simp only [gz_hd] at *; omega))⟩)))) g13
  obtain rfl : J = J15 := funext fun q => funext fun j => ((k13 q j).resolve_left id).symm
  refine gv_callV hD rfl (As := [.inl ((Int32.ofInt a1 >>> (Int32.ofInt 8 &&& 31)).toInt)]) (st := []) rfl (gz_sh B_p) S_p rfl (gc_lV9 hws rfl) (Nat.le_of_ble_eq_true rfl) (gz_Ev_mono (d := 1) (by decide) E13) ?_
  show gv_X _ _ (24, [(0, .inr (.inr (some p))), (1, .inl a1)], [], sh, gc_h sh I14 J A)
  refine gv_run 2 true hD (pcₚ := 26) (lvₚ := [(0, .inr (.inr (some p))), (1, .inl a1)]) (stₚ := [.inl a1, .inr (.inr (some p))]) (hₚ := gc_h sh I14 J A) (C := ((True ∧ True) ∧ True)) rfl ⟨⟨trivial, trivial⟩, trivial⟩ ?_
  obtain ⟨r17, h17, E17, P17⟩ := d_X9_put_b (ws0 := ws0) (tb := tb) hws htb sh ro I14 J A hI14 p a1 hp   ⟨by (/-14-/first | omega | (simp only [gz_hd] at *; omega)), by (/-15-/first | omega | (simp only [gz_hd] at *; omega))⟩ (by (/-16-/first | (have o1 := gz_sh q13; have o2 := gz_sh q3; have o3 := gz_sh q8; omega) | (simp only [gz_hd] at *; omega)))
  obtain ⟨I18, J19, rfl, hI18, g17, k17, ⟨rfl, q17, u17, v17⟩⟩ := P17
  replace q17 := gz_hi q17
  have w4 := gs_F4_s w3 (by (/-17-/first | (have o1 := gz_sh f1; have o2 := gz_sh q13; have o3 := gz_sh q17; have o4 := gz_sh q3; have o5 := gz_sh q8; omega) | (simp only [gz_hd] at *; omega))) (u17.trans (gs_yb0 a1)) v17
  have FI18 := gc_frc (W := fun q j => (q = p ∧ j = 1) ∨ (q = (p + 1) ∧ (I p 1 ≤ (j : Int)))) (V := fun q j => (q = p ∧ j = 1) ∨ (q = (p + 1) ∧ (I14 p 1 ≤ (j : Int)))) FI14 (fun q j h => (h.elim (fun h => (Or.inl h)) (fun h => (Or.inr ⟨h.1, by have h9 := h.2; (/-18-/first | (have o1 := gz_sh q13; have o2 := gz_sh q3; have o3 := gz_sh q8; omega) | (simp only [gz_hd] at *; omega))⟩)))) g17
  obtain rfl : J = J19 := funext fun q => funext fun j => ((k17 q j).resolve_left id).symm
  refine gv_callV hD rfl (As := [.inl a1]) (st := []) rfl (gz_sh B_p) S_p rfl (gc_lV9 hws rfl) (Nat.le_of_ble_eq_true rfl) (gz_Ev_mono (d := 1) (by decide) E17) ?_
  show gv_X _ _ (29, [(0, .inr (.inr (some p))), (1, .inl a1)], [], sh, gc_h sh I18 J A)
  exact gv_vret hD rfl ⟨I18, J, rfl, hI18, FI18, FJ, ⟨rfl, by (/-19-/first | (have o1 := gz_sh q13; have o2 := gz_sh q17; have o3 := gz_sh q3; have o4 := gz_sh q8; omega) | (simp only [gz_hd] at *; omega)), w4⟩⟩
set_option maxHeartbeats 8000000 in
set_option maxRecDepth 100000 in
theorem d_X12_feed_b {ws0 : List Cond} {tb : String → gz_T} (hws : gc_Ws ws0) (htb : gc_tbs tb) (sh : gz_Sh) (ro : Nat → Nat) (I : gr_I) (J : gr_J) (A : gc_A) (hI : gc_Inv ro I) (a1 : Int) (a2 : Int) (a3 : Int) (a4 : Int) (a5 : Int) (hb : gc_Base sh ro A) (ha1 : (-2147483648) ≤ a1 ∧ a1 ≤ 2147483647) (ha2 : (-2147483648) ≤ a2 ∧ a2 ≤ 2147483647) (ha3 : (-2147483648) ≤ a3 ∧ a3 ≤ 2147483647) (ha4 : (-2147483648) ≤ a4 ∧ a4 ≤ 2147483647) (ha5 : (-2147483648) ≤ a5 ∧ a5 ≤ 2147483647) (x0 : I 23 1 ≤ 980) : ∃ r hₚ, gz_Ev ws0 tb 3 (yX12_feed, cX12_feed, 6, (some .int)) [.inr (.inr (some 0)), .inl a1, .inl a2, .inl a3, .inl a4, .inl a5] sh (gc_h sh I J A) r sh hₚ 0 0 ∧ (∃ (Iₚ : gr_I) (Jₚ : gr_J), hₚ = gc_h sh Iₚ Jₚ A ∧ gc_Inv ro Iₚ ∧ (∀ q j : Nat, ((q = 23 ∧ j = 1) ∨ (q = 24 ∧ (I 23 1 ≤ (j : Int)))) ∨ Iₚ q j = I q j) ∧ (∀ q j : Nat, (False) ∨ Jₚ q j = J q j) ∧ (∃ z : Int, r = some (.inl z) ∧ 0 ≤ z ∧ z ≤ 1000 ∧ (z = I 23 1 + 20) ∧ (Iₚ 23 1 = I 23 1 + 20) ∧ (gs_F5 a1 a2 a3 a4 a5 (Int.toNat (I 23 1)) (I 24) (Iₚ 24)))) := by
  have FI : ∀ q j : Nat, ((q = 23 ∧ j = 1) ∨ (q = 24 ∧ (I 23 1 ≤ (j : Int)))) ∨ I q j = I q j := fun _ _ => Or.inr rfl
  have FJ : ∀ q j : Nat, (False) ∨ J q j = J q j := fun _ _ => Or.inr rfl
  have A_0_1 : A 0 1 = some 23 := gc_bA_0_1 hb
  have B_0 := gz_hi (show 0 < 1000000 from by decide)
  have B_23 := gz_hi (show 23 < 1000000 from by decide)
  have R_23 := gz_hi (show ro 23 = 3 from gc_bR_23 hb)
  have S_0 : sh[0]? = some (false, 12, 17) := gc_bS_0 hb
  have S_23 : sh[23]? = some (false, 9, 10) := gc_bS_23 hb
  have hD : gv_D (gc_E12 ws0 tb 2 (yX12_feed, cX12_feed, 6, (some .int)) kX12_feed) := gq_of oX12_feed
  refine gc_ev12 (d := 2) (l := kX12_feed) (Po := fun r hₚ => (∃ (Iₚ : gr_I) (Jₚ : gr_J), hₚ = gc_h sh Iₚ Jₚ A ∧ gc_Inv ro Iₚ ∧ (∀ q j : Nat, ((q = 23 ∧ j = 1) ∨ (q = 24 ∧ (I 23 1 ≤ (j : Int)))) ∨ Iₚ q j = I q j) ∧ (∀ q j : Nat, (False) ∨ Jₚ q j = J q j) ∧ (∃ z : Int, r = some (.inl z) ∧ 0 ≤ z ∧ z ≤ 1000 ∧ (z = I 23 1 + 20) ∧ (Iₚ 23 1 = I 23 1 + 20) ∧ (gs_F5 a1 a2 a3 a4 a5 (Int.toNat (I 23 1)) (I 24) (Iₚ 24))))) htb rfl (Nat.le_of_ble_eq_true rfl) ?_
  have f1 := gz_hi ((gc_b_3_1 hI (gz_sh R_23)))
  refine gv_run 1 true hD (pcₚ := 1) (lvₚ := [(0, .inr (.inr (some 0))), (1, .inl a1), (2, .inl a2), (3, .inl a3), (4, .inl a4), (5, .inl a5)]) (stₚ := [.inr (.inr (some 0))]) (hₚ := gc_h sh I J A) (C := (True ∧ True)) rfl ⟨trivial, trivial⟩ ?_
  refine gv_get hD rfl rfl S_0 ⟨by decide, (gz_sh B_0)⟩ (gc_hA S_0 rfl A_0_1) ?_
  show gv_X _ _ (4, [(0, .inr (.inr (some 0))), (1, .inl a1), (2, .inl a2), (3, .inl a3), (4, .inl a4), (5, .inl a5)], [.inr (.inr (some 23))], sh, gc_h sh I J A)
  refine gv_get hD rfl rfl S_23 ⟨by decide, (gz_sh B_23)⟩ (gc_hI S_23 rfl) ?_
  show gv_X _ _ (7, [(0, .inr (.inr (some 0))), (1, .inl a1), (2, .inl a2), (3, .inl a3), (4, .inl a4), (5, .inl a5)], [.inl (I 23 1)], sh, gc_h sh I J A)
  refine gv_run 3 true hD (pcₚ := 13) (lvₚ := [(0, .inr (.inr (some 0))), (1, .inl a1), (2, .inl a2), (3, .inl a3), (4, .inl a4), (5, .inl a5)]) (stₚ := [.inl 1000, .inl ((I 23 1) + 20)]) (hₚ := gc_h sh I J A) (C := (((True ∧ True) ∧ True) ∧ True)) rfl ⟨⟨⟨trivial, trivial⟩, trivial⟩, trivial⟩ ?_
  refine gv_icmp_le (t := 26) hD rfl rfl ⟨⟨by (/-0-/first | (have o1 := gz_sh f1; omega) | (simp only [gz_hd] at *; omega)), by (/-1-/first | omega | (simp only [gz_hd] at *; omega))⟩, ⟨by (/-2-/first | omega | (simp only [gz_hd] at *; omega)), by (/-3-/first | omega | (simp only [gz_hd] at *; omega))⟩⟩ (fun c3 => ?_) (fun c3 => ?_)
  · show gv_X _ _ (26, [(0, .inr (.inr (some 0))), (1, .inl a1), (2, .inl a2), (3, .inl a3), (4, .inl a4), (5, .inl a5)], [], sh, gc_h sh I J A)
    refine gv_run 1 true hD (pcₚ := 27) (lvₚ := [(0, .inr (.inr (some 0))), (1, .inl a1), (2, .inl a2), (3, .inl a3), (4, .inl a4), (5, .inl a5)]) (stₚ := [.inr (.inr (some 0))]) (hₚ := gc_h sh I J A) (C := (True ∧ True)) rfl ⟨trivial, trivial⟩ ?_
    refine gv_get hD rfl rfl S_0 ⟨by decide, (gz_sh B_0)⟩ (gc_hA S_0 rfl A_0_1) ?_
    show gv_X _ _ (30, [(0, .inr (.inr (some 0))), (1, .inl a1), (2, .inl a2), (3, .inl a3), (4, .inl a4), (5, .inl a5)], [.inr (.inr (some 23))], sh, gc_h sh I J A)
    refine gv_run 1 true hD (pcₚ := 31) (lvₚ := [(0, .inr (.inr (some 0))), (1, .inl a1), (2, .inl a2), (3, .inl a3), (4, .inl a4), (5, .inl a5)]) (stₚ := [.inl a1, .inr (.inr (some 23))]) (hₚ := gc_h sh I J A) (C := (True ∧ True)) rfl ⟨trivial, trivial⟩ ?_
    obtain ⟨r4, h4, E4, P4⟩ := d_X9_putFour_b (ws0 := ws0) (tb := tb) hws htb sh ro I J A hI 23 a1 (gc_b23 hb)   ⟨by (/-4-/first | omega | (simp only [gz_hd] at *; omega)), by (/-5-/first | omega | (simp only [gz_hd] at *; omega))⟩ (by (/-6-/first | omega | (simp only [gz_hd] at *; omega))) 
    obtain ⟨I5, J6, rfl, hI5, g4, k4, ⟨rfl, q4, u4⟩⟩ := P4
    replace q4 := gz_hi q4
    have w1 : gs_F4 a1 (Int.toNat (I 23 1)) 4 (I 24) (I5 24) := (show Int.toNat (I 23 1) = Int.toNat (I 23 1) by (/-7-/first | omega | (simp only [gz_hd] at *; omega))) ▸ u4
    have FI5 := gc_frc (W := fun q j => (q = 23 ∧ j = 1) ∨ (q = 24 ∧ (I 23 1 ≤ (j : Int)))) (V := fun q j => (q = 23 ∧ j = 1) ∨ (q = 24 ∧ (I 23 1 ≤ (j : Int)))) FI (fun q j h => (h.elim (fun h => (Or.inl h)) (fun h => (Or.inr h)))) g4
    obtain rfl : J = J6 := funext fun q => funext fun j => ((k4 q j).resolve_left id).symm
    refine gv_callV hD rfl (As := [.inl a1]) (st := []) rfl (gz_sh B_23) S_23 rfl (gc_lV12 hws rfl) (Nat.le_of_ble_eq_true rfl) (gz_Ev_mono (d := 2) (by decide) E4) ?_
    show gv_X _ _ (34, [(0, .inr (.inr (some 0))), (1, .inl a1), (2, .inl a2), (3, .inl a3), (4, .inl a4), (5, .inl a5)], [], sh, gc_h sh I5 J A)
    refine gv_run 1 true hD (pcₚ := 35) (lvₚ := [(0, .inr (.inr (some 0))), (1, .inl a1), (2, .inl a2), (3, .inl a3), (4, .inl a4), (5, .inl a5)]) (stₚ := [.inr (.inr (some 0))]) (hₚ := gc_h sh I5 J A) (C := (True ∧ True)) rfl ⟨trivial, trivial⟩ ?_
    refine gv_get hD rfl rfl S_0 ⟨by decide, (gz_sh B_0)⟩ (gc_hA S_0 rfl A_0_1) ?_
    show gv_X _ _ (38, [(0, .inr (.inr (some 0))), (1, .inl a1), (2, .inl a2), (3, .inl a3), (4, .inl a4), (5, .inl a5)], [.inr (.inr (some 23))], sh, gc_h sh I5 J A)
    refine gv_run 1 true hD (pcₚ := 39) (lvₚ := [(0, .inr (.inr (some 0))), (1, .inl a1), (2, .inl a2), (3, .inl a3), (4, .inl a4), (5, .inl a5)]) (stₚ := [.inl a2, .inr (.inr (some 23))]) (hₚ := gc_h sh I5 J A) (C := (True ∧ True)) rfl ⟨trivial, trivial⟩ ?_
    obtain ⟨r8, h8, E8, P8⟩ := d_X9_putFour_b (ws0 := ws0) (tb := tb) hws htb sh ro I5 J A hI5 23 a2 (gc_b23 hb)   ⟨by (/-8-/first | omega | (simp only [gz_hd] at *; omega)), by (/-9-/first | omega | (simp only [gz_hd] at *; omega))⟩ (by (/-10-/first | (have o1 := gz_sh q4; omega) | (simp only [gz_hd] at *; omega))) 
    obtain ⟨I9, J10, rfl, hI9, g8, k8, ⟨rfl, q8, u8⟩⟩ := P8
    replace q8 := gz_hi q8
    have w2 : gs_F4 a2 (Int.toNat (I 23 1) + 4) 4 (I5 24) (I9 24) := (show Int.toNat (I 23 1) + 4 = Int.toNat (I5 23 1) by (/-11-/first | (have o1 := gz_sh f1; have o2 := gz_sh q4; have o3 := gz_sh q8; omega) | (simp only [gz_hd] at *; omega))) ▸ u8
    have FI9 := gc_frc (W := fun q j => (q = 23 ∧ j = 1) ∨ (q = 24 ∧ (I 23 1 ≤ (j : Int)))) (V := fun q j => (q = 23 ∧ j = 1) ∨ (q = 24 ∧ (I5 23 1 ≤ (j : Int)))) FI5 (fun q j h => (h.elim (fun h => (Or.inl h)) (fun h => (Or.inr ⟨h.1, by have h9 := h.2; (/-12-/first | (have o1 := gz_sh q4; omega) | (simp only [gz_hd] at *; omega))⟩)))) g8
    obtain rfl : J = J10 := funext fun q => funext fun j => ((k8 q j).resolve_left id).symm
    refine gv_callV hD rfl (As := [.inl a2]) (st := []) rfl (gz_sh B_23) S_23 rfl (gc_lV12 hws rfl) (Nat.le_of_ble_eq_true rfl) (gz_Ev_mono (d := 2) (by decide) E8) ?_
    show gv_X _ _ (42, [(0, .inr (.inr (some 0))), (1, .inl a1), (2, .inl a2), (3, .inl a3), (4, .inl a4), (5, .inl a5)], [], sh, gc_h sh I9 J A)
    refine gv_run 1 true hD (pcₚ := 43) (lvₚ := [(0, .inr (.inr (some 0))), (1, .inl a1), (2, .inl a2), (3, .inl a3), (4, .inl a4), (5, .inl a5)]) (stₚ := [.inr (.inr (some 0))]) (hₚ := gc_h sh I9 J A) (C := (True ∧ True)) rfl ⟨trivial, trivial⟩ ?_
    refine gv_get hD rfl rfl S_0 ⟨by decide, (gz_sh B_0)⟩ (gc_hA S_0 rfl A_0_1) ?_
    show gv_X _ _ (46, [(0, .inr (.inr (some 0))), (1, .inl a1), (2, .inl a2), (3, .inl a3), (4, .inl a4), (5, .inl a5)], [.inr (.inr (some 23))], sh, gc_h sh I9 J A)
    refine gv_run 1 true hD (pcₚ := 47) (lvₚ := [(0, .inr (.inr (some 0))), (1, .inl a1), (2, .inl a2), (3, .inl a3), (4, .inl a4), (5, .inl a5)]) (stₚ := [.inl a3, .inr (.inr (some 23))]) (hₚ := gc_h sh I9 J A) (C := (True ∧ True)) rfl ⟨trivial, trivial⟩ ?_
    obtain ⟨r12, h12, E12, P12⟩ := d_X9_putFour_b (ws0 := ws0) (tb := tb) hws htb sh ro I9 J A hI9 23 a3 (gc_b23 hb)   ⟨by (/-13-/first | omega | (simp only [gz_hd] at *; omega)), by (/-14-/first | omega | (simp only [gz_hd] at *; omega))⟩ (by (/-15-/first | (have o1 := gz_sh q4; have o2 := gz_sh q8; omega) | (simp only [gz_hd] at *; omega))) 
    obtain ⟨I13, J14, rfl, hI13, g12, k12, ⟨rfl, q12, u12⟩⟩ := P12
    replace q12 := gz_hi q12
    have w3 : gs_F4 a3 (Int.toNat (I 23 1) + 8) 4 (I9 24) (I13 24) := (show Int.toNat (I 23 1) + 8 = Int.toNat (I9 23 1) by (/-16-/first | (have o1 := gz_sh f1; have o2 := gz_sh q12; have o3 := gz_sh q4; have o4 := gz_sh q8; omega) | (simp only [gz_hd] at *; omega))) ▸ u12
    have FI13 := gc_frc (W := fun q j => (q = 23 ∧ j = 1) ∨ (q = 24 ∧ (I 23 1 ≤ (j : Int)))) (V := fun q j => (q = 23 ∧ j = 1) ∨ (q = 24 ∧ (I9 23 1 ≤ (j : Int)))) FI9 (fun q j h => (h.elim (fun h => (Or.inl h)) (fun h => (Or.inr ⟨h.1, by have h9 := h.2; (/-17-/first | (have o1 := gz_sh q4; have o2 := gz_sh q8; omega) | (simp only [gz_hd] at *; omega))⟩)))) g12
    obtain rfl : J = J14 := funext fun q => funext fun j => ((k12 q j).resolve_left id).symm
    refine gv_callV hD rfl (As := [.inl a3]) (st := []) rfl (gz_sh B_23) S_23 rfl (gc_lV12 hws rfl) (Nat.le_of_ble_eq_true rfl) (gz_Ev_mono (d := 2) (by decide) E12) ?_
    show gv_X _ _ (50, [(0, .inr (.inr (some 0))), (1, .inl a1), (2, .inl a2), (3, .inl a3), (4, .inl a4), (5, .inl a5)], [], sh, gc_h sh I13 J A)
    refine gv_run 1 true hD (pcₚ := 51) (lvₚ := [(0, .inr (.inr (some 0))), (1, .inl a1), (2, .inl a2), (3, .inl a3), (4, .inl a4), (5, .inl a5)]) (stₚ := [.inr (.inr (some 0))]) (hₚ := gc_h sh I13 J A) (C := (True ∧ True)) rfl ⟨trivial, trivial⟩ ?_
    refine gv_get hD rfl rfl S_0 ⟨by decide, (gz_sh B_0)⟩ (gc_hA S_0 rfl A_0_1) ?_
    show gv_X _ _ (54, [(0, .inr (.inr (some 0))), (1, .inl a1), (2, .inl a2), (3, .inl a3), (4, .inl a4), (5, .inl a5)], [.inr (.inr (some 23))], sh, gc_h sh I13 J A)
    refine gv_run 1 true hD (pcₚ := 56) (lvₚ := [(0, .inr (.inr (some 0))), (1, .inl a1), (2, .inl a2), (3, .inl a3), (4, .inl a4), (5, .inl a5)]) (stₚ := [.inl a4, .inr (.inr (some 23))]) (hₚ := gc_h sh I13 J A) (C := (True ∧ True)) rfl ⟨trivial, trivial⟩ ?_
    obtain ⟨r16, h16, E16, P16⟩ := d_X9_putFour_b (ws0 := ws0) (tb := tb) hws htb sh ro I13 J A hI13 23 a4 (gc_b23 hb)   ⟨by (/-18-/first | omega | (simp only [gz_hd] at *; omega)), by (/-19-/first | omega | (simp only [gz_hd] at *; omega))⟩ (by (/-20-/first | (have o1 := gz_sh q12; have o2 := gz_sh q4; have o3 := gz_sh q8; omega) | (simp only [gz_hd] at *; omega))) 
    obtain ⟨I17, J18, rfl, hI17, g16, k16, ⟨rfl, q16, u16⟩⟩ := P16
    replace q16 := gz_hi q16
    have w4 : gs_F4 a4 (Int.toNat (I 23 1) + 12) 4 (I13 24) (I17 24) := (show Int.toNat (I 23 1) + 12 = Int.toNat (I13 23 1) by (/-21-/first | (have o1 := gz_sh f1; have o2 := gz_sh q12; have o3 := gz_sh q16; have o4 := gz_sh q4; have o5 := gz_sh q8; omega) | (simp only [gz_hd] at *; omega))) ▸ u16
    have FI17 := gc_frc (W := fun q j => (q = 23 ∧ j = 1) ∨ (q = 24 ∧ (I 23 1 ≤ (j : Int)))) (V := fun q j => (q = 23 ∧ j = 1) ∨ (q = 24 ∧ (I13 23 1 ≤ (j : Int)))) FI13 (fun q j h => (h.elim (fun h => (Or.inl h)) (fun h => (Or.inr ⟨h.1, by have h9 := h.2; (/-22-/first | (have o1 := gz_sh q12; have o2 := gz_sh q4; have o3 := gz_sh q8; omega) | (simp only [gz_hd] at *; omega))⟩)))) g16
    obtain rfl : J = J18 := funext fun q => funext fun j => ((k16 q j).resolve_left id).symm
    refine gv_callV hD rfl (As := [.inl a4]) (st := []) rfl (gz_sh B_23) S_23 rfl (gc_lV12 hws rfl) (Nat.le_of_ble_eq_true rfl) (gz_Ev_mono (d := 2) (by decide) E16) ?_
    show gv_X _ _ (59, [(0, .inr (.inr (some 0))), (1, .inl a1), (2, .inl a2), (3, .inl a3), (4, .inl a4), (5, .inl a5)], [], sh, gc_h sh I17 J A)
    refine gv_run 1 true hD (pcₚ := 60) (lvₚ := [(0, .inr (.inr (some 0))), (1, .inl a1), (2, .inl a2), (3, .inl a3), (4, .inl a4), (5, .inl a5)]) (stₚ := [.inr (.inr (some 0))]) (hₚ := gc_h sh I17 J A) (C := (True ∧ True)) rfl ⟨trivial, trivial⟩ ?_
    refine gv_get hD rfl rfl S_0 ⟨by decide, (gz_sh B_0)⟩ (gc_hA S_0 rfl A_0_1) ?_
    show gv_X _ _ (63, [(0, .inr (.inr (some 0))), (1, .inl a1), (2, .inl a2), (3, .inl a3), (4, .inl a4), (5, .inl a5)], [.inr (.inr (some 23))], sh, gc_h sh I17 J A)
    refine gv_run 1 true hD (pcₚ := 65) (lvₚ := [(0, .inr (.inr (some 0))), (1, .inl a1), (2, .inl a2), (3, .inl a3), (4, .inl a4), (5, .inl a5)]) (stₚ := [.inl a5, .inr (.inr (some 23))]) (hₚ := gc_h sh I17 J A) (C := (True ∧ True)) rfl ⟨trivial, trivial⟩ ?_
    obtain ⟨r20, h20, E20, P20⟩ := d_X9_putFour_b (ws0 := ws0) (tb := tb) hws htb sh ro I17 J A hI17 23 a5 (gc_b23 hb)   ⟨by (/-23-/first | omega | (simp only [gz_hd] at *; omega)), by (/-24-/first | omega | (simp only [gz_hd] at *; omega))⟩ (by (/-25-/first | (have o1 := gz_sh q12; have o2 := gz_sh q16; have o3 := gz_sh q4; have o4 := gz_sh q8; omega) | (simp only [gz_hd] at *; omega))) 
    obtain ⟨I21, J22, rfl, hI21, g20, k20, ⟨rfl, q20, u20⟩⟩ := P20
    replace q20 := gz_hi q20
    have w5 : gs_F4 a5 (Int.toNat (I 23 1) + 16) 4 (I17 24) (I21 24) := (show Int.toNat (I 23 1) + 16 = Int.toNat (I17 23 1) by (/-26-/first | (have o1 := gz_sh f1; have o2 := gz_sh q12; have o3 := gz_sh q16; have o4 := gz_sh q20; have o5 := gz_sh q4; have o6 := gz_sh q8; omega) | (simp only [gz_hd] at *; omega))) ▸ u20
    have FI21 := gc_frc (W := fun q j => (q = 23 ∧ j = 1) ∨ (q = 24 ∧ (I 23 1 ≤ (j : Int)))) (V := fun q j => (q = 23 ∧ j = 1) ∨ (q = 24 ∧ (I17 23 1 ≤ (j : Int)))) FI17 (fun q j h => (h.elim (fun h => (Or.inl h)) (fun h => (Or.inr ⟨h.1, by have h9 := h.2; (/-27-/first | (have o1 := gz_sh q12; have o2 := gz_sh q16; have o3 := gz_sh q4; have o4 := gz_sh q8; omega) | (simp only [gz_hd] at *; omega))⟩)))) g20
    obtain rfl : J = J22 := funext fun q => funext fun j => ((k20 q j).resolve_left id).symm
    refine gv_callV hD rfl (As := [.inl a5]) (st := []) rfl (gz_sh B_23) S_23 rfl (gc_lV12 hws rfl) (Nat.le_of_ble_eq_true rfl) (gz_Ev_mono (d := 2) (by decide) E20) ?_
    show gv_X _ _ (68, [(0, .inr (.inr (some 0))), (1, .inl a1), (2, .inl a2), (3, .inl a3), (4, .inl a4), (5, .inl a5)], [], sh, gc_h sh I21 J A)
    refine gv_run 1 true hD (pcₚ := 69) (lvₚ := [(0, .inr (.inr (some 0))), (1, .inl a1), (2, .inl a2), (3, .inl a3), (4, .inl a4), (5, .inl a5)]) (stₚ := [.inr (.inr (some 0))]) (hₚ := gc_h sh I21 J A) (C := (True ∧ True)) rfl ⟨trivial, trivial⟩ ?_
    refine gv_get hD rfl rfl S_0 ⟨by decide, (gz_sh B_0)⟩ (gc_hA S_0 rfl A_0_1) ?_
    show gv_X _ _ (72, [(0, .inr (.inr (some 0))), (1, .inl a1), (2, .inl a2), (3, .inl a3), (4, .inl a4), (5, .inl a5)], [.inr (.inr (some 23))], sh, gc_h sh I21 J A)
    refine gv_get hD rfl rfl S_23 ⟨by decide, (gz_sh B_23)⟩ (gc_hI S_23 rfl) ?_
    show gv_X _ _ (75, [(0, .inr (.inr (some 0))), (1, .inl a1), (2, .inl a2), (3, .inl a3), (4, .inl a4), (5, .inl a5)], [.inl (I21 23 1)], sh, gc_h sh I21 J A)
    exact gv_iret hD rfl ⟨I21, J, rfl, hI21, FI21, FJ, ⟨_, rfl, by (/-28-/first | (have o1 := gz_sh f1; have o2 := gz_sh q12; have o3 := gz_sh q16; have o4 := gz_sh q20; have o5 := gz_sh q4; have o6 := gz_sh q8; omega) | (simp only [gz_hd] at *; omega)), by (/-29-/first | (have o1 := gz_sh q12; have o2 := gz_sh q16; have o3 := gz_sh q20; have o4 := gz_sh q4; have o5 := gz_sh q8; omega) | (simp only [gz_hd] at *; omega)), by (/-30-/first | (have o1 := gz_sh q12; have o2 := gz_sh q16; have o3 := gz_sh q20; have o4 := gz_sh q4; have o5 := gz_sh q8; omega) | (simp only [gz_hd] at *; omega)), by (/-31-/first | (have o1 := gz_sh q12; have o2 := gz_sh q16; have o3 := gz_sh q20; have o4 := gz_sh q4; have o5 := gz_sh q8; omega) | (simp only [gz_hd] at *; omega)), ⟨_, _, _, _, w1, w2, w3, w4, w5⟩⟩⟩
  · show gv_X _ _ (16, [(0, .inr (.inr (some 0))), (1, .inl a1), (2, .inl a2), (3, .inl a3), (4, .inl a4), (5, .inl a5)], [], sh, gc_h sh I J A)
    exfalso; (/-32-/first | (have o1 := gz_sh f1; omega) | (simp only [gz_hd] at *; omega))
set_option maxHeartbeats 8000000 in
set_option maxRecDepth 100000 in
theorem r_four_b {ws0 : List Cond} {tb : String → gz_T} (hws : ∀ w ∈ gr_ws, w ∈ ws0) (htb : tb RX13 = gr_T) (ext : gz_Sh) (I : gr_I) (J : gr_J) (hI : gr_Inv I) (a1 : Int) (ha1 : (-2147483648) ≤ a1 ∧ a1 ≤ 2147483647) (x0 : I 0 68 ≤ 996) : ∃ r hₚ, gz_Ev ws0 tb 1 (yX13_four, cX13_four, 3, none) [.inr (.inr (some 0)), .inl a1] (gr_sh ++ ext) (gr_h I J) r (gr_sh ++ ext) hₚ 0 0 ∧ (∃ (Iₚ : gr_I) (Jₚ : gr_J), hₚ = gr_h Iₚ Jₚ ∧ gr_Inv Iₚ ∧ gr_fr [68] [56] I Iₚ ∧ gr_fj [68] [56] J Jₚ ∧ r = none ∧ (Iₚ 0 68 = I 0 68 + 4) ∧ (gs_F4 a1 (Int.toNat (I 0 68)) 4 (I 56) (Iₚ 56))) := by
  have FI : gr_fr [68] [56] I I := fun _ _ _ => rfl
  have FJ : gr_fj [68] [56] J J := fun _ _ _ => rfl
  have hD : gv_D (gr_E ws0 tb 0 (yX13_four, cX13_four, 3, none) kX13_four) := gq_of oX13_four
  refine gr_ev (d := 0) (l := kX13_four) (Po := fun r hₚ => (∃ (Iₚ : gr_I) (Jₚ : gr_J), hₚ = gr_h Iₚ Jₚ ∧ gr_Inv Iₚ ∧ gr_fr [68] [56] I Iₚ ∧ gr_fj [68] [56] J Jₚ ∧ r = none ∧ (Iₚ 0 68 = I 0 68 + 4) ∧ (gs_F4 a1 (Int.toNat (I 0 68)) 4 (I 56) (Iₚ 56)))) htb rfl (Nat.le_of_ble_eq_true rfl) ?_
  have f1 := gz_hi ((gr_b_0_68 hI))
  have L3 : ∀ (n : Nat) (I2 : gr_I) (J3 : gr_J) (v2_4 : Int), (v2_4 - (-9)).toNat < n → gr_Inv I2 → gr_fr [68] [56] I I2 → gr_fj [68] [56] J J3 → (((-2147483648) ≤ a1 ∧ a1 ≤ 2147483647) ∧ ((-8) ≤ v2_4 ∧ v2_4 ≤ 24) ∧ (8 * I2 0 68 + v2_4 = 8 * I 0 68 + 24)) → gs_F4 a1 (Int.toNat (I 0 68)) (Int.toNat (I2 0 68 - I 0 68)) (I 56) (I2 56) → gv_X (gr_E ws0 tb 0 (yX13_four, cX13_four, 3, none) kX13_four) (gv_Q cX13_four none (gr_sh ++ ext) (fun r hₚ => (∃ (Iₚ : gr_I) (Jₚ : gr_J), hₚ = gr_h Iₚ Jₚ ∧ gr_Inv Iₚ ∧ gr_fr [68] [56] I Iₚ ∧ gr_fj [68] [56] J Jₚ ∧ r = none ∧ (Iₚ 0 68 = I 0 68 + 4) ∧ (gs_F4 a1 (Int.toNat (I 0 68)) 4 (I 56) (Iₚ 56))))) (3, [(0, .inr (.inr (some 0))), (1, .inl a1), (2, .inl v2_4)], [], gr_sh ++ ext, gr_h I2 J3) := by
    intro n
    induction n with
    | zero => intro I2 J3 v2_4 hn; (/-0-/first | omega | (simp only [gz_hd] at *; omega))
    | succ n ih3 =>
      intro I2 J3 v2_4 hn hI2 FI2 FJ3 m_4 mF
      obtain ⟨ha1_4, hv2_4, e0_4⟩ := gz_h3 m_4
      have f5 := gz_hi ((gr_b_0_68 hI2))
      refine gv_run 1 true hD (pcₚ := 4) (lvₚ := [(0, .inr (.inr (some 0))), (1, .inl a1), (2, .inl v2_4)]) (stₚ := [.inl v2_4]) (hₚ := gr_h I2 J3) (C := (True ∧ True)) rfl ⟨trivial, trivial⟩ ?_
      refine gv_if_lt (t := 33) hD rfl rfl ⟨by (/-1-/first | (have o1 := gz_sh hv2_4; omega) | (simp only [gz_hd] at *; omega)), by (/-2-/first | (have o1 := gz_sh hv2_4; omega) | (simp only [gz_hd] at *; omega))⟩ (fun c6 => ?_) (fun c6 => ?_)
      · exact gv_vret hD rfl ⟨I2, J3, rfl, hI2, FI2, FJ3, ⟨rfl, by (/-3-/first | (have o1 := gz_sh e0_4; have o2 := gz_sh hv2_4; omega) | (simp only [gz_hd] at *; omega)), (show Int.toNat (I2 0 68 - I 0 68) = 4 by (/-4-/first | (have o1 := gz_sh e0_4; have o2 := gz_sh hv2_4; omega) | (simp only [gz_hd] at *; omega))) ▸ mF⟩⟩
      · have f7 := gz_hi ((gr_b_0_68 hI2))
        refine gv_run 7 true hD (pcₚ := 18) (lvₚ := [(0, .inr (.inr (some 0))), (1, .inl a1), (2, .inl v2_4)]) (stₚ := [.inl 1, .inl (I2 0 68), .inr (.inr (some 0)), .inl (I2 0 68), .inr (.inr (some 56))]) (hₚ := gr_h I2 J3) (C := (((((((True ∧ True) ∧ True) ∧ True) ∧ True) ∧ True) ∧ True) ∧ True)) rfl ⟨⟨⟨⟨⟨⟨⟨trivial, trivial⟩, trivial⟩, trivial⟩, trivial⟩, trivial⟩, trivial⟩, trivial⟩ ?_
        refine gv_run 2 true hD (pcₚ := 22) (lvₚ := [(0, .inr (.inr (some 0))), (1, .inl a1), (2, .inl v2_4)]) (stₚ := [.inl (I2 0 68), .inr (.inr (some 56))]) (hₚ := gz_up (gr_h I2 J3) 0 68 (.inl (((I2 0 68) + 1)))) (C := ((True ∧ True) ∧ True)) rfl ⟨⟨trivial, trivial⟩, trivial⟩ ?_
        refine gr_st hI2 FI2 rfl rfl ⟨⟨by show 0 ≤ _; (/-5-/first | (have o1 := gz_sh f5; omega) | (simp only [gz_hd] at *; omega)), by show _ ≤ 1000; (/-6-/first | (have o1 := gz_sh e0_4; omega) | (simp only [gz_hd] at *; omega))⟩, trivial⟩ (fun I8 hI8 FI8 q9 p9 => ?_)
        have f10 := gz_hi ((gr_b_0_68 hI8))
        have f12 := gz_hi (gw_i2b (x := ((((Int32.ofInt a1).toUInt32 >>> ((Int32.ofInt v2_4).toUInt32 &&& Int32.toUInt32 31)).toInt32.toInt))))
        refine gv_run 4 true hD (pcₚ := 26) (lvₚ := [(0, .inr (.inr (some 0))), (1, .inl a1), (2, .inl v2_4)]) (stₚ := [.inl ((Int32.ofInt ((((Int32.ofInt a1).toUInt32 >>> ((Int32.ofInt v2_4).toUInt32 &&& Int32.toUInt32 31)).toInt32.toInt))).toInt8.toInt32.toInt), .inl (I2 0 68), .inr (.inr (some 56))]) (hₚ := gr_h I8 J3) (C := ((((True ∧ True) ∧ True) ∧ True) ∧ True)) rfl ⟨⟨⟨⟨trivial, trivial⟩, trivial⟩, trivial⟩, trivial⟩ ?_
        have f13 := gz_hi (gw_nar_byte (x := (((Int32.ofInt ((((Int32.ofInt a1).toUInt32 >>> ((Int32.ofInt v2_4).toUInt32 &&& Int32.toUInt32 31)).toInt32.toInt))).toInt8.toInt32.toInt))))
        refine gv_run 1 true hD (pcₚ := 27) (lvₚ := [(0, .inr (.inr (some 0))), (1, .inl a1), (2, .inl v2_4)]) (stₚ := []) (hₚ := gz_up (gr_h I8 J3) 56 (Int.toNat ((I2 0 68))) (.inl (((vp_nar .byte (Int32.ofInt (((Int32.ofInt ((((Int32.ofInt a1).toUInt32 >>> ((Int32.ofInt v2_4).toUInt32 &&& Int32.toUInt32 31)).toInt32.toInt))).toInt8.toInt32.toInt)))).toInt)))) (C := (True ∧ (0 ≤ (I2 0 68) ∧ (I2 0 68) < ((1000 : Nat) : Int)))) rfl ⟨trivial, ⟨by (/-7-/first | (have o1 := gz_sh f5; omega) | (simp only [gz_hd] at *; omega)), by (/-8-/first | (have o1 := gz_sh f10; omega) | (simp only [gz_hd] at *; omega))⟩⟩ ?_
        refine gr_st hI8 FI8 rfl rfl ⟨⟨by show (-128) ≤ _; (/-9-/first | (have o1 := gz_sh f13; omega) | (simp only [gz_hd] at *; omega)), by show _ ≤ 127; (/-10-/first | (have o1 := gz_sh f13; omega) | (simp only [gz_hd] at *; omega))⟩, trivial⟩ (fun I14 hI14 FI14 q15 p15 => ?_)
        have t16 := gz_hi (p15 0 68 (fun q => absurd q.1 (by first | exact gz_ne rfl | decide)))
        refine gv_run 2 true hD (pcₚ := 3) (lvₚ := [(2, .inl (v2_4 + (-8))), (0, .inr (.inr (some 0))), (1, .inl a1)]) (stₚ := []) (hₚ := gr_h I14 J3) (C := ((True ∧ True) ∧ True)) rfl ⟨⟨trivial, trivial⟩, trivial⟩ ?_
        refine gv_pick [1, 2, 0] rfl ?_
        have z9 : (Int32.ofInt ((((Int32.ofInt a1).toUInt32 >>> ((Int32.ofInt v2_4).toUInt32 &&& Int32.toUInt32 31)).toInt32.toInt))).toInt8.toInt32.toInt = gs_yb a1 (24 - 8 * Int.toNat (I2 0 68 - I 0 68)) := by
          have y9 : (v2_4 = 24 ∧ Int.toNat (I2 0 68 - I 0 68) = 0) ∨ (v2_4 = 16 ∧ Int.toNat (I2 0 68 - I 0 68) = 1) ∨ (v2_4 = 8 ∧ Int.toNat (I2 0 68 - I 0 68) = 2) ∨ (v2_4 = 0 ∧ Int.toNat (I2 0 68 - I 0 68) = 3) := by (/-11-/first | (have o1 := gz_sh e0_4; have o2 := gz_sh hv2_4; have o3 := gz_sh t16; omega) | (simp only [gz_hd] at *; omega))
          rcases y9 with ⟨e1, e2⟩ | ⟨e1, e2⟩ | ⟨e1, e2⟩ | ⟨e1, e2⟩
          · rw [e1, e2]
            exact gs_ybr a1 24 24 (by decide) (by decide)
          · rw [e1, e2]
            exact gs_ybr a1 16 16 (by decide) (by decide)
          · rw [e1, e2]
            exact gs_ybr a1 8 8 (by decide) (by decide)
          · rw [e1, e2]
            exact gs_ybr a1 0 0 (by decide) (by decide)
        have w9 := gs_F4_s (r2 := I14 56) mF (k := Int.toNat (I2 0 68)) (by (/-12-/first | (have o1 := gz_sh e0_4; have o2 := gz_sh f1; have o3 := gz_sh f10; have o4 := gz_sh f5; have o5 := gz_sh hv2_4; have o6 := gz_sh t16; omega) | (simp only [gz_hd] at *; omega))) (q15.trans ((gc_nar (gz_sh f12)).trans z9)) (fun j hj => (p15 56 j (fun h => hj h.2)).trans (p9 56 j (fun h => absurd h.1 (by first | exact gz_ne rfl | decide))))
        have n9 : Int.toNat (I2 0 68 - I 0 68) + 1 = Int.toNat (I14 0 68 - I 0 68) := by (/-13-/first | (have o1 := gz_sh e0_4; have o2 := gz_sh hv2_4; have o3 := gz_sh t16; omega) | (simp only [gz_hd] at *; omega))
        exact ih3 I14 J3 ((v2_4 + (-8))) (by (/-14-/first | (have o1 := gz_sh e0_4; have o2 := gz_sh hv2_4; have o3 := gz_sh t16; omega) | (simp only [gz_hd] at *; omega))) hI14 FI14 FJ3 (by (/-15-/first | (and_intros; (omega); (omega); (omega); (have o1 := gz_sh hv2_4; omega); (have o1 := gz_sh e0_4; have o2 := gz_sh t16; omega)) | (simp only [gz_hd] at *; omega))) (n9 ▸ w9)
  refine gv_run 2 true hD (pcₚ := 3) (lvₚ := [(2, .inl 24), (0, .inr (.inr (some 0))), (1, .inl a1)]) (stₚ := []) (hₚ := gr_h I J) (C := ((True ∧ True) ∧ True)) rfl ⟨⟨trivial, trivial⟩, trivial⟩ ?_
  refine gv_pick [1, 2, 0] rfl ?_
  exact L3 _ I J 24 (Nat.lt_succ_self _) hI FI FJ (by (/-16-/first | (and_intros <;> omega) | (simp only [gz_hd] at *; omega))) ((show 0 = Int.toNat (I 0 68 - I 0 68) by (/-17-/first | omega | (simp only [gz_hd] at *; omega))) ▸ gs_F4_0 a1 (Int.toNat (I 0 68)) (I 56))
set_option maxHeartbeats 8000000 in
set_option maxRecDepth 100000 in
theorem r_feed_b {ws0 : List Cond} {tb : String → gz_T} (hws : ∀ w ∈ gr_ws, w ∈ ws0) (htb : tb RX13 = gr_T) (ext : gz_Sh) (I : gr_I) (J : gr_J) (hI : gr_Inv I) (a1 : Int) (a2 : Int) (a3 : Int) (a4 : Int) (a5 : Int) (ha1 : (-2147483648) ≤ a1 ∧ a1 ≤ 2147483647) (ha2 : (-2147483648) ≤ a2 ∧ a2 ≤ 2147483647) (ha3 : (-2147483648) ≤ a3 ∧ a3 ≤ 2147483647) (ha4 : (-2147483648) ≤ a4 ∧ a4 ≤ 2147483647) (ha5 : (-2147483648) ≤ a5 ∧ a5 ≤ 2147483647)  : ∃ r hₚ, gz_Ev ws0 tb 2 (yX13_feed, cX13_feed, 6, (some .int)) [.inr (.inr (some 0)), .inl a1, .inl a2, .inl a3, .inl a4, .inl a5] (gr_sh ++ ext) (gr_h I J) r (gr_sh ++ ext) hₚ 0 0 ∧ (∃ (Iₚ : gr_I) (Jₚ : gr_J), hₚ = gr_h Iₚ Jₚ ∧ gr_Inv Iₚ ∧ gr_fr [0, 68] [56] I Iₚ ∧ gr_fj [0, 68] [56] J Jₚ ∧ (∃ z : Int, r = some (.inl z) ∧ 0 ≤ z ∧ z ≤ 1000 ∧ ((I 0 68 + 20 ≤ 1000 ∧ Iₚ 0 68 = I 0 68 + 20 ∧ z = I 0 68 + 20 ∧ Iₚ 0 0 = 0) ∨ (¬ I 0 68 + 20 ≤ 1000 ∧ Iₚ 0 68 = I 0 68 ∧ Iₚ 0 0 = 1)) ∧ (I 0 68 + 20 ≤ 1000 → gs_F5 a1 a2 a3 a4 a5 (Int.toNat (I 0 68)) (I 56) (Iₚ 56)) ∧ (¬ I 0 68 + 20 ≤ 1000 → ∀ k, Iₚ 56 k = I 56 k))) := by
  have FI : gr_fr [0, 68] [56] I I := fun _ _ _ => rfl
  have FJ : gr_fj [0, 68] [56] J J := fun _ _ _ => rfl
  have hD : gv_D (gr_E ws0 tb 1 (yX13_feed, cX13_feed, 6, (some .int)) kX13_feed) := gq_of oX13_feed
  refine gr_ev (d := 1) (l := kX13_feed) (Po := fun r hₚ => (∃ (Iₚ : gr_I) (Jₚ : gr_J), hₚ = gr_h Iₚ Jₚ ∧ gr_Inv Iₚ ∧ gr_fr [0, 68] [56] I Iₚ ∧ gr_fj [0, 68] [56] J Jₚ ∧ (∃ z : Int, r = some (.inl z) ∧ 0 ≤ z ∧ z ≤ 1000 ∧ ((I 0 68 + 20 ≤ 1000 ∧ Iₚ 0 68 = I 0 68 + 20 ∧ z = I 0 68 + 20 ∧ Iₚ 0 0 = 0) ∨ (¬ I 0 68 + 20 ≤ 1000 ∧ Iₚ 0 68 = I 0 68 ∧ Iₚ 0 0 = 1)) ∧ (I 0 68 + 20 ≤ 1000 → gs_F5 a1 a2 a3 a4 a5 (Int.toNat (I 0 68)) (I 56) (Iₚ 56)) ∧ (¬ I 0 68 + 20 ≤ 1000 → ∀ k, Iₚ 56 k = I 56 k)))) htb rfl (Nat.le_of_ble_eq_true rfl) ?_
  have f1 := gz_hi ((gr_b_0_68 hI))
  refine gv_run 3 true hD (pcₚ := 5) (lvₚ := [(0, .inr (.inr (some 0))), (1, .inl a1), (2, .inl a2), (3, .inl a3), (4, .inl a4), (5, .inl a5)]) (stₚ := []) (hₚ := gz_up (gr_h I J) 0 0 (.inl 0)) (C := (((True ∧ True) ∧ True) ∧ True)) rfl ⟨⟨⟨trivial, trivial⟩, trivial⟩, trivial⟩ ?_
  refine gr_st hI FI rfl rfl ⟨⟨by show 0 ≤ _; (/-0-/first | omega | (simp only [gz_hd] at *; omega)), by show _ ≤ 2; (/-1-/first | omega | (simp only [gz_hd] at *; omega))⟩, trivial⟩ (fun I3 hI3 FI3 q4 p4 => ?_)
  have t5 := gz_hi (p4 0 68 (by decide))
  refine gv_run 5 true hD (pcₚ := 15) (lvₚ := [(0, .inr (.inr (some 0))), (1, .inl a1), (2, .inl a2), (3, .inl a3), (4, .inl a4), (5, .inl a5)]) (stₚ := [.inl 1000, .inl ((I3 0 68) + 20)]) (hₚ := gr_h I3 J) (C := (((((True ∧ True) ∧ True) ∧ True) ∧ True) ∧ True)) rfl ⟨⟨⟨⟨⟨trivial, trivial⟩, trivial⟩, trivial⟩, trivial⟩, trivial⟩ ?_
  refine gv_icmp_le (t := 23) hD rfl rfl ⟨⟨by (/-2-/first | (have o1 := gz_sh f1; have o2 := gz_sh t5; omega) | (simp only [gz_hd] at *; omega)), by (/-3-/first | (have o1 := gz_sh f1; have o2 := gz_sh t5; omega) | (simp only [gz_hd] at *; omega))⟩, ⟨by (/-4-/first | omega | (simp only [gz_hd] at *; omega)), by (/-5-/first | omega | (simp only [gz_hd] at *; omega))⟩⟩ (fun c9 => ?_) (fun c9 => ?_)
  · refine gv_run 2 true hD (pcₚ := 25) (lvₚ := [(0, .inr (.inr (some 0))), (1, .inl a1), (2, .inl a2), (3, .inl a3), (4, .inl a4), (5, .inl a5)]) (stₚ := [.inl a1, .inr (.inr (some 0))]) (hₚ := gr_h I3 J) (C := ((True ∧ True) ∧ True)) rfl ⟨⟨trivial, trivial⟩, trivial⟩ ?_
    obtain ⟨r10, h10, E10, P10⟩ := r_four_b (ws0 := ws0) (tb := tb) hws htb ext I3 J hI3 a1 ⟨by (/-6-/first | omega | (simp only [gz_hd] at *; omega)), by (/-7-/first | omega | (simp only [gz_hd] at *; omega))⟩ (by (/-8-/first | omega | (simp only [gz_hd] at *; omega)))
    obtain ⟨I11, J12, rfl, hI11, g10, k10, ⟨rfl, q10, u10⟩⟩ := P10
    replace q10 := gz_hi q10
    have w1 : gs_F4 a1 (Int.toNat (I 0 68)) 4 (I3 56) (I11 56) := (show Int.toNat (I3 0 68) = Int.toNat (I 0 68) by (/-9-/first | (have o1 := gz_sh f1; have o2 := gz_sh q10; have o3 := gz_sh t5; omega) | (simp only [gz_hd] at *; omega))) ▸ u10
    have FI11 := gr_frt FI3 g10 rfl rfl
    have FJ12 := gr_fjt FJ k10 rfl rfl
    have t13 := gz_hi (g10 0 0 rfl)
    refine gv_callV hD rfl (As := [.inl a1]) (st := []) rfl (by decide) rfl rfl (gr_lV hws rfl) (Nat.le_of_ble_eq_true rfl) (gz_Ev_mono (d := 1) (by decide) E10) ?_
    show gv_X _ _ (28, [(0, .inr (.inr (some 0))), (1, .inl a1), (2, .inl a2), (3, .inl a3), (4, .inl a4), (5, .inl a5)], [], gr_sh ++ ext, gr_h I11 J12)
    refine gv_run 2 true hD (pcₚ := 30) (lvₚ := [(0, .inr (.inr (some 0))), (1, .inl a1), (2, .inl a2), (3, .inl a3), (4, .inl a4), (5, .inl a5)]) (stₚ := [.inl a2, .inr (.inr (some 0))]) (hₚ := gr_h I11 J12) (C := ((True ∧ True) ∧ True)) rfl ⟨⟨trivial, trivial⟩, trivial⟩ ?_
    obtain ⟨r16, h16, E16, P16⟩ := r_four_b (ws0 := ws0) (tb := tb) hws htb ext I11 J12 hI11 a2 ⟨by (/-10-/first | omega | (simp only [gz_hd] at *; omega)), by (/-11-/first | omega | (simp only [gz_hd] at *; omega))⟩ (by (/-12-/first | (have o1 := gz_sh q10; omega) | (simp only [gz_hd] at *; omega)))
    obtain ⟨I17, J18, rfl, hI17, g16, k16, ⟨rfl, q16, u16⟩⟩ := P16
    replace q16 := gz_hi q16
    have w2 : gs_F4 a2 (Int.toNat (I 0 68) + 4) 4 (I11 56) (I17 56) := (show Int.toNat (I11 0 68) = Int.toNat (I 0 68) + 4 by (/-13-/first | (have o1 := gz_sh f1; have o2 := gz_sh q10; have o3 := gz_sh q16; have o4 := gz_sh t5; omega) | (simp only [gz_hd] at *; omega))) ▸ u16
    have FI17 := gr_frt FI11 g16 rfl rfl
    have FJ18 := gr_fjt FJ12 k16 rfl rfl
    have t19 := gz_hi (g16 0 0 rfl)
    refine gv_callV hD rfl (As := [.inl a2]) (st := []) rfl (by decide) rfl rfl (gr_lV hws rfl) (Nat.le_of_ble_eq_true rfl) (gz_Ev_mono (d := 1) (by decide) E16) ?_
    show gv_X _ _ (33, [(0, .inr (.inr (some 0))), (1, .inl a1), (2, .inl a2), (3, .inl a3), (4, .inl a4), (5, .inl a5)], [], gr_sh ++ ext, gr_h I17 J18)
    refine gv_run 2 true hD (pcₚ := 35) (lvₚ := [(0, .inr (.inr (some 0))), (1, .inl a1), (2, .inl a2), (3, .inl a3), (4, .inl a4), (5, .inl a5)]) (stₚ := [.inl a3, .inr (.inr (some 0))]) (hₚ := gr_h I17 J18) (C := ((True ∧ True) ∧ True)) rfl ⟨⟨trivial, trivial⟩, trivial⟩ ?_
    obtain ⟨r22, h22, E22, P22⟩ := r_four_b (ws0 := ws0) (tb := tb) hws htb ext I17 J18 hI17 a3 ⟨by (/-14-/first | omega | (simp only [gz_hd] at *; omega)), by (/-15-/first | omega | (simp only [gz_hd] at *; omega))⟩ (by (/-16-/first | (have o1 := gz_sh q10; have o2 := gz_sh q16; omega) | (simp only [gz_hd] at *; omega)))
    obtain ⟨I23, J24, rfl, hI23, g22, k22, ⟨rfl, q22, u22⟩⟩ := P22
    replace q22 := gz_hi q22
    have w3 : gs_F4 a3 (Int.toNat (I 0 68) + 8) 4 (I17 56) (I23 56) := (show Int.toNat (I17 0 68) = Int.toNat (I 0 68) + 8 by (/-17-/first | (have o1 := gz_sh f1; have o2 := gz_sh q10; have o3 := gz_sh q16; have o4 := gz_sh q22; have o5 := gz_sh t5; omega) | (simp only [gz_hd] at *; omega))) ▸ u22
    have FI23 := gr_frt FI17 g22 rfl rfl
    have FJ24 := gr_fjt FJ18 k22 rfl rfl
    have t25 := gz_hi (g22 0 0 rfl)
    refine gv_callV hD rfl (As := [.inl a3]) (st := []) rfl (by decide) rfl rfl (gr_lV hws rfl) (Nat.le_of_ble_eq_true rfl) (gz_Ev_mono (d := 1) (by decide) E22) ?_
    show gv_X _ _ (38, [(0, .inr (.inr (some 0))), (1, .inl a1), (2, .inl a2), (3, .inl a3), (4, .inl a4), (5, .inl a5)], [], gr_sh ++ ext, gr_h I23 J24)
    refine gv_run 2 true hD (pcₚ := 41) (lvₚ := [(0, .inr (.inr (some 0))), (1, .inl a1), (2, .inl a2), (3, .inl a3), (4, .inl a4), (5, .inl a5)]) (stₚ := [.inl a4, .inr (.inr (some 0))]) (hₚ := gr_h I23 J24) (C := ((True ∧ True) ∧ True)) rfl ⟨⟨trivial, trivial⟩, trivial⟩ ?_
    obtain ⟨r28, h28, E28, P28⟩ := r_four_b (ws0 := ws0) (tb := tb) hws htb ext I23 J24 hI23 a4 ⟨by (/-18-/first | omega | (simp only [gz_hd] at *; omega)), by (/-19-/first | omega | (simp only [gz_hd] at *; omega))⟩ (by (/-20-/first | (have o1 := gz_sh q10; have o2 := gz_sh q16; have o3 := gz_sh q22; omega) | (simp only [gz_hd] at *; omega)))
    obtain ⟨I29, J30, rfl, hI29, g28, k28, ⟨rfl, q28, u28⟩⟩ := P28
    replace q28 := gz_hi q28
    have w4 : gs_F4 a4 (Int.toNat (I 0 68) + 12) 4 (I23 56) (I29 56) := (show Int.toNat (I23 0 68) = Int.toNat (I 0 68) + 12 by (/-21-/first | (have o1 := gz_sh f1; have o2 := gz_sh q10; have o3 := gz_sh q16; have o4 := gz_sh q22; have o5 := gz_sh q28; have o6 := gz_sh t5; omega) | (simp only [gz_hd] at *; omega))) ▸ u28
    have FI29 := gr_frt FI23 g28 rfl rfl
    have FJ30 := gr_fjt FJ24 k28 rfl rfl
    have t31 := gz_hi (g28 0 0 rfl)
    refine gv_callV hD rfl (As := [.inl a4]) (st := []) rfl (by decide) rfl rfl (gr_lV hws rfl) (Nat.le_of_ble_eq_true rfl) (gz_Ev_mono (d := 1) (by decide) E28) ?_
    show gv_X _ _ (44, [(0, .inr (.inr (some 0))), (1, .inl a1), (2, .inl a2), (3, .inl a3), (4, .inl a4), (5, .inl a5)], [], gr_sh ++ ext, gr_h I29 J30)
    refine gv_run 2 true hD (pcₚ := 47) (lvₚ := [(0, .inr (.inr (some 0))), (1, .inl a1), (2, .inl a2), (3, .inl a3), (4, .inl a4), (5, .inl a5)]) (stₚ := [.inl a5, .inr (.inr (some 0))]) (hₚ := gr_h I29 J30) (C := ((True ∧ True) ∧ True)) rfl ⟨⟨trivial, trivial⟩, trivial⟩ ?_
    obtain ⟨r34, h34, E34, P34⟩ := r_four_b (ws0 := ws0) (tb := tb) hws htb ext I29 J30 hI29 a5 ⟨by (/-22-/first | omega | (simp only [gz_hd] at *; omega)), by (/-23-/first | omega | (simp only [gz_hd] at *; omega))⟩ (by (/-24-/first | (have o1 := gz_sh q10; have o2 := gz_sh q16; have o3 := gz_sh q22; have o4 := gz_sh q28; omega) | (simp only [gz_hd] at *; omega)))
    obtain ⟨I35, J36, rfl, hI35, g34, k34, ⟨rfl, q34, u34⟩⟩ := P34
    replace q34 := gz_hi q34
    have w5 : gs_F4 a5 (Int.toNat (I 0 68) + 16) 4 (I29 56) (I35 56) := (show Int.toNat (I29 0 68) = Int.toNat (I 0 68) + 16 by (/-25-/first | (have o1 := gz_sh f1; have o2 := gz_sh q10; have o3 := gz_sh q16; have o4 := gz_sh q22; have o5 := gz_sh q28; have o6 := gz_sh q34; have o7 := gz_sh t5; omega) | (simp only [gz_hd] at *; omega))) ▸ u34
    have FI35 := gr_frt FI29 g34 rfl rfl
    have FJ36 := gr_fjt FJ30 k34 rfl rfl
    have t37 := gz_hi (g34 0 0 rfl)
    refine gv_callV hD rfl (As := [.inl a5]) (st := []) rfl (by decide) rfl rfl (gr_lV hws rfl) (Nat.le_of_ble_eq_true rfl) (gz_Ev_mono (d := 1) (by decide) E34) ?_
    show gv_X _ _ (50, [(0, .inr (.inr (some 0))), (1, .inl a1), (2, .inl a2), (3, .inl a3), (4, .inl a4), (5, .inl a5)], [], gr_sh ++ ext, gr_h I35 J36)
    refine gv_run 2 true hD (pcₚ := 54) (lvₚ := [(0, .inr (.inr (some 0))), (1, .inl a1), (2, .inl a2), (3, .inl a3), (4, .inl a4), (5, .inl a5)]) (stₚ := [.inl (I35 0 68)]) (hₚ := gr_h I35 J36) (C := ((True ∧ True) ∧ True)) rfl ⟨⟨trivial, trivial⟩, trivial⟩ ?_
    have e3 : I3 56 = I 56 := funext fun j => p4 56 j (fun h => absurd h.1 (by first | exact gz_ne rfl | decide))
    exact gv_iret hD rfl ⟨I35, J36, rfl, hI35, FI35, FJ36, ⟨_, rfl, by (/-26-/first | (have o1 := gz_sh f1; have o2 := gz_sh q10; have o3 := gz_sh q16; have o4 := gz_sh q22; have o5 := gz_sh q28; have o6 := gz_sh q34; have o7 := gz_sh t5; omega) | (simp only [gz_hd] at *; omega)), by (/-27-/first | (have o1 := gz_sh q10; have o2 := gz_sh q16; have o3 := gz_sh q22; have o4 := gz_sh q28; have o5 := gz_sh q34; omega) | (simp only [gz_hd] at *; omega)), by (/-28-/first | (have o1 := gz_sh q10; have o2 := gz_sh q16; have o3 := gz_sh q22; have o4 := gz_sh q28; have o5 := gz_sh q34; have o6 := gz_sh t13; have o7 := gz_sh t19; have o8 := gz_sh t25; have o9 := gz_sh t31; have o10 := gz_sh t37; have o11 := gz_sh t5; omega) | (simp only [gz_hd] at *; omega)), (fun _ => ⟨_, _, _, _, e3 ▸ w1, w2, w3, w4, w5⟩), fun h => absurd h (by (/-29-/first | (have o1 := gz_sh f1; have o2 := gz_sh q10; have o3 := gz_sh q16; have o4 := gz_sh q22; have o5 := gz_sh q28; have o6 := gz_sh q34; have o7 := gz_sh t5; omega) | (simp only [gz_hd] at *; omega)))⟩⟩
  · refine gv_run 1 true hD (pcₚ := 19) (lvₚ := [(0, .inr (.inr (some 0))), (1, .inl a1), (2, .inl a2), (3, .inl a3), (4, .inl a4), (5, .inl a5)]) (stₚ := [.inr (.inr (some 0))]) (hₚ := gr_h I3 J) (C := (True ∧ True)) rfl ⟨trivial, trivial⟩ ?_
    obtain ⟨r41, h41, E41, P41⟩ := r_bad_t (ws0 := ws0) (tb := tb) hws htb ext I3 J hI3   
    obtain ⟨I42, J43, rfl, hI42, g41, k41, ⟨z41, rfl, q41⟩⟩ := P41
    replace q41 := gz_hi q41
    have FI42 := gr_frt FI3 g41 rfl rfl
    have FJ43 := gr_fjt FJ k41 rfl rfl
    have t44 := gz_hi (g41 0 68 rfl)
    refine gv_callV hD rfl (As := []) (st := []) rfl (by decide) rfl rfl (gr_lV hws rfl) (Nat.le_of_ble_eq_true rfl) (gz_Ev_mono (d := 1) (by decide) E41) ?_
    show gv_X _ _ (22, [(0, .inr (.inr (some 0))), (1, .inl a1), (2, .inl a2), (3, .inl a3), (4, .inl a4), (5, .inl a5)], [.inl z41], gr_sh ++ ext, gr_h I42 J43)
    exact gv_iret hD rfl ⟨I42, J43, rfl, hI42, FI42, FJ43, ⟨_, rfl, by (/-30-/first | (have o1 := gz_sh q41; omega) | (simp only [gz_hd] at *; omega)), by (/-31-/first | (have o1 := gz_sh q41; omega) | (simp only [gz_hd] at *; omega)), by (/-32-/first | (have o1 := gz_sh q41; have o2 := gz_sh t44; have o3 := gz_sh t5; omega) | (simp only [gz_hd] at *; omega)), (fun h => absurd h (by (/-33-/first | (have o1 := gz_sh f1; have o2 := gz_sh t44; have o3 := gz_sh t5; omega) | (simp only [gz_hd] at *; omega)))), fun _ k => (g41 56 k rfl).trans (p4 56 k (fun h => absurd h.1 (by first | exact gz_ne rfl | decide)))⟩⟩
set_option maxHeartbeats 2000000 in
theorem hh_feed_b {ws0 : List Cond} {tb : String → gz_T} (hws : gc_Ws ws0) (htb : gc_tbs tb) {sh : gz_Sh} {ro : Nat → Nat} {I : gr_I} {J : gr_J} {A : gc_A} (hs : gh_HS sh ro I J A) (hc : gh_HC sh ro A I) (a1 : Int) (a2 : Int) (a3 : Int) (a4 : Int) (a5 : Int) (ra1 : (-2147483648) ≤ a1 ∧ a1 ≤ 2147483647) (ra2 : (-2147483648) ≤ a2 ∧ a2 ≤ 2147483647) (ra3 : (-2147483648) ≤ a3 ∧ a3 ≤ 2147483647) (ra4 : (-2147483648) ≤ a4 ∧ a4 ≤ 2147483647) (ra5 : (-2147483648) ≤ a5 ∧ a5 ≤ 2147483647) (h1 : I 23 1 ≤ 980) : ∃ (z : Int) (Iₚ : gr_I) (Jₚ : gr_J), gz_Ev ws0 tb 100 (yX12_feed, cX12_feed, 6, (some .int)) [.inr (.inr (some 0)), .inl a1, .inl a2, .inl a3, .inl a4, .inl a5] sh (gc_h sh I J A) (some (.inl z)) sh (gc_h sh Iₚ Jₚ A) 0 0 ∧ gh_K sh ro A I J Iₚ Jₚ (I 23 1 + 20) 0 ∧ z = I 23 1 + 20 ∧ gs_F5 a1 a2 a3 a4 a5 (Int.toNat (I 23 1)) (I 24) (Iₚ 24) := by
  have hb := hs.1
  have hI := hs.2.1
  have hok := hs.2.2.1
  have hT := hs.2.2.2.1
  have hU := hs.2.2.2.2.1
  have i8 : 0 ≤ I 8 1 ∧ I 8 1 ≤ 8 := gc_in hI (gc_bR hb (by decide) rfl) rfl rfl
  have h144 := gc_Base_len hb
  obtain ⟨c1, c2, c3, c4, c5, c6, c7, c8⟩ := id hc
  obtain ⟨r, hₚ, E, Iₚ, Jₚ, rfl, hIₚ, g, k, z, rfl, p0, p1, p2, p3, p4⟩ := d_X12_feed_b hws htb sh ro I J A hI a1 a2 a3 a4 a5 hb ⟨by omega, by omega⟩ ⟨by omega, by omega⟩ ⟨by omega, by omega⟩ ⟨by omega, by omega⟩ ⟨by omega, by omega⟩ h1
  have ok' : gc_OK sh Iₚ Jₚ A := gh_OK_g hok (fun q j => (g q j).elim (fun h => by
      rcases h with ⟨rfl, rfl⟩ | ⟨rfl, hP⟩
      · exact Or.inl (gh_ok0 (gc_bS hb (p := 23) rfl) rfl)
      · exact Or.inl (gh_ok0 (gc_bS hb (p := 24) rfl) rfl)
      ) Or.inr) (fun q j => (k q j).imp (fun h => h.elim) id)
  have hk := gh_HS_n hs hIₚ ok' (fun q j => (g q j).imp (fun h => by omega) id) (fun q j => (k q j).imp (fun h => h.elim) id)
  refine ⟨z, Iₚ, Jₚ, gz_Ev_mono (by decide) E, ⟨hk.1, ⟨(gc_FN_fr c1 (fun k => ((g 49 k).resolve_left (by omega))) (fun k => ((g 50 k).resolve_left (by omega)))), (gc_FZ_fr c2 ((g 2 1).resolve_left (by omega)) (fun k => ((g 49 k).resolve_left (by omega))) (fun k => ((g 50 k).resolve_left (by omega)))), (by have h1 := ((g 86 2).resolve_left (by omega)); have h2 := ((g 86 4).resolve_left (by omega)); omega), (by have h1 := ((g 100 2).resolve_left (by omega)); have h2 := ((g 100 1).resolve_left (by omega)); have h3 := hk.2.1 8 1 (by decide) (by decide); omega), (gh_SN_fr c5 ((g 100 9).resolve_left (by omega))), (gh_FBT_fr c6 hk.2 (fun i t d j hi ht h1 h2 => (g (t + d) j).resolve_left (by have := (hT.1 i t hi ht).2.1; omega))), (gh_TRE_k c7 hk.2 (fun q j h1 h2 h3 => ((g q j).resolve_left (by omega)))), (gh_RKO_fr hs c8 hk.2 (fun q j h1 h2 => ((g q j).resolve_left (by omega))))⟩, hk.2, by omega, (fun k9 h9 => ((g 24 k9).resolve_left (by omega))), ⟨(g 100 9).resolve_left (by omega), fun _ => ⟨(g 100 1).resolve_left (by omega), (g 100 2).resolve_left (by omega), fun k => (g 101 k).resolve_left (by omega)⟩, fun _ => ⟨(g 100 4).resolve_left (by omega), (g 100 7).resolve_left (by omega), (g 100 8).resolve_left (by omega), fun k => (g 102 k).resolve_left (by omega), fun k => (g 103 k).resolve_left (by omega)⟩, fun _ => ⟨(g 100 14).resolve_left (by omega), fun k => (g 111 k).resolve_left (by omega), fun k => (g 112 k).resolve_left (by omega)⟩⟩⟩, p2, p4⟩
set_option maxHeartbeats 8000000 in
set_option maxRecDepth 100000 in
theorem r_thrown_b {ws0 : List Cond} {tb : String → gz_T} (hws : ∀ w ∈ gr_ws, w ∈ ws0) (htb : tb RX13 = gr_T) (ext : gz_Sh) (I : gr_I) (J : gr_J) (hI : gr_Inv I)    : ∃ r hₚ, gz_Ev ws0 tb 1 (yX13_thrown, cX13_thrown, 1, (some .int)) [.inr (.inr (some 0))] (gr_sh ++ ext) (gr_h I J) r (gr_sh ++ ext) hₚ 0 0 ∧ (r = some (.inl (I 0 0)) ∧ hₚ = gr_h I J) := by
  have hD : gv_D (gr_E ws0 tb 0 (yX13_thrown, cX13_thrown, 1, (some .int)) kX13_thrown) := gq_of oX13_thrown
  refine gr_ev (d := 0) (l := kX13_thrown) (Po := fun r hₚ => (r = some (.inl (I 0 0)) ∧ hₚ = gr_h I J)) htb rfl (Nat.le_of_ble_eq_true rfl) ?_
  have f1 := (gr_b_0_0 hI)
  refine gv_run 2 true hD (pcₚ := 4) (lvₚ := [(0, .inr (.inr (some 0)))]) (stₚ := [.inl (I 0 0)]) (hₚ := gr_h I J) (C := ((True ∧ True) ∧ True)) rfl ⟨⟨trivial, trivial⟩, trivial⟩ ?_
  exact gv_iret hD rfl ⟨rfl, rfl⟩
