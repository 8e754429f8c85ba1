/-! PARITY: names alike, on both sides -/
def gs_NA (n : Int) (f g : Nat → Int64) : Prop := ∀ k : Nat, (k : Int) < n → gs_al (f k) (g k)
set_option maxHeartbeats 8000000 in
theorem gs_fd_end {g : Int → Int64} {v : Int64} : ∀ (m : Nat) (i : Int), 0 ≤ i → gs_fd g v (m + 1) i = if 0 ≤ gs_fd g v m i then gs_fd g v m i else if g (i + m) = v then i + m else -1
  | 0, i, h => by
    show (if g i = v then i else -1) = if 0 ≤ (-1 : Int) then (-1 : Int) else if g (i + ((0 : Nat) : Int)) = v then i + ((0 : Nat) : Int) else -1
    rw [if_neg (show ¬ 0 ≤ (-1 : Int) by exact gz_m 0 (by omega)), show i + ((0 : Nat) : Int) = i from by exact gz_m 1 (by omega)]
  | m + 1, i, h => by
    show (if g i = v then i else gs_fd g v (m + 1) (i + 1)) = if 0 ≤ (if g i = v then i else gs_fd g v m (i + 1)) then (if g i = v then i else gs_fd g v m (i + 1)) else if g (i + ((m + 1 : Nat) : Int)) = v then i + ((m + 1 : Nat) : Int) else -1
    by_cases c : g i = v
    · rw [if_pos c, if_pos c, if_pos h]
    · rw [if_neg c, if_neg c, gs_fd_end m (i + 1) (by exact gz_m 2 (by omega)), show i + 1 + (m : Int) = i + ((m + 1 : Nat) : Int) from by exact gz_m 3 (by omega)]
theorem gc_fd_gs {f : Nat → Int64} {w : Int64} : ∀ n : Nat, gc_fd f w n = gs_fd (fun i => f (Int.toNat i)) w n 0
  | 0 => rfl
  | n + 1 => by
    rw [gs_fd_end n 0 (by exact gz_m 0 (by omega)), ← gc_fd_gs n]
    show (if 0 ≤ gc_fd f w n then gc_fd f w n else if f n = w then (n : Int) else -1) = if 0 ≤ gc_fd f w n then gc_fd f w n else if f (Int.toNat (0 + (n : Int))) = w then 0 + (n : Int) else -1
    rw [show Int.toNat (0 + (n : Int)) = n from by exact gz_m 1 (by omega), show (0 : Int) + (n : Int) = n from by exact gz_m 2 (by omega)]
theorem gs_NA_find {n : Int} {f : Nat → Int64} {g : Int → Int64} {w v : Int64} (h : ∀ k : Nat, (k : Int) < n → gs_al (f k) (g (k : Int))) (hw : gs_al w v) : gc_fd f w (Int.toNat n) = gs_find g n v := by
  rw [gc_fd_gs]
  refine gs_fd_eq _ _ (fun j h1 h2 => ?_)
  have a := h (Int.toNat j) (by omega)
  rw [show ((Int.toNat j : Nat) : Int) = j from by omega] at a
  exact gs_al_eq a hw
theorem gs_NA_lk {Ir : gr_I} {Jr : gr_J} {row f : Nat} {n : Int} {cf : Nat → Int64} {β : Int → Int} {N p : Int} (h : gs_NA n cf (Jr row)) (hn : n = Ir 0 f) (hT : gs_T β N p = 1) : gc_fd cf (gs_M β N p) (Int.toNat n) = gs_lk Ir Jr row f (gs_rn β N p) := by
  unfold gs_lk
  rw [← hn]
  refine gs_NA_find (fun k hk => ?_) (gs_al_p hT)
  show gs_al (cf k) (Jr row (Int.toNat (0 + (k : Int))))
  rw [show Int.toNat (0 + (k : Int)) = k from by omega]
  exact h k hk
theorem gs_NA_lt {Jr : gr_J} {row : Nat} {o n m : Int} {cf : Nat → Int64} {β : Int → Int} {N p : Int} (h : gs_NA n cf (fun k => Jr row (Int.toNat (o + (k : Int))))) (hm : n = m) (hT : gs_T β N p = 1) : gc_fd cf (gs_M β N p) (Int.toNat n) = gs_lt Jr row o m (gs_rn β N p) := by
  unfold gs_lt
  rw [← hm]
  exact gs_NA_find (fun k hk => h k hk) (gs_al_p hT)
/-- what Names.put does -/
def gc_PU (p : Nat) (n : Nat) (w : Int64) (I : gr_I) (J : gr_J) (I' : gr_I) (J' : gr_J) : Prop := I p 1 < (n : Int) → I' p 1 = I p 1 + 1 ∧ J' (p + 1) (Int.toNat (I p 1)) = w ∧ ∀ j, ¬ j = Int.toNat (I p 1) → J' (p + 1) j = J (p + 1) j
/-- a fact, on both sides -/
def gs_FA (Ir : gr_I) (Jr : gr_J) (I : gr_I) (J : gr_J) (n : Int) : Prop := ∀ k : Nat, (k : Int) < n → gs_al (J 18 k) (Jr 5 k) ∧ I 19 (2 * k) = Ir 11 k ∧ I 19 (2 * k + 1) = Ir 12 k
theorem gc_PU_tr {p n : Nat} {w v : Int64} {I I1 I' : gr_I} {J J1 J' : gr_J} (h : gc_PU p n w I1 J1 I' J') (e1 : I1 p 1 = I p 1) (e2 : ∀ j, J1 (p + 1) j = J (p + 1) j) (ew : w = v) : gc_PU p n v I J I' J' := fun h0 => by
  obtain ⟨a, b, c⟩ := h (by omega)
  rw [e1] at a b c
  exact ⟨a, by rw [b, ew], fun j hj => (c j hj).trans (e2 j)⟩
set_option maxHeartbeats 8000000 in
set_option maxRecDepth 100000 in
theorem d_X4_put_p {ws0 : List Cond} {tb : String → gz_T} (hws : gc_Ws ws0) (htb : gc_tbs tb) (sh : gz_Sh) (ro : Nat → Nat) (I : gr_I) (J : gr_J) (A : gc_A) (hI : gc_Inv ro I) (p : Nat) (n ρ : Nat) (a1 : Int64) (hp : gc_isNames sh ro A p n ρ)   : ∃ r h', gz_Ev ws0 tb 1 (yX4_put, cX4_put, 3, none) [.inr (.inr (some p)), .inr (.inl a1)] sh (gc_h sh I J A) r sh h' 0 0 ∧ (∃ (I' : gr_I) (J' : gr_J), h' = gc_h sh I' J' A ∧ gc_Inv ro I' ∧ (∀ q j : Nat, ((q = p ∧ j = 1)) ∨ I' q j = I q j) ∧ (∀ q j : Nat, (q = (p + 1)) ∨ J' q j = J q j) ∧ r = none ∧ (I' p 1 ≤ I p 1 + 1) ∧ (I p 1 ≤ I' p 1) ∧ (I p 1 = ((n : Nat) : Int) ∨ I' p 1 = I p 1 + 1) ∧ (gc_PU p n a1 I J I' J')) := by
  have FI : ∀ q j : Nat, ((q = p ∧ j = 1)) ∨ I q j = I q j := fun _ _ => Or.inr rfl
  have FJ : ∀ q j : Nat, (q = (p + 1)) ∨ J q j = J q j := fun _ _ => Or.inr rfl
  obtain ⟨S_p, R_p, B_p, A_p_0, S_p_1, R_p_1, B_p_1, Q_lo, Q_hi, Q_n⟩ := id hp
  have hD : gv_D (gc_E4 ws0 tb 0 (yX4_put, cX4_put, 3, none) kX4_put) := gq_of oX4_put
  refine gc_ev4 (d := 0) (l := kX4_put) (Po := fun r h' => (∃ (I' : gr_I) (J' : gr_J), h' = gc_h sh I' J' A ∧ gc_Inv ro I' ∧ (∀ q j : Nat, ((q = p ∧ j = 1)) ∨ I' q j = I q j) ∧ (∀ q j : Nat, (q = (p + 1)) ∨ J' q j = J q j) ∧ r = none ∧ (I' p 1 ≤ I p 1 + 1) ∧ (I p 1 ≤ I' p 1) ∧ (I p 1 = ((n : Nat) : Int) ∨ I' p 1 = I p 1 + 1) ∧ (gc_PU p n a1 I J I' J'))) htb rfl (Nat.le_of_ble_eq_true rfl) ?_
  have f1 := (show 0 ≤ I p 1 ∧ I p 1 ≤ ((n : Nat) : Int) from gc_in hI R_p Q_lo Q_hi)
  refine gv_run 1 true hD (pc' := 1) (lv' := [(0, .inr (.inr (some p))), (1, .inr (.inl a1))]) (st' := [.inr (.inr (some p))]) (h' := gc_h sh I J A) (C := (True ∧ True)) rfl ⟨trivial, trivial⟩ ?_
  have f2 := (show 0 ≤ I p 1 ∧ I p 1 ≤ ((n : Nat) : Int) from gc_in hI R_p Q_lo Q_hi)
  refine gv_get hD rfl rfl S_p ⟨by decide, B_p⟩ (gc_hI S_p rfl) ?_
  show gv_X _ _ (4, [(0, .inr (.inr (some p))), (1, .inr (.inl a1))], [.inl (I p 1)], sh, gc_h sh I J A)
  refine gv_run 1 true hD (pc' := 5) (lv' := [(0, .inr (.inr (some p))), (1, .inr (.inl a1))]) (st' := [.inr (.inr (some p)), .inl (I p 1)]) (h' := gc_h sh I J A) (C := (True ∧ True)) rfl ⟨trivial, trivial⟩ ?_
  refine gv_get hD rfl rfl S_p ⟨by decide, B_p⟩ (gc_hA S_p rfl A_p_0) ?_
  show gv_X _ _ (8, [(0, .inr (.inr (some p))), (1, .inr (.inl a1))], [.inr (.inr (some (p + 1))), .inl (I p 1)], sh, gc_h sh I J A)
  refine gv_len hD rfl S_p_1 ⟨by exact gz_m 0 (by omega), B_p_1⟩ ?_
  show gv_X _ _ (9, [(0, .inr (.inr (some p))), (1, .inr (.inl a1))], [.inl ((n : Nat) : Int), .inl (I p 1)], sh, gc_h sh I J A)
  refine gv_icmp_ge (t := 29) hD rfl rfl ⟨⟨by exact gz_m 1 (by omega), by exact gz_m 2 (by omega)⟩, ⟨by exact gz_m 3 (by omega), by exact gz_m 4 (by omega)⟩⟩ (fun c3 => ?_) (fun c3 => ?_)
  · show gv_X _ _ (29, [(0, .inr (.inr (some p))), (1, .inr (.inl a1))], [], sh, gc_h sh I J A)
    exact gv_vret hD rfl ⟨I, J, rfl, hI, FI, FJ, ⟨rfl, by exact gz_m 5 (by omega), by exact gz_m 6 (by omega), by exact gz_m 7 (by omega), (fun h9 => absurd h9 (by exact gz_m 8 (by omega)))⟩⟩
  · show gv_X _ _ (12, [(0, .inr (.inr (some p))), (1, .inr (.inl a1))], [], sh, gc_h sh I J A)
    refine gv_run 1 true hD (pc' := 13) (lv' := [(0, .inr (.inr (some p))), (1, .inr (.inl a1))]) (st' := [.inr (.inr (some p))]) (h' := gc_h sh I J A) (C := (True ∧ True)) rfl ⟨trivial, trivial⟩ ?_
    refine gv_get hD rfl rfl S_p ⟨by decide, B_p⟩ (gc_hA S_p rfl A_p_0) ?_
    show gv_X _ _ (16, [(0, .inr (.inr (some p))), (1, .inr (.inl a1))], [.inr (.inr (some (p + 1)))], sh, gc_h sh I J A)
    refine gv_run 2 true hD (pc' := 18) (lv' := [(0, .inr (.inr (some p))), (1, .inr (.inl a1))]) (st' := [.inr (.inr (some p)), .inr (.inr (some p)), .inr (.inr (some (p + 1)))]) (h' := gc_h sh I J A) (C := ((True ∧ True) ∧ True)) rfl ⟨⟨trivial, trivial⟩, trivial⟩ ?_
    have f4 := (show 0 ≤ I p 1 ∧ I p 1 ≤ ((n : Nat) : Int) from gc_in hI R_p Q_lo Q_hi)
    refine gv_get hD rfl rfl S_p ⟨by decide, B_p⟩ (gc_hI S_p rfl) ?_
    show gv_X _ _ (21, [(0, .inr (.inr (some p))), (1, .inr (.inl a1))], [.inl (I p 1), .inr (.inr (some p)), .inr (.inr (some (p + 1)))], sh, gc_h sh I J A)
    refine gv_run 3 true hD (pc' := 24) (lv' := [(0, .inr (.inr (some p))), (1, .inr (.inl a1))]) (st' := [.inl ((I p 1) + 1), .inr (.inr (some p)), .inl (I p 1), .inr (.inr (some (p + 1)))]) (h' := gc_h sh I J A) (C := (((True ∧ True) ∧ True) ∧ True)) rfl ⟨⟨⟨trivial, trivial⟩, trivial⟩, trivial⟩ ?_
    refine gv_put hD rfl rfl S_p ⟨by decide, B_p⟩ rfl trivial ?_
    refine gc_st (k := 1) hI S_p rfl R_p (lo := 0) (hi := ((n : Nat) : Int)) Q_lo Q_hi (by exact gz_m 9 (by omega)) (by exact gz_m 10 (by omega)) (fun I5 hI5 q6 p6 => ?_)
    have FI5 := gc_frs (W := fun q j => (q = p ∧ j = 1)) FI ⟨rfl, rfl⟩ p6
    have f7 := (show 0 ≤ I5 p 1 ∧ I5 p 1 ≤ ((n : Nat) : Int) from gc_in hI5 R_p Q_lo Q_hi)
    show gv_X _ _ (27, [(0, .inr (.inr (some p))), (1, .inr (.inl a1))], [.inl (I p 1), .inr (.inr (some (p + 1)))], sh, gc_h sh I5 J A)
    refine gv_run 1 true hD (pc' := 28) (lv' := [(0, .inr (.inr (some p))), (1, .inr (.inl a1))]) (st' := [.inr (.inl a1), .inl (I p 1), .inr (.inr (some (p + 1)))]) (h' := gc_h sh I5 J A) (C := (True ∧ True)) rfl ⟨trivial, trivial⟩ ?_
    refine gv_last hD rfl S_p_1 ⟨by exact gz_m 11 (by omega), B_p_1⟩ ⟨by exact gz_m 12 (by omega), by exact gz_m 13 (by omega)⟩ ?_
    refine gc_stJ S_p_1 rfl (fun J8 q9 p9 => ?_)
    have FJ8 := gc_frs (W := fun q j => q = (p + 1)) FJ rfl p9
    show gv_X _ _ (29, [(0, .inr (.inr (some p))), (1, .inr (.inl a1))], [], sh, gc_h sh I5 J8 A)
    exact gv_vret hD rfl ⟨I5, J8, rfl, hI5, FI5, FJ8, ⟨rfl, by exact gz_m 14 (by omega), by exact gz_m 15 (by omega), by exact gz_m 16 (by omega), (fun _ => ⟨by exact gz_m 17 (by omega), q9, fun j hj => p9 (p + 1) j (fun h => hj h.2)⟩)⟩⟩
set_option maxHeartbeats 8000000 in
set_option maxRecDepth 100000 in
theorem d_X4_isFull_p {ws0 : List Cond} {tb : String → gz_T} (hws : gc_Ws ws0) (htb : gc_tbs tb) (sh : gz_Sh) (ro : Nat → Nat) (I : gr_I) (J : gr_J) (A : gc_A) (hI : gc_Inv ro I) (p : Nat) (n ρ : Nat)  (hp : gc_isNames sh ro A p n ρ)   : ∃ r h', gz_Ev ws0 tb 1 (yX4_isFull, cX4_isFull, 1, (some .boolean)) [.inr (.inr (some p))] sh (gc_h sh I J A) r sh h' 0 0 ∧ (h' = gc_h sh I J A ∧ (∃ z : Int, r = some (.inl z) ∧ 0 ≤ z ∧ z ≤ 1 ∧ ((z = 1 ∧ ((n : Nat) : Int) ≤ I p 1) ∨ (z = 0 ∧ I p 1 < ((n : Nat) : Int))))) := by
  obtain ⟨S_p, R_p, B_p, A_p_0, S_p_1, R_p_1, B_p_1, Q_lo, Q_hi, Q_n⟩ := id hp
  have hD : gv_D (gc_E4 ws0 tb 0 (yX4_isFull, cX4_isFull, 1, (some .boolean)) kX4_isFull) := gq_of oX4_isFull
  refine gc_ev4 (d := 0) (l := kX4_isFull) (Po := fun r h' => (h' = gc_h sh I J A ∧ (∃ z : Int, r = some (.inl z) ∧ 0 ≤ z ∧ z ≤ 1 ∧ ((z = 1 ∧ ((n : Nat) : Int) ≤ I p 1) ∨ (z = 0 ∧ I p 1 < ((n : Nat) : Int)))))) htb rfl (Nat.le_of_ble_eq_true rfl) ?_
  refine gv_run 1 true hD (pc' := 1) (lv' := [(0, .inr (.inr (some p)))]) (st' := [.inr (.inr (some p))]) (h' := gc_h sh I J A) (C := (True ∧ True)) rfl ⟨trivial, trivial⟩ ?_
  have f1 := (show 0 ≤ I p 1 ∧ I p 1 ≤ ((n : Nat) : Int) from gc_in hI R_p Q_lo Q_hi)
  refine gv_get hD rfl rfl S_p ⟨by decide, B_p⟩ (gc_hI S_p rfl) ?_
  show gv_X _ _ (4, [(0, .inr (.inr (some p)))], [.inl (I p 1)], sh, gc_h sh I J A)
  refine gv_run 1 true hD (pc' := 5) (lv' := [(0, .inr (.inr (some p)))]) (st' := [.inr (.inr (some p)), .inl (I p 1)]) (h' := gc_h sh I J A) (C := (True ∧ True)) rfl ⟨trivial, trivial⟩ ?_
  refine gv_get hD rfl rfl S_p ⟨by decide, B_p⟩ (gc_hA S_p rfl A_p_0) ?_
  show gv_X _ _ (8, [(0, .inr (.inr (some p)))], [.inr (.inr (some (p + 1))), .inl (I p 1)], sh, gc_h sh I J A)
  refine gv_len hD rfl S_p_1 ⟨by exact gz_m 0 (by omega), B_p_1⟩ ?_
  show gv_X _ _ (9, [(0, .inr (.inr (some p)))], [.inl ((n : Nat) : Int), .inl (I p 1)], sh, gc_h sh I J A)
  refine gv_icmp_lt (t := 16) hD rfl rfl ⟨⟨by exact gz_m 1 (by omega), by exact gz_m 2 (by omega)⟩, ⟨by exact gz_m 3 (by omega), by exact gz_m 4 (by omega)⟩⟩ (fun c2 => ?_) (fun c2 => ?_)
  · show gv_X _ _ (16, [(0, .inr (.inr (some p)))], [], sh, gc_h sh I J A)
    refine gv_run 1 true hD (pc' := 17) (lv' := [(0, .inr (.inr (some p)))]) (st' := [.inl 0]) (h' := gc_h sh I J A) (C := (True ∧ True)) rfl ⟨trivial, trivial⟩ ?_
    exact gv_zret hD rfl (by exact gz_m 5 (by omega)) ⟨rfl, ⟨_, rfl, by exact gz_m 6 (by omega), by exact gz_m 7 (by omega), (Or.inr ⟨by exact gz_m 8 (by omega), by exact gz_m 9 (by omega)⟩)⟩⟩
  · show gv_X _ _ (12, [(0, .inr (.inr (some p)))], [], sh, gc_h sh I J A)
    refine gv_run 2 true hD (pc' := 17) (lv' := [(0, .inr (.inr (some p)))]) (st' := [.inl 1]) (h' := gc_h sh I J A) (C := ((True ∧ True) ∧ True)) rfl ⟨⟨trivial, trivial⟩, trivial⟩ ?_
    exact gv_zret hD rfl (by exact gz_m 10 (by omega)) ⟨rfl, ⟨_, rfl, by exact gz_m 11 (by omega), by exact gz_m 12 (by omega), (Or.inl ⟨by exact gz_m 13 (by omega), by exact gz_m 14 (by omega)⟩)⟩⟩
set_option maxHeartbeats 8000000 in
set_option maxRecDepth 100000 in
theorem d_X8_findFact_p {ws0 : List Cond} {tb : String → gz_T} (hws : gc_Ws ws0) (htb : gc_tbs tb) (sh : gz_Sh) (ro : Nat → Nat) (I : gr_I) (J : gr_J) (A : gc_A) (hI : gc_Inv ro I) (v9 : Int64) (Ir : gr_I) (Jr : gr_J) (a1 : Int64) (a2 : Int) (a3 : Int) (hb : gc_Base sh ro A) (ha2 : (-2147483648) ≤ a2 ∧ a2 ≤ 2147483647) (ha3 : (-2147483648) ≤ a3 ∧ a3 ≤ 2147483647) (x0 : gs_FA Ir Jr I J (I 1 13)) (x1 : I 1 13 = Ir 0 5) (x2 : gs_al a1 v9) : ∃ r h', gz_Ev ws0 tb 1 (yX8_findFact, cX8_findFact, 6, (some .int)) [.inr (.inr (some 1)), .inr (.inl a1), .inl a2, .inl a3] sh (gc_h sh I J A) r sh h' 0 0 ∧ (h' = gc_h sh I J A ∧ (∃ z : Int, r = some (.inl z) ∧ (-1) ≤ z ∧ z ≤ 63 ∧ ((0 ≤ z ∧ gs_isf Ir Jr v9 a2 a3 = 1) ∨ (z < 0 ∧ gs_isf Ir Jr v9 a2 a3 = 0)))) := by
  have A_1_14 : A 1 14 = some 18 := gc_bA hb rfl
  have A_1_15 : A 1 15 = some 19 := gc_bA hb rfl
  have B_1 : 1 < 1000000 := by decide
  have B_18 : 18 < 1000000 := by decide
  have B_19 : 19 < 1000000 := by decide
  have R_1 : ro 1 = 22 := gc_bR hb (by decide) rfl
  have R_19 : ro 19 = 29 := gc_bR hb (by decide) rfl
  have S_1 : sh[1]? = some (false, 8, 21) := gc_bS hb rfl
  have S_18 : sh[18]? = some (true, 2, 64) := gc_bS hb rfl
  have S_19 : sh[19]? = some (true, 1, 128) := gc_bS hb rfl
  have hD : gv_D (gc_E8 ws0 tb 0 (yX8_findFact, cX8_findFact, 6, (some .int)) kX8_findFact) := gq_of oX8_findFact
  refine gc_ev8 (d := 0) (l := kX8_findFact) (Po := fun r h' => (h' = gc_h sh I J A ∧ (∃ z : Int, r = some (.inl z) ∧ (-1) ≤ z ∧ z ≤ 63 ∧ ((0 ≤ z ∧ gs_isf Ir Jr v9 a2 a3 = 1) ∨ (z < 0 ∧ gs_isf Ir Jr v9 a2 a3 = 0))))) htb rfl (Nat.le_of_ble_eq_true rfl) ?_
  have L3 : ∀ (n9 : Nat) (v5_1 : Int), (65 - v5_1).toNat < n9 → (((-2147483648) ≤ a2 ∧ a2 ≤ 2147483647) ∧ ((-2147483648) ≤ a3 ∧ a3 ≤ 2147483647) ∧ (0 ≤ v5_1 ∧ v5_1 ≤ 64)) → (gs_isf Ir Jr v9 a2 a3 = gs_ifd Ir Jr v9 a2 a3 (Int.toNat (Ir 0 5 - v5_1)) v5_1) → gv_X (gc_E8 ws0 tb 0 (yX8_findFact, cX8_findFact, 6, (some .int)) kX8_findFact) (gv_Q cX8_findFact (some .int) sh (fun r h' => (h' = gc_h sh I J A ∧ (∃ z : Int, r = some (.inl z) ∧ (-1) ≤ z ∧ z ≤ 63 ∧ ((0 ≤ z ∧ gs_isf Ir Jr v9 a2 a3 = 1) ∨ (z < 0 ∧ gs_isf Ir Jr v9 a2 a3 = 0)))))) (3, [(0, .inr (.inr (some 1))), (1, .inr (.inl a1)), (3, .inl a2), (4, .inl a3), (5, .inl v5_1)], [], sh, gc_h sh I J A) := by
    intro n9
    induction n9 with
    | zero => intro v5_1 hn; exact gz_m 0 (by omega)
    | succ n9 ih3 =>
      intro v5_1 hn m_1 e0_1
      obtain ⟨ha2_1, ha3_1, hv5_1⟩ := m_1
      refine gv_run 2 true hD (pc' := 6) (lv' := [(0, .inr (.inr (some 1))), (1, .inr (.inl a1)), (3, .inl a2), (4, .inl a3), (5, .inl v5_1)]) (st' := [.inr (.inr (some 1)), .inl v5_1]) (h' := gc_h sh I J A) (C := ((True ∧ True) ∧ True)) rfl ⟨⟨trivial, trivial⟩, trivial⟩ ?_
      have f2 := (show 0 ≤ I 1 13 ∧ I 1 13 ≤ 64 from gc_in hI R_1 rfl rfl)
      refine gv_get hD rfl rfl S_1 ⟨by decide, B_1⟩ (gc_hI S_1 rfl) ?_
      show gv_X _ _ (9, [(0, .inr (.inr (some 1))), (1, .inr (.inl a1)), (3, .inl a2), (4, .inl a3), (5, .inl v5_1)], [.inl (I 1 13), .inl v5_1], sh, gc_h sh I J A)
      refine gv_icmp_ge (t := 62) hD rfl rfl ⟨⟨by exact gz_m 1 (by omega), by exact gz_m 2 (by omega)⟩, ⟨by exact gz_m 3 (by omega), by exact gz_m 4 (by omega)⟩⟩ (fun c3 => ?_) (fun c3 => ?_)
      · show gv_X _ _ (62, [(0, .inr (.inr (some 1))), (1, .inr (.inl a1)), (3, .inl a2), (4, .inl a3), (5, .inl v5_1)], [], sh, gc_h sh I J A)
        refine gv_run 1 true hD (pc' := 63) (lv' := [(0, .inr (.inr (some 1))), (1, .inr (.inl a1)), (3, .inl a2), (4, .inl a3), (5, .inl v5_1)]) (st' := [.inl (-1)]) (h' := gc_h sh I J A) (C := (True ∧ True)) rfl ⟨trivial, trivial⟩ ?_
        exact gv_iret hD rfl ⟨rfl, ⟨_, rfl, by exact gz_m 5 (by omega), by exact gz_m 6 (by omega), (Or.inr ⟨by exact gz_m 7 (by omega), (e0_1.trans (gs_ifd_e (by exact gz_m 8 (by omega))))⟩)⟩⟩
      · show gv_X _ _ (12, [(0, .inr (.inr (some 1))), (1, .inr (.inl a1)), (3, .inl a2), (4, .inl a3), (5, .inl v5_1)], [], sh, gc_h sh I J A)
        refine gv_run 1 true hD (pc' := 13) (lv' := [(0, .inr (.inr (some 1))), (1, .inr (.inl a1)), (3, .inl a2), (4, .inl a3), (5, .inl v5_1)]) (st' := [.inr (.inr (some 1))]) (h' := gc_h sh I J A) (C := (True ∧ True)) rfl ⟨trivial, trivial⟩ ?_
        refine gv_get hD rfl rfl S_1 ⟨by decide, B_1⟩ (gc_hA S_1 rfl A_1_14) ?_
        show gv_X _ _ (16, [(0, .inr (.inr (some 1))), (1, .inr (.inl a1)), (3, .inl a2), (4, .inl a3), (5, .inl v5_1)], [.inr (.inr (some 18))], sh, gc_h sh I J A)
        refine gv_run 1 true hD (pc' := 18) (lv' := [(0, .inr (.inr (some 1))), (1, .inr (.inl a1)), (3, .inl a2), (4, .inl a3), (5, .inl v5_1)]) (st' := [.inl v5_1, .inr (.inr (some 18))]) (h' := gc_h sh I J A) (C := (True ∧ True)) rfl ⟨trivial, trivial⟩ ?_
        refine gv_lald hD rfl S_18 rfl ⟨by decide, B_18⟩ ⟨by exact gz_m 9 (by omega), by exact gz_m 10 (by omega)⟩ (gc_jJ S_18 rfl) ?_
        show gv_X _ _ (19, [(0, .inr (.inr (some 1))), (1, .inr (.inl a1)), (3, .inl a2), (4, .inl a3), (5, .inl v5_1)], [.inr (.inl (J 18 (Int.toNat v5_1)))], sh, gc_h sh I J A)
        have f4 := gw_cmp ((J 18 (Int.toNat v5_1))) (a1)
        refine gv_run 2 true hD (pc' := 21) (lv' := [(0, .inr (.inr (some 1))), (1, .inr (.inl a1)), (3, .inl a2), (4, .inl a3), (5, .inl v5_1)]) (st' := [.inl ((lg_cmp ((J 18 (Int.toNat v5_1))) (a1)).toInt)]) (h' := gc_h sh I J A) (C := ((True ∧ True) ∧ True)) rfl ⟨⟨trivial, trivial⟩, trivial⟩ ?_
        refine gv_if_ne (t := 56) hD rfl rfl ⟨by exact gz_m 11 (by omega), by exact gz_m 12 (by omega)⟩ (fun c5 => ?_) (fun c5 => ?_)
        · show gv_X _ _ (56, [(0, .inr (.inr (some 1))), (1, .inr (.inl a1)), (3, .inl a2), (4, .inl a3), (5, .inl v5_1)], [], sh, gc_h sh I J A)
          have j5 := gs_cmpn (a := (J 18 (Int.toNat v5_1))) (b := a1) (by exact gz_m 13 (by omega))
          refine gv_run 2 true hD (pc' := 3) (lv' := [(5, .inl (v5_1 + 1)), (0, .inr (.inr (some 1))), (1, .inr (.inl a1)), (3, .inl a2), (4, .inl a3)]) (st' := []) (h' := gc_h sh I J A) (C := ((True ∧ True) ∧ True)) rfl ⟨⟨trivial, trivial⟩, trivial⟩ ?_
          refine gv_pick [1, 2, 3, 4, 0] rfl ?_
          exact ih3 (v5_1 + 1) (by exact gz_m 14 (by omega)) (by exact gz_m 15 (by omega)) (e0_1.trans (gs_ifd_s (by exact gz_m 16 (by omega)) (fun h => j5 ((gs_al_eq (x0 (Int.toNat v5_1) (by exact gz_m 17 (by omega))).1 x2).mpr h.1))))
        · show gv_X _ _ (24, [(0, .inr (.inr (some 1))), (1, .inr (.inl a1)), (3, .inl a2), (4, .inl a3), (5, .inl v5_1)], [], sh, gc_h sh I J A)
          have j5 := gs_cmp0 (a := (J 18 (Int.toNat v5_1))) (b := a1) (by exact gz_m 18 (by omega))
          refine gv_run 1 true hD (pc' := 25) (lv' := [(0, .inr (.inr (some 1))), (1, .inr (.inl a1)), (3, .inl a2), (4, .inl a3), (5, .inl v5_1)]) (st' := [.inr (.inr (some 1))]) (h' := gc_h sh I J A) (C := (True ∧ True)) rfl ⟨trivial, trivial⟩ ?_
          refine gv_get hD rfl rfl S_1 ⟨by decide, B_1⟩ (gc_hA S_1 rfl A_1_15) ?_
          show gv_X _ _ (28, [(0, .inr (.inr (some 1))), (1, .inr (.inl a1)), (3, .inl a2), (4, .inl a3), (5, .inl v5_1)], [.inr (.inr (some 19))], sh, gc_h sh I J A)
          refine gv_run 3 true hD (pc' := 32) (lv' := [(0, .inr (.inr (some 1))), (1, .inr (.inl a1)), (3, .inl a2), (4, .inl a3), (5, .inl v5_1)]) (st' := [.inl (2 * v5_1), .inr (.inr (some 19))]) (h' := gc_h sh I J A) (C := (((True ∧ True) ∧ True) ∧ True)) rfl ⟨⟨⟨trivial, trivial⟩, trivial⟩, trivial⟩ ?_
          have f6 := (show (-1) ≤ I 19 (Int.toNat (2 * v5_1)) ∧ I 19 (Int.toNat (2 * v5_1)) ≤ 7 from gc_in hI R_19 rfl rfl)
          refine gv_iald hD rfl S_19 rfl ⟨by decide, B_19⟩ ⟨by exact gz_m 19 (by omega), by exact gz_m 20 (by omega)⟩ (gc_iI S_19 rfl) ?_
          show gv_X _ _ (33, [(0, .inr (.inr (some 1))), (1, .inr (.inl a1)), (3, .inl a2), (4, .inl a3), (5, .inl v5_1)], [.inl (I 19 (Int.toNat (2 * v5_1)))], sh, gc_h sh I J A)
          refine gv_run 1 true hD (pc' := 34) (lv' := [(0, .inr (.inr (some 1))), (1, .inr (.inl a1)), (3, .inl a2), (4, .inl a3), (5, .inl v5_1)]) (st' := [.inl a2, .inl (I 19 (Int.toNat (2 * v5_1)))]) (h' := gc_h sh I J A) (C := (True ∧ True)) rfl ⟨trivial, trivial⟩ ?_
          refine gv_icmp_ne (t := 56) hD rfl rfl ⟨⟨by exact gz_m 21 (by omega), by exact gz_m 22 (by omega)⟩, ⟨by exact gz_m 23 (by omega), by exact gz_m 24 (by omega)⟩⟩ (fun c7 => ?_) (fun c7 => ?_)
          · show gv_X _ _ (56, [(0, .inr (.inr (some 1))), (1, .inr (.inl a1)), (3, .inl a2), (4, .inl a3), (5, .inl v5_1)], [], sh, gc_h sh I J A)
            refine gv_run 2 true hD (pc' := 3) (lv' := [(5, .inl (v5_1 + 1)), (0, .inr (.inr (some 1))), (1, .inr (.inl a1)), (3, .inl a2), (4, .inl a3)]) (st' := []) (h' := gc_h sh I J A) (C := ((True ∧ True) ∧ True)) rfl ⟨⟨trivial, trivial⟩, trivial⟩ ?_
            refine gv_pick [1, 2, 3, 4, 0] rfl ?_
            exact ih3 (v5_1 + 1) (by exact gz_m 25 (by omega)) (by exact gz_m 26 (by omega)) (e0_1.trans (gs_ifd_s (by exact gz_m 27 (by omega)) (fun h => by have h8 := h.2; have h9 := (x0 (Int.toNat v5_1) (by exact gz_m 28 (by omega))).2; rw [← h9.1, ← h9.2, show 2 * Int.toNat v5_1 = Int.toNat (2 * v5_1) from by exact gz_m 29 (by omega), show Int.toNat (2 * v5_1) + 1 = Int.toNat (2 * v5_1 + 1) from by exact gz_m 30 (by omega)] at h8; exact gz_m 31 (by omega))))
          · show gv_X _ _ (37, [(0, .inr (.inr (some 1))), (1, .inr (.inl a1)), (3, .inl a2), (4, .inl a3), (5, .inl v5_1)], [], sh, gc_h sh I J A)
            refine gv_run 1 true hD (pc' := 38) (lv' := [(0, .inr (.inr (some 1))), (1, .inr (.inl a1)), (3, .inl a2), (4, .inl a3), (5, .inl v5_1)]) (st' := [.inr (.inr (some 1))]) (h' := gc_h sh I J A) (C := (True ∧ True)) rfl ⟨trivial, trivial⟩ ?_
            refine gv_get hD rfl rfl S_1 ⟨by decide, B_1⟩ (gc_hA S_1 rfl A_1_15) ?_
            show gv_X _ _ (41, [(0, .inr (.inr (some 1))), (1, .inr (.inl a1)), (3, .inl a2), (4, .inl a3), (5, .inl v5_1)], [.inr (.inr (some 19))], sh, gc_h sh I J A)
            refine gv_run 5 true hD (pc' := 47) (lv' := [(0, .inr (.inr (some 1))), (1, .inr (.inl a1)), (3, .inl a2), (4, .inl a3), (5, .inl v5_1)]) (st' := [.inl ((2 * v5_1) + 1), .inr (.inr (some 19))]) (h' := gc_h sh I J A) (C := (((((True ∧ True) ∧ True) ∧ True) ∧ True) ∧ True)) rfl ⟨⟨⟨⟨⟨trivial, trivial⟩, trivial⟩, trivial⟩, trivial⟩, trivial⟩ ?_
            have f8 := (show (-1) ≤ I 19 (Int.toNat (((2 * v5_1) + 1))) ∧ I 19 (Int.toNat (((2 * v5_1) + 1))) ≤ 7 from gc_in hI R_19 rfl rfl)
            refine gv_iald hD rfl S_19 rfl ⟨by decide, B_19⟩ ⟨by exact gz_m 32 (by omega), by exact gz_m 33 (by omega)⟩ (gc_iI S_19 rfl) ?_
            show gv_X _ _ (48, [(0, .inr (.inr (some 1))), (1, .inr (.inl a1)), (3, .inl a2), (4, .inl a3), (5, .inl v5_1)], [.inl (I 19 (Int.toNat (((2 * v5_1) + 1))))], sh, gc_h sh I J A)
            refine gv_run 1 true hD (pc' := 50) (lv' := [(0, .inr (.inr (some 1))), (1, .inr (.inl a1)), (3, .inl a2), (4, .inl a3), (5, .inl v5_1)]) (st' := [.inl a3, .inl (I 19 (Int.toNat (((2 * v5_1) + 1))))]) (h' := gc_h sh I J A) (C := (True ∧ True)) rfl ⟨trivial, trivial⟩ ?_
            refine gv_icmp_ne (t := 56) hD rfl rfl ⟨⟨by exact gz_m 34 (by omega), by exact gz_m 35 (by omega)⟩, ⟨by exact gz_m 36 (by omega), by exact gz_m 37 (by omega)⟩⟩ (fun c9 => ?_) (fun c9 => ?_)
            · show gv_X _ _ (56, [(0, .inr (.inr (some 1))), (1, .inr (.inl a1)), (3, .inl a2), (4, .inl a3), (5, .inl v5_1)], [], sh, gc_h sh I J A)
              refine gv_run 2 true hD (pc' := 3) (lv' := [(5, .inl (v5_1 + 1)), (0, .inr (.inr (some 1))), (1, .inr (.inl a1)), (3, .inl a2), (4, .inl a3)]) (st' := []) (h' := gc_h sh I J A) (C := ((True ∧ True) ∧ True)) rfl ⟨⟨trivial, trivial⟩, trivial⟩ ?_
              refine gv_pick [1, 2, 3, 4, 0] rfl ?_
              exact ih3 (v5_1 + 1) (by exact gz_m 38 (by omega)) (by exact gz_m 39 (by omega)) (e0_1.trans (gs_ifd_s (by exact gz_m 40 (by omega)) (fun h => by have h8 := h.2; have h9 := (x0 (Int.toNat v5_1) (by exact gz_m 41 (by omega))).2; rw [← h9.1, ← h9.2, show 2 * Int.toNat v5_1 = Int.toNat (2 * v5_1) from by exact gz_m 42 (by omega), show Int.toNat (2 * v5_1) + 1 = Int.toNat (2 * v5_1 + 1) from by exact gz_m 43 (by omega)] at h8; exact gz_m 44 (by omega))))
            · show gv_X _ _ (53, [(0, .inr (.inr (some 1))), (1, .inr (.inl a1)), (3, .inl a2), (4, .inl a3), (5, .inl v5_1)], [], sh, gc_h sh I J A)
              refine gv_run 1 true hD (pc' := 55) (lv' := [(0, .inr (.inr (some 1))), (1, .inr (.inl a1)), (3, .inl a2), (4, .inl a3), (5, .inl v5_1)]) (st' := [.inl v5_1]) (h' := gc_h sh I J A) (C := (True ∧ True)) rfl ⟨trivial, trivial⟩ ?_
              exact gv_iret hD rfl ⟨rfl, ⟨_, rfl, by exact gz_m 45 (by omega), by exact gz_m 46 (by omega), (Or.inl ⟨by exact gz_m 47 (by omega), (e0_1.trans (gs_ifd_f (by exact gz_m 48 (by omega)) ⟨(gs_al_eq (x0 (Int.toNat v5_1) (by exact gz_m 49 (by omega))).1 x2).mp j5, by have h9 := (x0 (Int.toNat v5_1) (by exact gz_m 50 (by omega))).2; rw [← h9.1, ← h9.2, show 2 * Int.toNat v5_1 = Int.toNat (2 * v5_1) from by exact gz_m 51 (by omega), show Int.toNat (2 * v5_1) + 1 = Int.toNat (2 * v5_1 + 1) from by exact gz_m 52 (by omega)]; exact ⟨by exact gz_m 53 (by omega), by exact gz_m 54 (by omega)⟩⟩))⟩)⟩⟩
  refine gv_run 2 true hD (pc' := 3) (lv' := [(5, .inl 0), (0, .inr (.inr (some 1))), (1, .inr (.inl a1)), (3, .inl a2), (4, .inl a3)]) (st' := []) (h' := gc_h sh I J A) (C := ((True ∧ True) ∧ True)) rfl ⟨⟨trivial, trivial⟩, trivial⟩ ?_
  refine gv_pick [1, 2, 3, 4, 0] rfl ?_
  exact L3 _ 0 (Nat.lt_succ_self _) (by exact gz_m 55 (by omega)) (by show gs_ifd Ir Jr v9 a2 a3 (Int.toNat (Ir 0 5)) 0 = _; rw [show Ir 0 5 - 0 = Ir 0 5 from by exact gz_m 56 (by omega)])
