/-! PARITY: names alike, on both sides -/
def gs_NA (n : Int) (f g : Nat → Int64) : Prop := ∀ k : Nat, (k : Int) < n → gs_al (f k) (g k)
set_option maxHeartbeats 8000000 in
theorem gs_fd_end {g : Int → Int64} {v : Int64} : ∀ (m : Nat) (i : Int), 0 ≤ i → gs_fd g v (m + 1) i = if 0 ≤ gs_fd g v m i then gs_fd g v m i else if g (i + m) = v then i + m else -1
  | 0, i, h => by
    show (if g i = v then i else -1) = if 0 ≤ (-1 : Int) then (-1 : Int) else if g (i + ((0 : Nat) : Int)) = v then i + ((0 : Nat) : Int) else -1
    rw [if_neg (show ¬ 0 ≤ (-1 : Int) by exact gz_m 0 (by omega)), show i + ((0 : Nat) : Int) = i from by exact gz_m 1 (by omega)]
  | m + 1, i, h => by
    show (if g i = v then i else gs_fd g v (m + 1) (i + 1)) = if 0 ≤ (if g i = v then i else gs_fd g v m (i + 1)) then (if g i = v then i else gs_fd g v m (i + 1)) else if g (i + ((m + 1 : Nat) : Int)) = v then i + ((m + 1 : Nat) : Int) else -1
    by_cases c : g i = v
    · rw [if_pos c, if_pos c, if_pos h]
    · rw [if_neg c, if_neg c, gs_fd_end m (i + 1) (by exact gz_m 2 (by omega)), show i + 1 + (m : Int) = i + ((m + 1 : Nat) : Int) from by exact gz_m 3 (by omega)]
theorem gc_fd_gs {f : Nat → Int64} {w : Int64} : ∀ n : Nat, gc_fd f w n = gs_fd (fun i => f (Int.toNat i)) w n 0
  | 0 => rfl
  | n + 1 => by
    rw [gs_fd_end n 0 (by exact gz_m 0 (by omega)), ← gc_fd_gs n]
    show (if 0 ≤ gc_fd f w n then gc_fd f w n else if f n = w then (n : Int) else -1) = if 0 ≤ gc_fd f w n then gc_fd f w n else if f (Int.toNat (0 + (n : Int))) = w then 0 + (n : Int) else -1
    rw [show Int.toNat (0 + (n : Int)) = n from by exact gz_m 1 (by omega), show (0 : Int) + (n : Int) = n from by exact gz_m 2 (by omega)]
theorem gs_NA_find {n : Int} {f : Nat → Int64} {g : Int → Int64} {w v : Int64} (h : ∀ k : Nat, (k : Int) < n → gs_al (f k) (g (k : Int))) (hw : gs_al w v) : gc_fd f w (Int.toNat n) = gs_find g n v := by
  rw [gc_fd_gs]
  refine gs_fd_eq _ _ (fun j h1 h2 => ?_)
  have a := h (Int.toNat j) (by omega)
  rw [show ((Int.toNat j : Nat) : Int) = j from by omega] at a
  exact gs_al_eq a hw
theorem gs_NA_lk {Ir : gr_I} {Jr : gr_J} {row f : Nat} {n : Int} {cf : Nat → Int64} {β : Int → Int} {N p : Int} (h : gs_NA n cf (Jr row)) (hn : n = Ir 0 f) (hT : gs_T β N p = 1) : gc_fd cf (gs_M β N p) (Int.toNat n) = gs_lk Ir Jr row f (gs_rn β N p) := by
  unfold gs_lk
  rw [← hn]
  refine gs_NA_find (fun k hk => ?_) (gs_al_p hT)
  show gs_al (cf k) (Jr row (Int.toNat (0 + (k : Int))))
  rw [show Int.toNat (0 + (k : Int)) = k from by omega]
  exact h k hk
theorem gs_NA_lt {Jr : gr_J} {row : Nat} {o n m : Int} {cf : Nat → Int64} {β : Int → Int} {N p : Int} (h : gs_NA n cf (fun k => Jr row (Int.toNat (o + (k : Int))))) (hm : n = m) (hT : gs_T β N p = 1) : gc_fd cf (gs_M β N p) (Int.toNat n) = gs_lt Jr row o m (gs_rn β N p) := by
  unfold gs_lt
  rw [← hm]
  exact gs_NA_find (fun k hk => h k hk) (gs_al_p hT)
/-- what Names.put does -/
def gc_PU (p : Nat) (n : Nat) (w : Int64) (I : gr_I) (J : gr_J) (Iₚ : gr_I) (Jₚ : gr_J) : Prop := I p 1 < (n : Int) → Iₚ p 1 = I p 1 + 1 ∧ Jₚ (p + 1) (Int.toNat (I p 1)) = w ∧ ∀ j, ¬ j = Int.toNat (I p 1) → Jₚ (p + 1) j = J (p + 1) j
/-- a fact, on both sides -/
def gs_FA (Ir : gr_I) (Jr : gr_J) (I : gr_I) (J : gr_J) (n : Int) : Prop := ∀ k : Nat, (k : Int) < n → gs_al (J 18 k) (Jr 5 k) ∧ I 19 (2 * k) = Ir 11 k ∧ I 19 (2 * k + 1) = Ir 12 k
theorem gc_PU_tr {p n : Nat} {w v : Int64} {I I1 Iₚ : gr_I} {J J1 Jₚ : gr_J} (h : gc_PU p n w I1 J1 Iₚ Jₚ) (e1 : I1 p 1 = I p 1) (e2 : ∀ j, J1 (p + 1) j = J (p + 1) j) (ew : w = v) : gc_PU p n v I J Iₚ Jₚ := fun h0 => by
  obtain ⟨a, b, c⟩ := h (by omega)
  rw [e1] at a b c
  exact ⟨a, by rw [b, ew], fun j hj => (c j hj).trans (e2 j)⟩
set_option maxHeartbeats 8000000 in
set_option maxRecDepth 100000 in
theorem d_X4_put_p {ws0 : List Cond} {tb : String → gz_T} (hws : gc_Ws ws0) (htb : gc_tbs tb) (sh : gz_Sh) (ro : Nat → Nat) (I : gr_I) (J : gr_J) (A : gc_A) (hI : gc_Inv ro I) (p : Nat) (n ρ : Nat) (a1 : Int64) (hp : gc_isNames sh ro A p n ρ)   : ∃ r hₚ, gz_Ev ws0 tb 1 (yX4_put, cX4_put, 3, none) [.inr (.inr (some p)), .inr (.inl a1)] sh (gc_h sh I J A) r sh hₚ 0 0 ∧ (∃ (Iₚ : gr_I) (Jₚ : gr_J), hₚ = gc_h sh Iₚ Jₚ A ∧ gc_Inv ro Iₚ ∧ (∀ q j : Nat, ((q = p ∧ j = 1)) ∨ Iₚ q j = I q j) ∧ (∀ q j : Nat, (q = (p + 1)) ∨ Jₚ q j = J q j) ∧ r = none ∧ (Iₚ p 1 ≤ I p 1 + 1) ∧ (I p 1 ≤ Iₚ p 1) ∧ (I p 1 = ((n : Nat) : Int) ∨ Iₚ p 1 = I p 1 + 1) ∧ (gc_PU p n a1 I J Iₚ Jₚ)) := by
  have FI : ∀ q j : Nat, ((q = p ∧ j = 1)) ∨ I q j = I q j := fun _ _ => Or.inr rfl
  have FJ : ∀ q j : Nat, (q = (p + 1)) ∨ J q j = J q j := fun _ _ => Or.inr rfl
  obtain ⟨S_p, R_p, B_p, A_p_0, S_p_1, R_p_1, B_p_1, Q_lo, Q_hi, Q_n⟩ := id hp
  replace R_p := gz_hi R_p
  replace B_p := gz_hi B_p
  replace R_p_1 := gz_hi R_p_1
  replace B_p_1 := gz_hi B_p_1
  have hD : gv_D (gc_E4 ws0 tb 0 (yX4_put, cX4_put, 3, none) kX4_put) := gq_of oX4_put
  refine gc_ev4 (d := 0) (l := kX4_put) (Po := fun r hₚ => (∃ (Iₚ : gr_I) (Jₚ : gr_J), hₚ = gc_h sh Iₚ Jₚ A ∧ gc_Inv ro Iₚ ∧ (∀ q j : Nat, ((q = p ∧ j = 1)) ∨ Iₚ q j = I q j) ∧ (∀ q j : Nat, (q = (p + 1)) ∨ Jₚ q j = J q j) ∧ r = none ∧ (Iₚ p 1 ≤ I p 1 + 1) ∧ (I p 1 ≤ Iₚ p 1) ∧ (I p 1 = ((n : Nat) : Int) ∨ Iₚ p 1 = I p 1 + 1) ∧ (gc_PU p n a1 I J Iₚ Jₚ))) htb rfl (Nat.le_of_ble_eq_true rfl) ?_
  have f1 := gz_hi ((show 0 ≤ I p 1 ∧ I p 1 ≤ ((n : Nat) : Int) from gc_in hI (gz_sh R_p) Q_lo Q_hi))
  refine gv_run 1 true hD (pcₚ := 1) (lvₚ := [(0, .inr (.inr (some p))), (1, .inr (.inl a1))]) (stₚ := [.inr (.inr (some p))]) (hₚ := gc_h sh I J A) (C := (True ∧ True)) rfl ⟨trivial, trivial⟩ ?_
  refine gv_get hD rfl rfl S_p ⟨by decide, (gz_sh B_p)⟩ (gc_hI S_p rfl) ?_
  show gv_X _ _ (4, [(0, .inr (.inr (some p))), (1, .inr (.inl a1))], [.inl (I p 1)], sh, gc_h sh I J A)
  refine gv_run 1 true hD (pcₚ := 5) (lvₚ := [(0, .inr (.inr (some p))), (1, .inr (.inl a1))]) (stₚ := [.inr (.inr (some p)), .inl (I p 1)]) (hₚ := gc_h sh I J A) (C := (True ∧ True)) rfl ⟨trivial, trivial⟩ ?_
  refine gv_get hD rfl rfl S_p ⟨by decide, (gz_sh B_p)⟩ (gc_hA S_p rfl A_p_0) ?_
  show gv_X _ _ (8, [(0, .inr (.inr (some p))), (1, .inr (.inl a1))], [.inr (.inr (some (p + 1))), .inl (I p 1)], sh, gc_h sh I J A)
  refine gv_len hD rfl S_p_1 ⟨by (/-0-/first | omega | (simp only [gz_hd] at *; omega)), (gz_sh B_p_1)⟩ ?_
  show gv_X _ _ (9, [(0, .inr (.inr (some p))), (1, .inr (.inl a1))], [.inl ((n : Nat) : Int), .inl (I p 1)], sh, gc_h sh I J A)
  refine gv_icmp_ge (t := 29) hD rfl rfl ⟨⟨by (/-1-/first | (have o1 := gz_sh f1; omega) | (simp only [gz_hd] at *; omega)), by (/-2-/first | (have o1 := gz_sh f1; omega) | (simp only [gz_hd] at *; omega))⟩, ⟨by (/-3-/first | omega | (simp only [gz_hd] at *; omega)), by (/-4-/first | omega | (simp only [gz_hd] at *; omega))⟩⟩ (fun c3 => ?_) (fun c3 => ?_)
  · show gv_X _ _ (29, [(0, .inr (.inr (some p))), (1, .inr (.inl a1))], [], sh, gc_h sh I J A)
    exact gv_vret hD rfl ⟨I, J, rfl, hI, FI, FJ, ⟨rfl, by (/-5-/first | omega | (simp only [gz_hd] at *; omega)), by (/-6-/first | omega | (simp only [gz_hd] at *; omega)), by (/-7-/first | (have o1 := gz_sh f1; omega) | (simp only [gz_hd] at *; omega)), (fun h9 => absurd h9 (by (/-8-/first | (have o1 := gz_sh f1; omega) | (simp only [gz_hd] at *; omega))))⟩⟩
  · show gv_X _ _ (12, [(0, .inr (.inr (some p))), (1, .inr (.inl a1))], [], sh, gc_h sh I J A)
    refine gv_run 1 true hD (pcₚ := 13) (lvₚ := [(0, .inr (.inr (some p))), (1, .inr (.inl a1))]) (stₚ := [.inr (.inr (some p))]) (hₚ := gc_h sh I J A) (C := (True ∧ True)) rfl ⟨trivial, trivial⟩ ?_
    refine gv_get hD rfl rfl S_p ⟨by decide, (gz_sh B_p)⟩ (gc_hA S_p rfl A_p_0) ?_
    show gv_X _ _ (16, [(0, .inr (.inr (some p))), (1, .inr (.inl a1))], [.inr (.inr (some (p + 1)))], sh, gc_h sh I J A)
    refine gv_run 2 true hD (pcₚ := 18) (lvₚ := [(0, .inr (.inr (some p))), (1, .inr (.inl a1))]) (stₚ := [.inr (.inr (some p)), .inr (.inr (some p)), .inr (.inr (some (p + 1)))]) (hₚ := gc_h sh I J A) (C := ((True ∧ True) ∧ True)) rfl ⟨⟨trivial, trivial⟩, trivial⟩ ?_
    refine gv_get hD rfl rfl S_p ⟨by decide, (gz_sh B_p)⟩ (gc_hI S_p rfl) ?_
    show gv_X _ _ (21, [(0, .inr (.inr (some p))), (1, .inr (.inl a1))], [.inl (I p 1), .inr (.inr (some p)), .inr (.inr (some (p + 1)))], sh, gc_h sh I J A)
    refine gv_run 3 true hD (pcₚ := 24) (lvₚ := [(0, .inr (.inr (some p))), (1, .inr (.inl a1))]) (stₚ := [.inl ((I p 1) + 1), .inr (.inr (some p)), .inl (I p 1), .inr (.inr (some (p + 1)))]) (hₚ := gc_h sh I J A) (C := (((True ∧ True) ∧ True) ∧ True)) rfl ⟨⟨⟨trivial, trivial⟩, trivial⟩, trivial⟩ ?_
    refine gv_put hD rfl rfl S_p ⟨by decide, (gz_sh B_p)⟩ rfl trivial ?_
    refine gc_st (k := 1) hI S_p rfl (gz_sh R_p) (lo := 0) (hi := ((n : Nat) : Int)) Q_lo Q_hi (by (/-9-/first | (have o1 := gz_sh f1; omega) | (simp only [gz_hd] at *; omega))) (by (/-10-/first | omega | (simp only [gz_hd] at *; omega))) (fun I5 hI5 q6 p6 => ?_)
    have FI5 := gc_frs (W := fun q j => (q = p ∧ j = 1)) FI ⟨rfl, rfl⟩ p6
    show gv_X _ _ (27, [(0, .inr (.inr (some p))), (1, .inr (.inl a1))], [.inl (I p 1), .inr (.inr (some (p + 1)))], sh, gc_h sh I5 J A)
    refine gv_run 1 true hD (pcₚ := 28) (lvₚ := [(0, .inr (.inr (some p))), (1, .inr (.inl a1))]) (stₚ := [.inr (.inl a1), .inl (I p 1), .inr (.inr (some (p + 1)))]) (hₚ := gc_h sh I5 J A) (C := (True ∧ True)) rfl ⟨trivial, trivial⟩ ?_
    refine gv_last hD rfl S_p_1 ⟨by (/-11-/first | omega | (simp only [gz_hd] at *; omega)), (gz_sh B_p_1)⟩ ⟨by (/-12-/first | (have o1 := gz_sh f1; omega) | (simp only [gz_hd] at *; omega)), by (/-13-/first | omega | (simp only [gz_hd] at *; omega))⟩ ?_
    refine gc_stJ S_p_1 rfl (fun J8 q9 p9 => ?_)
    have FJ8 := gc_frs (W := fun q j => q = (p + 1)) FJ rfl p9
    show gv_X _ _ (29, [(0, .inr (.inr (some p))), (1, .inr (.inl a1))], [], sh, gc_h sh I5 J8 A)
    exact gv_vret hD rfl ⟨I5, J8, rfl, hI5, FI5, FJ8, ⟨rfl, by (/-14-/first | omega | (simp only [gz_hd] at *; omega)), by (/-15-/first | omega | (simp only [gz_hd] at *; omega)), by (/-16-/first | omega | (simp only [gz_hd] at *; omega)), (fun _ => ⟨by (/-17-/first | omega | (simp only [gz_hd] at *; omega)), q9, fun j hj => p9 (p + 1) j (fun h => hj h.2)⟩)⟩⟩
set_option maxHeartbeats 8000000 in
set_option maxRecDepth 100000 in
theorem d_X4_isFull_p {ws0 : List Cond} {tb : String → gz_T} (hws : gc_Ws ws0) (htb : gc_tbs tb) (sh : gz_Sh) (ro : Nat → Nat) (I : gr_I) (J : gr_J) (A : gc_A) (hI : gc_Inv ro I) (p : Nat) (n ρ : Nat)  (hp : gc_isNames sh ro A p n ρ)   : ∃ r hₚ, gz_Ev ws0 tb 1 (yX4_isFull, cX4_isFull, 1, (some .boolean)) [.inr (.inr (some p))] sh (gc_h sh I J A) r sh hₚ 0 0 ∧ (hₚ = gc_h sh I J A ∧ (∃ z : Int, r = some (.inl z) ∧ 0 ≤ z ∧ z ≤ 1 ∧ ((z = 1 ∧ ((n : Nat) : Int) ≤ I p 1) ∨ (z = 0 ∧ I p 1 < ((n : Nat) : Int))))) := by
  obtain ⟨S_p, R_p, B_p, A_p_0, S_p_1, R_p_1, B_p_1, Q_lo, Q_hi, Q_n⟩ := id hp
  replace R_p := gz_hi R_p
  replace B_p := gz_hi B_p
  replace R_p_1 := gz_hi R_p_1
  replace B_p_1 := gz_hi B_p_1
  have hD : gv_D (gc_E4 ws0 tb 0 (yX4_isFull, cX4_isFull, 1, (some .boolean)) kX4_isFull) := gq_of oX4_isFull
  refine gc_ev4 (d := 0) (l := kX4_isFull) (Po := fun r hₚ => (hₚ = gc_h sh I J A ∧ (∃ z : Int, r = some (.inl z) ∧ 0 ≤ z ∧ z ≤ 1 ∧ ((z = 1 ∧ ((n : Nat) : Int) ≤ I p 1) ∨ (z = 0 ∧ I p 1 < ((n : Nat) : Int)))))) htb rfl (Nat.le_of_ble_eq_true rfl) ?_
  refine gv_run 1 true hD (pcₚ := 1) (lvₚ := [(0, .inr (.inr (some p)))]) (stₚ := [.inr (.inr (some p))]) (hₚ := gc_h sh I J A) (C := (True ∧ True)) rfl ⟨trivial, trivial⟩ ?_
  have f1 := gz_hi ((show 0 ≤ I p 1 ∧ I p 1 ≤ ((n : Nat) : Int) from gc_in hI (gz_sh R_p) Q_lo Q_hi))
  refine gv_get hD rfl rfl S_p ⟨by decide, (gz_sh B_p)⟩ (gc_hI S_p rfl) ?_
  show gv_X _ _ (4, [(0, .inr (.inr (some p)))], [.inl (I p 1)], sh, gc_h sh I J A)
  refine gv_run 1 true hD (pcₚ := 5) (lvₚ := [(0, .inr (.inr (some p)))]) (stₚ := [.inr (.inr (some p)), .inl (I p 1)]) (hₚ := gc_h sh I J A) (C := (True ∧ True)) rfl ⟨trivial, trivial⟩ ?_
  refine gv_get hD rfl rfl S_p ⟨by decide, (gz_sh B_p)⟩ (gc_hA S_p rfl A_p_0) ?_
  show gv_X _ _ (8, [(0, .inr (.inr (some p)))], [.inr (.inr (some (p + 1))), .inl (I p 1)], sh, gc_h sh I J A)
  refine gv_len hD rfl S_p_1 ⟨by (/-0-/first | omega | (simp only [gz_hd] at *; omega)), (gz_sh B_p_1)⟩ ?_
  show gv_X _ _ (9, [(0, .inr (.inr (some p)))], [.inl ((n : Nat) : Int), .inl (I p 1)], sh, gc_h sh I J A)
  refine gv_icmp_lt (t := 16) hD rfl rfl ⟨⟨by (/-1-/first | (have o1 := gz_sh f1; omega) | (simp only [gz_hd] at *; omega)), by (/-2-/first | (have o1 := gz_sh f1; omega) | (simp only [gz_hd] at *; omega))⟩, ⟨by (/-3-/first | omega | (simp only [gz_hd] at *; omega)), by (/-4-/first | omega | (simp only [gz_hd] at *; omega))⟩⟩ (fun c2 => ?_) (fun c2 => ?_)
  · show gv_X _ _ (16, [(0, .inr (.inr (some p)))], [], sh, gc_h sh I J A)
    refine gv_run 1 true hD (pcₚ := 17) (lvₚ := [(0, .inr (.inr (some p)))]) (stₚ := [.inl 0]) (hₚ := gc_h sh I J A) (C := (True ∧ True)) rfl ⟨trivial, trivial⟩ ?_
    exact gv_zret hD rfl (by (/-5-/first | omega | (simp only [gz_hd] at *; omega))) ⟨rfl, ⟨_, rfl, by (/-6-/first | omega | (simp only [gz_hd] at *; omega)), by (/-7-/first | omega | (simp only [gz_hd] at *; omega)), (Or.inr ⟨by (/-8-/first | omega | (simp only [gz_hd] at *; omega)), by (/-9-/first | omega | (simp only [gz_hd] at *; omega))⟩)⟩⟩
  · show gv_X _ _ (12, [(0, .inr (.inr (some p)))], [], sh, gc_h sh I J A)
    refine gv_run 2 true hD (pcₚ := 17) (lvₚ := [(0, .inr (.inr (some p)))]) (stₚ := [.inl 1]) (hₚ := gc_h sh I J A) (C := ((True ∧ True) ∧ True)) rfl ⟨⟨trivial, trivial⟩, trivial⟩ ?_
    exact gv_zret hD rfl (by (/-10-/first | omega | (simp only [gz_hd] at *; omega))) ⟨rfl, ⟨_, rfl, by (/-11-/first | omega | (simp only [gz_hd] at *; omega)), by (/-12-/first | omega | (simp only [gz_hd] at *; omega)), (Or.inl ⟨by (/-13-/first | omega | (simp only [gz_hd] at *; omega)), by (/-14-/first | omega | (simp only [gz_hd] at *; omega))⟩)⟩⟩
set_option maxHeartbeats 8000000 in
set_option maxRecDepth 100000 in
theorem d_X8_findFact_p {ws0 : List Cond} {tb : String → gz_T} (hws : gc_Ws ws0) (htb : gc_tbs tb) (sh : gz_Sh) (ro : Nat → Nat) (I : gr_I) (J : gr_J) (A : gc_A) (hI : gc_Inv ro I) (v9 : Int64) (Ir : gr_I) (Jr : gr_J) (a1 : Int64) (a2 : Int) (a3 : Int) (hb : gc_Base sh ro A) (ha2 : (-2147483648) ≤ a2 ∧ a2 ≤ 2147483647) (ha3 : (-2147483648) ≤ a3 ∧ a3 ≤ 2147483647) (x0 : gs_FA Ir Jr I J (I 1 13)) (x1 : I 1 13 = Ir 0 5) (x2 : gs_al a1 v9) : ∃ r hₚ, gz_Ev ws0 tb 1 (yX8_findFact, cX8_findFact, 6, (some .int)) [.inr (.inr (some 1)), .inr (.inl a1), .inl a2, .inl a3] sh (gc_h sh I J A) r sh hₚ 0 0 ∧ (hₚ = gc_h sh I J A ∧ (∃ z : Int, r = some (.inl z) ∧ (-1) ≤ z ∧ z ≤ 63 ∧ ((0 ≤ z ∧ gs_isf Ir Jr v9 a2 a3 = 1) ∨ (z < 0 ∧ gs_isf Ir Jr v9 a2 a3 = 0)))) := by
  have A_1_14 : A 1 14 = some 18 := gc_bA_1_14 hb
  have A_1_15 : A 1 15 = some 19 := gc_bA_1_15 hb
  have B_1 := gz_hi (show 1 < 1000000 from by decide)
  have B_18 := gz_hi (show 18 < 1000000 from by decide)
  have B_19 := gz_hi (show 19 < 1000000 from by decide)
  have R_1 := gz_hi (show ro 1 = 22 from gc_bR_1 hb)
  have R_19 := gz_hi (show ro 19 = 29 from gc_bR_19 hb)
  have S_1 : sh[1]? = some (false, 8, 21) := gc_bS_1 hb
  have S_18 : sh[18]? = some (true, 2, 64) := gc_bS_18 hb
  have S_19 : sh[19]? = some (true, 1, 128) := gc_bS_19 hb
  have hD : gv_D (gc_E8 ws0 tb 0 (yX8_findFact, cX8_findFact, 6, (some .int)) kX8_findFact) := gq_of oX8_findFact
  refine gc_ev8 (d := 0) (l := kX8_findFact) (Po := fun r hₚ => (hₚ = gc_h sh I J A ∧ (∃ z : Int, r = some (.inl z) ∧ (-1) ≤ z ∧ z ≤ 63 ∧ ((0 ≤ z ∧ gs_isf Ir Jr v9 a2 a3 = 1) ∨ (z < 0 ∧ gs_isf Ir Jr v9 a2 a3 = 0))))) htb rfl (Nat.le_of_ble_eq_true rfl) ?_
  have L3 : ∀ (n9 : Nat) (v5_1 : Int), (65 - v5_1).toNat < n9 → (((-2147483648) ≤ a2 ∧ a2 ≤ 2147483647) ∧ ((-2147483648) ≤ a3 ∧ a3 ≤ 2147483647) ∧ (0 ≤ v5_1 ∧ v5_1 ≤ 64)) → (gs_isf Ir Jr v9 a2 a3 = gs_ifd Ir Jr v9 a2 a3 (Int.toNat (Ir 0 5 - v5_1)) v5_1) → gv_X (gc_E8 ws0 tb 0 (yX8_findFact, cX8_findFact, 6, (some .int)) kX8_findFact) (gv_Q cX8_findFact (some .int) sh (fun r hₚ => (hₚ = gc_h sh I J A ∧ (∃ z : Int, r = some (.inl z) ∧ (-1) ≤ z ∧ z ≤ 63 ∧ ((0 ≤ z ∧ gs_isf Ir Jr v9 a2 a3 = 1) ∨ (z < 0 ∧ gs_isf Ir Jr v9 a2 a3 = 0)))))) (3, [(0, .inr (.inr (some 1))), (1, .inr (.inl a1)), (3, .inl a2), (4, .inl a3), (5, .inl v5_1)], [], sh, gc_h sh I J A) := by
    intro n9
    induction n9 with
    | zero => intro v5_1 hn; (/-0-/first | omega | (simp only [gz_hd] at *; omega))
    | succ n9 ih3 =>
      intro v5_1 hn m_1 e0_1
      obtain ⟨ha2_1, ha3_1, hv5_1⟩ := gz_h3 m_1
      refine gv_run 2 true hD (pcₚ := 6) (lvₚ := [(0, .inr (.inr (some 1))), (1, .inr (.inl a1)), (3, .inl a2), (4, .inl a3), (5, .inl v5_1)]) (stₚ := [.inr (.inr (some 1)), .inl v5_1]) (hₚ := gc_h sh I J A) (C := ((True ∧ True) ∧ True)) rfl ⟨⟨trivial, trivial⟩, trivial⟩ ?_
      have f2 := gz_hi ((gc_b_22_13 hI (gz_sh R_1)))
      refine gv_get hD rfl rfl S_1 ⟨by decide, (gz_sh B_1)⟩ (gc_hI S_1 rfl) ?_
      show gv_X _ _ (9, [(0, .inr (.inr (some 1))), (1, .inr (.inl a1)), (3, .inl a2), (4, .inl a3), (5, .inl v5_1)], [.inl (I 1 13), .inl v5_1], sh, gc_h sh I J A)
      refine gv_icmp_ge (t := 62) hD rfl rfl ⟨⟨by (/-1-/first | (have o1 := gz_sh hv5_1; omega) | (simp only [gz_hd] at *; omega)), by (/-2-/first | (have o1 := gz_sh hv5_1; omega) | (simp only [gz_hd] at *; omega))⟩, ⟨by (/-3-/first | (have o1 := gz_sh f2; omega) | (simp only [gz_hd] at *; omega)), by (/-4-/first | (have o1 := gz_sh f2; omega) | (simp only [gz_hd] at *; omega))⟩⟩ (fun c3 => ?_) (fun c3 => ?_)
      · show gv_X _ _ (62, [(0, .inr (.inr (some 1))), (1, .inr (.inl a1)), (3, .inl a2), (4, .inl a3), (5, .inl v5_1)], [], sh, gc_h sh I J A)
        refine gv_run 1 true hD (pcₚ := 63) (lvₚ := [(0, .inr (.inr (some 1))), (1, .inr (.inl a1)), (3, .inl a2), (4, .inl a3), (5, .inl v5_1)]) (stₚ := [.inl (-1)]) (hₚ := gc_h sh I J A) (C := (True ∧ True)) rfl ⟨trivial, trivial⟩ ?_
        exact gv_iret hD rfl ⟨rfl, ⟨_, rfl, by (/-5-/first | omega | (simp only [gz_hd] at *; omega)), by (/-6-/first | omega | (simp only [gz_hd] at *; omega)), (Or.inr ⟨by (/-7-/first | omega | (simp only [gz_hd] at *; omega)), (e0_1.trans (gs_ifd_e (by (/-8-/first | omega | (simp only [gz_hd] at *; omega)))))⟩)⟩⟩
      · show gv_X _ _ (12, [(0, .inr (.inr (some 1))), (1, .inr (.inl a1)), (3, .inl a2), (4, .inl a3), (5, .inl v5_1)], [], sh, gc_h sh I J A)
        refine gv_run 1 true hD (pcₚ := 13) (lvₚ := [(0, .inr (.inr (some 1))), (1, .inr (.inl a1)), (3, .inl a2), (4, .inl a3), (5, .inl v5_1)]) (stₚ := [.inr (.inr (some 1))]) (hₚ := gc_h sh I J A) (C := (True ∧ True)) rfl ⟨trivial, trivial⟩ ?_
        refine gv_get hD rfl rfl S_1 ⟨by decide, (gz_sh B_1)⟩ (gc_hA S_1 rfl A_1_14) ?_
        show gv_X _ _ (16, [(0, .inr (.inr (some 1))), (1, .inr (.inl a1)), (3, .inl a2), (4, .inl a3), (5, .inl v5_1)], [.inr (.inr (some 18))], sh, gc_h sh I J A)
        refine gv_run 1 true hD (pcₚ := 18) (lvₚ := [(0, .inr (.inr (some 1))), (1, .inr (.inl a1)), (3, .inl a2), (4, .inl a3), (5, .inl v5_1)]) (stₚ := [.inl v5_1, .inr (.inr (some 18))]) (hₚ := gc_h sh I J A) (C := (True ∧ True)) rfl ⟨trivial, trivial⟩ ?_
        refine gv_lald hD rfl S_18 rfl ⟨by decide, (gz_sh B_18)⟩ ⟨by (/-9-/first | (have o1 := gz_sh hv5_1; omega) | (simp only [gz_hd] at *; omega)), by (/-10-/first | (have o1 := gz_sh f2; omega) | (simp only [gz_hd] at *; omega))⟩ (gc_jJ S_18 rfl) ?_
        show gv_X _ _ (19, [(0, .inr (.inr (some 1))), (1, .inr (.inl a1)), (3, .inl a2), (4, .inl a3), (5, .inl v5_1)], [.inr (.inl (J 18 (Int.toNat v5_1)))], sh, gc_h sh I J A)
        have f4 := gz_hi (gw_cmp ((J 18 (Int.toNat v5_1))) (a1))
        refine gv_run 2 true hD (pcₚ := 21) (lvₚ := [(0, .inr (.inr (some 1))), (1, .inr (.inl a1)), (3, .inl a2), (4, .inl a3), (5, .inl v5_1)]) (stₚ := [.inl ((lg_cmp ((J 18 (Int.toNat v5_1))) (a1)).toInt)]) (hₚ := gc_h sh I J A) (C := ((True ∧ True) ∧ True)) rfl ⟨⟨trivial, trivial⟩, trivial⟩ ?_
        refine gv_if_ne (t := 56) hD rfl rfl ⟨by (/-11-/first | (have o1 := gz_sh f4; omega) | (simp only [gz_hd] at *; omega)), by (/-12-/first | (have o1 := gz_sh f4; omega) | (simp only [gz_hd] at *; omega))⟩ (fun c5 => ?_) (fun c5 => ?_)
        · show gv_X _ _ (56, [(0, .inr (.inr (some 1))), (1, .inr (.inl a1)), (3, .inl a2), (4, .inl a3), (5, .inl v5_1)], [], sh, gc_h sh I J A)
          have j5 := gs_cmpn (a := (J 18 (Int.toNat v5_1))) (b := a1) (by (/-13-/first | omega | (simp only [gz_hd] at *; omega)))
          refine gv_run 2 true hD (pcₚ := 3) (lvₚ := [(5, .inl (v5_1 + 1)), (0, .inr (.inr (some 1))), (1, .inr (.inl a1)), (3, .inl a2), (4, .inl a3)]) (stₚ := []) (hₚ := gc_h sh I J A) (C := ((True ∧ True) ∧ True)) rfl ⟨⟨trivial, trivial⟩, trivial⟩ ?_
          refine gv_pick [1, 2, 3, 4, 0] rfl ?_
          exact ih3 (v5_1 + 1) (by (/-14-/first | (have o1 := gz_sh f2; have o2 := gz_sh hv5_1; omega) | (simp only [gz_hd] at *; omega))) (by (/-15-/first | (and_intros; (omega); (omega); (omega); (omega); (have o1 := gz_sh hv5_1; omega); (have o1 := gz_sh f2; omega)) | (simp only [gz_hd] at *; omega))) (e0_1.trans (gs_ifd_s (by (/-16-/first | omega | (simp only [gz_hd] at *; omega))) (fun h => j5 ((gs_al_eq (x0 (Int.toNat v5_1) (by (/-17-/first | (have o1 := gz_sh hv5_1; omega) | (simp only [gz_hd] at *; omega)))).1 x2).mpr h.1))))
        · show gv_X _ _ (24, [(0, .inr (.inr (some 1))), (1, .inr (.inl a1)), (3, .inl a2), (4, .inl a3), (5, .inl v5_1)], [], sh, gc_h sh I J A)
          have j5 := gs_cmp0 (a := (J 18 (Int.toNat v5_1))) (b := a1) (by (/-18-/first | omega | (simp only [gz_hd] at *; omega)))
          refine gv_run 1 true hD (pcₚ := 25) (lvₚ := [(0, .inr (.inr (some 1))), (1, .inr (.inl a1)), (3, .inl a2), (4, .inl a3), (5, .inl v5_1)]) (stₚ := [.inr (.inr (some 1))]) (hₚ := gc_h sh I J A) (C := (True ∧ True)) rfl ⟨trivial, trivial⟩ ?_
          refine gv_get hD rfl rfl S_1 ⟨by decide, (gz_sh B_1)⟩ (gc_hA S_1 rfl A_1_15) ?_
          show gv_X _ _ (28, [(0, .inr (.inr (some 1))), (1, .inr (.inl a1)), (3, .inl a2), (4, .inl a3), (5, .inl v5_1)], [.inr (.inr (some 19))], sh, gc_h sh I J A)
          refine gv_run 3 true hD (pcₚ := 32) (lvₚ := [(0, .inr (.inr (some 1))), (1, .inr (.inl a1)), (3, .inl a2), (4, .inl a3), (5, .inl v5_1)]) (stₚ := [.inl (2 * v5_1), .inr (.inr (some 19))]) (hₚ := gc_h sh I J A) (C := (((True ∧ True) ∧ True) ∧ True)) rfl ⟨⟨⟨trivial, trivial⟩, trivial⟩, trivial⟩ ?_
          have f6 := gz_hi ((gc_b_29 hI (gz_sh R_19) (Int.toNat (2 * v5_1))))
          refine gv_iald hD rfl S_19 rfl ⟨by decide, (gz_sh B_19)⟩ ⟨by (/-19-/first | (have o1 := gz_sh hv5_1; omega) | (simp only [gz_hd] at *; omega)), by (/-20-/first | (have o1 := gz_sh f2; omega) | (simp only [gz_hd] at *; omega))⟩ (gc_iI S_19 rfl) ?_
          show gv_X _ _ (33, [(0, .inr (.inr (some 1))), (1, .inr (.inl a1)), (3, .inl a2), (4, .inl a3), (5, .inl v5_1)], [.inl (I 19 (Int.toNat (2 * v5_1)))], sh, gc_h sh I J A)
          refine gv_run 1 true hD (pcₚ := 34) (lvₚ := [(0, .inr (.inr (some 1))), (1, .inr (.inl a1)), (3, .inl a2), (4, .inl a3), (5, .inl v5_1)]) (stₚ := [.inl a2, .inl (I 19 (Int.toNat (2 * v5_1)))]) (hₚ := gc_h sh I J A) (C := (True ∧ True)) rfl ⟨trivial, trivial⟩ ?_
          refine gv_icmp_ne (t := 56) hD rfl rfl ⟨⟨by (/-21-/first | (have o1 := gz_sh f6; omega) | (simp only [gz_hd] at *; omega)), by (/-22-/first | (have o1 := gz_sh f6; omega) | (simp only [gz_hd] at *; omega))⟩, ⟨by (/-23-/first | omega | (simp only [gz_hd] at *; omega)), by (/-24-/first | omega | (simp only [gz_hd] at *; omega))⟩⟩ (fun c7 => ?_) (fun c7 => ?_)
          · show gv_X _ _ (56, [(0, .inr (.inr (some 1))), (1, .inr (.inl a1)), (3, .inl a2), (4, .inl a3), (5, .inl v5_1)], [], sh, gc_h sh I J A)
            refine gv_run 2 true hD (pcₚ := 3) (lvₚ := [(5, .inl (v5_1 + 1)), (0, .inr (.inr (some 1))), (1, .inr (.inl a1)), (3, .inl a2), (4, .inl a3)]) (stₚ := []) (hₚ := gc_h sh I J A) (C := ((True ∧ True) ∧ True)) rfl ⟨⟨trivial, trivial⟩, trivial⟩ ?_
            refine gv_pick [1, 2, 3, 4, 0] rfl ?_
            exact ih3 (v5_1 + 1) (by (/-25-/first | (have o1 := gz_sh f2; have o2 := gz_sh hv5_1; omega) | (simp only [gz_hd] at *; omega))) (by (/-26-/first | (and_intros; (omega); (omega); (omega); (omega); (have o1 := gz_sh hv5_1; omega); (have o1 := gz_sh f2; omega)) | (simp only [gz_hd] at *; omega))) (e0_1.trans (gs_ifd_s (by (/-27-/first | omega | (simp only [gz_hd] at *; omega))) (fun h => by have h8 := h.2; have h9 := (x0 (Int.toNat v5_1) (by (/-28-/first | (have o1 := gz_sh hv5_1; omega) | (simp only [gz_hd] at *; omega)))).2; rw [← h9.1, ← h9.2, show 2 * Int.toNat v5_1 = Int.toNat (2 * v5_1) from by (/-29-/first | omega | (simp only [gz_hd] at *; omega)), show Int.toNat (2 * v5_1) + 1 = Int.toNat (2 * v5_1 + 1) from by (/-30-/first | omega | (simp only [gz_hd] at *; omega))] at h8; (/-31-/first | (have o1 := gz_sh hv5_1; omega) | (simp only [gz_hd] at *; omega)))))
          · show gv_X _ _ (37, [(0, .inr (.inr (some 1))), (1, .inr (.inl a1)), (3, .inl a2), (4, .inl a3), (5, .inl v5_1)], [], sh, gc_h sh I J A)
            refine gv_run 1 true hD (pcₚ := 38) (lvₚ := [(0, .inr (.inr (some 1))), (1, .inr (.inl a1)), (3, .inl a2), (4, .inl a3), (5, .inl v5_1)]) (stₚ := [.inr (.inr (some 1))]) (hₚ := gc_h sh I J A) (C := (True ∧ True)) rfl ⟨trivial, trivial⟩ ?_
            refine gv_get hD rfl rfl S_1 ⟨by decide, (gz_sh B_1)⟩ (gc_hA S_1 rfl A_1_15) ?_
            show gv_X _ _ (41, [(0, .inr (.inr (some 1))), (1, .inr (.inl a1)), (3, .inl a2), (4, .inl a3), (5, .inl v5_1)], [.inr (.inr (some 19))], sh, gc_h sh I J A)
            refine gv_run 5 true hD (pcₚ := 47) (lvₚ := [(0, .inr (.inr (some 1))), (1, .inr (.inl a1)), (3, .inl a2), (4, .inl a3), (5, .inl v5_1)]) (stₚ := [.inl ((2 * v5_1) + 1), .inr (.inr (some 19))]) (hₚ := gc_h sh I J A) (C := (((((True ∧ True) ∧ True) ∧ True) ∧ True) ∧ True)) rfl ⟨⟨⟨⟨⟨trivial, trivial⟩, trivial⟩, trivial⟩, trivial⟩, trivial⟩ ?_
            have f8 := gz_hi ((gc_b_29 hI (gz_sh R_19) (Int.toNat (((2 * v5_1) + 1)))))
            refine gv_iald hD rfl S_19 rfl ⟨by decide, (gz_sh B_19)⟩ ⟨by (/-32-/first | (have o1 := gz_sh hv5_1; omega) | (simp only [gz_hd] at *; omega)), by (/-33-/first | (have o1 := gz_sh f2; omega) | (simp only [gz_hd] at *; omega))⟩ (gc_iI S_19 rfl) ?_
            show gv_X _ _ (48, [(0, .inr (.inr (some 1))), (1, .inr (.inl a1)), (3, .inl a2), (4, .inl a3), (5, .inl v5_1)], [.inl (I 19 (Int.toNat (((2 * v5_1) + 1))))], sh, gc_h sh I J A)
            refine gv_run 1 true hD (pcₚ := 50) (lvₚ := [(0, .inr (.inr (some 1))), (1, .inr (.inl a1)), (3, .inl a2), (4, .inl a3), (5, .inl v5_1)]) (stₚ := [.inl a3, .inl (I 19 (Int.toNat (((2 * v5_1) + 1))))]) (hₚ := gc_h sh I J A) (C := (True ∧ True)) rfl ⟨trivial, trivial⟩ ?_
            refine gv_icmp_ne (t := 56) hD rfl rfl ⟨⟨by (/-34-/first | (have o1 := gz_sh f8; omega) | (simp only [gz_hd] at *; omega)), by (/-35-/first | (have o1 := gz_sh f8; omega) | (simp only [gz_hd] at *; omega))⟩, ⟨by (/-36-/first | omega | (simp only [gz_hd] at *; omega)), by (/-37-/first | omega | (simp only [gz_hd] at *; omega))⟩⟩ (fun c9 => ?_) (fun c9 => ?_)
            · show gv_X _ _ (56, [(0, .inr (.inr (some 1))), (1, .inr (.inl a1)), (3, .inl a2), (4, .inl a3), (5, .inl v5_1)], [], sh, gc_h sh I J A)
              refine gv_run 2 true hD (pcₚ := 3) (lvₚ := [(5, .inl (v5_1 + 1)), (0, .inr (.inr (some 1))), (1, .inr (.inl a1)), (3, .inl a2), (4, .inl a3)]) (stₚ := []) (hₚ := gc_h sh I J A) (C := ((True ∧ True) ∧ True)) rfl ⟨⟨trivial, trivial⟩, trivial⟩ ?_
              refine gv_pick [1, 2, 3, 4, 0] rfl ?_
              exact ih3 (v5_1 + 1) (by (/-38-/first | (have o1 := gz_sh f2; have o2 := gz_sh hv5_1; omega) | (simp only [gz_hd] at *; omega))) (by (/-39-/first | (and_intros; (have o1 := gz_sh f6; omega); (have o1 := gz_sh f6; omega); (omega); (omega); (have o1 := gz_sh hv5_1; omega); (have o1 := gz_sh f2; omega)) | (simp only [gz_hd] at *; omega))) (e0_1.trans (gs_ifd_s (by (/-40-/first | omega | (simp only [gz_hd] at *; omega))) (fun h => by have h8 := h.2; have h9 := (x0 (Int.toNat v5_1) (by (/-41-/first | (have o1 := gz_sh hv5_1; omega) | (simp only [gz_hd] at *; omega)))).2; rw [← h9.1, ← h9.2, show 2 * Int.toNat v5_1 = Int.toNat (2 * v5_1) from by (/-42-/first | omega | (simp only [gz_hd] at *; omega)), show Int.toNat (2 * v5_1) + 1 = Int.toNat (2 * v5_1 + 1) from by (/-43-/first | omega | (simp only [gz_hd] at *; omega))] at h8; (/-44-/first | (have o1 := gz_sh hv5_1; omega) | (simp only [gz_hd] at *; omega)))))
            · show gv_X _ _ (53, [(0, .inr (.inr (some 1))), (1, .inr (.inl a1)), (3, .inl a2), (4, .inl a3), (5, .inl v5_1)], [], sh, gc_h sh I J A)
              refine gv_run 1 true hD (pcₚ := 55) (lvₚ := [(0, .inr (.inr (some 1))), (1, .inr (.inl a1)), (3, .inl a2), (4, .inl a3), (5, .inl v5_1)]) (stₚ := [.inl v5_1]) (hₚ := gc_h sh I J A) (C := (True ∧ True)) rfl ⟨trivial, trivial⟩ ?_
              exact gv_iret hD rfl ⟨rfl, ⟨_, rfl, by (/-45-/first | (have o1 := gz_sh hv5_1; omega) | (simp only [gz_hd] at *; omega)), by (/-46-/first | (have o1 := gz_sh f2; omega) | (simp only [gz_hd] at *; omega)), (Or.inl ⟨by (/-47-/first | (have o1 := gz_sh hv5_1; omega) | (simp only [gz_hd] at *; omega)), (e0_1.trans (gs_ifd_f (by (/-48-/first | omega | (simp only [gz_hd] at *; omega))) ⟨(gs_al_eq (x0 (Int.toNat v5_1) (by (/-49-/first | (have o1 := gz_sh hv5_1; omega) | (simp only [gz_hd] at *; omega)))).1 x2).mp j5, by have h9 := (x0 (Int.toNat v5_1) (by (/-50-/first | (have o1 := gz_sh hv5_1; omega) | (simp only [gz_hd] at *; omega)))).2; rw [← h9.1, ← h9.2, show 2 * Int.toNat v5_1 = Int.toNat (2 * v5_1) from by (/-51-/first | omega | (simp only [gz_hd] at *; omega)), show Int.toNat (2 * v5_1) + 1 = Int.toNat (2 * v5_1 + 1) from by (/-52-/first | (have o1 := gz_sh hv5_1; omega) | (simp only [gz_hd] at *; omega))]; exact ⟨by (/-53-/first | omega | (simp only [gz_hd] at *; omega)), by (/-54-/first | omega | (simp only [gz_hd] at *; omega))⟩⟩))⟩)⟩⟩
  refine gv_run 2 true hD (pcₚ := 3) (lvₚ := [(5, .inl 0), (0, .inr (.inr (some 1))), (1, .inr (.inl a1)), (3, .inl a2), (4, .inl a3)]) (stₚ := []) (hₚ := gc_h sh I J A) (C := ((True ∧ True) ∧ True)) rfl ⟨⟨trivial, trivial⟩, trivial⟩ ?_
  refine gv_pick [1, 2, 3, 4, 0] rfl ?_
  exact L3 _ 0 (Nat.lt_succ_self _) (by (/-55-/first | (and_intros <;> omega) | (simp only [gz_hd] at *; omega))) (by show gs_ifd Ir Jr v9 a2 a3 (Int.toNat (Ir 0 5)) 0 = _; rw [show Ir 0 5 - 0 = Ir 0 5 from by (/-56-/first | omega | (simp only [gz_hd] at *; omega))])
