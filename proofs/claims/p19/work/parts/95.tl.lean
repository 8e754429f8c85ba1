/-! PARITY, the class's side: cells -/
def gs_part (β : Int → Int) (N p : Int) : Int := if (gs_T β N p = 2 ∧ ¬ (gs_V β N p < 1 ∨ 3 < gs_V β N p)) ∨ gs_T β N p = 3 then gs_X β N p else -1 - gs_A β N p
theorem gs_fm_c {β : Int → Int} {N : Int} {m : Nat} {q : Int} (hA : 0 ≤ gs_A β N q) (h : 0 ≤ gs_part β N q) : gs_fm β N (m + 1) q = (if gs_T β N (gs_part β N q) = 43 then gs_fm β N m (gs_X β N (gs_part β N q)) else gs_part β N q) := by
  by_cases c : (gs_T β N q = 2 ∧ ¬ (gs_V β N q < 1 ∨ 3 < gs_V β N q)) ∨ gs_T β N q = 3
  · have e : gs_part β N q = gs_X β N q := if_pos c
    rw [e]
    show (if _ then _ else _) = _
    rw [if_pos c]
  · have e : gs_part β N q = -1 - gs_A β N q := if_neg c
    omega
theorem gs_fm_d {β : Int → Int} {N : Int} {m : Nat} {q : Int} (h : gs_part β N q < 0) (hX : 0 ≤ gs_X β N q) : gs_fm β N (m + 1) q = gs_part β N q := by
  by_cases c : (gs_T β N q = 2 ∧ ¬ (gs_V β N q < 1 ∨ 3 < gs_V β N q)) ∨ gs_T β N q = 3
  · have e : gs_part β N q = gs_X β N q := if_pos c
    omega
  · have e : gs_part β N q = -1 - gs_A β N q := if_neg c
    rw [e]
    exact if_neg c
def gs_cell (β : Int → Int) (N : Int) (I : gr_I) (J : gr_J) (p : Int) : Int := if gs_rv β N I J 0 p < 0 then gs_rv β N I J 0 p else if gs_need β N 61 (gs_rv β N I J 0 p) < 0 then gs_need β N 61 (gs_rv β N I J 0 p) else gs_pf β N (gs_need β N 61 (gs_rv β N I J 0 p))
/-- one pack of VALUES, on both sides -/
def gs_PX (a b : Int) : Prop := ∃ i, gs_PV a b i
theorem gs_PX_eq {a b a' b' : Int} (h : gs_PX a b) (h' : gs_PX a' b') : a = a' ↔ b = b' := by
  obtain ⟨i, h⟩ := h
  obtain ⟨j, h'⟩ := h'
  exact gs_PV_eq h h'
/-- the cells at hand, on both sides -/
def gs_CL (I : gr_I) (V : List Int) : Prop := ((V.length : Nat) : Int) = I 39 8 ∧ ∀ j : Nat, j < V.length → gs_PX (I 40 (3 * j)) (V.getD j 0)
theorem gs_getD_mem {V : List Int} {j : Nat} (h : j < V.length) : V.getD j 0 ∈ V := by
  rw [List.getD_eq_getElem?_getD, List.getElem?_eq_getElem h]
  exact List.getElem_mem h
theorem gs_mem_getD {V : List Int} {x : Int} (h : x ∈ V) : ∃ j : Nat, j < V.length ∧ V.getD j 0 = x := by
  obtain ⟨j, hj, e⟩ := List.getElem_of_mem h
  exact ⟨j, hj, by rw [List.getD_eq_getElem?_getD, List.getElem?_eq_getElem hj]; exact e⟩
theorem gs_getD_app {V : List Int} {x : Int} {j : Nat} (h : j < V.length) : (V ++ [x]).getD j 0 = V.getD j 0 := by
  rw [List.getD_eq_getElem?_getD, List.getD_eq_getElem?_getD, List.getElem?_append_left h]
theorem gs_getD_last {V : List Int} {x : Int} : (V ++ [x]).getD V.length 0 = x := by
  rw [List.getD_eq_getElem?_getD, List.getElem?_append_right (Nat.le_refl _), Nat.sub_self]
  rfl
theorem gs_CL_fresh {I : gr_I} {V : List Int} {x v : Int} (h : gs_CL I V) (hx : gs_PX (I 41 0) x) (h0 : ∀ j : Nat, (j : Int) < v → ¬ I 40 (3 * j) = I 41 0) (hv : I 39 8 ≤ v) : ¬ x ∈ V := fun hm => by
  obtain ⟨j, hj, e⟩ := gs_mem_getD hm
  have a := h.2 j hj
  rw [e] at a
  exact h0 j (by have := h.1; omega) ((gs_PX_eq a hx).mpr rfl)
theorem gs_CL_full {I : gr_I} {V : List Int} {x v : Int} (h : gs_CL I V) (hx : gs_PX (I 41 0) x) (h0 : ∀ j : Nat, (j : Int) < v → ¬ I 40 (3 * j) = I 41 0) (hv : I 39 8 ≤ v) (h24 : 24 ≤ I 39 8) : 25 ≤ (((gs_ins V x).length : Nat) : Int) := by
  have e : gs_ins V x = V ++ [x] := if_neg (gs_CL_fresh h hx h0 hv)
  rw [e, List.length_append]
  have := h.1
  show 25 ≤ ((V.length + 1 : Nat) : Int)
  omega
theorem gs_CL_put {I I' : gr_I} {V : List Int} {x v : Int} (h : gs_CL I V) (hx : gs_PX (I 41 0) x) (h0 : ∀ j : Nat, (j : Int) < v → ¬ I 40 (3 * j) = I 41 0) (hv : 0 ≤ v) (hc : (v < I 39 8 ∧ I 40 (Int.toNat (v * 3)) = I 41 0 ∧ I' 39 8 = I 39 8) ∨ (v = I 39 8 ∧ I' 39 8 = v + 1)) (hr : I' 40 (Int.toNat (v * 3)) = I 41 0) (ho : ∀ j : Nat, ¬ (j : Int) = v → I' 40 (3 * j) = I 40 (3 * j)) : gs_CL I' (gs_ins V x) := by
  have l := h.1
  rw [show Int.toNat (v * 3) = 3 * Int.toNat v from by omega] at hr hc
  rcases hc with ⟨c1, c2, c3⟩ | ⟨c1, c2⟩
  · have hl : Int.toNat v < V.length := by omega
    have a := h.2 (Int.toNat v) hl
    have e : V.getD (Int.toNat v) 0 = x := (gs_PX_eq a hx).mp c2
    have i : gs_ins V x = V := if_pos (by rw [← e]; exact gs_getD_mem hl)
    rw [i]
    refine ⟨by omega, fun j hj => ?_⟩
    by_cases d : (j : Int) = v
    · rw [show j = Int.toNat v from by omega, hr, e]
      exact hx
    · rw [ho j d]
      exact h.2 j hj
  · have i : gs_ins V x = V ++ [x] := if_neg (gs_CL_fresh h hx h0 (by omega))
    rw [i]
    have ll : (V ++ [x]).length = V.length + 1 := List.length_append
    refine ⟨by rw [ll]; omega, fun j hj => ?_⟩
    rw [ll] at hj
    by_cases d : (j : Int) = v
    · rw [show j = Int.toNat v from by omega, hr, show Int.toNat v = V.length from by omega, gs_getD_last]
      exact hx
    · rw [ho j d, gs_getD_app (by omega)]
      exact h.2 j (by omega)
theorem gs_CL_0 {I : gr_I} (h : I 39 8 = 0) : gs_CL I [] := ⟨h.symm, fun j hj => absurd hj (Nat.not_lt_zero j)⟩
theorem gs_CL_fr {I I' : gr_I} {V : List Int} (h : gs_CL I V) (h8 : I' 39 8 = I 39 8) (h40 : ∀ j, I' 40 j = I 40 j) : gs_CL I' V := ⟨by rw [h8]; exact h.1, fun j hj => by rw [h40]; exact h.2 j hj⟩
theorem gs_ll_getD {f : Nat → Int} {n : Int} {j : Nat} (h : (j : Int) < n) : (gs_ll f n).getD j 0 = f j := by
  unfold gs_ll
  rw [List.getD_eq_getElem?_getD, List.getElem?_map, List.getElem?_range (by omega)]
  rfl
theorem gs_ins_len {V : List Int} {x : Int} : V.length ≤ (gs_ins V x).length := by
  by_cases c : x ∈ V
  · rw [show gs_ins V x = V from if_pos c]
    exact Nat.le_refl _
  · rw [show gs_ins V x = V ++ [x] from if_neg c, List.length_append]
    exact Nat.le_add_right _ _
/-- a PATTERN's cells, on both sides -/
def gs_PT (Ir I : gr_I) (t : Nat) : Prop := ∀ f : Int, 0 ≤ f → f < I (t + 11) 1 → I (t + 13) (Int.toNat f) = Ir 31 (Int.toNat (24 * Ir 0 6 + f)) ∧ ∀ j : Nat, (j : Int) < I (t + 13) (Int.toNat f) → gs_PX (I (t + 14) (Int.toNat (72 * f) + 3 * j)) (Ir 32 (Int.toNat (24 * (24 * Ir 0 6 + f) + (j : Int))))
theorem gs_PT_fr {Ir I I' : gr_I} {t : Nat} (h : gs_PT Ir I t) (h1 : I' (t + 11) 1 = I (t + 11) 1) (h13 : ∀ k, I' (t + 13) k = I (t + 13) k) (h14 : ∀ k, I' (t + 14) k = I (t + 14) k) : gs_PT Ir I' t := fun f a b => by
  rw [h13]
  have x := h f a (by omega)
  exact ⟨x.1, fun j hj => by rw [h14]; exact x.2 j hj⟩
theorem gs_CL_par {Ir I I' : gr_I} {t : Nat} {f : Int} (h : gs_PT Ir I t) (f0 : 0 ≤ f) (f1 : f < I (t + 11) 1) (n0 : 0 ≤ I (t + 13) (Int.toNat f)) (h8 : I' 39 8 = I (t + 13) (Int.toNat f)) (hc : ∀ k : Nat, (k : Int) < 3 * I (t + 13) (Int.toNat f) → I' 40 k = I (t + 14) (Int.toNat (72 * f) + k)) : gs_CL I' (gs_cl Ir (Ir 0 6) f) := by
  obtain ⟨a, b⟩ := h f f0 f1
  have l : (((gs_cl Ir (Ir 0 6) f).length : Nat) : Int) = I (t + 13) (Int.toNat f) := by
    unfold gs_cl
    rw [gs_ll_len (by omega), a]
  refine ⟨by rw [l, h8], fun j hj => ?_⟩
  have hj2 : (j : Int) < I (t + 13) (Int.toNat f) := by omega
  have x := b j hj2
  rw [hc (3 * j) (by omega)]
  have e : (gs_cl Ir (Ir 0 6) f).getD j 0 = Ir 32 (Int.toNat (24 * (24 * Ir 0 6 + f) + (j : Int))) := by
    unfold gs_cl
    exact gs_ll_getD (by omega)
  rw [e]
  exact x
set_option maxHeartbeats 4000000 in
set_option maxRecDepth 100000 in
theorem d_X6_readPart_p {ws0 : List Cond} {tb : String → gz_T} (hws : gc_Ws ws0) (htb : gc_tbs tb) (sh : gz_Sh) (ro : Nat → Nat) (I : gr_I) (J : gr_J) (A : gc_A) (hI : gc_Inv ro I) (B : Int) (β : Int → Int) (η : Int) (p9 : Int)  (hb : gc_Base sh ro A)  (x0 : B ≤ 1280 ∧ I 1 17 + I 23 1 ≤ B + I 23 5) (x1 : gc_AT β η p9 23 I J) (x2 : 0 ≤ p9) (x3 : I 1 18 = 0) (KLT_I : gc_LT I) (KTK_I : gc_TK I) : ∃ r h', gz_Ev ws0 tb 3 (yX6_readPart, cX6_readPart, 1, (some .boolean)) [.inr (.inr (some 39))] sh (gc_h sh I J A) r sh h' 0 0 ∧ (∃ (I' : gr_I) (J' : gr_J), h' = gc_h sh I' J' A ∧ gc_Inv ro I' ∧ (∀ q j : Nat, ((q = 39 ∧ j = 3) ∨ (q = 39 ∧ j = 4) ∨ (q = 23 ∧ j = 5) ∨ (q = 23 ∧ j = 6) ∨ (q = 23 ∧ j = 7) ∨ (q = 23 ∧ j = 8) ∨ (q = 1 ∧ j = 17) ∨ (q = 1 ∧ j = 18) ∨ q = 20) ∨ I' q j = I q j) ∧ (∀ q j : Nat, ((q = 23 ∧ j = 9)) ∨ J' q j = J q j) ∧ gc_LT I' ∧ gc_TK I' ∧ (∃ z : Int, r = some (.inl z) ∧ 0 ≤ z ∧ z ≤ 1 ∧ (I' 23 1 = I 23 1) ∧ (I 23 5 ≤ I' 23 5) ∧ (B ≤ 1280 ∧ I' 1 17 + I' 23 1 ≤ B + I' 23 5) ∧ (I 1 17 ≤ I' 1 17) ∧ (gs_Or z (0 ≤ (gs_part β η p9) ∧ gc_AT β η (gs_part β η p9) 23 I' J' ∧ I' 1 18 = 0 ∧ I 23 5 < I' 23 5) ((gs_part β η p9) < 0 ∧ I' 39 4 = -1 - (gs_part β η p9))))) := by
  have FI : ∀ q j : Nat, ((q = 39 ∧ j = 3) ∨ (q = 39 ∧ j = 4) ∨ (q = 23 ∧ j = 5) ∨ (q = 23 ∧ j = 6) ∨ (q = 23 ∧ j = 7) ∨ (q = 23 ∧ j = 8) ∨ (q = 1 ∧ j = 17) ∨ (q = 1 ∧ j = 18) ∨ q = 20) ∨ I q j = I q j := fun _ _ => Or.inr rfl
  have FJ : ∀ q j : Nat, ((q = 23 ∧ j = 9)) ∨ J q j = J q j := fun _ _ => Or.inr rfl
  have A_39_0 : A 39 0 = some 1 := gc_bA hb rfl
  have A_39_1 : A 39 1 = some 23 := gc_bA hb rfl
  have B_1 : 1 < 1000000 := by decide
  have B_23 : 23 < 1000000 := by decide
  have B_39 : 39 < 1000000 := by decide
  have R_1 : ro 1 = 22 := gc_bR hb (by decide) rfl
  have R_23 : ro 23 = 3 := gc_bR hb (by decide) rfl
  have S_1 : sh[1]? = some (false, 8, 21) := gc_bS hb rfl
  have S_23 : sh[23]? = some (false, 9, 10) := gc_bS hb rfl
  have S_39 : sh[39]? = some (false, 6, 19) := gc_bS hb rfl
  have hD : gv_D (gc_E6 ws0 tb 2 (yX6_readPart, cX6_readPart, 1, (some .boolean)) kX6_readPart) := gq_ok oX6_readPart
  refine gc_ev6 (d := 2) (l := kX6_readPart) (Po := fun r h' => (∃ (I' : gr_I) (J' : gr_J), h' = gc_h sh I' J' A ∧ gc_Inv ro I' ∧ (∀ q j : Nat, ((q = 39 ∧ j = 3) ∨ (q = 39 ∧ j = 4) ∨ (q = 23 ∧ j = 5) ∨ (q = 23 ∧ j = 6) ∨ (q = 23 ∧ j = 7) ∨ (q = 23 ∧ j = 8) ∨ (q = 1 ∧ j = 17) ∨ (q = 1 ∧ j = 18) ∨ q = 20) ∨ I' q j = I q j) ∧ (∀ q j : Nat, ((q = 23 ∧ j = 9)) ∨ J' q j = J q j) ∧ gc_LT I' ∧ gc_TK I' ∧ (∃ z : Int, r = some (.inl z) ∧ 0 ≤ z ∧ z ≤ 1 ∧ (I' 23 1 = I 23 1) ∧ (I 23 5 ≤ I' 23 5) ∧ (B ≤ 1280 ∧ I' 1 17 + I' 23 1 ≤ B + I' 23 5) ∧ (I 1 17 ≤ I' 1 17) ∧ (gs_Or z (0 ≤ (gs_part β η p9) ∧ gc_AT β η (gs_part β η p9) 23 I' J' ∧ I' 1 18 = 0 ∧ I 23 5 < I' 23 5) ((gs_part β η p9) < 0 ∧ I' 39 4 = -1 - (gs_part β η p9)))))) htb rfl (Nat.le_of_ble_eq_true rfl) ?_
  have t1 := gc_TK_mo KTK_I
  have f2 := (show 0 ≤ I 23 1 ∧ I 23 1 ≤ 1000 from gc_in hI R_23 rfl rfl)
  have f3 := (show 0 ≤ I 23 5 ∧ I 23 5 ≤ 1000 from gc_in hI R_23 rfl rfl)
  have f4 := (show 0 ≤ I 23 6 ∧ I 23 6 ≤ 1001 from gc_in hI R_23 rfl rfl)
  have f5 := (show 0 ≤ I 23 7 ∧ I 23 7 ≤ 125 from gc_in hI R_23 rfl rfl)
  have f6 := (show 0 ≤ I 1 17 ∧ I 1 17 ≤ 12000 from gc_in hI R_1 rfl rfl)
  have f7 := (show 0 ≤ I 23 8 ∧ I 23 8 ≤ 999999 from gc_in hI R_23 rfl rfl)
  have f8 := (show 0 ≤ I 1 18 ∧ I 1 18 ≤ 1 from gc_in hI R_1 rfl rfl)
  have tAT := gc_AT_l x1
  refine gv_run 1 true hD (pc' := 1) (lv' := [(0, .inr (.inr (some 39)))]) (st' := [.inr (.inr (some 39))]) (h' := gc_h sh I J A) (C := (True ∧ True)) rfl ⟨trivial, trivial⟩ ?_
  refine gv_get hD rfl rfl S_39 ⟨by decide, B_39⟩ (gc_hA S_39 rfl A_39_1) ?_
  show gv_X _ _ (4, [(0, .inr (.inr (some 39)))], [.inr (.inr (some 23))], sh, gc_h sh I J A)
  have f9 := (show 0 ≤ I 23 7 ∧ I 23 7 ≤ 125 from gc_in hI R_23 rfl rfl)
  refine gv_get hD rfl rfl S_23 ⟨by decide, B_23⟩ (gc_hI S_23 rfl) ?_
  show gv_X _ _ (7, [(0, .inr (.inr (some 39)))], [.inl (I 23 7)], sh, gc_h sh I J A)
  refine gv_run 1 true hD (pc' := 8) (lv' := [(0, .inr (.inr (some 39)))]) (st' := [.inl 3, .inl (I 23 7)]) (h' := gc_h sh I J A) (C := (True ∧ True)) rfl ⟨trivial, trivial⟩ ?_
  refine gv_icmp_ne (t := 19) hD rfl rfl ⟨⟨by omega, by omega⟩, ⟨by omega, by omega⟩⟩ (fun c10 => ?_) (fun c10 => ?_)
  · show gv_X _ _ (19, [(0, .inr (.inr (some 39)))], [], sh, gc_h sh I J A)
    refine gv_run 2 true hD (pc' := 21) (lv' := [(0, .inr (.inr (some 39)))]) (st' := [.inl 2, .inr (.inr (some 39))]) (h' := gc_h sh I J A) (C := ((True ∧ True) ∧ True)) rfl ⟨⟨trivial, trivial⟩, trivial⟩ ?_
    obtain ⟨r11, h11, E11, P11⟩ := d_X6_need_p (ws0 := ws0) (tb := tb) hws htb sh ro I J A hI  β η p9 2 hb   ⟨by omega, by omega⟩ x1 (by omega) 
    obtain ⟨I12, J13, rfl, hI12, g11, k11, ⟨z11, rfl, q11⟩⟩ := P11
    have FI12 := gc_frc (W := fun q j => (q = 39 ∧ j = 3) ∨ (q = 39 ∧ j = 4) ∨ (q = 23 ∧ j = 5) ∨ (q = 23 ∧ j = 6) ∨ (q = 23 ∧ j = 7) ∨ (q = 23 ∧ j = 8) ∨ (q = 1 ∧ j = 17) ∨ (q = 1 ∧ j = 18) ∨ q = 20) (V := fun q j => (q = 39 ∧ j = 3) ∨ (q = 39 ∧ j = 4)) FI (fun q j h => (h.elim (fun h => (Or.inl h)) (fun h => (Or.inr (Or.inl h))))) g11
    have t14 := (g11 23 1).resolve_left (fun h => h.elim (fun h => absurd h.2 (by decide)) (fun h => absurd h.2 (by decide)))
    have t15 := (g11 23 5).resolve_left (fun h => h.elim (fun h => absurd h.2 (by decide)) (fun h => absurd h.2 (by decide)))
    have t16 := (g11 23 6).resolve_left (fun h => h.elim (fun h => absurd h.2 (by decide)) (fun h => absurd h.2 (by decide)))
    have t17 := (g11 23 7).resolve_left (fun h => h.elim (fun h => absurd h.2 (by decide)) (fun h => absurd h.2 (by decide)))
    have t18 := (g11 1 17).resolve_left (fun h => h.elim (fun h => absurd h.2 (by decide)) (fun h => absurd h.2 (by decide)))
    have t19 := (g11 23 8).resolve_left (fun h => h.elim (fun h => absurd h.2 (by decide)) (fun h => absurd h.2 (by decide)))
    have t20 := (g11 1 18).resolve_left (fun h => h.elim (fun h => absurd h.2 (by decide)) (fun h => absurd h.2 (by decide)))
    obtain rfl : J = J13 := funext fun q => funext fun j => ((k11 q j).resolve_left id).symm
    have KLT_I12 := gc_LT_fr KLT_I ((g11 23 5).resolve_left (fun h => h.elim (fun h => absurd h.2 (by decide)) (fun h => absurd h.2 (by decide)))) ((g11 23 6).resolve_left (fun h => h.elim (fun h => absurd h.2 (by decide)) (fun h => absurd h.2 (by decide)))) ((g11 23 7).resolve_left (fun h => h.elim (fun h => absurd h.2 (by decide)) (fun h => absurd h.2 (by decide)))) (fun k => (g11 24 k).resolve_left (fun h => h.elim (fun h => absurd h.1 (by decide)) (fun h => absurd h.1 (by decide))))
    have KTK_I12 := gc_TK_fr KTK_I ((g11 23 1).resolve_left (fun h => h.elim (fun h => absurd h.2 (by decide)) (fun h => absurd h.2 (by decide)))) ((g11 23 5).resolve_left (fun h => h.elim (fun h => absurd h.2 (by decide)) (fun h => absurd h.2 (by decide)))) ((g11 23 6).resolve_left (fun h => h.elim (fun h => absurd h.2 (by decide)) (fun h => absurd h.2 (by decide)))) ((g11 23 7).resolve_left (fun h => h.elim (fun h => absurd h.2 (by decide)) (fun h => absurd h.2 (by decide))))
    have A21 := gc_AT_I x1 ((g11 23 1).resolve_left (fun h => h.elim (fun h => absurd h.2 (by decide)) (fun h => absurd h.2 (by decide)))) ((g11 23 5).resolve_left (fun h => h.elim (fun h => absurd h.2 (by decide)) (fun h => absurd h.2 (by decide)))) ((g11 23 6).resolve_left (fun h => h.elim (fun h => absurd h.2 (by decide)) (fun h => absurd h.2 (by decide)))) ((g11 23 7).resolve_left (fun h => h.elim (fun h => absurd h.2 (by decide)) (fun h => absurd h.2 (by decide)))) ((g11 23 8).resolve_left (fun h => h.elim (fun h => absurd h.2 (by decide)) (fun h => absurd h.2 (by decide)))) (fun k => (g11 24 k).resolve_left (fun h => h.elim (fun h => absurd h.1 (by decide)) (fun h => absurd h.1 (by decide))))
    have t22 := gc_AT_l A21
    refine gv_callV hD rfl (As := [.inl 2]) (st := []) rfl B_39 S_39 rfl (gc_lV6 hws rfl) (Nat.le_of_ble_eq_true rfl) (gz_Ev_mono (d := 2) (by decide) E11) ?_
    show gv_X _ _ (24, [(0, .inr (.inr (some 39)))], [.inl z11], sh, gc_h sh I12 J A)
    refine gv_if_ne (t := 29) hD rfl rfl ⟨by omega, by omega⟩ (fun c23 => ?_) (fun c23 => ?_)
    · show gv_X _ _ (29, [(0, .inr (.inr (some 39)))], [], sh, gc_h sh I12 J A)
      have u24 := gs_or1 q11.2.2.2 (by omega)
      have t25 := (gc_AT_v A21 (by omega))
      refine gv_run 1 true hD (pc' := 30) (lv' := [(0, .inr (.inr (some 39)))]) (st' := [.inr (.inr (some 39))]) (h' := gc_h sh I12 J A) (C := (True ∧ True)) rfl ⟨trivial, trivial⟩ ?_
      refine gv_get hD rfl rfl S_39 ⟨by decide, B_39⟩ (gc_hA S_39 rfl A_39_1) ?_
      show gv_X _ _ (33, [(0, .inr (.inr (some 39)))], [.inr (.inr (some 23))], sh, gc_h sh I12 J A)
      have f26 := (show 0 ≤ I12 23 8 ∧ I12 23 8 ≤ 999999 from gc_in hI12 R_23 rfl rfl)
      refine gv_get hD rfl rfl S_23 ⟨by decide, B_23⟩ (gc_hI S_23 rfl) ?_
      show gv_X _ _ (36, [(0, .inr (.inr (some 39)))], [.inl (I12 23 8)], sh, gc_h sh I12 J A)
      refine gv_run 1 true hD (pc' := 37) (lv' := [(0, .inr (.inr (some 39)))]) (st' := [.inl 1, .inl (I12 23 8)]) (h' := gc_h sh I12 J A) (C := (True ∧ True)) rfl ⟨trivial, trivial⟩ ?_
      refine gv_icmp_lt (t := 51) hD rfl rfl ⟨⟨by omega, by omega⟩, ⟨by omega, by omega⟩⟩ (fun c27 => ?_) (fun c27 => ?_)
      · show gv_X _ _ (51, [(0, .inr (.inr (some 39)))], [], sh, gc_h sh I12 J A)
        refine gv_run 3 true hD (pc' := 54) (lv' := [(0, .inr (.inr (some 39)))]) (st' := [.inr (.inr (some 39)), .inl 5, .inr (.inr (some 39))]) (h' := gc_h sh I12 J A) (C := (((True ∧ True) ∧ True) ∧ True)) rfl ⟨⟨⟨trivial, trivial⟩, trivial⟩, trivial⟩ ?_
        refine gv_get hD rfl rfl S_39 ⟨by decide, B_39⟩ (gc_hA S_39 rfl A_39_1) ?_
        show gv_X _ _ (57, [(0, .inr (.inr (some 39)))], [.inr (.inr (some 23)), .inl 5, .inr (.inr (some 39))], sh, gc_h sh I12 J A)
        have f28 := (show 0 ≤ I12 23 5 ∧ I12 23 5 ≤ 1000 from gc_in hI12 R_23 rfl rfl)
        refine gv_get hD rfl rfl S_23 ⟨by decide, B_23⟩ (gc_hI S_23 rfl) ?_
        show gv_X _ _ (60, [(0, .inr (.inr (some 39)))], [.inl (I12 23 5), .inl 5, .inr (.inr (some 39))], sh, gc_h sh I12 J A)
        obtain ⟨r29, h29, E29, P29⟩ := d_X6_wrong_p (ws0 := ws0) (tb := tb) hws htb sh ro I12 J A hI12  5 (I12 23 5) hb   ⟨by omega, by omega⟩ ⟨by omega, by omega⟩  
        obtain ⟨I30, J31, rfl, hI30, g29, k29, ⟨z29, rfl, q29⟩⟩ := P29
        have FI30 := gc_frc (W := fun q j => (q = 39 ∧ j = 3) ∨ (q = 39 ∧ j = 4) ∨ (q = 23 ∧ j = 5) ∨ (q = 23 ∧ j = 6) ∨ (q = 23 ∧ j = 7) ∨ (q = 23 ∧ j = 8) ∨ (q = 1 ∧ j = 17) ∨ (q = 1 ∧ j = 18) ∨ q = 20) (V := fun q j => (q = 39 ∧ j = 3) ∨ (q = 39 ∧ j = 4)) FI12 (fun q j h => (h.elim (fun h => (Or.inl h)) (fun h => (Or.inr (Or.inl h))))) g29
        have t32 := (g29 23 1).resolve_left (fun h => h.elim (fun h => absurd h.2 (by decide)) (fun h => absurd h.2 (by decide)))
        have t33 := (g29 23 5).resolve_left (fun h => h.elim (fun h => absurd h.2 (by decide)) (fun h => absurd h.2 (by decide)))
        have t34 := (g29 23 6).resolve_left (fun h => h.elim (fun h => absurd h.2 (by decide)) (fun h => absurd h.2 (by decide)))
        have t35 := (g29 23 7).resolve_left (fun h => h.elim (fun h => absurd h.2 (by decide)) (fun h => absurd h.2 (by decide)))
        have t36 := (g29 1 17).resolve_left (fun h => h.elim (fun h => absurd h.2 (by decide)) (fun h => absurd h.2 (by decide)))
        have t37 := (g29 23 8).resolve_left (fun h => h.elim (fun h => absurd h.2 (by decide)) (fun h => absurd h.2 (by decide)))
        have t38 := (g29 1 18).resolve_left (fun h => h.elim (fun h => absurd h.2 (by decide)) (fun h => absurd h.2 (by decide)))
        obtain rfl : J = J31 := funext fun q => funext fun j => ((k29 q j).resolve_left id).symm
        have KLT_I30 := gc_LT_fr KLT_I12 ((g29 23 5).resolve_left (fun h => h.elim (fun h => absurd h.2 (by decide)) (fun h => absurd h.2 (by decide)))) ((g29 23 6).resolve_left (fun h => h.elim (fun h => absurd h.2 (by decide)) (fun h => absurd h.2 (by decide)))) ((g29 23 7).resolve_left (fun h => h.elim (fun h => absurd h.2 (by decide)) (fun h => absurd h.2 (by decide)))) (fun k => (g29 24 k).resolve_left (fun h => h.elim (fun h => absurd h.1 (by decide)) (fun h => absurd h.1 (by decide))))
        have KTK_I30 := gc_TK_fr KTK_I12 ((g29 23 1).resolve_left (fun h => h.elim (fun h => absurd h.2 (by decide)) (fun h => absurd h.2 (by decide)))) ((g29 23 5).resolve_left (fun h => h.elim (fun h => absurd h.2 (by decide)) (fun h => absurd h.2 (by decide)))) ((g29 23 6).resolve_left (fun h => h.elim (fun h => absurd h.2 (by decide)) (fun h => absurd h.2 (by decide)))) ((g29 23 7).resolve_left (fun h => h.elim (fun h => absurd h.2 (by decide)) (fun h => absurd h.2 (by decide))))
        have A39 := gc_AT_I A21 ((g29 23 1).resolve_left (fun h => h.elim (fun h => absurd h.2 (by decide)) (fun h => absurd h.2 (by decide)))) ((g29 23 5).resolve_left (fun h => h.elim (fun h => absurd h.2 (by decide)) (fun h => absurd h.2 (by decide)))) ((g29 23 6).resolve_left (fun h => h.elim (fun h => absurd h.2 (by decide)) (fun h => absurd h.2 (by decide)))) ((g29 23 7).resolve_left (fun h => h.elim (fun h => absurd h.2 (by decide)) (fun h => absurd h.2 (by decide)))) ((g29 23 8).resolve_left (fun h => h.elim (fun h => absurd h.2 (by decide)) (fun h => absurd h.2 (by decide)))) (fun k => (g29 24 k).resolve_left (fun h => h.elim (fun h => absurd h.1 (by decide)) (fun h => absurd h.1 (by decide))))
        have t40 := gc_AT_l A39
        refine gv_callV hD rfl (As := [.inl 5, .inl (I12 23 5)]) (st := []) rfl B_39 S_39 rfl (gc_lV6 hws rfl) (Nat.le_of_ble_eq_true rfl) (gz_Ev_mono (d := 1) (by decide) E29) ?_
        show gv_X _ _ (63, [(0, .inr (.inr (some 39)))], [.inl z29], sh, gc_h sh I30 J A)
        exact gv_zret hD rfl (by omega) ⟨I30, J, rfl, hI30, FI30, FJ, KLT_I30, KTK_I30, ⟨_, rfl, by omega, by omega, by omega, by omega, by omega, by omega, (Or.inr ⟨by omega, by first | (exfalso; omega) | (unfold gs_part; (repeat first | rw [if_pos (by omega)] | rw [if_neg (by omega)]); exact ⟨by omega, by omega⟩)⟩)⟩⟩
      · show gv_X _ _ (40, [(0, .inr (.inr (some 39)))], [], sh, gc_h sh I12 J A)
        refine gv_run 1 true hD (pc' := 41) (lv' := [(0, .inr (.inr (some 39)))]) (st' := [.inr (.inr (some 39))]) (h' := gc_h sh I12 J A) (C := (True ∧ True)) rfl ⟨trivial, trivial⟩ ?_
        refine gv_get hD rfl rfl S_39 ⟨by decide, B_39⟩ (gc_hA S_39 rfl A_39_1) ?_
        show gv_X _ _ (44, [(0, .inr (.inr (some 39)))], [.inr (.inr (some 23))], sh, gc_h sh I12 J A)
        have f41 := (show 0 ≤ I12 23 8 ∧ I12 23 8 ≤ 999999 from gc_in hI12 R_23 rfl rfl)
        refine gv_get hD rfl rfl S_23 ⟨by decide, B_23⟩ (gc_hI S_23 rfl) ?_
        show gv_X _ _ (47, [(0, .inr (.inr (some 39)))], [.inl (I12 23 8)], sh, gc_h sh I12 J A)
        refine gv_run 1 true hD (pc' := 48) (lv' := [(0, .inr (.inr (some 39)))]) (st' := [.inl 3, .inl (I12 23 8)]) (h' := gc_h sh I12 J A) (C := (True ∧ True)) rfl ⟨trivial, trivial⟩ ?_
        refine gv_icmp_le (t := 64) hD rfl rfl ⟨⟨by omega, by omega⟩, ⟨by omega, by omega⟩⟩ (fun c42 => ?_) (fun c42 => ?_)
        · show gv_X _ _ (64, [(0, .inr (.inr (some 39)))], [], sh, gc_h sh I12 J A)
          have t43 := gc_TK_st KTK_I12 (by omega)
          refine gv_run 1 true hD (pc' := 65) (lv' := [(0, .inr (.inr (some 39)))]) (st' := [.inr (.inr (some 39))]) (h' := gc_h sh I12 J A) (C := (True ∧ True)) rfl ⟨trivial, trivial⟩ ?_
          refine gv_get hD rfl rfl S_39 ⟨by decide, B_39⟩ (gc_hA S_39 rfl A_39_0) ?_
          show gv_X _ _ (68, [(0, .inr (.inr (some 39)))], [.inr (.inr (some 1))], sh, gc_h sh I12 J A)
          refine gv_run 1 true hD (pc' := 69) (lv' := [(0, .inr (.inr (some 39)))]) (st' := [.inr (.inr (some 39)), .inr (.inr (some 1))]) (h' := gc_h sh I12 J A) (C := (True ∧ True)) rfl ⟨trivial, trivial⟩ ?_
          refine gv_get hD rfl rfl S_39 ⟨by decide, B_39⟩ (gc_hA S_39 rfl A_39_1) ?_
          show gv_X _ _ (72, [(0, .inr (.inr (some 39)))], [.inr (.inr (some 23)), .inr (.inr (some 1))], sh, gc_h sh I12 J A)
          have f44 := (show 0 ≤ I12 23 8 ∧ I12 23 8 ≤ 999999 from gc_in hI12 R_23 rfl rfl)
          refine gv_get hD rfl rfl S_23 ⟨by decide, B_23⟩ (gc_hI S_23 rfl) ?_
          show gv_X _ _ (75, [(0, .inr (.inr (some 39)))], [.inl (I12 23 8), .inr (.inr (some 1))], sh, gc_h sh I12 J A)
          obtain ⟨r45, h45, E45, P45⟩ := d_X8_keepByte_p (ws0 := ws0) (tb := tb) hws htb sh ro I12 J A hI12  (I12 23 8) hb   ⟨by omega, by omega⟩  
          obtain ⟨I46, J47, rfl, hI46, g45, k45, ⟨rfl, q45⟩⟩ := P45
          have FI46 := gc_frc (W := fun q j => (q = 39 ∧ j = 3) ∨ (q = 39 ∧ j = 4) ∨ (q = 23 ∧ j = 5) ∨ (q = 23 ∧ j = 6) ∨ (q = 23 ∧ j = 7) ∨ (q = 23 ∧ j = 8) ∨ (q = 1 ∧ j = 17) ∨ (q = 1 ∧ j = 18) ∨ q = 20) (V := fun q j => (q = 1 ∧ j = 17) ∨ (q = 1 ∧ j = 18) ∨ q = 20) FI12 (fun q j h => (h.elim (fun h => (Or.inr (Or.inr (Or.inr (Or.inr (Or.inr (Or.inr (Or.inl h)))))))) (fun h => (h.elim (fun h => (Or.inr (Or.inr (Or.inr (Or.inr (Or.inr (Or.inr (Or.inr (Or.inl h))))))))) (fun h => (Or.inr (Or.inr (Or.inr (Or.inr (Or.inr (Or.inr (Or.inr (Or.inr h))))))))))))) g45
          have t48 := (g45 23 1).resolve_left (fun h => h.elim (fun h => absurd h.2 (by decide)) (fun h => h.elim (fun h => absurd h.2 (by decide)) (fun h => absurd h (by decide))))
          have t49 := (g45 23 5).resolve_left (fun h => h.elim (fun h => absurd h.2 (by decide)) (fun h => h.elim (fun h => absurd h.2 (by decide)) (fun h => absurd h (by decide))))
          have t50 := (g45 23 6).resolve_left (fun h => h.elim (fun h => absurd h.2 (by decide)) (fun h => h.elim (fun h => absurd h.2 (by decide)) (fun h => absurd h (by decide))))
          have t51 := (g45 23 7).resolve_left (fun h => h.elim (fun h => absurd h.2 (by decide)) (fun h => h.elim (fun h => absurd h.2 (by decide)) (fun h => absurd h (by decide))))
          have t52 := (g45 23 8).resolve_left (fun h => h.elim (fun h => absurd h.2 (by decide)) (fun h => h.elim (fun h => absurd h.2 (by decide)) (fun h => absurd h (by decide))))
          have f53 := (show 0 ≤ I46 1 17 ∧ I46 1 17 ≤ 12000 from gc_in hI46 R_1 rfl rfl)
          have f54 := (show 0 ≤ I46 1 18 ∧ I46 1 18 ≤ 1 from gc_in hI46 R_1 rfl rfl)
          obtain rfl : J = J47 := funext fun q => funext fun j => ((k45 q j).resolve_left id).symm
          have KLT_I46 := gc_LT_fr KLT_I12 ((g45 23 5).resolve_left (fun h => h.elim (fun h => absurd h.2 (by decide)) (fun h => h.elim (fun h => absurd h.2 (by decide)) (fun h => absurd h (by decide))))) ((g45 23 6).resolve_left (fun h => h.elim (fun h => absurd h.2 (by decide)) (fun h => h.elim (fun h => absurd h.2 (by decide)) (fun h => absurd h (by decide))))) ((g45 23 7).resolve_left (fun h => h.elim (fun h => absurd h.2 (by decide)) (fun h => h.elim (fun h => absurd h.2 (by decide)) (fun h => absurd h (by decide))))) (fun k => (g45 24 k).resolve_left (fun h => h.elim (fun h => absurd h.1 (by decide)) (fun h => h.elim (fun h => absurd h.1 (by decide)) (fun h => absurd h (by decide)))))
          have KTK_I46 := gc_TK_fr KTK_I12 ((g45 23 1).resolve_left (fun h => h.elim (fun h => absurd h.2 (by decide)) (fun h => h.elim (fun h => absurd h.2 (by decide)) (fun h => absurd h (by decide))))) ((g45 23 5).resolve_left (fun h => h.elim (fun h => absurd h.2 (by decide)) (fun h => h.elim (fun h => absurd h.2 (by decide)) (fun h => absurd h (by decide))))) ((g45 23 6).resolve_left (fun h => h.elim (fun h => absurd h.2 (by decide)) (fun h => h.elim (fun h => absurd h.2 (by decide)) (fun h => absurd h (by decide))))) ((g45 23 7).resolve_left (fun h => h.elim (fun h => absurd h.2 (by decide)) (fun h => h.elim (fun h => absurd h.2 (by decide)) (fun h => absurd h (by decide)))))
          have A55 := gc_AT_I A21 ((g45 23 1).resolve_left (fun h => h.elim (fun h => absurd h.2 (by decide)) (fun h => h.elim (fun h => absurd h.2 (by decide)) (fun h => absurd h (by decide))))) ((g45 23 5).resolve_left (fun h => h.elim (fun h => absurd h.2 (by decide)) (fun h => h.elim (fun h => absurd h.2 (by decide)) (fun h => absurd h (by decide))))) ((g45 23 6).resolve_left (fun h => h.elim (fun h => absurd h.2 (by decide)) (fun h => h.elim (fun h => absurd h.2 (by decide)) (fun h => absurd h (by decide))))) ((g45 23 7).resolve_left (fun h => h.elim (fun h => absurd h.2 (by decide)) (fun h => h.elim (fun h => absurd h.2 (by decide)) (fun h => absurd h (by decide))))) ((g45 23 8).resolve_left (fun h => h.elim (fun h => absurd h.2 (by decide)) (fun h => h.elim (fun h => absurd h.2 (by decide)) (fun h => absurd h (by decide))))) (fun k => (g45 24 k).resolve_left (fun h => h.elim (fun h => absurd h.1 (by decide)) (fun h => h.elim (fun h => absurd h.1 (by decide)) (fun h => absurd h (by decide)))))
          have t56 := gc_AT_l A55
          refine gv_callV hD rfl (As := [.inl (I12 23 8)]) (st := []) rfl B_1 S_1 rfl (gc_lV6 hws rfl) (Nat.le_of_ble_eq_true rfl) (gz_Ev_mono (d := 1) (by decide) E45) ?_
          show gv_X _ _ (78, [(0, .inr (.inr (some 39)))], [], sh, gc_h sh I46 J A)
          refine gv_run 1 true hD (pc' := 79) (lv' := [(0, .inr (.inr (some 39)))]) (st' := [.inr (.inr (some 39))]) (h' := gc_h sh I46 J A) (C := (True ∧ True)) rfl ⟨trivial, trivial⟩ ?_
          refine gv_get hD rfl rfl S_39 ⟨by decide, B_39⟩ (gc_hA S_39 rfl A_39_1) ?_
          show gv_X _ _ (82, [(0, .inr (.inr (some 39)))], [.inr (.inr (some 23))], sh, gc_h sh I46 J A)
          have t58 := gc_TK_nx KTK_I46 (by omega)
          have t59 := gc_TK_st KTK_I46 (by omega)
          obtain ⟨r57, h57, E57, P57⟩ := d_X9_advance_p (ws0 := ws0) (tb := tb) hws htb sh ro I46 J A hI46 23 β η  (gc_b23 hb)    (by omega) A55.1.1 A55.1.2 
          obtain ⟨I60, J61, rfl, hI60, g57, k57, ⟨rfl, V57_0, V57_1, V57_2, V57_3, V57_4, q57⟩⟩ := P57
          have FI60 := gc_frc (W := fun q j => (q = 39 ∧ j = 3) ∨ (q = 39 ∧ j = 4) ∨ (q = 23 ∧ j = 5) ∨ (q = 23 ∧ j = 6) ∨ (q = 23 ∧ j = 7) ∨ (q = 23 ∧ j = 8) ∨ (q = 1 ∧ j = 17) ∨ (q = 1 ∧ j = 18) ∨ q = 20) (V := fun q j => (q = 23 ∧ j = 5) ∨ (q = 23 ∧ j = 6) ∨ (q = 23 ∧ j = 7) ∨ (q = 23 ∧ j = 8)) FI46 (fun q j h => (h.elim (fun h => (Or.inr (Or.inr (Or.inl h)))) (fun h => (h.elim (fun h => (Or.inr (Or.inr (Or.inr (Or.inl h))))) (fun h => (h.elim (fun h => (Or.inr (Or.inr (Or.inr (Or.inr (Or.inl h)))))) (fun h => (Or.inr (Or.inr (Or.inr (Or.inr (Or.inr (Or.inl h))))))))))))) g57
          have FJ61 := gc_frc (W := fun q j => (q = 23 ∧ j = 9)) (V := fun q j => (q = 23 ∧ j = 9)) FJ (fun q j h => h) k57
          have t62 := (g57 23 1).resolve_left (fun h => h.elim (fun h => absurd h.2 (by decide)) (fun h => h.elim (fun h => absurd h.2 (by decide)) (fun h => h.elim (fun h => absurd h.2 (by decide)) (fun h => absurd h.2 (by decide)))))
          have t63 := (g57 1 17).resolve_left (fun h => h.elim (fun h => absurd h.2 (by decide)) (fun h => h.elim (fun h => absurd h.2 (by decide)) (fun h => h.elim (fun h => absurd h.2 (by decide)) (fun h => absurd h.2 (by decide)))))
          have t64 := (g57 1 18).resolve_left (fun h => h.elim (fun h => absurd h.2 (by decide)) (fun h => h.elim (fun h => absurd h.2 (by decide)) (fun h => h.elim (fun h => absurd h.2 (by decide)) (fun h => absurd h.2 (by decide)))))
          have f65 := (show 0 ≤ I60 23 5 ∧ I60 23 5 ≤ 1000 from gc_in hI60 R_23 rfl rfl)
          have f66 := (show 0 ≤ I60 23 6 ∧ I60 23 6 ≤ 1001 from gc_in hI60 R_23 rfl rfl)
          have f67 := (show 0 ≤ I60 23 7 ∧ I60 23 7 ≤ 125 from gc_in hI60 R_23 rfl rfl)
          have f68 := (show 0 ≤ I60 23 8 ∧ I60 23 8 ≤ 999999 from gc_in hI60 R_23 rfl rfl)
          have KLT_I60 : gc_LT I60 := q57.2.2.1
          have KTK_I60 : gc_TK I60 := And.intro V57_0 (And.intro V57_1 (And.intro V57_2 (And.intro V57_3 V57_4)))
          have t69 := gc_TK_mo KTK_I60
          clear V57_0 V57_1 V57_2 V57_3 V57_4
          have A70 := gc_AT_nx A55 q57.2.2.2
          have t71 := gc_AT_l A70
          refine gv_callV hD rfl (As := []) (st := []) rfl B_23 S_23 rfl (gc_lV6 hws rfl) (Nat.le_of_ble_eq_true rfl) (gz_Ev_mono (d := 2) (by decide) E57) ?_
          show gv_X _ _ (85, [(0, .inr (.inr (some 39)))], [], sh, gc_h sh I60 J61 A)
          refine gv_run 1 true hD (pc' := 86) (lv' := [(0, .inr (.inr (some 39)))]) (st' := [.inl 1]) (h' := gc_h sh I60 J61 A) (C := (True ∧ True)) rfl ⟨trivial, trivial⟩ ?_
          exact gv_zret hD rfl (by omega) ⟨I60, J61, rfl, hI60, FI60, FJ61, KLT_I60, KTK_I60, ⟨_, rfl, by omega, by omega, by omega, by omega, by omega, by omega, (Or.inl ⟨by omega, by have e9 : (gs_part β η p9) = (gs_X β η p9) := (by unfold gs_part; (repeat first | rw [if_pos (by omega)] | rw [if_neg (by omega)])); rw [e9]; exact ⟨by omega, A70, by omega, by omega⟩⟩)⟩⟩
        · show gv_X _ _ (51, [(0, .inr (.inr (some 39)))], [], sh, gc_h sh I12 J A)
          refine gv_run 3 true hD (pc' := 54) (lv' := [(0, .inr (.inr (some 39)))]) (st' := [.inr (.inr (some 39)), .inl 5, .inr (.inr (some 39))]) (h' := gc_h sh I12 J A) (C := (((True ∧ True) ∧ True) ∧ True)) rfl ⟨⟨⟨trivial, trivial⟩, trivial⟩, trivial⟩ ?_
          refine gv_get hD rfl rfl S_39 ⟨by decide, B_39⟩ (gc_hA S_39 rfl A_39_1) ?_
          show gv_X _ _ (57, [(0, .inr (.inr (some 39)))], [.inr (.inr (some 23)), .inl 5, .inr (.inr (some 39))], sh, gc_h sh I12 J A)
          have f72 := (show 0 ≤ I12 23 5 ∧ I12 23 5 ≤ 1000 from gc_in hI12 R_23 rfl rfl)
          refine gv_get hD rfl rfl S_23 ⟨by decide, B_23⟩ (gc_hI S_23 rfl) ?_
          show gv_X _ _ (60, [(0, .inr (.inr (some 39)))], [.inl (I12 23 5), .inl 5, .inr (.inr (some 39))], sh, gc_h sh I12 J A)
          obtain ⟨r73, h73, E73, P73⟩ := d_X6_wrong_p (ws0 := ws0) (tb := tb) hws htb sh ro I12 J A hI12  5 (I12 23 5) hb   ⟨by omega, by omega⟩ ⟨by omega, by omega⟩  
          obtain ⟨I74, J75, rfl, hI74, g73, k73, ⟨z73, rfl, q73⟩⟩ := P73
          have FI74 := gc_frc (W := fun q j => (q = 39 ∧ j = 3) ∨ (q = 39 ∧ j = 4) ∨ (q = 23 ∧ j = 5) ∨ (q = 23 ∧ j = 6) ∨ (q = 23 ∧ j = 7) ∨ (q = 23 ∧ j = 8) ∨ (q = 1 ∧ j = 17) ∨ (q = 1 ∧ j = 18) ∨ q = 20) (V := fun q j => (q = 39 ∧ j = 3) ∨ (q = 39 ∧ j = 4)) FI12 (fun q j h => (h.elim (fun h => (Or.inl h)) (fun h => (Or.inr (Or.inl h))))) g73
          have t76 := (g73 23 1).resolve_left (fun h => h.elim (fun h => absurd h.2 (by decide)) (fun h => absurd h.2 (by decide)))
          have t77 := (g73 23 5).resolve_left (fun h => h.elim (fun h => absurd h.2 (by decide)) (fun h => absurd h.2 (by decide)))
          have t78 := (g73 23 6).resolve_left (fun h => h.elim (fun h => absurd h.2 (by decide)) (fun h => absurd h.2 (by decide)))
          have t79 := (g73 23 7).resolve_left (fun h => h.elim (fun h => absurd h.2 (by decide)) (fun h => absurd h.2 (by decide)))
          have t80 := (g73 1 17).resolve_left (fun h => h.elim (fun h => absurd h.2 (by decide)) (fun h => absurd h.2 (by decide)))
          have t81 := (g73 23 8).resolve_left (fun h => h.elim (fun h => absurd h.2 (by decide)) (fun h => absurd h.2 (by decide)))
          have t82 := (g73 1 18).resolve_left (fun h => h.elim (fun h => absurd h.2 (by decide)) (fun h => absurd h.2 (by decide)))
          obtain rfl : J = J75 := funext fun q => funext fun j => ((k73 q j).resolve_left id).symm
          have KLT_I74 := gc_LT_fr KLT_I12 ((g73 23 5).resolve_left (fun h => h.elim (fun h => absurd h.2 (by decide)) (fun h => absurd h.2 (by decide)))) ((g73 23 6).resolve_left (fun h => h.elim (fun h => absurd h.2 (by decide)) (fun h => absurd h.2 (by decide)))) ((g73 23 7).resolve_left (fun h => h.elim (fun h => absurd h.2 (by decide)) (fun h => absurd h.2 (by decide)))) (fun k => (g73 24 k).resolve_left (fun h => h.elim (fun h => absurd h.1 (by decide)) (fun h => absurd h.1 (by decide))))
          have KTK_I74 := gc_TK_fr KTK_I12 ((g73 23 1).resolve_left (fun h => h.elim (fun h => absurd h.2 (by decide)) (fun h => absurd h.2 (by decide)))) ((g73 23 5).resolve_left (fun h => h.elim (fun h => absurd h.2 (by decide)) (fun h => absurd h.2 (by decide)))) ((g73 23 6).resolve_left (fun h => h.elim (fun h => absurd h.2 (by decide)) (fun h => absurd h.2 (by decide)))) ((g73 23 7).resolve_left (fun h => h.elim (fun h => absurd h.2 (by decide)) (fun h => absurd h.2 (by decide))))
          have A83 := gc_AT_I A21 ((g73 23 1).resolve_left (fun h => h.elim (fun h => absurd h.2 (by decide)) (fun h => absurd h.2 (by decide)))) ((g73 23 5).resolve_left (fun h => h.elim (fun h => absurd h.2 (by decide)) (fun h => absurd h.2 (by decide)))) ((g73 23 6).resolve_left (fun h => h.elim (fun h => absurd h.2 (by decide)) (fun h => absurd h.2 (by decide)))) ((g73 23 7).resolve_left (fun h => h.elim (fun h => absurd h.2 (by decide)) (fun h => absurd h.2 (by decide)))) ((g73 23 8).resolve_left (fun h => h.elim (fun h => absurd h.2 (by decide)) (fun h => absurd h.2 (by decide)))) (fun k => (g73 24 k).resolve_left (fun h => h.elim (fun h => absurd h.1 (by decide)) (fun h => absurd h.1 (by decide))))
          have t84 := gc_AT_l A83
          refine gv_callV hD rfl (As := [.inl 5, .inl (I12 23 5)]) (st := []) rfl B_39 S_39 rfl (gc_lV6 hws rfl) (Nat.le_of_ble_eq_true rfl) (gz_Ev_mono (d := 1) (by decide) E73) ?_
          show gv_X _ _ (63, [(0, .inr (.inr (some 39)))], [.inl z73], sh, gc_h sh I74 J A)
          exact gv_zret hD rfl (by omega) ⟨I74, J, rfl, hI74, FI74, FJ, KLT_I74, KTK_I74, ⟨_, rfl, by omega, by omega, by omega, by omega, by omega, by omega, (Or.inr ⟨by omega, by first | (exfalso; omega) | (unfold gs_part; (repeat first | rw [if_pos (by omega)] | rw [if_neg (by omega)]); exact ⟨by omega, by omega⟩)⟩)⟩⟩
    · show gv_X _ _ (27, [(0, .inr (.inr (some 39)))], [], sh, gc_h sh I12 J A)
      have u85 := gs_or0 q11.2.2.2 (by omega)
      refine gv_run 1 true hD (pc' := 28) (lv' := [(0, .inr (.inr (some 39)))]) (st' := [.inl 0]) (h' := gc_h sh I12 J A) (C := (True ∧ True)) rfl ⟨trivial, trivial⟩ ?_
      exact gv_zret hD rfl (by omega) ⟨I12, J, rfl, hI12, FI12, FJ, KLT_I12, KTK_I12, ⟨_, rfl, by omega, by omega, by omega, by omega, by omega, by omega, (Or.inr ⟨by omega, by first | (exfalso; omega) | (unfold gs_part; (repeat first | rw [if_pos (by omega)] | rw [if_neg (by omega)]); exact ⟨by omega, by omega⟩)⟩)⟩⟩
  · show gv_X _ _ (11, [(0, .inr (.inr (some 39)))], [], sh, gc_h sh I J A)
    have t86 := gc_TK_st KTK_I (by omega)
    refine gv_run 1 true hD (pc' := 12) (lv' := [(0, .inr (.inr (some 39)))]) (st' := [.inr (.inr (some 39))]) (h' := gc_h sh I J A) (C := (True ∧ True)) rfl ⟨trivial, trivial⟩ ?_
    obtain ⟨r87, h87, E87, P87⟩ := d_X6_keepLetters_p (ws0 := ws0) (tb := tb) hws htb sh ro I J A hI   hb    (by omega) (by omega) KLT_I KTK_I
    obtain ⟨I88, J89, rfl, hI88, g87, k87, KLT_I88, KTK_I88, ⟨z87, rfl, q87⟩⟩ := P87
    have FI88 := gc_frc (W := fun q j => (q = 39 ∧ j = 3) ∨ (q = 39 ∧ j = 4) ∨ (q = 23 ∧ j = 5) ∨ (q = 23 ∧ j = 6) ∨ (q = 23 ∧ j = 7) ∨ (q = 23 ∧ j = 8) ∨ (q = 1 ∧ j = 17) ∨ (q = 1 ∧ j = 18) ∨ q = 20) (V := fun q j => (q = 1 ∧ j = 17) ∨ (q = 1 ∧ j = 18) ∨ q = 20) FI (fun q j h => (h.elim (fun h => (Or.inr (Or.inr (Or.inr (Or.inr (Or.inr (Or.inr (Or.inl h)))))))) (fun h => (h.elim (fun h => (Or.inr (Or.inr (Or.inr (Or.inr (Or.inr (Or.inr (Or.inr (Or.inl h))))))))) (fun h => (Or.inr (Or.inr (Or.inr (Or.inr (Or.inr (Or.inr (Or.inr (Or.inr h))))))))))))) g87
    have t90 := (g87 23 1).resolve_left (fun h => h.elim (fun h => absurd h.2 (by decide)) (fun h => h.elim (fun h => absurd h.2 (by decide)) (fun h => absurd h (by decide))))
    have t91 := (g87 23 5).resolve_left (fun h => h.elim (fun h => absurd h.2 (by decide)) (fun h => h.elim (fun h => absurd h.2 (by decide)) (fun h => absurd h (by decide))))
    have t92 := (g87 23 6).resolve_left (fun h => h.elim (fun h => absurd h.2 (by decide)) (fun h => h.elim (fun h => absurd h.2 (by decide)) (fun h => absurd h (by decide))))
    have t93 := (g87 23 7).resolve_left (fun h => h.elim (fun h => absurd h.2 (by decide)) (fun h => h.elim (fun h => absurd h.2 (by decide)) (fun h => absurd h (by decide))))
    have t94 := (g87 23 8).resolve_left (fun h => h.elim (fun h => absurd h.2 (by decide)) (fun h => h.elim (fun h => absurd h.2 (by decide)) (fun h => absurd h (by decide))))
    have f95 := (show 0 ≤ I88 1 17 ∧ I88 1 17 ≤ 12000 from gc_in hI88 R_1 rfl rfl)
    have f96 := (show 0 ≤ I88 1 18 ∧ I88 1 18 ≤ 1 from gc_in hI88 R_1 rfl rfl)
    obtain rfl : J = J89 := funext fun q => funext fun j => ((k87 q j).resolve_left id).symm
    have A97 := gc_AT_I x1 ((g87 23 1).resolve_left (fun h => h.elim (fun h => absurd h.2 (by decide)) (fun h => h.elim (fun h => absurd h.2 (by decide)) (fun h => absurd h (by decide))))) ((g87 23 5).resolve_left (fun h => h.elim (fun h => absurd h.2 (by decide)) (fun h => h.elim (fun h => absurd h.2 (by decide)) (fun h => absurd h (by decide))))) ((g87 23 6).resolve_left (fun h => h.elim (fun h => absurd h.2 (by decide)) (fun h => h.elim (fun h => absurd h.2 (by decide)) (fun h => absurd h (by decide))))) ((g87 23 7).resolve_left (fun h => h.elim (fun h => absurd h.2 (by decide)) (fun h => h.elim (fun h => absurd h.2 (by decide)) (fun h => absurd h (by decide))))) ((g87 23 8).resolve_left (fun h => h.elim (fun h => absurd h.2 (by decide)) (fun h => h.elim (fun h => absurd h.2 (by decide)) (fun h => absurd h (by decide))))) (fun k => (g87 24 k).resolve_left (fun h => h.elim (fun h => absurd h.1 (by decide)) (fun h => h.elim (fun h => absurd h.1 (by decide)) (fun h => absurd h (by decide)))))
    have t98 := gc_AT_l A97
    refine gv_callV hD rfl (As := []) (st := []) rfl B_39 S_39 rfl (gc_lV6 hws rfl) (Nat.le_of_ble_eq_true rfl) (gz_Ev_mono (d := 2) (by decide) E87) ?_
    show gv_X _ _ (15, [(0, .inr (.inr (some 39)))], [.inl z87], sh, gc_h sh I88 J A)
    refine gv_run 3 true hD (pc' := 79) (lv' := [(0, .inr (.inr (some 39)))]) (st' := [.inr (.inr (some 39))]) (h' := gc_h sh I88 J A) (C := (((True ∧ True) ∧ True) ∧ True)) rfl ⟨⟨⟨trivial, trivial⟩, trivial⟩, trivial⟩ ?_
    refine gv_get hD rfl rfl S_39 ⟨by decide, B_39⟩ (gc_hA S_39 rfl A_39_1) ?_
    show gv_X _ _ (82, [(0, .inr (.inr (some 39)))], [.inr (.inr (some 23))], sh, gc_h sh I88 J A)
    have t100 := gc_TK_nx KTK_I88 (by omega)
    have t101 := gc_TK_st KTK_I88 (by omega)
    obtain ⟨r99, h99, E99, P99⟩ := d_X9_advance_p (ws0 := ws0) (tb := tb) hws htb sh ro I88 J A hI88 23 β η  (gc_b23 hb)    (by omega) A97.1.1 A97.1.2 
    obtain ⟨I102, J103, rfl, hI102, g99, k99, ⟨rfl, V99_0, V99_1, V99_2, V99_3, V99_4, q99⟩⟩ := P99
    have FI102 := gc_frc (W := fun q j => (q = 39 ∧ j = 3) ∨ (q = 39 ∧ j = 4) ∨ (q = 23 ∧ j = 5) ∨ (q = 23 ∧ j = 6) ∨ (q = 23 ∧ j = 7) ∨ (q = 23 ∧ j = 8) ∨ (q = 1 ∧ j = 17) ∨ (q = 1 ∧ j = 18) ∨ q = 20) (V := fun q j => (q = 23 ∧ j = 5) ∨ (q = 23 ∧ j = 6) ∨ (q = 23 ∧ j = 7) ∨ (q = 23 ∧ j = 8)) FI88 (fun q j h => (h.elim (fun h => (Or.inr (Or.inr (Or.inl h)))) (fun h => (h.elim (fun h => (Or.inr (Or.inr (Or.inr (Or.inl h))))) (fun h => (h.elim (fun h => (Or.inr (Or.inr (Or.inr (Or.inr (Or.inl h)))))) (fun h => (Or.inr (Or.inr (Or.inr (Or.inr (Or.inr (Or.inl h))))))))))))) g99
    have FJ103 := gc_frc (W := fun q j => (q = 23 ∧ j = 9)) (V := fun q j => (q = 23 ∧ j = 9)) FJ (fun q j h => h) k99
    have t104 := (g99 23 1).resolve_left (fun h => h.elim (fun h => absurd h.2 (by decide)) (fun h => h.elim (fun h => absurd h.2 (by decide)) (fun h => h.elim (fun h => absurd h.2 (by decide)) (fun h => absurd h.2 (by decide)))))
    have t105 := (g99 1 17).resolve_left (fun h => h.elim (fun h => absurd h.2 (by decide)) (fun h => h.elim (fun h => absurd h.2 (by decide)) (fun h => h.elim (fun h => absurd h.2 (by decide)) (fun h => absurd h.2 (by decide)))))
    have t106 := (g99 1 18).resolve_left (fun h => h.elim (fun h => absurd h.2 (by decide)) (fun h => h.elim (fun h => absurd h.2 (by decide)) (fun h => h.elim (fun h => absurd h.2 (by decide)) (fun h => absurd h.2 (by decide)))))
    have f107 := (show 0 ≤ I102 23 5 ∧ I102 23 5 ≤ 1000 from gc_in hI102 R_23 rfl rfl)
    have f108 := (show 0 ≤ I102 23 6 ∧ I102 23 6 ≤ 1001 from gc_in hI102 R_23 rfl rfl)
    have f109 := (show 0 ≤ I102 23 7 ∧ I102 23 7 ≤ 125 from gc_in hI102 R_23 rfl rfl)
    have f110 := (show 0 ≤ I102 23 8 ∧ I102 23 8 ≤ 999999 from gc_in hI102 R_23 rfl rfl)
    have KLT_I102 : gc_LT I102 := q99.2.2.1
    have KTK_I102 : gc_TK I102 := And.intro V99_0 (And.intro V99_1 (And.intro V99_2 (And.intro V99_3 V99_4)))
    have t111 := gc_TK_mo KTK_I102
    clear V99_0 V99_1 V99_2 V99_3 V99_4
    have A112 := gc_AT_nx A97 q99.2.2.2
    have t113 := gc_AT_l A112
    refine gv_callV hD rfl (As := []) (st := []) rfl B_23 S_23 rfl (gc_lV6 hws rfl) (Nat.le_of_ble_eq_true rfl) (gz_Ev_mono (d := 2) (by decide) E99) ?_
    show gv_X _ _ (85, [(0, .inr (.inr (some 39)))], [], sh, gc_h sh I102 J103 A)
    refine gv_run 1 true hD (pc' := 86) (lv' := [(0, .inr (.inr (some 39)))]) (st' := [.inl 1]) (h' := gc_h sh I102 J103 A) (C := (True ∧ True)) rfl ⟨trivial, trivial⟩ ?_
    exact gv_zret hD rfl (by omega) ⟨I102, J103, rfl, hI102, FI102, FJ103, KLT_I102, KTK_I102, ⟨_, rfl, by omega, by omega, by omega, by omega, by omega, by omega, (Or.inl ⟨by omega, by have e9 : (gs_part β η p9) = (gs_X β η p9) := (by unfold gs_part; (repeat first | rw [if_pos (by omega)] | rw [if_neg (by omega)])); rw [e9]; exact ⟨by omega, A112, by omega, by omega⟩⟩)⟩⟩
set_option maxHeartbeats 4000000 in
set_option maxRecDepth 100000 in
theorem d_X6_readCell_p {ws0 : List Cond} {tb : String → gz_T} (hws : gc_Ws ws0) (htb : gc_tbs tb) (sh : gz_Sh) (ro : Nat → Nat) (I : gr_I) (J : gr_J) (A : gc_A) (hI : gc_Inv ro I) (t : Nat) (B : Int) (β : Int → Int) (η : Int) (p9 : Int) (Ir : gr_I) (Jr : gr_J)  (hb : gc_Base sh ro A) (h_t : gc_isTongue sh ro A t) (G_t : 144 ≤ t)  (x0 : B ≤ 1280 ∧ I 1 17 + I 23 1 ≤ B + I 23 5) (x1 : gc_AT β η p9 23 I J) (x2 : 0 ≤ p9) (x3 : I 1 18 = 0) (x4 : I (t + 3) 1 = Ir 14 (Int.toNat (Ir 0 6))) (x5 : gs_NA (I (t + 3) 1) (J (t + 4)) (fun k => Jr 21 (Int.toNat (48 * Ir 0 6 + (k : Int))))) (x6 : gs_VR Ir I t) (x7 : I 39 2 = (t : Int)) (KLT_I : gc_LT I) (KTK_I : gc_TK I) : ∃ r h', gz_Ev ws0 tb 4 (yX6_readCell, cX6_readCell, 3, (some .boolean)) [.inr (.inr (some 39))] sh (gc_h sh I J A) r sh h' 0 0 ∧ (∃ (I' : gr_I) (J' : gr_J), h' = gc_h sh I' J' A ∧ gc_Inv ro I' ∧ (∀ q j : Nat, ((q = 39 ∧ j = 3) ∨ (q = 39 ∧ j = 4) ∨ (q = 23 ∧ j = 5) ∨ (q = 23 ∧ j = 6) ∨ (q = 23 ∧ j = 7) ∨ (q = 23 ∧ j = 8) ∨ (q = 1 ∧ j = 17) ∨ (q = 1 ∧ j = 18) ∨ q = 20 ∨ (q = 39 ∧ j = 6) ∨ (q = 41 ∧ j = 0) ∨ (q = 41 ∧ j = 1) ∨ (q = 41 ∧ j = 2)) ∨ I' q j = I q j) ∧ (∀ q j : Nat, ((q = 23 ∧ j = 9)) ∨ J' q j = J q j) ∧ gc_LT I' ∧ gc_TK I' ∧ (∃ z : Int, r = some (.inl z) ∧ 0 ≤ z ∧ z ≤ 1 ∧ (I' 23 1 = I 23 1) ∧ (I 23 5 ≤ I' 23 5) ∧ (B ≤ 1280 ∧ I' 1 17 + I' 23 1 ≤ B + I' 23 5) ∧ (z = 0 ∨ (0 ≤ I' 41 0 ∧ I' 41 0 ≤ 16777215 ∧ 0 ≤ I' 41 1 ∧ I' 41 1 ≤ 2000 ∧ -1 ≤ I' 41 2 ∧ I' 41 2 ≤ 2000)) ∧ (gs_Or z (0 ≤ (gs_cell β η Ir Jr p9) ∧ gc_AT β η (gs_cell β η Ir Jr p9) 23 I' J' ∧ (I' 1 18 = 0 ∧ I 23 5 < I' 23 5) ∧ gs_PX (I' 41 0) (gs_ws β η Ir Jr 1002 0 p9).2) ((gs_cell β η Ir Jr p9) < 0 ∧ I' 39 4 = -1 - (gs_cell β η Ir Jr p9))))) := by
  have FI : ∀ q j : Nat, ((q = 39 ∧ j = 3) ∨ (q = 39 ∧ j = 4) ∨ (q = 23 ∧ j = 5) ∨ (q = 23 ∧ j = 6) ∨ (q = 23 ∧ j = 7) ∨ (q = 23 ∧ j = 8) ∨ (q = 1 ∧ j = 17) ∨ (q = 1 ∧ j = 18) ∨ q = 20 ∨ (q = 39 ∧ j = 6) ∨ (q = 41 ∧ j = 0) ∨ (q = 41 ∧ j = 1) ∨ (q = 41 ∧ j = 2)) ∨ I q j = I q j := fun _ _ => Or.inr rfl
  have FJ : ∀ q j : Nat, ((q = 23 ∧ j = 9)) ∨ J q j = J q j := fun _ _ => Or.inr rfl
  have A_39_0 : A 39 0 = some 1 := gc_bA hb rfl
  have A_39_1 : A 39 1 = some 23 := gc_bA hb rfl
  have A_39_10 : A 39 10 = some 41 := gc_bA hb rfl
  have B_1 : 1 < 1000000 := by decide
  have B_23 : 23 < 1000000 := by decide
  have B_39 : 39 < 1000000 := by decide
  have B_41 : 41 < 1000000 := by decide
  have R_1 : ro 1 = 22 := gc_bR hb (by decide) rfl
  have R_23 : ro 23 = 3 := gc_bR hb (by decide) rfl
  have R_39 : ro 39 = 42 := gc_bR hb (by decide) rfl
  have R_41 : ro 41 = 0 := gc_bR hb (by decide) rfl
  have S_1 : sh[1]? = some (false, 8, 21) := gc_bS hb rfl
  have S_23 : sh[23]? = some (false, 9, 10) := gc_bS hb rfl
  have S_39 : sh[39]? = some (false, 6, 19) := gc_bS hb rfl
  have S_41 : sh[41]? = some (true, 1, 25) := gc_bS hb rfl
  obtain ⟨S_t, R_t, B_t, A_t_0, h_t_1, A_t_1, h_t_3, A_t_2, S_t_5, R_t_5, B_t_5, A_t_3, S_t_6, R_t_6, B_t_6, A_t_4, h_t_7, A_t_5, S_t_9, R_t_9, B_t_9, A_t_7, S_t_10, R_t_10, B_t_10, A_t_8, h_t_11, A_t_9, S_t_13, R_t_13, B_t_13, A_t_10, S_t_14, R_t_14, B_t_14, A_t_12, S_t_15, R_t_15, B_t_15, A_t_14, S_t_16, R_t_16, B_t_16, A_t_15, h_t_17⟩ := id h_t
  obtain ⟨S_t_1, R_t_1, B_t_1, A_t_1_0, S_t_1_1, R_t_1_1, B_t_1_1, Q0_t_1, Q1_t_1, Q2_t_1⟩ := id h_t_1
  obtain ⟨S_t_3, R_t_3, B_t_3, A_t_3_0, S_t_3_1, R_t_3_1, B_t_3_1, Q0_t_3, Q1_t_3, Q2_t_3⟩ := id h_t_3
  obtain ⟨S_t_7, R_t_7, B_t_7, A_t_7_0, S_t_7_1, R_t_7_1, B_t_7_1, Q0_t_7, Q1_t_7, Q2_t_7⟩ := id h_t_7
  obtain ⟨S_t_11, R_t_11, B_t_11, A_t_11_0, S_t_11_1, R_t_11_1, B_t_11_1, Q0_t_11, Q1_t_11, Q2_t_11⟩ := id h_t_11
  obtain ⟨S_t_17, R_t_17, B_t_17, A_t_17_0, S_20, R_20, B_20, A_t_17_1, S_t_17_1, R_t_17_1, B_t_17_1, A_t_17_2, S_t_17_2, R_t_17_2, B_t_17_2, A_t_17_3, S_t_17_3, R_t_17_3, B_t_17_3, A_t_17_4, S_t_17_4, R_t_17_4, B_t_17_4, A_t_17_5, S_t_17_5, R_t_17_5, B_t_17_5, S_t_17_6, R_t_17_6, B_t_17_6, S_t_17_7, R_t_17_7, B_t_17_7⟩ := id h_t_17
  have hD : gv_D (gc_E6 ws0 tb 3 (yX6_readCell, cX6_readCell, 3, (some .boolean)) kX6_readCell) := gq_ok oX6_readCell
  refine gc_ev6 (d := 3) (l := kX6_readCell) (Po := fun r h' => (∃ (I' : gr_I) (J' : gr_J), h' = gc_h sh I' J' A ∧ gc_Inv ro I' ∧ (∀ q j : Nat, ((q = 39 ∧ j = 3) ∨ (q = 39 ∧ j = 4) ∨ (q = 23 ∧ j = 5) ∨ (q = 23 ∧ j = 6) ∨ (q = 23 ∧ j = 7) ∨ (q = 23 ∧ j = 8) ∨ (q = 1 ∧ j = 17) ∨ (q = 1 ∧ j = 18) ∨ q = 20 ∨ (q = 39 ∧ j = 6) ∨ (q = 41 ∧ j = 0) ∨ (q = 41 ∧ j = 1) ∨ (q = 41 ∧ j = 2)) ∨ I' q j = I q j) ∧ (∀ q j : Nat, ((q = 23 ∧ j = 9)) ∨ J' q j = J q j) ∧ gc_LT I' ∧ gc_TK I' ∧ (∃ z : Int, r = some (.inl z) ∧ 0 ≤ z ∧ z ≤ 1 ∧ (I' 23 1 = I 23 1) ∧ (I 23 5 ≤ I' 23 5) ∧ (B ≤ 1280 ∧ I' 1 17 + I' 23 1 ≤ B + I' 23 5) ∧ (z = 0 ∨ (0 ≤ I' 41 0 ∧ I' 41 0 ≤ 16777215 ∧ 0 ≤ I' 41 1 ∧ I' 41 1 ≤ 2000 ∧ -1 ≤ I' 41 2 ∧ I' 41 2 ≤ 2000)) ∧ (gs_Or z (0 ≤ (gs_cell β η Ir Jr p9) ∧ gc_AT β η (gs_cell β η Ir Jr p9) 23 I' J' ∧ (I' 1 18 = 0 ∧ I 23 5 < I' 23 5) ∧ gs_PX (I' 41 0) (gs_ws β η Ir Jr 1002 0 p9).2) ((gs_cell β η Ir Jr p9) < 0 ∧ I' 39 4 = -1 - (gs_cell β η Ir Jr p9)))))) htb rfl (Nat.le_of_ble_eq_true rfl) ?_
  have t1 := gc_TK_mo KTK_I
  have f2 := (show 0 ≤ I 23 1 ∧ I 23 1 ≤ 1000 from gc_in hI R_23 rfl rfl)
  have f3 := (show 0 ≤ I 23 5 ∧ I 23 5 ≤ 1000 from gc_in hI R_23 rfl rfl)
  have f4 := (show 0 ≤ I 23 6 ∧ I 23 6 ≤ 1001 from gc_in hI R_23 rfl rfl)
  have f5 := (show 0 ≤ I 23 7 ∧ I 23 7 ≤ 125 from gc_in hI R_23 rfl rfl)
  have f6 := (show 0 ≤ I 1 17 ∧ I 1 17 ≤ 12000 from gc_in hI R_1 rfl rfl)
  have f7 := (show (-2147483648) ≤ I 41 0 ∧ I 41 0 ≤ 2147483647 from gc_in hI R_41 rfl rfl)
  have f8 := (show (-2147483648) ≤ I 41 1 ∧ I 41 1 ≤ 2147483647 from gc_in hI R_41 rfl rfl)
  have f9 := (show (-2147483648) ≤ I 41 2 ∧ I 41 2 ≤ 2147483647 from gc_in hI R_41 rfl rfl)
  have f10 := (show 0 ≤ I 1 18 ∧ I 1 18 ≤ 1 from gc_in hI R_1 rfl rfl)
  have f11 := (show 0 ≤ I 39 6 ∧ I 39 6 ≤ 16777215 from gc_in hI R_39 rfl rfl)
  have f12 := (show (-1) ≤ I 39 2 ∧ I 39 2 ≤ 999999 from gc_in hI R_39 rfl rfl)
  have tAT := gc_AT_l x1
  have L74 : ∀ (n9 : Nat) (I13 : gr_I) (J14 : gr_J) (v1_15 : Int) (v2_15 : Int) (p_15 : Int), (1001 - v2_15).toNat < n9 → gc_Inv ro I13 → (∀ q j : Nat, ((q = 39 ∧ j = 3) ∨ (q = 39 ∧ j = 4) ∨ (q = 23 ∧ j = 5) ∨ (q = 23 ∧ j = 6) ∨ (q = 23 ∧ j = 7) ∨ (q = 23 ∧ j = 8) ∨ (q = 1 ∧ j = 17) ∨ (q = 1 ∧ j = 18) ∨ q = 20 ∨ (q = 39 ∧ j = 6) ∨ (q = 41 ∧ j = 0) ∨ (q = 41 ∧ j = 1) ∨ (q = 41 ∧ j = 2)) ∨ I13 q j = I q j) → (∀ q j : Nat, ((q = 23 ∧ j = 9)) ∨ J14 q j = J q j) → gc_LT I13 → gc_TK I13 → ((0 ≤ v1_15 ∧ v1_15 ≤ 1) ∧ (0 ≤ v2_15 ∧ v2_15 ≤ 1000) ∧ (0 ≤ I13 41 0 ∧ I13 41 0 ≤ 16777215 ∧ 0 ≤ I13 41 1 ∧ I13 41 1 ≤ 2000 ∧ -1 ≤ I13 41 2 ∧ I13 41 2 ≤ 2000 ∧ I13 41 1 ≤ I13 1 17) ∧ (0 ≤ p_15) ∧ ((v1_15 = 1 ∧ 2 * v2_15 ≤ I13 23 5) ∨ v1_15 = 0) ∧ (I13 1 18 = 0 ∧ I 23 5 < I13 23 5) ∧ (I13 23 1 = I 23 1) ∧ (I 23 5 ≤ I13 23 5) ∧ (B ≤ 1280 ∧ I13 1 17 + I13 23 1 ≤ B + I13 23 5) ∧ (I13 39 2 = (t : Int))) → (gc_AT β η p_15 23 I13 J14) → ((gs_cell β η Ir Jr p9) = (if v1_15 = 0 then p_15 else gs_fm β η (Int.toNat (1002 - v2_15)) p_15)) → (gs_PX (I13 41 0) (gs_ws β η Ir Jr 1002 0 p9).2) → gv_X (gc_E6 ws0 tb 3 (yX6_readCell, cX6_readCell, 3, (some .boolean)) kX6_readCell) (gv_Q cX6_readCell (some .boolean) sh (fun r h' => (∃ (I' : gr_I) (J' : gr_J), h' = gc_h sh I' J' A ∧ gc_Inv ro I' ∧ (∀ q j : Nat, ((q = 39 ∧ j = 3) ∨ (q = 39 ∧ j = 4) ∨ (q = 23 ∧ j = 5) ∨ (q = 23 ∧ j = 6) ∨ (q = 23 ∧ j = 7) ∨ (q = 23 ∧ j = 8) ∨ (q = 1 ∧ j = 17) ∨ (q = 1 ∧ j = 18) ∨ q = 20 ∨ (q = 39 ∧ j = 6) ∨ (q = 41 ∧ j = 0) ∨ (q = 41 ∧ j = 1) ∨ (q = 41 ∧ j = 2)) ∨ I' q j = I q j) ∧ (∀ q j : Nat, ((q = 23 ∧ j = 9)) ∨ J' q j = J q j) ∧ gc_LT I' ∧ gc_TK I' ∧ (∃ z : Int, r = some (.inl z) ∧ 0 ≤ z ∧ z ≤ 1 ∧ (I' 23 1 = I 23 1) ∧ (I 23 5 ≤ I' 23 5) ∧ (B ≤ 1280 ∧ I' 1 17 + I' 23 1 ≤ B + I' 23 5) ∧ (z = 0 ∨ (0 ≤ I' 41 0 ∧ I' 41 0 ≤ 16777215 ∧ 0 ≤ I' 41 1 ∧ I' 41 1 ≤ 2000 ∧ -1 ≤ I' 41 2 ∧ I' 41 2 ≤ 2000)) ∧ (gs_Or z (0 ≤ (gs_cell β η Ir Jr p9) ∧ gc_AT β η (gs_cell β η Ir Jr p9) 23 I' J' ∧ (I' 1 18 = 0 ∧ I 23 5 < I' 23 5) ∧ gs_PX (I' 41 0) (gs_ws β η Ir Jr 1002 0 p9).2) ((gs_cell β η Ir Jr p9) < 0 ∧ I' 39 4 = -1 - (gs_cell β η Ir Jr p9))))))) (74, [(0, .inr (.inr (some 39))), (1, .inl v1_15), (2, .inl v2_15)], [], sh, gc_h sh I13 J14 A) := by
    intro n9
    induction n9 with
    | zero => intro I13 J14 v1_15 v2_15 p_15 hn; omega
    | succ n9 ih74 =>
      intro I13 J14 v1_15 v2_15 p_15 hn hI13 FI13 FJ14 KLT_I13 KTK_I13 m_15 e2_15 e3_15 e4_15
      obtain ⟨hv1_15, hv2_15, e0_15, e1_15, e5_15, e6_15, e7_15, e8_15, e9_15, e10_15⟩ := m_15
      have t16 := gc_TK_mo KTK_I13
      have f17 := (show 0 ≤ I13 23 1 ∧ I13 23 1 ≤ 1000 from gc_in hI13 R_23 rfl rfl)
      have f18 := (show 0 ≤ I13 23 5 ∧ I13 23 5 ≤ 1000 from gc_in hI13 R_23 rfl rfl)
      have f19 := (show 0 ≤ I13 23 6 ∧ I13 23 6 ≤ 1001 from gc_in hI13 R_23 rfl rfl)
      have f20 := (show 0 ≤ I13 23 7 ∧ I13 23 7 ≤ 125 from gc_in hI13 R_23 rfl rfl)
      have f21 := (show 0 ≤ I13 1 17 ∧ I13 1 17 ≤ 12000 from gc_in hI13 R_1 rfl rfl)
      have f22 := (show (-2147483648) ≤ I13 41 0 ∧ I13 41 0 ≤ 2147483647 from gc_in hI13 R_41 rfl rfl)
      have f23 := (show (-2147483648) ≤ I13 41 1 ∧ I13 41 1 ≤ 2147483647 from gc_in hI13 R_41 rfl rfl)
      have f24 := (show (-2147483648) ≤ I13 41 2 ∧ I13 41 2 ≤ 2147483647 from gc_in hI13 R_41 rfl rfl)
      have f25 := (show 0 ≤ I13 1 18 ∧ I13 1 18 ≤ 1 from gc_in hI13 R_1 rfl rfl)
      have f26 := (show 0 ≤ I13 39 6 ∧ I13 39 6 ≤ 16777215 from gc_in hI13 R_39 rfl rfl)
      have f27 := (show (-1) ≤ I13 39 2 ∧ I13 39 2 ≤ 999999 from gc_in hI13 R_39 rfl rfl)
      have t28 := gc_AT_l e2_15
      have L129 : ((0 ≤ I13 41 0 ∧ I13 41 0 ≤ 16777215 ∧ 0 ≤ I13 41 1 ∧ I13 41 1 ≤ 2000 ∧ -1 ≤ I13 41 2 ∧ I13 41 2 ≤ 2000 ∧ I13 41 1 ≤ I13 1 17) ∧ (0 ≤ p_15) ∧ (I13 1 18 = 0 ∧ I 23 5 < I13 23 5) ∧ (I13 23 1 = I 23 1) ∧ (I 23 5 ≤ I13 23 5) ∧ (B ≤ 1280 ∧ I13 1 17 + I13 23 1 ≤ B + I13 23 5) ∧ (I13 39 2 = (t : Int))) → (gc_AT β η p_15 23 I13 J14) → ((gs_cell β η Ir Jr p9) = p_15) → (gs_PX (I13 41 0) (gs_ws β η Ir Jr 1002 0 p9).2) → gv_X (gc_E6 ws0 tb 3 (yX6_readCell, cX6_readCell, 3, (some .boolean)) kX6_readCell) (gv_Q cX6_readCell (some .boolean) sh (fun r h' => (∃ (I' : gr_I) (J' : gr_J), h' = gc_h sh I' J' A ∧ gc_Inv ro I' ∧ (∀ q j : Nat, ((q = 39 ∧ j = 3) ∨ (q = 39 ∧ j = 4) ∨ (q = 23 ∧ j = 5) ∨ (q = 23 ∧ j = 6) ∨ (q = 23 ∧ j = 7) ∨ (q = 23 ∧ j = 8) ∨ (q = 1 ∧ j = 17) ∨ (q = 1 ∧ j = 18) ∨ q = 20 ∨ (q = 39 ∧ j = 6) ∨ (q = 41 ∧ j = 0) ∨ (q = 41 ∧ j = 1) ∨ (q = 41 ∧ j = 2)) ∨ I' q j = I q j) ∧ (∀ q j : Nat, ((q = 23 ∧ j = 9)) ∨ J' q j = J q j) ∧ gc_LT I' ∧ gc_TK I' ∧ (∃ z : Int, r = some (.inl z) ∧ 0 ≤ z ∧ z ≤ 1 ∧ (I' 23 1 = I 23 1) ∧ (I 23 5 ≤ I' 23 5) ∧ (B ≤ 1280 ∧ I' 1 17 + I' 23 1 ≤ B + I' 23 5) ∧ (z = 0 ∨ (0 ≤ I' 41 0 ∧ I' 41 0 ≤ 16777215 ∧ 0 ≤ I' 41 1 ∧ I' 41 1 ≤ 2000 ∧ -1 ≤ I' 41 2 ∧ I' 41 2 ≤ 2000)) ∧ (gs_Or z (0 ≤ (gs_cell β η Ir Jr p9) ∧ gc_AT β η (gs_cell β η Ir Jr p9) 23 I' J' ∧ (I' 1 18 = 0 ∧ I 23 5 < I' 23 5) ∧ gs_PX (I' 41 0) (gs_ws β η Ir Jr 1002 0 p9).2) ((gs_cell β η Ir Jr p9) < 0 ∧ I' 39 4 = -1 - (gs_cell β η Ir Jr p9))))))) (129, [(0, .inr (.inr (some 39)))], [], sh, gc_h sh I13 J14 A) := by
        intro m_29 e2_29 e3_29 e4_29
        obtain ⟨e0_29, e1_29, e5_29, e6_29, e7_29, e8_29, e9_29⟩ := m_29
        have t30 := gc_TK_mo KTK_I13
        have f31 := (show 0 ≤ I13 23 1 ∧ I13 23 1 ≤ 1000 from gc_in hI13 R_23 rfl rfl)
        have f32 := (show 0 ≤ I13 23 5 ∧ I13 23 5 ≤ 1000 from gc_in hI13 R_23 rfl rfl)
        have f33 := (show 0 ≤ I13 23 6 ∧ I13 23 6 ≤ 1001 from gc_in hI13 R_23 rfl rfl)
        have f34 := (show 0 ≤ I13 23 7 ∧ I13 23 7 ≤ 125 from gc_in hI13 R_23 rfl rfl)
        have f35 := (show 0 ≤ I13 1 17 ∧ I13 1 17 ≤ 12000 from gc_in hI13 R_1 rfl rfl)
        have f36 := (show (-2147483648) ≤ I13 41 0 ∧ I13 41 0 ≤ 2147483647 from gc_in hI13 R_41 rfl rfl)
        have f37 := (show (-2147483648) ≤ I13 41 1 ∧ I13 41 1 ≤ 2147483647 from gc_in hI13 R_41 rfl rfl)
        have f38 := (show (-2147483648) ≤ I13 41 2 ∧ I13 41 2 ≤ 2147483647 from gc_in hI13 R_41 rfl rfl)
        have f39 := (show 0 ≤ I13 1 18 ∧ I13 1 18 ≤ 1 from gc_in hI13 R_1 rfl rfl)
        have f40 := (show 0 ≤ I13 39 6 ∧ I13 39 6 ≤ 16777215 from gc_in hI13 R_39 rfl rfl)
        have f41 := (show (-1) ≤ I13 39 2 ∧ I13 39 2 ≤ 999999 from gc_in hI13 R_39 rfl rfl)
        have t42 := gc_AT_l e2_15
        refine gv_run 1 true hD (pc' := 130) (lv' := [(0, .inr (.inr (some 39)))]) (st' := [.inr (.inr (some 39))]) (h' := gc_h sh I13 J14 A) (C := (True ∧ True)) rfl ⟨trivial, trivial⟩ ?_
        refine gv_get hD rfl rfl S_39 ⟨by decide, B_39⟩ (gc_hA S_39 rfl A_39_10) ?_
        show gv_X _ _ (133, [(0, .inr (.inr (some 39)))], [.inr (.inr (some 41))], sh, gc_h sh I13 J14 A)
        refine gv_run 2 true hD (pc' := 135) (lv' := [(0, .inr (.inr (some 39)))]) (st' := [.inr (.inr (some 39)), .inl 2, .inr (.inr (some 41))]) (h' := gc_h sh I13 J14 A) (C := ((True ∧ True) ∧ True)) rfl ⟨⟨trivial, trivial⟩, trivial⟩ ?_
        refine gv_get hD rfl rfl S_39 ⟨by decide, B_39⟩ (gc_hA S_39 rfl A_39_0) ?_
        show gv_X _ _ (138, [(0, .inr (.inr (some 39)))], [.inr (.inr (some 1)), .inl 2, .inr (.inr (some 41))], sh, gc_h sh I13 J14 A)
        have f43 := (show 0 ≤ I13 1 17 ∧ I13 1 17 ≤ 12000 from gc_in hI13 R_1 rfl rfl)
        refine gv_get hD rfl rfl S_1 ⟨by decide, B_1⟩ (gc_hI S_1 rfl) ?_
        show gv_X _ _ (141, [(0, .inr (.inr (some 39)))], [.inl (I13 1 17), .inl 2, .inr (.inr (some 41))], sh, gc_h sh I13 J14 A)
        refine gv_run 1 true hD (pc' := 142) (lv' := [(0, .inr (.inr (some 39)))]) (st' := [.inr (.inr (some 39)), .inl (I13 1 17), .inl 2, .inr (.inr (some 41))]) (h' := gc_h sh I13 J14 A) (C := (True ∧ True)) rfl ⟨trivial, trivial⟩ ?_
        refine gv_get hD rfl rfl S_39 ⟨by decide, B_39⟩ (gc_hA S_39 rfl A_39_10) ?_
        show gv_X _ _ (145, [(0, .inr (.inr (some 39)))], [.inr (.inr (some 41)), .inl (I13 1 17), .inl 2, .inr (.inr (some 41))], sh, gc_h sh I13 J14 A)
        refine gv_run 1 true hD (pc' := 146) (lv' := [(0, .inr (.inr (some 39)))]) (st' := [.inl 1, .inr (.inr (some 41)), .inl (I13 1 17), .inl 2, .inr (.inr (some 41))]) (h' := gc_h sh I13 J14 A) (C := (True ∧ True)) rfl ⟨trivial, trivial⟩ ?_
        have f44 := (show (-2147483648) ≤ I13 41 1 ∧ I13 41 1 ≤ 2147483647 from gc_in hI13 R_41 rfl rfl)
        refine gv_iald hD rfl S_41 rfl ⟨by decide, B_41⟩ ⟨by omega, by omega⟩ (gc_iI S_41 rfl) ?_
        show gv_X _ _ (147, [(0, .inr (.inr (some 39)))], [.inl (I13 41 1), .inl (I13 1 17), .inl 2, .inr (.inr (some 41))], sh, gc_h sh I13 J14 A)
        refine gv_run 1 true hD (pc' := 148) (lv' := [(0, .inr (.inr (some 39)))]) (st' := [.inl ((I13 1 17) - (I13 41 1)), .inl 2, .inr (.inr (some 41))]) (h' := gc_h sh I13 J14 A) (C := (True ∧ True)) rfl ⟨trivial, trivial⟩ ?_
        refine gv_iast hD rfl S_41 ⟨by decide, B_41⟩ ⟨by omega, by omega⟩ ?_
        refine gc_st (k := 2) hI13 S_41 rfl R_41 (lo := (-2147483648)) (hi := 2147483647) rfl rfl (by omega) (by omega) (fun I45 hI45 q46 p46 => ?_)
        have FI45 := gc_frs (W := fun q j => (q = 39 ∧ j = 3) ∨ (q = 39 ∧ j = 4) ∨ (q = 23 ∧ j = 5) ∨ (q = 23 ∧ j = 6) ∨ (q = 23 ∧ j = 7) ∨ (q = 23 ∧ j = 8) ∨ (q = 1 ∧ j = 17) ∨ (q = 1 ∧ j = 18) ∨ q = 20 ∨ (q = 39 ∧ j = 6) ∨ (q = 41 ∧ j = 0) ∨ (q = 41 ∧ j = 1) ∨ (q = 41 ∧ j = 2)) FI13 (Or.inr (Or.inr (Or.inr (Or.inr (Or.inr (Or.inr (Or.inr (Or.inr (Or.inr (Or.inr (Or.inr (Or.inr ⟨rfl, rfl⟩)))))))))))) p46
        have t47 := p46 23 1 (fun h => absurd h.2 (by decide))
        have t48 := p46 23 5 (fun h => absurd h.2 (by decide))
        have t49 := p46 23 6 (fun h => absurd h.2 (by decide))
        have t50 := p46 23 7 (fun h => absurd h.2 (by decide))
        have t51 := p46 1 17 (fun h => absurd h.2 (by decide))
        have t52 := p46 41 0 (fun h => absurd h.2 (by decide))
        have t53 := p46 41 1 (fun h => absurd h.2 (by decide))
        have t54 := p46 1 18 (fun h => absurd h.2 (by decide))
        have t55 := p46 39 6 (fun h => absurd h.2 (by decide))
        have t56 := p46 39 2 (fun h => absurd h.1 (by decide))
        have f57 := (show (-2147483648) ≤ I45 41 2 ∧ I45 41 2 ≤ 2147483647 from gc_in hI45 R_41 rfl rfl)
        have KLT_I45 := gc_LT_fr KLT_I13 (p46 23 5 (fun h => absurd h.2 (by decide))) (p46 23 6 (fun h => absurd h.2 (by decide))) (p46 23 7 (fun h => absurd h.2 (by decide))) (fun k => p46 24 k (fun h => absurd h.1 (by decide)))
        have KTK_I45 := gc_TK_fr KTK_I13 (p46 23 1 (fun h => absurd h.2 (by decide))) (p46 23 5 (fun h => absurd h.2 (by decide))) (p46 23 6 (fun h => absurd h.2 (by decide))) (p46 23 7 (fun h => absurd h.2 (by decide)))
        have A58 := gc_AT_I e2_15 (p46 23 1 (fun h => absurd h.2 (by decide))) (p46 23 5 (fun h => absurd h.2 (by decide))) (p46 23 6 (fun h => absurd h.2 (by decide))) (p46 23 7 (fun h => absurd h.2 (by decide))) (p46 23 8 (fun h => absurd h.2 (by decide))) (fun k => p46 24 k (fun h => absurd h.1 (by decide)))
        show gv_X _ _ (149, [(0, .inr (.inr (some 39)))], [], sh, gc_h sh I45 J14 A)
        refine gv_run 1 true hD (pc' := 150) (lv' := [(0, .inr (.inr (some 39)))]) (st' := [.inl 1]) (h' := gc_h sh I45 J14 A) (C := (True ∧ True)) rfl ⟨trivial, trivial⟩ ?_
        exact gv_zret hD rfl (by omega) ⟨I45, J14, rfl, hI45, FI45, FJ14, KLT_I45, KTK_I45, ⟨_, rfl, by omega, by omega, by omega, by omega, by omega, by omega, (Or.inl ⟨by omega, by rw [e3_29]; exact ⟨by omega, A58, ⟨by omega, by omega⟩, (by rw [show I45 41 0 = I13 41 0 from by omega]; exact e4_29)⟩⟩)⟩⟩
      refine gv_run 2 true hD (pc' := 78) (lv' := [(0, .inr (.inr (some 39))), (1, .inl v1_15), (2, .inl v2_15)]) (st' := [.inl 1000, .inl v2_15]) (h' := gc_h sh I13 J14 A) (C := ((True ∧ True) ∧ True)) rfl ⟨⟨trivial, trivial⟩, trivial⟩ ?_
      refine gv_icmp_ge (t := 129) hD rfl rfl ⟨⟨by omega, by omega⟩, ⟨by omega, by omega⟩⟩ (fun c59 => ?_) (fun c59 => ?_)
      · show gv_X _ _ (129, [(0, .inr (.inr (some 39))), (1, .inl v1_15), (2, .inl v2_15)], [], sh, gc_h sh I13 J14 A)
        refine gv_pick [0] rfl ?_
        exact L129 (by omega) e2_15 (e3_15.trans (if_pos (by omega))) (by rw [show I13 41 0 = I13 41 0 from by omega]; exact e4_15)
      · show gv_X _ _ (81, [(0, .inr (.inr (some 39))), (1, .inl v1_15), (2, .inl v2_15)], [], sh, gc_h sh I13 J14 A)
        refine gv_run 1 true hD (pc' := 82) (lv' := [(0, .inr (.inr (some 39))), (1, .inl v1_15), (2, .inl v2_15)]) (st' := [.inl v1_15]) (h' := gc_h sh I13 J14 A) (C := (True ∧ True)) rfl ⟨trivial, trivial⟩ ?_
        refine gv_if_eq (t := 129) hD rfl rfl ⟨by omega, by omega⟩ (fun c60 => ?_) (fun c60 => ?_)
        · show gv_X _ _ (129, [(0, .inr (.inr (some 39))), (1, .inl v1_15), (2, .inl v2_15)], [], sh, gc_h sh I13 J14 A)
          refine gv_pick [0] rfl ?_
          exact L129 (by omega) e2_15 (e3_15.trans (if_pos (by omega))) (by rw [show I13 41 0 = I13 41 0 from by omega]; exact e4_15)
        · show gv_X _ _ (85, [(0, .inr (.inr (some 39))), (1, .inl v1_15), (2, .inl v2_15)], [], sh, gc_h sh I13 J14 A)
          refine gv_run 1 true hD (pc' := 86) (lv' := [(0, .inr (.inr (some 39))), (1, .inl v1_15), (2, .inl v2_15)]) (st' := [.inr (.inr (some 39))]) (h' := gc_h sh I13 J14 A) (C := (True ∧ True)) rfl ⟨trivial, trivial⟩ ?_
          obtain ⟨r61, h61, E61, P61⟩ := d_X6_readPart_p (ws0 := ws0) (tb := tb) hws htb sh ro I13 J14 A hI13  B β η p_15  hb    (by omega) e2_15 (by omega) (by omega) KLT_I13 KTK_I13
          obtain ⟨I62, J63, rfl, hI62, g61, k61, KLT_I62, KTK_I62, ⟨z61, rfl, q61⟩⟩ := P61
          have FI62 := gc_frc (W := fun q j => (q = 39 ∧ j = 3) ∨ (q = 39 ∧ j = 4) ∨ (q = 23 ∧ j = 5) ∨ (q = 23 ∧ j = 6) ∨ (q = 23 ∧ j = 7) ∨ (q = 23 ∧ j = 8) ∨ (q = 1 ∧ j = 17) ∨ (q = 1 ∧ j = 18) ∨ q = 20 ∨ (q = 39 ∧ j = 6) ∨ (q = 41 ∧ j = 0) ∨ (q = 41 ∧ j = 1) ∨ (q = 41 ∧ j = 2)) (V := fun q j => (q = 39 ∧ j = 3) ∨ (q = 39 ∧ j = 4) ∨ (q = 23 ∧ j = 5) ∨ (q = 23 ∧ j = 6) ∨ (q = 23 ∧ j = 7) ∨ (q = 23 ∧ j = 8) ∨ (q = 1 ∧ j = 17) ∨ (q = 1 ∧ j = 18) ∨ q = 20) FI13 (fun q j h => (h.elim (fun h => (Or.inl h)) (fun h => (h.elim (fun h => (Or.inr (Or.inl h))) (fun h => (h.elim (fun h => (Or.inr (Or.inr (Or.inl h)))) (fun h => (h.elim (fun h => (Or.inr (Or.inr (Or.inr (Or.inl h))))) (fun h => (h.elim (fun h => (Or.inr (Or.inr (Or.inr (Or.inr (Or.inl h)))))) (fun h => (h.elim (fun h => (Or.inr (Or.inr (Or.inr (Or.inr (Or.inr (Or.inl h))))))) (fun h => (h.elim (fun h => (Or.inr (Or.inr (Or.inr (Or.inr (Or.inr (Or.inr (Or.inl h)))))))) (fun h => (h.elim (fun h => (Or.inr (Or.inr (Or.inr (Or.inr (Or.inr (Or.inr (Or.inr (Or.inl h))))))))) (fun h => (Or.inr (Or.inr (Or.inr (Or.inr (Or.inr (Or.inr (Or.inr (Or.inr (Or.inl h)))))))))))))))))))))))))) g61
          have FJ63 := gc_frc (W := fun q j => (q = 23 ∧ j = 9)) (V := fun q j => (q = 23 ∧ j = 9)) FJ14 (fun q j h => h) k61
          have t64 := (g61 23 1).resolve_left (fun h => h.elim (fun h => absurd h.2 (by decide)) (fun h => h.elim (fun h => absurd h.2 (by decide)) (fun h => h.elim (fun h => absurd h.2 (by decide)) (fun h => h.elim (fun h => absurd h.2 (by decide)) (fun h => h.elim (fun h => absurd h.2 (by decide)) (fun h => h.elim (fun h => absurd h.2 (by decide)) (fun h => h.elim (fun h => absurd h.2 (by decide)) (fun h => h.elim (fun h => absurd h.2 (by decide)) (fun h => absurd h (by decide))))))))))
          have t65 := (g61 41 0).resolve_left (fun h => h.elim (fun h => absurd h.2 (by decide)) (fun h => h.elim (fun h => absurd h.2 (by decide)) (fun h => h.elim (fun h => absurd h.2 (by decide)) (fun h => h.elim (fun h => absurd h.2 (by decide)) (fun h => h.elim (fun h => absurd h.2 (by decide)) (fun h => h.elim (fun h => absurd h.2 (by decide)) (fun h => h.elim (fun h => absurd h.2 (by decide)) (fun h => h.elim (fun h => absurd h.2 (by decide)) (fun h => absurd h (by decide))))))))))
          have t66 := (g61 41 1).resolve_left (fun h => h.elim (fun h => absurd h.2 (by decide)) (fun h => h.elim (fun h => absurd h.2 (by decide)) (fun h => h.elim (fun h => absurd h.2 (by decide)) (fun h => h.elim (fun h => absurd h.2 (by decide)) (fun h => h.elim (fun h => absurd h.2 (by decide)) (fun h => h.elim (fun h => absurd h.2 (by decide)) (fun h => h.elim (fun h => absurd h.2 (by decide)) (fun h => h.elim (fun h => absurd h.2 (by decide)) (fun h => absurd h (by decide))))))))))
          have t67 := (g61 41 2).resolve_left (fun h => h.elim (fun h => absurd h.2 (by decide)) (fun h => h.elim (fun h => absurd h.2 (by decide)) (fun h => h.elim (fun h => absurd h.2 (by decide)) (fun h => h.elim (fun h => absurd h.2 (by decide)) (fun h => h.elim (fun h => absurd h.2 (by decide)) (fun h => h.elim (fun h => absurd h.2 (by decide)) (fun h => h.elim (fun h => absurd h.2 (by decide)) (fun h => h.elim (fun h => absurd h.2 (by decide)) (fun h => absurd h (by decide))))))))))
          have t68 := (g61 39 6).resolve_left (fun h => h.elim (fun h => absurd h.2 (by decide)) (fun h => h.elim (fun h => absurd h.2 (by decide)) (fun h => h.elim (fun h => absurd h.2 (by decide)) (fun h => h.elim (fun h => absurd h.1 (by decide)) (fun h => h.elim (fun h => absurd h.2 (by decide)) (fun h => h.elim (fun h => absurd h.2 (by decide)) (fun h => h.elim (fun h => absurd h.2 (by decide)) (fun h => h.elim (fun h => absurd h.2 (by decide)) (fun h => absurd h (by decide))))))))))
          have t69 := (g61 39 2).resolve_left (fun h => h.elim (fun h => absurd h.2 (by decide)) (fun h => h.elim (fun h => absurd h.2 (by decide)) (fun h => h.elim (fun h => absurd h.2 (by decide)) (fun h => h.elim (fun h => absurd h.2 (by decide)) (fun h => h.elim (fun h => absurd h.2 (by decide)) (fun h => h.elim (fun h => absurd h.2 (by decide)) (fun h => h.elim (fun h => absurd h.2 (by decide)) (fun h => h.elim (fun h => absurd h.2 (by decide)) (fun h => absurd h (by decide))))))))))
          have f70 := (show 0 ≤ I62 23 5 ∧ I62 23 5 ≤ 1000 from gc_in hI62 R_23 rfl rfl)
          have f71 := (show 0 ≤ I62 23 6 ∧ I62 23 6 ≤ 1001 from gc_in hI62 R_23 rfl rfl)
          have f72 := (show 0 ≤ I62 23 7 ∧ I62 23 7 ≤ 125 from gc_in hI62 R_23 rfl rfl)
          have f73 := (show 0 ≤ I62 1 17 ∧ I62 1 17 ≤ 12000 from gc_in hI62 R_1 rfl rfl)
          have f74 := (show 0 ≤ I62 1 18 ∧ I62 1 18 ≤ 1 from gc_in hI62 R_1 rfl rfl)
          have t75 := gc_TK_mo KTK_I62
          refine gv_callV hD rfl (As := []) (st := []) rfl B_39 S_39 rfl (gc_lV6 hws rfl) (Nat.le_of_ble_eq_true rfl) (gz_Ev_mono (d := 3) (by decide) E61) ?_
          show gv_X _ _ (89, [(0, .inr (.inr (some 39))), (1, .inl v1_15), (2, .inl v2_15)], [.inl z61], sh, gc_h sh I62 J63 A)
          refine gv_if_ne (t := 94) hD rfl rfl ⟨by omega, by omega⟩ (fun c76 => ?_) (fun c76 => ?_)
          · show gv_X _ _ (94, [(0, .inr (.inr (some 39))), (1, .inl v1_15), (2, .inl v2_15)], [], sh, gc_h sh I62 J63 A)
            obtain ⟨u77, A77, U77⟩ := gs_or1 q61.2.2.2.2.2.2 (by omega)
            have t78 := gc_AT_l A77
            refine gv_run 1 true hD (pc' := 95) (lv' := [(0, .inr (.inr (some 39))), (1, .inl v1_15), (2, .inl v2_15)]) (st' := [.inr (.inr (some 39))]) (h' := gc_h sh I62 J63 A) (C := (True ∧ True)) rfl ⟨trivial, trivial⟩ ?_
            refine gv_get hD rfl rfl S_39 ⟨by decide, B_39⟩ (gc_hA S_39 rfl A_39_1) ?_
            show gv_X _ _ (98, [(0, .inr (.inr (some 39))), (1, .inl v1_15), (2, .inl v2_15)], [.inr (.inr (some 23))], sh, gc_h sh I62 J63 A)
            have f79 := (show 0 ≤ I62 23 7 ∧ I62 23 7 ≤ 125 from gc_in hI62 R_23 rfl rfl)
            refine gv_get hD rfl rfl S_23 ⟨by decide, B_23⟩ (gc_hI S_23 rfl) ?_
            show gv_X _ _ (101, [(0, .inr (.inr (some 39))), (1, .inl v1_15), (2, .inl v2_15)], [.inl (I62 23 7)], sh, gc_h sh I62 J63 A)
            refine gv_run 1 true hD (pc' := 103) (lv' := [(0, .inr (.inr (some 39))), (1, .inl v1_15), (2, .inl v2_15)]) (st' := [.inl 43, .inl (I62 23 7)]) (h' := gc_h sh I62 J63 A) (C := (True ∧ True)) rfl ⟨trivial, trivial⟩ ?_
            refine gv_icmp_ne (t := 110) hD rfl rfl ⟨⟨by omega, by omega⟩, ⟨by omega, by omega⟩⟩ (fun c80 => ?_) (fun c80 => ?_)
            · show gv_X _ _ (110, [(0, .inr (.inr (some 39))), (1, .inl v1_15), (2, .inl v2_15)], [], sh, gc_h sh I62 J63 A)
              refine gv_run 3 true hD (pc' := 113) (lv' := [(1, .inl 0), (0, .inr (.inr (some 39))), (2, .inl v2_15)]) (st' := [.inl 0]) (h' := gc_h sh I62 J63 A) (C := (((True ∧ True) ∧ True) ∧ True)) rfl ⟨⟨⟨trivial, trivial⟩, trivial⟩, trivial⟩ ?_
              refine gv_if_eq (t := 123) hD rfl rfl ⟨by omega, by omega⟩ (fun c81 => ?_) (fun c81 => ?_)
              · show gv_X _ _ (123, [(1, .inl 0), (0, .inr (.inr (some 39))), (2, .inl v2_15)], [], sh, gc_h sh I62 J63 A)
                refine gv_run 2 true hD (pc' := 74) (lv' := [(2, .inl (v2_15 + 1)), (1, .inl 0), (0, .inr (.inr (some 39)))]) (st' := []) (h' := gc_h sh I62 J63 A) (C := ((True ∧ True) ∧ True)) rfl ⟨⟨trivial, trivial⟩, trivial⟩ ?_
                refine gv_pick [2, 1, 0] rfl ?_
                exact ih74 I62 J63 0 (v2_15 + 1) (gs_part β η p_15) (by omega) hI62 FI62 FJ63 KLT_I62 KTK_I62 (by omega) A77 (e3_15.trans (by rw [if_neg (by omega), show Int.toNat (1002 - v2_15) = Int.toNat (1002 - (v2_15 + 1)) + 1 from by omega, gs_fm_c (by omega) (by omega), if_neg (by omega), if_pos (by decide)])) (by rw [show I62 41 0 = I13 41 0 from by omega]; exact e4_15)
              · exfalso; omega
            · show gv_X _ _ (106, [(0, .inr (.inr (some 39))), (1, .inl v1_15), (2, .inl v2_15)], [], sh, gc_h sh I62 J63 A)
              refine gv_run 4 true hD (pc' := 113) (lv' := [(1, .inl 1), (0, .inr (.inr (some 39))), (2, .inl v2_15)]) (st' := [.inl 1]) (h' := gc_h sh I62 J63 A) (C := ((((True ∧ True) ∧ True) ∧ True) ∧ True)) rfl ⟨⟨⟨⟨trivial, trivial⟩, trivial⟩, trivial⟩, trivial⟩ ?_
              refine gv_if_eq (t := 123) hD rfl rfl ⟨by omega, by omega⟩ (fun c82 => ?_) (fun c82 => ?_)
              · exfalso; omega
              · show gv_X _ _ (116, [(1, .inl 1), (0, .inr (.inr (some 39))), (2, .inl v2_15)], [], sh, gc_h sh I62 J63 A)
                have t83 := gc_TK_st KTK_I62 (by omega)
                refine gv_run 1 true hD (pc' := 117) (lv' := [(1, .inl 1), (0, .inr (.inr (some 39))), (2, .inl v2_15)]) (st' := [.inr (.inr (some 39))]) (h' := gc_h sh I62 J63 A) (C := (True ∧ True)) rfl ⟨trivial, trivial⟩ ?_
                refine gv_get hD rfl rfl S_39 ⟨by decide, B_39⟩ (gc_hA S_39 rfl A_39_1) ?_
                show gv_X _ _ (120, [(1, .inl 1), (0, .inr (.inr (some 39))), (2, .inl v2_15)], [.inr (.inr (some 23))], sh, gc_h sh I62 J63 A)
                have t85 := gc_TK_nx KTK_I62 (by omega)
                have t86 := gc_TK_st KTK_I62 (by omega)
                obtain ⟨r84, h84, E84, P84⟩ := d_X9_advance_p (ws0 := ws0) (tb := tb) hws htb sh ro I62 J63 A hI62 23 β η  (gc_b23 hb)    (by omega) A77.1.1 A77.1.2 
                obtain ⟨I87, J88, rfl, hI87, g84, k84, ⟨rfl, V84_0, V84_1, V84_2, V84_3, V84_4, q84⟩⟩ := P84
                have FI87 := gc_frc (W := fun q j => (q = 39 ∧ j = 3) ∨ (q = 39 ∧ j = 4) ∨ (q = 23 ∧ j = 5) ∨ (q = 23 ∧ j = 6) ∨ (q = 23 ∧ j = 7) ∨ (q = 23 ∧ j = 8) ∨ (q = 1 ∧ j = 17) ∨ (q = 1 ∧ j = 18) ∨ q = 20 ∨ (q = 39 ∧ j = 6) ∨ (q = 41 ∧ j = 0) ∨ (q = 41 ∧ j = 1) ∨ (q = 41 ∧ j = 2)) (V := fun q j => (q = 23 ∧ j = 5) ∨ (q = 23 ∧ j = 6) ∨ (q = 23 ∧ j = 7) ∨ (q = 23 ∧ j = 8)) FI62 (fun q j h => (h.elim (fun h => (Or.inr (Or.inr (Or.inl h)))) (fun h => (h.elim (fun h => (Or.inr (Or.inr (Or.inr (Or.inl h))))) (fun h => (h.elim (fun h => (Or.inr (Or.inr (Or.inr (Or.inr (Or.inl h)))))) (fun h => (Or.inr (Or.inr (Or.inr (Or.inr (Or.inr (Or.inl h))))))))))))) g84
                have FJ88 := gc_frc (W := fun q j => (q = 23 ∧ j = 9)) (V := fun q j => (q = 23 ∧ j = 9)) FJ63 (fun q j h => h) k84
                have t89 := (g84 23 1).resolve_left (fun h => h.elim (fun h => absurd h.2 (by decide)) (fun h => h.elim (fun h => absurd h.2 (by decide)) (fun h => h.elim (fun h => absurd h.2 (by decide)) (fun h => absurd h.2 (by decide)))))
                have t90 := (g84 1 17).resolve_left (fun h => h.elim (fun h => absurd h.2 (by decide)) (fun h => h.elim (fun h => absurd h.2 (by decide)) (fun h => h.elim (fun h => absurd h.2 (by decide)) (fun h => absurd h.2 (by decide)))))
                have t91 := (g84 41 0).resolve_left (fun h => h.elim (fun h => absurd h.2 (by decide)) (fun h => h.elim (fun h => absurd h.2 (by decide)) (fun h => h.elim (fun h => absurd h.2 (by decide)) (fun h => absurd h.2 (by decide)))))
                have t92 := (g84 41 1).resolve_left (fun h => h.elim (fun h => absurd h.2 (by decide)) (fun h => h.elim (fun h => absurd h.2 (by decide)) (fun h => h.elim (fun h => absurd h.2 (by decide)) (fun h => absurd h.2 (by decide)))))
                have t93 := (g84 41 2).resolve_left (fun h => h.elim (fun h => absurd h.2 (by decide)) (fun h => h.elim (fun h => absurd h.2 (by decide)) (fun h => h.elim (fun h => absurd h.2 (by decide)) (fun h => absurd h.2 (by decide)))))
                have t94 := (g84 1 18).resolve_left (fun h => h.elim (fun h => absurd h.2 (by decide)) (fun h => h.elim (fun h => absurd h.2 (by decide)) (fun h => h.elim (fun h => absurd h.2 (by decide)) (fun h => absurd h.2 (by decide)))))
                have t95 := (g84 39 6).resolve_left (fun h => h.elim (fun h => absurd h.2 (by decide)) (fun h => h.elim (fun h => absurd h.1 (by decide)) (fun h => h.elim (fun h => absurd h.2 (by decide)) (fun h => absurd h.2 (by decide)))))
                have t96 := (g84 39 2).resolve_left (fun h => h.elim (fun h => absurd h.2 (by decide)) (fun h => h.elim (fun h => absurd h.2 (by decide)) (fun h => h.elim (fun h => absurd h.2 (by decide)) (fun h => absurd h.2 (by decide)))))
                have f97 := (show 0 ≤ I87 23 5 ∧ I87 23 5 ≤ 1000 from gc_in hI87 R_23 rfl rfl)
                have f98 := (show 0 ≤ I87 23 6 ∧ I87 23 6 ≤ 1001 from gc_in hI87 R_23 rfl rfl)
                have f99 := (show 0 ≤ I87 23 7 ∧ I87 23 7 ≤ 125 from gc_in hI87 R_23 rfl rfl)
                have KLT_I87 : gc_LT I87 := q84.2.2.1
                have KTK_I87 : gc_TK I87 := And.intro V84_0 (And.intro V84_1 (And.intro V84_2 (And.intro V84_3 V84_4)))
                have t100 := gc_TK_mo KTK_I87
                clear V84_0 V84_1 V84_2 V84_3 V84_4
                have A101 := gc_AT_nx A77 q84.2.2.2
                have t102 := gc_AT_l A101
                refine gv_callV hD rfl (As := []) (st := []) rfl B_23 S_23 rfl (gc_lV6 hws rfl) (Nat.le_of_ble_eq_true rfl) (gz_Ev_mono (d := 2) (by decide) E84) ?_
                show gv_X _ _ (123, [(1, .inl 1), (0, .inr (.inr (some 39))), (2, .inl v2_15)], [], sh, gc_h sh I87 J88 A)
                refine gv_run 2 true hD (pc' := 74) (lv' := [(2, .inl (v2_15 + 1)), (1, .inl 1), (0, .inr (.inr (some 39)))]) (st' := []) (h' := gc_h sh I87 J88 A) (C := ((True ∧ True) ∧ True)) rfl ⟨⟨trivial, trivial⟩, trivial⟩ ?_
                refine gv_pick [2, 1, 0] rfl ?_
                exact ih74 I87 J88 1 (v2_15 + 1) ((gs_X β η (gs_part β η p_15))) (by omega) hI87 FI87 FJ88 KLT_I87 KTK_I87 (by omega) A101 (e3_15.trans (by rw [if_neg (by omega), show Int.toNat (1002 - v2_15) = Int.toNat (1002 - (v2_15 + 1)) + 1 from by omega, gs_fm_c (by omega) (by omega), if_pos (by omega), if_neg (by decide)])) (by rw [show I87 41 0 = I13 41 0 from by omega]; exact e4_15)
          · show gv_X _ _ (92, [(0, .inr (.inr (some 39))), (1, .inl v1_15), (2, .inl v2_15)], [], sh, gc_h sh I62 J63 A)
            obtain ⟨u103, u103_⟩ := gs_or0 q61.2.2.2.2.2.2 (by omega)
            refine gv_run 1 true hD (pc' := 93) (lv' := [(0, .inr (.inr (some 39))), (1, .inl v1_15), (2, .inl v2_15)]) (st' := [.inl 0]) (h' := gc_h sh I62 J63 A) (C := (True ∧ True)) rfl ⟨trivial, trivial⟩ ?_
            exact gv_zret hD rfl (by omega) ⟨I62, J63, rfl, hI62, FI62, FJ63, KLT_I62, KTK_I62, ⟨_, rfl, by omega, by omega, by omega, by omega, by omega, by omega, (Or.inr ⟨by omega, by first | (exfalso; omega) | (rw [e3_15, if_neg (by omega), show Int.toNat (1002 - v2_15) = Int.toNat (1002 - (v2_15 + 1)) + 1 from by omega, gs_fm_d (by omega) (by omega)]; exact ⟨by omega, by omega⟩)⟩)⟩⟩
  refine gv_run 2 true hD (pc' := 2) (lv' := [(0, .inr (.inr (some 39)))]) (st' := [.inl 0, .inr (.inr (some 39))]) (h' := gc_h sh I J A) (C := ((True ∧ True) ∧ True)) rfl ⟨⟨trivial, trivial⟩, trivial⟩ ?_
  obtain ⟨r104, h104, E104, P104⟩ := d_X6_readValues_p (ws0 := ws0) (tb := tb) hws htb sh ro I J A hI  t β η p9 Ir Jr 0 hb  h_t G_t  ⟨by omega, by omega⟩ x1 (by omega) (by have h9 := x4; have h8 := (show I (t + 3) 1 = I (t + 3) 1 from rfl); omega) (by rw [show I (t + 3) 1 = I (t + 3) 1 from rfl, show J (t + 4) = J (t + 4) from funext fun j => rfl]; exact x5) (gs_VR_fr x6 rfl (fun k => rfl) (fun k => rfl)) (by omega) KLT_I KTK_I
  obtain ⟨I105, J106, rfl, hI105, g104, k104, KLT_I105, KTK_I105, ⟨z104, rfl, q104⟩⟩ := P104
  have FI105 := gc_frc (W := fun q j => (q = 39 ∧ j = 3) ∨ (q = 39 ∧ j = 4) ∨ (q = 23 ∧ j = 5) ∨ (q = 23 ∧ j = 6) ∨ (q = 23 ∧ j = 7) ∨ (q = 23 ∧ j = 8) ∨ (q = 1 ∧ j = 17) ∨ (q = 1 ∧ j = 18) ∨ q = 20 ∨ (q = 39 ∧ j = 6) ∨ (q = 41 ∧ j = 0) ∨ (q = 41 ∧ j = 1) ∨ (q = 41 ∧ j = 2)) (V := fun q j => (q = 39 ∧ j = 3) ∨ (q = 39 ∧ j = 4) ∨ (q = 23 ∧ j = 5) ∨ (q = 23 ∧ j = 6) ∨ (q = 23 ∧ j = 7) ∨ (q = 23 ∧ j = 8) ∨ (q = 39 ∧ j = 6)) FI (fun q j h => (h.elim (fun h => (Or.inl h)) (fun h => (h.elim (fun h => (Or.inr (Or.inl h))) (fun h => (h.elim (fun h => (Or.inr (Or.inr (Or.inl h)))) (fun h => (h.elim (fun h => (Or.inr (Or.inr (Or.inr (Or.inl h))))) (fun h => (h.elim (fun h => (Or.inr (Or.inr (Or.inr (Or.inr (Or.inl h)))))) (fun h => (h.elim (fun h => (Or.inr (Or.inr (Or.inr (Or.inr (Or.inr (Or.inl h))))))) (fun h => (Or.inr (Or.inr (Or.inr (Or.inr (Or.inr (Or.inr (Or.inr (Or.inr (Or.inr (Or.inl h))))))))))))))))))))))) g104
  have FJ106 := gc_frc (W := fun q j => (q = 23 ∧ j = 9)) (V := fun q j => (q = 23 ∧ j = 9)) FJ (fun q j h => h) k104
  have t107 := (g104 23 1).resolve_left (fun h => h.elim (fun h => absurd h.2 (by decide)) (fun h => h.elim (fun h => absurd h.2 (by decide)) (fun h => h.elim (fun h => absurd h.2 (by decide)) (fun h => h.elim (fun h => absurd h.2 (by decide)) (fun h => h.elim (fun h => absurd h.2 (by decide)) (fun h => h.elim (fun h => absurd h.2 (by decide)) (fun h => absurd h.2 (by decide))))))))
  have t108 := (g104 1 17).resolve_left (fun h => h.elim (fun h => absurd h.2 (by decide)) (fun h => h.elim (fun h => absurd h.2 (by decide)) (fun h => h.elim (fun h => absurd h.2 (by decide)) (fun h => h.elim (fun h => absurd h.2 (by decide)) (fun h => h.elim (fun h => absurd h.2 (by decide)) (fun h => h.elim (fun h => absurd h.2 (by decide)) (fun h => absurd h.2 (by decide))))))))
  have t109 := (g104 41 0).resolve_left (fun h => h.elim (fun h => absurd h.2 (by decide)) (fun h => h.elim (fun h => absurd h.2 (by decide)) (fun h => h.elim (fun h => absurd h.2 (by decide)) (fun h => h.elim (fun h => absurd h.2 (by decide)) (fun h => h.elim (fun h => absurd h.2 (by decide)) (fun h => h.elim (fun h => absurd h.2 (by decide)) (fun h => absurd h.2 (by decide))))))))
  have t110 := (g104 41 1).resolve_left (fun h => h.elim (fun h => absurd h.2 (by decide)) (fun h => h.elim (fun h => absurd h.2 (by decide)) (fun h => h.elim (fun h => absurd h.2 (by decide)) (fun h => h.elim (fun h => absurd h.2 (by decide)) (fun h => h.elim (fun h => absurd h.2 (by decide)) (fun h => h.elim (fun h => absurd h.2 (by decide)) (fun h => absurd h.2 (by decide))))))))
  have t111 := (g104 41 2).resolve_left (fun h => h.elim (fun h => absurd h.2 (by decide)) (fun h => h.elim (fun h => absurd h.2 (by decide)) (fun h => h.elim (fun h => absurd h.2 (by decide)) (fun h => h.elim (fun h => absurd h.2 (by decide)) (fun h => h.elim (fun h => absurd h.2 (by decide)) (fun h => h.elim (fun h => absurd h.2 (by decide)) (fun h => absurd h.2 (by decide))))))))
  have t112 := (g104 1 18).resolve_left (fun h => h.elim (fun h => absurd h.2 (by decide)) (fun h => h.elim (fun h => absurd h.2 (by decide)) (fun h => h.elim (fun h => absurd h.2 (by decide)) (fun h => h.elim (fun h => absurd h.2 (by decide)) (fun h => h.elim (fun h => absurd h.2 (by decide)) (fun h => h.elim (fun h => absurd h.2 (by decide)) (fun h => absurd h.2 (by decide))))))))
  have t113 := (g104 39 2).resolve_left (fun h => h.elim (fun h => absurd h.2 (by decide)) (fun h => h.elim (fun h => absurd h.2 (by decide)) (fun h => h.elim (fun h => absurd h.2 (by decide)) (fun h => h.elim (fun h => absurd h.2 (by decide)) (fun h => h.elim (fun h => absurd h.2 (by decide)) (fun h => h.elim (fun h => absurd h.2 (by decide)) (fun h => absurd h.2 (by decide))))))))
  have f114 := (show 0 ≤ I105 23 5 ∧ I105 23 5 ≤ 1000 from gc_in hI105 R_23 rfl rfl)
  have f115 := (show 0 ≤ I105 23 6 ∧ I105 23 6 ≤ 1001 from gc_in hI105 R_23 rfl rfl)
  have f116 := (show 0 ≤ I105 23 7 ∧ I105 23 7 ≤ 125 from gc_in hI105 R_23 rfl rfl)
  have f117 := (show 0 ≤ I105 39 6 ∧ I105 39 6 ≤ 16777215 from gc_in hI105 R_39 rfl rfl)
  have t118 := gc_TK_mo KTK_I105
  refine gv_callV hD rfl (As := [.inl 0]) (st := []) rfl B_39 S_39 rfl (gc_lV6 hws rfl) (Nat.le_of_ble_eq_true rfl) (gz_Ev_mono (d := 3) (by decide) E104) ?_
  show gv_X _ _ (5, [(0, .inr (.inr (some 39)))], [.inl z104], sh, gc_h sh I105 J106 A)
  refine gv_if_eq (t := 17) hD rfl rfl ⟨by omega, by omega⟩ (fun c119 => ?_) (fun c119 => ?_)
  · show gv_X _ _ (17, [(0, .inr (.inr (some 39)))], [], sh, gc_h sh I105 J106 A)
    obtain ⟨u120, u120_⟩ := gs_or0 q104.2.2.2.2 (by omega)
    refine gv_run 1 true hD (pc' := 18) (lv' := [(0, .inr (.inr (some 39)))]) (st' := [.inl 0]) (h' := gc_h sh I105 J106 A) (C := (True ∧ True)) rfl ⟨trivial, trivial⟩ ?_
    exact gv_zret hD rfl (by omega) ⟨I105, J106, rfl, hI105, FI105, FJ106, KLT_I105, KTK_I105, ⟨_, rfl, by omega, by omega, by omega, by omega, by omega, by omega, (Or.inr ⟨by omega, by first | (exfalso; omega) | (unfold gs_cell; (repeat first | rw [if_pos (by omega)] | rw [if_neg (by omega)]); exact ⟨by omega, by omega⟩)⟩)⟩⟩
  · show gv_X _ _ (8, [(0, .inr (.inr (some 39)))], [], sh, gc_h sh I105 J106 A)
    obtain ⟨u121, A121, U121⟩ := gs_or1 q104.2.2.2.2 (by omega)
    have t122 := gc_AT_l A121
    have t123 := (show I105 23 7 = 4 ∨ (I105 23 5 < I105 23 6 ∧ I105 23 5 < I105 23 1) from KTK_I105.2.2.2.1)
    refine gv_run 2 true hD (pc' := 11) (lv' := [(0, .inr (.inr (some 39)))]) (st' := [.inl 61, .inr (.inr (some 39))]) (h' := gc_h sh I105 J106 A) (C := ((True ∧ True) ∧ True)) rfl ⟨⟨trivial, trivial⟩, trivial⟩ ?_
    obtain ⟨r124, h124, E124, P124⟩ := d_X6_take_p (ws0 := ws0) (tb := tb) hws htb sh ro I105 J106 A hI105  β η (gs_rv β η Ir Jr 0 p9) 61 hb   ⟨by omega, by omega⟩ (by omega) A121 (by omega) KLT_I105 KTK_I105
    obtain ⟨I125, J126, rfl, hI125, g124, k124, KLT_I125, KTK_I125, ⟨z124, rfl, q124⟩⟩ := P124
    have FI125 := gc_frc (W := fun q j => (q = 39 ∧ j = 3) ∨ (q = 39 ∧ j = 4) ∨ (q = 23 ∧ j = 5) ∨ (q = 23 ∧ j = 6) ∨ (q = 23 ∧ j = 7) ∨ (q = 23 ∧ j = 8) ∨ (q = 1 ∧ j = 17) ∨ (q = 1 ∧ j = 18) ∨ q = 20 ∨ (q = 39 ∧ j = 6) ∨ (q = 41 ∧ j = 0) ∨ (q = 41 ∧ j = 1) ∨ (q = 41 ∧ j = 2)) (V := fun q j => (q = 39 ∧ j = 3) ∨ (q = 39 ∧ j = 4) ∨ (q = 23 ∧ j = 5) ∨ (q = 23 ∧ j = 6) ∨ (q = 23 ∧ j = 7) ∨ (q = 23 ∧ j = 8)) FI105 (fun q j h => (h.elim (fun h => (Or.inl h)) (fun h => (h.elim (fun h => (Or.inr (Or.inl h))) (fun h => (h.elim (fun h => (Or.inr (Or.inr (Or.inl h)))) (fun h => (h.elim (fun h => (Or.inr (Or.inr (Or.inr (Or.inl h))))) (fun h => (h.elim (fun h => (Or.inr (Or.inr (Or.inr (Or.inr (Or.inl h)))))) (fun h => (Or.inr (Or.inr (Or.inr (Or.inr (Or.inr (Or.inl h))))))))))))))))) g124
    have FJ126 := gc_frc (W := fun q j => (q = 23 ∧ j = 9)) (V := fun q j => (q = 23 ∧ j = 9)) FJ106 (fun q j h => h) k124
    have t127 := (g124 23 1).resolve_left (fun h => h.elim (fun h => absurd h.2 (by decide)) (fun h => h.elim (fun h => absurd h.2 (by decide)) (fun h => h.elim (fun h => absurd h.2 (by decide)) (fun h => h.elim (fun h => absurd h.2 (by decide)) (fun h => h.elim (fun h => absurd h.2 (by decide)) (fun h => absurd h.2 (by decide)))))))
    have t128 := (g124 1 17).resolve_left (fun h => h.elim (fun h => absurd h.2 (by decide)) (fun h => h.elim (fun h => absurd h.2 (by decide)) (fun h => h.elim (fun h => absurd h.2 (by decide)) (fun h => h.elim (fun h => absurd h.2 (by decide)) (fun h => h.elim (fun h => absurd h.2 (by decide)) (fun h => absurd h.2 (by decide)))))))
    have t129 := (g124 41 0).resolve_left (fun h => h.elim (fun h => absurd h.2 (by decide)) (fun h => h.elim (fun h => absurd h.2 (by decide)) (fun h => h.elim (fun h => absurd h.2 (by decide)) (fun h => h.elim (fun h => absurd h.2 (by decide)) (fun h => h.elim (fun h => absurd h.2 (by decide)) (fun h => absurd h.2 (by decide)))))))
    have t130 := (g124 41 1).resolve_left (fun h => h.elim (fun h => absurd h.2 (by decide)) (fun h => h.elim (fun h => absurd h.2 (by decide)) (fun h => h.elim (fun h => absurd h.2 (by decide)) (fun h => h.elim (fun h => absurd h.2 (by decide)) (fun h => h.elim (fun h => absurd h.2 (by decide)) (fun h => absurd h.2 (by decide)))))))
    have t131 := (g124 41 2).resolve_left (fun h => h.elim (fun h => absurd h.2 (by decide)) (fun h => h.elim (fun h => absurd h.2 (by decide)) (fun h => h.elim (fun h => absurd h.2 (by decide)) (fun h => h.elim (fun h => absurd h.2 (by decide)) (fun h => h.elim (fun h => absurd h.2 (by decide)) (fun h => absurd h.2 (by decide)))))))
    have t132 := (g124 1 18).resolve_left (fun h => h.elim (fun h => absurd h.2 (by decide)) (fun h => h.elim (fun h => absurd h.2 (by decide)) (fun h => h.elim (fun h => absurd h.2 (by decide)) (fun h => h.elim (fun h => absurd h.2 (by decide)) (fun h => h.elim (fun h => absurd h.2 (by decide)) (fun h => absurd h.2 (by decide)))))))
    have t133 := (g124 39 6).resolve_left (fun h => h.elim (fun h => absurd h.2 (by decide)) (fun h => h.elim (fun h => absurd h.2 (by decide)) (fun h => h.elim (fun h => absurd h.2 (by decide)) (fun h => h.elim (fun h => absurd h.1 (by decide)) (fun h => h.elim (fun h => absurd h.2 (by decide)) (fun h => absurd h.2 (by decide)))))))
    have t134 := (g124 39 2).resolve_left (fun h => h.elim (fun h => absurd h.2 (by decide)) (fun h => h.elim (fun h => absurd h.2 (by decide)) (fun h => h.elim (fun h => absurd h.2 (by decide)) (fun h => h.elim (fun h => absurd h.2 (by decide)) (fun h => h.elim (fun h => absurd h.2 (by decide)) (fun h => absurd h.2 (by decide)))))))
    have f135 := (show 0 ≤ I125 23 5 ∧ I125 23 5 ≤ 1000 from gc_in hI125 R_23 rfl rfl)
    have f136 := (show 0 ≤ I125 23 6 ∧ I125 23 6 ≤ 1001 from gc_in hI125 R_23 rfl rfl)
    have f137 := (show 0 ≤ I125 23 7 ∧ I125 23 7 ≤ 125 from gc_in hI125 R_23 rfl rfl)
    have t138 := gc_TK_mo KTK_I125
    refine gv_callV hD rfl (As := [.inl 61]) (st := []) rfl B_39 S_39 rfl (gc_lV6 hws rfl) (Nat.le_of_ble_eq_true rfl) (gz_Ev_mono (d := 3) (by decide) E124) ?_
    show gv_X _ _ (14, [(0, .inr (.inr (some 39)))], [.inl z124], sh, gc_h sh I125 J126 A)
    refine gv_if_ne (t := 19) hD rfl rfl ⟨by omega, by omega⟩ (fun c139 => ?_) (fun c139 => ?_)
    · show gv_X _ _ (19, [(0, .inr (.inr (some 39)))], [], sh, gc_h sh I125 J126 A)
      obtain ⟨u140, A140⟩ := gs_or1 q124.2.2.2.2.2 (by omega)
      have t141 := gc_AT_l A140
      refine gv_run 1 true hD (pc' := 20) (lv' := [(0, .inr (.inr (some 39)))]) (st' := [.inr (.inr (some 39))]) (h' := gc_h sh I125 J126 A) (C := (True ∧ True)) rfl ⟨trivial, trivial⟩ ?_
      refine gv_get hD rfl rfl S_39 ⟨by decide, B_39⟩ (gc_hA S_39 rfl A_39_10) ?_
      show gv_X _ _ (23, [(0, .inr (.inr (some 39)))], [.inr (.inr (some 41))], sh, gc_h sh I125 J126 A)
      refine gv_run 2 true hD (pc' := 25) (lv' := [(0, .inr (.inr (some 39)))]) (st' := [.inr (.inr (some 39)), .inl 0, .inr (.inr (some 41))]) (h' := gc_h sh I125 J126 A) (C := ((True ∧ True) ∧ True)) rfl ⟨⟨trivial, trivial⟩, trivial⟩ ?_
      have f142 := (show 0 ≤ I125 39 6 ∧ I125 39 6 ≤ 16777215 from gc_in hI125 R_39 rfl rfl)
      refine gv_get hD rfl rfl S_39 ⟨by decide, B_39⟩ (gc_hI S_39 rfl) ?_
      show gv_X _ _ (28, [(0, .inr (.inr (some 39)))], [.inl (I125 39 6), .inl 0, .inr (.inr (some 41))], sh, gc_h sh I125 J126 A)
      refine gv_iast hD rfl S_41 ⟨by decide, B_41⟩ ⟨by omega, by omega⟩ ?_
      refine gc_st (k := 0) hI125 S_41 rfl R_41 (lo := (-2147483648)) (hi := 2147483647) rfl rfl (by omega) (by omega) (fun I143 hI143 q144 p144 => ?_)
      have FI143 := gc_frs (W := fun q j => (q = 39 ∧ j = 3) ∨ (q = 39 ∧ j = 4) ∨ (q = 23 ∧ j = 5) ∨ (q = 23 ∧ j = 6) ∨ (q = 23 ∧ j = 7) ∨ (q = 23 ∧ j = 8) ∨ (q = 1 ∧ j = 17) ∨ (q = 1 ∧ j = 18) ∨ q = 20 ∨ (q = 39 ∧ j = 6) ∨ (q = 41 ∧ j = 0) ∨ (q = 41 ∧ j = 1) ∨ (q = 41 ∧ j = 2)) FI125 (Or.inr (Or.inr (Or.inr (Or.inr (Or.inr (Or.inr (Or.inr (Or.inr (Or.inr (Or.inr (Or.inl ⟨rfl, rfl⟩))))))))))) p144
      have t145 := p144 23 1 (fun h => absurd h.2 (by decide))
      have t146 := p144 23 5 (fun h => absurd h.2 (by decide))
      have t147 := p144 23 6 (fun h => absurd h.2 (by decide))
      have t148 := p144 23 7 (fun h => absurd h.2 (by decide))
      have t149 := p144 1 17 (fun h => absurd h.2 (by decide))
      have t150 := p144 41 1 (fun h => absurd h.2 (by decide))
      have t151 := p144 41 2 (fun h => absurd h.2 (by decide))
      have t152 := p144 1 18 (fun h => absurd h.2 (by decide))
      have t153 := p144 39 6 (fun h => absurd h.2 (by decide))
      have t154 := p144 39 2 (fun h => absurd h.2 (by decide))
      have f155 := (show (-2147483648) ≤ I143 41 0 ∧ I143 41 0 ≤ 2147483647 from gc_in hI143 R_41 rfl rfl)
      have KLT_I143 := gc_LT_fr KLT_I125 (p144 23 5 (fun h => absurd h.2 (by decide))) (p144 23 6 (fun h => absurd h.2 (by decide))) (p144 23 7 (fun h => absurd h.2 (by decide))) (fun k => p144 24 k (fun h => absurd h.1 (by decide)))
      have KTK_I143 := gc_TK_fr KTK_I125 (p144 23 1 (fun h => absurd h.2 (by decide))) (p144 23 5 (fun h => absurd h.2 (by decide))) (p144 23 6 (fun h => absurd h.2 (by decide))) (p144 23 7 (fun h => absurd h.2 (by decide)))
      have A156 := gc_AT_I A140 (p144 23 1 (fun h => absurd h.2 (by decide))) (p144 23 5 (fun h => absurd h.2 (by decide))) (p144 23 6 (fun h => absurd h.2 (by decide))) (p144 23 7 (fun h => absurd h.2 (by decide))) (p144 23 8 (fun h => absurd h.2 (by decide))) (fun k => p144 24 k (fun h => absurd h.1 (by decide)))
      show gv_X _ _ (29, [(0, .inr (.inr (some 39)))], [], sh, gc_h sh I143 J126 A)
      refine gv_run 1 true hD (pc' := 30) (lv' := [(0, .inr (.inr (some 39)))]) (st' := [.inr (.inr (some 39))]) (h' := gc_h sh I143 J126 A) (C := (True ∧ True)) rfl ⟨trivial, trivial⟩ ?_
      refine gv_get hD rfl rfl S_39 ⟨by decide, B_39⟩ (gc_hA S_39 rfl A_39_10) ?_
      show gv_X _ _ (33, [(0, .inr (.inr (some 39)))], [.inr (.inr (some 41))], sh, gc_h sh I143 J126 A)
      refine gv_run 2 true hD (pc' := 35) (lv' := [(0, .inr (.inr (some 39)))]) (st' := [.inr (.inr (some 39)), .inl 1, .inr (.inr (some 41))]) (h' := gc_h sh I143 J126 A) (C := ((True ∧ True) ∧ True)) rfl ⟨⟨trivial, trivial⟩, trivial⟩ ?_
      refine gv_get hD rfl rfl S_39 ⟨by decide, B_39⟩ (gc_hA S_39 rfl A_39_0) ?_
      show gv_X _ _ (38, [(0, .inr (.inr (some 39)))], [.inr (.inr (some 1)), .inl 1, .inr (.inr (some 41))], sh, gc_h sh I143 J126 A)
      have f157 := (show 0 ≤ I143 1 17 ∧ I143 1 17 ≤ 12000 from gc_in hI143 R_1 rfl rfl)
      refine gv_get hD rfl rfl S_1 ⟨by decide, B_1⟩ (gc_hI S_1 rfl) ?_
      show gv_X _ _ (41, [(0, .inr (.inr (some 39)))], [.inl (I143 1 17), .inl 1, .inr (.inr (some 41))], sh, gc_h sh I143 J126 A)
      refine gv_iast hD rfl S_41 ⟨by decide, B_41⟩ ⟨by omega, by omega⟩ ?_
      refine gc_st (k := 1) hI143 S_41 rfl R_41 (lo := (-2147483648)) (hi := 2147483647) rfl rfl (by omega) (by omega) (fun I158 hI158 q159 p159 => ?_)
      have FI158 := gc_frs (W := fun q j => (q = 39 ∧ j = 3) ∨ (q = 39 ∧ j = 4) ∨ (q = 23 ∧ j = 5) ∨ (q = 23 ∧ j = 6) ∨ (q = 23 ∧ j = 7) ∨ (q = 23 ∧ j = 8) ∨ (q = 1 ∧ j = 17) ∨ (q = 1 ∧ j = 18) ∨ q = 20 ∨ (q = 39 ∧ j = 6) ∨ (q = 41 ∧ j = 0) ∨ (q = 41 ∧ j = 1) ∨ (q = 41 ∧ j = 2)) FI143 (Or.inr (Or.inr (Or.inr (Or.inr (Or.inr (Or.inr (Or.inr (Or.inr (Or.inr (Or.inr (Or.inr (Or.inl ⟨rfl, rfl⟩)))))))))))) p159
      have t160 := p159 23 1 (fun h => absurd h.1 (by decide))
      have t161 := p159 23 5 (fun h => absurd h.2 (by decide))
      have t162 := p159 23 6 (fun h => absurd h.2 (by decide))
      have t163 := p159 23 7 (fun h => absurd h.2 (by decide))
      have t164 := p159 1 17 (fun h => absurd h.2 (by decide))
      have t165 := p159 41 0 (fun h => absurd h.2 (by decide))
      have t166 := p159 41 2 (fun h => absurd h.2 (by decide))
      have t167 := p159 1 18 (fun h => absurd h.2 (by decide))
      have t168 := p159 39 6 (fun h => absurd h.2 (by decide))
      have t169 := p159 39 2 (fun h => absurd h.2 (by decide))
      have f170 := (show (-2147483648) ≤ I158 41 1 ∧ I158 41 1 ≤ 2147483647 from gc_in hI158 R_41 rfl rfl)
      have KLT_I158 := gc_LT_fr KLT_I143 (p159 23 5 (fun h => absurd h.2 (by decide))) (p159 23 6 (fun h => absurd h.2 (by decide))) (p159 23 7 (fun h => absurd h.2 (by decide))) (fun k => p159 24 k (fun h => absurd h.1 (by decide)))
      have KTK_I158 := gc_TK_fr KTK_I143 (p159 23 1 (fun h => absurd h.1 (by decide))) (p159 23 5 (fun h => absurd h.2 (by decide))) (p159 23 6 (fun h => absurd h.2 (by decide))) (p159 23 7 (fun h => absurd h.2 (by decide)))
      have A171 := gc_AT_I A156 (p159 23 1 (fun h => absurd h.1 (by decide))) (p159 23 5 (fun h => absurd h.2 (by decide))) (p159 23 6 (fun h => absurd h.2 (by decide))) (p159 23 7 (fun h => absurd h.2 (by decide))) (p159 23 8 (fun h => absurd h.2 (by decide))) (fun k => p159 24 k (fun h => absurd h.1 (by decide)))
      show gv_X _ _ (42, [(0, .inr (.inr (some 39)))], [], sh, gc_h sh I158 J126 A)
      refine gv_run 1 true hD (pc' := 43) (lv' := [(0, .inr (.inr (some 39)))]) (st' := [.inr (.inr (some 39))]) (h' := gc_h sh I158 J126 A) (C := (True ∧ True)) rfl ⟨trivial, trivial⟩ ?_
      refine gv_get hD rfl rfl S_39 ⟨by decide, B_39⟩ (gc_hA S_39 rfl A_39_10) ?_
      show gv_X _ _ (46, [(0, .inr (.inr (some 39)))], [.inr (.inr (some 41))], sh, gc_h sh I158 J126 A)
      refine gv_run 2 true hD (pc' := 48) (lv' := [(0, .inr (.inr (some 39)))]) (st' := [.inl (-1), .inl 2, .inr (.inr (some 41))]) (h' := gc_h sh I158 J126 A) (C := ((True ∧ True) ∧ True)) rfl ⟨⟨trivial, trivial⟩, trivial⟩ ?_
      refine gv_iast hD rfl S_41 ⟨by decide, B_41⟩ ⟨by omega, by omega⟩ ?_
      refine gc_st (k := 2) hI158 S_41 rfl R_41 (lo := (-2147483648)) (hi := 2147483647) rfl rfl (by omega) (by omega) (fun I172 hI172 q173 p173 => ?_)
      have FI172 := gc_frs (W := fun q j => (q = 39 ∧ j = 3) ∨ (q = 39 ∧ j = 4) ∨ (q = 23 ∧ j = 5) ∨ (q = 23 ∧ j = 6) ∨ (q = 23 ∧ j = 7) ∨ (q = 23 ∧ j = 8) ∨ (q = 1 ∧ j = 17) ∨ (q = 1 ∧ j = 18) ∨ q = 20 ∨ (q = 39 ∧ j = 6) ∨ (q = 41 ∧ j = 0) ∨ (q = 41 ∧ j = 1) ∨ (q = 41 ∧ j = 2)) FI158 (Or.inr (Or.inr (Or.inr (Or.inr (Or.inr (Or.inr (Or.inr (Or.inr (Or.inr (Or.inr (Or.inr (Or.inr ⟨rfl, rfl⟩)))))))))))) p173
      have t174 := p173 23 1 (fun h => absurd h.2 (by decide))
      have t175 := p173 23 5 (fun h => absurd h.2 (by decide))
      have t176 := p173 23 6 (fun h => absurd h.2 (by decide))
      have t177 := p173 23 7 (fun h => absurd h.2 (by decide))
      have t178 := p173 1 17 (fun h => absurd h.2 (by decide))
      have t179 := p173 41 0 (fun h => absurd h.2 (by decide))
      have t180 := p173 41 1 (fun h => absurd h.2 (by decide))
      have t181 := p173 1 18 (fun h => absurd h.2 (by decide))
      have t182 := p173 39 6 (fun h => absurd h.2 (by decide))
      have t183 := p173 39 2 (fun h => absurd h.1 (by decide))
      have f184 := (show (-2147483648) ≤ I172 41 2 ∧ I172 41 2 ≤ 2147483647 from gc_in hI172 R_41 rfl rfl)
      have KLT_I172 := gc_LT_fr KLT_I158 (p173 23 5 (fun h => absurd h.2 (by decide))) (p173 23 6 (fun h => absurd h.2 (by decide))) (p173 23 7 (fun h => absurd h.2 (by decide))) (fun k => p173 24 k (fun h => absurd h.1 (by decide)))
      have KTK_I172 := gc_TK_fr KTK_I158 (p173 23 1 (fun h => absurd h.2 (by decide))) (p173 23 5 (fun h => absurd h.2 (by decide))) (p173 23 6 (fun h => absurd h.2 (by decide))) (p173 23 7 (fun h => absurd h.2 (by decide)))
      have A185 := gc_AT_I A171 (p173 23 1 (fun h => absurd h.2 (by decide))) (p173 23 5 (fun h => absurd h.2 (by decide))) (p173 23 6 (fun h => absurd h.2 (by decide))) (p173 23 7 (fun h => absurd h.2 (by decide))) (p173 23 8 (fun h => absurd h.2 (by decide))) (fun k => p173 24 k (fun h => absurd h.1 (by decide)))
      show gv_X _ _ (49, [(0, .inr (.inr (some 39)))], [], sh, gc_h sh I172 J126 A)
      refine gv_run 1 true hD (pc' := 50) (lv' := [(0, .inr (.inr (some 39)))]) (st' := [.inr (.inr (some 39))]) (h' := gc_h sh I172 J126 A) (C := (True ∧ True)) rfl ⟨trivial, trivial⟩ ?_
      refine gv_get hD rfl rfl S_39 ⟨by decide, B_39⟩ (gc_hA S_39 rfl A_39_1) ?_
      show gv_X _ _ (53, [(0, .inr (.inr (some 39)))], [.inr (.inr (some 23))], sh, gc_h sh I172 J126 A)
      have f186 := (show 0 ≤ I172 23 7 ∧ I172 23 7 ≤ 125 from gc_in hI172 R_23 rfl rfl)
      refine gv_get hD rfl rfl S_23 ⟨by decide, B_23⟩ (gc_hI S_23 rfl) ?_
      show gv_X _ _ (56, [(0, .inr (.inr (some 39)))], [.inl (I172 23 7)], sh, gc_h sh I172 J126 A)
      refine gv_run 1 true hD (pc' := 58) (lv' := [(0, .inr (.inr (some 39)))]) (st' := [.inl 45, .inl (I172 23 7)]) (h' := gc_h sh I172 J126 A) (C := (True ∧ True)) rfl ⟨trivial, trivial⟩ ?_
      refine gv_icmp_ne (t := 70) hD rfl rfl ⟨⟨by omega, by omega⟩, ⟨by omega, by omega⟩⟩ (fun c187 => ?_) (fun c187 => ?_)
      · show gv_X _ _ (70, [(0, .inr (.inr (some 39)))], [], sh, gc_h sh I172 J126 A)
        refine gv_run 4 true hD (pc' := 74) (lv' := [(2, .inl 0), (1, .inl 1), (0, .inr (.inr (some 39)))]) (st' := []) (h' := gc_h sh I172 J126 A) (C := ((((True ∧ True) ∧ True) ∧ True) ∧ True)) rfl ⟨⟨⟨⟨trivial, trivial⟩, trivial⟩, trivial⟩, trivial⟩ ?_
        refine gv_pick [2, 1, 0] rfl ?_
        exact L74 _ I172 J126 1 0 ((gs_need β η 61 (gs_rv β η Ir Jr 0 p9))) (Nat.lt_succ_self _) hI172 FI172 FJ126 KLT_I172 KTK_I172 (by omega) A185 (by unfold gs_cell gs_pf; (repeat first | rw [if_pos (by omega)] | rw [if_neg (by omega)]); (try rfl)) (by rw [show I172 41 0 = I105 39 6 from by omega]; exact U121 rfl)
      · show gv_X _ _ (61, [(0, .inr (.inr (some 39)))], [], sh, gc_h sh I172 J126 A)
        refine gv_run 1 true hD (pc' := 62) (lv' := [(0, .inr (.inr (some 39)))]) (st' := [.inr (.inr (some 39))]) (h' := gc_h sh I172 J126 A) (C := (True ∧ True)) rfl ⟨trivial, trivial⟩ ?_
        refine gv_get hD rfl rfl S_39 ⟨by decide, B_39⟩ (gc_hA S_39 rfl A_39_1) ?_
        show gv_X _ _ (65, [(0, .inr (.inr (some 39)))], [.inr (.inr (some 23))], sh, gc_h sh I172 J126 A)
        have t189 := gc_TK_nx KTK_I172 (by omega)
        have t190 := gc_TK_st KTK_I172 (by omega)
        obtain ⟨r188, h188, E188, P188⟩ := d_X9_advance_p (ws0 := ws0) (tb := tb) hws htb sh ro I172 J126 A hI172 23 β η  (gc_b23 hb)    (by omega) A185.1.1 A185.1.2 
        obtain ⟨I191, J192, rfl, hI191, g188, k188, ⟨rfl, V188_0, V188_1, V188_2, V188_3, V188_4, q188⟩⟩ := P188
        have FI191 := gc_frc (W := fun q j => (q = 39 ∧ j = 3) ∨ (q = 39 ∧ j = 4) ∨ (q = 23 ∧ j = 5) ∨ (q = 23 ∧ j = 6) ∨ (q = 23 ∧ j = 7) ∨ (q = 23 ∧ j = 8) ∨ (q = 1 ∧ j = 17) ∨ (q = 1 ∧ j = 18) ∨ q = 20 ∨ (q = 39 ∧ j = 6) ∨ (q = 41 ∧ j = 0) ∨ (q = 41 ∧ j = 1) ∨ (q = 41 ∧ j = 2)) (V := fun q j => (q = 23 ∧ j = 5) ∨ (q = 23 ∧ j = 6) ∨ (q = 23 ∧ j = 7) ∨ (q = 23 ∧ j = 8)) FI172 (fun q j h => (h.elim (fun h => (Or.inr (Or.inr (Or.inl h)))) (fun h => (h.elim (fun h => (Or.inr (Or.inr (Or.inr (Or.inl h))))) (fun h => (h.elim (fun h => (Or.inr (Or.inr (Or.inr (Or.inr (Or.inl h)))))) (fun h => (Or.inr (Or.inr (Or.inr (Or.inr (Or.inr (Or.inl h))))))))))))) g188
        have FJ192 := gc_frc (W := fun q j => (q = 23 ∧ j = 9)) (V := fun q j => (q = 23 ∧ j = 9)) FJ126 (fun q j h => h) k188
        have t193 := (g188 23 1).resolve_left (fun h => h.elim (fun h => absurd h.2 (by decide)) (fun h => h.elim (fun h => absurd h.2 (by decide)) (fun h => h.elim (fun h => absurd h.2 (by decide)) (fun h => absurd h.2 (by decide)))))
        have t194 := (g188 1 17).resolve_left (fun h => h.elim (fun h => absurd h.2 (by decide)) (fun h => h.elim (fun h => absurd h.2 (by decide)) (fun h => h.elim (fun h => absurd h.2 (by decide)) (fun h => absurd h.2 (by decide)))))
        have t195 := (g188 41 0).resolve_left (fun h => h.elim (fun h => absurd h.2 (by decide)) (fun h => h.elim (fun h => absurd h.2 (by decide)) (fun h => h.elim (fun h => absurd h.2 (by decide)) (fun h => absurd h.2 (by decide)))))
        have t196 := (g188 41 1).resolve_left (fun h => h.elim (fun h => absurd h.2 (by decide)) (fun h => h.elim (fun h => absurd h.2 (by decide)) (fun h => h.elim (fun h => absurd h.2 (by decide)) (fun h => absurd h.2 (by decide)))))
        have t197 := (g188 41 2).resolve_left (fun h => h.elim (fun h => absurd h.2 (by decide)) (fun h => h.elim (fun h => absurd h.2 (by decide)) (fun h => h.elim (fun h => absurd h.2 (by decide)) (fun h => absurd h.2 (by decide)))))
        have t198 := (g188 1 18).resolve_left (fun h => h.elim (fun h => absurd h.2 (by decide)) (fun h => h.elim (fun h => absurd h.2 (by decide)) (fun h => h.elim (fun h => absurd h.2 (by decide)) (fun h => absurd h.2 (by decide)))))
        have t199 := (g188 39 6).resolve_left (fun h => h.elim (fun h => absurd h.2 (by decide)) (fun h => h.elim (fun h => absurd h.1 (by decide)) (fun h => h.elim (fun h => absurd h.2 (by decide)) (fun h => absurd h.2 (by decide)))))
        have t200 := (g188 39 2).resolve_left (fun h => h.elim (fun h => absurd h.2 (by decide)) (fun h => h.elim (fun h => absurd h.2 (by decide)) (fun h => h.elim (fun h => absurd h.2 (by decide)) (fun h => absurd h.2 (by decide)))))
        have f201 := (show 0 ≤ I191 23 5 ∧ I191 23 5 ≤ 1000 from gc_in hI191 R_23 rfl rfl)
        have f202 := (show 0 ≤ I191 23 6 ∧ I191 23 6 ≤ 1001 from gc_in hI191 R_23 rfl rfl)
        have f203 := (show 0 ≤ I191 23 7 ∧ I191 23 7 ≤ 125 from gc_in hI191 R_23 rfl rfl)
        have KLT_I191 : gc_LT I191 := q188.2.2.1
        have KTK_I191 : gc_TK I191 := And.intro V188_0 (And.intro V188_1 (And.intro V188_2 (And.intro V188_3 V188_4)))
        have t204 := gc_TK_mo KTK_I191
        clear V188_0 V188_1 V188_2 V188_3 V188_4
        have A205 := gc_AT_nx A185 q188.2.2.2
        have t206 := gc_AT_l A205
        refine gv_callV hD rfl (As := []) (st := []) rfl B_23 S_23 rfl (gc_lV6 hws rfl) (Nat.le_of_ble_eq_true rfl) (gz_Ev_mono (d := 2) (by decide) E188) ?_
        show gv_X _ _ (68, [(0, .inr (.inr (some 39)))], [], sh, gc_h sh I191 J192 A)
        refine gv_run 1 true hD (pc' := 69) (lv' := [(0, .inr (.inr (some 39)))]) (st' := [.inl 1]) (h' := gc_h sh I191 J192 A) (C := (True ∧ True)) rfl ⟨trivial, trivial⟩ ?_
        exact gv_zret hD rfl (by omega) ⟨I191, J192, rfl, hI191, FI191, FJ192, KLT_I191, KTK_I191, ⟨_, rfl, by omega, by omega, by omega, by omega, by omega, by omega, (Or.inl ⟨by omega, by have e9 : (gs_cell β η Ir Jr p9) = (gs_X β η (gs_need β η 61 (gs_rv β η Ir Jr 0 p9))) := (by unfold gs_cell gs_pf; (repeat first | rw [if_pos (by omega)] | rw [if_neg (by omega)])); rw [e9]; exact ⟨by omega, A205, ⟨by omega, by omega⟩, (by rw [show I191 41 0 = I105 39 6 from by omega]; exact U121 rfl)⟩⟩)⟩⟩
    · show gv_X _ _ (17, [(0, .inr (.inr (some 39)))], [], sh, gc_h sh I125 J126 A)
      obtain ⟨u207, u207_⟩ := gs_or0 q124.2.2.2.2.2 (by omega)
      refine gv_run 1 true hD (pc' := 18) (lv' := [(0, .inr (.inr (some 39)))]) (st' := [.inl 0]) (h' := gc_h sh I125 J126 A) (C := (True ∧ True)) rfl ⟨trivial, trivial⟩ ?_
      exact gv_zret hD rfl (by omega) ⟨I125, J126, rfl, hI125, FI125, FJ126, KLT_I125, KTK_I125, ⟨_, rfl, by omega, by omega, by omega, by omega, by omega, by omega, (Or.inr ⟨by omega, by first | (exfalso; omega) | (unfold gs_cell; (repeat first | rw [if_pos (by omega)] | rw [if_neg (by omega)]); exact ⟨by omega, by omega⟩)⟩)⟩⟩
