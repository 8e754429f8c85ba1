/-! CELLS of a PATTERN with their FORMS, as a list (p9 to p13) -/
def fo_ll {α : Type} (f : Nat → α) (n : Int) : List α := (List.range (Int.toNat n)).map f
def gs_inc : List fo_e → fo_e → List fo_e
  | [], x => [x]
  | y :: V, x => if y.1 = x.1 then x :: V else y :: gs_inc V x
def fo_d0 : fo_e := (0, none)
section L9
variable {β : Int → Int} {N p q : Int} {I0 I I1 I2 I3 Iₚ : gr_I} {J Jₚ : gr_J} {V : List fo_e} {f f' : Nat → fo_e} {n k x : Int} {c : fo_c}
theorem fo_ll_i {α : Type} {f : Nat → α} {n : Int} (i : Nat) : (fo_ll f n)[i]? = if i < Int.toNat n then some (f i) else none := by
  unfold fo_ll
  rw [List.getElem?_map]
  by_cases c : i < Int.toNat n
  · rw [if_pos c, List.getElem?_range c]
    rfl
  · rw [if_neg c, List.getElem?_eq_none (by rw [List.length_range]; omega)]
    rfl
theorem fo_ll_len {α : Type} {f : Nat → α} {n : Int} (hn : 0 ≤ n) : (((fo_ll f n).length : Nat) : Int) = n := by
  unfold fo_ll
  rw [List.length_map, List.length_range]
  omega
theorem fo_ll_eq {α : Type} {f g : Nat → α} {n : Int} (h : ∀ j : Nat, (j : Int) < n → f j = g j) : fo_ll f n = fo_ll g n := List.map_congr_left (fun j hj => h j (by have := List.mem_range.mp hj; omega))
theorem fo_ll_map {α γ : Type} {f : Nat → α} {n : Int} (g : α → γ) : (fo_ll f n).map g = fo_ll (fun j => g (f j)) n := by
  unfold fo_ll
  rw [List.map_map]
  rfl
theorem fo_getD {i : Nat} (h : i < V.length) : V[i]? = some (V.getD i fo_d0) := by
  rw [List.getD_eq_getElem?_getD, List.getElem?_eq_getElem h]
  rfl
theorem fo_ll_getD {f : Nat → fo_e} {n : Int} {i : Nat} (h : (i : Int) < n) : (fo_ll f n).getD i fo_d0 = f i := by
  rw [List.getD_eq_getElem?_getD, fo_ll_i, if_pos (by omega)]
  rfl
theorem gs_inc_old : ∀ {V : List fo_e} {k : Nat} {x : fo_e}, k < V.length → (∀ j : Nat, j < k → ¬ (V.getD j fo_d0).1 = x.1) → (V.getD k fo_d0).1 = x.1 → gs_inc V x = V.set k x
  | [], k, x, h, _, _ => absurd h (Nat.not_lt_zero k)
  | y :: V, 0, x, _, _, h1 => if_pos h1
  | y :: V, k + 1, x, h, h0, h1 => by
    show (if y.1 = x.1 then x :: V else y :: gs_inc V x) = y :: V.set k x
    rw [if_neg (show ¬ y.1 = x.1 from h0 0 (Nat.succ_pos k)), gs_inc_old (Nat.lt_of_succ_lt_succ h) (fun j hj => h0 (j + 1) (Nat.succ_lt_succ hj)) h1]
theorem gs_inc_new : ∀ {V : List fo_e} {x : fo_e}, (∀ j : Nat, j < V.length → ¬ (V.getD j fo_d0).1 = x.1) → gs_inc V x = V ++ [x]
  | [], x, _ => rfl
  | y :: V, x, h0 => by
    show (if y.1 = x.1 then x :: V else y :: gs_inc V x) = y :: (V ++ [x])
    rw [if_neg (show ¬ y.1 = x.1 from h0 0 (Nat.succ_pos _)), gs_inc_new (fun j hj => h0 (j + 1) (Nat.succ_lt_succ hj))]
theorem gs_inc_map : ∀ {V : List fo_e} {x : fo_e}, (gs_inc V x).map Prod.fst = gs_ins (V.map Prod.fst) x.1
  | [], x => by
    show [x.1] = gs_ins [] x.1
    exact (if_neg (List.not_mem_nil)).symm
  | y :: V, x => by
    show List.map Prod.fst (if y.1 = x.1 then x :: V else y :: gs_inc V x) = gs_ins (y.1 :: V.map Prod.fst) x.1
    by_cases c : y.1 = x.1
    · rw [if_pos c]
      show x.1 :: V.map Prod.fst = _
      rw [show gs_ins (y.1 :: V.map Prod.fst) x.1 = y.1 :: V.map Prod.fst from if_pos (by rw [c]; exact List.mem_cons_self), c]
    · rw [if_neg c]
      show y.1 :: (gs_inc V x).map Prod.fst = _
      rw [gs_inc_map (V := V)]
      unfold gs_ins
      by_cases d : x.1 ∈ V.map Prod.fst
      · rw [if_pos d, if_pos (List.mem_cons_of_mem _ d)]
      · rw [if_neg d, if_neg (fun h => (List.mem_cons.mp h).elim (fun e => c e.symm) d)]
        rfl
/-- all entries of the list but the one at k stand in f; it has the VALUES x, or is to come -/
def gs_hol (V : List fo_e) (f : Nat → fo_e) (n k x : Int) : Prop := 0 ≤ k ∧ (∀ j : Nat, (j : Int) < k → ¬ (V.getD j fo_d0).1 = x) ∧ (((V.length : Int) = n ∧ k < n ∧ (V.getD (Int.toNat k) fo_d0).1 = x) ∨ ((V.length : Int) = n - 1 ∧ k = n - 1)) ∧ ∀ j : Nat, (j : Int) < n → ¬ j = Int.toNat k → f j = V.getD j fo_d0
theorem gs_hol_old {f0 : Nat → fo_e} (hV : V = fo_ll f0 n) (hk : 0 ≤ k ∧ k < n) (h0 : ∀ j : Nat, (j : Int) < k → ¬ (f0 j).1 = x) (h1 : (f0 (Int.toNat k)).1 = x) (e : ∀ j : Nat, (j : Int) < n → ¬ j = Int.toNat k → f j = f0 j) : gs_hol V f n k x := by
  subst hV
  refine ⟨hk.1, fun j hj => ?_, Or.inl ⟨fo_ll_len (by omega), hk.2, ?_⟩, fun j hj hn => ?_⟩
  · rw [fo_ll_getD (by omega)]
    exact h0 j hj
  · rw [fo_ll_getD (by omega)]
    exact h1
  · rw [fo_ll_getD hj]
    exact e j hj hn
theorem gs_hol_new {f0 : Nat → fo_e} (hV : V = fo_ll f0 k) (hk : 0 ≤ k ∧ n = k + 1) (h0 : ∀ j : Nat, (j : Int) < k → ¬ (f0 j).1 = x) (e : ∀ j : Nat, (j : Int) < n → ¬ j = Int.toNat k → f j = f0 j) : gs_hol V f n k x := by
  subst hV
  have l := fo_ll_len (f := f0) hk.1
  refine ⟨hk.1, fun j hj => ?_, Or.inr ⟨by omega, by omega⟩, fun j hj hn => ?_⟩
  · rw [fo_ll_getD hj]
    exact h0 j hj
  · rw [fo_ll_getD (by omega)]
    exact e j hj hn
theorem gs_hol_kp (h : gs_hol V f n k x) (e : ∀ j : Nat, (j : Int) < n → ¬ j = Int.toNat k → f' j = f j) : gs_hol V f' n k x := ⟨h.1, h.2.1, h.2.2.1, fun j a b => (e j a b).trans (h.2.2.2 j a b)⟩
theorem gs_hol_put (h : gs_hol V f n k x) (e : f' (Int.toNat k) = (x, c)) (o : ∀ j : Nat, (j : Int) < n → ¬ j = Int.toNat k → f' j = f j) : fo_ll f' n = gs_inc V (x, c) := by
  obtain ⟨h0, h1, h2, h3⟩ := h
  refine List.ext_getElem? (fun i => ?_)
  rw [fo_ll_i]
  rcases h2 with ⟨a, b, d⟩ | ⟨a, b⟩
  · rw [gs_inc_old (k := Int.toNat k) (by omega) (fun j hj => h1 j (by omega)) d, List.getElem?_set]
    by_cases c1 : Int.toNat k = i
    · rw [if_pos c1, if_pos (show i < Int.toNat n by omega), if_pos (show Int.toNat k < V.length by omega), ← c1, e]
    · rw [if_neg c1]
      by_cases c2 : i < Int.toNat n
      · rw [if_pos c2, o i (by omega) (by omega), h3 i (by omega) (by omega), fo_getD (by omega)]
      · rw [if_neg c2, List.getElem?_eq_none (by omega)]
  · rw [gs_inc_new (fun j hj => h1 j (by omega))]
    by_cases c1 : i < V.length
    · rw [List.getElem?_append_left c1, if_pos (show i < Int.toNat n by omega), o i (by omega) (by omega), h3 i (by omega) (by omega), fo_getD c1]
    · rw [List.getElem?_append_right (by omega)]
      by_cases c2 : i = V.length
      · rw [if_pos (show i < Int.toNat n by omega), show i - V.length = 0 from by omega, show i = Int.toNat k from by omega, e]
        rfl
      · rw [if_neg (show ¬ i < Int.toNat n by omega), List.getElem?_eq_none (by show 1 ≤ _; omega)]
/-! tokens of a PATTERN, with FORMS -/
def gs_fxc (β : Int → Int) (N e : Int) : fo_c := if gs_T β N e = 45 then none else some (gs_frm β N e)
def gs_qcC (β : Int → Int) (N : Int) (rec : List fo_e → Int → Int × List fo_e) (V : List fo_e) (f : Int) : Int × List fo_e := if f < 0 then (f, []) else if gs_T β N f = 44 then rec V (gs_X β N f) else (f, V)
def gs_qcB (β : Int → Int) (N : Int) (rec : List fo_e → Int → Int × List fo_e) (V : List fo_e) (x e : Int) : Int × List fo_e := gs_qcC β N rec (gs_inc V (x, gs_fxc β N e)) (gs_pf β N e)
def gs_qcA (β : Int → Int) (N : Int) (rec : List fo_e → Int → Int × List fo_e) (V : List fo_e) (w : Int × Int) : Int × List fo_e := if w.1 < 0 then (w.1, []) else if gs_need β N 61 w.1 < 0 then (gs_need β N 61 w.1, []) else gs_qcB β N rec V w.2 (gs_need β N 61 w.1)
def gs_qc (β : Int → Int) (N : Int) (I : gr_I) (J : gr_J) : Nat → List fo_e → Int → Int × List fo_e
  | 0, V, q => (q, V)
  | m + 1, V, q => gs_qcA β N (gs_qc β N I J m) V (gs_ws β N I J 1002 0 q)
theorem gs_qcA_x {rec : List fo_e → Int → Int × List fo_e} (h : q < 0) : gs_qcA β N rec V (q, k) = (q, []) := if_pos h
theorem gs_qcA_n {rec : List fo_e → Int → Int × List fo_e} (h : ¬ q < 0) (g : gs_need β N 61 q < 0) : gs_qcA β N rec V (q, k) = (gs_need β N 61 q, []) := (if_neg h).trans (if_pos g)
theorem gs_qcA_e {rec : List fo_e → Int → Int × List fo_e} (h : ¬ q < 0) (g : ¬ gs_need β N 61 q < 0) : gs_qcA β N rec V (q, k) = gs_qcB β N rec V k (gs_need β N 61 q) := (if_neg h).trans (if_neg g)
/-- the CELLS of a PATTERN of the reference -/
def gs_de9 (I : gr_I) (b : Int) (j : Nat) : fo_e := (I 32 (Int.toNat (b + (j : Int))), fo_rx (I 51) (I 35) (I 33 (Int.toNat (b + (j : Int)))) (I 34 (Int.toNat (b + (j : Int)))))
def gs_dl (I : gr_I) (t f : Int) : List fo_e := fo_ll (gs_de9 I (24 * (24 * t + f))) (I 31 (Int.toNat (24 * t + f)))
def gs_dok (I : gr_I) (b n : Int) : Prop := ∀ j : Int, 0 ≤ j → j < n → fo_okr (I 0 59) (I 0 42) (I 51) (I 35) (I 33 (Int.toNat (b + j))) (I 34 (Int.toNat (b + j)))
def gs_qt2 (β : Int → Int) (N : Int) (I : gr_I) (J : gr_J) (V : List fo_e) (q : Int) : Int × List fo_e := if gs_need β N 123 q < 0 then (gs_need β N 123 q, []) else gs_qc β N I J 1002 V (gs_need β N 123 q)
def gs_qtP (β : Int → Int) (N : Int) (I : gr_I) (J : gr_J) (f q : Int) : Int × List fo_e := if f < 0 then (-1 - gs_A β N q, []) else gs_qt2 β N I J (gs_dl I (I 0 6) f) (gs_X β N q)
def gs_qtO (β : Int → Int) (N : Int) (I : gr_I) (J : gr_J) (q : Int) : Int × List fo_e := if gs_T β N q = 1 then gs_qtP β N I J (gs_lt J 23 (24 * I 0 6) (I 17 (Int.toNat (I 0 6))) (gs_rn β N q)) q else (-1 - gs_A β N q, [])
def gs_qt1 (β : Int → Int) (N : Int) (I : gr_I) (J : gr_J) (q : Int) : Int × List fo_e := if gs_kw β N q (gs_W 94) = 1 then gs_qtO β N I J (gs_X β N q) else gs_qt2 β N I J [] q
def gs_qtw (β : Int → Int) (N : Int) (I : gr_I) (J : gr_J) (p : Int) : Int × List fo_e := if gs_T β N p = 1 then (if 0 ≤ gs_lt J 23 (24 * I 0 6) (I 17 (Int.toNat (I 0 6))) (gs_rn β N p) then (-1 - gs_A β N p, []) else gs_qt1 β N I J (gs_X β N p)) else (-1 - gs_A β N p, [])
/-- the elder lists are these without FORMS -/
def gs_pr9 (w : Int × List fo_e) : Int × List Int := (w.1, w.2.map Prod.fst)
theorem gs_qc_pc : ∀ (m : Nat) (V : List fo_e) (q : Int), gs_pr9 (gs_qc β N I J m V q) = gs_pc β N I J m (V.map Prod.fst) q
  | 0, _, _ => rfl
  | m + 1, V, q => by
    show gs_pr9 (gs_qcA β N (gs_qc β N I J m) V (gs_ws β N I J 1002 0 q)) = gs_pcA β N (gs_pc β N I J m) (V.map Prod.fst) (gs_ws β N I J 1002 0 q)
    generalize gs_ws β N I J 1002 0 q = w
    unfold gs_qcA gs_pcA
    by_cases c1 : w.1 < 0
    · rw [if_pos c1, if_pos c1]
      rfl
    · rw [if_neg c1, if_neg c1]
      by_cases c2 : gs_need β N 61 w.1 < 0
      · rw [if_pos c2, if_pos c2]
        rfl
      · rw [if_neg c2, if_neg c2]
        unfold gs_qcB gs_pcB gs_qcC gs_pcC
        by_cases c3 : gs_pf β N (gs_need β N 61 w.1) < 0
        · rw [if_pos c3, if_pos c3]
          rfl
        · rw [if_neg c3, if_neg c3]
          by_cases c4 : gs_T β N (gs_pf β N (gs_need β N 61 w.1)) = 44
          · rw [if_pos c4, if_pos c4, gs_qc_pc m, gs_inc_map]
          · rw [if_neg c4, if_neg c4]
            unfold gs_pr9
            rw [gs_inc_map]
theorem gs_dl_map {t f : Int} : (gs_dl I t f).map Prod.fst = gs_cl I t f := by
  unfold gs_dl gs_cl
  rw [fo_ll_map]
  rfl
theorem gs_qtw_ptw : gs_pr9 (gs_qtw β N I J p) = gs_ptw β N I J p := by
  have e2 : ∀ (V : List fo_e) (q : Int), gs_pr9 (gs_qt2 β N I J V q) = gs_pt2 β N I J (V.map Prod.fst) q := fun V q => by
    unfold gs_qt2 gs_pt2
    by_cases c : gs_need β N 123 q < 0
    · rw [if_pos c, if_pos c]
      rfl
    · rw [if_neg c, if_neg c]
      exact gs_qc_pc _ _ _
  unfold gs_qtw gs_ptw
  by_cases c1 : gs_T β N p = 1
  · rw [if_pos c1, if_pos c1]
    by_cases c2 : 0 ≤ gs_lt J 23 (24 * I 0 6) (I 17 (Int.toNat (I 0 6))) (gs_rn β N p)
    · rw [if_pos c2, if_pos c2]
      rfl
    · rw [if_neg c2, if_neg c2]
      unfold gs_qt1 gs_pt1
      by_cases c3 : gs_kw β N (gs_X β N p) (gs_W 94) = 1
      · rw [if_pos c3, if_pos c3]
        unfold gs_qtO gs_ptO
        by_cases c4 : gs_T β N (gs_X β N (gs_X β N p)) = 1
        · rw [if_pos c4, if_pos c4]
          unfold gs_qtP gs_ptP
          by_cases c5 : gs_lt J 23 (24 * I 0 6) (I 17 (Int.toNat (I 0 6))) (gs_rn β N (gs_X β N (gs_X β N p))) < 0
          · rw [if_pos c5, if_pos c5]
            rfl
          · rw [if_neg c5, if_neg c5, e2, gs_dl_map]
        · rw [if_neg c4, if_neg c4]
          rfl
      · rw [if_neg c3, if_neg c3]
        exact e2 _ _
  · rw [if_neg c1, if_neg c1]
    rfl
theorem gs_pat_x2 {first c : Int} {V : List fo_e} (h : gs_qtw β N I J p = (c, V)) (hc : c < 0) : gs_pat β N I J first p = c := gs_pat_x (V := V.map Prod.fst) (by rw [← gs_qtw_ptw, h]; rfl) hc
theorem gs_pat_e2 {first c n : Int} {V : List fo_e} (h : gs_qtw β N I J p = (c, V)) (hc : ¬ c < 0) (hn : (V.length : Int) = n) : gs_pat β N I J first p = gs_pt4 β N I first n (gs_need β N 125 c) := gs_pat_e (V := V.map Prod.fst) (by rw [← gs_qtw_ptw, h]; rfl) hc (by rw [List.length_map]; exact hn)
theorem gs_ptw_2 {c : Int} {V : List fo_e} (h : gs_qtw β N I J p = (c, V)) : (gs_ptw β N I J p).2 = V.map Prod.fst := by
  rw [← gs_qtw_ptw, h]
  rfl
/-! the reference's new CELLS: rows 64 to 66 -/
def gs_en9 (I : gr_I) (j : Nat) : fo_e := (I 64 j, fo_rx (I 51) (I 35) (I 65 j) (I 66 j))
def gs_eok (I : gr_I) (n : Int) : Prop := ∀ j : Nat, (j : Int) < n → fo_okr (I 0 59) (I 0 42) (I 51) (I 35) (I 65 j) (I 66 j)
theorem gs_en_kp {j : Nat} (h : fo_okr (I 0 59) (I 0 42) (I 51) (I 35) (I 65 j) (I 66 j)) (l : gr_LKs I Iₚ) (l2 : gr_PTs I Iₚ) (e4 : Iₚ 64 j = I 64 j) (e5 : Iₚ 65 j = I 65 j) (e6 : Iₚ 66 j = I 66 j) : gs_en9 Iₚ j = gs_en9 I j ∧ fo_okr (Iₚ 0 59) (Iₚ 0 42) (Iₚ 51) (Iₚ 35) (Iₚ 65 j) (Iₚ 66 j) := by
  unfold gs_en9
  rw [e4, e5, e6]
  exact ⟨congrArg (Prod.mk (I 64 j)) (fo_rx_kp h l.2 l2.2), fo_okr_kp h l.2 l2.2 l.1 l2.1⟩
theorem gs_ens_kp (h : gs_eok I n) (l : gr_LKs I Iₚ) (l2 : gr_PTs I Iₚ) (e4 : ∀ j, Iₚ 64 j = I 64 j) (e5 : ∀ j, Iₚ 65 j = I 65 j) (e6 : ∀ j, Iₚ 66 j = I 66 j) : fo_ll (gs_en9 Iₚ) n = fo_ll (gs_en9 I) n ∧ gs_eok Iₚ n := ⟨fo_ll_eq (fun j hj => (gs_en_kp (h j hj) l l2 (e4 j) (e5 j) (e6 j)).1), fun j hj => (gs_en_kp (h j hj) l l2 (e4 j) (e5 j) (e6 j)).2⟩
/-- the CELLS of the PATTERN that is named have come: v of them -/
def gs_cp9 (I I1 : gr_I) (b v : Int) : Prop := ∀ j : Nat, (j : Int) < v → I1 64 j = I 32 (Int.toNat (b + (j : Int))) ∧ I1 65 j = I 33 (Int.toNat (b + (j : Int))) ∧ I1 66 j = I 34 (Int.toNat (b + (j : Int)))
theorem gs_cp9_e {b : Int} (h : gs_cp9 I I1 b n) (ok : gs_dok I b n) (l : gr_LKs I I1) (l2 : gr_PTs I I1) : fo_ll (gs_en9 I1) n = fo_ll (gs_de9 I b) n ∧ gs_eok I1 n := by
  have g : ∀ j : Nat, (j : Int) < n → gs_en9 I1 j = gs_de9 I b j ∧ fo_okr (I1 0 59) (I1 0 42) (I1 51) (I1 35) (I1 65 j) (I1 66 j) := fun j hj => by
    obtain ⟨a, c, d⟩ := h j hj
    have o := ok (j : Int) (by omega) hj
    unfold gs_en9 gs_de9
    rw [a, c, d]
    exact ⟨congrArg (Prod.mk _) (fo_rx_kp o l.2 l2.2), fo_okr_kp o l.2 l2.2 l.1 l2.1⟩
  exact ⟨fo_ll_eq (fun j hj => (g j hj).1), fun j hj => (g j hj).2⟩
/-- the CELLS of all PATTERNS are good -/
def gs_PDa (I : gr_I) : Prop := (∀ i : Int, 0 ≤ i → i < 8 → 0 ≤ I 17 (Int.toNat i) ∧ I 17 (Int.toNat i) ≤ 24) ∧ ∀ i f : Int, 0 ≤ i → i < 8 → 0 ≤ f → f < I 17 (Int.toNat i) → (0 ≤ I 31 (Int.toNat (24 * i + f)) ∧ I 31 (Int.toNat (24 * i + f)) ≤ 24) ∧ gs_dok I (24 * (24 * i + f)) (I 31 (Int.toNat (24 * i + f)))
theorem gs_PDa_kp (h : gs_PDa I) (l : gr_LKs I Iₚ) (l2 : gr_PTs I Iₚ) (e17 : ∀ k, Iₚ 17 k = I 17 k) (e31 : ∀ k, Iₚ 31 k = I 31 k) (e33 : ∀ k, Iₚ 33 k = I 33 k) (e34 : ∀ k, Iₚ 34 k = I 34 k) : gs_PDa Iₚ := by
  refine ⟨fun i i0 i1 => by rw [e17]; exact h.1 i i0 i1, fun i f i0 i1 f0 f1 => ?_⟩
  rw [e17] at f1
  rw [e31]
  obtain ⟨a, b⟩ := h.2 i f i0 i1 f0 f1
  exact ⟨a, fun j j0 j1 => by rw [e33, e34]; exact fo_okr_kp (b j j0 j1) l.2 l2.2 l.1 l2.1⟩
/-- a CELL's VALUES have come to place k, where its parts begin too; which FORM it has is to come -/
def gs_h9 (V : List fo_e) (I : gr_I) (n k x : Int) : Prop := gs_hol V (gs_en9 I) n k x ∧ (∀ j : Nat, (j : Int) < n → ¬ j = Int.toNat k → fo_okr (I 0 59) (I 0 42) (I 51) (I 35) (I 65 j) (I 66 j)) ∧ I 64 (Int.toNat k) = x
theorem gs_h9_mk {n9 : Int} {a b : Nat} (h : gs_eok I n) (l : gr_LKs I I2) (l2 : gr_PTs I I2) (hk : 0 ≤ k) (h0 : ∀ j : Nat, j < Int.toNat k → ¬ I 64 j = x) (hc : (k < n ∧ I 64 (Int.toNat k) = x ∧ n9 = n) ∨ (k = n ∧ n9 = n + 1)) (ha : a = Int.toNat k) (pa : ∀ b j, ¬ (b = 64 ∧ j = a) → I1 b j = I b j) (qa : I1 64 a = x) (hb : b = Int.toNat k) (pb : ∀ c j, ¬ (c = 65 ∧ j = b) → I2 c j = I1 c j) : gs_h9 (fo_ll (gs_en9 I) n) I2 n9 k x := by
  subst ha
  subst hb
  have e4 : ∀ j, ¬ j = Int.toNat k → I2 64 j = I 64 j := fun j hj => (pb 64 j (fun q => absurd q.1 (by first | exact gz_ne rfl | decide))).trans (pa 64 j (fun q => hj q.2))
  have e5 : ∀ j, ¬ j = Int.toNat k → I2 65 j = I 65 j := fun j hj => (pb 65 j (fun q => hj q.2)).trans (pa 65 j (fun q => absurd q.1 (by first | exact gz_ne rfl | decide)))
  have e6 : ∀ j, I2 66 j = I 66 j := fun j => (pb 66 j (fun q => absurd q.1 (by first | exact gz_ne rfl | decide))).trans (pa 66 j (fun q => absurd q.1 (by first | exact gz_ne rfl | decide)))
  have g : ∀ j : Nat, (j : Int) < n9 → ¬ j = Int.toNat k → gs_en9 I2 j = gs_en9 I j ∧ fo_okr (I2 0 59) (I2 0 42) (I2 51) (I2 35) (I2 65 j) (I2 66 j) := fun j h1 h2 => gs_en_kp (h j (by omega)) l l2 (e4 j h2) (e5 j h2) (e6 j)
  refine ⟨?_, fun j h1 h2 => (g j h1 h2).2, (pb 64 _ (fun q => absurd q.1 (by first | exact gz_ne rfl | decide))).trans qa⟩
  rcases hc with ⟨c1, c2, c3⟩ | ⟨c1, c2⟩
  · subst c3
    exact gs_hol_old rfl ⟨hk, c1⟩ (fun j hj => h0 j (by omega)) c2 (fun j h1 h2 => (g j h1 h2).1)
  · subst c1
    exact gs_hol_new rfl ⟨hk, c2⟩ (fun j hj => h0 j (by omega)) (fun j h1 h2 => (g j h1 h2).1)
theorem gs_h9_kp (h : gs_h9 V I n k x) (l : gr_LKs I Iₚ) (l2 : gr_PTs I Iₚ) (e4 : ∀ j, Iₚ 64 j = I 64 j) (e5 : ∀ j, Iₚ 65 j = I 65 j) (e6 : ∀ j, Iₚ 66 j = I 66 j) : gs_h9 V Iₚ n k x := by
  have g : ∀ j : Nat, (j : Int) < n → ¬ j = Int.toNat k → gs_en9 Iₚ j = gs_en9 I j ∧ fo_okr (Iₚ 0 59) (Iₚ 0 42) (Iₚ 51) (Iₚ 35) (Iₚ 65 j) (Iₚ 66 j) := fun j h1 h2 => gs_en_kp (h.2.1 j h1 h2) l l2 (e4 j) (e5 j) (e6 j)
  exact ⟨gs_hol_kp h.1 (fun j h1 h2 => (g j h1 h2).1), fun j h1 h2 => (g j h1 h2).2, (e4 _).trans h.2.2⟩
/-- the FORM has come too -/
theorem gs_h9_put {a : Nat} (h : gs_h9 V I n k x) (hk : 0 ≤ k) (ha : a = Int.toNat k) (pa : ∀ b j, ¬ (b = 66 ∧ j = a) → Iₚ b j = I b j) (hc : fo_rx (I 51) (I 35) (I 65 (Int.toNat k)) (Iₚ 66 a) = c) (ok : fo_okr (I 0 59) (I 0 42) (I 51) (I 35) (I 65 (Int.toNat k)) (Iₚ 66 a)) : fo_ll (gs_en9 Iₚ) n = gs_inc V (x, c) ∧ gs_eok Iₚ n := by
  subst ha
  have o : ∀ b j, ¬ b = 66 → Iₚ b j = I b j := fun b j hb => pa b j (fun q => hb q.1)
  have f51 : Iₚ 51 = I 51 := funext fun j => o 51 j (by decide)
  have f35 : Iₚ 35 = I 35 := funext fun j => o 35 j (by decide)
  have en : ∀ j : Nat, gs_en9 Iₚ j = (I 64 j, fo_rx (I 51) (I 35) (I 65 j) (Iₚ 66 j)) := fun j => by
    unfold gs_en9
    rw [f51, f35, o 64 j (by decide), o 65 j (by decide)]
  refine ⟨gs_hol_put h.1 (by rw [en, h.2.2, hc]) (fun j h1 h2 => by rw [en, pa 66 j (fun q => h2 q.2)]; rfl), fun j hj => ?_⟩
  rw [f51, f35, o 0 59 (by decide), o 0 42 (by decide), o 65 j (by decide)]
  by_cases c9 : j = Int.toNat k
  · rw [c9]
    exact ok
  · rw [pa 66 j (fun q => c9 q.2)]
    exact h.2.1 j hj c9
/-- what pattern() leaves of FORMS -/
def gs_Uct (β : Int → Int) (N : Int) (I : gr_I) (J : gr_J) (p : Int) (Iₚ : gr_I) : Prop := fo_ll (gs_de9 Iₚ (24 * (24 * I 0 6 + I 17 (Int.toNat (I 0 6))))) (Iₚ 31 (gs_Pn I)) = (gs_qtw β N I J p).2 ∧ gs_dok Iₚ (24 * (24 * I 0 6 + I 17 (Int.toNat (I 0 6)))) (Iₚ 31 (gs_Pn I)) ∧ (∀ j : Nat, (j < 24 * gs_Pn I ∨ 24 * gs_Pn I + 24 ≤ j) → Iₚ 33 j = I 33 j ∧ Iₚ 34 j = I 34 j) ∧ ((0 ≤ I 0 6 ∧ I 0 6 < 8) ∧ 0 ≤ I 17 (Int.toNat (I 0 6)) ∧ I 17 (Int.toNat (I 0 6)) < 24) ∧ 0 ≤ Iₚ 31 (gs_Pn I) ∧ Iₚ 31 (gs_Pn I) ≤ 24
def gs_Uc9 (I Iₚ : gr_I) (m : Nat) : Prop := (∀ j : Nat, j < m → Iₚ 33 (24 * gs_Pn I + j) = Iₚ 65 j ∧ Iₚ 34 (24 * gs_Pn I + j) = Iₚ 66 j) ∧ ∀ j : Nat, (j < 24 * gs_Pn I ∨ 24 * gs_Pn I + m ≤ j) → Iₚ 33 j = I 33 j ∧ Iₚ 34 j = I 34 j
theorem gs_Uc9_0 (h : ∀ j, Iₚ 33 j = I 33 j ∧ Iₚ 34 j = I 34 j) : gs_Uc9 I Iₚ 0 := ⟨fun j hj => absurd hj (by omega), fun j _ => h j⟩
theorem gs_Uc9_s {m a b d : Nat} (h : gs_Uc9 I Iₚ m) (pa : ∀ x j, ¬ (x = 32 ∧ j = a) → I1 x j = Iₚ x j) (hb : b = 24 * gs_Pn I + m) (pb : ∀ x j, ¬ (x = 33 ∧ j = b) → I2 x j = I1 x j) (qb : I2 33 b = I1 65 m) (hd : d = 24 * gs_Pn I + m) (pd : ∀ x j, ¬ (x = 34 ∧ j = d) → I3 x j = I2 x j) (qd : I3 34 d = I2 66 m) : gs_Uc9 I I3 (m + 1) := by
  subst hb
  subst hd
  have e3 : ∀ j, I3 33 j = I2 33 j := fun j => pd 33 j (fun q => absurd q.1 (by first | exact gz_ne rfl | decide))
  have e5 : ∀ j, I3 65 j = Iₚ 65 j := fun j => (pd 65 j (fun q => absurd q.1 (by first | exact gz_ne rfl | decide))).trans ((pb 65 j (fun q => absurd q.1 (by first | exact gz_ne rfl | decide))).trans (pa 65 j (fun q => absurd q.1 (by first | exact gz_ne rfl | decide))))
  have e6 : ∀ j, I3 66 j = Iₚ 66 j := fun j => (pd 66 j (fun q => absurd q.1 (by first | exact gz_ne rfl | decide))).trans ((pb 66 j (fun q => absurd q.1 (by first | exact gz_ne rfl | decide))).trans (pa 66 j (fun q => absurd q.1 (by first | exact gz_ne rfl | decide))))
  have n3 : ∀ j, ¬ j = 24 * gs_Pn I + m → I3 33 j = Iₚ 33 j := fun j hj => (e3 j).trans ((pb 33 j (fun q => hj q.2)).trans (pa 33 j (fun q => absurd q.1 (by first | exact gz_ne rfl | decide))))
  have n4 : ∀ j, ¬ j = 24 * gs_Pn I + m → I3 34 j = Iₚ 34 j := fun j hj => (pd 34 j (fun q => hj q.2)).trans ((pb 34 j (fun q => absurd q.1 (by first | exact gz_ne rfl | decide))).trans (pa 34 j (fun q => absurd q.1 (by first | exact gz_ne rfl | decide))))
  refine ⟨fun j hj => ?_, fun j hj => ?_⟩
  · by_cases c : j = m
    · subst c
      rw [e3, qb, qd, e5, e6, pa 65 j (fun q => absurd q.1 (by first | exact gz_ne rfl | decide)), pb 66 j (fun q => absurd q.1 (by first | exact gz_ne rfl | decide)), pa 66 j (fun q => absurd q.1 (by first | exact gz_ne rfl | decide))]
      exact ⟨rfl, rfl⟩
    · rw [n3 _ (by omega), n4 _ (by omega), e5, e6]
      exact h.1 j (by omega)
  · rw [n3 _ (by omega), n4 _ (by omega)]
    exact h.2 j (by omega)
theorem gs_Uct_mk {w : Int64} {m : Nat} (u : gs_Upm w n m I J Iₚ Jₚ) (h : gs_Uc9 I Iₚ m) (hm : (m : Int) = n) (h24 : n ≤ 24) (hb : (0 ≤ I 0 6 ∧ I 0 6 < 8) ∧ 0 ≤ I 17 (Int.toNat (I 0 6)) ∧ I 17 (Int.toNat (I 0 6)) < 24) (hV : (gs_qtw β N I J p).2 = fo_ll (gs_en9 Iₚ) n) (ok : gs_eok Iₚ n) : gs_Uct β N I J p Iₚ := by
  obtain ⟨_, _, _, _, e31, _, e32, _⟩ := u
  have ix : ∀ j : Nat, Int.toNat (24 * (24 * I 0 6 + I 17 (Int.toNat (I 0 6))) + (j : Int)) = 24 * gs_Pn I + j := fun j => by
    unfold gs_Pn
    omega
  refine ⟨?_, fun j j0 j1 => ?_, fun j hj => h.2 j (by omega), hb, by rw [e31]; omega⟩
  · rw [e31, hV]
    refine fo_ll_eq (fun j hj => ?_)
    unfold gs_de9 gs_en9
    rw [ix, e32 j (by omega), (h.1 j (by omega)).1, (h.1 j (by omega)).2]
  · rw [e31] at j1
    have e := ix (Int.toNat j)
    rw [show ((Int.toNat j : Nat) : Int) = j from by omega] at e
    rw [e, (h.1 (Int.toNat j) (by omega)).1, (h.1 (Int.toNat j) (by omega)).2]
    exact ok (Int.toNat j) (by omega)
end L9
