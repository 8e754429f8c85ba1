/-! PARITY: WORD -/
theorem gs_ov_eq {β : Int → Int} {N : Int} {I I' : gr_I} {J J' : gr_J} {k p : Int} (h6 : I' 0 6 = I 0 6) (h14 : ∀ k, I' 14 k = I 14 k) (h24 : ∀ k, I' 24 k = I 24 k) (h25 : ∀ k, I' 25 k = I 25 k) (h21 : ∀ k, J' 21 k = J 21 k) : gs_ov β N I' J' k p = gs_ov β N I J k p ∧ gs_ovk β N I' J' k p = gs_ovk β N I J k p := by
  have e : gs_vl9 β N I' J' p = gs_vl9 β N I J p := by
    unfold gs_vl9
    rw [h14, h6]
    exact gs_lt_eq h21 rfl rfl rfl
  unfold gs_ov gs_ovk
  rw [e]
  unfold gs_ov2 gs_ovk2
  rw [h6, h24, h25]
  exact ⟨rfl, rfl⟩
def gs_stm (β : Int → Int) (N : Int) : Nat → Int → Int
  | 0, q => q
  | m + 1, q => if gs_T β N q = 3 then gs_stm β N m (gs_X β N q) else q
theorem gs_stm_s {β : Int → Int} {N n q : Int} (hn : n < 3) (h : gs_T β N q = 3) : gs_stm β N (Int.toNat (3 - n)) q = gs_stm β N (Int.toNat (3 - (n + 1))) (gs_X β N q) := by
  rw [show Int.toNat (3 - n) = Int.toNat (3 - (n + 1)) + 1 from by omega]
  show (if _ then _ else _) = _
  rw [if_pos h]
theorem gs_stm_e {β : Int → Int} {N n q : Int} (h : ¬ gs_T β N q = 3 ∨ 3 ≤ n) : gs_stm β N (Int.toNat (3 - n)) q = q := by
  by_cases c : 3 ≤ n
  · rw [show Int.toNat (3 - n) = 0 from by omega]
    rfl
  · rw [show Int.toNat (3 - n) = Int.toNat (3 - (n + 1)) + 1 from by omega]
    show (if _ then _ else _) = _
    rw [if_neg (h.resolve_right c)]
/-- the VALUES of a WORD; fi: the first is still to come -/
def gs_hv (β : Int → Int) (N : Int) (I : gr_I) (J : gr_J) : Nat → Int → Int → Int → Int
  | 0, _, _, q => q
  | m + 1, fi, k, q => if gs_T β N q = 1 ∧ (¬ fi = 0 ∨ ¬ gs_rn β N q = gs_W 92) then (if gs_ov β N I J k q < 0 then gs_ov β N I J k q else gs_hv β N I J m 0 (gs_ovk β N I J k q) (gs_ov β N I J k q)) else q
theorem gs_hv_s {β : Int → Int} {N : Int} {I : gr_I} {J : gr_J} {m : Nat} {fi k q : Int} (h : gs_T β N q = 1) (g : ¬ fi = 0 ∨ ¬ gs_rn β N q = gs_W 92) (u : ¬ gs_ov β N I J k q < 0) : gs_hv β N I J (m + 1) fi k q = gs_hv β N I J m 0 (gs_ovk β N I J k q) (gs_ov β N I J k q) := by
  show (if _ then _ else _) = _
  rw [if_pos ⟨h, g⟩, if_neg u]
theorem gs_hv_x {β : Int → Int} {N : Int} {I : gr_I} {J : gr_J} {m : Nat} {fi k q : Int} (h : gs_T β N q = 1) (g : ¬ fi = 0 ∨ ¬ gs_rn β N q = gs_W 92) (u : gs_ov β N I J k q < 0) : gs_hv β N I J (m + 1) fi k q = gs_ov β N I J k q := by
  show (if _ then _ else _) = _
  rw [if_pos ⟨h, g⟩, if_pos u]
theorem gs_hv_e {β : Int → Int} {N : Int} {I : gr_I} {J : gr_J} {m : Nat} {fi k q : Int} (h : ¬ gs_T β N q = 1 ∨ (fi = 0 ∧ gs_rn β N q = gs_W 92)) : gs_hv β N I J m fi k q = q := by
  cases m with
  | zero => rfl
  | succ m =>
    show (if _ then _ else _) = _
    rw [if_neg (fun c => h.elim (fun a => a c.1) (fun a => c.2.elim (fun b => b a.1) (fun b => b a.2)))]
def gs_wd6 (β : Int → Int) (N : Int) (I : gr_I) (first q : Int) : Int := gs_done β N (if I 18 (Int.toNat (I 0 6)) < 64 then 1 else 0) first q
def gs_wd5 (β : Int → Int) (N : Int) (I : gr_I) (first q : Int) : Int := if q < 0 then q else if gs_cost β N q < 0 then gs_cost β N q else gs_wd6 β N I first (gs_cost β N q)
def gs_wd4 (β : Int → Int) (N : Int) (I : gr_I) (J : gr_J) (first q : Int) : Int := if gs_T β N q = 1 then gs_wd5 β N I first (gs_hv β N I J 1002 1 0 q) else -1 - gs_A β N q
def gs_wd3 (β : Int → Int) (N : Int) (I : gr_I) (J : gr_J) (first q : Int) : Int := if gs_kw β N q (gs_W 93) = 1 then gs_wd4 β N I J first (gs_X β N q) else gs_wd5 β N I first q
def gs_wd2 (β : Int → Int) (N : Int) (I : gr_I) (J : gr_J) (first q : Int) : Int := if gs_T β N q = 3 then gs_wd3 β N I J first (gs_stm β N 3 q) else -1 - gs_A β N q
def gs_wd1 (β : Int → Int) (N : Int) (I : gr_I) (J : gr_J) (first q : Int) : Int := if gs_T β N q = 1 then (if gs_lt J 23 (24 * I 0 6) (I 17 (Int.toNat (I 0 6))) (gs_rn β N q) < 0 then -1 - gs_A β N q else gs_wd2 β N I J first (gs_X β N q)) else -1 - gs_A β N q
def gs_wd0 (β : Int → Int) (N : Int) (I : gr_I) (J : gr_J) (first f p : Int) : Int := if f < 0 ∨ 0 < I 6 (Int.toNat f) then -1 - gs_A β N p else gs_wd1 β N I J first (gs_X β N p)
/-- WORD: its function by name, its PATTERN, stems, VALUES, cost -/
def gs_wd (β : Int → Int) (N : Int) (I : gr_I) (J : gr_J) (first p : Int) : Int := if gs_T β N p = 1 then gs_wd0 β N I J first (gs_lk I J 3 3 (gs_rn β N p)) p else -1 - gs_A β N p
set_option maxHeartbeats 16000000 in
set_option maxRecDepth 100000 in
theorem r_wordOf_p {ws0 : List Cond} {tb : String → gz_T} (hws : ∀ w ∈ gr_ws, w ∈ ws0) (htb : tb RX13 = gr_T) (ext : gz_Sh) (I9 : gr_I) (β : Int → Int) (N9 : Int) (p9 : Int) (I : gr_I) (J : gr_J) (hI : gr_Inv I)   (x0 : I 0 71 = 5 ∨ I 0 73 ≤ I 0 69) (x1 : I 0 72 ≤ I 0 69) (x2 : I 0 71 = 0 ∨ (I 0 72 < I 0 73 ∧ I 0 72 < I 0 69)) (x3 : I 0 71 = 3 → 2 ≤ I 0 73 - I 0 72 ∧ I 0 73 - I 0 72 ≤ 14) (x4 : I 0 72 ≤ I 0 73) (x5 : 0 ≤ I 0 6) (x6 : I 0 59 + I 0 69 - I 0 72 ≤ 1900) (x7 : gr_ATp β N9 p9 I J) (x8 : 0 ≤ p9) (x9 : gr_KW J) (KGR_I : gr_GR I) (KST_I : gr_ST I9 I) : ∃ r h', gz_Ev ws0 tb 12 (yX13_wordOf, cX13_wordOf, 7, (some .boolean)) [.inr (.inr (some 0))] (gr_sh ++ ext) (gr_h I J) r (gr_sh ++ ext) h' 0 0 ∧ (∃ (I' : gr_I) (J' : gr_J), h' = gr_h I' J' ∧ gr_Inv I' ∧ gr_fr [59, 71, 72, 73, 74, 75, 76, 77, 101, 106] [18, 36, 37, 38, 39, 40, 51, 67] I I' ∧ gr_fj [59, 71, 72, 73, 74, 75, 76, 77, 101, 106] [18, 36, 37, 38, 39, 40, 51, 67] J J' ∧ gr_GR I' ∧ gr_ST I9 I' ∧ (∃ z : Int, r = some (.inl z) ∧ 0 ≤ z ∧ z ≤ 1 ∧ (I' 0 71 = 5 ∨ I' 0 73 ≤ I' 0 69) ∧ (I' 0 72 ≤ I' 0 69) ∧ (I' 0 71 = 0 ∨ (I' 0 72 < I' 0 73 ∧ I' 0 72 < I' 0 69)) ∧ (I' 0 71 = 3 → 2 ≤ I' 0 73 - I' 0 72 ∧ I' 0 73 - I' 0 72 ≤ 14) ∧ (I' 0 72 ≤ I' 0 73) ∧ (I' 0 69 = I 0 69) ∧ (I 0 73 ≤ I' 0 73) ∧ (I 0 72 ≤ I' 0 72) ∧ (I' 0 59 - I' 0 72 ≤ I 0 59 - I 0 72) ∧ (gs_Or z (0 ≤ (gs_wd β N9 I J (I 0 78) p9) ∧ gr_ATp β N9 (gs_wd β N9 I J (I 0 78) p9) I' J' ∧ (I' 18 (Int.toNat (I 0 6)) = I 18 (Int.toNat (I 0 6)) + 1 ∧ ∀ j, ¬ j = (Int.toNat (I 0 6)) → I' 18 j = I 18 j)) ((gs_wd β N9 I J (I 0 78) p9) < 0 ∧ I' 0 77 = -1 - (gs_wd β N9 I J (I 0 78) p9) ∧ ∀ j, I' 18 j = I 18 j)))) := by
  have FI : gr_fr [59, 71, 72, 73, 74, 75, 76, 77, 101, 106] [18, 36, 37, 38, 39, 40, 51, 67] I I := fun _ _ _ => rfl
  have FJ : gr_fj [59, 71, 72, 73, 74, 75, 76, 77, 101, 106] [18, 36, 37, 38, 39, 40, 51, 67] J J := fun _ _ _ => rfl
  have hD : gv_D (gr_E ws0 tb 11 (yX13_wordOf, cX13_wordOf, 7, (some .boolean)) kX13_wordOf) := gq_ok oX13_wordOf
  refine gr_ev (d := 11) (l := kX13_wordOf) (Po := fun r h' => (∃ (I' : gr_I) (J' : gr_J), h' = gr_h I' J' ∧ gr_Inv I' ∧ gr_fr [59, 71, 72, 73, 74, 75, 76, 77, 101, 106] [18, 36, 37, 38, 39, 40, 51, 67] I I' ∧ gr_fj [59, 71, 72, 73, 74, 75, 76, 77, 101, 106] [18, 36, 37, 38, 39, 40, 51, 67] J J' ∧ gr_GR I' ∧ gr_ST I9 I' ∧ (∃ z : Int, r = some (.inl z) ∧ 0 ≤ z ∧ z ≤ 1 ∧ (I' 0 71 = 5 ∨ I' 0 73 ≤ I' 0 69) ∧ (I' 0 72 ≤ I' 0 69) ∧ (I' 0 71 = 0 ∨ (I' 0 72 < I' 0 73 ∧ I' 0 72 < I' 0 69)) ∧ (I' 0 71 = 3 → 2 ≤ I' 0 73 - I' 0 72 ∧ I' 0 73 - I' 0 72 ≤ 14) ∧ (I' 0 72 ≤ I' 0 73) ∧ (I' 0 69 = I 0 69) ∧ (I 0 73 ≤ I' 0 73) ∧ (I 0 72 ≤ I' 0 72) ∧ (I' 0 59 - I' 0 72 ≤ I 0 59 - I 0 72) ∧ (gs_Or z (0 ≤ (gs_wd β N9 I J (I 0 78) p9) ∧ gr_ATp β N9 (gs_wd β N9 I J (I 0 78) p9) I' J' ∧ (I' 18 (Int.toNat (I 0 6)) = I 18 (Int.toNat (I 0 6)) + 1 ∧ ∀ j, ¬ j = (Int.toNat (I 0 6)) → I' 18 j = I 18 j)) ((gs_wd β N9 I J (I 0 78) p9) < 0 ∧ I' 0 77 = -1 - (gs_wd β N9 I J (I 0 78) p9) ∧ ∀ j, I' 18 j = I 18 j))))) htb rfl (Nat.le_of_ble_eq_true rfl) ?_
  have tAT := gr_ATp_l x7
  clear x0 x2 x3
  have KW := x9
  have f1 := (show 0 ≤ I 0 71 ∧ I 0 71 ≤ 5 from (hI 0 71).1)
  have f2 := (show 0 ≤ I 0 72 ∧ I 0 72 ≤ 1000 from (hI 0 72).1)
  have f3 := (show 0 ≤ I 0 73 ∧ I 0 73 ≤ 1001 from (hI 0 73).1)
  have f4 := (show 0 ≤ I 0 69 ∧ I 0 69 ≤ 1000 from (hI 0 69).1)
  have f5 := (show (-1) ≤ I 0 6 ∧ I 0 6 ≤ 7 from (hI 0 6).1)
  have f6 := (show 0 ≤ I 0 59 ∧ I 0 59 ≤ 2000 from (hI 0 59).1)
  have f7 := (show 0 ≤ I 0 3 ∧ I 0 3 ≤ 96 from (hI 0 3).1)
  have f8 := (show 0 ≤ I 0 106 ∧ I 0 106 ≤ 16777215 from (hI 0 106).1)
  have L50 : ∀ (I10 : gr_I) (J11 : gr_J) (v1_12 : Int) (v2_12 : Int) (p_12 : Int), gr_Inv I10 → gr_fr [59, 71, 72, 73, 74, 75, 76, 77, 101, 106] [18, 36, 37, 38, 39, 40, 51, 67] I I10 → gr_fj [59, 71, 72, 73, 74, 75, 76, 77, 101, 106] [18, 36, 37, 38, 39, 40, 51, 67] J J11 → gr_GR I10 → gr_ST I9 I10 → ((0 ≤ v1_12 ∧ v1_12 ≤ 7) ∧ (0 ≤ v2_12 ∧ v2_12 ≤ 95) ∧ (I10 6 (Int.toNat v2_12) = 0) ∧ (v2_12 < I10 0 3) ∧ (I10 0 71 = 1) ∧ (0 ≤ p_12) ∧ (I10 0 72 ≤ I10 0 69) ∧ (I10 0 72 ≤ I10 0 73) ∧ (I10 0 69 = I 0 69) ∧ (I 0 73 ≤ I10 0 73) ∧ (I 0 72 ≤ I10 0 72) ∧ (I10 0 6 = I 0 6) ∧ (I10 0 59 - I10 0 72 ≤ I 0 59 - I 0 72)) → (gr_ATp β N9 p_12 I10 J11) → ((gs_wd β N9 I J (I 0 78) p9) = gs_wd1 β N9 I J (I 0 78) (gs_X β N9 p_12)) → (v1_12 = I 0 6) → ((∀ k, I10 18 k = I 18 k)) → gv_X (gr_E ws0 tb 11 (yX13_wordOf, cX13_wordOf, 7, (some .boolean)) kX13_wordOf) (gv_Q cX13_wordOf (some .boolean) (gr_sh ++ ext) (fun r h' => (∃ (I' : gr_I) (J' : gr_J), h' = gr_h I' J' ∧ gr_Inv I' ∧ gr_fr [59, 71, 72, 73, 74, 75, 76, 77, 101, 106] [18, 36, 37, 38, 39, 40, 51, 67] I I' ∧ gr_fj [59, 71, 72, 73, 74, 75, 76, 77, 101, 106] [18, 36, 37, 38, 39, 40, 51, 67] J J' ∧ gr_GR I' ∧ gr_ST I9 I' ∧ (∃ z : Int, r = some (.inl z) ∧ 0 ≤ z ∧ z ≤ 1 ∧ (I' 0 71 = 5 ∨ I' 0 73 ≤ I' 0 69) ∧ (I' 0 72 ≤ I' 0 69) ∧ (I' 0 71 = 0 ∨ (I' 0 72 < I' 0 73 ∧ I' 0 72 < I' 0 69)) ∧ (I' 0 71 = 3 → 2 ≤ I' 0 73 - I' 0 72 ∧ I' 0 73 - I' 0 72 ≤ 14) ∧ (I' 0 72 ≤ I' 0 73) ∧ (I' 0 69 = I 0 69) ∧ (I 0 73 ≤ I' 0 73) ∧ (I 0 72 ≤ I' 0 72) ∧ (I' 0 59 - I' 0 72 ≤ I 0 59 - I 0 72) ∧ (gs_Or z (0 ≤ (gs_wd β N9 I J (I 0 78) p9) ∧ gr_ATp β N9 (gs_wd β N9 I J (I 0 78) p9) I' J' ∧ (I' 18 (Int.toNat (I 0 6)) = I 18 (Int.toNat (I 0 6)) + 1 ∧ ∀ j, ¬ j = (Int.toNat (I 0 6)) → I' 18 j = I 18 j)) ((gs_wd β N9 I J (I 0 78) p9) < 0 ∧ I' 0 77 = -1 - (gs_wd β N9 I J (I 0 78) p9) ∧ ∀ j, I' 18 j = I 18 j)))))) (50, [(0, .inr (.inr (some 0))), (1, .inl v1_12), (2, .inl v2_12)], [], gr_sh ++ ext, gr_h I10 J11) := by
    intro I10 J11 v1_12 v2_12 p_12 hI10 FI10 FJ11 KGR_I10 KST_I10 m_12 e4_12 e5_12 e6_12 e7_12
    obtain ⟨hv1_12, hv2_12, e0_12, e1_12, e2_12, e3_12, e8_12, e9_12, e10_12, e11_12, e12_12, e13_12, e14_12⟩ := m_12
    have q9_12 := e6_12
    subst q9_12
    have f13 := (show 0 ≤ I10 0 71 ∧ I10 0 71 ≤ 5 from (hI10 0 71).1)
    have f14 := (show 0 ≤ I10 0 72 ∧ I10 0 72 ≤ 1000 from (hI10 0 72).1)
    have f15 := (show 0 ≤ I10 0 73 ∧ I10 0 73 ≤ 1001 from (hI10 0 73).1)
    have f16 := (show 0 ≤ I10 0 69 ∧ I10 0 69 ≤ 1000 from (hI10 0 69).1)
    have f17 := (show (-1) ≤ I10 0 6 ∧ I10 0 6 ≤ 7 from (hI10 0 6).1)
    have f18 := (show 0 ≤ I10 0 59 ∧ I10 0 59 ≤ 2000 from (hI10 0 59).1)
    have f19 := (show 0 ≤ I10 0 3 ∧ I10 0 3 ≤ 96 from (hI10 0 3).1)
    have f20 := (show 0 ≤ I10 0 106 ∧ I10 0 106 ≤ 16777215 from (hI10 0 106).1)
    have t21 := gr_ATp_l e4_12
    have L95 : ∀ (I22 : gr_I) (J23 : gr_J) (v3_24 : Int) (p_24 : Int), gr_Inv I22 → gr_fr [59, 71, 72, 73, 74, 75, 76, 77, 101, 106] [18, 36, 37, 38, 39, 40, 51, 67] I I22 → gr_fj [59, 71, 72, 73, 74, 75, 76, 77, 101, 106] [18, 36, 37, 38, 39, 40, 51, 67] J J23 → gr_GR I22 → gr_ST I9 I22 → ((0 ≤ (I 0 6) ∧ (I 0 6) ≤ 7) ∧ (0 ≤ v2_12 ∧ v2_12 ≤ 95) ∧ (0 ≤ v3_24 ∧ v3_24 ≤ 23) ∧ (I22 6 (Int.toNat v2_12) = 0) ∧ (v2_12 < I22 0 3) ∧ (I22 0 71 = 1) ∧ (0 ≤ p_24) ∧ (I22 0 72 ≤ I22 0 69) ∧ (I22 0 72 ≤ I22 0 73) ∧ (I22 0 69 = I 0 69) ∧ (I 0 73 ≤ I22 0 73) ∧ (I 0 72 ≤ I22 0 72) ∧ (I22 0 6 = I 0 6) ∧ (I22 0 59 - I22 0 72 ≤ I 0 59 - I 0 72)) → (gr_ATp β N9 p_24 I22 J23) → ((gs_wd β N9 I J (I 0 78) p9) = gs_wd2 β N9 I J (I 0 78) (gs_X β N9 p_24)) → ((∀ k, I22 18 k = I 18 k)) → gv_X (gr_E ws0 tb 11 (yX13_wordOf, cX13_wordOf, 7, (some .boolean)) kX13_wordOf) (gv_Q cX13_wordOf (some .boolean) (gr_sh ++ ext) (fun r h' => (∃ (I' : gr_I) (J' : gr_J), h' = gr_h I' J' ∧ gr_Inv I' ∧ gr_fr [59, 71, 72, 73, 74, 75, 76, 77, 101, 106] [18, 36, 37, 38, 39, 40, 51, 67] I I' ∧ gr_fj [59, 71, 72, 73, 74, 75, 76, 77, 101, 106] [18, 36, 37, 38, 39, 40, 51, 67] J J' ∧ gr_GR I' ∧ gr_ST I9 I' ∧ (∃ z : Int, r = some (.inl z) ∧ 0 ≤ z ∧ z ≤ 1 ∧ (I' 0 71 = 5 ∨ I' 0 73 ≤ I' 0 69) ∧ (I' 0 72 ≤ I' 0 69) ∧ (I' 0 71 = 0 ∨ (I' 0 72 < I' 0 73 ∧ I' 0 72 < I' 0 69)) ∧ (I' 0 71 = 3 → 2 ≤ I' 0 73 - I' 0 72 ∧ I' 0 73 - I' 0 72 ≤ 14) ∧ (I' 0 72 ≤ I' 0 73) ∧ (I' 0 69 = I 0 69) ∧ (I 0 73 ≤ I' 0 73) ∧ (I 0 72 ≤ I' 0 72) ∧ (I' 0 59 - I' 0 72 ≤ I 0 59 - I 0 72) ∧ (gs_Or z (0 ≤ (gs_wd β N9 I J (I 0 78) p9) ∧ gr_ATp β N9 (gs_wd β N9 I J (I 0 78) p9) I' J' ∧ (I' 18 (Int.toNat (I 0 6)) = I 18 (Int.toNat (I 0 6)) + 1 ∧ ∀ j, ¬ j = (Int.toNat (I 0 6)) → I' 18 j = I 18 j)) ((gs_wd β N9 I J (I 0 78) p9) < 0 ∧ I' 0 77 = -1 - (gs_wd β N9 I J (I 0 78) p9) ∧ ∀ j, I' 18 j = I 18 j)))))) (95, [(0, .inr (.inr (some 0))), (1, .inl (I 0 6)), (2, .inl v2_12), (3, .inl v3_24)], [], gr_sh ++ ext, gr_h I22 J23) := by
      intro I22 J23 v3_24 p_24 hI22 FI22 FJ23 KGR_I22 KST_I22 m_24 e4_24 e5_24 e6_24
      clear hv1_12 hv2_12 e0_12 e1_12 e2_12 e3_12 e8_12 e9_12 e10_12 e11_12 e12_12 e13_12 e14_12 f13 f14 f15 f16 f17 f18 f19 f20 t21
      obtain ⟨h_I_0_6__24, hv2_12_24, hv3_24, e0_24, e1_24, e2_24, e3_24, e7_24, e8_24, e9_24, e10_24, e11_24, e12_24, e13_24⟩ := m_24
      have f25 := (show 0 ≤ I22 0 71 ∧ I22 0 71 ≤ 5 from (hI22 0 71).1)
      have f26 := (show 0 ≤ I22 0 72 ∧ I22 0 72 ≤ 1000 from (hI22 0 72).1)
      have f27 := (show 0 ≤ I22 0 73 ∧ I22 0 73 ≤ 1001 from (hI22 0 73).1)
      have f28 := (show 0 ≤ I22 0 69 ∧ I22 0 69 ≤ 1000 from (hI22 0 69).1)
      have f29 := (show (-1) ≤ I22 0 6 ∧ I22 0 6 ≤ 7 from (hI22 0 6).1)
      have f30 := (show 0 ≤ I22 0 59 ∧ I22 0 59 ≤ 2000 from (hI22 0 59).1)
      have f31 := (show 0 ≤ I22 0 3 ∧ I22 0 3 ≤ 96 from (hI22 0 3).1)
      have f32 := (show 0 ≤ I22 0 106 ∧ I22 0 106 ≤ 16777215 from (hI22 0 106).1)
      have t33 := gr_ATp_l e4_24
      have L119 : ∀ (n : Nat) (I34 : gr_I) (J35 : gr_J) (v4_36 : Int) (v5_36 : Int) (p_36 : Int), (4 - v5_36).toNat < n → gr_Inv I34 → gr_fr [59, 71, 72, 73, 74, 75, 76, 77, 101, 106] [18, 36, 37, 38, 39, 40, 51, 67] I I34 → gr_fj [59, 71, 72, 73, 74, 75, 76, 77, 101, 106] [18, 36, 37, 38, 39, 40, 51, 67] J J35 → gr_GR I34 → gr_ST I9 I34 → ((0 ≤ (I 0 6) ∧ (I 0 6) ≤ 7) ∧ (0 ≤ v2_12 ∧ v2_12 ≤ 95) ∧ (0 ≤ v3_24 ∧ v3_24 ≤ 23) ∧ (0 ≤ v4_36 ∧ v4_36 ≤ 0) ∧ (0 ≤ v5_36 ∧ v5_36 ≤ 3) ∧ (I34 6 (Int.toNat v2_12) = 0) ∧ (v2_12 < I34 0 3) ∧ (v4_36 = 0) ∧ (0 ≤ p_36) ∧ (I34 0 72 ≤ I34 0 69) ∧ (I34 0 72 ≤ I34 0 73) ∧ (I34 0 69 = I 0 69) ∧ (I 0 73 ≤ I34 0 73) ∧ (I 0 72 ≤ I34 0 72) ∧ (I34 0 6 = I 0 6) ∧ (I34 0 59 - I34 0 72 ≤ I 0 59 - I 0 72)) → (gr_ATp β N9 p_36 I34 J35) → ((gs_wd β N9 I J (I 0 78) p9) = gs_wd3 β N9 I J (I 0 78) (gs_stm β N9 3 p_36)) → ((∀ k, I34 18 k = I 18 k)) → gv_X (gr_E ws0 tb 11 (yX13_wordOf, cX13_wordOf, 7, (some .boolean)) kX13_wordOf) (gv_Q cX13_wordOf (some .boolean) (gr_sh ++ ext) (fun r h' => (∃ (I' : gr_I) (J' : gr_J), h' = gr_h I' J' ∧ gr_Inv I' ∧ gr_fr [59, 71, 72, 73, 74, 75, 76, 77, 101, 106] [18, 36, 37, 38, 39, 40, 51, 67] I I' ∧ gr_fj [59, 71, 72, 73, 74, 75, 76, 77, 101, 106] [18, 36, 37, 38, 39, 40, 51, 67] J J' ∧ gr_GR I' ∧ gr_ST I9 I' ∧ (∃ z : Int, r = some (.inl z) ∧ 0 ≤ z ∧ z ≤ 1 ∧ (I' 0 71 = 5 ∨ I' 0 73 ≤ I' 0 69) ∧ (I' 0 72 ≤ I' 0 69) ∧ (I' 0 71 = 0 ∨ (I' 0 72 < I' 0 73 ∧ I' 0 72 < I' 0 69)) ∧ (I' 0 71 = 3 → 2 ≤ I' 0 73 - I' 0 72 ∧ I' 0 73 - I' 0 72 ≤ 14) ∧ (I' 0 72 ≤ I' 0 73) ∧ (I' 0 69 = I 0 69) ∧ (I 0 73 ≤ I' 0 73) ∧ (I 0 72 ≤ I' 0 72) ∧ (I' 0 59 - I' 0 72 ≤ I 0 59 - I 0 72) ∧ (gs_Or z (0 ≤ (gs_wd β N9 I J (I 0 78) p9) ∧ gr_ATp β N9 (gs_wd β N9 I J (I 0 78) p9) I' J' ∧ (I' 18 (Int.toNat (I 0 6)) = I 18 (Int.toNat (I 0 6)) + 1 ∧ ∀ j, ¬ j = (Int.toNat (I 0 6)) → I' 18 j = I 18 j)) ((gs_wd β N9 I J (I 0 78) p9) < 0 ∧ I' 0 77 = -1 - (gs_wd β N9 I J (I 0 78) p9) ∧ ∀ j, I' 18 j = I 18 j)))))) (119, [(0, .inr (.inr (some 0))), (1, .inl (I 0 6)), (2, .inl v2_12), (3, .inl v3_24), (4, .inl v4_36), (5, .inl v5_36)], [], gr_sh ++ ext, gr_h I34 J35) := by
        intro n
        induction n with
        | zero => intro I34 J35 v4_36 v5_36 p_36 hn; omega
        | succ n ih119 =>
          intro I34 J35 v4_36 v5_36 p_36 hn hI34 FI34 FJ35 KGR_I34 KST_I34 m_36 e4_36 e5_36 e6_36
          clear h_I_0_6__24 hv2_12_24 hv3_24 e0_24 e1_24 e2_24 e3_24 e7_24 e8_24 e9_24 e10_24 e11_24 e12_24 e13_24 f25 f26 f27 f28 f29 f30 f31 f32 t33
          obtain ⟨h_I_0_6__36, hv2_12_36, hv3_24_36, hv4_36, hv5_36, e0_36, e1_36, e2_36, e3_36, e7_36, e8_36, e9_36, e10_36, e11_36, e12_36, e13_36⟩ := m_36
          have f37 := (show 0 ≤ I34 0 71 ∧ I34 0 71 ≤ 5 from (hI34 0 71).1)
          have f38 := (show 0 ≤ I34 0 72 ∧ I34 0 72 ≤ 1000 from (hI34 0 72).1)
          have f39 := (show 0 ≤ I34 0 73 ∧ I34 0 73 ≤ 1001 from (hI34 0 73).1)
          have f40 := (show 0 ≤ I34 0 69 ∧ I34 0 69 ≤ 1000 from (hI34 0 69).1)
          have f41 := (show (-1) ≤ I34 0 6 ∧ I34 0 6 ≤ 7 from (hI34 0 6).1)
          have f42 := (show 0 ≤ I34 0 59 ∧ I34 0 59 ≤ 2000 from (hI34 0 59).1)
          have f43 := (show 0 ≤ I34 0 3 ∧ I34 0 3 ≤ 96 from (hI34 0 3).1)
          have f44 := (show 0 ≤ I34 0 106 ∧ I34 0 106 ≤ 16777215 from (hI34 0 106).1)
          have t45 := gr_ATp_l e4_36
          have L139 : ∀ (n : Nat) (I46 : gr_I) (J47 : gr_J) (v4_48 : Int) (p_48 : Int), (1001 - I46 0 72).toNat < n → gr_Inv I46 → gr_fr [59, 71, 72, 73, 74, 75, 76, 77, 101, 106] [18, 36, 37, 38, 39, 40, 51, 67] I I46 → gr_fj [59, 71, 72, 73, 74, 75, 76, 77, 101, 106] [18, 36, 37, 38, 39, 40, 51, 67] J J47 → gr_GR I46 → gr_ST I9 I46 → ((0 ≤ (I 0 6) ∧ (I 0 6) ≤ 7) ∧ (0 ≤ v2_12 ∧ v2_12 ≤ 95) ∧ (0 ≤ v3_24 ∧ v3_24 ≤ 23) ∧ (0 ≤ v4_48 ∧ v4_48 ≤ 3) ∧ (I46 6 (Int.toNat v2_12) = 0) ∧ (v2_12 < I46 0 3) ∧ (0 ≤ p_48) ∧ (I46 0 72 ≤ I46 0 69) ∧ (I46 0 72 ≤ I46 0 73) ∧ (I46 0 69 = I 0 69) ∧ (I 0 73 ≤ I46 0 73) ∧ (I 0 72 ≤ I46 0 72) ∧ (I46 0 6 = I 0 6) ∧ (I46 0 59 - I46 0 72 ≤ I 0 59 - I 0 72)) → (gr_ATp β N9 p_48 I46 J47) → ((gs_wd β N9 I J (I 0 78) p9) = gs_wd3 β N9 I J (I 0 78) (gs_stm β N9 (Int.toNat (3 - v4_48)) p_48)) → ((∀ k, I46 18 k = I 18 k)) → gv_X (gr_E ws0 tb 11 (yX13_wordOf, cX13_wordOf, 7, (some .boolean)) kX13_wordOf) (gv_Q cX13_wordOf (some .boolean) (gr_sh ++ ext) (fun r h' => (∃ (I' : gr_I) (J' : gr_J), h' = gr_h I' J' ∧ gr_Inv I' ∧ gr_fr [59, 71, 72, 73, 74, 75, 76, 77, 101, 106] [18, 36, 37, 38, 39, 40, 51, 67] I I' ∧ gr_fj [59, 71, 72, 73, 74, 75, 76, 77, 101, 106] [18, 36, 37, 38, 39, 40, 51, 67] J J' ∧ gr_GR I' ∧ gr_ST I9 I' ∧ (∃ z : Int, r = some (.inl z) ∧ 0 ≤ z ∧ z ≤ 1 ∧ (I' 0 71 = 5 ∨ I' 0 73 ≤ I' 0 69) ∧ (I' 0 72 ≤ I' 0 69) ∧ (I' 0 71 = 0 ∨ (I' 0 72 < I' 0 73 ∧ I' 0 72 < I' 0 69)) ∧ (I' 0 71 = 3 → 2 ≤ I' 0 73 - I' 0 72 ∧ I' 0 73 - I' 0 72 ≤ 14) ∧ (I' 0 72 ≤ I' 0 73) ∧ (I' 0 69 = I 0 69) ∧ (I 0 73 ≤ I' 0 73) ∧ (I 0 72 ≤ I' 0 72) ∧ (I' 0 59 - I' 0 72 ≤ I 0 59 - I 0 72) ∧ (gs_Or z (0 ≤ (gs_wd β N9 I J (I 0 78) p9) ∧ gr_ATp β N9 (gs_wd β N9 I J (I 0 78) p9) I' J' ∧ (I' 18 (Int.toNat (I 0 6)) = I 18 (Int.toNat (I 0 6)) + 1 ∧ ∀ j, ¬ j = (Int.toNat (I 0 6)) → I' 18 j = I 18 j)) ((gs_wd β N9 I J (I 0 78) p9) < 0 ∧ I' 0 77 = -1 - (gs_wd β N9 I J (I 0 78) p9) ∧ ∀ j, I' 18 j = I 18 j)))))) (139, [(0, .inr (.inr (some 0))), (1, .inl (I 0 6)), (2, .inl v2_12), (3, .inl v3_24), (4, .inl v4_48)], [], gr_sh ++ ext, gr_h I46 J47) := by
            intro n
            induction n with
            | zero => intro I46 J47 v4_48 p_48 hn; omega
            | succ n ih139 =>
              intro I46 J47 v4_48 p_48 hn hI46 FI46 FJ47 KGR_I46 KST_I46 m_48 e3_48 e4_48 e5_48
              clear h_I_0_6__36 hv2_12_36 hv3_24_36 hv4_36 hv5_36 e0_36 e1_36 e2_36 e3_36 e7_36 e8_36 e9_36 e10_36 e11_36 e12_36 e13_36 f37 f38 f39 f40 f41 f42 f43 f44 t45
              obtain ⟨h_I_0_6__48, hv2_12_48, hv3_24_48, hv4_48, e0_48, e1_48, e2_48, e6_48, e7_48, e8_48, e9_48, e10_48, e11_48, e12_48⟩ := m_48
              have f49 := (show 0 ≤ I46 0 71 ∧ I46 0 71 ≤ 5 from (hI46 0 71).1)
              have f50 := (show 0 ≤ I46 0 72 ∧ I46 0 72 ≤ 1000 from (hI46 0 72).1)
              have f51 := (show 0 ≤ I46 0 73 ∧ I46 0 73 ≤ 1001 from (hI46 0 73).1)
              have f52 := (show 0 ≤ I46 0 69 ∧ I46 0 69 ≤ 1000 from (hI46 0 69).1)
              have f53 := (show (-1) ≤ I46 0 6 ∧ I46 0 6 ≤ 7 from (hI46 0 6).1)
              have f54 := (show 0 ≤ I46 0 59 ∧ I46 0 59 ≤ 2000 from (hI46 0 59).1)
              have f55 := (show 0 ≤ I46 0 3 ∧ I46 0 3 ≤ 96 from (hI46 0 3).1)
              have f56 := (show 0 ≤ I46 0 106 ∧ I46 0 106 ≤ 16777215 from (hI46 0 106).1)
              have t57 := gr_ATp_l e3_48
              have L174 : ((0 ≤ (I 0 6) ∧ (I 0 6) ≤ 7) ∧ (0 ≤ v2_12 ∧ v2_12 ≤ 95) ∧ (0 ≤ v3_24 ∧ v3_24 ≤ 23) ∧ (I46 6 (Int.toNat v2_12) = 0) ∧ (v2_12 < I46 0 3) ∧ (0 ≤ p_48) ∧ (I46 0 72 ≤ I46 0 69) ∧ (I46 0 72 ≤ I46 0 73) ∧ (I46 0 69 = I 0 69) ∧ (I 0 73 ≤ I46 0 73) ∧ (I 0 72 ≤ I46 0 72) ∧ (I46 0 6 = I 0 6) ∧ (I46 0 59 - I46 0 72 ≤ I 0 59 - I 0 72)) → (gr_ATp β N9 p_48 I46 J47) → ((gs_wd β N9 I J (I 0 78) p9) = gs_wd3 β N9 I J (I 0 78) p_48) → ((∀ k, I46 18 k = I 18 k)) → gv_X (gr_E ws0 tb 11 (yX13_wordOf, cX13_wordOf, 7, (some .boolean)) kX13_wordOf) (gv_Q cX13_wordOf (some .boolean) (gr_sh ++ ext) (fun r h' => (∃ (I' : gr_I) (J' : gr_J), h' = gr_h I' J' ∧ gr_Inv I' ∧ gr_fr [59, 71, 72, 73, 74, 75, 76, 77, 101, 106] [18, 36, 37, 38, 39, 40, 51, 67] I I' ∧ gr_fj [59, 71, 72, 73, 74, 75, 76, 77, 101, 106] [18, 36, 37, 38, 39, 40, 51, 67] J J' ∧ gr_GR I' ∧ gr_ST I9 I' ∧ (∃ z : Int, r = some (.inl z) ∧ 0 ≤ z ∧ z ≤ 1 ∧ (I' 0 71 = 5 ∨ I' 0 73 ≤ I' 0 69) ∧ (I' 0 72 ≤ I' 0 69) ∧ (I' 0 71 = 0 ∨ (I' 0 72 < I' 0 73 ∧ I' 0 72 < I' 0 69)) ∧ (I' 0 71 = 3 → 2 ≤ I' 0 73 - I' 0 72 ∧ I' 0 73 - I' 0 72 ≤ 14) ∧ (I' 0 72 ≤ I' 0 73) ∧ (I' 0 69 = I 0 69) ∧ (I 0 73 ≤ I' 0 73) ∧ (I 0 72 ≤ I' 0 72) ∧ (I' 0 59 - I' 0 72 ≤ I 0 59 - I 0 72) ∧ (gs_Or z (0 ≤ (gs_wd β N9 I J (I 0 78) p9) ∧ gr_ATp β N9 (gs_wd β N9 I J (I 0 78) p9) I' J' ∧ (I' 18 (Int.toNat (I 0 6)) = I 18 (Int.toNat (I 0 6)) + 1 ∧ ∀ j, ¬ j = (Int.toNat (I 0 6)) → I' 18 j = I 18 j)) ((gs_wd β N9 I J (I 0 78) p9) < 0 ∧ I' 0 77 = -1 - (gs_wd β N9 I J (I 0 78) p9) ∧ ∀ j, I' 18 j = I 18 j)))))) (174, [(0, .inr (.inr (some 0))), (1, .inl (I 0 6)), (2, .inl v2_12), (3, .inl v3_24)], [], gr_sh ++ ext, gr_h I46 J47) := by
                intro m_58 e3_58 e4_58 e5_58
                obtain ⟨h_I_0_6__58, hv2_12_58, hv3_24_58, e0_58, e1_58, e2_58, e6_58, e7_58, e8_58, e9_58, e10_58, e11_58, e12_58⟩ := m_58
                have f59 := (show 0 ≤ I46 0 71 ∧ I46 0 71 ≤ 5 from (hI46 0 71).1)
                have f60 := (show 0 ≤ I46 0 72 ∧ I46 0 72 ≤ 1000 from (hI46 0 72).1)
                have f61 := (show 0 ≤ I46 0 73 ∧ I46 0 73 ≤ 1001 from (hI46 0 73).1)
                have f62 := (show 0 ≤ I46 0 69 ∧ I46 0 69 ≤ 1000 from (hI46 0 69).1)
                have f63 := (show (-1) ≤ I46 0 6 ∧ I46 0 6 ≤ 7 from (hI46 0 6).1)
                have f64 := (show 0 ≤ I46 0 59 ∧ I46 0 59 ≤ 2000 from (hI46 0 59).1)
                have f65 := (show 0 ≤ I46 0 3 ∧ I46 0 3 ≤ 96 from (hI46 0 3).1)
                have f66 := (show 0 ≤ I46 0 106 ∧ I46 0 106 ≤ 16777215 from (hI46 0 106).1)
                have t67 := gr_ATp_l e3_48
                have L246 : ∀ (I68 : gr_I) (J69 : gr_J) (p_70 : Int), gr_Inv I68 → gr_fr [59, 71, 72, 73, 74, 75, 76, 77, 101, 106] [18, 36, 37, 38, 39, 40, 51, 67] I I68 → gr_fj [59, 71, 72, 73, 74, 75, 76, 77, 101, 106] [18, 36, 37, 38, 39, 40, 51, 67] J J69 → gr_GR I68 → gr_ST I9 I68 → ((0 ≤ (I 0 6) ∧ (I 0 6) ≤ 7) ∧ (0 ≤ v2_12 ∧ v2_12 ≤ 95) ∧ (0 ≤ v3_24 ∧ v3_24 ≤ 23) ∧ (I68 6 (Int.toNat v2_12) = 0) ∧ (v2_12 < I68 0 3) ∧ (0 ≤ p_70) ∧ (I68 0 72 ≤ I68 0 69) ∧ (I68 0 72 ≤ I68 0 73) ∧ (I68 0 69 = I 0 69) ∧ (I 0 73 ≤ I68 0 73) ∧ (I 0 72 ≤ I68 0 72) ∧ (I68 0 6 = I 0 6) ∧ (I68 0 59 - I68 0 72 ≤ I 0 59 - I 0 72)) → (gr_ATp β N9 p_70 I68 J69) → ((gs_wd β N9 I J (I 0 78) p9) = gs_wd5 β N9 I (I 0 78) p_70) → ((∀ k, I68 18 k = I 18 k)) → gv_X (gr_E ws0 tb 11 (yX13_wordOf, cX13_wordOf, 7, (some .boolean)) kX13_wordOf) (gv_Q cX13_wordOf (some .boolean) (gr_sh ++ ext) (fun r h' => (∃ (I' : gr_I) (J' : gr_J), h' = gr_h I' J' ∧ gr_Inv I' ∧ gr_fr [59, 71, 72, 73, 74, 75, 76, 77, 101, 106] [18, 36, 37, 38, 39, 40, 51, 67] I I' ∧ gr_fj [59, 71, 72, 73, 74, 75, 76, 77, 101, 106] [18, 36, 37, 38, 39, 40, 51, 67] J J' ∧ gr_GR I' ∧ gr_ST I9 I' ∧ (∃ z : Int, r = some (.inl z) ∧ 0 ≤ z ∧ z ≤ 1 ∧ (I' 0 71 = 5 ∨ I' 0 73 ≤ I' 0 69) ∧ (I' 0 72 ≤ I' 0 69) ∧ (I' 0 71 = 0 ∨ (I' 0 72 < I' 0 73 ∧ I' 0 72 < I' 0 69)) ∧ (I' 0 71 = 3 → 2 ≤ I' 0 73 - I' 0 72 ∧ I' 0 73 - I' 0 72 ≤ 14) ∧ (I' 0 72 ≤ I' 0 73) ∧ (I' 0 69 = I 0 69) ∧ (I 0 73 ≤ I' 0 73) ∧ (I 0 72 ≤ I' 0 72) ∧ (I' 0 59 - I' 0 72 ≤ I 0 59 - I 0 72) ∧ (gs_Or z (0 ≤ (gs_wd β N9 I J (I 0 78) p9) ∧ gr_ATp β N9 (gs_wd β N9 I J (I 0 78) p9) I' J' ∧ (I' 18 (Int.toNat (I 0 6)) = I 18 (Int.toNat (I 0 6)) + 1 ∧ ∀ j, ¬ j = (Int.toNat (I 0 6)) → I' 18 j = I 18 j)) ((gs_wd β N9 I J (I 0 78) p9) < 0 ∧ I' 0 77 = -1 - (gs_wd β N9 I J (I 0 78) p9) ∧ ∀ j, I' 18 j = I 18 j)))))) (246, [(0, .inr (.inr (some 0))), (1, .inl (I 0 6)), (2, .inl v2_12), (3, .inl v3_24)], [], gr_sh ++ ext, gr_h I68 J69) := by
                  intro I68 J69 p_70 hI68 FI68 FJ69 KGR_I68 KST_I68 m_70 e3_70 e4_70 e5_70
                  clear h_I_0_6__58 hv2_12_58 hv3_24_58 e0_58 e1_58 e2_58 e6_58 e7_58 e8_58 e9_58 e10_58 e11_58 e12_58 f59 f60 f61 f62 f63 f64 f65 f66 t67 h_I_0_6__48 hv2_12_48 hv3_24_48 hv4_48 e0_48 e1_48 e2_48 e6_48 e7_48 e8_48 e9_48 e10_48 e11_48 e12_48 f49 f50 f51 f52 f53 f54 f55 f56 t57
                  obtain ⟨h_I_0_6__70, hv2_12_70, hv3_24_70, e0_70, e1_70, e2_70, e6_70, e7_70, e8_70, e9_70, e10_70, e11_70, e12_70⟩ := m_70
                  have f71 := (show 0 ≤ I68 0 71 ∧ I68 0 71 ≤ 5 from (hI68 0 71).1)
                  have f72 := (show 0 ≤ I68 0 72 ∧ I68 0 72 ≤ 1000 from (hI68 0 72).1)
                  have f73 := (show 0 ≤ I68 0 73 ∧ I68 0 73 ≤ 1001 from (hI68 0 73).1)
                  have f74 := (show 0 ≤ I68 0 69 ∧ I68 0 69 ≤ 1000 from (hI68 0 69).1)
                  have f75 := (show (-1) ≤ I68 0 6 ∧ I68 0 6 ≤ 7 from (hI68 0 6).1)
                  have f76 := (show 0 ≤ I68 0 59 ∧ I68 0 59 ≤ 2000 from (hI68 0 59).1)
                  have f77 := (show 0 ≤ I68 0 3 ∧ I68 0 3 ≤ 96 from (hI68 0 3).1)
                  have f78 := (show 0 ≤ I68 0 106 ∧ I68 0 106 ≤ 16777215 from (hI68 0 106).1)
                  have t79 := gr_ATp_l e3_70
                  have L253 : ∀ (I80 : gr_I) (J81 : gr_J) (p_82 : Int), gr_Inv I80 → gr_fr [59, 71, 72, 73, 74, 75, 76, 77, 101, 106] [18, 36, 37, 38, 39, 40, 51, 67] I I80 → gr_fj [59, 71, 72, 73, 74, 75, 76, 77, 101, 106] [18, 36, 37, 38, 39, 40, 51, 67] J J81 → gr_GR I80 → gr_ST I9 I80 → ((0 ≤ (I 0 6) ∧ (I 0 6) ≤ 7) ∧ (0 ≤ v2_12 ∧ v2_12 ≤ 95) ∧ (0 ≤ v3_24 ∧ v3_24 ≤ 23) ∧ (I80 6 (Int.toNat v2_12) = 0) ∧ (v2_12 < I80 0 3) ∧ (0 ≤ p_82) ∧ (I80 0 72 ≤ I80 0 69) ∧ (I80 0 72 ≤ I80 0 73) ∧ (I80 0 69 = I 0 69) ∧ (I 0 73 ≤ I80 0 73) ∧ (I 0 72 ≤ I80 0 72) ∧ (I80 0 6 = I 0 6) ∧ (I80 0 59 - I80 0 72 ≤ I 0 59 - I 0 72)) → (gr_ATp β N9 p_82 I80 J81) → ((gs_wd β N9 I J (I 0 78) p9) = gs_wd6 β N9 I (I 0 78) p_82) → ((∀ k, I80 18 k = I 18 k)) → gv_X (gr_E ws0 tb 11 (yX13_wordOf, cX13_wordOf, 7, (some .boolean)) kX13_wordOf) (gv_Q cX13_wordOf (some .boolean) (gr_sh ++ ext) (fun r h' => (∃ (I' : gr_I) (J' : gr_J), h' = gr_h I' J' ∧ gr_Inv I' ∧ gr_fr [59, 71, 72, 73, 74, 75, 76, 77, 101, 106] [18, 36, 37, 38, 39, 40, 51, 67] I I' ∧ gr_fj [59, 71, 72, 73, 74, 75, 76, 77, 101, 106] [18, 36, 37, 38, 39, 40, 51, 67] J J' ∧ gr_GR I' ∧ gr_ST I9 I' ∧ (∃ z : Int, r = some (.inl z) ∧ 0 ≤ z ∧ z ≤ 1 ∧ (I' 0 71 = 5 ∨ I' 0 73 ≤ I' 0 69) ∧ (I' 0 72 ≤ I' 0 69) ∧ (I' 0 71 = 0 ∨ (I' 0 72 < I' 0 73 ∧ I' 0 72 < I' 0 69)) ∧ (I' 0 71 = 3 → 2 ≤ I' 0 73 - I' 0 72 ∧ I' 0 73 - I' 0 72 ≤ 14) ∧ (I' 0 72 ≤ I' 0 73) ∧ (I' 0 69 = I 0 69) ∧ (I 0 73 ≤ I' 0 73) ∧ (I 0 72 ≤ I' 0 72) ∧ (I' 0 59 - I' 0 72 ≤ I 0 59 - I 0 72) ∧ (gs_Or z (0 ≤ (gs_wd β N9 I J (I 0 78) p9) ∧ gr_ATp β N9 (gs_wd β N9 I J (I 0 78) p9) I' J' ∧ (I' 18 (Int.toNat (I 0 6)) = I 18 (Int.toNat (I 0 6)) + 1 ∧ ∀ j, ¬ j = (Int.toNat (I 0 6)) → I' 18 j = I 18 j)) ((gs_wd β N9 I J (I 0 78) p9) < 0 ∧ I' 0 77 = -1 - (gs_wd β N9 I J (I 0 78) p9) ∧ ∀ j, I' 18 j = I 18 j)))))) (253, [(0, .inr (.inr (some 0))), (1, .inl (I 0 6)), (2, .inl v2_12), (3, .inl v3_24)], [], gr_sh ++ ext, gr_h I80 J81) := by
                    intro I80 J81 p_82 hI80 FI80 FJ81 KGR_I80 KST_I80 m_82 e3_82 e4_82 e5_82
                    clear h_I_0_6__70 hv2_12_70 hv3_24_70 e0_70 e1_70 e2_70 e6_70 e7_70 e8_70 e9_70 e10_70 e11_70 e12_70 f71 f72 f73 f74 f75 f76 f77 f78 t79
                    obtain ⟨h_I_0_6__82, hv2_12_82, hv3_24_82, e0_82, e1_82, e2_82, e6_82, e7_82, e8_82, e9_82, e10_82, e11_82, e12_82⟩ := m_82
                    have f83 := (show 0 ≤ I80 0 71 ∧ I80 0 71 ≤ 5 from (hI80 0 71).1)
                    have f84 := (show 0 ≤ I80 0 72 ∧ I80 0 72 ≤ 1000 from (hI80 0 72).1)
                    have f85 := (show 0 ≤ I80 0 73 ∧ I80 0 73 ≤ 1001 from (hI80 0 73).1)
                    have f86 := (show 0 ≤ I80 0 69 ∧ I80 0 69 ≤ 1000 from (hI80 0 69).1)
                    have f87 := (show (-1) ≤ I80 0 6 ∧ I80 0 6 ≤ 7 from (hI80 0 6).1)
                    have f88 := (show 0 ≤ I80 0 59 ∧ I80 0 59 ≤ 2000 from (hI80 0 59).1)
                    have f89 := (show 0 ≤ I80 0 3 ∧ I80 0 3 ≤ 96 from (hI80 0 3).1)
                    have f90 := (show 0 ≤ I80 0 106 ∧ I80 0 106 ≤ 16777215 from (hI80 0 106).1)
                    have t91 := gr_ATp_l e3_82
                    have L278 : ∀ (I92 : gr_I) (J93 : gr_J) (p_94 : Int), gr_Inv I92 → gr_fr [59, 71, 72, 73, 74, 75, 76, 77, 101, 106] [18, 36, 37, 38, 39, 40, 51, 67] I I92 → gr_fj [59, 71, 72, 73, 74, 75, 76, 77, 101, 106] [18, 36, 37, 38, 39, 40, 51, 67] J J93 → gr_GR I92 → gr_ST I9 I92 → ((0 ≤ (I 0 6) ∧ (I 0 6) ≤ 7) ∧ (0 ≤ v2_12 ∧ v2_12 ≤ 95) ∧ (0 ≤ v3_24 ∧ v3_24 ≤ 23) ∧ (I92 6 (Int.toNat v2_12) = 0) ∧ (v2_12 < I92 0 3) ∧ (I92 18 (Int.toNat (I 0 6)) ≤ 63) ∧ (0 ≤ p_94) ∧ (I92 0 72 ≤ I92 0 69) ∧ (I92 0 72 ≤ I92 0 73) ∧ (I92 0 69 = I 0 69) ∧ (I 0 73 ≤ I92 0 73) ∧ (I 0 72 ≤ I92 0 72) ∧ (I92 0 6 = I 0 6) ∧ (I92 0 59 - I92 0 72 ≤ I 0 59 - I 0 72)) → (gr_ATp β N9 p_94 I92 J93) → ((gs_wd β N9 I J (I 0 78) p9) = p_94) → ((∀ k, I92 18 k = I 18 k)) → gv_X (gr_E ws0 tb 11 (yX13_wordOf, cX13_wordOf, 7, (some .boolean)) kX13_wordOf) (gv_Q cX13_wordOf (some .boolean) (gr_sh ++ ext) (fun r h' => (∃ (I' : gr_I) (J' : gr_J), h' = gr_h I' J' ∧ gr_Inv I' ∧ gr_fr [59, 71, 72, 73, 74, 75, 76, 77, 101, 106] [18, 36, 37, 38, 39, 40, 51, 67] I I' ∧ gr_fj [59, 71, 72, 73, 74, 75, 76, 77, 101, 106] [18, 36, 37, 38, 39, 40, 51, 67] J J' ∧ gr_GR I' ∧ gr_ST I9 I' ∧ (∃ z : Int, r = some (.inl z) ∧ 0 ≤ z ∧ z ≤ 1 ∧ (I' 0 71 = 5 ∨ I' 0 73 ≤ I' 0 69) ∧ (I' 0 72 ≤ I' 0 69) ∧ (I' 0 71 = 0 ∨ (I' 0 72 < I' 0 73 ∧ I' 0 72 < I' 0 69)) ∧ (I' 0 71 = 3 → 2 ≤ I' 0 73 - I' 0 72 ∧ I' 0 73 - I' 0 72 ≤ 14) ∧ (I' 0 72 ≤ I' 0 73) ∧ (I' 0 69 = I 0 69) ∧ (I 0 73 ≤ I' 0 73) ∧ (I 0 72 ≤ I' 0 72) ∧ (I' 0 59 - I' 0 72 ≤ I 0 59 - I 0 72) ∧ (gs_Or z (0 ≤ (gs_wd β N9 I J (I 0 78) p9) ∧ gr_ATp β N9 (gs_wd β N9 I J (I 0 78) p9) I' J' ∧ (I' 18 (Int.toNat (I 0 6)) = I 18 (Int.toNat (I 0 6)) + 1 ∧ ∀ j, ¬ j = (Int.toNat (I 0 6)) → I' 18 j = I 18 j)) ((gs_wd β N9 I J (I 0 78) p9) < 0 ∧ I' 0 77 = -1 - (gs_wd β N9 I J (I 0 78) p9) ∧ ∀ j, I' 18 j = I 18 j)))))) (278, [(0, .inr (.inr (some 0))), (1, .inl (I 0 6)), (2, .inl v2_12), (3, .inl v3_24)], [], gr_sh ++ ext, gr_h I92 J93) := by
                      intro I92 J93 p_94 hI92 FI92 FJ93 KGR_I92 KST_I92 m_94 e4_94 e5_94 e6_94
                      clear h_I_0_6__82 hv2_12_82 hv3_24_82 e0_82 e1_82 e2_82 e6_82 e7_82 e8_82 e9_82 e10_82 e11_82 e12_82 f83 f84 f85 f86 f87 f88 f89 f90 t91
                      obtain ⟨h_I_0_6__94, hv2_12_94, hv3_24_94, e0_94, e1_94, e2_94, e3_94, e7_94, e8_94, e9_94, e10_94, e11_94, e12_94, e13_94⟩ := m_94
                      have f95 := (show 0 ≤ I92 0 71 ∧ I92 0 71 ≤ 5 from (hI92 0 71).1)
                      have f96 := (show 0 ≤ I92 0 72 ∧ I92 0 72 ≤ 1000 from (hI92 0 72).1)
                      have f97 := (show 0 ≤ I92 0 73 ∧ I92 0 73 ≤ 1001 from (hI92 0 73).1)
                      have f98 := (show 0 ≤ I92 0 69 ∧ I92 0 69 ≤ 1000 from (hI92 0 69).1)
                      have f99 := (show (-1) ≤ I92 0 6 ∧ I92 0 6 ≤ 7 from (hI92 0 6).1)
                      have f100 := (show 0 ≤ I92 0 59 ∧ I92 0 59 ≤ 2000 from (hI92 0 59).1)
                      have f101 := (show 0 ≤ I92 0 3 ∧ I92 0 3 ≤ 96 from (hI92 0 3).1)
                      have f102 := (show 0 ≤ I92 0 106 ∧ I92 0 106 ≤ 16777215 from (hI92 0 106).1)
                      have t103 := gr_ATp_l e4_94
                      have L315 : ∀ (n : Nat) (I104 : gr_I) (J105 : gr_J) (v5_106 : Int) (v6_106 : Int) (p_106 : Int), (4 - v6_106).toNat < n → gr_Inv I104 → gr_fr [59, 71, 72, 73, 74, 75, 76, 77, 101, 106] [18, 36, 37, 38, 39, 40, 51, 67] I I104 → gr_fj [59, 71, 72, 73, 74, 75, 76, 77, 101, 106] [18, 36, 37, 38, 39, 40, 51, 67] J J105 → gr_GR I104 → gr_ST I9 I104 → ((0 ≤ v5_106 ∧ v5_106 ≤ 511) ∧ (0 ≤ v6_106 ∧ v6_106 ≤ 3) ∧ (0 ≤ p_106) ∧ (I104 0 72 ≤ I104 0 69) ∧ (I104 0 72 ≤ I104 0 73) ∧ (I104 0 69 = I 0 69) ∧ (I 0 73 ≤ I104 0 73) ∧ (I 0 72 ≤ I104 0 72) ∧ (I104 0 6 = I 0 6) ∧ (I104 0 59 - I104 0 72 ≤ I 0 59 - I 0 72)) → (gr_ATp β N9 p_106 I104 J105) → ((gs_wd β N9 I J (I 0 78) p9) = p_106) → ((I104 18 (Int.toNat (I 0 6)) = I 18 (Int.toNat (I 0 6)) + 1 ∧ ∀ j, ¬ j = (Int.toNat (I 0 6)) → I104 18 j = I 18 j)) → gv_X (gr_E ws0 tb 11 (yX13_wordOf, cX13_wordOf, 7, (some .boolean)) kX13_wordOf) (gv_Q cX13_wordOf (some .boolean) (gr_sh ++ ext) (fun r h' => (∃ (I' : gr_I) (J' : gr_J), h' = gr_h I' J' ∧ gr_Inv I' ∧ gr_fr [59, 71, 72, 73, 74, 75, 76, 77, 101, 106] [18, 36, 37, 38, 39, 40, 51, 67] I I' ∧ gr_fj [59, 71, 72, 73, 74, 75, 76, 77, 101, 106] [18, 36, 37, 38, 39, 40, 51, 67] J J' ∧ gr_GR I' ∧ gr_ST I9 I' ∧ (∃ z : Int, r = some (.inl z) ∧ 0 ≤ z ∧ z ≤ 1 ∧ (I' 0 71 = 5 ∨ I' 0 73 ≤ I' 0 69) ∧ (I' 0 72 ≤ I' 0 69) ∧ (I' 0 71 = 0 ∨ (I' 0 72 < I' 0 73 ∧ I' 0 72 < I' 0 69)) ∧ (I' 0 71 = 3 → 2 ≤ I' 0 73 - I' 0 72 ∧ I' 0 73 - I' 0 72 ≤ 14) ∧ (I' 0 72 ≤ I' 0 73) ∧ (I' 0 69 = I 0 69) ∧ (I 0 73 ≤ I' 0 73) ∧ (I 0 72 ≤ I' 0 72) ∧ (I' 0 59 - I' 0 72 ≤ I 0 59 - I 0 72) ∧ (gs_Or z (0 ≤ (gs_wd β N9 I J (I 0 78) p9) ∧ gr_ATp β N9 (gs_wd β N9 I J (I 0 78) p9) I' J' ∧ (I' 18 (Int.toNat (I 0 6)) = I 18 (Int.toNat (I 0 6)) + 1 ∧ ∀ j, ¬ j = (Int.toNat (I 0 6)) → I' 18 j = I 18 j)) ((gs_wd β N9 I J (I 0 78) p9) < 0 ∧ I' 0 77 = -1 - (gs_wd β N9 I J (I 0 78) p9) ∧ ∀ j, I' 18 j = I 18 j)))))) (315, [(0, .inr (.inr (some 0))), (5, .inl v5_106), (6, .inl v6_106)], [], gr_sh ++ ext, gr_h I104 J105) := by
                        intro n
                        induction n with
                        | zero => intro I104 J105 v5_106 v6_106 p_106 hn; omega
                        | succ n ih315 =>
                          intro I104 J105 v5_106 v6_106 p_106 hn hI104 FI104 FJ105 KGR_I104 KST_I104 m_106 e1_106 e2_106 e3_106
                          clear h_I_0_6__94 hv2_12_94 hv3_24_94 e0_94 e1_94 e2_94 e3_94 e7_94 e8_94 e9_94 e10_94 e11_94 e12_94 e13_94 f95 f96 f97 f98 f99 f100 f101 f102 t103
                          obtain ⟨hv5_106, hv6_106, e0_106, e4_106, e5_106, e6_106, e7_106, e8_106, e9_106, e10_106⟩ := m_106
                          have f107 := (show 0 ≤ I104 0 71 ∧ I104 0 71 ≤ 5 from (hI104 0 71).1)
                          have f108 := (show 0 ≤ I104 0 72 ∧ I104 0 72 ≤ 1000 from (hI104 0 72).1)
                          have f109 := (show 0 ≤ I104 0 73 ∧ I104 0 73 ≤ 1001 from (hI104 0 73).1)
                          have f110 := (show 0 ≤ I104 0 69 ∧ I104 0 69 ≤ 1000 from (hI104 0 69).1)
                          have f111 := (show (-1) ≤ I104 0 6 ∧ I104 0 6 ≤ 7 from (hI104 0 6).1)
                          have f112 := (show 0 ≤ I104 0 59 ∧ I104 0 59 ≤ 2000 from (hI104 0 59).1)
                          have f113 := (show 0 ≤ I104 0 3 ∧ I104 0 3 ≤ 96 from (hI104 0 3).1)
                          have f114 := (show 0 ≤ I104 0 106 ∧ I104 0 106 ≤ 16777215 from (hI104 0 106).1)
                          have t115 := gr_ATp_l e1_106
                          refine gv_run 2 true hD (pc' := 318) (lv' := [(0, .inr (.inr (some 0))), (5, .inl v5_106), (6, .inl v6_106)]) (st' := [.inl 3, .inl v6_106]) (h' := gr_h I104 J105) (C := ((True ∧ True) ∧ True)) rfl ⟨⟨trivial, trivial⟩, trivial⟩ ?_
                          refine gv_icmp_ge (t := 346) hD rfl rfl ⟨⟨by omega, by omega⟩, ⟨by omega, by omega⟩⟩ (fun c116 => ?_) (fun c116 => ?_)
                          · have f117 := (show 0 ≤ I104 0 106 ∧ I104 0 106 ≤ 16777215 from (hI104 0 106).1)
                            refine gv_run 5 true hD (pc' := 356) (lv' := [(0, .inr (.inr (some 0))), (5, .inl v5_106), (6, .inl v6_106)]) (st' := [.inl (I104 0 106), .inl v5_106, .inr (.inr (some 39))]) (h' := gr_h I104 J105) (C := (((((True ∧ True) ∧ True) ∧ True) ∧ True) ∧ True)) rfl ⟨⟨⟨⟨⟨trivial, trivial⟩, trivial⟩, trivial⟩, trivial⟩, trivial⟩ ?_
                            refine gv_run 1 true hD (pc' := 357) (lv' := [(0, .inr (.inr (some 0))), (5, .inl v5_106), (6, .inl v6_106)]) (st' := []) (h' := gz_up (gr_h I104 J105) 39 (Int.toNat v5_106) (.inl (I104 0 106))) (C := (True ∧ (0 ≤ v5_106 ∧ v5_106 < ((512 : Nat) : Int)))) rfl ⟨trivial, ⟨by omega, by omega⟩⟩ ?_
                            refine gr_st hI104 FI104 rfl rfl ⟨⟨by show 0 ≤ _; omega, by show _ ≤ 16777215; omega⟩, trivial⟩ (fun I118 hI118 FI118 q119 p119 => ?_)
                            have t120 := p119 0 71 (fun q => absurd q.1 (by decide))
                            have t121 := p119 0 72 (fun q => absurd q.1 (by decide))
                            have t122 := p119 0 73 (fun q => absurd q.1 (by decide))
                            have t123 := p119 0 69 (fun q => absurd q.1 (by decide))
                            have t124 := p119 0 6 (fun q => absurd q.1 (by decide))
                            have t125 := p119 0 59 (fun q => absurd q.1 (by decide))
                            have t126 := p119 0 3 (fun q => absurd q.1 (by decide))
                            have t127 := p119 0 106 (fun q => absurd q.1 (by decide))
                            have f128 := (show 0 ≤ I118 0 71 ∧ I118 0 71 ≤ 5 from (hI118 0 71).1)
                            have f129 := (show 0 ≤ I118 0 72 ∧ I118 0 72 ≤ 1000 from (hI118 0 72).1)
                            have f130 := (show 0 ≤ I118 0 73 ∧ I118 0 73 ≤ 1001 from (hI118 0 73).1)
                            have f131 := (show 0 ≤ I118 0 69 ∧ I118 0 69 ≤ 1000 from (hI118 0 69).1)
                            have f132 := (show (-1) ≤ I118 0 6 ∧ I118 0 6 ≤ 7 from (hI118 0 6).1)
                            have f133 := (show 0 ≤ I118 0 59 ∧ I118 0 59 ≤ 2000 from (hI118 0 59).1)
                            have f134 := (show 0 ≤ I118 0 3 ∧ I118 0 3 ≤ 96 from (hI118 0 3).1)
                            have f135 := (show 0 ≤ I118 0 106 ∧ I118 0 106 ≤ 16777215 from (hI118 0 106).1)
                            have KGR_I118 := gr_GR_fr KGR_I104 (fun k => p119 19 k (fun q => absurd q.1 (by decide))) (fun k => p119 18 k (fun q => absurd q.1 (by decide))) (fun k => p119 36 k (fun q => absurd q.1 (by decide))) (fun k => p119 41 k (fun q => absurd q.1 (by decide))) (fun k => p119 42 k (fun q => absurd q.1 (by decide))) (fun k => p119 43 k (fun q => absurd q.1 (by decide))) (fun k => p119 45 k (fun q => absurd q.1 (by decide))) (fun k => p119 46 k (fun q => absurd q.1 (by decide))) (fun k => p119 47 k (fun q => absurd q.1 (by decide))) (fun k => p119 6 k (fun q => absurd q.1 (by decide))) (fun k => p119 7 k (fun q => absurd q.1 (by decide))) (fun k => p119 8 k (fun q => absurd q.1 (by decide))) (p119 0 3 (fun q => absurd q.1 (by decide)))
                            have KST_I118 := gr_ST_fr KST_I104 (fun k => p119 6 k (fun q => absurd q.1 (by decide))) (fun k => p119 19 k (fun q => absurd q.1 (by decide))) (fun k => p119 18 k (fun q => absurd q.1 (by decide))) (fun k => p119 41 k (fun q => absurd q.1 (by decide))) (fun k => p119 36 k (fun q => absurd q.1 (by decide))) (p119 0 3 (fun q => absurd q.1 (by decide)))
                            have A136 := gr_ATp_sr e1_106 p119 rfl
                            have f137 := (show 0 ≤ I118 0 101 ∧ I118 0 101 ≤ 10000 from (hI118 0 101).1)
                            refine gv_run 5 true hD (pc' := 367) (lv' := [(0, .inr (.inr (some 0))), (5, .inl v5_106), (6, .inl v6_106)]) (st' := [.inl (I118 0 101), .inl v5_106, .inr (.inr (some 40))]) (h' := gr_h I118 J105) (C := (((((True ∧ True) ∧ True) ∧ True) ∧ True) ∧ True)) rfl ⟨⟨⟨⟨⟨trivial, trivial⟩, trivial⟩, trivial⟩, trivial⟩, trivial⟩ ?_
                            refine gv_run 1 true hD (pc' := 368) (lv' := [(0, .inr (.inr (some 0))), (5, .inl v5_106), (6, .inl v6_106)]) (st' := []) (h' := gz_up (gr_h I118 J105) 40 (Int.toNat v5_106) (.inl (I118 0 101))) (C := (True ∧ (0 ≤ v5_106 ∧ v5_106 < ((512 : Nat) : Int)))) rfl ⟨trivial, ⟨by omega, by omega⟩⟩ ?_
                            refine gr_st hI118 FI118 rfl rfl ⟨⟨by show 0 ≤ _; omega, by show _ ≤ 10000; omega⟩, trivial⟩ (fun I138 hI138 FI138 q139 p139 => ?_)
                            have t140 := p139 0 71 (fun q => absurd q.1 (by decide))
                            have t141 := p139 0 72 (fun q => absurd q.1 (by decide))
                            have t142 := p139 0 73 (fun q => absurd q.1 (by decide))
                            have t143 := p139 0 69 (fun q => absurd q.1 (by decide))
                            have t144 := p139 0 6 (fun q => absurd q.1 (by decide))
                            have t145 := p139 0 59 (fun q => absurd q.1 (by decide))
                            have t146 := p139 0 3 (fun q => absurd q.1 (by decide))
                            have t147 := p139 0 106 (fun q => absurd q.1 (by decide))
                            have f148 := (show 0 ≤ I138 0 71 ∧ I138 0 71 ≤ 5 from (hI138 0 71).1)
                            have f149 := (show 0 ≤ I138 0 72 ∧ I138 0 72 ≤ 1000 from (hI138 0 72).1)
                            have f150 := (show 0 ≤ I138 0 73 ∧ I138 0 73 ≤ 1001 from (hI138 0 73).1)
                            have f151 := (show 0 ≤ I138 0 69 ∧ I138 0 69 ≤ 1000 from (hI138 0 69).1)
                            have f152 := (show (-1) ≤ I138 0 6 ∧ I138 0 6 ≤ 7 from (hI138 0 6).1)
                            have f153 := (show 0 ≤ I138 0 59 ∧ I138 0 59 ≤ 2000 from (hI138 0 59).1)
                            have f154 := (show 0 ≤ I138 0 3 ∧ I138 0 3 ≤ 96 from (hI138 0 3).1)
                            have f155 := (show 0 ≤ I138 0 106 ∧ I138 0 106 ≤ 16777215 from (hI138 0 106).1)
                            have KGR_I138 := gr_GR_fr KGR_I118 (fun k => p139 19 k (fun q => absurd q.1 (by decide))) (fun k => p139 18 k (fun q => absurd q.1 (by decide))) (fun k => p139 36 k (fun q => absurd q.1 (by decide))) (fun k => p139 41 k (fun q => absurd q.1 (by decide))) (fun k => p139 42 k (fun q => absurd q.1 (by decide))) (fun k => p139 43 k (fun q => absurd q.1 (by decide))) (fun k => p139 45 k (fun q => absurd q.1 (by decide))) (fun k => p139 46 k (fun q => absurd q.1 (by decide))) (fun k => p139 47 k (fun q => absurd q.1 (by decide))) (fun k => p139 6 k (fun q => absurd q.1 (by decide))) (fun k => p139 7 k (fun q => absurd q.1 (by decide))) (fun k => p139 8 k (fun q => absurd q.1 (by decide))) (p139 0 3 (fun q => absurd q.1 (by decide)))
                            have KST_I138 := gr_ST_fr KST_I118 (fun k => p139 6 k (fun q => absurd q.1 (by decide))) (fun k => p139 19 k (fun q => absurd q.1 (by decide))) (fun k => p139 18 k (fun q => absurd q.1 (by decide))) (fun k => p139 41 k (fun q => absurd q.1 (by decide))) (fun k => p139 36 k (fun q => absurd q.1 (by decide))) (p139 0 3 (fun q => absurd q.1 (by decide)))
                            have A156 := gr_ATp_sr A136 p139 rfl
                            refine gv_run 1 true hD (pc' := 369) (lv' := [(0, .inr (.inr (some 0))), (5, .inl v5_106), (6, .inl v6_106)]) (st' := [.inl 1]) (h' := gr_h I138 J105) (C := (True ∧ True)) rfl ⟨trivial, trivial⟩ ?_
                            have b157 : (I138 0 69 = I 0 69) ∧ (I 0 73 ≤ I138 0 73) ∧ (I 0 72 ≤ I138 0 72) ∧ (I138 0 59 - I138 0 72 ≤ I 0 59 - I 0 72) := by omega
                            exact gv_zret hD rfl (by omega) ⟨I138, J105, rfl, hI138, FI138, FJ105, KGR_I138, KST_I138, ⟨_, rfl, by omega, by omega, (gr_ATp_rr A156).1, (gr_ATp_rr A156).2.1, (gr_ATp_rr A156).2.2.1, (gr_ATp_rr A156).2.2.2.1, (gr_ATp_rr A156).2.2.2.2, b157.1, b157.2.1, b157.2.2.1, b157.2.2.2, (Or.inl ⟨by omega, by rw [e2_106]; exact ⟨by omega, A156, (by have y9 : ∀ j, I138 18 j = I104 18 j := fun j => ((p139 18 j (fun q => absurd q.1 (by decide))).trans (p119 18 j (fun q => absurd q.1 (by decide)))); exact ⟨(y9 _).trans e3_106.1, fun j hj => (y9 j).trans (e3_106.2 j hj)⟩)⟩⟩)⟩⟩
                          · refine gv_run 7 true hD (pc' := 332) (lv' := [(0, .inr (.inr (some 0))), (5, .inl v5_106), (6, .inl v6_106)]) (st' := [.inl ((3 * v5_106) + v6_106), .inr (.inr (some 38))]) (h' := gr_h I104 J105) (C := (((((((True ∧ True) ∧ True) ∧ True) ∧ True) ∧ True) ∧ True) ∧ True)) rfl ⟨⟨⟨⟨⟨⟨⟨trivial, trivial⟩, trivial⟩, trivial⟩, trivial⟩, trivial⟩, trivial⟩, trivial⟩ ?_
                            have f158 := (show (-1) ≤ I104 67 (Int.toNat v6_106) ∧ I104 67 (Int.toNat v6_106) ≤ 32015 from (hI104 67 (Int.toNat v6_106)).1)
                            refine gv_run 4 true hD (pc' := 339) (lv' := [(0, .inr (.inr (some 0))), (5, .inl v5_106), (6, .inl v6_106)]) (st' := [.inl (I104 67 (Int.toNat v6_106)), .inl ((3 * v5_106) + v6_106), .inr (.inr (some 38))]) (h' := gr_h I104 J105) (C := ((((True ∧ True) ∧ True) ∧ True) ∧ (0 ≤ v6_106 ∧ v6_106 < ((3 : Nat) : Int)))) rfl ⟨⟨⟨⟨trivial, trivial⟩, trivial⟩, trivial⟩, ⟨by omega, by omega⟩⟩ ?_
                            refine gv_run 1 true hD (pc' := 340) (lv' := [(0, .inr (.inr (some 0))), (5, .inl v5_106), (6, .inl v6_106)]) (st' := []) (h' := gz_up (gr_h I104 J105) 38 (Int.toNat (((3 * v5_106) + v6_106))) (.inl ((I104 67 (Int.toNat v6_106))))) (C := (True ∧ (0 ≤ (((3 * v5_106) + v6_106)) ∧ (((3 * v5_106) + v6_106)) < ((1536 : Nat) : Int)))) rfl ⟨trivial, ⟨by omega, by omega⟩⟩ ?_
                            refine gr_st hI104 FI104 rfl rfl ⟨⟨by show (-1) ≤ _; omega, by show _ ≤ 32015; omega⟩, trivial⟩ (fun I159 hI159 FI159 q160 p160 => ?_)
                            have t161 := p160 0 71 (fun q => absurd q.1 (by decide))
                            have t162 := p160 0 72 (fun q => absurd q.1 (by decide))
                            have t163 := p160 0 73 (fun q => absurd q.1 (by decide))
                            have t164 := p160 0 69 (fun q => absurd q.1 (by decide))
                            have t165 := p160 0 6 (fun q => absurd q.1 (by decide))
                            have t166 := p160 0 59 (fun q => absurd q.1 (by decide))
                            have t167 := p160 0 3 (fun q => absurd q.1 (by decide))
                            have t168 := p160 0 106 (fun q => absurd q.1 (by decide))
                            have f169 := (show 0 ≤ I159 0 71 ∧ I159 0 71 ≤ 5 from (hI159 0 71).1)
                            have f170 := (show 0 ≤ I159 0 72 ∧ I159 0 72 ≤ 1000 from (hI159 0 72).1)
                            have f171 := (show 0 ≤ I159 0 73 ∧ I159 0 73 ≤ 1001 from (hI159 0 73).1)
                            have f172 := (show 0 ≤ I159 0 69 ∧ I159 0 69 ≤ 1000 from (hI159 0 69).1)
                            have f173 := (show (-1) ≤ I159 0 6 ∧ I159 0 6 ≤ 7 from (hI159 0 6).1)
                            have f174 := (show 0 ≤ I159 0 59 ∧ I159 0 59 ≤ 2000 from (hI159 0 59).1)
                            have f175 := (show 0 ≤ I159 0 3 ∧ I159 0 3 ≤ 96 from (hI159 0 3).1)
                            have f176 := (show 0 ≤ I159 0 106 ∧ I159 0 106 ≤ 16777215 from (hI159 0 106).1)
                            have KGR_I159 := gr_GR_fr KGR_I104 (fun k => p160 19 k (fun q => absurd q.1 (by decide))) (fun k => p160 18 k (fun q => absurd q.1 (by decide))) (fun k => p160 36 k (fun q => absurd q.1 (by decide))) (fun k => p160 41 k (fun q => absurd q.1 (by decide))) (fun k => p160 42 k (fun q => absurd q.1 (by decide))) (fun k => p160 43 k (fun q => absurd q.1 (by decide))) (fun k => p160 45 k (fun q => absurd q.1 (by decide))) (fun k => p160 46 k (fun q => absurd q.1 (by decide))) (fun k => p160 47 k (fun q => absurd q.1 (by decide))) (fun k => p160 6 k (fun q => absurd q.1 (by decide))) (fun k => p160 7 k (fun q => absurd q.1 (by decide))) (fun k => p160 8 k (fun q => absurd q.1 (by decide))) (p160 0 3 (fun q => absurd q.1 (by decide)))
                            have KST_I159 := gr_ST_fr KST_I104 (fun k => p160 6 k (fun q => absurd q.1 (by decide))) (fun k => p160 19 k (fun q => absurd q.1 (by decide))) (fun k => p160 18 k (fun q => absurd q.1 (by decide))) (fun k => p160 41 k (fun q => absurd q.1 (by decide))) (fun k => p160 36 k (fun q => absurd q.1 (by decide))) (p160 0 3 (fun q => absurd q.1 (by decide)))
                            have A177 := gr_ATp_sr e1_106 p160 rfl
                            refine gv_run 2 true hD (pc' := 315) (lv' := [(6, .inl (v6_106 + 1)), (0, .inr (.inr (some 0))), (5, .inl v5_106)]) (st' := []) (h' := gr_h I159 J105) (C := ((True ∧ True) ∧ True)) rfl ⟨⟨trivial, trivial⟩, trivial⟩ ?_
                            refine gv_pick [1, 2, 0] rfl ?_
                            exact ih315 I159 J105 v5_106 (v6_106 + 1) p_106 (by omega) hI159 FI159 FJ105 KGR_I159 KST_I159 (by omega) A177 e2_106 (by have y9 : ∀ j, I159 18 j = I104 18 j := fun j => (p160 18 j (fun q => absurd q.1 (by decide))); exact ⟨(y9 _).trans e3_106.1, fun j hj => (y9 j).trans (e3_106.2 j hj)⟩)
                      refine gv_run 7 true hD (pc' := 288) (lv' := [(0, .inr (.inr (some 0))), (1, .inl (I 0 6)), (2, .inl v2_12), (3, .inl v3_24)]) (st' := [.inl (I 0 6), .inr (.inr (some 18)), .inl (I 0 6), .inr (.inr (some 18)), .inl (64 * (I 0 6))]) (h' := gr_h I92 J93) (C := (((((((True ∧ True) ∧ True) ∧ True) ∧ True) ∧ True) ∧ True) ∧ True)) rfl ⟨⟨⟨⟨⟨⟨⟨trivial, trivial⟩, trivial⟩, trivial⟩, trivial⟩, trivial⟩, trivial⟩, trivial⟩ ?_
                      have f178 := (show 0 ≤ I92 18 (Int.toNat ((I 0 6))) ∧ I92 18 (Int.toNat ((I 0 6))) ≤ 64 from (hI92 18 (Int.toNat ((I 0 6)))).1)
                      refine gv_run 1 true hD (pc' := 289) (lv' := [(0, .inr (.inr (some 0))), (1, .inl (I 0 6)), (2, .inl v2_12), (3, .inl v3_24)]) (st' := [.inl (I92 18 (Int.toNat ((I 0 6)))), .inl (I 0 6), .inr (.inr (some 18)), .inl (64 * (I 0 6))]) (h' := gr_h I92 J93) (C := (True ∧ (0 ≤ (I 0 6) ∧ (I 0 6) < ((8 : Nat) : Int)))) rfl ⟨trivial, ⟨by omega, by omega⟩⟩ ?_
                      refine gv_run 3 true hD (pc' := 292) (lv' := [(0, .inr (.inr (some 0))), (1, .inl (I 0 6)), (2, .inl v2_12), (3, .inl v3_24)]) (st' := [.inl ((I92 18 (Int.toNat ((I 0 6)))) + 1), .inl (I 0 6), .inr (.inr (some 18)), .inl (I92 18 (Int.toNat ((I 0 6)))), .inl (64 * (I 0 6))]) (h' := gr_h I92 J93) (C := (((True ∧ True) ∧ True) ∧ True)) rfl ⟨⟨⟨trivial, trivial⟩, trivial⟩, trivial⟩ ?_
                      refine gv_run 1 true hD (pc' := 293) (lv' := [(0, .inr (.inr (some 0))), (1, .inl (I 0 6)), (2, .inl v2_12), (3, .inl v3_24)]) (st' := [.inl (I92 18 (Int.toNat ((I 0 6)))), .inl (64 * (I 0 6))]) (h' := gz_up (gr_h I92 J93) 18 (Int.toNat ((I 0 6))) (.inl (((I92 18 (Int.toNat ((I 0 6)))) + 1)))) (C := (True ∧ (0 ≤ (I 0 6) ∧ (I 0 6) < ((8 : Nat) : Int)))) rfl ⟨trivial, ⟨by omega, by omega⟩⟩ ?_
                      refine gr_st hI92 FI92 rfl rfl ⟨⟨by show 0 ≤ _; omega, by show _ ≤ 64; omega⟩, trivial⟩ (fun I179 hI179 FI179 q180 p180 => ?_)
                      have t181 := p180 0 71 (fun q => absurd q.1 (by decide))
                      have t182 := p180 0 72 (fun q => absurd q.1 (by decide))
                      have t183 := p180 0 73 (fun q => absurd q.1 (by decide))
                      have t184 := p180 0 69 (fun q => absurd q.1 (by decide))
                      have t185 := p180 0 6 (fun q => absurd q.1 (by decide))
                      have t186 := p180 0 59 (fun q => absurd q.1 (by decide))
                      have t187 := p180 0 3 (fun q => absurd q.1 (by decide))
                      have t188 := p180 0 106 (fun q => absurd q.1 (by decide))
                      have t189 := p180 6 (Int.toNat v2_12) (fun q => absurd q.1 (by decide))
                      have f190 := (show 0 ≤ I179 0 71 ∧ I179 0 71 ≤ 5 from (hI179 0 71).1)
                      have f191 := (show 0 ≤ I179 0 72 ∧ I179 0 72 ≤ 1000 from (hI179 0 72).1)
                      have f192 := (show 0 ≤ I179 0 73 ∧ I179 0 73 ≤ 1001 from (hI179 0 73).1)
                      have f193 := (show 0 ≤ I179 0 69 ∧ I179 0 69 ≤ 1000 from (hI179 0 69).1)
                      have f194 := (show (-1) ≤ I179 0 6 ∧ I179 0 6 ≤ 7 from (hI179 0 6).1)
                      have f195 := (show 0 ≤ I179 0 59 ∧ I179 0 59 ≤ 2000 from (hI179 0 59).1)
                      have f196 := (show 0 ≤ I179 0 3 ∧ I179 0 3 ≤ 96 from (hI179 0 3).1)
                      have f197 := (show 0 ≤ I179 0 106 ∧ I179 0 106 ≤ 16777215 from (hI179 0 106).1)
                      have A198 := gr_ATp_sr e4_94 p180 rfl
                      refine gv_run 6 true hD (pc' := 303) (lv' := [(5, .inl ((64 * (I 0 6)) + (I92 18 (Int.toNat ((I 0 6)))))), (0, .inr (.inr (some 0))), (1, .inl (I 0 6)), (2, .inl v2_12), (3, .inl v3_24)]) (st' := [.inl v2_12, .inl ((64 * (I 0 6)) + (I92 18 (Int.toNat ((I 0 6))))), .inr (.inr (some 36))]) (h' := gr_h I179 J93) (C := ((((((True ∧ True) ∧ True) ∧ True) ∧ True) ∧ True) ∧ True)) rfl ⟨⟨⟨⟨⟨⟨trivial, trivial⟩, trivial⟩, trivial⟩, trivial⟩, trivial⟩, trivial⟩ ?_
                      refine gv_run 1 true hD (pc' := 304) (lv' := [(5, .inl ((64 * (I 0 6)) + (I92 18 (Int.toNat ((I 0 6)))))), (0, .inr (.inr (some 0))), (1, .inl (I 0 6)), (2, .inl v2_12), (3, .inl v3_24)]) (st' := []) (h' := gz_up (gr_h I179 J93) 36 (Int.toNat (((64 * (I 0 6)) + (I92 18 (Int.toNat ((I 0 6))))))) (.inl v2_12)) (C := (True ∧ (0 ≤ (((64 * (I 0 6)) + (I92 18 (Int.toNat ((I 0 6)))))) ∧ (((64 * (I 0 6)) + (I92 18 (Int.toNat ((I 0 6)))))) < ((512 : Nat) : Int)))) rfl ⟨trivial, ⟨by omega, by omega⟩⟩ ?_
                      refine gr_st hI179 FI179 rfl rfl ⟨⟨by show 0 ≤ _; omega, by show _ ≤ 95; omega⟩, trivial⟩ (fun I199 hI199 FI199 q200 p200 => ?_)
                      have t201 := p200 0 71 (fun q => absurd q.1 (by decide))
                      have t202 := p200 0 72 (fun q => absurd q.1 (by decide))
                      have t203 := p200 0 73 (fun q => absurd q.1 (by decide))
                      have t204 := p200 0 69 (fun q => absurd q.1 (by decide))
                      have t205 := p200 0 6 (fun q => absurd q.1 (by decide))
                      have t206 := p200 0 59 (fun q => absurd q.1 (by decide))
                      have t207 := p200 0 3 (fun q => absurd q.1 (by decide))
                      have t208 := p200 0 106 (fun q => absurd q.1 (by decide))
                      have t209 := p200 18 (Int.toNat ((I 0 6))) (fun q => absurd q.1 (by decide))
                      have t210 := p200 6 (Int.toNat v2_12) (fun q => absurd q.1 (by decide))
                      have f211 := (show 0 ≤ I199 0 71 ∧ I199 0 71 ≤ 5 from (hI199 0 71).1)
                      have f212 := (show 0 ≤ I199 0 72 ∧ I199 0 72 ≤ 1000 from (hI199 0 72).1)
                      have f213 := (show 0 ≤ I199 0 73 ∧ I199 0 73 ≤ 1001 from (hI199 0 73).1)
                      have f214 := (show 0 ≤ I199 0 69 ∧ I199 0 69 ≤ 1000 from (hI199 0 69).1)
                      have f215 := (show (-1) ≤ I199 0 6 ∧ I199 0 6 ≤ 7 from (hI199 0 6).1)
                      have f216 := (show 0 ≤ I199 0 59 ∧ I199 0 59 ≤ 2000 from (hI199 0 59).1)
                      have f217 := (show 0 ≤ I199 0 3 ∧ I199 0 3 ≤ 96 from (hI199 0 3).1)
                      have f218 := (show 0 ≤ I199 0 106 ∧ I199 0 106 ≤ 16777215 from (hI199 0 106).1)
                      have A219 := gr_ATp_sr A198 p200 rfl
                      have KGR_I199 : gr_GR I199 := gr_GR_w (t := (Int.toNat ((I 0 6)))) (k := (Int.toNat (((64 * (I 0 6)) + (I92 18 (Int.toNat ((I 0 6)))))))) KGR_I92 (by omega) p180 (by omega) (by omega) (by omega) (by omega) p200 q200 (by omega) (by omega)
                      have KST_I199 : gr_ST I9 I199 := gr_ST_w (t := (Int.toNat ((I 0 6)))) (k := (Int.toNat (((64 * (I 0 6)) + (I92 18 (Int.toNat ((I 0 6)))))))) KST_I92 KGR_I92 (by omega) p180 (by omega) (by omega) (by omega) (by omega) p200
                      refine gv_run 4 true hD (pc' := 311) (lv' := [(5, .inl ((64 * (I 0 6)) + (I92 18 (Int.toNat ((I 0 6)))))), (0, .inr (.inr (some 0))), (1, .inl (I 0 6)), (2, .inl v2_12), (3, .inl v3_24)]) (st' := [.inl v3_24, .inl ((64 * (I 0 6)) + (I92 18 (Int.toNat ((I 0 6))))), .inr (.inr (some 37))]) (h' := gr_h I199 J93) (C := ((((True ∧ True) ∧ True) ∧ True) ∧ True)) rfl ⟨⟨⟨⟨trivial, trivial⟩, trivial⟩, trivial⟩, trivial⟩ ?_
                      refine gv_run 1 true hD (pc' := 312) (lv' := [(5, .inl ((64 * (I 0 6)) + (I92 18 (Int.toNat ((I 0 6)))))), (0, .inr (.inr (some 0))), (1, .inl (I 0 6)), (2, .inl v2_12), (3, .inl v3_24)]) (st' := []) (h' := gz_up (gr_h I199 J93) 37 (Int.toNat (((64 * (I 0 6)) + (I92 18 (Int.toNat ((I 0 6))))))) (.inl v3_24)) (C := (True ∧ (0 ≤ (((64 * (I 0 6)) + (I92 18 (Int.toNat ((I 0 6)))))) ∧ (((64 * (I 0 6)) + (I92 18 (Int.toNat ((I 0 6)))))) < ((512 : Nat) : Int)))) rfl ⟨trivial, ⟨by omega, by omega⟩⟩ ?_
                      refine gr_st hI199 FI199 rfl rfl ⟨⟨by show 0 ≤ _; omega, by show _ ≤ 23; omega⟩, trivial⟩ (fun I220 hI220 FI220 q221 p221 => ?_)
                      have t222 := p221 0 71 (fun q => absurd q.1 (by decide))
                      have t223 := p221 0 72 (fun q => absurd q.1 (by decide))
                      have t224 := p221 0 73 (fun q => absurd q.1 (by decide))
                      have t225 := p221 0 69 (fun q => absurd q.1 (by decide))
                      have t226 := p221 0 6 (fun q => absurd q.1 (by decide))
                      have t227 := p221 0 59 (fun q => absurd q.1 (by decide))
                      have t228 := p221 0 3 (fun q => absurd q.1 (by decide))
                      have t229 := p221 0 106 (fun q => absurd q.1 (by decide))
                      have t230 := p221 18 (Int.toNat ((I 0 6))) (fun q => absurd q.1 (by decide))
                      have t231 := p221 6 (Int.toNat v2_12) (fun q => absurd q.1 (by decide))
                      have f232 := (show 0 ≤ I220 0 71 ∧ I220 0 71 ≤ 5 from (hI220 0 71).1)
                      have f233 := (show 0 ≤ I220 0 72 ∧ I220 0 72 ≤ 1000 from (hI220 0 72).1)
                      have f234 := (show 0 ≤ I220 0 73 ∧ I220 0 73 ≤ 1001 from (hI220 0 73).1)
                      have f235 := (show 0 ≤ I220 0 69 ∧ I220 0 69 ≤ 1000 from (hI220 0 69).1)
                      have f236 := (show (-1) ≤ I220 0 6 ∧ I220 0 6 ≤ 7 from (hI220 0 6).1)
                      have f237 := (show 0 ≤ I220 0 59 ∧ I220 0 59 ≤ 2000 from (hI220 0 59).1)
                      have f238 := (show 0 ≤ I220 0 3 ∧ I220 0 3 ≤ 96 from (hI220 0 3).1)
                      have f239 := (show 0 ≤ I220 0 106 ∧ I220 0 106 ≤ 16777215 from (hI220 0 106).1)
                      have KGR_I220 := gr_GR_fr KGR_I199 (fun k => p221 19 k (fun q => absurd q.1 (by decide))) (fun k => p221 18 k (fun q => absurd q.1 (by decide))) (fun k => p221 36 k (fun q => absurd q.1 (by decide))) (fun k => p221 41 k (fun q => absurd q.1 (by decide))) (fun k => p221 42 k (fun q => absurd q.1 (by decide))) (fun k => p221 43 k (fun q => absurd q.1 (by decide))) (fun k => p221 45 k (fun q => absurd q.1 (by decide))) (fun k => p221 46 k (fun q => absurd q.1 (by decide))) (fun k => p221 47 k (fun q => absurd q.1 (by decide))) (fun k => p221 6 k (fun q => absurd q.1 (by decide))) (fun k => p221 7 k (fun q => absurd q.1 (by decide))) (fun k => p221 8 k (fun q => absurd q.1 (by decide))) (p221 0 3 (fun q => absurd q.1 (by decide)))
                      have KST_I220 := gr_ST_fr KST_I199 (fun k => p221 6 k (fun q => absurd q.1 (by decide))) (fun k => p221 19 k (fun q => absurd q.1 (by decide))) (fun k => p221 18 k (fun q => absurd q.1 (by decide))) (fun k => p221 41 k (fun q => absurd q.1 (by decide))) (fun k => p221 36 k (fun q => absurd q.1 (by decide))) (p221 0 3 (fun q => absurd q.1 (by decide)))
                      have A240 := gr_ATp_sr A219 p221 rfl
                      refine gv_run 2 true hD (pc' := 315) (lv' := [(6, .inl 0), (5, .inl ((64 * (I 0 6)) + (I92 18 (Int.toNat ((I 0 6)))))), (0, .inr (.inr (some 0))), (1, .inl (I 0 6)), (2, .inl v2_12), (3, .inl v3_24)]) (st' := []) (h' := gr_h I220 J93) (C := ((True ∧ True) ∧ True)) rfl ⟨⟨trivial, trivial⟩, trivial⟩ ?_
                      refine gv_pick [2, 1, 0] rfl ?_
                      exact L315 _ I220 J93 (((64 * (I 0 6)) + (I92 18 (Int.toNat ((I 0 6)))))) 0 p_94 (Nat.lt_succ_self _) hI220 FI220 FJ93 KGR_I220 KST_I220 (by omega) A240 e5_94 (by have v9 : I92 18 (Int.toNat (I 0 6)) = I 18 (Int.toNat (I 0 6)) := (e6_94 _); exact ⟨(((p221 18 _ (fun q => absurd q.1 (by decide))).trans (p200 18 _ (fun q => absurd q.1 (by decide))))).trans (by rw [show (Int.toNat (I 0 6)) = (Int.toNat ((I 0 6))) from by omega, q180]; omega), fun j hj => (((p221 18 j (fun q => absurd q.1 (by decide))).trans (p200 18 j (fun q => absurd q.1 (by decide))))).trans ((p180 18 j (fun h => hj (by have h9 := h.2; omega))).trans (e6_94 j))⟩)
                    have f241 := (show 0 ≤ I80 18 (Int.toNat ((I 0 6))) ∧ I80 18 (Int.toNat ((I 0 6))) ≤ 64 from (hI80 18 (Int.toNat ((I 0 6)))).1)
                    refine gv_run 5 true hD (pc' := 260) (lv' := [(0, .inr (.inr (some 0))), (1, .inl (I 0 6)), (2, .inl v2_12), (3, .inl v3_24)]) (st' := [.inl (I80 18 (Int.toNat ((I 0 6)))), .inr (.inr (some 0))]) (h' := gr_h I80 J81) (C := (((((True ∧ True) ∧ True) ∧ True) ∧ True) ∧ (0 ≤ (I 0 6) ∧ (I 0 6) < ((8 : Nat) : Int)))) rfl ⟨⟨⟨⟨⟨trivial, trivial⟩, trivial⟩, trivial⟩, trivial⟩, ⟨by omega, by omega⟩⟩ ?_
                    refine gv_run 1 true hD (pc' := 262) (lv' := [(0, .inr (.inr (some 0))), (1, .inl (I 0 6)), (2, .inl v2_12), (3, .inl v3_24)]) (st' := [.inl 64, .inl (I80 18 (Int.toNat ((I 0 6)))), .inr (.inr (some 0))]) (h' := gr_h I80 J81) (C := (True ∧ True)) rfl ⟨trivial, trivial⟩ ?_
                    have t242 := (show I80 18 (Int.toNat (I 0 6)) = I 18 (Int.toNat (I 0 6)) from (e5_82 _))
                    refine gv_icmp_ge (t := 269) hD rfl rfl ⟨⟨by omega, by omega⟩, ⟨by omega, by omega⟩⟩ (fun c243 => ?_) (fun c243 => ?_)
                    · refine gv_run 1 true hD (pc' := 270) (lv' := [(0, .inr (.inr (some 0))), (1, .inl (I 0 6)), (2, .inl v2_12), (3, .inl v3_24)]) (st' := [.inl 0, .inr (.inr (some 0))]) (h' := gr_h I80 J81) (C := (True ∧ True)) rfl ⟨trivial, trivial⟩ ?_
                      obtain ⟨r244, h244, E244, P244⟩ := r_done_p (ws0 := ws0) (tb := tb) hws htb ext β N9 p_82 I80 J81 hI80 0 ⟨by omega, by omega⟩ (gr_ATp_rr e3_82).1 (gr_ATp_rr e3_82).2.1 (gr_ATp_rr e3_82).2.2.1 (gr_ATp_rr e3_82).2.2.2.1 (gr_ATp_rr e3_82).2.2.2.2 e3_82 (by omega)
                      obtain ⟨I245, J246, rfl, hI245, g244, k244, ⟨z244, rfl, q244⟩⟩ := P244
                      have FI245 := gr_frt FI80 g244 rfl rfl
                      have FJ246 := gr_fjt FJ81 k244 rfl rfl
                      have t247 := g244 0 69 rfl
                      have t248 := g244 0 6 rfl
                      have t249 := g244 0 59 rfl
                      have t250 := g244 0 3 rfl
                      have t251 := g244 0 106 rfl
                      have t252 := g244 18 (Int.toNat ((I 0 6))) rfl
                      have t253 := g244 6 (Int.toNat v2_12) rfl
                      have f254 := (show 0 ≤ I245 0 71 ∧ I245 0 71 ≤ 5 from (hI245 0 71).1)
                      have f255 := (show 0 ≤ I245 0 72 ∧ I245 0 72 ≤ 1000 from (hI245 0 72).1)
                      have f256 := (show 0 ≤ I245 0 73 ∧ I245 0 73 ≤ 1001 from (hI245 0 73).1)
                      have f257 := (show 0 ≤ I245 0 69 ∧ I245 0 69 ≤ 1000 from (hI245 0 69).1)
                      have f258 := (show (-1) ≤ I245 0 6 ∧ I245 0 6 ≤ 7 from (hI245 0 6).1)
                      have f259 := (show 0 ≤ I245 0 59 ∧ I245 0 59 ≤ 2000 from (hI245 0 59).1)
                      have f260 := (show 0 ≤ I245 0 3 ∧ I245 0 3 ≤ 96 from (hI245 0 3).1)
                      have f261 := (show 0 ≤ I245 0 106 ∧ I245 0 106 ≤ 16777215 from (hI245 0 106).1)
                      have KGR_I245 := gr_GR_fr KGR_I80 (fun k => g244 19 k rfl) (fun k => g244 18 k rfl) (fun k => g244 36 k rfl) (fun k => g244 41 k rfl) (fun k => g244 42 k rfl) (fun k => g244 43 k rfl) (fun k => g244 45 k rfl) (fun k => g244 46 k rfl) (fun k => g244 47 k rfl) (fun k => g244 6 k rfl) (fun k => g244 7 k rfl) (fun k => g244 8 k rfl) (g244 0 3 rfl)
                      have KST_I245 := gr_ST_fr KST_I80 (fun k => g244 6 k rfl) (fun k => g244 19 k rfl) (fun k => g244 18 k rfl) (fun k => g244 41 k rfl) (fun k => g244 36 k rfl) (g244 0 3 rfl)
                      refine gv_callV hD rfl (As := [.inl 0]) (st := []) rfl (by decide) rfl rfl (gr_lV hws rfl) (Nat.le_of_ble_eq_true rfl) (gz_Ev_mono (d := 11) (by decide) E244) ?_
                      show gv_X _ _ (273, [(0, .inr (.inr (some 0))), (1, .inl (I 0 6)), (2, .inl v2_12), (3, .inl v3_24)], [.inl z244], gr_sh ++ ext, gr_h I245 J246)
                      refine gv_if_ne (t := 278) hD rfl rfl ⟨by omega, by omega⟩ (fun c262 => ?_) (fun c262 => ?_)
                      · have Q263 := q244.2.2.2.2.2.2.2.2.2.2.2.2
                        rw [FI80 0 78 rfl] at Q263
                        obtain ⟨u263, A263⟩ := gs_or1 Q263 (by omega)
                        have t264 := gr_ATp_l A263
                        have t265 := (q244.2.2.2.2.2.2.2.2.2.2.1).resolve_left (by omega)
                        have t266 := (q244.2.2.2.2.2.2.2.2.2.2.2.1).resolve_left (by omega)
                        obtain ⟨_, _, -, _, -, -, _, _, _, _, -, -, -⟩ := q244
                        exact L278 I245 J246 ((gs_done β N9 0 (I 0 78) p_82)) hI245 FI245 FJ246 KGR_I245 KST_I245 (by omega) A263 (by first | (exfalso; omega) | (rw [e4_82]; unfold gs_wd6; (repeat first | rw [if_pos (by omega)] | rw [if_neg (by omega)]))) (fun k => ((g244 18 k rfl).trans (e5_82 k)))
                      · have Q267 := q244.2.2.2.2.2.2.2.2.2.2.2.2
                        rw [FI80 0 78 rfl] at Q267
                        obtain ⟨u267, u267_⟩ := gs_or0 Q267 (by omega)
                        refine gv_run 1 true hD (pc' := 277) (lv' := [(0, .inr (.inr (some 0))), (1, .inl (I 0 6)), (2, .inl v2_12), (3, .inl v3_24)]) (st' := [.inl 0]) (h' := gr_h I245 J246) (C := (True ∧ True)) rfl ⟨trivial, trivial⟩ ?_
                        have b268 : (I245 0 71 = 5 ∨ I245 0 73 ≤ I245 0 69) ∧ (I245 0 72 ≤ I245 0 69) ∧ (I245 0 71 = 0 ∨ (I245 0 72 < I245 0 73 ∧ I245 0 72 < I245 0 69)) ∧ (I245 0 71 = 3 → 2 ≤ I245 0 73 - I245 0 72 ∧ I245 0 73 - I245 0 72 ≤ 14) ∧ (I245 0 72 ≤ I245 0 73) ∧ (I245 0 69 = I 0 69) ∧ (I 0 73 ≤ I245 0 73) ∧ (I 0 72 ≤ I245 0 72) ∧ (I245 0 59 - I245 0 72 ≤ I 0 59 - I 0 72) := by omega
                        exact gv_zret hD rfl (by omega) ⟨I245, J246, rfl, hI245, FI245, FJ246, KGR_I245, KST_I245, ⟨_, rfl, by omega, by omega, b268.1, b268.2.1, b268.2.2.1, b268.2.2.2.1, b268.2.2.2.2.1, b268.2.2.2.2.2.1, b268.2.2.2.2.2.2.1, b268.2.2.2.2.2.2.2.1, b268.2.2.2.2.2.2.2.2, (Or.inr ⟨by omega, by first | (exfalso; omega) | (rw [e4_82]; unfold gs_wd6; (repeat first | rw [if_pos (by omega)] | rw [if_neg (by omega)]); exact ⟨by omega, by omega, (fun j => ((g244 18 j rfl).trans (e5_82 j)))⟩)⟩)⟩⟩
                    · refine gv_run 2 true hD (pc' := 270) (lv' := [(0, .inr (.inr (some 0))), (1, .inl (I 0 6)), (2, .inl v2_12), (3, .inl v3_24)]) (st' := [.inl 1, .inr (.inr (some 0))]) (h' := gr_h I80 J81) (C := ((True ∧ True) ∧ True)) rfl ⟨⟨trivial, trivial⟩, trivial⟩ ?_
                      obtain ⟨r269, h269, E269, P269⟩ := r_done_p (ws0 := ws0) (tb := tb) hws htb ext β N9 p_82 I80 J81 hI80 1 ⟨by omega, by omega⟩ (gr_ATp_rr e3_82).1 (gr_ATp_rr e3_82).2.1 (gr_ATp_rr e3_82).2.2.1 (gr_ATp_rr e3_82).2.2.2.1 (gr_ATp_rr e3_82).2.2.2.2 e3_82 (by omega)
                      obtain ⟨I270, J271, rfl, hI270, g269, k269, ⟨z269, rfl, q269⟩⟩ := P269
                      have FI270 := gr_frt FI80 g269 rfl rfl
                      have FJ271 := gr_fjt FJ81 k269 rfl rfl
                      have t272 := g269 0 69 rfl
                      have t273 := g269 0 6 rfl
                      have t274 := g269 0 59 rfl
                      have t275 := g269 0 3 rfl
                      have t276 := g269 0 106 rfl
                      have t277 := g269 18 (Int.toNat ((I 0 6))) rfl
                      have t278 := g269 6 (Int.toNat v2_12) rfl
                      have f279 := (show 0 ≤ I270 0 71 ∧ I270 0 71 ≤ 5 from (hI270 0 71).1)
                      have f280 := (show 0 ≤ I270 0 72 ∧ I270 0 72 ≤ 1000 from (hI270 0 72).1)
                      have f281 := (show 0 ≤ I270 0 73 ∧ I270 0 73 ≤ 1001 from (hI270 0 73).1)
                      have f282 := (show 0 ≤ I270 0 69 ∧ I270 0 69 ≤ 1000 from (hI270 0 69).1)
                      have f283 := (show (-1) ≤ I270 0 6 ∧ I270 0 6 ≤ 7 from (hI270 0 6).1)
                      have f284 := (show 0 ≤ I270 0 59 ∧ I270 0 59 ≤ 2000 from (hI270 0 59).1)
                      have f285 := (show 0 ≤ I270 0 3 ∧ I270 0 3 ≤ 96 from (hI270 0 3).1)
                      have f286 := (show 0 ≤ I270 0 106 ∧ I270 0 106 ≤ 16777215 from (hI270 0 106).1)
                      have KGR_I270 := gr_GR_fr KGR_I80 (fun k => g269 19 k rfl) (fun k => g269 18 k rfl) (fun k => g269 36 k rfl) (fun k => g269 41 k rfl) (fun k => g269 42 k rfl) (fun k => g269 43 k rfl) (fun k => g269 45 k rfl) (fun k => g269 46 k rfl) (fun k => g269 47 k rfl) (fun k => g269 6 k rfl) (fun k => g269 7 k rfl) (fun k => g269 8 k rfl) (g269 0 3 rfl)
                      have KST_I270 := gr_ST_fr KST_I80 (fun k => g269 6 k rfl) (fun k => g269 19 k rfl) (fun k => g269 18 k rfl) (fun k => g269 41 k rfl) (fun k => g269 36 k rfl) (g269 0 3 rfl)
                      refine gv_callV hD rfl (As := [.inl 1]) (st := []) rfl (by decide) rfl rfl (gr_lV hws rfl) (Nat.le_of_ble_eq_true rfl) (gz_Ev_mono (d := 11) (by decide) E269) ?_
                      show gv_X _ _ (273, [(0, .inr (.inr (some 0))), (1, .inl (I 0 6)), (2, .inl v2_12), (3, .inl v3_24)], [.inl z269], gr_sh ++ ext, gr_h I270 J271)
                      refine gv_if_ne (t := 278) hD rfl rfl ⟨by omega, by omega⟩ (fun c287 => ?_) (fun c287 => ?_)
                      · have Q288 := q269.2.2.2.2.2.2.2.2.2.2.2.2
                        rw [FI80 0 78 rfl] at Q288
                        obtain ⟨u288, A288⟩ := gs_or1 Q288 (by omega)
                        have t289 := gr_ATp_l A288
                        have t290 := (q269.2.2.2.2.2.2.2.2.2.2.1).resolve_left (by omega)
                        have t291 := (q269.2.2.2.2.2.2.2.2.2.2.2.1).resolve_left (by omega)
                        obtain ⟨_, _, -, _, -, -, _, _, _, _, -, -, -⟩ := q269
                        exact L278 I270 J271 ((gs_done β N9 1 (I 0 78) p_82)) hI270 FI270 FJ271 KGR_I270 KST_I270 (by omega) A288 (by first | (exfalso; omega) | (rw [e4_82]; unfold gs_wd6; (repeat first | rw [if_pos (by omega)] | rw [if_neg (by omega)]))) (fun k => ((g269 18 k rfl).trans (e5_82 k)))
                      · have Q292 := q269.2.2.2.2.2.2.2.2.2.2.2.2
                        rw [FI80 0 78 rfl] at Q292
                        obtain ⟨u292, u292_⟩ := gs_or0 Q292 (by omega)
                        refine gv_run 1 true hD (pc' := 277) (lv' := [(0, .inr (.inr (some 0))), (1, .inl (I 0 6)), (2, .inl v2_12), (3, .inl v3_24)]) (st' := [.inl 0]) (h' := gr_h I270 J271) (C := (True ∧ True)) rfl ⟨trivial, trivial⟩ ?_
                        have b293 : (I270 0 71 = 5 ∨ I270 0 73 ≤ I270 0 69) ∧ (I270 0 72 ≤ I270 0 69) ∧ (I270 0 71 = 0 ∨ (I270 0 72 < I270 0 73 ∧ I270 0 72 < I270 0 69)) ∧ (I270 0 71 = 3 → 2 ≤ I270 0 73 - I270 0 72 ∧ I270 0 73 - I270 0 72 ≤ 14) ∧ (I270 0 72 ≤ I270 0 73) ∧ (I270 0 69 = I 0 69) ∧ (I 0 73 ≤ I270 0 73) ∧ (I 0 72 ≤ I270 0 72) ∧ (I270 0 59 - I270 0 72 ≤ I 0 59 - I 0 72) := by omega
                        exact gv_zret hD rfl (by omega) ⟨I270, J271, rfl, hI270, FI270, FJ271, KGR_I270, KST_I270, ⟨_, rfl, by omega, by omega, b293.1, b293.2.1, b293.2.2.1, b293.2.2.2.1, b293.2.2.2.2.1, b293.2.2.2.2.2.1, b293.2.2.2.2.2.2.1, b293.2.2.2.2.2.2.2.1, b293.2.2.2.2.2.2.2.2, (Or.inr ⟨by omega, by first | (exfalso; omega) | (rw [e4_82]; unfold gs_wd6; (repeat first | rw [if_pos (by omega)] | rw [if_neg (by omega)]); exact ⟨by omega, by omega, (fun j => ((g269 18 j rfl).trans (e5_82 j)))⟩)⟩)⟩⟩
                  refine gv_run 1 true hD (pc' := 247) (lv' := [(0, .inr (.inr (some 0))), (1, .inl (I 0 6)), (2, .inl v2_12), (3, .inl v3_24)]) (st' := [.inr (.inr (some 0))]) (h' := gr_h I68 J69) (C := (True ∧ True)) rfl ⟨trivial, trivial⟩ ?_
                  obtain ⟨r294, h294, E294, P294⟩ := r_cost_p (ws0 := ws0) (tb := tb) hws htb ext β N9 p_70 I68 J69 hI68   (gr_ATp_rr e3_70).1 (gr_ATp_rr e3_70).2.1 (gr_ATp_rr e3_70).2.2.1 (gr_ATp_rr e3_70).2.2.2.1 (gr_ATp_rr e3_70).2.2.2.2 e3_70 (by omega) (fun k h1 h2 => (FJ69 0 k (gs_kwF h1 h2 rfl)).trans (KW k h1 h2))
                  obtain ⟨I295, J296, rfl, hI295, g294, k294, ⟨z294, rfl, q294⟩⟩ := P294
                  have FI295 := gr_frt FI68 g294 rfl rfl
                  have FJ296 := gr_fjt FJ69 k294 rfl rfl
                  have t297 := g294 0 69 rfl
                  have t298 := g294 0 6 rfl
                  have t299 := g294 0 59 rfl
                  have t300 := g294 0 3 rfl
                  have t301 := g294 0 106 rfl
                  have t302 := g294 18 (Int.toNat ((I 0 6))) rfl
                  have t303 := g294 6 (Int.toNat v2_12) rfl
                  have f304 := (show 0 ≤ I295 0 71 ∧ I295 0 71 ≤ 5 from (hI295 0 71).1)
                  have f305 := (show 0 ≤ I295 0 72 ∧ I295 0 72 ≤ 1000 from (hI295 0 72).1)
                  have f306 := (show 0 ≤ I295 0 73 ∧ I295 0 73 ≤ 1001 from (hI295 0 73).1)
                  have f307 := (show 0 ≤ I295 0 69 ∧ I295 0 69 ≤ 1000 from (hI295 0 69).1)
                  have f308 := (show (-1) ≤ I295 0 6 ∧ I295 0 6 ≤ 7 from (hI295 0 6).1)
                  have f309 := (show 0 ≤ I295 0 59 ∧ I295 0 59 ≤ 2000 from (hI295 0 59).1)
                  have f310 := (show 0 ≤ I295 0 3 ∧ I295 0 3 ≤ 96 from (hI295 0 3).1)
                  have f311 := (show 0 ≤ I295 0 106 ∧ I295 0 106 ≤ 16777215 from (hI295 0 106).1)
                  have KGR_I295 := gr_GR_fr KGR_I68 (fun k => g294 19 k rfl) (fun k => g294 18 k rfl) (fun k => g294 36 k rfl) (fun k => g294 41 k rfl) (fun k => g294 42 k rfl) (fun k => g294 43 k rfl) (fun k => g294 45 k rfl) (fun k => g294 46 k rfl) (fun k => g294 47 k rfl) (fun k => g294 6 k rfl) (fun k => g294 7 k rfl) (fun k => g294 8 k rfl) (g294 0 3 rfl)
                  have KST_I295 := gr_ST_fr KST_I68 (fun k => g294 6 k rfl) (fun k => g294 19 k rfl) (fun k => g294 18 k rfl) (fun k => g294 41 k rfl) (fun k => g294 36 k rfl) (g294 0 3 rfl)
                  refine gv_callV hD rfl (As := []) (st := []) rfl (by decide) rfl rfl (gr_lV hws rfl) (Nat.le_of_ble_eq_true rfl) (gz_Ev_mono (d := 11) (by decide) E294) ?_
                  show gv_X _ _ (250, [(0, .inr (.inr (some 0))), (1, .inl (I 0 6)), (2, .inl v2_12), (3, .inl v3_24)], [.inl z294], gr_sh ++ ext, gr_h I295 J296)
                  refine gv_if_eq (t := 276) hD rfl rfl ⟨by omega, by omega⟩ (fun c312 => ?_) (fun c312 => ?_)
                  · obtain ⟨u313, u313_⟩ := gs_or0 q294.2.2.2.2.2.2.2.2.2.2 (by omega)
                    refine gv_run 1 true hD (pc' := 277) (lv' := [(0, .inr (.inr (some 0))), (1, .inl (I 0 6)), (2, .inl v2_12), (3, .inl v3_24)]) (st' := [.inl 0]) (h' := gr_h I295 J296) (C := (True ∧ True)) rfl ⟨trivial, trivial⟩ ?_
                    have b314 : (I295 0 71 = 5 ∨ I295 0 73 ≤ I295 0 69) ∧ (I295 0 72 ≤ I295 0 69) ∧ (I295 0 71 = 0 ∨ (I295 0 72 < I295 0 73 ∧ I295 0 72 < I295 0 69)) ∧ (I295 0 71 = 3 → 2 ≤ I295 0 73 - I295 0 72 ∧ I295 0 73 - I295 0 72 ≤ 14) ∧ (I295 0 72 ≤ I295 0 73) ∧ (I295 0 69 = I 0 69) ∧ (I 0 73 ≤ I295 0 73) ∧ (I 0 72 ≤ I295 0 72) ∧ (I295 0 59 - I295 0 72 ≤ I 0 59 - I 0 72) := by omega
                    exact gv_zret hD rfl (by omega) ⟨I295, J296, rfl, hI295, FI295, FJ296, KGR_I295, KST_I295, ⟨_, rfl, by omega, by omega, b314.1, b314.2.1, b314.2.2.1, b314.2.2.2.1, b314.2.2.2.2.1, b314.2.2.2.2.2.1, b314.2.2.2.2.2.2.1, b314.2.2.2.2.2.2.2.1, b314.2.2.2.2.2.2.2.2, (Or.inr ⟨by omega, by first | (exfalso; omega) | (rw [e4_70]; unfold gs_wd5; (repeat first | rw [if_pos (by omega)] | rw [if_neg (by omega)]); exact ⟨by omega, by omega, (fun j => ((g294 18 j rfl).trans (e5_70 j)))⟩)⟩)⟩⟩
                  · obtain ⟨u315, A315⟩ := gs_or1 q294.2.2.2.2.2.2.2.2.2.2 (by omega)
                    have t316 := gr_ATp_l A315
                    obtain ⟨_, _, -, _, -, -, _, _, _, _, -⟩ := q294
                    exact L253 I295 J296 (gs_cost β N9 p_70) hI295 FI295 FJ296 KGR_I295 KST_I295 (by omega) A315 (by first | (exfalso; omega) | (rw [e4_70]; unfold gs_wd5; (repeat first | rw [if_pos (by omega)] | rw [if_neg (by omega)]))) (fun k => ((g294 18 k rfl).trans (e5_70 k)))
                have L190 : ∀ (I317 : gr_I) (J318 : gr_J) (p_319 : Int), gr_Inv I317 → gr_fr [59, 71, 72, 73, 74, 75, 76, 77, 101, 106] [18, 36, 37, 38, 39, 40, 51, 67] I I317 → gr_fj [59, 71, 72, 73, 74, 75, 76, 77, 101, 106] [18, 36, 37, 38, 39, 40, 51, 67] J J318 → gr_GR I317 → gr_ST I9 I317 → ((0 ≤ (I 0 6) ∧ (I 0 6) ≤ 7) ∧ (0 ≤ v2_12 ∧ v2_12 ≤ 95) ∧ (0 ≤ v3_24 ∧ v3_24 ≤ 23) ∧ (I317 6 (Int.toNat v2_12) = 0) ∧ (v2_12 < I317 0 3) ∧ (I317 0 106 = 0) ∧ (I317 0 71 = 1) ∧ (0 ≤ p_319) ∧ (I317 0 72 ≤ I317 0 69) ∧ (I317 0 72 ≤ I317 0 73) ∧ (I317 0 69 = I 0 69) ∧ (I 0 73 ≤ I317 0 73) ∧ (I 0 72 ≤ I317 0 72) ∧ (I317 0 6 = I 0 6) ∧ (I317 0 59 - I317 0 72 ≤ I 0 59 - I 0 72)) → (gr_ATp β N9 p_319 I317 J318) → ((gs_wd β N9 I J (I 0 78) p9) = gs_wd4 β N9 I J (I 0 78) (gs_X β N9 p_319)) → ((∀ k, I317 18 k = I 18 k)) → gv_X (gr_E ws0 tb 11 (yX13_wordOf, cX13_wordOf, 7, (some .boolean)) kX13_wordOf) (gv_Q cX13_wordOf (some .boolean) (gr_sh ++ ext) (fun r h' => (∃ (I' : gr_I) (J' : gr_J), h' = gr_h I' J' ∧ gr_Inv I' ∧ gr_fr [59, 71, 72, 73, 74, 75, 76, 77, 101, 106] [18, 36, 37, 38, 39, 40, 51, 67] I I' ∧ gr_fj [59, 71, 72, 73, 74, 75, 76, 77, 101, 106] [18, 36, 37, 38, 39, 40, 51, 67] J J' ∧ gr_GR I' ∧ gr_ST I9 I' ∧ (∃ z : Int, r = some (.inl z) ∧ 0 ≤ z ∧ z ≤ 1 ∧ (I' 0 71 = 5 ∨ I' 0 73 ≤ I' 0 69) ∧ (I' 0 72 ≤ I' 0 69) ∧ (I' 0 71 = 0 ∨ (I' 0 72 < I' 0 73 ∧ I' 0 72 < I' 0 69)) ∧ (I' 0 71 = 3 → 2 ≤ I' 0 73 - I' 0 72 ∧ I' 0 73 - I' 0 72 ≤ 14) ∧ (I' 0 72 ≤ I' 0 73) ∧ (I' 0 69 = I 0 69) ∧ (I 0 73 ≤ I' 0 73) ∧ (I 0 72 ≤ I' 0 72) ∧ (I' 0 59 - I' 0 72 ≤ I 0 59 - I 0 72) ∧ (gs_Or z (0 ≤ (gs_wd β N9 I J (I 0 78) p9) ∧ gr_ATp β N9 (gs_wd β N9 I J (I 0 78) p9) I' J' ∧ (I' 18 (Int.toNat (I 0 6)) = I 18 (Int.toNat (I 0 6)) + 1 ∧ ∀ j, ¬ j = (Int.toNat (I 0 6)) → I' 18 j = I 18 j)) ((gs_wd β N9 I J (I 0 78) p9) < 0 ∧ I' 0 77 = -1 - (gs_wd β N9 I J (I 0 78) p9) ∧ ∀ j, I' 18 j = I 18 j)))))) (190, [(0, .inr (.inr (some 0))), (1, .inl (I 0 6)), (2, .inl v2_12), (3, .inl v3_24)], [], gr_sh ++ ext, gr_h I317 J318) := by
                  intro I317 J318 p_319 hI317 FI317 FJ318 KGR_I317 KST_I317 m_319 e5_319 e6_319 e7_319
                  clear h_I_0_6__58 hv2_12_58 hv3_24_58 e0_58 e1_58 e2_58 e6_58 e7_58 e8_58 e9_58 e10_58 e11_58 e12_58 f59 f60 f61 f62 f63 f64 f65 f66 t67 h_I_0_6__48 hv2_12_48 hv3_24_48 hv4_48 e0_48 e1_48 e2_48 e6_48 e7_48 e8_48 e9_48 e10_48 e11_48 e12_48 f49 f50 f51 f52 f53 f54 f55 f56 t57
                  obtain ⟨h_I_0_6__319, hv2_12_319, hv3_24_319, e0_319, e1_319, e2_319, e3_319, e4_319, e8_319, e9_319, e10_319, e11_319, e12_319, e13_319, e14_319⟩ := m_319
                  have f320 := (show 0 ≤ I317 0 71 ∧ I317 0 71 ≤ 5 from (hI317 0 71).1)
                  have f321 := (show 0 ≤ I317 0 72 ∧ I317 0 72 ≤ 1000 from (hI317 0 72).1)
                  have f322 := (show 0 ≤ I317 0 73 ∧ I317 0 73 ≤ 1001 from (hI317 0 73).1)
                  have f323 := (show 0 ≤ I317 0 69 ∧ I317 0 69 ≤ 1000 from (hI317 0 69).1)
                  have f324 := (show (-1) ≤ I317 0 6 ∧ I317 0 6 ≤ 7 from (hI317 0 6).1)
                  have f325 := (show 0 ≤ I317 0 59 ∧ I317 0 59 ≤ 2000 from (hI317 0 59).1)
                  have f326 := (show 0 ≤ I317 0 3 ∧ I317 0 3 ≤ 96 from (hI317 0 3).1)
                  have f327 := (show 0 ≤ I317 0 106 ∧ I317 0 106 ≤ 16777215 from (hI317 0 106).1)
                  have t328 := gr_ATp_l e5_319
                  have L206 : ∀ (n : Nat) (I329 : gr_I) (J330 : gr_J) (v5_331 : Int) (p_331 : Int), (1001 - I329 0 72).toNat < n → gr_Inv I329 → gr_fr [59, 71, 72, 73, 74, 75, 76, 77, 101, 106] [18, 36, 37, 38, 39, 40, 51, 67] I I329 → gr_fj [59, 71, 72, 73, 74, 75, 76, 77, 101, 106] [18, 36, 37, 38, 39, 40, 51, 67] J J330 → gr_GR I329 → gr_ST I9 I329 → ((0 ≤ (I 0 6) ∧ (I 0 6) ≤ 7) ∧ (0 ≤ v2_12 ∧ v2_12 ≤ 95) ∧ (0 ≤ v3_24 ∧ v3_24 ≤ 23) ∧ (0 ≤ v5_331 ∧ v5_331 ≤ 1) ∧ (I329 6 (Int.toNat v2_12) = 0) ∧ (v2_12 < I329 0 3) ∧ (0 ≤ p_331) ∧ (I329 0 72 ≤ I329 0 69) ∧ (I329 0 72 ≤ I329 0 73) ∧ (I329 0 69 = I 0 69) ∧ (I 0 73 ≤ I329 0 73) ∧ (I 0 72 ≤ I329 0 72) ∧ (I329 0 6 = I 0 6) ∧ (I329 0 59 - I329 0 72 ≤ I 0 59 - I 0 72)) → (gr_ATp β N9 p_331 I329 J330) → (∃ m : Nat, 1001 - gs_A β N9 p_331 < (m : Int) ∧ (gs_wd β N9 I J (I 0 78) p9) = gs_wd5 β N9 I (I 0 78) (gs_hv β N9 I J m v5_331 (I329 0 106) p_331)) → ((∀ k, I329 18 k = I 18 k)) → gv_X (gr_E ws0 tb 11 (yX13_wordOf, cX13_wordOf, 7, (some .boolean)) kX13_wordOf) (gv_Q cX13_wordOf (some .boolean) (gr_sh ++ ext) (fun r h' => (∃ (I' : gr_I) (J' : gr_J), h' = gr_h I' J' ∧ gr_Inv I' ∧ gr_fr [59, 71, 72, 73, 74, 75, 76, 77, 101, 106] [18, 36, 37, 38, 39, 40, 51, 67] I I' ∧ gr_fj [59, 71, 72, 73, 74, 75, 76, 77, 101, 106] [18, 36, 37, 38, 39, 40, 51, 67] J J' ∧ gr_GR I' ∧ gr_ST I9 I' ∧ (∃ z : Int, r = some (.inl z) ∧ 0 ≤ z ∧ z ≤ 1 ∧ (I' 0 71 = 5 ∨ I' 0 73 ≤ I' 0 69) ∧ (I' 0 72 ≤ I' 0 69) ∧ (I' 0 71 = 0 ∨ (I' 0 72 < I' 0 73 ∧ I' 0 72 < I' 0 69)) ∧ (I' 0 71 = 3 → 2 ≤ I' 0 73 - I' 0 72 ∧ I' 0 73 - I' 0 72 ≤ 14) ∧ (I' 0 72 ≤ I' 0 73) ∧ (I' 0 69 = I 0 69) ∧ (I 0 73 ≤ I' 0 73) ∧ (I 0 72 ≤ I' 0 72) ∧ (I' 0 59 - I' 0 72 ≤ I 0 59 - I 0 72) ∧ (gs_Or z (0 ≤ (gs_wd β N9 I J (I 0 78) p9) ∧ gr_ATp β N9 (gs_wd β N9 I J (I 0 78) p9) I' J' ∧ (I' 18 (Int.toNat (I 0 6)) = I 18 (Int.toNat (I 0 6)) + 1 ∧ ∀ j, ¬ j = (Int.toNat (I 0 6)) → I' 18 j = I 18 j)) ((gs_wd β N9 I J (I 0 78) p9) < 0 ∧ I' 0 77 = -1 - (gs_wd β N9 I J (I 0 78) p9) ∧ ∀ j, I' 18 j = I 18 j)))))) (206, [(0, .inr (.inr (some 0))), (1, .inl (I 0 6)), (2, .inl v2_12), (3, .inl v3_24), (5, .inl v5_331)], [], gr_sh ++ ext, gr_h I329 J330) := by
                    intro n
                    induction n with
                    | zero => intro I329 J330 v5_331 p_331 hn; omega
                    | succ n ih206 =>
                      intro I329 J330 v5_331 p_331 hn hI329 FI329 FJ330 KGR_I329 KST_I329 m_331 e3_331 e4_331 e5_331
                      clear h_I_0_6__319 hv2_12_319 hv3_24_319 e0_319 e1_319 e2_319 e3_319 e4_319 e8_319 e9_319 e10_319 e11_319 e12_319 e13_319 e14_319 f320 f321 f322 f323 f324 f325 f326 f327 t328
                      obtain ⟨h_I_0_6__331, hv2_12_331, hv3_24_331, hv5_331, e0_331, e1_331, e2_331, e6_331, e7_331, e8_331, e9_331, e10_331, e11_331, e12_331⟩ := m_331
                      have f332 := (show 0 ≤ I329 0 71 ∧ I329 0 71 ≤ 5 from (hI329 0 71).1)
                      have f333 := (show 0 ≤ I329 0 72 ∧ I329 0 72 ≤ 1000 from (hI329 0 72).1)
                      have f334 := (show 0 ≤ I329 0 73 ∧ I329 0 73 ≤ 1001 from (hI329 0 73).1)
                      have f335 := (show 0 ≤ I329 0 69 ∧ I329 0 69 ≤ 1000 from (hI329 0 69).1)
                      have f336 := (show (-1) ≤ I329 0 6 ∧ I329 0 6 ≤ 7 from (hI329 0 6).1)
                      have f337 := (show 0 ≤ I329 0 59 ∧ I329 0 59 ≤ 2000 from (hI329 0 59).1)
                      have f338 := (show 0 ≤ I329 0 3 ∧ I329 0 3 ≤ 96 from (hI329 0 3).1)
                      have f339 := (show 0 ≤ I329 0 106 ∧ I329 0 106 ≤ 16777215 from (hI329 0 106).1)
                      have t340 := gr_ATp_l e3_331
                      have f341 := (show 0 ≤ I329 0 71 ∧ I329 0 71 ≤ 5 from (hI329 0 71).1)
                      refine gv_run 3 true hD (pc' := 211) (lv' := [(0, .inr (.inr (some 0))), (1, .inl (I 0 6)), (2, .inl v2_12), (3, .inl v3_24), (5, .inl v5_331)]) (st' := [.inl 1, .inl (I329 0 71)]) (h' := gr_h I329 J330) (C := (((True ∧ True) ∧ True) ∧ True)) rfl ⟨⟨⟨trivial, trivial⟩, trivial⟩, trivial⟩ ?_
                      refine gv_icmp_ne (t := 246) hD rfl rfl ⟨⟨by omega, by omega⟩, ⟨by omega, by omega⟩⟩ (fun c342 => ?_) (fun c342 => ?_)
                      · have t343 := gr_ATp_ne e3_331 (c := 1) (by omega) (by omega)
                        refine gv_pick [0, 1, 2, 3] rfl ?_
                        exact L246 I329 J330 p_331 hI329 FI329 FJ330 KGR_I329 KST_I329 (by omega) e3_331 (by obtain ⟨m, hm, em⟩ := e4_331; exact em.trans (by rw [gs_hv_e (Or.inl (by omega))])) (fun k => (e5_331 k))
                      · have t344 := (gr_ATp_k e3_331 (c := 1) (by omega)).mp (by omega)
                        have t345 := (gr_ATp_rr e3_331).2.2.1.resolve_left (by omega)
                        refine gv_run 1 true hD (pc' := 216) (lv' := [(0, .inr (.inr (some 0))), (1, .inl (I 0 6)), (2, .inl v2_12), (3, .inl v3_24), (5, .inl v5_331)]) (st' := [.inl v5_331]) (h' := gr_h I329 J330) (C := (True ∧ True)) rfl ⟨trivial, trivial⟩ ?_
                        refine gv_if_ne (t := 231) hD rfl rfl ⟨by omega, by omega⟩ (fun c346 => ?_) (fun c346 => ?_)
                        · refine gv_run 1 true hD (pc' := 232) (lv' := [(0, .inr (.inr (some 0))), (1, .inl (I 0 6)), (2, .inl v2_12), (3, .inl v3_24), (5, .inl v5_331)]) (st' := [.inr (.inr (some 0))]) (h' := gr_h I329 J330) (C := (True ∧ True)) rfl ⟨trivial, trivial⟩ ?_
                          obtain ⟨r347, h347, E347, P347⟩ := r_oneValue_p (ws0 := ws0) (tb := tb) hws htb ext β N9 p_331 I329 J330 hI329   (gr_ATp_rr e3_331).1 (gr_ATp_rr e3_331).2.1 (gr_ATp_rr e3_331).2.2.1 (gr_ATp_rr e3_331).2.2.2.1 (gr_ATp_rr e3_331).2.2.2.2 (by omega) (by omega) e3_331 (by omega)
                          obtain ⟨I348, J349, rfl, hI348, g347, k347, ⟨z347, rfl, q347⟩⟩ := P347
                          have FI348 := gr_frt FI329 g347 rfl rfl
                          have FJ349 := gr_fjt FJ330 k347 rfl rfl
                          have t350 := g347 0 69 rfl
                          have t351 := g347 0 6 rfl
                          have t352 := g347 0 59 rfl
                          have t353 := g347 0 3 rfl
                          have t354 := g347 18 (Int.toNat ((I 0 6))) rfl
                          have t355 := g347 6 (Int.toNat v2_12) rfl
                          have f356 := (show 0 ≤ I348 0 71 ∧ I348 0 71 ≤ 5 from (hI348 0 71).1)
                          have f357 := (show 0 ≤ I348 0 72 ∧ I348 0 72 ≤ 1000 from (hI348 0 72).1)
                          have f358 := (show 0 ≤ I348 0 73 ∧ I348 0 73 ≤ 1001 from (hI348 0 73).1)
                          have f359 := (show 0 ≤ I348 0 69 ∧ I348 0 69 ≤ 1000 from (hI348 0 69).1)
                          have f360 := (show (-1) ≤ I348 0 6 ∧ I348 0 6 ≤ 7 from (hI348 0 6).1)
                          have f361 := (show 0 ≤ I348 0 59 ∧ I348 0 59 ≤ 2000 from (hI348 0 59).1)
                          have f362 := (show 0 ≤ I348 0 3 ∧ I348 0 3 ≤ 96 from (hI348 0 3).1)
                          have f363 := (show 0 ≤ I348 0 106 ∧ I348 0 106 ≤ 16777215 from (hI348 0 106).1)
                          have KGR_I348 := gr_GR_fr KGR_I329 (fun k => g347 19 k rfl) (fun k => g347 18 k rfl) (fun k => g347 36 k rfl) (fun k => g347 41 k rfl) (fun k => g347 42 k rfl) (fun k => g347 43 k rfl) (fun k => g347 45 k rfl) (fun k => g347 46 k rfl) (fun k => g347 47 k rfl) (fun k => g347 6 k rfl) (fun k => g347 7 k rfl) (fun k => g347 8 k rfl) (g347 0 3 rfl)
                          have KST_I348 := gr_ST_fr KST_I329 (fun k => g347 6 k rfl) (fun k => g347 19 k rfl) (fun k => g347 18 k rfl) (fun k => g347 41 k rfl) (fun k => g347 36 k rfl) (g347 0 3 rfl)
                          refine gv_callV hD rfl (As := []) (st := []) rfl (by decide) rfl rfl (gr_lV hws rfl) (Nat.le_of_ble_eq_true rfl) (gz_Ev_mono (d := 11) (by decide) E347) ?_
                          show gv_X _ _ (235, [(0, .inr (.inr (some 0))), (1, .inl (I 0 6)), (2, .inl v2_12), (3, .inl v3_24), (5, .inl v5_331)], [.inl z347], gr_sh ++ ext, gr_h I348 J349)
                          refine gv_if_ne (t := 240) hD rfl rfl ⟨by omega, by omega⟩ (fun c364 => ?_) (fun c364 => ?_)
                          · have Q365 := q347.2.2.2.2.2.2.2.2.2.2.2
                            rw [(gs_ov_eq (FI329 0 6 rfl) (fun k => (FI329 14 k rfl)) (fun k => (FI329 24 k rfl)) (fun k => (FI329 25 k rfl)) (fun k => (FJ330 21 k rfl))).1, (gs_ov_eq (FI329 0 6 rfl) (fun k => (FI329 14 k rfl)) (fun k => (FI329 24 k rfl)) (fun k => (FI329 25 k rfl)) (fun k => (FJ330 21 k rfl))).2] at Q365
                            obtain ⟨u365, A365, U365⟩ := gs_or1 Q365 (by omega)
                            have t366 := gr_ATp_l A365
                            have t367 := (q347.2.2.2.2.2.2.2.2.2.2.1).resolve_left (by omega)
                            obtain ⟨_, _, -, _, -, -, _, _, _, _, -, -⟩ := q347
                            refine gv_run 3 true hD (pc' := 206) (lv' := [(5, .inl 0), (0, .inr (.inr (some 0))), (1, .inl (I 0 6)), (2, .inl v2_12), (3, .inl v3_24)]) (st' := []) (h' := gr_h I348 J349) (C := (((True ∧ True) ∧ True) ∧ True)) rfl ⟨⟨⟨trivial, trivial⟩, trivial⟩, trivial⟩ ?_
                            refine gv_pick [1, 2, 3, 4, 0] rfl ?_
                            exact ih206 I348 J349 0 ((gs_ov β N9 I J (I329 0 106) p_331)) (by omega) hI348 FI348 FJ349 KGR_I348 KST_I348 (by omega) A365 (by obtain ⟨m, hm, em⟩ := e4_331; obtain ⟨m, rfl⟩ : ∃ n, m = n + 1 := ⟨m - 1, by omega⟩; exact ⟨m, by omega, em.trans (by rw [gs_hv_s (by omega) (Or.inl (by omega)) (by omega), U365])⟩) (fun k => ((g347 18 k rfl).trans (e5_331 k)))
                          · have Q368 := q347.2.2.2.2.2.2.2.2.2.2.2
                            rw [(gs_ov_eq (FI329 0 6 rfl) (fun k => (FI329 14 k rfl)) (fun k => (FI329 24 k rfl)) (fun k => (FI329 25 k rfl)) (fun k => (FJ330 21 k rfl))).1, (gs_ov_eq (FI329 0 6 rfl) (fun k => (FI329 14 k rfl)) (fun k => (FI329 24 k rfl)) (fun k => (FI329 25 k rfl)) (fun k => (FJ330 21 k rfl))).2] at Q368
                            obtain ⟨u368, u368_⟩ := gs_or0 Q368 (by omega)
                            refine gv_run 1 true hD (pc' := 239) (lv' := [(0, .inr (.inr (some 0))), (1, .inl (I 0 6)), (2, .inl v2_12), (3, .inl v3_24), (5, .inl v5_331)]) (st' := [.inl 0]) (h' := gr_h I348 J349) (C := (True ∧ True)) rfl ⟨trivial, trivial⟩ ?_
                            have b369 : (I348 0 71 = 5 ∨ I348 0 73 ≤ I348 0 69) ∧ (I348 0 72 ≤ I348 0 69) ∧ (I348 0 71 = 0 ∨ (I348 0 72 < I348 0 73 ∧ I348 0 72 < I348 0 69)) ∧ (I348 0 71 = 3 → 2 ≤ I348 0 73 - I348 0 72 ∧ I348 0 73 - I348 0 72 ≤ 14) ∧ (I348 0 72 ≤ I348 0 73) ∧ (I348 0 69 = I 0 69) ∧ (I 0 73 ≤ I348 0 73) ∧ (I 0 72 ≤ I348 0 72) ∧ (I348 0 59 - I348 0 72 ≤ I 0 59 - I 0 72) := by omega
                            exact gv_zret hD rfl (by omega) ⟨I348, J349, rfl, hI348, FI348, FJ349, KGR_I348, KST_I348, ⟨_, rfl, by omega, by omega, b369.1, b369.2.1, b369.2.2.1, b369.2.2.2.1, b369.2.2.2.2.1, b369.2.2.2.2.2.1, b369.2.2.2.2.2.2.1, b369.2.2.2.2.2.2.2.1, b369.2.2.2.2.2.2.2.2, (Or.inr ⟨by omega, by obtain ⟨m, hm, em⟩ := e4_331; obtain ⟨m, rfl⟩ : ∃ n, m = n + 1 := ⟨m - 1, by omega⟩; rw [em, gs_hv_x (by omega) (Or.inl (by omega)) (by omega)]; unfold gs_wd5; (repeat first | rw [if_pos (by omega)] | rw [if_neg (by omega)]); exact ⟨by omega, by omega, (fun j => ((g347 18 j rfl).trans (e5_331 j)))⟩⟩)⟩⟩
                        · have f370 := gw_cmp ((J330 0 75)) ((J330 0 92))
                          refine gv_run 5 true hD (pc' := 228) (lv' := [(0, .inr (.inr (some 0))), (1, .inl (I 0 6)), (2, .inl v2_12), (3, .inl v3_24), (5, .inl v5_331)]) (st' := [.inl ((lg_cmp ((J330 0 75)) ((J330 0 92))).toInt)]) (h' := gr_h I329 J330) (C := (((((True ∧ True) ∧ True) ∧ True) ∧ True) ∧ True)) rfl ⟨⟨⟨⟨⟨trivial, trivial⟩, trivial⟩, trivial⟩, trivial⟩, trivial⟩ ?_
                          refine gv_if_eq (t := 246) hD rfl rfl ⟨by omega, by omega⟩ (fun c371 => ?_) (fun c371 => ?_)
                          · have j371 := gs_cmp0 (a := (J330 0 75)) (b := (J330 0 92)) (by omega)
                            refine gv_pick [0, 1, 2, 3] rfl ?_
                            exact L246 I329 J330 p_331 hI329 FI329 FJ330 KGR_I329 KST_I329 (by omega) e3_331 (by obtain ⟨m, hm, em⟩ := e4_331; exact em.trans (by rw [gs_hv_e (Or.inr ⟨by omega, (gr_ATp_w e3_331).symm.trans (j371.trans ((fun k h1 h2 => (FJ330 0 k (gs_kwF h1 h2 rfl)).trans (KW k h1 h2)) 92 (by decide) (by decide)))⟩)])) (fun k => (e5_331 k))
                          · have j371 := gs_cmpn (a := (J330 0 75)) (b := (J330 0 92)) (by omega)
                            refine gv_run 1 true hD (pc' := 232) (lv' := [(0, .inr (.inr (some 0))), (1, .inl (I 0 6)), (2, .inl v2_12), (3, .inl v3_24), (5, .inl v5_331)]) (st' := [.inr (.inr (some 0))]) (h' := gr_h I329 J330) (C := (True ∧ True)) rfl ⟨trivial, trivial⟩ ?_
                            obtain ⟨r372, h372, E372, P372⟩ := r_oneValue_p (ws0 := ws0) (tb := tb) hws htb ext β N9 p_331 I329 J330 hI329   (gr_ATp_rr e3_331).1 (gr_ATp_rr e3_331).2.1 (gr_ATp_rr e3_331).2.2.1 (gr_ATp_rr e3_331).2.2.2.1 (gr_ATp_rr e3_331).2.2.2.2 (by omega) (by omega) e3_331 (by omega)
                            obtain ⟨I373, J374, rfl, hI373, g372, k372, ⟨z372, rfl, q372⟩⟩ := P372
                            have FI373 := gr_frt FI329 g372 rfl rfl
                            have FJ374 := gr_fjt FJ330 k372 rfl rfl
                            have t375 := g372 0 69 rfl
                            have t376 := g372 0 6 rfl
                            have t377 := g372 0 59 rfl
                            have t378 := g372 0 3 rfl
                            have t379 := g372 18 (Int.toNat ((I 0 6))) rfl
                            have t380 := g372 6 (Int.toNat v2_12) rfl
                            have f381 := (show 0 ≤ I373 0 71 ∧ I373 0 71 ≤ 5 from (hI373 0 71).1)
                            have f382 := (show 0 ≤ I373 0 72 ∧ I373 0 72 ≤ 1000 from (hI373 0 72).1)
                            have f383 := (show 0 ≤ I373 0 73 ∧ I373 0 73 ≤ 1001 from (hI373 0 73).1)
                            have f384 := (show 0 ≤ I373 0 69 ∧ I373 0 69 ≤ 1000 from (hI373 0 69).1)
                            have f385 := (show (-1) ≤ I373 0 6 ∧ I373 0 6 ≤ 7 from (hI373 0 6).1)
                            have f386 := (show 0 ≤ I373 0 59 ∧ I373 0 59 ≤ 2000 from (hI373 0 59).1)
                            have f387 := (show 0 ≤ I373 0 3 ∧ I373 0 3 ≤ 96 from (hI373 0 3).1)
                            have f388 := (show 0 ≤ I373 0 106 ∧ I373 0 106 ≤ 16777215 from (hI373 0 106).1)
                            have KGR_I373 := gr_GR_fr KGR_I329 (fun k => g372 19 k rfl) (fun k => g372 18 k rfl) (fun k => g372 36 k rfl) (fun k => g372 41 k rfl) (fun k => g372 42 k rfl) (fun k => g372 43 k rfl) (fun k => g372 45 k rfl) (fun k => g372 46 k rfl) (fun k => g372 47 k rfl) (fun k => g372 6 k rfl) (fun k => g372 7 k rfl) (fun k => g372 8 k rfl) (g372 0 3 rfl)
                            have KST_I373 := gr_ST_fr KST_I329 (fun k => g372 6 k rfl) (fun k => g372 19 k rfl) (fun k => g372 18 k rfl) (fun k => g372 41 k rfl) (fun k => g372 36 k rfl) (g372 0 3 rfl)
                            refine gv_callV hD rfl (As := []) (st := []) rfl (by decide) rfl rfl (gr_lV hws rfl) (Nat.le_of_ble_eq_true rfl) (gz_Ev_mono (d := 11) (by decide) E372) ?_
                            show gv_X _ _ (235, [(0, .inr (.inr (some 0))), (1, .inl (I 0 6)), (2, .inl v2_12), (3, .inl v3_24), (5, .inl v5_331)], [.inl z372], gr_sh ++ ext, gr_h I373 J374)
                            refine gv_if_ne (t := 240) hD rfl rfl ⟨by omega, by omega⟩ (fun c389 => ?_) (fun c389 => ?_)
                            · have Q390 := q372.2.2.2.2.2.2.2.2.2.2.2
                              rw [(gs_ov_eq (FI329 0 6 rfl) (fun k => (FI329 14 k rfl)) (fun k => (FI329 24 k rfl)) (fun k => (FI329 25 k rfl)) (fun k => (FJ330 21 k rfl))).1, (gs_ov_eq (FI329 0 6 rfl) (fun k => (FI329 14 k rfl)) (fun k => (FI329 24 k rfl)) (fun k => (FI329 25 k rfl)) (fun k => (FJ330 21 k rfl))).2] at Q390
                              obtain ⟨u390, A390, U390⟩ := gs_or1 Q390 (by omega)
                              have t391 := gr_ATp_l A390
                              have t392 := (q372.2.2.2.2.2.2.2.2.2.2.1).resolve_left (by omega)
                              obtain ⟨_, _, -, _, -, -, _, _, _, _, -, -⟩ := q372
                              refine gv_run 3 true hD (pc' := 206) (lv' := [(5, .inl 0), (0, .inr (.inr (some 0))), (1, .inl (I 0 6)), (2, .inl v2_12), (3, .inl v3_24)]) (st' := []) (h' := gr_h I373 J374) (C := (((True ∧ True) ∧ True) ∧ True)) rfl ⟨⟨⟨trivial, trivial⟩, trivial⟩, trivial⟩ ?_
                              refine gv_pick [1, 2, 3, 4, 0] rfl ?_
                              exact ih206 I373 J374 0 ((gs_ov β N9 I J (I329 0 106) p_331)) (by omega) hI373 FI373 FJ374 KGR_I373 KST_I373 (by omega) A390 (by obtain ⟨m, hm, em⟩ := e4_331; obtain ⟨m, rfl⟩ : ∃ n, m = n + 1 := ⟨m - 1, by omega⟩; exact ⟨m, by omega, em.trans (by rw [gs_hv_s (by omega) (Or.inr (fun h => j371 ((gr_ATp_w e3_331).trans (h.trans ((fun k h1 h2 => (FJ330 0 k (gs_kwF h1 h2 rfl)).trans (KW k h1 h2)) 92 (by decide) (by decide)).symm)))) (by omega), U390])⟩) (fun k => ((g372 18 k rfl).trans (e5_331 k)))
                            · have Q393 := q372.2.2.2.2.2.2.2.2.2.2.2
                              rw [(gs_ov_eq (FI329 0 6 rfl) (fun k => (FI329 14 k rfl)) (fun k => (FI329 24 k rfl)) (fun k => (FI329 25 k rfl)) (fun k => (FJ330 21 k rfl))).1, (gs_ov_eq (FI329 0 6 rfl) (fun k => (FI329 14 k rfl)) (fun k => (FI329 24 k rfl)) (fun k => (FI329 25 k rfl)) (fun k => (FJ330 21 k rfl))).2] at Q393
                              obtain ⟨u393, u393_⟩ := gs_or0 Q393 (by omega)
                              refine gv_run 1 true hD (pc' := 239) (lv' := [(0, .inr (.inr (some 0))), (1, .inl (I 0 6)), (2, .inl v2_12), (3, .inl v3_24), (5, .inl v5_331)]) (st' := [.inl 0]) (h' := gr_h I373 J374) (C := (True ∧ True)) rfl ⟨trivial, trivial⟩ ?_
                              have b394 : (I373 0 71 = 5 ∨ I373 0 73 ≤ I373 0 69) ∧ (I373 0 72 ≤ I373 0 69) ∧ (I373 0 71 = 0 ∨ (I373 0 72 < I373 0 73 ∧ I373 0 72 < I373 0 69)) ∧ (I373 0 71 = 3 → 2 ≤ I373 0 73 - I373 0 72 ∧ I373 0 73 - I373 0 72 ≤ 14) ∧ (I373 0 72 ≤ I373 0 73) ∧ (I373 0 69 = I 0 69) ∧ (I 0 73 ≤ I373 0 73) ∧ (I 0 72 ≤ I373 0 72) ∧ (I373 0 59 - I373 0 72 ≤ I 0 59 - I 0 72) := by omega
                              exact gv_zret hD rfl (by omega) ⟨I373, J374, rfl, hI373, FI373, FJ374, KGR_I373, KST_I373, ⟨_, rfl, by omega, by omega, b394.1, b394.2.1, b394.2.2.1, b394.2.2.2.1, b394.2.2.2.2.1, b394.2.2.2.2.2.1, b394.2.2.2.2.2.2.1, b394.2.2.2.2.2.2.2.1, b394.2.2.2.2.2.2.2.2, (Or.inr ⟨by omega, by obtain ⟨m, hm, em⟩ := e4_331; obtain ⟨m, rfl⟩ : ∃ n, m = n + 1 := ⟨m - 1, by omega⟩; rw [em, gs_hv_x (by omega) (Or.inr (fun h => j371 ((gr_ATp_w e3_331).trans (h.trans ((fun k h1 h2 => (FJ330 0 k (gs_kwF h1 h2 rfl)).trans (KW k h1 h2)) 92 (by decide) (by decide)).symm)))) (by omega)]; unfold gs_wd5; (repeat first | rw [if_pos (by omega)] | rw [if_neg (by omega)]); exact ⟨by omega, by omega, (fun j => ((g372 18 j rfl).trans (e5_331 j)))⟩⟩)⟩⟩
                  refine gv_run 1 true hD (pc' := 191) (lv' := [(0, .inr (.inr (some 0))), (1, .inl (I 0 6)), (2, .inl v2_12), (3, .inl v3_24)]) (st' := [.inr (.inr (some 0))]) (h' := gr_h I317 J318) (C := (True ∧ True)) rfl ⟨trivial, trivial⟩ ?_
                  obtain ⟨r395, h395, E395, P395⟩ := r_next_p (ws0 := ws0) (tb := tb) hws htb ext β N9 I317 J318 hI317   ((gr_ATp_rr e5_319).1.resolve_left (by omega)) e5_319.1.1 e5_319.1.2
                  obtain ⟨I396, J397, rfl, hI396, g395, k395, ⟨rfl, q395⟩⟩ := P395
                  have FI396 := gr_frt FI317 g395 rfl rfl
                  have FJ397 := gr_fjt FJ318 k395 rfl rfl
                  have t398 := g395 0 69 rfl
                  have t399 := g395 0 6 rfl
                  have t400 := g395 0 59 rfl
                  have t401 := g395 0 3 rfl
                  have t402 := g395 0 106 rfl
                  have t403 := g395 18 (Int.toNat ((I 0 6))) rfl
                  have t404 := g395 6 (Int.toNat v2_12) rfl
                  have f405 := (show 0 ≤ I396 0 71 ∧ I396 0 71 ≤ 5 from (hI396 0 71).1)
                  have f406 := (show 0 ≤ I396 0 72 ∧ I396 0 72 ≤ 1000 from (hI396 0 72).1)
                  have f407 := (show 0 ≤ I396 0 73 ∧ I396 0 73 ≤ 1001 from (hI396 0 73).1)
                  have f408 := (show 0 ≤ I396 0 69 ∧ I396 0 69 ≤ 1000 from (hI396 0 69).1)
                  have f409 := (show (-1) ≤ I396 0 6 ∧ I396 0 6 ≤ 7 from (hI396 0 6).1)
                  have f410 := (show 0 ≤ I396 0 59 ∧ I396 0 59 ≤ 2000 from (hI396 0 59).1)
                  have f411 := (show 0 ≤ I396 0 3 ∧ I396 0 3 ≤ 96 from (hI396 0 3).1)
                  have f412 := (show 0 ≤ I396 0 106 ∧ I396 0 106 ≤ 16777215 from (hI396 0 106).1)
                  have KGR_I396 := gr_GR_fr KGR_I317 (fun k => g395 19 k rfl) (fun k => g395 18 k rfl) (fun k => g395 36 k rfl) (fun k => g395 41 k rfl) (fun k => g395 42 k rfl) (fun k => g395 43 k rfl) (fun k => g395 45 k rfl) (fun k => g395 46 k rfl) (fun k => g395 47 k rfl) (fun k => g395 6 k rfl) (fun k => g395 7 k rfl) (fun k => g395 8 k rfl) (g395 0 3 rfl)
                  have KST_I396 := gr_ST_fr KST_I317 (fun k => g395 6 k rfl) (fun k => g395 19 k rfl) (fun k => g395 18 k rfl) (fun k => g395 41 k rfl) (fun k => g395 36 k rfl) (g395 0 3 rfl)
                  have A413 := gr_ATp_nx e5_319 q395.2.2.2.2.2
                  have t414 := gr_ATp_l A413
                  obtain ⟨_, _, -, -, -, -⟩ := q395
                  refine gv_callV hD rfl (As := []) (st := []) rfl (by decide) rfl rfl (gr_lV hws rfl) (Nat.le_of_ble_eq_true rfl) (gz_Ev_mono (d := 10) (by decide) E395) ?_
                  show gv_X _ _ (194, [(0, .inr (.inr (some 0))), (1, .inl (I 0 6)), (2, .inl v2_12), (3, .inl v3_24)], [], gr_sh ++ ext, gr_h I396 J397)
                  refine gv_run 1 true hD (pc' := 195) (lv' := [(0, .inr (.inr (some 0))), (1, .inl (I 0 6)), (2, .inl v2_12), (3, .inl v3_24)]) (st' := [.inr (.inr (some 0))]) (h' := gr_h I396 J397) (C := (True ∧ True)) rfl ⟨trivial, trivial⟩ ?_
                  obtain ⟨r415, h415, E415, P415⟩ := r_name_p (ws0 := ws0) (tb := tb) hws htb ext β N9 (gs_X β N9 p_319) I396 J397 hI396   A413 (by omega)
                  obtain ⟨I416, J417, rfl, hI416, g415, k415, ⟨z415, rfl, q415⟩⟩ := P415
                  have FI416 := gr_frt FI396 g415 rfl rfl
                  have FJ417 := gr_fjt FJ397 k415 rfl rfl
                  have t418 := g415 0 71 rfl
                  have t419 := g415 0 72 rfl
                  have t420 := g415 0 73 rfl
                  have t421 := g415 0 69 rfl
                  have t422 := g415 0 6 rfl
                  have t423 := g415 0 59 rfl
                  have t424 := g415 0 3 rfl
                  have t425 := g415 0 106 rfl
                  have t426 := g415 18 (Int.toNat ((I 0 6))) rfl
                  have t427 := g415 6 (Int.toNat v2_12) rfl
                  have f428 := (show 0 ≤ I416 0 71 ∧ I416 0 71 ≤ 5 from (hI416 0 71).1)
                  have f429 := (show 0 ≤ I416 0 72 ∧ I416 0 72 ≤ 1000 from (hI416 0 72).1)
                  have f430 := (show 0 ≤ I416 0 73 ∧ I416 0 73 ≤ 1001 from (hI416 0 73).1)
                  have f431 := (show 0 ≤ I416 0 69 ∧ I416 0 69 ≤ 1000 from (hI416 0 69).1)
                  have f432 := (show (-1) ≤ I416 0 6 ∧ I416 0 6 ≤ 7 from (hI416 0 6).1)
                  have f433 := (show 0 ≤ I416 0 59 ∧ I416 0 59 ≤ 2000 from (hI416 0 59).1)
                  have f434 := (show 0 ≤ I416 0 3 ∧ I416 0 3 ≤ 96 from (hI416 0 3).1)
                  have f435 := (show 0 ≤ I416 0 106 ∧ I416 0 106 ≤ 16777215 from (hI416 0 106).1)
                  have KGR_I416 := gr_GR_fr KGR_I396 (fun k => g415 19 k rfl) (fun k => g415 18 k rfl) (fun k => g415 36 k rfl) (fun k => g415 41 k rfl) (fun k => g415 42 k rfl) (fun k => g415 43 k rfl) (fun k => g415 45 k rfl) (fun k => g415 46 k rfl) (fun k => g415 47 k rfl) (fun k => g415 6 k rfl) (fun k => g415 7 k rfl) (fun k => g415 8 k rfl) (g415 0 3 rfl)
                  have KST_I416 := gr_ST_fr KST_I396 (fun k => g415 6 k rfl) (fun k => g415 19 k rfl) (fun k => g415 18 k rfl) (fun k => g415 41 k rfl) (fun k => g415 36 k rfl) (g415 0 3 rfl)
                  have V415 := gs_or_mk q415.2.2.2
                  have A436 := gr_ATp_F A413 g415 k415 rfl
                  have t437 := gr_ATp_l A436
                  obtain ⟨_, _, o415, -⟩ := q415
                  refine gv_callV hD rfl (As := []) (st := []) rfl (by decide) rfl rfl (gr_lV hws rfl) (Nat.le_of_ble_eq_true rfl) (gz_Ev_mono (d := 3) (by decide) E415) ?_
                  show gv_X _ _ (198, [(0, .inr (.inr (some 0))), (1, .inl (I 0 6)), (2, .inl v2_12), (3, .inl v3_24)], [.inl z415], gr_sh ++ ext, gr_h I416 J417)
                  refine gv_if_ne (t := 203) hD rfl rfl ⟨by omega, by omega⟩ (fun c438 => ?_) (fun c438 => ?_)
                  · have u439 := gs_or1 V415 (by omega)
                    have t440 := o415.resolve_left (by omega)
                    have t441 := (gr_ATp_rr A436).2.2.1.resolve_left (by omega)
                    clear o415 V415
                    refine gv_run 2 true hD (pc' := 206) (lv' := [(5, .inl 1), (0, .inr (.inr (some 0))), (1, .inl (I 0 6)), (2, .inl v2_12), (3, .inl v3_24)]) (st' := []) (h' := gr_h I416 J417) (C := ((True ∧ True) ∧ True)) rfl ⟨⟨trivial, trivial⟩, trivial⟩ ?_
                    refine gv_pick [1, 2, 3, 4, 0] rfl ?_
                    exact L206 _ I416 J417 1 (gs_X β N9 p_319) (Nat.lt_succ_self _) hI416 FI416 FJ417 KGR_I416 KST_I416 (by omega) A436 ⟨1002, by omega, (e6_319.trans (by unfold gs_wd4; (repeat first | rw [if_pos (by omega)] | rw [if_neg (by omega)]); rw [show I416 0 106 = 0 from by omega]))⟩ (fun k => (((g415 18 k rfl).trans (g395 18 k rfl)).trans (e7_319 k)))
                  · have u442 := gs_or0 V415 (by omega)
                    clear o415 V415
                    refine gv_run 1 true hD (pc' := 202) (lv' := [(0, .inr (.inr (some 0))), (1, .inl (I 0 6)), (2, .inl v2_12), (3, .inl v3_24)]) (st' := [.inl 0]) (h' := gr_h I416 J417) (C := (True ∧ True)) rfl ⟨trivial, trivial⟩ ?_
                    have b443 : (I416 0 69 = I 0 69) ∧ (I 0 73 ≤ I416 0 73) ∧ (I 0 72 ≤ I416 0 72) ∧ (I416 0 59 - I416 0 72 ≤ I 0 59 - I 0 72) := by omega
                    exact gv_zret hD rfl (by omega) ⟨I416, J417, rfl, hI416, FI416, FJ417, KGR_I416, KST_I416, ⟨_, rfl, by omega, by omega, (gr_ATp_rr A436).1, (gr_ATp_rr A436).2.1, (gr_ATp_rr A436).2.2.1, (gr_ATp_rr A436).2.2.2.1, (gr_ATp_rr A436).2.2.2.2, b443.1, b443.2.1, b443.2.2.1, b443.2.2.2, (Or.inr ⟨by omega, by first | (exfalso; omega) | (rw [e6_319]; unfold gs_wd4; (repeat first | rw [if_pos (by omega)] | rw [if_neg (by omega)]); exact ⟨by omega, by omega, (fun j => (((g415 18 j rfl).trans (g395 18 j rfl)).trans (e7_319 j)))⟩)⟩)⟩⟩
                refine gv_run 3 true hD (pc' := 179) (lv' := [(0, .inr (.inr (some 0))), (1, .inl (I 0 6)), (2, .inl v2_12), (3, .inl v3_24)]) (st' := []) (h' := gz_up (gr_h I46 J47) 0 106 (.inl 0)) (C := (((True ∧ True) ∧ True) ∧ True)) rfl ⟨⟨⟨trivial, trivial⟩, trivial⟩, trivial⟩ ?_
                refine gr_st hI46 FI46 rfl rfl ⟨⟨by show 0 ≤ _; omega, by show _ ≤ 16777215; omega⟩, trivial⟩ (fun I444 hI444 FI444 q445 p445 => ?_)
                have t446 := p445 0 71 (by decide)
                have t447 := p445 0 72 (by decide)
                have t448 := p445 0 73 (by decide)
                have t449 := p445 0 69 (by decide)
                have t450 := p445 0 6 (by decide)
                have t451 := p445 0 59 (by decide)
                have t452 := p445 0 3 (by decide)
                have t453 := p445 18 (Int.toNat ((I 0 6))) (fun q => absurd q.1 (by decide))
                have t454 := p445 6 (Int.toNat v2_12) (fun q => absurd q.1 (by decide))
                have f455 := (show 0 ≤ I444 0 71 ∧ I444 0 71 ≤ 5 from (hI444 0 71).1)
                have f456 := (show 0 ≤ I444 0 72 ∧ I444 0 72 ≤ 1000 from (hI444 0 72).1)
                have f457 := (show 0 ≤ I444 0 73 ∧ I444 0 73 ≤ 1001 from (hI444 0 73).1)
                have f458 := (show 0 ≤ I444 0 69 ∧ I444 0 69 ≤ 1000 from (hI444 0 69).1)
                have f459 := (show (-1) ≤ I444 0 6 ∧ I444 0 6 ≤ 7 from (hI444 0 6).1)
                have f460 := (show 0 ≤ I444 0 59 ∧ I444 0 59 ≤ 2000 from (hI444 0 59).1)
                have f461 := (show 0 ≤ I444 0 3 ∧ I444 0 3 ≤ 96 from (hI444 0 3).1)
                have f462 := (show 0 ≤ I444 0 106 ∧ I444 0 106 ≤ 16777215 from (hI444 0 106).1)
                have KGR_I444 := gr_GR_fr KGR_I46 (fun k => p445 19 k (fun q => absurd q.1 (by decide))) (fun k => p445 18 k (fun q => absurd q.1 (by decide))) (fun k => p445 36 k (fun q => absurd q.1 (by decide))) (fun k => p445 41 k (fun q => absurd q.1 (by decide))) (fun k => p445 42 k (fun q => absurd q.1 (by decide))) (fun k => p445 43 k (fun q => absurd q.1 (by decide))) (fun k => p445 45 k (fun q => absurd q.1 (by decide))) (fun k => p445 46 k (fun q => absurd q.1 (by decide))) (fun k => p445 47 k (fun q => absurd q.1 (by decide))) (fun k => p445 6 k (fun q => absurd q.1 (by decide))) (fun k => p445 7 k (fun q => absurd q.1 (by decide))) (fun k => p445 8 k (fun q => absurd q.1 (by decide))) (p445 0 3 (by decide))
                have KST_I444 := gr_ST_fr KST_I46 (fun k => p445 6 k (fun q => absurd q.1 (by decide))) (fun k => p445 19 k (fun q => absurd q.1 (by decide))) (fun k => p445 18 k (fun q => absurd q.1 (by decide))) (fun k => p445 41 k (fun q => absurd q.1 (by decide))) (fun k => p445 36 k (fun q => absurd q.1 (by decide))) (p445 0 3 (by decide))
                have A463 := gr_ATp_sf e3_48 p445 rfl
                refine gv_run 3 true hD (pc' := 184) (lv' := [(0, .inr (.inr (some 0))), (1, .inl (I 0 6)), (2, .inl v2_12), (3, .inl v3_24)]) (st' := [.inr (.inl (J47 0 93)), .inr (.inr (some 0))]) (h' := gr_h I444 J47) (C := (((True ∧ True) ∧ True) ∧ True)) rfl ⟨⟨⟨trivial, trivial⟩, trivial⟩, trivial⟩ ?_
                obtain ⟨r464, h464, E464, P464⟩ := r_is_p (ws0 := ws0) (tb := tb) hws htb ext β N9 p_48 I444 J47 hI444 (J47 0 93)  A463 (by omega)
                obtain ⟨rfl, ⟨z464, rfl, q464⟩⟩ := P464
                have t465 := (show gs_kw β N9 p_48 (J47 0 93) = gs_kw β N9 p_48 (gs_W 93) from by rw [show J47 0 93 = gs_W 93 from (fun k h1 h2 => (FJ47 0 k (gs_kwF h1 h2 rfl)).trans (KW k h1 h2)) 93 (by decide) (by decide)])
                obtain ⟨_, _, o464, _⟩ := q464
                refine gv_callV hD rfl (As := [.inr (.inl (J47 0 93))]) (st := []) rfl (by decide) rfl rfl (gr_lV hws rfl) (Nat.le_of_ble_eq_true rfl) (gz_Ev_mono (d := 1) (by decide) E464) ?_
                show gv_X _ _ (187, [(0, .inr (.inr (some 0))), (1, .inl (I 0 6)), (2, .inl v2_12), (3, .inl v3_24)], [.inl z464], gr_sh ++ ext, gr_h I444 J47)
                refine gv_if_eq (t := 246) hD rfl rfl ⟨by omega, by omega⟩ (fun c466 => ?_) (fun c466 => ?_)
                · clear o464
                  exact L246 I444 J47 p_48 hI444 FI444 FJ47 KGR_I444 KST_I444 (by omega) A463 (e4_58.trans (by unfold gs_wd3; (repeat first | rw [if_pos (by omega)] | rw [if_neg (by omega)]))) (fun k => ((p445 18 k (fun q => absurd q.1 (by decide))).trans (e5_58 k)))
                · have t467 := o464.resolve_left (by omega)
                  have t468 := (gr_ATp_rr A463).2.2.1.resolve_left (by omega)
                  clear o464
                  exact L190 I444 J47 p_48 hI444 FI444 FJ47 KGR_I444 KST_I444 (by omega) A463 (by rw [e4_58]; unfold gs_wd3; (repeat first | rw [if_pos (by omega)] | rw [if_neg (by omega)])) (fun k => ((p445 18 k (fun q => absurd q.1 (by decide))).trans (e5_58 k)))
              have f469 := (show 0 ≤ I46 0 71 ∧ I46 0 71 ≤ 5 from (hI46 0 71).1)
              refine gv_run 3 true hD (pc' := 144) (lv' := [(0, .inr (.inr (some 0))), (1, .inl (I 0 6)), (2, .inl v2_12), (3, .inl v3_24), (4, .inl v4_48)]) (st' := [.inl 3, .inl (I46 0 71)]) (h' := gr_h I46 J47) (C := (((True ∧ True) ∧ True) ∧ True)) rfl ⟨⟨⟨trivial, trivial⟩, trivial⟩, trivial⟩ ?_
              refine gv_icmp_ne (t := 174) hD rfl rfl ⟨⟨by omega, by omega⟩, ⟨by omega, by omega⟩⟩ (fun c470 => ?_) (fun c470 => ?_)
              · have t471 := gr_ATp_ne e3_48 (c := 3) (by omega) (by omega)
                refine gv_pick [0, 1, 2, 3] rfl ?_
                exact L174 (by omega) e3_48 (e4_48.trans (by rw [gs_stm_e (by omega)])) (fun k => (e5_48 k))
              · have t472 := (gr_ATp_k e3_48 (c := 3) (by omega)).mp (by omega)
                have t473 := (gr_ATp_rr e3_48).2.2.1.resolve_left (by omega)
                have t474 := (gr_ATp_rr e3_48).2.2.2.1 (by omega)
                refine gv_run 2 true hD (pc' := 150) (lv' := [(0, .inr (.inr (some 0))), (1, .inl (I 0 6)), (2, .inl v2_12), (3, .inl v3_24), (4, .inl v4_48)]) (st' := [.inl 3, .inl v4_48]) (h' := gr_h I46 J47) (C := ((True ∧ True) ∧ True)) rfl ⟨⟨trivial, trivial⟩, trivial⟩ ?_
                refine gv_icmp_ge (t := 174) hD rfl rfl ⟨⟨by omega, by omega⟩, ⟨by omega, by omega⟩⟩ (fun c475 => ?_) (fun c475 => ?_)
                · refine gv_pick [0, 1, 2, 3] rfl ?_
                  exact L174 (by omega) e3_48 (e4_48.trans (by rw [gs_stm_e (by omega)])) (fun k => (e5_48 k))
                · refine gv_run 5 true hD (pc' := 163) (lv' := [(4, .inl (v4_48 + 1)), (0, .inr (.inr (some 0))), (1, .inl (I 0 6)), (2, .inl v2_12), (3, .inl v3_24)]) (st' := [.inr (.inr (some 0)), .inl v4_48, .inr (.inr (some 67))]) (h' := gr_h I46 J47) (C := (((((True ∧ True) ∧ True) ∧ True) ∧ True) ∧ True)) rfl ⟨⟨⟨⟨⟨trivial, trivial⟩, trivial⟩, trivial⟩, trivial⟩, trivial⟩ ?_
                  obtain ⟨r476, h476, E476, P476⟩ := r_keeps_p (ws0 := ws0) (tb := tb) hws htb ext I46 J47 hI46   (by omega) ((gr_ATp_rr e3_48).2.2.2.1 (by omega)).2 ((gr_ATp_rr e3_48).2.2.2.1 (by omega)).1 (by have h9 := (gr_ATp_rr e3_48).1.resolve_left (by omega); omega)
                  obtain ⟨I477, J478, rfl, hI477, g476, k476, ⟨z476, rfl, q476⟩⟩ := P476
                  have FI477 := gr_frt FI46 g476 rfl rfl
                  have FJ478 := gr_fjt FJ47 k476 rfl rfl
                  have t479 := g476 0 71 rfl
                  have t480 := g476 0 72 rfl
                  have t481 := g476 0 73 rfl
                  have t482 := g476 0 69 rfl
                  have t483 := g476 0 6 rfl
                  have t484 := g476 0 3 rfl
                  have t485 := g476 0 106 rfl
                  have t486 := g476 18 (Int.toNat ((I 0 6))) rfl
                  have t487 := g476 6 (Int.toNat v2_12) rfl
                  have f488 := (show 0 ≤ I477 0 71 ∧ I477 0 71 ≤ 5 from (hI477 0 71).1)
                  have f489 := (show 0 ≤ I477 0 72 ∧ I477 0 72 ≤ 1000 from (hI477 0 72).1)
                  have f490 := (show 0 ≤ I477 0 73 ∧ I477 0 73 ≤ 1001 from (hI477 0 73).1)
                  have f491 := (show 0 ≤ I477 0 69 ∧ I477 0 69 ≤ 1000 from (hI477 0 69).1)
                  have f492 := (show (-1) ≤ I477 0 6 ∧ I477 0 6 ≤ 7 from (hI477 0 6).1)
                  have f493 := (show 0 ≤ I477 0 59 ∧ I477 0 59 ≤ 2000 from (hI477 0 59).1)
                  have f494 := (show 0 ≤ I477 0 3 ∧ I477 0 3 ≤ 96 from (hI477 0 3).1)
                  have f495 := (show 0 ≤ I477 0 106 ∧ I477 0 106 ≤ 16777215 from (hI477 0 106).1)
                  have KGR_I477 := gr_GR_fr KGR_I46 (fun k => g476 19 k rfl) (fun k => g476 18 k rfl) (fun k => g476 36 k rfl) (fun k => g476 41 k rfl) (fun k => g476 42 k rfl) (fun k => g476 43 k rfl) (fun k => g476 45 k rfl) (fun k => g476 46 k rfl) (fun k => g476 47 k rfl) (fun k => g476 6 k rfl) (fun k => g476 7 k rfl) (fun k => g476 8 k rfl) (g476 0 3 rfl)
                  have KST_I477 := gr_ST_fr KST_I46 (fun k => g476 6 k rfl) (fun k => g476 19 k rfl) (fun k => g476 18 k rfl) (fun k => g476 41 k rfl) (fun k => g476 36 k rfl) (g476 0 3 rfl)
                  have A496 := gr_ATp_F e3_48 g476 k476 rfl
                  have t497 := gr_ATp_l A496
                  refine gv_callV hD rfl (As := []) (st := [.inl v4_48, .inr (.inr (some 67))]) rfl (by decide) rfl rfl (gr_lV hws rfl) (Nat.le_of_ble_eq_true rfl) (gz_Ev_mono (d := 2) (by decide) E476) ?_
                  show gv_X _ _ (166, [(4, .inl (v4_48 + 1)), (0, .inr (.inr (some 0))), (1, .inl (I 0 6)), (2, .inl v2_12), (3, .inl v3_24)], [.inl z476, .inl v4_48, .inr (.inr (some 67))], gr_sh ++ ext, gr_h I477 J478)
                  refine gv_run 1 true hD (pc' := 167) (lv' := [(4, .inl (v4_48 + 1)), (0, .inr (.inr (some 0))), (1, .inl (I 0 6)), (2, .inl v2_12), (3, .inl v3_24)]) (st' := []) (h' := gz_up (gr_h I477 J478) 67 (Int.toNat v4_48) (.inl z476)) (C := (True ∧ (0 ≤ v4_48 ∧ v4_48 < ((3 : Nat) : Int)))) rfl ⟨trivial, ⟨by omega, by omega⟩⟩ ?_
                  refine gr_st hI477 FI477 rfl rfl ⟨⟨by show (-1) ≤ _; omega, by show _ ≤ 32015; omega⟩, trivial⟩ (fun I498 hI498 FI498 q499 p499 => ?_)
                  have t500 := p499 0 71 (fun q => absurd q.1 (by decide))
                  have t501 := p499 0 72 (fun q => absurd q.1 (by decide))
                  have t502 := p499 0 73 (fun q => absurd q.1 (by decide))
                  have t503 := p499 0 69 (fun q => absurd q.1 (by decide))
                  have t504 := p499 0 6 (fun q => absurd q.1 (by decide))
                  have t505 := p499 0 59 (fun q => absurd q.1 (by decide))
                  have t506 := p499 0 3 (fun q => absurd q.1 (by decide))
                  have t507 := p499 0 106 (fun q => absurd q.1 (by decide))
                  have t508 := p499 18 (Int.toNat ((I 0 6))) (fun q => absurd q.1 (by decide))
                  have t509 := p499 6 (Int.toNat v2_12) (fun q => absurd q.1 (by decide))
                  have f510 := (show 0 ≤ I498 0 71 ∧ I498 0 71 ≤ 5 from (hI498 0 71).1)
                  have f511 := (show 0 ≤ I498 0 72 ∧ I498 0 72 ≤ 1000 from (hI498 0 72).1)
                  have f512 := (show 0 ≤ I498 0 73 ∧ I498 0 73 ≤ 1001 from (hI498 0 73).1)
                  have f513 := (show 0 ≤ I498 0 69 ∧ I498 0 69 ≤ 1000 from (hI498 0 69).1)
                  have f514 := (show (-1) ≤ I498 0 6 ∧ I498 0 6 ≤ 7 from (hI498 0 6).1)
                  have f515 := (show 0 ≤ I498 0 59 ∧ I498 0 59 ≤ 2000 from (hI498 0 59).1)
                  have f516 := (show 0 ≤ I498 0 3 ∧ I498 0 3 ≤ 96 from (hI498 0 3).1)
                  have f517 := (show 0 ≤ I498 0 106 ∧ I498 0 106 ≤ 16777215 from (hI498 0 106).1)
                  have KGR_I498 := gr_GR_fr KGR_I477 (fun k => p499 19 k (fun q => absurd q.1 (by decide))) (fun k => p499 18 k (fun q => absurd q.1 (by decide))) (fun k => p499 36 k (fun q => absurd q.1 (by decide))) (fun k => p499 41 k (fun q => absurd q.1 (by decide))) (fun k => p499 42 k (fun q => absurd q.1 (by decide))) (fun k => p499 43 k (fun q => absurd q.1 (by decide))) (fun k => p499 45 k (fun q => absurd q.1 (by decide))) (fun k => p499 46 k (fun q => absurd q.1 (by decide))) (fun k => p499 47 k (fun q => absurd q.1 (by decide))) (fun k => p499 6 k (fun q => absurd q.1 (by decide))) (fun k => p499 7 k (fun q => absurd q.1 (by decide))) (fun k => p499 8 k (fun q => absurd q.1 (by decide))) (p499 0 3 (fun q => absurd q.1 (by decide)))
                  have KST_I498 := gr_ST_fr KST_I477 (fun k => p499 6 k (fun q => absurd q.1 (by decide))) (fun k => p499 19 k (fun q => absurd q.1 (by decide))) (fun k => p499 18 k (fun q => absurd q.1 (by decide))) (fun k => p499 41 k (fun q => absurd q.1 (by decide))) (fun k => p499 36 k (fun q => absurd q.1 (by decide))) (p499 0 3 (fun q => absurd q.1 (by decide)))
                  have A518 := gr_ATp_sr A496 p499 rfl
                  refine gv_run 1 true hD (pc' := 168) (lv' := [(4, .inl (v4_48 + 1)), (0, .inr (.inr (some 0))), (1, .inl (I 0 6)), (2, .inl v2_12), (3, .inl v3_24)]) (st' := [.inr (.inr (some 0))]) (h' := gr_h I498 J478) (C := (True ∧ True)) rfl ⟨trivial, trivial⟩ ?_
                  obtain ⟨r519, h519, E519, P519⟩ := r_next_p (ws0 := ws0) (tb := tb) hws htb ext β N9 I498 J478 hI498   ((gr_ATp_rr A518).1.resolve_left (by omega)) A518.1.1 A518.1.2
                  obtain ⟨I520, J521, rfl, hI520, g519, k519, ⟨rfl, q519⟩⟩ := P519
                  have FI520 := gr_frt FI498 g519 rfl rfl
                  have FJ521 := gr_fjt FJ478 k519 rfl rfl
                  have t522 := g519 0 69 rfl
                  have t523 := g519 0 6 rfl
                  have t524 := g519 0 59 rfl
                  have t525 := g519 0 3 rfl
                  have t526 := g519 0 106 rfl
                  have t527 := g519 18 (Int.toNat ((I 0 6))) rfl
                  have t528 := g519 6 (Int.toNat v2_12) rfl
                  have f529 := (show 0 ≤ I520 0 71 ∧ I520 0 71 ≤ 5 from (hI520 0 71).1)
                  have f530 := (show 0 ≤ I520 0 72 ∧ I520 0 72 ≤ 1000 from (hI520 0 72).1)
                  have f531 := (show 0 ≤ I520 0 73 ∧ I520 0 73 ≤ 1001 from (hI520 0 73).1)
                  have f532 := (show 0 ≤ I520 0 69 ∧ I520 0 69 ≤ 1000 from (hI520 0 69).1)
                  have f533 := (show (-1) ≤ I520 0 6 ∧ I520 0 6 ≤ 7 from (hI520 0 6).1)
                  have f534 := (show 0 ≤ I520 0 59 ∧ I520 0 59 ≤ 2000 from (hI520 0 59).1)
                  have f535 := (show 0 ≤ I520 0 3 ∧ I520 0 3 ≤ 96 from (hI520 0 3).1)
                  have f536 := (show 0 ≤ I520 0 106 ∧ I520 0 106 ≤ 16777215 from (hI520 0 106).1)
                  have KGR_I520 := gr_GR_fr KGR_I498 (fun k => g519 19 k rfl) (fun k => g519 18 k rfl) (fun k => g519 36 k rfl) (fun k => g519 41 k rfl) (fun k => g519 42 k rfl) (fun k => g519 43 k rfl) (fun k => g519 45 k rfl) (fun k => g519 46 k rfl) (fun k => g519 47 k rfl) (fun k => g519 6 k rfl) (fun k => g519 7 k rfl) (fun k => g519 8 k rfl) (g519 0 3 rfl)
                  have KST_I520 := gr_ST_fr KST_I498 (fun k => g519 6 k rfl) (fun k => g519 19 k rfl) (fun k => g519 18 k rfl) (fun k => g519 41 k rfl) (fun k => g519 36 k rfl) (g519 0 3 rfl)
                  have A537 := gr_ATp_nx A518 q519.2.2.2.2.2
                  have t538 := gr_ATp_l A537
                  obtain ⟨_, _, -, -, -, -⟩ := q519
                  refine gv_callV hD rfl (As := []) (st := []) rfl (by decide) rfl rfl (gr_lV hws rfl) (Nat.le_of_ble_eq_true rfl) (gz_Ev_mono (d := 10) (by decide) E519) ?_
                  show gv_X _ _ (171, [(4, .inl (v4_48 + 1)), (0, .inr (.inr (some 0))), (1, .inl (I 0 6)), (2, .inl v2_12), (3, .inl v3_24)], [], gr_sh ++ ext, gr_h I520 J521)
                  refine gv_run 1 true hD (pc' := 139) (lv' := [(4, .inl (v4_48 + 1)), (0, .inr (.inr (some 0))), (1, .inl (I 0 6)), (2, .inl v2_12), (3, .inl v3_24)]) (st' := []) (h' := gr_h I520 J521) (C := (True ∧ True)) rfl ⟨trivial, trivial⟩ ?_
                  refine gv_pick [1, 2, 3, 4, 0] rfl ?_
                  exact ih139 I520 J521 (v4_48 + 1) (gs_X β N9 p_48) (by omega) hI520 FI520 FJ521 KGR_I520 KST_I520 (by omega) A537 (e4_48.trans (by rw [gs_stm_s (by omega) (by omega)])) (fun k => ((((g519 18 k rfl).trans (p499 18 k (fun q => absurd q.1 (by decide)))).trans (g476 18 k rfl)).trans (e5_48 k)))
          refine gv_run 2 true hD (pc' := 122) (lv' := [(0, .inr (.inr (some 0))), (1, .inl (I 0 6)), (2, .inl v2_12), (3, .inl v3_24), (4, .inl v4_36), (5, .inl v5_36)]) (st' := [.inl 3, .inl v5_36]) (h' := gr_h I34 J35) (C := ((True ∧ True) ∧ True)) rfl ⟨⟨trivial, trivial⟩, trivial⟩ ?_
          refine gv_icmp_ge (t := 139) hD rfl rfl ⟨⟨by omega, by omega⟩, ⟨by omega, by omega⟩⟩ (fun c539 => ?_) (fun c539 => ?_)
          · refine gv_pick [0, 1, 2, 3, 4] rfl ?_
            exact L139 _ I34 J35 v4_36 p_36 (Nat.lt_succ_self _) hI34 FI34 FJ35 KGR_I34 KST_I34 (by omega) e4_36 (e5_36.trans (by rw [show Int.toNat (3 - v4_36) = 3 from by omega])) (fun k => (e6_36 k))
          · refine gv_run 4 true hD (pc' := 132) (lv' := [(0, .inr (.inr (some 0))), (1, .inl (I 0 6)), (2, .inl v2_12), (3, .inl v3_24), (4, .inl v4_36), (5, .inl v5_36)]) (st' := [.inl (-1), .inl v5_36, .inr (.inr (some 67))]) (h' := gr_h I34 J35) (C := ((((True ∧ True) ∧ True) ∧ True) ∧ True)) rfl ⟨⟨⟨⟨trivial, trivial⟩, trivial⟩, trivial⟩, trivial⟩ ?_
            refine gv_run 1 true hD (pc' := 133) (lv' := [(0, .inr (.inr (some 0))), (1, .inl (I 0 6)), (2, .inl v2_12), (3, .inl v3_24), (4, .inl v4_36), (5, .inl v5_36)]) (st' := []) (h' := gz_up (gr_h I34 J35) 67 (Int.toNat v5_36) (.inl (-1))) (C := (True ∧ (0 ≤ v5_36 ∧ v5_36 < ((3 : Nat) : Int)))) rfl ⟨trivial, ⟨by omega, by omega⟩⟩ ?_
            refine gr_st hI34 FI34 rfl rfl ⟨⟨by show (-1) ≤ _; omega, by show _ ≤ 32015; omega⟩, trivial⟩ (fun I540 hI540 FI540 q541 p541 => ?_)
            have t542 := p541 0 71 (fun q => absurd q.1 (by decide))
            have t543 := p541 0 72 (fun q => absurd q.1 (by decide))
            have t544 := p541 0 73 (fun q => absurd q.1 (by decide))
            have t545 := p541 0 69 (fun q => absurd q.1 (by decide))
            have t546 := p541 0 6 (fun q => absurd q.1 (by decide))
            have t547 := p541 0 59 (fun q => absurd q.1 (by decide))
            have t548 := p541 0 3 (fun q => absurd q.1 (by decide))
            have t549 := p541 0 106 (fun q => absurd q.1 (by decide))
            have t550 := p541 18 (Int.toNat ((I 0 6))) (fun q => absurd q.1 (by decide))
            have t551 := p541 6 (Int.toNat v2_12) (fun q => absurd q.1 (by decide))
            have f552 := (show 0 ≤ I540 0 71 ∧ I540 0 71 ≤ 5 from (hI540 0 71).1)
            have f553 := (show 0 ≤ I540 0 72 ∧ I540 0 72 ≤ 1000 from (hI540 0 72).1)
            have f554 := (show 0 ≤ I540 0 73 ∧ I540 0 73 ≤ 1001 from (hI540 0 73).1)
            have f555 := (show 0 ≤ I540 0 69 ∧ I540 0 69 ≤ 1000 from (hI540 0 69).1)
            have f556 := (show (-1) ≤ I540 0 6 ∧ I540 0 6 ≤ 7 from (hI540 0 6).1)
            have f557 := (show 0 ≤ I540 0 59 ∧ I540 0 59 ≤ 2000 from (hI540 0 59).1)
            have f558 := (show 0 ≤ I540 0 3 ∧ I540 0 3 ≤ 96 from (hI540 0 3).1)
            have f559 := (show 0 ≤ I540 0 106 ∧ I540 0 106 ≤ 16777215 from (hI540 0 106).1)
            have KGR_I540 := gr_GR_fr KGR_I34 (fun k => p541 19 k (fun q => absurd q.1 (by decide))) (fun k => p541 18 k (fun q => absurd q.1 (by decide))) (fun k => p541 36 k (fun q => absurd q.1 (by decide))) (fun k => p541 41 k (fun q => absurd q.1 (by decide))) (fun k => p541 42 k (fun q => absurd q.1 (by decide))) (fun k => p541 43 k (fun q => absurd q.1 (by decide))) (fun k => p541 45 k (fun q => absurd q.1 (by decide))) (fun k => p541 46 k (fun q => absurd q.1 (by decide))) (fun k => p541 47 k (fun q => absurd q.1 (by decide))) (fun k => p541 6 k (fun q => absurd q.1 (by decide))) (fun k => p541 7 k (fun q => absurd q.1 (by decide))) (fun k => p541 8 k (fun q => absurd q.1 (by decide))) (p541 0 3 (fun q => absurd q.1 (by decide)))
            have KST_I540 := gr_ST_fr KST_I34 (fun k => p541 6 k (fun q => absurd q.1 (by decide))) (fun k => p541 19 k (fun q => absurd q.1 (by decide))) (fun k => p541 18 k (fun q => absurd q.1 (by decide))) (fun k => p541 41 k (fun q => absurd q.1 (by decide))) (fun k => p541 36 k (fun q => absurd q.1 (by decide))) (p541 0 3 (fun q => absurd q.1 (by decide)))
            have A560 := gr_ATp_sr e4_36 p541 rfl
            refine gv_run 2 true hD (pc' := 119) (lv' := [(5, .inl (v5_36 + 1)), (0, .inr (.inr (some 0))), (1, .inl (I 0 6)), (2, .inl v2_12), (3, .inl v3_24), (4, .inl v4_36)]) (st' := []) (h' := gr_h I540 J35) (C := ((True ∧ True) ∧ True)) rfl ⟨⟨trivial, trivial⟩, trivial⟩ ?_
            refine gv_pick [1, 2, 3, 4, 5, 0] rfl ?_
            exact ih119 I540 J35 v4_36 (v5_36 + 1) p_36 (by omega) hI540 FI540 FJ35 KGR_I540 KST_I540 (by omega) A560 e5_36 (fun k => ((p541 18 k (fun q => absurd q.1 (by decide))).trans (e6_36 k)))
      refine gv_run 1 true hD (pc' := 96) (lv' := [(0, .inr (.inr (some 0))), (1, .inl (I 0 6)), (2, .inl v2_12), (3, .inl v3_24)]) (st' := [.inr (.inr (some 0))]) (h' := gr_h I22 J23) (C := (True ∧ True)) rfl ⟨trivial, trivial⟩ ?_
      obtain ⟨r561, h561, E561, P561⟩ := r_next_p (ws0 := ws0) (tb := tb) hws htb ext β N9 I22 J23 hI22   ((gr_ATp_rr e4_24).1.resolve_left (by omega)) e4_24.1.1 e4_24.1.2
      obtain ⟨I562, J563, rfl, hI562, g561, k561, ⟨rfl, q561⟩⟩ := P561
      have FI562 := gr_frt FI22 g561 rfl rfl
      have FJ563 := gr_fjt FJ23 k561 rfl rfl
      have t564 := g561 0 69 rfl
      have t565 := g561 0 6 rfl
      have t566 := g561 0 59 rfl
      have t567 := g561 0 3 rfl
      have t568 := g561 0 106 rfl
      have t569 := g561 18 (Int.toNat ((I 0 6))) rfl
      have t570 := g561 6 (Int.toNat v2_12) rfl
      have f571 := (show 0 ≤ I562 0 71 ∧ I562 0 71 ≤ 5 from (hI562 0 71).1)
      have f572 := (show 0 ≤ I562 0 72 ∧ I562 0 72 ≤ 1000 from (hI562 0 72).1)
      have f573 := (show 0 ≤ I562 0 73 ∧ I562 0 73 ≤ 1001 from (hI562 0 73).1)
      have f574 := (show 0 ≤ I562 0 69 ∧ I562 0 69 ≤ 1000 from (hI562 0 69).1)
      have f575 := (show (-1) ≤ I562 0 6 ∧ I562 0 6 ≤ 7 from (hI562 0 6).1)
      have f576 := (show 0 ≤ I562 0 59 ∧ I562 0 59 ≤ 2000 from (hI562 0 59).1)
      have f577 := (show 0 ≤ I562 0 3 ∧ I562 0 3 ≤ 96 from (hI562 0 3).1)
      have f578 := (show 0 ≤ I562 0 106 ∧ I562 0 106 ≤ 16777215 from (hI562 0 106).1)
      have KGR_I562 := gr_GR_fr KGR_I22 (fun k => g561 19 k rfl) (fun k => g561 18 k rfl) (fun k => g561 36 k rfl) (fun k => g561 41 k rfl) (fun k => g561 42 k rfl) (fun k => g561 43 k rfl) (fun k => g561 45 k rfl) (fun k => g561 46 k rfl) (fun k => g561 47 k rfl) (fun k => g561 6 k rfl) (fun k => g561 7 k rfl) (fun k => g561 8 k rfl) (g561 0 3 rfl)
      have KST_I562 := gr_ST_fr KST_I22 (fun k => g561 6 k rfl) (fun k => g561 19 k rfl) (fun k => g561 18 k rfl) (fun k => g561 41 k rfl) (fun k => g561 36 k rfl) (g561 0 3 rfl)
      have A579 := gr_ATp_nx e4_24 q561.2.2.2.2.2
      have t580 := gr_ATp_l A579
      obtain ⟨_, _, -, -, -, -⟩ := q561
      refine gv_callV hD rfl (As := []) (st := []) rfl (by decide) rfl rfl (gr_lV hws rfl) (Nat.le_of_ble_eq_true rfl) (gz_Ev_mono (d := 10) (by decide) E561) ?_
      show gv_X _ _ (99, [(0, .inr (.inr (some 0))), (1, .inl (I 0 6)), (2, .inl v2_12), (3, .inl v3_24)], [], gr_sh ++ ext, gr_h I562 J563)
      have f581 := (show 0 ≤ I562 0 71 ∧ I562 0 71 ≤ 5 from (hI562 0 71).1)
      refine gv_run 3 true hD (pc' := 104) (lv' := [(0, .inr (.inr (some 0))), (1, .inl (I 0 6)), (2, .inl v2_12), (3, .inl v3_24)]) (st' := [.inl 3, .inl (I562 0 71)]) (h' := gr_h I562 J563) (C := (((True ∧ True) ∧ True) ∧ True)) rfl ⟨⟨⟨trivial, trivial⟩, trivial⟩, trivial⟩ ?_
      refine gv_icmp_eq (t := 113) hD rfl rfl ⟨⟨by omega, by omega⟩, ⟨by omega, by omega⟩⟩ (fun c582 => ?_) (fun c582 => ?_)
      · have t583 := (gr_ATp_k A579 (c := 3) (by omega)).mp (by omega)
        have t584 := (gr_ATp_rr A579).2.2.1.resolve_left (by omega)
        have t585 := (gr_ATp_rr A579).2.2.2.1 (by omega)
        refine gv_run 4 true hD (pc' := 119) (lv' := [(5, .inl 0), (4, .inl 0), (0, .inr (.inr (some 0))), (1, .inl (I 0 6)), (2, .inl v2_12), (3, .inl v3_24)]) (st' := []) (h' := gr_h I562 J563) (C := ((((True ∧ True) ∧ True) ∧ True) ∧ True)) rfl ⟨⟨⟨⟨trivial, trivial⟩, trivial⟩, trivial⟩, trivial⟩ ?_
        refine gv_pick [2, 3, 4, 5, 1, 0] rfl ?_
        exact L119 _ I562 J563 0 0 (gs_X β N9 p_24) (Nat.lt_succ_self _) hI562 FI562 FJ563 KGR_I562 KST_I562 (by omega) A579 (by rw [e5_24]; unfold gs_wd2; (repeat first | rw [if_pos (by omega)] | rw [if_neg (by omega)])) (fun k => ((g561 18 k rfl).trans (e6_24 k)))
      · have t586 := gr_ATp_ne A579 (c := 3) (by omega) (by omega)
        refine gv_run 2 true hD (pc' := 109) (lv' := [(0, .inr (.inr (some 0))), (1, .inl (I 0 6)), (2, .inl v2_12), (3, .inl v3_24)]) (st' := [.inl 1, .inr (.inr (some 0))]) (h' := gr_h I562 J563) (C := ((True ∧ True) ∧ True)) rfl ⟨⟨trivial, trivial⟩, trivial⟩ ?_
        obtain ⟨r587, h587, E587, P587⟩ := r_no__p (ws0 := ws0) (tb := tb) hws htb ext β N9 (gs_X β N9 p_24) I562 J563 hI562 1 ⟨by omega, by omega⟩ A579 (by omega)
        obtain ⟨I588, J589, rfl, hI588, g587, k587, ⟨z587, rfl, q587⟩⟩ := P587
        have FI588 := gr_frt FI562 g587 rfl rfl
        have FJ589 := gr_fjt FJ563 k587 rfl rfl
        have t590 := g587 0 71 rfl
        have t591 := g587 0 72 rfl
        have t592 := g587 0 73 rfl
        have t593 := g587 0 69 rfl
        have t594 := g587 0 6 rfl
        have t595 := g587 0 59 rfl
        have t596 := g587 0 3 rfl
        have t597 := g587 0 106 rfl
        have t598 := g587 18 (Int.toNat ((I 0 6))) rfl
        have t599 := g587 6 (Int.toNat v2_12) rfl
        have f600 := (show 0 ≤ I588 0 71 ∧ I588 0 71 ≤ 5 from (hI588 0 71).1)
        have f601 := (show 0 ≤ I588 0 72 ∧ I588 0 72 ≤ 1000 from (hI588 0 72).1)
        have f602 := (show 0 ≤ I588 0 73 ∧ I588 0 73 ≤ 1001 from (hI588 0 73).1)
        have f603 := (show 0 ≤ I588 0 69 ∧ I588 0 69 ≤ 1000 from (hI588 0 69).1)
        have f604 := (show (-1) ≤ I588 0 6 ∧ I588 0 6 ≤ 7 from (hI588 0 6).1)
        have f605 := (show 0 ≤ I588 0 59 ∧ I588 0 59 ≤ 2000 from (hI588 0 59).1)
        have f606 := (show 0 ≤ I588 0 3 ∧ I588 0 3 ≤ 96 from (hI588 0 3).1)
        have f607 := (show 0 ≤ I588 0 106 ∧ I588 0 106 ≤ 16777215 from (hI588 0 106).1)
        have KGR_I588 := gr_GR_fr KGR_I562 (fun k => g587 19 k rfl) (fun k => g587 18 k rfl) (fun k => g587 36 k rfl) (fun k => g587 41 k rfl) (fun k => g587 42 k rfl) (fun k => g587 43 k rfl) (fun k => g587 45 k rfl) (fun k => g587 46 k rfl) (fun k => g587 47 k rfl) (fun k => g587 6 k rfl) (fun k => g587 7 k rfl) (fun k => g587 8 k rfl) (g587 0 3 rfl)
        have KST_I588 := gr_ST_fr KST_I562 (fun k => g587 6 k rfl) (fun k => g587 19 k rfl) (fun k => g587 18 k rfl) (fun k => g587 41 k rfl) (fun k => g587 36 k rfl) (g587 0 3 rfl)
        have A608 := gr_ATp_F A579 g587 k587 rfl
        have t609 := gr_ATp_l A608
        refine gv_callV hD rfl (As := [.inl 1]) (st := []) rfl (by decide) rfl rfl (gr_lV hws rfl) (Nat.le_of_ble_eq_true rfl) (gz_Ev_mono (d := 2) (by decide) E587) ?_
        show gv_X _ _ (112, [(0, .inr (.inr (some 0))), (1, .inl (I 0 6)), (2, .inl v2_12), (3, .inl v3_24)], [.inl z587], gr_sh ++ ext, gr_h I588 J589)
        have b610 : (I588 0 69 = I 0 69) ∧ (I 0 73 ≤ I588 0 73) ∧ (I 0 72 ≤ I588 0 72) ∧ (I588 0 59 - I588 0 72 ≤ I 0 59 - I 0 72) := by omega
        exact gv_zret hD rfl (by omega) ⟨I588, J589, rfl, hI588, FI588, FJ589, KGR_I588, KST_I588, ⟨_, rfl, by omega, by omega, (gr_ATp_rr A608).1, (gr_ATp_rr A608).2.1, (gr_ATp_rr A608).2.2.1, (gr_ATp_rr A608).2.2.2.1, (gr_ATp_rr A608).2.2.2.2, b610.1, b610.2.1, b610.2.2.1, b610.2.2.2, (Or.inr ⟨by omega, by first | (exfalso; omega) | (rw [e5_24]; unfold gs_wd2; (repeat first | rw [if_pos (by omega)] | rw [if_neg (by omega)]); exact ⟨by omega, by omega, (fun j => (((g587 18 j rfl).trans (g561 18 j rfl)).trans (e6_24 j)))⟩)⟩)⟩⟩
    refine gv_run 1 true hD (pc' := 51) (lv' := [(0, .inr (.inr (some 0))), (1, .inl (I 0 6)), (2, .inl v2_12)]) (st' := [.inr (.inr (some 0))]) (h' := gr_h I10 J11) (C := (True ∧ True)) rfl ⟨trivial, trivial⟩ ?_
    obtain ⟨r611, h611, E611, P611⟩ := r_next_p (ws0 := ws0) (tb := tb) hws htb ext β N9 I10 J11 hI10   ((gr_ATp_rr e4_12).1.resolve_left (by omega)) e4_12.1.1 e4_12.1.2
    obtain ⟨I612, J613, rfl, hI612, g611, k611, ⟨rfl, q611⟩⟩ := P611
    have FI612 := gr_frt FI10 g611 rfl rfl
    have FJ613 := gr_fjt FJ11 k611 rfl rfl
    have t614 := g611 0 69 rfl
    have t615 := g611 0 6 rfl
    have t616 := g611 0 59 rfl
    have t617 := g611 0 3 rfl
    have t618 := g611 0 106 rfl
    have t619 := g611 18 (Int.toNat ((I 0 6))) rfl
    have t620 := g611 6 (Int.toNat v2_12) rfl
    have f621 := (show 0 ≤ I612 0 71 ∧ I612 0 71 ≤ 5 from (hI612 0 71).1)
    have f622 := (show 0 ≤ I612 0 72 ∧ I612 0 72 ≤ 1000 from (hI612 0 72).1)
    have f623 := (show 0 ≤ I612 0 73 ∧ I612 0 73 ≤ 1001 from (hI612 0 73).1)
    have f624 := (show 0 ≤ I612 0 69 ∧ I612 0 69 ≤ 1000 from (hI612 0 69).1)
    have f625 := (show (-1) ≤ I612 0 6 ∧ I612 0 6 ≤ 7 from (hI612 0 6).1)
    have f626 := (show 0 ≤ I612 0 59 ∧ I612 0 59 ≤ 2000 from (hI612 0 59).1)
    have f627 := (show 0 ≤ I612 0 3 ∧ I612 0 3 ≤ 96 from (hI612 0 3).1)
    have f628 := (show 0 ≤ I612 0 106 ∧ I612 0 106 ≤ 16777215 from (hI612 0 106).1)
    have KGR_I612 := gr_GR_fr KGR_I10 (fun k => g611 19 k rfl) (fun k => g611 18 k rfl) (fun k => g611 36 k rfl) (fun k => g611 41 k rfl) (fun k => g611 42 k rfl) (fun k => g611 43 k rfl) (fun k => g611 45 k rfl) (fun k => g611 46 k rfl) (fun k => g611 47 k rfl) (fun k => g611 6 k rfl) (fun k => g611 7 k rfl) (fun k => g611 8 k rfl) (g611 0 3 rfl)
    have KST_I612 := gr_ST_fr KST_I10 (fun k => g611 6 k rfl) (fun k => g611 19 k rfl) (fun k => g611 18 k rfl) (fun k => g611 41 k rfl) (fun k => g611 36 k rfl) (g611 0 3 rfl)
    have A629 := gr_ATp_nx e4_12 q611.2.2.2.2.2
    have t630 := gr_ATp_l A629
    obtain ⟨_, _, -, -, -, -⟩ := q611
    refine gv_callV hD rfl (As := []) (st := []) rfl (by decide) rfl rfl (gr_lV hws rfl) (Nat.le_of_ble_eq_true rfl) (gz_Ev_mono (d := 10) (by decide) E611) ?_
    show gv_X _ _ (54, [(0, .inr (.inr (some 0))), (1, .inl (I 0 6)), (2, .inl v2_12)], [], gr_sh ++ ext, gr_h I612 J613)
    refine gv_run 1 true hD (pc' := 55) (lv' := [(0, .inr (.inr (some 0))), (1, .inl (I 0 6)), (2, .inl v2_12)]) (st' := [.inr (.inr (some 0))]) (h' := gr_h I612 J613) (C := (True ∧ True)) rfl ⟨trivial, trivial⟩ ?_
    obtain ⟨r631, h631, E631, P631⟩ := r_name_p (ws0 := ws0) (tb := tb) hws htb ext β N9 (gs_X β N9 p_12) I612 J613 hI612   A629 (by omega)
    obtain ⟨I632, J633, rfl, hI632, g631, k631, ⟨z631, rfl, q631⟩⟩ := P631
    have FI632 := gr_frt FI612 g631 rfl rfl
    have FJ633 := gr_fjt FJ613 k631 rfl rfl
    have t634 := g631 0 71 rfl
    have t635 := g631 0 72 rfl
    have t636 := g631 0 73 rfl
    have t637 := g631 0 69 rfl
    have t638 := g631 0 6 rfl
    have t639 := g631 0 59 rfl
    have t640 := g631 0 3 rfl
    have t641 := g631 0 106 rfl
    have t642 := g631 18 (Int.toNat ((I 0 6))) rfl
    have t643 := g631 6 (Int.toNat v2_12) rfl
    have f644 := (show 0 ≤ I632 0 71 ∧ I632 0 71 ≤ 5 from (hI632 0 71).1)
    have f645 := (show 0 ≤ I632 0 72 ∧ I632 0 72 ≤ 1000 from (hI632 0 72).1)
    have f646 := (show 0 ≤ I632 0 73 ∧ I632 0 73 ≤ 1001 from (hI632 0 73).1)
    have f647 := (show 0 ≤ I632 0 69 ∧ I632 0 69 ≤ 1000 from (hI632 0 69).1)
    have f648 := (show (-1) ≤ I632 0 6 ∧ I632 0 6 ≤ 7 from (hI632 0 6).1)
    have f649 := (show 0 ≤ I632 0 59 ∧ I632 0 59 ≤ 2000 from (hI632 0 59).1)
    have f650 := (show 0 ≤ I632 0 3 ∧ I632 0 3 ≤ 96 from (hI632 0 3).1)
    have f651 := (show 0 ≤ I632 0 106 ∧ I632 0 106 ≤ 16777215 from (hI632 0 106).1)
    have KGR_I632 := gr_GR_fr KGR_I612 (fun k => g631 19 k rfl) (fun k => g631 18 k rfl) (fun k => g631 36 k rfl) (fun k => g631 41 k rfl) (fun k => g631 42 k rfl) (fun k => g631 43 k rfl) (fun k => g631 45 k rfl) (fun k => g631 46 k rfl) (fun k => g631 47 k rfl) (fun k => g631 6 k rfl) (fun k => g631 7 k rfl) (fun k => g631 8 k rfl) (g631 0 3 rfl)
    have KST_I632 := gr_ST_fr KST_I612 (fun k => g631 6 k rfl) (fun k => g631 19 k rfl) (fun k => g631 18 k rfl) (fun k => g631 41 k rfl) (fun k => g631 36 k rfl) (g631 0 3 rfl)
    have V631 := gs_or_mk q631.2.2.2
    have A652 := gr_ATp_F A629 g631 k631 rfl
    have t653 := gr_ATp_l A652
    obtain ⟨_, _, o631, -⟩ := q631
    refine gv_callV hD rfl (As := []) (st := []) rfl (by decide) rfl rfl (gr_lV hws rfl) (Nat.le_of_ble_eq_true rfl) (gz_Ev_mono (d := 3) (by decide) E631) ?_
    show gv_X _ _ (58, [(0, .inr (.inr (some 0))), (1, .inl (I 0 6)), (2, .inl v2_12)], [.inl z631], gr_sh ++ ext, gr_h I632 J633)
    refine gv_if_ne (t := 63) hD rfl rfl ⟨by omega, by omega⟩ (fun c654 => ?_) (fun c654 => ?_)
    · have u655 := gs_or1 V631 (by omega)
      have t656 := o631.resolve_left (by omega)
      have t657 := (gr_ATp_rr A652).2.2.1.resolve_left (by omega)
      clear o631 V631
      refine gv_run 7 true hD (pc' := 75) (lv' := [(0, .inr (.inr (some 0))), (1, .inl (I 0 6)), (2, .inl v2_12)]) (st' := [.inr (.inr (some 17)), .inl (24 * (I 0 6)), .inr (.inr (some 23))]) (h' := gr_h I632 J633) (C := (((((((True ∧ True) ∧ True) ∧ True) ∧ True) ∧ True) ∧ True) ∧ True)) rfl ⟨⟨⟨⟨⟨⟨⟨trivial, trivial⟩, trivial⟩, trivial⟩, trivial⟩, trivial⟩, trivial⟩, trivial⟩ ?_
      have f658 := (show 0 ≤ I632 17 (Int.toNat ((I 0 6))) ∧ I632 17 (Int.toNat ((I 0 6))) ≤ 24 from (hI632 17 (Int.toNat ((I 0 6)))).1)
      refine gv_run 2 true hD (pc' := 77) (lv' := [(0, .inr (.inr (some 0))), (1, .inl (I 0 6)), (2, .inl v2_12)]) (st' := [.inl (I632 17 (Int.toNat ((I 0 6)))), .inl (24 * (I 0 6)), .inr (.inr (some 23))]) (h' := gr_h I632 J633) (C := ((True ∧ True) ∧ (0 ≤ (I 0 6) ∧ (I 0 6) < ((8 : Nat) : Int)))) rfl ⟨⟨trivial, trivial⟩, ⟨by omega, by omega⟩⟩ ?_
      refine gv_run 2 true hD (pc' := 81) (lv' := [(0, .inr (.inr (some 0))), (1, .inl (I 0 6)), (2, .inl v2_12)]) (st' := [.inr (.inl (J633 0 75)), .inl (I632 17 (Int.toNat ((I 0 6)))), .inl (24 * (I 0 6)), .inr (.inr (some 23))]) (h' := gr_h I632 J633) (C := ((True ∧ True) ∧ True)) rfl ⟨⟨trivial, trivial⟩, trivial⟩ ?_
      obtain ⟨r659, h659, E659, P659⟩ := r_find_23_p (ws0 := ws0) (tb := tb) hws htb ext I632 J633 hI632 ((24 * (I 0 6))) ((I632 17 (Int.toNat ((I 0 6))))) (J633 0 75) ⟨by omega, by omega⟩ ⟨by omega, by omega⟩ (by omega)
      obtain ⟨rfl, ⟨z659, rfl, q659⟩⟩ := P659
      have t660 := q659.2.2.2.trans (gs_lt_eq (J := J) (row := 23) (o := 24 * I 0 6) (n := I 17 (Int.toNat (I 0 6))) (w := gs_rn β N9 (gs_X β N9 p_12)) (fun k => (FJ633 23 k rfl)) (by omega) (by first | exact (FI632 17 _ rfl) | (rw [show ((I 0 6)) = I 0 6 from by omega]; exact (FI632 17 _ rfl))) (gr_ATp_w A652))
      refine gv_callS hD rfl (As := [.inr (.inr (some 23)), .inl (24 * (I 0 6)), .inl (I632 17 (Int.toNat ((I 0 6)))), .inr (.inl (J633 0 75))]) (st := []) rfl (gr_lS hws rfl) (Nat.le_of_ble_eq_true rfl) (gz_Ev_mono (d := 1) (by decide) E659) ?_
      show gv_X _ _ (84, [(0, .inr (.inr (some 0))), (1, .inl (I 0 6)), (2, .inl v2_12)], [.inl z659], gr_sh ++ ext, gr_h I632 J633)
      refine gv_run 2 true hD (pc' := 86) (lv' := [(3, .inl z659), (0, .inr (.inr (some 0))), (1, .inl (I 0 6)), (2, .inl v2_12)]) (st' := [.inl z659]) (h' := gr_h I632 J633) (C := ((True ∧ True) ∧ True)) rfl ⟨⟨trivial, trivial⟩, trivial⟩ ?_
      refine gv_if_ge (t := 95) hD rfl rfl ⟨by omega, by omega⟩ (fun c661 => ?_) (fun c661 => ?_)
      · refine gv_pick [1, 2, 3, 0] rfl ?_
        exact L95 I632 J633 z659 (gs_X β N9 p_12) hI632 FI632 FJ633 KGR_I632 KST_I632 (by omega) A652 (by rw [e5_12]; unfold gs_wd1; (repeat first | rw [if_pos (by omega)] | rw [if_neg (by omega)])) (fun k => (((g631 18 k rfl).trans (g611 18 k rfl)).trans (e7_12 k)))
      · refine gv_run 2 true hD (pc' := 91) (lv' := [(3, .inl z659), (0, .inr (.inr (some 0))), (1, .inl (I 0 6)), (2, .inl v2_12)]) (st' := [.inl 5, .inr (.inr (some 0))]) (h' := gr_h I632 J633) (C := ((True ∧ True) ∧ True)) rfl ⟨⟨trivial, trivial⟩, trivial⟩ ?_
        obtain ⟨r662, h662, E662, P662⟩ := r_no__p (ws0 := ws0) (tb := tb) hws htb ext β N9 (gs_X β N9 p_12) I632 J633 hI632 5 ⟨by omega, by omega⟩ A652 (by omega)
        obtain ⟨I663, J664, rfl, hI663, g662, k662, ⟨z662, rfl, q662⟩⟩ := P662
        have FI663 := gr_frt FI632 g662 rfl rfl
        have FJ664 := gr_fjt FJ633 k662 rfl rfl
        have t665 := g662 0 71 rfl
        have t666 := g662 0 72 rfl
        have t667 := g662 0 73 rfl
        have t668 := g662 0 69 rfl
        have t669 := g662 0 6 rfl
        have t670 := g662 0 59 rfl
        have t671 := g662 0 3 rfl
        have t672 := g662 0 106 rfl
        have t673 := g662 18 (Int.toNat ((I 0 6))) rfl
        have t674 := g662 6 (Int.toNat v2_12) rfl
        have f675 := (show 0 ≤ I663 0 71 ∧ I663 0 71 ≤ 5 from (hI663 0 71).1)
        have f676 := (show 0 ≤ I663 0 72 ∧ I663 0 72 ≤ 1000 from (hI663 0 72).1)
        have f677 := (show 0 ≤ I663 0 73 ∧ I663 0 73 ≤ 1001 from (hI663 0 73).1)
        have f678 := (show 0 ≤ I663 0 69 ∧ I663 0 69 ≤ 1000 from (hI663 0 69).1)
        have f679 := (show (-1) ≤ I663 0 6 ∧ I663 0 6 ≤ 7 from (hI663 0 6).1)
        have f680 := (show 0 ≤ I663 0 59 ∧ I663 0 59 ≤ 2000 from (hI663 0 59).1)
        have f681 := (show 0 ≤ I663 0 3 ∧ I663 0 3 ≤ 96 from (hI663 0 3).1)
        have f682 := (show 0 ≤ I663 0 106 ∧ I663 0 106 ≤ 16777215 from (hI663 0 106).1)
        have KGR_I663 := gr_GR_fr KGR_I632 (fun k => g662 19 k rfl) (fun k => g662 18 k rfl) (fun k => g662 36 k rfl) (fun k => g662 41 k rfl) (fun k => g662 42 k rfl) (fun k => g662 43 k rfl) (fun k => g662 45 k rfl) (fun k => g662 46 k rfl) (fun k => g662 47 k rfl) (fun k => g662 6 k rfl) (fun k => g662 7 k rfl) (fun k => g662 8 k rfl) (g662 0 3 rfl)
        have KST_I663 := gr_ST_fr KST_I632 (fun k => g662 6 k rfl) (fun k => g662 19 k rfl) (fun k => g662 18 k rfl) (fun k => g662 41 k rfl) (fun k => g662 36 k rfl) (g662 0 3 rfl)
        have A683 := gr_ATp_F A652 g662 k662 rfl
        have t684 := gr_ATp_l A683
        refine gv_callV hD rfl (As := [.inl 5]) (st := []) rfl (by decide) rfl rfl (gr_lV hws rfl) (Nat.le_of_ble_eq_true rfl) (gz_Ev_mono (d := 2) (by decide) E662) ?_
        show gv_X _ _ (94, [(3, .inl z659), (0, .inr (.inr (some 0))), (1, .inl (I 0 6)), (2, .inl v2_12)], [.inl z662], gr_sh ++ ext, gr_h I663 J664)
        have b685 : (I663 0 69 = I 0 69) ∧ (I 0 73 ≤ I663 0 73) ∧ (I 0 72 ≤ I663 0 72) ∧ (I663 0 59 - I663 0 72 ≤ I 0 59 - I 0 72) := by omega
        exact gv_zret hD rfl (by omega) ⟨I663, J664, rfl, hI663, FI663, FJ664, KGR_I663, KST_I663, ⟨_, rfl, by omega, by omega, (gr_ATp_rr A683).1, (gr_ATp_rr A683).2.1, (gr_ATp_rr A683).2.2.1, (gr_ATp_rr A683).2.2.2.1, (gr_ATp_rr A683).2.2.2.2, b685.1, b685.2.1, b685.2.2.1, b685.2.2.2, (Or.inr ⟨by omega, by first | (exfalso; omega) | (rw [e5_12]; unfold gs_wd1; (repeat first | rw [if_pos (by omega)] | rw [if_neg (by omega)]); exact ⟨by omega, by omega, (fun j => ((((g662 18 j rfl).trans (g631 18 j rfl)).trans (g611 18 j rfl)).trans (e7_12 j)))⟩)⟩)⟩⟩
    · have u686 := gs_or0 V631 (by omega)
      clear o631 V631
      refine gv_run 1 true hD (pc' := 62) (lv' := [(0, .inr (.inr (some 0))), (1, .inl (I 0 6)), (2, .inl v2_12)]) (st' := [.inl 0]) (h' := gr_h I632 J633) (C := (True ∧ True)) rfl ⟨trivial, trivial⟩ ?_
      have b687 : (I632 0 69 = I 0 69) ∧ (I 0 73 ≤ I632 0 73) ∧ (I 0 72 ≤ I632 0 72) ∧ (I632 0 59 - I632 0 72 ≤ I 0 59 - I 0 72) := by omega
      exact gv_zret hD rfl (by omega) ⟨I632, J633, rfl, hI632, FI632, FJ633, KGR_I632, KST_I632, ⟨_, rfl, by omega, by omega, (gr_ATp_rr A652).1, (gr_ATp_rr A652).2.1, (gr_ATp_rr A652).2.2.1, (gr_ATp_rr A652).2.2.2.1, (gr_ATp_rr A652).2.2.2.2, b687.1, b687.2.1, b687.2.2.1, b687.2.2.2, (Or.inr ⟨by omega, by first | (exfalso; omega) | (rw [e5_12]; unfold gs_wd1; (repeat first | rw [if_pos (by omega)] | rw [if_neg (by omega)]); exact ⟨by omega, by omega, (fun j => (((g631 18 j rfl).trans (g611 18 j rfl)).trans (e7_12 j)))⟩)⟩)⟩⟩
  have f688 := (show (-1) ≤ I 0 6 ∧ I 0 6 ≤ 7 from (hI 0 6).1)
  refine gv_run 4 true hD (pc' := 6) (lv' := [(1, .inl (I 0 6)), (0, .inr (.inr (some 0)))]) (st' := [.inr (.inr (some 0))]) (h' := gr_h I J) (C := ((((True ∧ True) ∧ True) ∧ True) ∧ True)) rfl ⟨⟨⟨⟨trivial, trivial⟩, trivial⟩, trivial⟩, trivial⟩ ?_
  obtain ⟨r689, h689, E689, P689⟩ := r_name_p (ws0 := ws0) (tb := tb) hws htb ext β N9 p9 I J hI   x7 (by omega)
  obtain ⟨I690, J691, rfl, hI690, g689, k689, ⟨z689, rfl, q689⟩⟩ := P689
  have FI690 := gr_frt FI g689 rfl rfl
  have FJ691 := gr_fjt FJ k689 rfl rfl
  have t692 := g689 0 71 rfl
  have t693 := g689 0 72 rfl
  have t694 := g689 0 73 rfl
  have t695 := g689 0 69 rfl
  have t696 := g689 0 6 rfl
  have t697 := g689 0 59 rfl
  have t698 := g689 0 3 rfl
  have t699 := g689 0 106 rfl
  have t700 := g689 18 (Int.toNat ((I 0 6))) rfl
  have f701 := (show 0 ≤ I690 0 71 ∧ I690 0 71 ≤ 5 from (hI690 0 71).1)
  have f702 := (show 0 ≤ I690 0 72 ∧ I690 0 72 ≤ 1000 from (hI690 0 72).1)
  have f703 := (show 0 ≤ I690 0 73 ∧ I690 0 73 ≤ 1001 from (hI690 0 73).1)
  have f704 := (show 0 ≤ I690 0 69 ∧ I690 0 69 ≤ 1000 from (hI690 0 69).1)
  have f705 := (show (-1) ≤ I690 0 6 ∧ I690 0 6 ≤ 7 from (hI690 0 6).1)
  have f706 := (show 0 ≤ I690 0 59 ∧ I690 0 59 ≤ 2000 from (hI690 0 59).1)
  have f707 := (show 0 ≤ I690 0 3 ∧ I690 0 3 ≤ 96 from (hI690 0 3).1)
  have f708 := (show 0 ≤ I690 0 106 ∧ I690 0 106 ≤ 16777215 from (hI690 0 106).1)
  have KGR_I690 := gr_GR_fr KGR_I (fun k => g689 19 k rfl) (fun k => g689 18 k rfl) (fun k => g689 36 k rfl) (fun k => g689 41 k rfl) (fun k => g689 42 k rfl) (fun k => g689 43 k rfl) (fun k => g689 45 k rfl) (fun k => g689 46 k rfl) (fun k => g689 47 k rfl) (fun k => g689 6 k rfl) (fun k => g689 7 k rfl) (fun k => g689 8 k rfl) (g689 0 3 rfl)
  have KST_I690 := gr_ST_fr KST_I (fun k => g689 6 k rfl) (fun k => g689 19 k rfl) (fun k => g689 18 k rfl) (fun k => g689 41 k rfl) (fun k => g689 36 k rfl) (g689 0 3 rfl)
  have V689 := gs_or_mk q689.2.2.2
  have A709 := gr_ATp_F x7 g689 k689 rfl
  have t710 := gr_ATp_l A709
  obtain ⟨_, _, o689, -⟩ := q689
  refine gv_callV hD rfl (As := []) (st := []) rfl (by decide) rfl rfl (gr_lV hws rfl) (Nat.le_of_ble_eq_true rfl) (gz_Ev_mono (d := 3) (by decide) E689) ?_
  show gv_X _ _ (9, [(1, .inl (I 0 6)), (0, .inr (.inr (some 0)))], [.inl z689], gr_sh ++ ext, gr_h I690 J691)
  refine gv_if_ne (t := 14) hD rfl rfl ⟨by omega, by omega⟩ (fun c711 => ?_) (fun c711 => ?_)
  · have u712 := gs_or1 V689 (by omega)
    have t713 := o689.resolve_left (by omega)
    have t714 := (gr_ATp_rr A709).2.2.1.resolve_left (by omega)
    clear o689 V689
    have f715 := (show 0 ≤ I690 0 3 ∧ I690 0 3 ≤ 96 from (hI690 0 3).1)
    refine gv_run 7 true hD (pc' := 27) (lv' := [(1, .inl (I 0 6)), (0, .inr (.inr (some 0)))]) (st' := [.inr (.inl (J691 0 75)), .inl (I690 0 3), .inl 0, .inr (.inr (some 3))]) (h' := gr_h I690 J691) (C := (((((((True ∧ True) ∧ True) ∧ True) ∧ True) ∧ True) ∧ True) ∧ True)) rfl ⟨⟨⟨⟨⟨⟨⟨trivial, trivial⟩, trivial⟩, trivial⟩, trivial⟩, trivial⟩, trivial⟩, trivial⟩ ?_
    obtain ⟨r716, h716, E716, P716⟩ := r_find_3_p (ws0 := ws0) (tb := tb) hws htb ext I690 J691 hI690 0 (I690 0 3) (J691 0 75) ⟨by omega, by omega⟩ ⟨by omega, by omega⟩ (by omega)
    obtain ⟨rfl, ⟨z716, rfl, q716⟩⟩ := P716
    have t717 := q716.2.2.2.trans (gs_lk_eq (I := I) (J := J) (w := gs_rn β N9 p9) (fun k => (FJ691 3 k rfl)) (FI690 0 3 rfl) (gr_ATp_w A709))
    refine gv_callS hD rfl (As := [.inr (.inr (some 3)), .inl 0, .inl (I690 0 3), .inr (.inl (J691 0 75))]) (st := []) rfl (gr_lS hws rfl) (Nat.le_of_ble_eq_true rfl) (gz_Ev_mono (d := 1) (by decide) E716) ?_
    show gv_X _ _ (30, [(1, .inl (I 0 6)), (0, .inr (.inr (some 0)))], [.inl z716], gr_sh ++ ext, gr_h I690 J691)
    refine gv_run 2 true hD (pc' := 32) (lv' := [(2, .inl z716), (1, .inl (I 0 6)), (0, .inr (.inr (some 0)))]) (st' := [.inl z716]) (h' := gr_h I690 J691) (C := ((True ∧ True) ∧ True)) rfl ⟨⟨trivial, trivial⟩, trivial⟩ ?_
    refine gv_if_lt (t := 44) hD rfl rfl ⟨by omega, by omega⟩ (fun c718 => ?_) (fun c718 => ?_)
    · refine gv_run 2 true hD (pc' := 46) (lv' := [(2, .inl z716), (1, .inl (I 0 6)), (0, .inr (.inr (some 0)))]) (st' := [.inl 5, .inr (.inr (some 0))]) (h' := gr_h I690 J691) (C := ((True ∧ True) ∧ True)) rfl ⟨⟨trivial, trivial⟩, trivial⟩ ?_
      obtain ⟨r719, h719, E719, P719⟩ := r_no__p (ws0 := ws0) (tb := tb) hws htb ext β N9 p9 I690 J691 hI690 5 ⟨by omega, by omega⟩ A709 (by omega)
      obtain ⟨I720, J721, rfl, hI720, g719, k719, ⟨z719, rfl, q719⟩⟩ := P719
      have FI720 := gr_frt FI690 g719 rfl rfl
      have FJ721 := gr_fjt FJ691 k719 rfl rfl
      have t722 := g719 0 71 rfl
      have t723 := g719 0 72 rfl
      have t724 := g719 0 73 rfl
      have t725 := g719 0 69 rfl
      have t726 := g719 0 6 rfl
      have t727 := g719 0 59 rfl
      have t728 := g719 0 3 rfl
      have t729 := g719 0 106 rfl
      have t730 := g719 18 (Int.toNat ((I 0 6))) rfl
      have t731 := g719 6 (Int.toNat z716) rfl
      have f732 := (show 0 ≤ I720 0 71 ∧ I720 0 71 ≤ 5 from (hI720 0 71).1)
      have f733 := (show 0 ≤ I720 0 72 ∧ I720 0 72 ≤ 1000 from (hI720 0 72).1)
      have f734 := (show 0 ≤ I720 0 73 ∧ I720 0 73 ≤ 1001 from (hI720 0 73).1)
      have f735 := (show 0 ≤ I720 0 69 ∧ I720 0 69 ≤ 1000 from (hI720 0 69).1)
      have f736 := (show (-1) ≤ I720 0 6 ∧ I720 0 6 ≤ 7 from (hI720 0 6).1)
      have f737 := (show 0 ≤ I720 0 59 ∧ I720 0 59 ≤ 2000 from (hI720 0 59).1)
      have f738 := (show 0 ≤ I720 0 3 ∧ I720 0 3 ≤ 96 from (hI720 0 3).1)
      have f739 := (show 0 ≤ I720 0 106 ∧ I720 0 106 ≤ 16777215 from (hI720 0 106).1)
      have KGR_I720 := gr_GR_fr KGR_I690 (fun k => g719 19 k rfl) (fun k => g719 18 k rfl) (fun k => g719 36 k rfl) (fun k => g719 41 k rfl) (fun k => g719 42 k rfl) (fun k => g719 43 k rfl) (fun k => g719 45 k rfl) (fun k => g719 46 k rfl) (fun k => g719 47 k rfl) (fun k => g719 6 k rfl) (fun k => g719 7 k rfl) (fun k => g719 8 k rfl) (g719 0 3 rfl)
      have KST_I720 := gr_ST_fr KST_I690 (fun k => g719 6 k rfl) (fun k => g719 19 k rfl) (fun k => g719 18 k rfl) (fun k => g719 41 k rfl) (fun k => g719 36 k rfl) (g719 0 3 rfl)
      have A740 := gr_ATp_F A709 g719 k719 rfl
      have t741 := gr_ATp_l A740
      refine gv_callV hD rfl (As := [.inl 5]) (st := []) rfl (by decide) rfl rfl (gr_lV hws rfl) (Nat.le_of_ble_eq_true rfl) (gz_Ev_mono (d := 2) (by decide) E719) ?_
      show gv_X _ _ (49, [(2, .inl z716), (1, .inl (I 0 6)), (0, .inr (.inr (some 0)))], [.inl z719], gr_sh ++ ext, gr_h I720 J721)
      have b742 : (I720 0 69 = I 0 69) ∧ (I 0 73 ≤ I720 0 73) ∧ (I 0 72 ≤ I720 0 72) ∧ (I720 0 59 - I720 0 72 ≤ I 0 59 - I 0 72) := by omega
      exact gv_zret hD rfl (by omega) ⟨I720, J721, rfl, hI720, FI720, FJ721, KGR_I720, KST_I720, ⟨_, rfl, by omega, by omega, (gr_ATp_rr A740).1, (gr_ATp_rr A740).2.1, (gr_ATp_rr A740).2.2.1, (gr_ATp_rr A740).2.2.2.1, (gr_ATp_rr A740).2.2.2.2, b742.1, b742.2.1, b742.2.2.1, b742.2.2.2, (Or.inr ⟨by omega, by unfold gs_wd gs_wd0; (repeat first | rw [if_pos (by omega)] | rw [if_neg (by omega)]); exact ⟨by omega, by omega, (fun j => ((g719 18 j rfl).trans (g689 18 j rfl)))⟩⟩)⟩⟩
    · have f743 := (show 0 ≤ I690 6 (Int.toNat z716) ∧ I690 6 (Int.toNat z716) ≤ 4 from (hI690 6 (Int.toNat z716)).1)
      refine gv_run 4 true hD (pc' := 41) (lv' := [(2, .inl z716), (1, .inl (I 0 6)), (0, .inr (.inr (some 0)))]) (st' := [.inl (I690 6 (Int.toNat z716))]) (h' := gr_h I690 J691) (C := ((((True ∧ True) ∧ True) ∧ True) ∧ (0 ≤ z716 ∧ z716 < ((96 : Nat) : Int)))) rfl ⟨⟨⟨⟨trivial, trivial⟩, trivial⟩, trivial⟩, ⟨by omega, by omega⟩⟩ ?_
      have t744 := (show I690 6 (Int.toNat z716) = I 6 (Int.toNat (gs_lk I J 3 3 (gs_rn β N9 p9))) from by rw [show z716 = gs_lk I J 3 3 (gs_rn β N9 p9) from by omega]; exact (FI690 6 _ rfl))
      refine gv_if_le (t := 50) hD rfl rfl ⟨by omega, by omega⟩ (fun c745 => ?_) (fun c745 => ?_)
      · refine gv_pick [2, 1, 0] rfl ?_
        exact L50 I690 J691 (I 0 6) z716 p9 hI690 FI690 FJ691 KGR_I690 KST_I690 (by omega) A709 (by unfold gs_wd gs_wd0; (repeat first | rw [if_pos (by omega)] | rw [if_neg (by omega)])) rfl (fun k => (g689 18 k rfl))
      · refine gv_run 2 true hD (pc' := 46) (lv' := [(2, .inl z716), (1, .inl (I 0 6)), (0, .inr (.inr (some 0)))]) (st' := [.inl 5, .inr (.inr (some 0))]) (h' := gr_h I690 J691) (C := ((True ∧ True) ∧ True)) rfl ⟨⟨trivial, trivial⟩, trivial⟩ ?_
        obtain ⟨r746, h746, E746, P746⟩ := r_no__p (ws0 := ws0) (tb := tb) hws htb ext β N9 p9 I690 J691 hI690 5 ⟨by omega, by omega⟩ A709 (by omega)
        obtain ⟨I747, J748, rfl, hI747, g746, k746, ⟨z746, rfl, q746⟩⟩ := P746
        have FI747 := gr_frt FI690 g746 rfl rfl
        have FJ748 := gr_fjt FJ691 k746 rfl rfl
        have t749 := g746 0 71 rfl
        have t750 := g746 0 72 rfl
        have t751 := g746 0 73 rfl
        have t752 := g746 0 69 rfl
        have t753 := g746 0 6 rfl
        have t754 := g746 0 59 rfl
        have t755 := g746 0 3 rfl
        have t756 := g746 0 106 rfl
        have t757 := g746 18 (Int.toNat ((I 0 6))) rfl
        have t758 := g746 6 (Int.toNat z716) rfl
        have f759 := (show 0 ≤ I747 0 71 ∧ I747 0 71 ≤ 5 from (hI747 0 71).1)
        have f760 := (show 0 ≤ I747 0 72 ∧ I747 0 72 ≤ 1000 from (hI747 0 72).1)
        have f761 := (show 0 ≤ I747 0 73 ∧ I747 0 73 ≤ 1001 from (hI747 0 73).1)
        have f762 := (show 0 ≤ I747 0 69 ∧ I747 0 69 ≤ 1000 from (hI747 0 69).1)
        have f763 := (show (-1) ≤ I747 0 6 ∧ I747 0 6 ≤ 7 from (hI747 0 6).1)
        have f764 := (show 0 ≤ I747 0 59 ∧ I747 0 59 ≤ 2000 from (hI747 0 59).1)
        have f765 := (show 0 ≤ I747 0 3 ∧ I747 0 3 ≤ 96 from (hI747 0 3).1)
        have f766 := (show 0 ≤ I747 0 106 ∧ I747 0 106 ≤ 16777215 from (hI747 0 106).1)
        have KGR_I747 := gr_GR_fr KGR_I690 (fun k => g746 19 k rfl) (fun k => g746 18 k rfl) (fun k => g746 36 k rfl) (fun k => g746 41 k rfl) (fun k => g746 42 k rfl) (fun k => g746 43 k rfl) (fun k => g746 45 k rfl) (fun k => g746 46 k rfl) (fun k => g746 47 k rfl) (fun k => g746 6 k rfl) (fun k => g746 7 k rfl) (fun k => g746 8 k rfl) (g746 0 3 rfl)
        have KST_I747 := gr_ST_fr KST_I690 (fun k => g746 6 k rfl) (fun k => g746 19 k rfl) (fun k => g746 18 k rfl) (fun k => g746 41 k rfl) (fun k => g746 36 k rfl) (g746 0 3 rfl)
        have A767 := gr_ATp_F A709 g746 k746 rfl
        have t768 := gr_ATp_l A767
        refine gv_callV hD rfl (As := [.inl 5]) (st := []) rfl (by decide) rfl rfl (gr_lV hws rfl) (Nat.le_of_ble_eq_true rfl) (gz_Ev_mono (d := 2) (by decide) E746) ?_
        show gv_X _ _ (49, [(2, .inl z716), (1, .inl (I 0 6)), (0, .inr (.inr (some 0)))], [.inl z746], gr_sh ++ ext, gr_h I747 J748)
        have b769 : (I747 0 69 = I 0 69) ∧ (I 0 73 ≤ I747 0 73) ∧ (I 0 72 ≤ I747 0 72) ∧ (I747 0 59 - I747 0 72 ≤ I 0 59 - I 0 72) := by omega
        exact gv_zret hD rfl (by omega) ⟨I747, J748, rfl, hI747, FI747, FJ748, KGR_I747, KST_I747, ⟨_, rfl, by omega, by omega, (gr_ATp_rr A767).1, (gr_ATp_rr A767).2.1, (gr_ATp_rr A767).2.2.1, (gr_ATp_rr A767).2.2.2.1, (gr_ATp_rr A767).2.2.2.2, b769.1, b769.2.1, b769.2.2.1, b769.2.2.2, (Or.inr ⟨by omega, by unfold gs_wd gs_wd0; (repeat first | rw [if_pos (by omega)] | rw [if_neg (by omega)]); exact ⟨by omega, by omega, (fun j => ((g746 18 j rfl).trans (g689 18 j rfl)))⟩⟩)⟩⟩
  · have u770 := gs_or0 V689 (by omega)
    clear o689 V689
    refine gv_run 1 true hD (pc' := 13) (lv' := [(1, .inl (I 0 6)), (0, .inr (.inr (some 0)))]) (st' := [.inl 0]) (h' := gr_h I690 J691) (C := (True ∧ True)) rfl ⟨trivial, trivial⟩ ?_
    have b771 : (I690 0 69 = I 0 69) ∧ (I 0 73 ≤ I690 0 73) ∧ (I 0 72 ≤ I690 0 72) ∧ (I690 0 59 - I690 0 72 ≤ I 0 59 - I 0 72) := by omega
    exact gv_zret hD rfl (by omega) ⟨I690, J691, rfl, hI690, FI690, FJ691, KGR_I690, KST_I690, ⟨_, rfl, by omega, by omega, (gr_ATp_rr A709).1, (gr_ATp_rr A709).2.1, (gr_ATp_rr A709).2.2.1, (gr_ATp_rr A709).2.2.2.1, (gr_ATp_rr A709).2.2.2.2, b771.1, b771.2.1, b771.2.2.1, b771.2.2.2, (Or.inr ⟨by omega, by unfold gs_wd gs_wd0; (repeat first | rw [if_pos (by omega)] | rw [if_neg (by omega)]); exact ⟨by omega, by omega, (fun j => (g689 18 j rfl))⟩⟩)⟩⟩
