theorem gs_ifd_eq {I I' : gr_I} {J J' : gr_J} {w w' : Int64} {a a' b b' : Int} (h1 : ∀ k, J' 5 k = J 5 k) (h2 : ∀ k, I' 11 k = I 11 k) (h3 : ∀ k, I' 12 k = I 12 k) (hw : w' = w) (ha : a' = a) (hb : b' = b) : ∀ (m : Nat) (i : Int), gs_ifd I' J' w' a' b' m i = gs_ifd I J w a b m i
  | 0, _ => rfl
  | m + 1, i => by
    show (if _ then (1 : Int) else gs_ifd I' J' w' a' b' m (i + 1)) = (if _ then (1 : Int) else gs_ifd I J w a b m (i + 1))
    rw [gs_ifd_eq h1 h2 h3 hw ha hb m (i + 1), h1, h2, h3, hw, ha, hb]
theorem gs_isf_eq {I I' : gr_I} {J J' : gr_J} {w w' : Int64} {a a' b b' : Int} (h1 : ∀ k, J' 5 k = J 5 k) (h2 : ∀ k, I' 11 k = I 11 k) (h3 : ∀ k, I' 12 k = I 12 k) (h4 : I' 0 5 = I 0 5) (hw : w' = w) (ha : a' = a) (hb : b' = b) : gs_isf I' J' w' a' b' = gs_isf I J w a b := by
  unfold gs_isf
  rw [h4]
  exact gs_ifd_eq h1 h2 h3 hw ha hb _ _
def gs_fact3 (β : Int → Int) (N : Int) (I : gr_I) (J : gr_J) (first : Int) (w : Int64) (a b q : Int) : Int := gs_done β N (if gs_isf I J w a b = 1 then 1 else if I 0 5 < 64 then 1 else 0) first q
def gs_fact2 (β : Int → Int) (N : Int) (I : gr_I) (J : gr_J) (first : Int) (w : Int64) (a q : Int) : Int :=
  if gs_T β N q = 1 then (if gs_lk I J 4 4 (gs_rn β N q) < 0 then -1 - gs_A β N q else gs_fact3 β N I J first w a (gs_lk I J 4 4 (gs_rn β N q)) (gs_X β N q)) else gs_fact3 β N I J first w a (-1) q
def gs_fact (β : Int → Int) (N : Int) (I : gr_I) (J : gr_J) (first p : Int) : Int :=
  if gs_T β N p = 1 then (if gs_T β N (gs_X β N p) = 1 then (if gs_lk I J 4 4 (gs_rn β N (gs_X β N p)) < 0 then -1 - gs_A β N (gs_X β N p) else gs_fact2 β N I J first (gs_rn β N p) (gs_lk I J 4 4 (gs_rn β N (gs_X β N p))) (gs_X β N (gs_X β N p))) else -1 - gs_A β N (gs_X β N p)) else -1 - gs_A β N p
/-- the second THING of a fact, or -1 -/
def gs_fb (β : Int → Int) (N : Int) (I : gr_I) (J : gr_J) (q : Int) : Int := if gs_T β N q = 1 then gs_lk I J 4 4 (gs_rn β N q) else -1
def gs_Ufact (w : Int64) (a b : Int) (I : gr_I) (J : gr_J) (I' : gr_I) (J' : gr_J) : Prop := (gs_isf I J w a b = 1 → I' 0 5 = I 0 5 ∧ ∀ j, J' 5 j = J 5 j ∧ I' 11 j = I 11 j ∧ I' 12 j = I 12 j) ∧ (¬ gs_isf I J w a b = 1 → (I' 0 5 = I 0 5 + 1 ∧ J' 5 (Int.toNat (I 0 5)) = w ∧ I' 11 (Int.toNat (I 0 5)) = a ∧ I' 12 (Int.toNat (I 0 5)) = b) ∧ ∀ j, ¬ j = Int.toNat (I 0 5) → J' 5 j = J 5 j ∧ I' 11 j = I 11 j ∧ I' 12 j = I 12 j)
set_option maxHeartbeats 8000000 in
set_option maxRecDepth 100000 in
theorem r_fact_p {ws0 : List Cond} {tb : String → gz_T} (hws : ∀ w ∈ gr_ws, w ∈ ws0) (htb : tb RX13 = gr_T) (ext : gz_Sh) (β : Int → Int) (N9 : Int) (p9 : Int) (I : gr_I) (J : gr_J) (hI : gr_Inv I)   (x0 : I 0 71 = 5 ∨ I 0 73 ≤ I 0 69) (x1 : I 0 72 ≤ I 0 69) (x2 : I 0 71 = 0 ∨ (I 0 72 < I 0 73 ∧ I 0 72 < I 0 69)) (x3 : I 0 71 = 3 → 2 ≤ I 0 73 - I 0 72 ∧ I 0 73 - I 0 72 ≤ 14) (x4 : I 0 72 ≤ I 0 73) (x5 : gr_ATp β N9 p9 I J) (x6 : 0 ≤ p9) : ∃ r h', gz_Ev ws0 tb 12 (yX13_fact, cX13_fact, 6, (some .boolean)) [.inr (.inr (some 0))] (gr_sh ++ ext) (gr_h I J) r (gr_sh ++ ext) h' 0 0 ∧ (∃ (I' : gr_I) (J' : gr_J), h' = gr_h I' J' ∧ gr_Inv I' ∧ gr_fr [5, 71, 72, 73, 74, 75, 76, 77] [5, 11, 12] I I' ∧ gr_fj [5, 71, 72, 73, 74, 75, 76, 77] [5, 11, 12] J J' ∧ (∃ z : Int, r = some (.inl z) ∧ 0 ≤ z ∧ z ≤ 1 ∧ (I' 0 71 = 5 ∨ I' 0 73 ≤ I' 0 69) ∧ (I' 0 72 ≤ I' 0 69) ∧ (I' 0 71 = 0 ∨ (I' 0 72 < I' 0 73 ∧ I' 0 72 < I' 0 69)) ∧ (I' 0 71 = 3 → 2 ≤ I' 0 73 - I' 0 72 ∧ I' 0 73 - I' 0 72 ≤ 14) ∧ (I' 0 72 ≤ I' 0 73) ∧ (I' 0 69 = I 0 69) ∧ (I 0 73 ≤ I' 0 73) ∧ (I 0 72 ≤ I' 0 72) ∧ (gs_Or z (0 ≤ (gs_fact β N9 I J (I 0 78) p9) ∧ gr_ATp β N9 (gs_fact β N9 I J (I 0 78) p9) I' J' ∧ gs_Ufact (gs_rn β N9 p9) (gs_lk I J 4 4 (gs_rn β N9 (gs_X β N9 p9))) (gs_fb β N9 I J (gs_X β N9 (gs_X β N9 p9))) I J I' J') ((gs_fact β N9 I J (I 0 78) p9) < 0 ∧ I' 0 77 = -1 - (gs_fact β N9 I J (I 0 78) p9) ∧ I' 0 5 = I 0 5 ∧ ∀ j, J' 5 j = J 5 j ∧ I' 11 j = I 11 j ∧ I' 12 j = I 12 j)))) := by
  have FI : gr_fr [5, 71, 72, 73, 74, 75, 76, 77] [5, 11, 12] I I := fun _ _ _ => rfl
  have FJ : gr_fj [5, 71, 72, 73, 74, 75, 76, 77] [5, 11, 12] J J := fun _ _ _ => rfl
  have hD : gv_D (gr_E ws0 tb 11 (yX13_fact, cX13_fact, 6, (some .boolean)) kX13_fact) := gq_of oX13_fact
  refine gr_ev (d := 11) (l := kX13_fact) (Po := fun r h' => (∃ (I' : gr_I) (J' : gr_J), h' = gr_h I' J' ∧ gr_Inv I' ∧ gr_fr [5, 71, 72, 73, 74, 75, 76, 77] [5, 11, 12] I I' ∧ gr_fj [5, 71, 72, 73, 74, 75, 76, 77] [5, 11, 12] J J' ∧ (∃ z : Int, r = some (.inl z) ∧ 0 ≤ z ∧ z ≤ 1 ∧ (I' 0 71 = 5 ∨ I' 0 73 ≤ I' 0 69) ∧ (I' 0 72 ≤ I' 0 69) ∧ (I' 0 71 = 0 ∨ (I' 0 72 < I' 0 73 ∧ I' 0 72 < I' 0 69)) ∧ (I' 0 71 = 3 → 2 ≤ I' 0 73 - I' 0 72 ∧ I' 0 73 - I' 0 72 ≤ 14) ∧ (I' 0 72 ≤ I' 0 73) ∧ (I' 0 69 = I 0 69) ∧ (I 0 73 ≤ I' 0 73) ∧ (I 0 72 ≤ I' 0 72) ∧ (gs_Or z (0 ≤ (gs_fact β N9 I J (I 0 78) p9) ∧ gr_ATp β N9 (gs_fact β N9 I J (I 0 78) p9) I' J' ∧ gs_Ufact (gs_rn β N9 p9) (gs_lk I J 4 4 (gs_rn β N9 (gs_X β N9 p9))) (gs_fb β N9 I J (gs_X β N9 (gs_X β N9 p9))) I J I' J') ((gs_fact β N9 I J (I 0 78) p9) < 0 ∧ I' 0 77 = -1 - (gs_fact β N9 I J (I 0 78) p9) ∧ I' 0 5 = I 0 5 ∧ ∀ j, J' 5 j = J 5 j ∧ I' 11 j = I 11 j ∧ I' 12 j = I 12 j))))) htb rfl (Nat.le_of_ble_eq_true rfl) ?_
  have tAT := gr_ATp_l x5
  have f1 := (gr_b_0_71 hI)
  have f2 := (gr_b_0_72 hI)
  have f3 := (gr_b_0_73 hI)
  have f4 := (gr_b_0_69 hI)
  have f5 := (gr_b_0_5 hI)
  have f6 := (gr_b_0_5 hI)
  have L102 : ∀ (I7 : gr_I) (J8 : gr_J) (v1_9 : Int64) (v3_9 : Int) (v4_9 : Int) (p_9 : Int), gr_Inv I7 → gr_fr [5, 71, 72, 73, 74, 75, 76, 77] [5, 11, 12] I I7 → gr_fj [5, 71, 72, 73, 74, 75, 76, 77] [5, 11, 12] J J8 → ((0 ≤ v3_9 ∧ v3_9 ≤ 7) ∧ ((-1) ≤ v4_9 ∧ v4_9 ≤ 7) ∧ (0 ≤ p_9) ∧ (I7 0 71 = 5 ∨ I7 0 73 ≤ I7 0 69) ∧ (I7 0 72 ≤ I7 0 69) ∧ (I7 0 71 = 0 ∨ (I7 0 72 < I7 0 73 ∧ I7 0 72 < I7 0 69)) ∧ (I7 0 71 = 3 → 2 ≤ I7 0 73 - I7 0 72 ∧ I7 0 73 - I7 0 72 ≤ 14) ∧ (I7 0 72 ≤ I7 0 73) ∧ (I7 0 69 = I 0 69) ∧ (I 0 73 ≤ I7 0 73) ∧ (I 0 72 ≤ I7 0 72)) → (gr_ATp β N9 p_9 I7 J8) → (v1_9 = (gs_rn β N9 p9)) → ((gs_fact β N9 I J (I 0 78) p9) = gs_fact3 β N9 I J (I 0 78) (gs_rn β N9 p9) v3_9 v4_9 p_9) → (v3_9 = (gs_lk I J 4 4 (gs_rn β N9 (gs_X β N9 p9)))) → (v4_9 = (gs_fb β N9 I J (gs_X β N9 (gs_X β N9 p9)))) → (I7 0 5 = I 0 5 ∧ (∀ k, J8 5 k = J 5 k) ∧ (∀ k, I7 11 k = I 11 k) ∧ (∀ k, I7 12 k = I 12 k)) → gv_X (gr_E ws0 tb 11 (yX13_fact, cX13_fact, 6, (some .boolean)) kX13_fact) (gv_Q cX13_fact (some .boolean) (gr_sh ++ ext) (fun r h' => (∃ (I' : gr_I) (J' : gr_J), h' = gr_h I' J' ∧ gr_Inv I' ∧ gr_fr [5, 71, 72, 73, 74, 75, 76, 77] [5, 11, 12] I I' ∧ gr_fj [5, 71, 72, 73, 74, 75, 76, 77] [5, 11, 12] J J' ∧ (∃ z : Int, r = some (.inl z) ∧ 0 ≤ z ∧ z ≤ 1 ∧ (I' 0 71 = 5 ∨ I' 0 73 ≤ I' 0 69) ∧ (I' 0 72 ≤ I' 0 69) ∧ (I' 0 71 = 0 ∨ (I' 0 72 < I' 0 73 ∧ I' 0 72 < I' 0 69)) ∧ (I' 0 71 = 3 → 2 ≤ I' 0 73 - I' 0 72 ∧ I' 0 73 - I' 0 72 ≤ 14) ∧ (I' 0 72 ≤ I' 0 73) ∧ (I' 0 69 = I 0 69) ∧ (I 0 73 ≤ I' 0 73) ∧ (I 0 72 ≤ I' 0 72) ∧ (gs_Or z (0 ≤ (gs_fact β N9 I J (I 0 78) p9) ∧ gr_ATp β N9 (gs_fact β N9 I J (I 0 78) p9) I' J' ∧ gs_Ufact (gs_rn β N9 p9) (gs_lk I J 4 4 (gs_rn β N9 (gs_X β N9 p9))) (gs_fb β N9 I J (gs_X β N9 (gs_X β N9 p9))) I J I' J') ((gs_fact β N9 I J (I 0 78) p9) < 0 ∧ I' 0 77 = -1 - (gs_fact β N9 I J (I 0 78) p9) ∧ I' 0 5 = I 0 5 ∧ ∀ j, J' 5 j = J 5 j ∧ I' 11 j = I 11 j ∧ I' 12 j = I 12 j)))))) (102, [(0, .inr (.inr (some 0))), (1, .inr (.inl v1_9)), (3, .inl v3_9), (4, .inl v4_9)], [], gr_sh ++ ext, gr_h I7 J8) := by
    intro I7 J8 v1_9 v3_9 v4_9 p_9 hI7 FI7 FJ8 m_9 e1_9 e2_9 e3_9 e4_9 e5_9 e6_9
    obtain ⟨hv3_9, hv4_9, e0_9, e7_9, e8_9, e9_9, e10_9, e11_9, e12_9, e13_9, e14_9⟩ := m_9
    have f10 := (gr_b_0_71 hI7)
    have f11 := (gr_b_0_72 hI7)
    have f12 := (gr_b_0_73 hI7)
    have f13 := (gr_b_0_69 hI7)
    have f14 := (gr_b_0_5 hI7)
    have f15 := (gr_b_0_5 hI7)
    have t16 := gr_ATp_l e1_9
    refine gv_run 4 true hD (pc' := 107) (lv' := [(0, .inr (.inr (some 0))), (1, .inr (.inl v1_9)), (3, .inl v3_9), (4, .inl v4_9)]) (st' := [.inl v4_9, .inl v3_9, .inr (.inl v1_9), .inr (.inr (some 0))]) (h' := gr_h I7 J8) (C := ((((True ∧ True) ∧ True) ∧ True) ∧ True)) rfl ⟨⟨⟨⟨trivial, trivial⟩, trivial⟩, trivial⟩, trivial⟩ ?_
    obtain ⟨r17, h17, E17, P17⟩ := r_isFact_p (ws0 := ws0) (tb := tb) hws htb ext I7 J8 hI7 v1_9 v3_9 v4_9 ⟨by exact gz_m 0 (by omega), by exact gz_m 1 (by omega)⟩ ⟨by exact gz_m 2 (by omega), by exact gz_m 3 (by omega)⟩ 
    obtain ⟨rfl, ⟨z17, rfl, q17⟩⟩ := P17
    have t18 := q17.2.2.trans (gs_isf_eq (I := I) (J := J) (w := gs_rn β N9 p9) (a := (gs_lk I J 4 4 (gs_rn β N9 (gs_X β N9 p9)))) (b := (gs_fb β N9 I J (gs_X β N9 (gs_X β N9 p9)))) (fun k => (e6_9.2.1 k)) (fun k => (e6_9.2.2.1 k)) (fun k => (e6_9.2.2.2 k)) (e6_9.1) e2_9 e4_9 e5_9)
    have t19 : gs_isf I J (gs_rn β N9 p9) v3_9 v4_9 = gs_isf I J (gs_rn β N9 p9) (gs_lk I J 4 4 (gs_rn β N9 (gs_X β N9 p9))) (gs_fb β N9 I J (gs_X β N9 (gs_X β N9 p9))) := by rw [e4_9, e5_9]
    refine gv_callV hD rfl (As := [.inr (.inl v1_9), .inl v3_9, .inl v4_9]) (st := []) rfl (by decide) rfl rfl (gr_lV hws rfl) (Nat.le_of_ble_eq_true rfl) (gz_Ev_mono (d := 1) (by decide) E17) ?_
    show gv_X _ _ (110, [(0, .inr (.inr (some 0))), (1, .inr (.inl v1_9)), (3, .inl v3_9), (4, .inl v4_9)], [.inl z17], gr_sh ++ ext, gr_h I7 J8)
    refine gv_run 3 true hD (pc' := 115) (lv' := [(5, .inl z17), (0, .inr (.inr (some 0))), (1, .inr (.inl v1_9)), (3, .inl v3_9), (4, .inl v4_9)]) (st' := [.inl z17, .inr (.inr (some 0))]) (h' := gr_h I7 J8) (C := (((True ∧ True) ∧ True) ∧ True)) rfl ⟨⟨⟨trivial, trivial⟩, trivial⟩, trivial⟩ ?_
    refine gv_if_ne (t := 127) hD rfl rfl ⟨by exact gz_m 4 (by omega), by exact gz_m 5 (by omega)⟩ (fun c20 => ?_) (fun c20 => ?_)
    · refine gv_run 2 true hD (pc' := 132) (lv' := [(5, .inl z17), (0, .inr (.inr (some 0))), (1, .inr (.inl v1_9)), (3, .inl v3_9), (4, .inl v4_9)]) (st' := [.inl 1, .inr (.inr (some 0))]) (h' := gr_h I7 J8) (C := ((True ∧ True) ∧ True)) rfl ⟨⟨trivial, trivial⟩, trivial⟩ ?_
      obtain ⟨r21, h21, E21, P21⟩ := r_done_p (ws0 := ws0) (tb := tb) hws htb ext β N9 p_9 I7 J8 hI7 1 ⟨by exact gz_m 6 (by omega), by exact gz_m 7 (by omega)⟩ (by exact gz_m 8 (by omega)) (by exact gz_m 9 (by omega)) (by exact gz_m 10 (by omega)) (by exact gz_m 11 (by omega)) (by exact gz_m 12 (by omega)) e1_9 (by exact gz_m 13 (by omega))
      obtain ⟨I22, J23, rfl, hI22, g21, k21, ⟨z21, rfl, q21⟩⟩ := P21
      have FI22 := gr_frt FI7 g21 rfl rfl
      have FJ23 := gr_fjt FJ8 k21 rfl rfl
      have t24 := g21 0 69 rfl
      have t25 := g21 0 5 rfl
      have t26 := g21 0 5 rfl
      have f27 := (gr_b_0_71 hI22)
      have f28 := (gr_b_0_72 hI22)
      have f29 := (gr_b_0_73 hI22)
      have f30 := (gr_b_0_69 hI22)
      have f31 := (gr_b_0_5 hI22)
      have f32 := (gr_b_0_5 hI22)
      refine gv_callV hD rfl (As := [.inl 1]) (st := []) rfl (by decide) rfl rfl (gr_lV hws rfl) (Nat.le_of_ble_eq_true rfl) (gz_Ev_mono (d := 11) (by decide) E21) ?_
      show gv_X _ _ (135, [(5, .inl z17), (0, .inr (.inr (some 0))), (1, .inr (.inl v1_9)), (3, .inl v3_9), (4, .inl v4_9)], [.inl z21], gr_sh ++ ext, gr_h I22 J23)
      refine gv_if_ne (t := 140) hD rfl rfl ⟨by exact gz_m 14 (by omega), by exact gz_m 15 (by omega)⟩ (fun c33 => ?_) (fun c33 => ?_)
      · have Q34 := q21.2.2.2.2.2.2.2.2.2.2.2.2
        rw [FI7 0 78 rfl] at Q34
        obtain ⟨u34, A34⟩ := gs_or1 Q34 (by exact gz_m 16 (by omega))
        have t35 := gr_ATp_l A34
        refine gv_run 1 true hD (pc' := 142) (lv' := [(5, .inl z17), (0, .inr (.inr (some 0))), (1, .inr (.inl v1_9)), (3, .inl v3_9), (4, .inl v4_9)]) (st' := [.inl z17]) (h' := gr_h I22 J23) (C := (True ∧ True)) rfl ⟨trivial, trivial⟩ ?_
        refine gv_if_eq (t := 147) hD rfl rfl ⟨by exact gz_m 17 (by omega), by exact gz_m 18 (by omega)⟩ (fun c36 => ?_) (fun c36 => ?_)
        · exfalso; exact gz_m 19 (by omega)
        · refine gv_run 1 true hD (pc' := 146) (lv' := [(5, .inl z17), (0, .inr (.inr (some 0))), (1, .inr (.inl v1_9)), (3, .inl v3_9), (4, .inl v4_9)]) (st' := [.inl 1]) (h' := gr_h I22 J23) (C := (True ∧ True)) rfl ⟨trivial, trivial⟩ ?_
          have b37 : (I22 0 71 = 5 ∨ I22 0 73 ≤ I22 0 69) ∧ (I22 0 72 ≤ I22 0 69) ∧ (I22 0 71 = 0 ∨ (I22 0 72 < I22 0 73 ∧ I22 0 72 < I22 0 69)) ∧ (I22 0 71 = 3 → 2 ≤ I22 0 73 - I22 0 72 ∧ I22 0 73 - I22 0 72 ≤ 14) ∧ (I22 0 72 ≤ I22 0 73) ∧ (I22 0 69 = I 0 69) ∧ (I 0 73 ≤ I22 0 73) ∧ (I 0 72 ≤ I22 0 72) := by exact gz_m 20 (by omega)
          exact gv_zret hD rfl (by exact gz_m 21 (by omega)) ⟨I22, J23, rfl, hI22, FI22, FJ23, ⟨_, rfl, by exact gz_m 22 (by omega), by exact gz_m 23 (by omega), b37.1, b37.2.1, b37.2.2.1, b37.2.2.2.1, b37.2.2.2.2.1, b37.2.2.2.2.2.1, b37.2.2.2.2.2.2.1, b37.2.2.2.2.2.2.2, (Or.inl ⟨by exact gz_m 24 (by omega), by have e9 : (gs_fact β N9 I J (I 0 78) p9) = (gs_done β N9 1 (I 0 78) p_9) := (by first | (exfalso; exact gz_m 25 (by omega)) | (rw [e3_9]; unfold gs_fact3; (repeat first | rw [if_pos (by exact gz_m 26 (by omega))] | rw [if_neg (by exact gz_m 27 (by omega))]))); rw [e9]; exact ⟨by exact gz_m 28 (by omega), A34, ⟨fun _ => ⟨((g21 0 5 rfl).trans (e6_9.1)), fun j => ⟨((k21 5 j rfl).trans (e6_9.2.1 j)), ((g21 11 j rfl).trans (e6_9.2.2.1 j)), ((g21 12 j rfl).trans (e6_9.2.2.2 j))⟩⟩, fun h => absurd (show gs_isf I J (gs_rn β N9 p9) (gs_lk I J 4 4 (gs_rn β N9 (gs_X β N9 p9))) (gs_fb β N9 I J (gs_X β N9 (gs_X β N9 p9))) = 1 by exact gz_m 29 (by omega)) h⟩⟩⟩)⟩⟩
      · have Q38 := q21.2.2.2.2.2.2.2.2.2.2.2.2
        rw [FI7 0 78 rfl] at Q38
        obtain ⟨u38, u38_⟩ := gs_or0 Q38 (by exact gz_m 30 (by omega))
        refine gv_run 1 true hD (pc' := 139) (lv' := [(5, .inl z17), (0, .inr (.inr (some 0))), (1, .inr (.inl v1_9)), (3, .inl v3_9), (4, .inl v4_9)]) (st' := [.inl 0]) (h' := gr_h I22 J23) (C := (True ∧ True)) rfl ⟨trivial, trivial⟩ ?_
        have b39 : (I22 0 71 = 5 ∨ I22 0 73 ≤ I22 0 69) ∧ (I22 0 72 ≤ I22 0 69) ∧ (I22 0 71 = 0 ∨ (I22 0 72 < I22 0 73 ∧ I22 0 72 < I22 0 69)) ∧ (I22 0 71 = 3 → 2 ≤ I22 0 73 - I22 0 72 ∧ I22 0 73 - I22 0 72 ≤ 14) ∧ (I22 0 72 ≤ I22 0 73) ∧ (I22 0 69 = I 0 69) ∧ (I 0 73 ≤ I22 0 73) ∧ (I 0 72 ≤ I22 0 72) := by exact gz_m 31 (by omega)
        exact gv_zret hD rfl (by exact gz_m 32 (by omega)) ⟨I22, J23, rfl, hI22, FI22, FJ23, ⟨_, rfl, by exact gz_m 33 (by omega), by exact gz_m 34 (by omega), b39.1, b39.2.1, b39.2.2.1, b39.2.2.2.1, b39.2.2.2.2.1, b39.2.2.2.2.2.1, b39.2.2.2.2.2.2.1, b39.2.2.2.2.2.2.2, (Or.inr ⟨by exact gz_m 35 (by omega), by rw [e3_9]; unfold gs_fact3; (repeat first | rw [if_pos (by exact gz_m 36 (by omega))] | rw [if_neg (by exact gz_m 37 (by omega))]); exact ⟨by exact gz_m 38 (by omega), by exact gz_m 39 (by omega), ⟨((g21 0 5 rfl).trans (e6_9.1)), fun j => ⟨((k21 5 j rfl).trans (e6_9.2.1 j)), ((g21 11 j rfl).trans (e6_9.2.2.1 j)), ((g21 12 j rfl).trans (e6_9.2.2.2 j))⟩⟩⟩⟩)⟩⟩
    · have f40 := (gr_b_0_5 hI7)
      refine gv_run 3 true hD (pc' := 124) (lv' := [(5, .inl z17), (0, .inr (.inr (some 0))), (1, .inr (.inl v1_9)), (3, .inl v3_9), (4, .inl v4_9)]) (st' := [.inl 64, .inl (I7 0 5), .inr (.inr (some 0))]) (h' := gr_h I7 J8) (C := (((True ∧ True) ∧ True) ∧ True)) rfl ⟨⟨⟨trivial, trivial⟩, trivial⟩, trivial⟩ ?_
      refine gv_icmp_ge (t := 131) hD rfl rfl ⟨⟨by exact gz_m 40 (by omega), by exact gz_m 41 (by omega)⟩, ⟨by exact gz_m 42 (by omega), by exact gz_m 43 (by omega)⟩⟩ (fun c41 => ?_) (fun c41 => ?_)
      · refine gv_run 1 true hD (pc' := 132) (lv' := [(5, .inl z17), (0, .inr (.inr (some 0))), (1, .inr (.inl v1_9)), (3, .inl v3_9), (4, .inl v4_9)]) (st' := [.inl 0, .inr (.inr (some 0))]) (h' := gr_h I7 J8) (C := (True ∧ True)) rfl ⟨trivial, trivial⟩ ?_
        obtain ⟨r42, h42, E42, P42⟩ := r_done_p (ws0 := ws0) (tb := tb) hws htb ext β N9 p_9 I7 J8 hI7 0 ⟨by exact gz_m 44 (by omega), by exact gz_m 45 (by omega)⟩ (by exact gz_m 46 (by omega)) (by exact gz_m 47 (by omega)) (by exact gz_m 48 (by omega)) (by exact gz_m 49 (by omega)) (by exact gz_m 50 (by omega)) e1_9 (by exact gz_m 51 (by omega))
        obtain ⟨I43, J44, rfl, hI43, g42, k42, ⟨z42, rfl, q42⟩⟩ := P42
        have FI43 := gr_frt FI7 g42 rfl rfl
        have FJ44 := gr_fjt FJ8 k42 rfl rfl
        have t45 := g42 0 69 rfl
        have t46 := g42 0 5 rfl
        have t47 := g42 0 5 rfl
        have f48 := (gr_b_0_71 hI43)
        have f49 := (gr_b_0_72 hI43)
        have f50 := (gr_b_0_73 hI43)
        have f51 := (gr_b_0_69 hI43)
        have f52 := (gr_b_0_5 hI43)
        have f53 := (gr_b_0_5 hI43)
        refine gv_callV hD rfl (As := [.inl 0]) (st := []) rfl (by decide) rfl rfl (gr_lV hws rfl) (Nat.le_of_ble_eq_true rfl) (gz_Ev_mono (d := 11) (by decide) E42) ?_
        show gv_X _ _ (135, [(5, .inl z17), (0, .inr (.inr (some 0))), (1, .inr (.inl v1_9)), (3, .inl v3_9), (4, .inl v4_9)], [.inl z42], gr_sh ++ ext, gr_h I43 J44)
        refine gv_if_ne (t := 140) hD rfl rfl ⟨by exact gz_m 52 (by omega), by exact gz_m 53 (by omega)⟩ (fun c54 => ?_) (fun c54 => ?_)
        · have Q55 := q42.2.2.2.2.2.2.2.2.2.2.2.2
          rw [FI7 0 78 rfl] at Q55
          obtain ⟨u55, A55⟩ := gs_or1 Q55 (by exact gz_m 54 (by omega))
          have t56 := gr_ATp_l A55
          refine gv_run 1 true hD (pc' := 142) (lv' := [(5, .inl z17), (0, .inr (.inr (some 0))), (1, .inr (.inl v1_9)), (3, .inl v3_9), (4, .inl v4_9)]) (st' := [.inl z17]) (h' := gr_h I43 J44) (C := (True ∧ True)) rfl ⟨trivial, trivial⟩ ?_
          refine gv_if_eq (t := 147) hD rfl rfl ⟨by exact gz_m 55 (by omega), by exact gz_m 56 (by omega)⟩ (fun c57 => ?_) (fun c57 => ?_)
          · have f58 := (gr_b_0_5 hI43)
            refine gv_run 5 true hD (pc' := 156) (lv' := [(5, .inl z17), (0, .inr (.inr (some 0))), (1, .inr (.inl v1_9)), (3, .inl v3_9), (4, .inl v4_9)]) (st' := [.inr (.inl v1_9), .inl (I43 0 5), .inr (.inr (some 5))]) (h' := gr_h I43 J44) (C := (((((True ∧ True) ∧ True) ∧ True) ∧ True) ∧ True)) rfl ⟨⟨⟨⟨⟨trivial, trivial⟩, trivial⟩, trivial⟩, trivial⟩, trivial⟩ ?_
            refine gv_run 1 true hD (pc' := 157) (lv' := [(5, .inl z17), (0, .inr (.inr (some 0))), (1, .inr (.inl v1_9)), (3, .inl v3_9), (4, .inl v4_9)]) (st' := []) (h' := gz_up (gr_h I43 J44) 5 (Int.toNat ((I43 0 5))) (.inr (.inl v1_9))) (C := (True ∧ (0 ≤ (I43 0 5) ∧ (I43 0 5) < ((64 : Nat) : Int)))) rfl ⟨trivial, ⟨by exact gz_m 57 (by omega), by exact gz_m 58 (by omega)⟩⟩ ?_
            refine gr_stJq FJ44 rfl rfl (fun J59 FJ59 q60 p60 => ?_)
            have A61 := gr_ATp_sj' A55 p60 rfl
            have f62 := (gr_b_0_5 hI43)
            refine gv_run 5 true hD (pc' := 166) (lv' := [(5, .inl z17), (0, .inr (.inr (some 0))), (1, .inr (.inl v1_9)), (3, .inl v3_9), (4, .inl v4_9)]) (st' := [.inl v3_9, .inl (I43 0 5), .inr (.inr (some 11))]) (h' := gr_h I43 J59) (C := (((((True ∧ True) ∧ True) ∧ True) ∧ True) ∧ True)) rfl ⟨⟨⟨⟨⟨trivial, trivial⟩, trivial⟩, trivial⟩, trivial⟩, trivial⟩ ?_
            refine gv_run 1 true hD (pc' := 167) (lv' := [(5, .inl z17), (0, .inr (.inr (some 0))), (1, .inr (.inl v1_9)), (3, .inl v3_9), (4, .inl v4_9)]) (st' := []) (h' := gz_up (gr_h I43 J59) 11 (Int.toNat ((I43 0 5))) (.inl v3_9)) (C := (True ∧ (0 ≤ (I43 0 5) ∧ (I43 0 5) < ((64 : Nat) : Int)))) rfl ⟨trivial, ⟨by exact gz_m 59 (by omega), by exact gz_m 60 (by omega)⟩⟩ ?_
            refine gr_st hI43 FI43 rfl rfl ⟨⟨by show (-1) ≤ _; exact gz_m 61 (by omega), by show _ ≤ 7; exact gz_m 62 (by omega)⟩, trivial⟩ (fun I63 hI63 FI63 q64 p64 => ?_)
            have t65 := p64 0 71 (fun q => absurd q.1 (by decide))
            have t66 := p64 0 72 (fun q => absurd q.1 (by decide))
            have t67 := p64 0 73 (fun q => absurd q.1 (by decide))
            have t68 := p64 0 69 (fun q => absurd q.1 (by decide))
            have t69 := p64 0 5 (fun q => absurd q.1 (by decide))
            have t70 := p64 0 5 (fun q => absurd q.1 (by decide))
            have f71 := (gr_b_0_71 hI63)
            have f72 := (gr_b_0_72 hI63)
            have f73 := (gr_b_0_73 hI63)
            have f74 := (gr_b_0_69 hI63)
            have f75 := (gr_b_0_5 hI63)
            have f76 := (gr_b_0_5 hI63)
            have A77 := gr_ATp_sr A61 p64 rfl
            have f78 := (gr_b_0_5 hI63)
            refine gv_run 7 true hD (pc' := 178) (lv' := [(5, .inl z17), (0, .inr (.inr (some 0))), (1, .inr (.inl v1_9)), (3, .inl v3_9), (4, .inl v4_9)]) (st' := [.inl 1, .inl (I63 0 5), .inr (.inr (some 0)), .inl (I63 0 5), .inr (.inr (some 12))]) (h' := gr_h I63 J59) (C := (((((((True ∧ True) ∧ True) ∧ True) ∧ True) ∧ True) ∧ True) ∧ True)) rfl ⟨⟨⟨⟨⟨⟨⟨trivial, trivial⟩, trivial⟩, trivial⟩, trivial⟩, trivial⟩, trivial⟩, trivial⟩ ?_
            refine gv_run 2 true hD (pc' := 182) (lv' := [(5, .inl z17), (0, .inr (.inr (some 0))), (1, .inr (.inl v1_9)), (3, .inl v3_9), (4, .inl v4_9)]) (st' := [.inl (I63 0 5), .inr (.inr (some 12))]) (h' := gz_up (gr_h I63 J59) 0 5 (.inl (((I63 0 5) + 1)))) (C := ((True ∧ True) ∧ True)) rfl ⟨⟨trivial, trivial⟩, trivial⟩ ?_
            refine gr_st hI63 FI63 rfl rfl ⟨⟨by show 0 ≤ _; exact gz_m 63 (by omega), by show _ ≤ 64; exact gz_m 64 (by omega)⟩, trivial⟩ (fun I79 hI79 FI79 q80 p80 => ?_)
            have t81 := p80 0 71 (by decide)
            have t82 := p80 0 72 (by decide)
            have t83 := p80 0 73 (by decide)
            have t84 := p80 0 69 (by decide)
            have f85 := (gr_b_0_71 hI79)
            have f86 := (gr_b_0_72 hI79)
            have f87 := (gr_b_0_73 hI79)
            have f88 := (gr_b_0_69 hI79)
            have f89 := (gr_b_0_5 hI79)
            have f90 := (gr_b_0_5 hI79)
            have A91 := gr_ATp_sf A77 p80 rfl
            refine gv_run 2 true hD (pc' := 185) (lv' := [(5, .inl z17), (0, .inr (.inr (some 0))), (1, .inr (.inl v1_9)), (3, .inl v3_9), (4, .inl v4_9)]) (st' := []) (h' := gz_up (gr_h I79 J59) 12 (Int.toNat ((I63 0 5))) (.inl v4_9)) (C := ((True ∧ True) ∧ (0 ≤ (I63 0 5) ∧ (I63 0 5) < ((64 : Nat) : Int)))) rfl ⟨⟨trivial, trivial⟩, ⟨by exact gz_m 65 (by omega), by exact gz_m 66 (by omega)⟩⟩ ?_
            refine gr_st hI79 FI79 rfl rfl ⟨⟨by show (-1) ≤ _; exact gz_m 67 (by omega), by show _ ≤ 7; exact gz_m 68 (by omega)⟩, trivial⟩ (fun I92 hI92 FI92 q93 p93 => ?_)
            have t94 := p93 0 71 (fun q => absurd q.1 (by decide))
            have t95 := p93 0 72 (fun q => absurd q.1 (by decide))
            have t96 := p93 0 73 (fun q => absurd q.1 (by decide))
            have t97 := p93 0 69 (fun q => absurd q.1 (by decide))
            have t98 := p93 0 5 (fun q => absurd q.1 (by decide))
            have t99 := p93 0 5 (fun q => absurd q.1 (by decide))
            have f100 := (gr_b_0_71 hI92)
            have f101 := (gr_b_0_72 hI92)
            have f102 := (gr_b_0_73 hI92)
            have f103 := (gr_b_0_69 hI92)
            have f104 := (gr_b_0_5 hI92)
            have f105 := (gr_b_0_5 hI92)
            have A106 := gr_ATp_sr A91 p93 rfl
            refine gv_run 1 true hD (pc' := 186) (lv' := [(5, .inl z17), (0, .inr (.inr (some 0))), (1, .inr (.inl v1_9)), (3, .inl v3_9), (4, .inl v4_9)]) (st' := [.inl 1]) (h' := gr_h I92 J59) (C := (True ∧ True)) rfl ⟨trivial, trivial⟩ ?_
            have b107 : (I92 0 71 = 5 ∨ I92 0 73 ≤ I92 0 69) ∧ (I92 0 72 ≤ I92 0 69) ∧ (I92 0 71 = 0 ∨ (I92 0 72 < I92 0 73 ∧ I92 0 72 < I92 0 69)) ∧ (I92 0 71 = 3 → 2 ≤ I92 0 73 - I92 0 72 ∧ I92 0 73 - I92 0 72 ≤ 14) ∧ (I92 0 72 ≤ I92 0 73) ∧ (I92 0 69 = I 0 69) ∧ (I 0 73 ≤ I92 0 73) ∧ (I 0 72 ≤ I92 0 72) := by exact gz_m 69 (by omega)
            exact gv_zret hD rfl (by exact gz_m 70 (by omega)) ⟨I92, J59, rfl, hI92, FI92, FJ59, ⟨_, rfl, by exact gz_m 71 (by omega), by exact gz_m 72 (by omega), b107.1, b107.2.1, b107.2.2.1, b107.2.2.2.1, b107.2.2.2.2.1, b107.2.2.2.2.2.1, b107.2.2.2.2.2.2.1, b107.2.2.2.2.2.2.2, (Or.inl ⟨by exact gz_m 73 (by omega), by have e9 : (gs_fact β N9 I J (I 0 78) p9) = (gs_done β N9 0 (I 0 78) p_9) := (by first | (exfalso; exact gz_m 74 (by omega)) | (rw [e3_9]; unfold gs_fact3; (repeat first | rw [if_pos (by exact gz_m 75 (by omega))] | rw [if_neg (by exact gz_m 76 (by omega))]))); rw [e9]; exact ⟨by exact gz_m 77 (by omega), A106, ⟨fun h => absurd h (by exact gz_m 78 (by omega)), fun _ => ⟨⟨by exact gz_m 79 (by omega), by rw [show (Int.toNat (I 0 5)) = (Int.toNat ((I43 0 5))) from by exact gz_m 80 (by omega)]; exact q60.trans e2_9, by rw [p93 11 _ (fun q => absurd q.1 (by decide)), p80 11 _ (fun q => absurd q.1 (by decide)), show (Int.toNat (I 0 5)) = (Int.toNat ((I43 0 5))) from by exact gz_m 81 (by omega)]; exact q64.trans (by exact gz_m 82 (by omega)), by rw [show (Int.toNat (I 0 5)) = (Int.toNat ((I63 0 5))) from by exact gz_m 83 (by omega)]; exact q93.trans (by exact gz_m 84 (by omega))⟩, fun j hj => ⟨(p60 5 j (fun h => hj (by have h9 := h.2; exact gz_m 85 (by omega)))).trans ((k42 5 j rfl).trans (e6_9.2.1 j)), ((p93 11 j (fun q => absurd q.1 (by decide))).trans ((p80 11 j (fun q => absurd q.1 (by decide))).trans ((p64 11 j (fun h => hj (by have h9 := h.2; exact gz_m 86 (by omega)))).trans ((g42 11 j rfl).trans (e6_9.2.2.1 j))))), ((p93 12 j (fun h => hj (by have h9 := h.2; exact gz_m 87 (by omega)))).trans ((p80 12 j (fun q => absurd q.1 (by decide))).trans ((p64 12 j (fun q => absurd q.1 (by decide))).trans ((g42 12 j rfl).trans (e6_9.2.2.2 j)))))⟩⟩⟩⟩⟩)⟩⟩
          · exfalso; exact gz_m 88 (by omega)
        · have Q108 := q42.2.2.2.2.2.2.2.2.2.2.2.2
          rw [FI7 0 78 rfl] at Q108
          obtain ⟨u108, u108_⟩ := gs_or0 Q108 (by exact gz_m 89 (by omega))
          refine gv_run 1 true hD (pc' := 139) (lv' := [(5, .inl z17), (0, .inr (.inr (some 0))), (1, .inr (.inl v1_9)), (3, .inl v3_9), (4, .inl v4_9)]) (st' := [.inl 0]) (h' := gr_h I43 J44) (C := (True ∧ True)) rfl ⟨trivial, trivial⟩ ?_
          have b109 : (I43 0 71 = 5 ∨ I43 0 73 ≤ I43 0 69) ∧ (I43 0 72 ≤ I43 0 69) ∧ (I43 0 71 = 0 ∨ (I43 0 72 < I43 0 73 ∧ I43 0 72 < I43 0 69)) ∧ (I43 0 71 = 3 → 2 ≤ I43 0 73 - I43 0 72 ∧ I43 0 73 - I43 0 72 ≤ 14) ∧ (I43 0 72 ≤ I43 0 73) ∧ (I43 0 69 = I 0 69) ∧ (I 0 73 ≤ I43 0 73) ∧ (I 0 72 ≤ I43 0 72) := by exact gz_m 90 (by omega)
          exact gv_zret hD rfl (by exact gz_m 91 (by omega)) ⟨I43, J44, rfl, hI43, FI43, FJ44, ⟨_, rfl, by exact gz_m 92 (by omega), by exact gz_m 93 (by omega), b109.1, b109.2.1, b109.2.2.1, b109.2.2.2.1, b109.2.2.2.2.1, b109.2.2.2.2.2.1, b109.2.2.2.2.2.2.1, b109.2.2.2.2.2.2.2, (Or.inr ⟨by exact gz_m 94 (by omega), by rw [e3_9]; unfold gs_fact3; (repeat first | rw [if_pos (by exact gz_m 95 (by omega))] | rw [if_neg (by exact gz_m 96 (by omega))]); exact ⟨by exact gz_m 97 (by omega), by exact gz_m 98 (by omega), ⟨((g42 0 5 rfl).trans (e6_9.1)), fun j => ⟨((k42 5 j rfl).trans (e6_9.2.1 j)), ((g42 11 j rfl).trans (e6_9.2.2.1 j)), ((g42 12 j rfl).trans (e6_9.2.2.2 j))⟩⟩⟩⟩)⟩⟩
      · refine gv_run 2 true hD (pc' := 132) (lv' := [(5, .inl z17), (0, .inr (.inr (some 0))), (1, .inr (.inl v1_9)), (3, .inl v3_9), (4, .inl v4_9)]) (st' := [.inl 1, .inr (.inr (some 0))]) (h' := gr_h I7 J8) (C := ((True ∧ True) ∧ True)) rfl ⟨⟨trivial, trivial⟩, trivial⟩ ?_
        obtain ⟨r110, h110, E110, P110⟩ := r_done_p (ws0 := ws0) (tb := tb) hws htb ext β N9 p_9 I7 J8 hI7 1 ⟨by exact gz_m 99 (by omega), by exact gz_m 100 (by omega)⟩ (by exact gz_m 101 (by omega)) (by exact gz_m 102 (by omega)) (by exact gz_m 103 (by omega)) (by exact gz_m 104 (by omega)) (by exact gz_m 105 (by omega)) e1_9 (by exact gz_m 106 (by omega))
        obtain ⟨I111, J112, rfl, hI111, g110, k110, ⟨z110, rfl, q110⟩⟩ := P110
        have FI111 := gr_frt FI7 g110 rfl rfl
        have FJ112 := gr_fjt FJ8 k110 rfl rfl
        have t113 := g110 0 69 rfl
        have t114 := g110 0 5 rfl
        have t115 := g110 0 5 rfl
        have f116 := (gr_b_0_71 hI111)
        have f117 := (gr_b_0_72 hI111)
        have f118 := (gr_b_0_73 hI111)
        have f119 := (gr_b_0_69 hI111)
        have f120 := (gr_b_0_5 hI111)
        have f121 := (gr_b_0_5 hI111)
        refine gv_callV hD rfl (As := [.inl 1]) (st := []) rfl (by decide) rfl rfl (gr_lV hws rfl) (Nat.le_of_ble_eq_true rfl) (gz_Ev_mono (d := 11) (by decide) E110) ?_
        show gv_X _ _ (135, [(5, .inl z17), (0, .inr (.inr (some 0))), (1, .inr (.inl v1_9)), (3, .inl v3_9), (4, .inl v4_9)], [.inl z110], gr_sh ++ ext, gr_h I111 J112)
        refine gv_if_ne (t := 140) hD rfl rfl ⟨by exact gz_m 107 (by omega), by exact gz_m 108 (by omega)⟩ (fun c122 => ?_) (fun c122 => ?_)
        · have Q123 := q110.2.2.2.2.2.2.2.2.2.2.2.2
          rw [FI7 0 78 rfl] at Q123
          obtain ⟨u123, A123⟩ := gs_or1 Q123 (by exact gz_m 109 (by omega))
          have t124 := gr_ATp_l A123
          refine gv_run 1 true hD (pc' := 142) (lv' := [(5, .inl z17), (0, .inr (.inr (some 0))), (1, .inr (.inl v1_9)), (3, .inl v3_9), (4, .inl v4_9)]) (st' := [.inl z17]) (h' := gr_h I111 J112) (C := (True ∧ True)) rfl ⟨trivial, trivial⟩ ?_
          refine gv_if_eq (t := 147) hD rfl rfl ⟨by exact gz_m 110 (by omega), by exact gz_m 111 (by omega)⟩ (fun c125 => ?_) (fun c125 => ?_)
          · have f126 := (gr_b_0_5 hI111)
            refine gv_run 5 true hD (pc' := 156) (lv' := [(5, .inl z17), (0, .inr (.inr (some 0))), (1, .inr (.inl v1_9)), (3, .inl v3_9), (4, .inl v4_9)]) (st' := [.inr (.inl v1_9), .inl (I111 0 5), .inr (.inr (some 5))]) (h' := gr_h I111 J112) (C := (((((True ∧ True) ∧ True) ∧ True) ∧ True) ∧ True)) rfl ⟨⟨⟨⟨⟨trivial, trivial⟩, trivial⟩, trivial⟩, trivial⟩, trivial⟩ ?_
            refine gv_run 1 true hD (pc' := 157) (lv' := [(5, .inl z17), (0, .inr (.inr (some 0))), (1, .inr (.inl v1_9)), (3, .inl v3_9), (4, .inl v4_9)]) (st' := []) (h' := gz_up (gr_h I111 J112) 5 (Int.toNat ((I111 0 5))) (.inr (.inl v1_9))) (C := (True ∧ (0 ≤ (I111 0 5) ∧ (I111 0 5) < ((64 : Nat) : Int)))) rfl ⟨trivial, ⟨by exact gz_m 112 (by omega), by exact gz_m 113 (by omega)⟩⟩ ?_
            refine gr_stJq FJ112 rfl rfl (fun J127 FJ127 q128 p128 => ?_)
            have A129 := gr_ATp_sj' A123 p128 rfl
            have f130 := (gr_b_0_5 hI111)
            refine gv_run 5 true hD (pc' := 166) (lv' := [(5, .inl z17), (0, .inr (.inr (some 0))), (1, .inr (.inl v1_9)), (3, .inl v3_9), (4, .inl v4_9)]) (st' := [.inl v3_9, .inl (I111 0 5), .inr (.inr (some 11))]) (h' := gr_h I111 J127) (C := (((((True ∧ True) ∧ True) ∧ True) ∧ True) ∧ True)) rfl ⟨⟨⟨⟨⟨trivial, trivial⟩, trivial⟩, trivial⟩, trivial⟩, trivial⟩ ?_
            refine gv_run 1 true hD (pc' := 167) (lv' := [(5, .inl z17), (0, .inr (.inr (some 0))), (1, .inr (.inl v1_9)), (3, .inl v3_9), (4, .inl v4_9)]) (st' := []) (h' := gz_up (gr_h I111 J127) 11 (Int.toNat ((I111 0 5))) (.inl v3_9)) (C := (True ∧ (0 ≤ (I111 0 5) ∧ (I111 0 5) < ((64 : Nat) : Int)))) rfl ⟨trivial, ⟨by exact gz_m 114 (by omega), by exact gz_m 115 (by omega)⟩⟩ ?_
            refine gr_st hI111 FI111 rfl rfl ⟨⟨by show (-1) ≤ _; exact gz_m 116 (by omega), by show _ ≤ 7; exact gz_m 117 (by omega)⟩, trivial⟩ (fun I131 hI131 FI131 q132 p132 => ?_)
            have t133 := p132 0 71 (fun q => absurd q.1 (by decide))
            have t134 := p132 0 72 (fun q => absurd q.1 (by decide))
            have t135 := p132 0 73 (fun q => absurd q.1 (by decide))
            have t136 := p132 0 69 (fun q => absurd q.1 (by decide))
            have t137 := p132 0 5 (fun q => absurd q.1 (by decide))
            have t138 := p132 0 5 (fun q => absurd q.1 (by decide))
            have f139 := (gr_b_0_71 hI131)
            have f140 := (gr_b_0_72 hI131)
            have f141 := (gr_b_0_73 hI131)
            have f142 := (gr_b_0_69 hI131)
            have f143 := (gr_b_0_5 hI131)
            have f144 := (gr_b_0_5 hI131)
            have A145 := gr_ATp_sr A129 p132 rfl
            have f146 := (gr_b_0_5 hI131)
            refine gv_run 7 true hD (pc' := 178) (lv' := [(5, .inl z17), (0, .inr (.inr (some 0))), (1, .inr (.inl v1_9)), (3, .inl v3_9), (4, .inl v4_9)]) (st' := [.inl 1, .inl (I131 0 5), .inr (.inr (some 0)), .inl (I131 0 5), .inr (.inr (some 12))]) (h' := gr_h I131 J127) (C := (((((((True ∧ True) ∧ True) ∧ True) ∧ True) ∧ True) ∧ True) ∧ True)) rfl ⟨⟨⟨⟨⟨⟨⟨trivial, trivial⟩, trivial⟩, trivial⟩, trivial⟩, trivial⟩, trivial⟩, trivial⟩ ?_
            refine gv_run 2 true hD (pc' := 182) (lv' := [(5, .inl z17), (0, .inr (.inr (some 0))), (1, .inr (.inl v1_9)), (3, .inl v3_9), (4, .inl v4_9)]) (st' := [.inl (I131 0 5), .inr (.inr (some 12))]) (h' := gz_up (gr_h I131 J127) 0 5 (.inl (((I131 0 5) + 1)))) (C := ((True ∧ True) ∧ True)) rfl ⟨⟨trivial, trivial⟩, trivial⟩ ?_
            refine gr_st hI131 FI131 rfl rfl ⟨⟨by show 0 ≤ _; exact gz_m 118 (by omega), by show _ ≤ 64; exact gz_m 119 (by omega)⟩, trivial⟩ (fun I147 hI147 FI147 q148 p148 => ?_)
            have t149 := p148 0 71 (by decide)
            have t150 := p148 0 72 (by decide)
            have t151 := p148 0 73 (by decide)
            have t152 := p148 0 69 (by decide)
            have f153 := (gr_b_0_71 hI147)
            have f154 := (gr_b_0_72 hI147)
            have f155 := (gr_b_0_73 hI147)
            have f156 := (gr_b_0_69 hI147)
            have f157 := (gr_b_0_5 hI147)
            have f158 := (gr_b_0_5 hI147)
            have A159 := gr_ATp_sf A145 p148 rfl
            refine gv_run 2 true hD (pc' := 185) (lv' := [(5, .inl z17), (0, .inr (.inr (some 0))), (1, .inr (.inl v1_9)), (3, .inl v3_9), (4, .inl v4_9)]) (st' := []) (h' := gz_up (gr_h I147 J127) 12 (Int.toNat ((I131 0 5))) (.inl v4_9)) (C := ((True ∧ True) ∧ (0 ≤ (I131 0 5) ∧ (I131 0 5) < ((64 : Nat) : Int)))) rfl ⟨⟨trivial, trivial⟩, ⟨by exact gz_m 120 (by omega), by exact gz_m 121 (by omega)⟩⟩ ?_
            refine gr_st hI147 FI147 rfl rfl ⟨⟨by show (-1) ≤ _; exact gz_m 122 (by omega), by show _ ≤ 7; exact gz_m 123 (by omega)⟩, trivial⟩ (fun I160 hI160 FI160 q161 p161 => ?_)
            have t162 := p161 0 71 (fun q => absurd q.1 (by decide))
            have t163 := p161 0 72 (fun q => absurd q.1 (by decide))
            have t164 := p161 0 73 (fun q => absurd q.1 (by decide))
            have t165 := p161 0 69 (fun q => absurd q.1 (by decide))
            have t166 := p161 0 5 (fun q => absurd q.1 (by decide))
            have t167 := p161 0 5 (fun q => absurd q.1 (by decide))
            have f168 := (gr_b_0_71 hI160)
            have f169 := (gr_b_0_72 hI160)
            have f170 := (gr_b_0_73 hI160)
            have f171 := (gr_b_0_69 hI160)
            have f172 := (gr_b_0_5 hI160)
            have f173 := (gr_b_0_5 hI160)
            have A174 := gr_ATp_sr A159 p161 rfl
            refine gv_run 1 true hD (pc' := 186) (lv' := [(5, .inl z17), (0, .inr (.inr (some 0))), (1, .inr (.inl v1_9)), (3, .inl v3_9), (4, .inl v4_9)]) (st' := [.inl 1]) (h' := gr_h I160 J127) (C := (True ∧ True)) rfl ⟨trivial, trivial⟩ ?_
            have b175 : (I160 0 71 = 5 ∨ I160 0 73 ≤ I160 0 69) ∧ (I160 0 72 ≤ I160 0 69) ∧ (I160 0 71 = 0 ∨ (I160 0 72 < I160 0 73 ∧ I160 0 72 < I160 0 69)) ∧ (I160 0 71 = 3 → 2 ≤ I160 0 73 - I160 0 72 ∧ I160 0 73 - I160 0 72 ≤ 14) ∧ (I160 0 72 ≤ I160 0 73) ∧ (I160 0 69 = I 0 69) ∧ (I 0 73 ≤ I160 0 73) ∧ (I 0 72 ≤ I160 0 72) := by exact gz_m 124 (by omega)
            exact gv_zret hD rfl (by exact gz_m 125 (by omega)) ⟨I160, J127, rfl, hI160, FI160, FJ127, ⟨_, rfl, by exact gz_m 126 (by omega), by exact gz_m 127 (by omega), b175.1, b175.2.1, b175.2.2.1, b175.2.2.2.1, b175.2.2.2.2.1, b175.2.2.2.2.2.1, b175.2.2.2.2.2.2.1, b175.2.2.2.2.2.2.2, (Or.inl ⟨by exact gz_m 128 (by omega), by have e9 : (gs_fact β N9 I J (I 0 78) p9) = (gs_done β N9 1 (I 0 78) p_9) := (by first | (exfalso; exact gz_m 129 (by omega)) | (rw [e3_9]; unfold gs_fact3; (repeat first | rw [if_pos (by exact gz_m 130 (by omega))] | rw [if_neg (by exact gz_m 131 (by omega))]))); rw [e9]; exact ⟨by exact gz_m 132 (by omega), A174, ⟨fun h => absurd h (by exact gz_m 133 (by omega)), fun _ => ⟨⟨by exact gz_m 134 (by omega), by rw [show (Int.toNat (I 0 5)) = (Int.toNat ((I111 0 5))) from by exact gz_m 135 (by omega)]; exact q128.trans e2_9, by rw [p161 11 _ (fun q => absurd q.1 (by decide)), p148 11 _ (fun q => absurd q.1 (by decide)), show (Int.toNat (I 0 5)) = (Int.toNat ((I111 0 5))) from by exact gz_m 136 (by omega)]; exact q132.trans (by exact gz_m 137 (by omega)), by rw [show (Int.toNat (I 0 5)) = (Int.toNat ((I131 0 5))) from by exact gz_m 138 (by omega)]; exact q161.trans (by exact gz_m 139 (by omega))⟩, fun j hj => ⟨(p128 5 j (fun h => hj (by have h9 := h.2; exact gz_m 140 (by omega)))).trans ((k110 5 j rfl).trans (e6_9.2.1 j)), ((p161 11 j (fun q => absurd q.1 (by decide))).trans ((p148 11 j (fun q => absurd q.1 (by decide))).trans ((p132 11 j (fun h => hj (by have h9 := h.2; exact gz_m 141 (by omega)))).trans ((g110 11 j rfl).trans (e6_9.2.2.1 j))))), ((p161 12 j (fun h => hj (by have h9 := h.2; exact gz_m 142 (by omega)))).trans ((p148 12 j (fun q => absurd q.1 (by decide))).trans ((p132 12 j (fun q => absurd q.1 (by decide))).trans ((g110 12 j rfl).trans (e6_9.2.2.2 j)))))⟩⟩⟩⟩⟩)⟩⟩
          · exfalso; exact gz_m 143 (by omega)
        · have Q176 := q110.2.2.2.2.2.2.2.2.2.2.2.2
          rw [FI7 0 78 rfl] at Q176
          obtain ⟨u176, u176_⟩ := gs_or0 Q176 (by exact gz_m 144 (by omega))
          refine gv_run 1 true hD (pc' := 139) (lv' := [(5, .inl z17), (0, .inr (.inr (some 0))), (1, .inr (.inl v1_9)), (3, .inl v3_9), (4, .inl v4_9)]) (st' := [.inl 0]) (h' := gr_h I111 J112) (C := (True ∧ True)) rfl ⟨trivial, trivial⟩ ?_
          have b177 : (I111 0 71 = 5 ∨ I111 0 73 ≤ I111 0 69) ∧ (I111 0 72 ≤ I111 0 69) ∧ (I111 0 71 = 0 ∨ (I111 0 72 < I111 0 73 ∧ I111 0 72 < I111 0 69)) ∧ (I111 0 71 = 3 → 2 ≤ I111 0 73 - I111 0 72 ∧ I111 0 73 - I111 0 72 ≤ 14) ∧ (I111 0 72 ≤ I111 0 73) ∧ (I111 0 69 = I 0 69) ∧ (I 0 73 ≤ I111 0 73) ∧ (I 0 72 ≤ I111 0 72) := by exact gz_m 145 (by omega)
          exact gv_zret hD rfl (by exact gz_m 146 (by omega)) ⟨I111, J112, rfl, hI111, FI111, FJ112, ⟨_, rfl, by exact gz_m 147 (by omega), by exact gz_m 148 (by omega), b177.1, b177.2.1, b177.2.2.1, b177.2.2.2.1, b177.2.2.2.2.1, b177.2.2.2.2.2.1, b177.2.2.2.2.2.2.1, b177.2.2.2.2.2.2.2, (Or.inr ⟨by exact gz_m 149 (by omega), by rw [e3_9]; unfold gs_fact3; (repeat first | rw [if_pos (by exact gz_m 150 (by omega))] | rw [if_neg (by exact gz_m 151 (by omega))]); exact ⟨by exact gz_m 152 (by omega), by exact gz_m 153 (by omega), ⟨((g110 0 5 rfl).trans (e6_9.1)), fun j => ⟨((k110 5 j rfl).trans (e6_9.2.1 j)), ((g110 11 j rfl).trans (e6_9.2.2.1 j)), ((g110 12 j rfl).trans (e6_9.2.2.2 j))⟩⟩⟩⟩)⟩⟩
  refine gv_run 1 true hD (pc' := 1) (lv' := [(0, .inr (.inr (some 0)))]) (st' := [.inr (.inr (some 0))]) (h' := gr_h I J) (C := (True ∧ True)) rfl ⟨trivial, trivial⟩ ?_
  obtain ⟨r178, h178, E178, P178⟩ := r_name_p (ws0 := ws0) (tb := tb) hws htb ext β N9 p9 I J hI   x5 (by exact gz_m 154 (by omega))
  obtain ⟨I179, J180, rfl, hI179, g178, k178, ⟨z178, rfl, q178⟩⟩ := P178
  have FI179 := gr_frt FI g178 rfl rfl
  have FJ180 := gr_fjt FJ k178 rfl rfl
  have t181 := g178 0 71 rfl
  have t182 := g178 0 72 rfl
  have t183 := g178 0 73 rfl
  have t184 := g178 0 69 rfl
  have t185 := g178 0 5 rfl
  have t186 := g178 0 5 rfl
  have f187 := (gr_b_0_71 hI179)
  have f188 := (gr_b_0_72 hI179)
  have f189 := (gr_b_0_73 hI179)
  have f190 := (gr_b_0_69 hI179)
  have f191 := (gr_b_0_5 hI179)
  have f192 := (gr_b_0_5 hI179)
  have A193 := gr_ATp_F x5 g178 k178 rfl
  have t194 := gr_ATp_l A193
  refine gv_callV hD rfl (As := []) (st := []) rfl (by decide) rfl rfl (gr_lV hws rfl) (Nat.le_of_ble_eq_true rfl) (gz_Ev_mono (d := 3) (by decide) E178) ?_
  show gv_X _ _ (4, [(0, .inr (.inr (some 0)))], [.inl z178], gr_sh ++ ext, gr_h I179 J180)
  refine gv_if_ne (t := 9) hD rfl rfl ⟨by exact gz_m 155 (by omega), by exact gz_m 156 (by omega)⟩ (fun c195 => ?_) (fun c195 => ?_)
  · refine gv_run 4 true hD (pc' := 15) (lv' := [(1, .inr (.inl (J180 0 75))), (0, .inr (.inr (some 0)))]) (st' := [.inr (.inr (some 0))]) (h' := gr_h I179 J180) (C := ((((True ∧ True) ∧ True) ∧ True) ∧ True)) rfl ⟨⟨⟨⟨trivial, trivial⟩, trivial⟩, trivial⟩, trivial⟩ ?_
    obtain ⟨r196, h196, E196, P196⟩ := r_next_p (ws0 := ws0) (tb := tb) hws htb ext β N9 I179 J180 hI179   (by exact gz_m 157 (by omega)) A193.1.1 A193.1.2
    obtain ⟨I197, J198, rfl, hI197, g196, k196, ⟨rfl, q196⟩⟩ := P196
    have FI197 := gr_frt FI179 g196 rfl rfl
    have FJ198 := gr_fjt FJ180 k196 rfl rfl
    have t199 := g196 0 69 rfl
    have t200 := g196 0 5 rfl
    have t201 := g196 0 5 rfl
    have f202 := (gr_b_0_71 hI197)
    have f203 := (gr_b_0_72 hI197)
    have f204 := (gr_b_0_73 hI197)
    have f205 := (gr_b_0_69 hI197)
    have f206 := (gr_b_0_5 hI197)
    have f207 := (gr_b_0_5 hI197)
    have A208 := gr_ATp_nx A193 q196.2.2.2.2.2
    have t209 := gr_ATp_l A208
    refine gv_callV hD rfl (As := []) (st := []) rfl (by decide) rfl rfl (gr_lV hws rfl) (Nat.le_of_ble_eq_true rfl) (gz_Ev_mono (d := 10) (by decide) E196) ?_
    show gv_X _ _ (18, [(1, .inr (.inl (J180 0 75))), (0, .inr (.inr (some 0)))], [], gr_sh ++ ext, gr_h I197 J198)
    refine gv_run 1 true hD (pc' := 19) (lv' := [(1, .inr (.inl (J180 0 75))), (0, .inr (.inr (some 0)))]) (st' := [.inr (.inr (some 0))]) (h' := gr_h I197 J198) (C := (True ∧ True)) rfl ⟨trivial, trivial⟩ ?_
    obtain ⟨r210, h210, E210, P210⟩ := r_name_p (ws0 := ws0) (tb := tb) hws htb ext β N9 (gs_X β N9 p9) I197 J198 hI197   A208 (by exact gz_m 158 (by omega))
    obtain ⟨I211, J212, rfl, hI211, g210, k210, ⟨z210, rfl, q210⟩⟩ := P210
    have FI211 := gr_frt FI197 g210 rfl rfl
    have FJ212 := gr_fjt FJ198 k210 rfl rfl
    have t213 := g210 0 71 rfl
    have t214 := g210 0 72 rfl
    have t215 := g210 0 73 rfl
    have t216 := g210 0 69 rfl
    have t217 := g210 0 5 rfl
    have t218 := g210 0 5 rfl
    have f219 := (gr_b_0_71 hI211)
    have f220 := (gr_b_0_72 hI211)
    have f221 := (gr_b_0_73 hI211)
    have f222 := (gr_b_0_69 hI211)
    have f223 := (gr_b_0_5 hI211)
    have f224 := (gr_b_0_5 hI211)
    have A225 := gr_ATp_F A208 g210 k210 rfl
    have t226 := gr_ATp_l A225
    refine gv_callV hD rfl (As := []) (st := []) rfl (by decide) rfl rfl (gr_lV hws rfl) (Nat.le_of_ble_eq_true rfl) (gz_Ev_mono (d := 3) (by decide) E210) ?_
    show gv_X _ _ (22, [(1, .inr (.inl (J180 0 75))), (0, .inr (.inr (some 0)))], [.inl z210], gr_sh ++ ext, gr_h I211 J212)
    refine gv_if_ne (t := 27) hD rfl rfl ⟨by exact gz_m 159 (by omega), by exact gz_m 160 (by omega)⟩ (fun c227 => ?_) (fun c227 => ?_)
    · have f228 := (gr_b_0_4 hI211)
      refine gv_run 7 true hD (pc' := 40) (lv' := [(1, .inr (.inl (J180 0 75))), (0, .inr (.inr (some 0)))]) (st' := [.inr (.inl (J212 0 75)), .inl (I211 0 4), .inl 0, .inr (.inr (some 4))]) (h' := gr_h I211 J212) (C := (((((((True ∧ True) ∧ True) ∧ True) ∧ True) ∧ True) ∧ True) ∧ True)) rfl ⟨⟨⟨⟨⟨⟨⟨trivial, trivial⟩, trivial⟩, trivial⟩, trivial⟩, trivial⟩, trivial⟩, trivial⟩ ?_
      obtain ⟨r229, h229, E229, P229⟩ := r_find_4_p (ws0 := ws0) (tb := tb) hws htb ext I211 J212 hI211 0 (I211 0 4) (J212 0 75) ⟨by exact gz_m 161 (by omega), by exact gz_m 162 (by omega)⟩ ⟨by exact gz_m 163 (by omega), by exact gz_m 164 (by omega)⟩ (by exact gz_m 165 (by omega))
      obtain ⟨rfl, ⟨z229, rfl, q229⟩⟩ := P229
      have t230 := q229.2.2.2.trans (gs_lk_eq (I := I) (J := J) (w := gs_rn β N9 (gs_X β N9 p9)) (fun k => (FJ212 4 k rfl)) (FI211 0 4 rfl) (gr_ATp_w A225))
      refine gv_callS hD rfl (As := [.inr (.inr (some 4)), .inl 0, .inl (I211 0 4), .inr (.inl (J212 0 75))]) (st := []) rfl (gr_lS hws rfl) (Nat.le_of_ble_eq_true rfl) (gz_Ev_mono (d := 1) (by decide) E229) ?_
      show gv_X _ _ (43, [(1, .inr (.inl (J180 0 75))), (0, .inr (.inr (some 0)))], [.inl z229], gr_sh ++ ext, gr_h I211 J212)
      refine gv_run 2 true hD (pc' := 45) (lv' := [(3, .inl z229), (1, .inr (.inl (J180 0 75))), (0, .inr (.inr (some 0)))]) (st' := [.inl z229]) (h' := gr_h I211 J212) (C := ((True ∧ True) ∧ True)) rfl ⟨⟨trivial, trivial⟩, trivial⟩ ?_
      refine gv_if_ge (t := 54) hD rfl rfl ⟨by exact gz_m 166 (by omega), by exact gz_m 167 (by omega)⟩ (fun c231 => ?_) (fun c231 => ?_)
      · refine gv_run 1 true hD (pc' := 55) (lv' := [(3, .inl z229), (1, .inr (.inl (J180 0 75))), (0, .inr (.inr (some 0)))]) (st' := [.inr (.inr (some 0))]) (h' := gr_h I211 J212) (C := (True ∧ True)) rfl ⟨trivial, trivial⟩ ?_
        obtain ⟨r232, h232, E232, P232⟩ := r_next_p (ws0 := ws0) (tb := tb) hws htb ext β N9 I211 J212 hI211   (by exact gz_m 168 (by omega)) A225.1.1 A225.1.2
        obtain ⟨I233, J234, rfl, hI233, g232, k232, ⟨rfl, q232⟩⟩ := P232
        have FI233 := gr_frt FI211 g232 rfl rfl
        have FJ234 := gr_fjt FJ212 k232 rfl rfl
        have t235 := g232 0 69 rfl
        have t236 := g232 0 5 rfl
        have t237 := g232 0 5 rfl
        have f238 := (gr_b_0_71 hI233)
        have f239 := (gr_b_0_72 hI233)
        have f240 := (gr_b_0_73 hI233)
        have f241 := (gr_b_0_69 hI233)
        have f242 := (gr_b_0_5 hI233)
        have f243 := (gr_b_0_5 hI233)
        have A244 := gr_ATp_nx A225 q232.2.2.2.2.2
        have t245 := gr_ATp_l A244
        refine gv_callV hD rfl (As := []) (st := []) rfl (by decide) rfl rfl (gr_lV hws rfl) (Nat.le_of_ble_eq_true rfl) (gz_Ev_mono (d := 10) (by decide) E232) ?_
        show gv_X _ _ (58, [(3, .inl z229), (1, .inr (.inl (J180 0 75))), (0, .inr (.inr (some 0)))], [], gr_sh ++ ext, gr_h I233 J234)
        have f246 := (gr_b_0_71 hI233)
        refine gv_run 5 true hD (pc' := 66) (lv' := [(4, .inl (-1)), (3, .inl z229), (1, .inr (.inl (J180 0 75))), (0, .inr (.inr (some 0)))]) (st' := [.inl 1, .inl (I233 0 71)]) (h' := gr_h I233 J234) (C := (((((True ∧ True) ∧ True) ∧ True) ∧ True) ∧ True)) rfl ⟨⟨⟨⟨⟨trivial, trivial⟩, trivial⟩, trivial⟩, trivial⟩, trivial⟩ ?_
        refine gv_icmp_ne (t := 102) hD rfl rfl ⟨⟨by exact gz_m 169 (by omega), by exact gz_m 170 (by omega)⟩, ⟨by exact gz_m 171 (by omega), by exact gz_m 172 (by omega)⟩⟩ (fun c247 => ?_) (fun c247 => ?_)
        · have t248 := gr_ATp_k A244 (c := 1) ⟨by exact gz_m 173 (by omega), by exact gz_m 174 (by omega)⟩
          refine gv_pick [3, 2, 1, 0] rfl ?_
          exact L102 I233 J234 (J180 0 75) z229 (-1) ((gs_X β N9 (gs_X β N9 p9))) hI233 FI233 FJ234 (by exact gz_m 175 (by omega)) A244 (gr_ATp_w A193) (by unfold gs_fact gs_fact2; (repeat first | rw [if_pos (by exact gz_m 176 (by omega))] | rw [if_neg (by exact gz_m 177 (by omega))]); rw [show (gs_lk I J 4 4 (gs_rn β N9 (gs_X β N9 p9))) = z229 from by exact gz_m 178 (by omega)]) (by exact gz_m 179 (by omega)) (by unfold gs_fb; (repeat first | rw [if_pos (by exact gz_m 180 (by omega))] | rw [if_neg (by exact gz_m 181 (by omega))]); try exact gz_m 182 (by omega)) ⟨((((g232 0 5 rfl).trans (g210 0 5 rfl)).trans (g196 0 5 rfl)).trans (g178 0 5 rfl)), (fun k => ((((k232 5 k rfl).trans (k210 5 k rfl)).trans (k196 5 k rfl)).trans (k178 5 k rfl))), (fun k => ((((g232 11 k rfl).trans (g210 11 k rfl)).trans (g196 11 k rfl)).trans (g178 11 k rfl))), (fun k => ((((g232 12 k rfl).trans (g210 12 k rfl)).trans (g196 12 k rfl)).trans (g178 12 k rfl)))⟩
        · have t249 := gr_ATp_k A244 (c := 1) ⟨by exact gz_m 183 (by omega), by exact gz_m 184 (by omega)⟩
          have f250 := (gr_b_0_4 hI233)
          refine gv_run 7 true hD (pc' := 82) (lv' := [(4, .inl (-1)), (3, .inl z229), (1, .inr (.inl (J180 0 75))), (0, .inr (.inr (some 0)))]) (st' := [.inr (.inl (J234 0 75)), .inl (I233 0 4), .inl 0, .inr (.inr (some 4))]) (h' := gr_h I233 J234) (C := (((((((True ∧ True) ∧ True) ∧ True) ∧ True) ∧ True) ∧ True) ∧ True)) rfl ⟨⟨⟨⟨⟨⟨⟨trivial, trivial⟩, trivial⟩, trivial⟩, trivial⟩, trivial⟩, trivial⟩, trivial⟩ ?_
          obtain ⟨r251, h251, E251, P251⟩ := r_find_4_p (ws0 := ws0) (tb := tb) hws htb ext I233 J234 hI233 0 (I233 0 4) (J234 0 75) ⟨by exact gz_m 185 (by omega), by exact gz_m 186 (by omega)⟩ ⟨by exact gz_m 187 (by omega), by exact gz_m 188 (by omega)⟩ (by exact gz_m 189 (by omega))
          obtain ⟨rfl, ⟨z251, rfl, q251⟩⟩ := P251
          have t252 := q251.2.2.2.trans (gs_lk_eq (I := I) (J := J) (w := gs_rn β N9 (gs_X β N9 (gs_X β N9 p9))) (fun k => (FJ234 4 k rfl)) (FI233 0 4 rfl) (gr_ATp_w A244))
          refine gv_callS hD rfl (As := [.inr (.inr (some 4)), .inl 0, .inl (I233 0 4), .inr (.inl (J234 0 75))]) (st := []) rfl (gr_lS hws rfl) (Nat.le_of_ble_eq_true rfl) (gz_Ev_mono (d := 1) (by decide) E251) ?_
          show gv_X _ _ (85, [(4, .inl (-1)), (3, .inl z229), (1, .inr (.inl (J180 0 75))), (0, .inr (.inr (some 0)))], [.inl z251], gr_sh ++ ext, gr_h I233 J234)
          refine gv_run 2 true hD (pc' := 89) (lv' := [(4, .inl z251), (3, .inl z229), (1, .inr (.inl (J180 0 75))), (0, .inr (.inr (some 0)))]) (st' := [.inl z251]) (h' := gr_h I233 J234) (C := ((True ∧ True) ∧ True)) rfl ⟨⟨trivial, trivial⟩, trivial⟩ ?_
          refine gv_if_ge (t := 98) hD rfl rfl ⟨by exact gz_m 190 (by omega), by exact gz_m 191 (by omega)⟩ (fun c253 => ?_) (fun c253 => ?_)
          · refine gv_run 1 true hD (pc' := 99) (lv' := [(4, .inl z251), (3, .inl z229), (1, .inr (.inl (J180 0 75))), (0, .inr (.inr (some 0)))]) (st' := [.inr (.inr (some 0))]) (h' := gr_h I233 J234) (C := (True ∧ True)) rfl ⟨trivial, trivial⟩ ?_
            obtain ⟨r254, h254, E254, P254⟩ := r_next_p (ws0 := ws0) (tb := tb) hws htb ext β N9 I233 J234 hI233   (by exact gz_m 192 (by omega)) A244.1.1 A244.1.2
            obtain ⟨I255, J256, rfl, hI255, g254, k254, ⟨rfl, q254⟩⟩ := P254
            have FI255 := gr_frt FI233 g254 rfl rfl
            have FJ256 := gr_fjt FJ234 k254 rfl rfl
            have t257 := g254 0 69 rfl
            have t258 := g254 0 5 rfl
            have t259 := g254 0 5 rfl
            have f260 := (gr_b_0_71 hI255)
            have f261 := (gr_b_0_72 hI255)
            have f262 := (gr_b_0_73 hI255)
            have f263 := (gr_b_0_69 hI255)
            have f264 := (gr_b_0_5 hI255)
            have f265 := (gr_b_0_5 hI255)
            have A266 := gr_ATp_nx A244 q254.2.2.2.2.2
            have t267 := gr_ATp_l A266
            refine gv_callV hD rfl (As := []) (st := []) rfl (by decide) rfl rfl (gr_lV hws rfl) (Nat.le_of_ble_eq_true rfl) (gz_Ev_mono (d := 10) (by decide) E254) ?_
            show gv_X _ _ (102, [(4, .inl z251), (3, .inl z229), (1, .inr (.inl (J180 0 75))), (0, .inr (.inr (some 0)))], [], gr_sh ++ ext, gr_h I255 J256)
            refine gv_pick [3, 2, 1, 0] rfl ?_
            exact L102 I255 J256 (J180 0 75) z229 z251 ((gs_X β N9 (gs_X β N9 (gs_X β N9 p9)))) hI255 FI255 FJ256 (by exact gz_m 193 (by omega)) A266 (gr_ATp_w A193) (by unfold gs_fact gs_fact2; (repeat first | rw [if_pos (by exact gz_m 194 (by omega))] | rw [if_neg (by exact gz_m 195 (by omega))]); rw [show (gs_lk I J 4 4 (gs_rn β N9 (gs_X β N9 p9))) = z229 from by exact gz_m 196 (by omega), show (gs_lk I J 4 4 (gs_rn β N9 (gs_X β N9 (gs_X β N9 p9)))) = z251 from by exact gz_m 197 (by omega)]) (by exact gz_m 198 (by omega)) (by unfold gs_fb; (repeat first | rw [if_pos (by exact gz_m 199 (by omega))] | rw [if_neg (by exact gz_m 200 (by omega))]); try exact gz_m 201 (by omega)) ⟨(((((g254 0 5 rfl).trans (g232 0 5 rfl)).trans (g210 0 5 rfl)).trans (g196 0 5 rfl)).trans (g178 0 5 rfl)), (fun k => (((((k254 5 k rfl).trans (k232 5 k rfl)).trans (k210 5 k rfl)).trans (k196 5 k rfl)).trans (k178 5 k rfl))), (fun k => (((((g254 11 k rfl).trans (g232 11 k rfl)).trans (g210 11 k rfl)).trans (g196 11 k rfl)).trans (g178 11 k rfl))), (fun k => (((((g254 12 k rfl).trans (g232 12 k rfl)).trans (g210 12 k rfl)).trans (g196 12 k rfl)).trans (g178 12 k rfl)))⟩
          · refine gv_run 2 true hD (pc' := 94) (lv' := [(4, .inl z251), (3, .inl z229), (1, .inr (.inl (J180 0 75))), (0, .inr (.inr (some 0)))]) (st' := [.inl 5, .inr (.inr (some 0))]) (h' := gr_h I233 J234) (C := ((True ∧ True) ∧ True)) rfl ⟨⟨trivial, trivial⟩, trivial⟩ ?_
            obtain ⟨r268, h268, E268, P268⟩ := r_no__p (ws0 := ws0) (tb := tb) hws htb ext β N9 ((gs_X β N9 (gs_X β N9 p9))) I233 J234 hI233 5 ⟨by exact gz_m 202 (by omega), by exact gz_m 203 (by omega)⟩ A244 (by exact gz_m 204 (by omega))
            obtain ⟨I269, J270, rfl, hI269, g268, k268, ⟨z268, rfl, q268⟩⟩ := P268
            have FI269 := gr_frt FI233 g268 rfl rfl
            have FJ270 := gr_fjt FJ234 k268 rfl rfl
            have t271 := g268 0 71 rfl
            have t272 := g268 0 72 rfl
            have t273 := g268 0 73 rfl
            have t274 := g268 0 69 rfl
            have t275 := g268 0 5 rfl
            have t276 := g268 0 5 rfl
            have f277 := (gr_b_0_71 hI269)
            have f278 := (gr_b_0_72 hI269)
            have f279 := (gr_b_0_73 hI269)
            have f280 := (gr_b_0_69 hI269)
            have f281 := (gr_b_0_5 hI269)
            have f282 := (gr_b_0_5 hI269)
            have A283 := gr_ATp_F A244 g268 k268 rfl
            have t284 := gr_ATp_l A283
            refine gv_callV hD rfl (As := [.inl 5]) (st := []) rfl (by decide) rfl rfl (gr_lV hws rfl) (Nat.le_of_ble_eq_true rfl) (gz_Ev_mono (d := 2) (by decide) E268) ?_
            show gv_X _ _ (97, [(4, .inl z251), (3, .inl z229), (1, .inr (.inl (J180 0 75))), (0, .inr (.inr (some 0)))], [.inl z268], gr_sh ++ ext, gr_h I269 J270)
            have b285 : (I269 0 71 = 5 ∨ I269 0 73 ≤ I269 0 69) ∧ (I269 0 72 ≤ I269 0 69) ∧ (I269 0 71 = 0 ∨ (I269 0 72 < I269 0 73 ∧ I269 0 72 < I269 0 69)) ∧ (I269 0 71 = 3 → 2 ≤ I269 0 73 - I269 0 72 ∧ I269 0 73 - I269 0 72 ≤ 14) ∧ (I269 0 72 ≤ I269 0 73) ∧ (I269 0 69 = I 0 69) ∧ (I 0 73 ≤ I269 0 73) ∧ (I 0 72 ≤ I269 0 72) := by exact gz_m 205 (by omega)
            exact gv_zret hD rfl (by exact gz_m 206 (by omega)) ⟨I269, J270, rfl, hI269, FI269, FJ270, ⟨_, rfl, by exact gz_m 207 (by omega), by exact gz_m 208 (by omega), b285.1, b285.2.1, b285.2.2.1, b285.2.2.2.1, b285.2.2.2.2.1, b285.2.2.2.2.2.1, b285.2.2.2.2.2.2.1, b285.2.2.2.2.2.2.2, (Or.inr ⟨by exact gz_m 209 (by omega), by first | (exfalso; exact gz_m 210 (by omega)) | (unfold gs_fact gs_fact2 gs_fact3; (repeat first | rw [if_pos (by exact gz_m 211 (by omega))] | rw [if_neg (by exact gz_m 212 (by omega))]); exact ⟨by exact gz_m 213 (by omega), by exact gz_m 214 (by omega), ⟨(((((g268 0 5 rfl).trans (g232 0 5 rfl)).trans (g210 0 5 rfl)).trans (g196 0 5 rfl)).trans (g178 0 5 rfl)), fun j => ⟨(((((k268 5 j rfl).trans (k232 5 j rfl)).trans (k210 5 j rfl)).trans (k196 5 j rfl)).trans (k178 5 j rfl)), (((((g268 11 j rfl).trans (g232 11 j rfl)).trans (g210 11 j rfl)).trans (g196 11 j rfl)).trans (g178 11 j rfl)), (((((g268 12 j rfl).trans (g232 12 j rfl)).trans (g210 12 j rfl)).trans (g196 12 j rfl)).trans (g178 12 j rfl))⟩⟩⟩)⟩)⟩⟩
      · refine gv_run 2 true hD (pc' := 50) (lv' := [(3, .inl z229), (1, .inr (.inl (J180 0 75))), (0, .inr (.inr (some 0)))]) (st' := [.inl 5, .inr (.inr (some 0))]) (h' := gr_h I211 J212) (C := ((True ∧ True) ∧ True)) rfl ⟨⟨trivial, trivial⟩, trivial⟩ ?_
        obtain ⟨r286, h286, E286, P286⟩ := r_no__p (ws0 := ws0) (tb := tb) hws htb ext β N9 (gs_X β N9 p9) I211 J212 hI211 5 ⟨by exact gz_m 215 (by omega), by exact gz_m 216 (by omega)⟩ A225 (by exact gz_m 217 (by omega))
        obtain ⟨I287, J288, rfl, hI287, g286, k286, ⟨z286, rfl, q286⟩⟩ := P286
        have FI287 := gr_frt FI211 g286 rfl rfl
        have FJ288 := gr_fjt FJ212 k286 rfl rfl
        have t289 := g286 0 71 rfl
        have t290 := g286 0 72 rfl
        have t291 := g286 0 73 rfl
        have t292 := g286 0 69 rfl
        have t293 := g286 0 5 rfl
        have t294 := g286 0 5 rfl
        have f295 := (gr_b_0_71 hI287)
        have f296 := (gr_b_0_72 hI287)
        have f297 := (gr_b_0_73 hI287)
        have f298 := (gr_b_0_69 hI287)
        have f299 := (gr_b_0_5 hI287)
        have f300 := (gr_b_0_5 hI287)
        have A301 := gr_ATp_F A225 g286 k286 rfl
        have t302 := gr_ATp_l A301
        refine gv_callV hD rfl (As := [.inl 5]) (st := []) rfl (by decide) rfl rfl (gr_lV hws rfl) (Nat.le_of_ble_eq_true rfl) (gz_Ev_mono (d := 2) (by decide) E286) ?_
        show gv_X _ _ (53, [(3, .inl z229), (1, .inr (.inl (J180 0 75))), (0, .inr (.inr (some 0)))], [.inl z286], gr_sh ++ ext, gr_h I287 J288)
        have b303 : (I287 0 71 = 5 ∨ I287 0 73 ≤ I287 0 69) ∧ (I287 0 72 ≤ I287 0 69) ∧ (I287 0 71 = 0 ∨ (I287 0 72 < I287 0 73 ∧ I287 0 72 < I287 0 69)) ∧ (I287 0 71 = 3 → 2 ≤ I287 0 73 - I287 0 72 ∧ I287 0 73 - I287 0 72 ≤ 14) ∧ (I287 0 72 ≤ I287 0 73) ∧ (I287 0 69 = I 0 69) ∧ (I 0 73 ≤ I287 0 73) ∧ (I 0 72 ≤ I287 0 72) := by exact gz_m 218 (by omega)
        exact gv_zret hD rfl (by exact gz_m 219 (by omega)) ⟨I287, J288, rfl, hI287, FI287, FJ288, ⟨_, rfl, by exact gz_m 220 (by omega), by exact gz_m 221 (by omega), b303.1, b303.2.1, b303.2.2.1, b303.2.2.2.1, b303.2.2.2.2.1, b303.2.2.2.2.2.1, b303.2.2.2.2.2.2.1, b303.2.2.2.2.2.2.2, (Or.inr ⟨by exact gz_m 222 (by omega), by first | (exfalso; exact gz_m 223 (by omega)) | (unfold gs_fact gs_fact2 gs_fact3; (repeat first | rw [if_pos (by exact gz_m 224 (by omega))] | rw [if_neg (by exact gz_m 225 (by omega))]); exact ⟨by exact gz_m 226 (by omega), by exact gz_m 227 (by omega), ⟨((((g286 0 5 rfl).trans (g210 0 5 rfl)).trans (g196 0 5 rfl)).trans (g178 0 5 rfl)), fun j => ⟨((((k286 5 j rfl).trans (k210 5 j rfl)).trans (k196 5 j rfl)).trans (k178 5 j rfl)), ((((g286 11 j rfl).trans (g210 11 j rfl)).trans (g196 11 j rfl)).trans (g178 11 j rfl)), ((((g286 12 j rfl).trans (g210 12 j rfl)).trans (g196 12 j rfl)).trans (g178 12 j rfl))⟩⟩⟩)⟩)⟩⟩
    · refine gv_run 1 true hD (pc' := 26) (lv' := [(1, .inr (.inl (J180 0 75))), (0, .inr (.inr (some 0)))]) (st' := [.inl 0]) (h' := gr_h I211 J212) (C := (True ∧ True)) rfl ⟨trivial, trivial⟩ ?_
      have b304 : (I211 0 71 = 5 ∨ I211 0 73 ≤ I211 0 69) ∧ (I211 0 72 ≤ I211 0 69) ∧ (I211 0 71 = 0 ∨ (I211 0 72 < I211 0 73 ∧ I211 0 72 < I211 0 69)) ∧ (I211 0 71 = 3 → 2 ≤ I211 0 73 - I211 0 72 ∧ I211 0 73 - I211 0 72 ≤ 14) ∧ (I211 0 72 ≤ I211 0 73) ∧ (I211 0 69 = I 0 69) ∧ (I 0 73 ≤ I211 0 73) ∧ (I 0 72 ≤ I211 0 72) := by exact gz_m 228 (by omega)
      exact gv_zret hD rfl (by exact gz_m 229 (by omega)) ⟨I211, J212, rfl, hI211, FI211, FJ212, ⟨_, rfl, by exact gz_m 230 (by omega), by exact gz_m 231 (by omega), b304.1, b304.2.1, b304.2.2.1, b304.2.2.2.1, b304.2.2.2.2.1, b304.2.2.2.2.2.1, b304.2.2.2.2.2.2.1, b304.2.2.2.2.2.2.2, (Or.inr ⟨by exact gz_m 232 (by omega), by first | (exfalso; exact gz_m 233 (by omega)) | (unfold gs_fact gs_fact2 gs_fact3; (repeat first | rw [if_pos (by exact gz_m 234 (by omega))] | rw [if_neg (by exact gz_m 235 (by omega))]); exact ⟨by exact gz_m 236 (by omega), by exact gz_m 237 (by omega), ⟨(((g210 0 5 rfl).trans (g196 0 5 rfl)).trans (g178 0 5 rfl)), fun j => ⟨(((k210 5 j rfl).trans (k196 5 j rfl)).trans (k178 5 j rfl)), (((g210 11 j rfl).trans (g196 11 j rfl)).trans (g178 11 j rfl)), (((g210 12 j rfl).trans (g196 12 j rfl)).trans (g178 12 j rfl))⟩⟩⟩)⟩)⟩⟩
  · refine gv_run 1 true hD (pc' := 8) (lv' := [(0, .inr (.inr (some 0)))]) (st' := [.inl 0]) (h' := gr_h I179 J180) (C := (True ∧ True)) rfl ⟨trivial, trivial⟩ ?_
    have b305 : (I179 0 71 = 5 ∨ I179 0 73 ≤ I179 0 69) ∧ (I179 0 72 ≤ I179 0 69) ∧ (I179 0 71 = 0 ∨ (I179 0 72 < I179 0 73 ∧ I179 0 72 < I179 0 69)) ∧ (I179 0 71 = 3 → 2 ≤ I179 0 73 - I179 0 72 ∧ I179 0 73 - I179 0 72 ≤ 14) ∧ (I179 0 72 ≤ I179 0 73) ∧ (I179 0 69 = I 0 69) ∧ (I 0 73 ≤ I179 0 73) ∧ (I 0 72 ≤ I179 0 72) := by exact gz_m 238 (by omega)
    exact gv_zret hD rfl (by exact gz_m 239 (by omega)) ⟨I179, J180, rfl, hI179, FI179, FJ180, ⟨_, rfl, by exact gz_m 240 (by omega), by exact gz_m 241 (by omega), b305.1, b305.2.1, b305.2.2.1, b305.2.2.2.1, b305.2.2.2.2.1, b305.2.2.2.2.2.1, b305.2.2.2.2.2.2.1, b305.2.2.2.2.2.2.2, (Or.inr ⟨by exact gz_m 242 (by omega), by first | (exfalso; exact gz_m 243 (by omega)) | (unfold gs_fact gs_fact2 gs_fact3; (repeat first | rw [if_pos (by exact gz_m 244 (by omega))] | rw [if_neg (by exact gz_m 245 (by omega))]); exact ⟨by exact gz_m 246 (by omega), by exact gz_m 247 (by omega), ⟨(g178 0 5 rfl), fun j => ⟨(k178 5 j rfl), (g178 11 j rfl), (g178 12 j rfl)⟩⟩⟩)⟩)⟩⟩
