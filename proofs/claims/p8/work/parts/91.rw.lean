set_option maxHeartbeats 8000000 in
set_option maxRecDepth 100000 in
theorem r_outNumber {ws0 : List Cond} {tb : String → gz_T} (hws : ∀ w ∈ gr_ws, w ∈ ws0) (htb : tb RX13 = gr_T) (ext : gz_Sh) : ∀ (nr : Nat) (I : gr_I) (J : gr_J) (hI : gr_Inv I) (a1 : Int) (ha1 : 0 ≤ a1 ∧ a1 ≤ 9999)  (_ : (if a1 ≤ 9 then (0 : Int) else if a1 ≤ 99 then 1 else if a1 ≤ 999 then 2 else 3).toNat < nr), ∃ r h', gz_Ev ws0 tb (1 + nr) (yX13_outNumber, cX13_outNumber, 2, none) [.inr (.inr (some 0)), .inl a1] (gr_sh ++ ext) (gr_h I J) r (gr_sh ++ ext) h' 0 0 ∧ (∃ (I' : gr_I) (J' : gr_J), h' = gr_h I' J' ∧ gr_Inv I' ∧ gr_fr [70] [58] I I' ∧ gr_fj [70] [58] J J' ∧ r = none) := by
  intro nr
  induction nr with
  | zero => intro I J hI a1 ha1 hnr; exact gz_m 0 (by omega)
  | succ nr ihR =>
  intro I J hI a1 ha1 hnr
  have FI : gr_fr [70] [58] I I := fun _ _ _ => rfl
  have FJ : gr_fj [70] [58] J J := fun _ _ _ => rfl
  have hD : gv_D (gr_E ws0 tb (1 + nr) (yX13_outNumber, cX13_outNumber, 2, none) kX13_outNumber) := gq_of oX13_outNumber
  refine gr_ev (d := (1 + nr)) (l := kX13_outNumber) (Po := fun r h' => (∃ (I' : gr_I) (J' : gr_J), h' = gr_h I' J' ∧ gr_Inv I' ∧ gr_fr [70] [58] I I' ∧ gr_fj [70] [58] J J' ∧ r = none)) htb rfl (Nat.le_of_ble_eq_true rfl) ?_
  have L14 : ∀ (I1 : gr_I) (J2 : gr_J) , gr_Inv I1 → gr_fr [70] [58] I I1 → gr_fj [70] [58] J J2 → ((0 ≤ a1 ∧ a1 ≤ 9999)) → gv_X (gr_E ws0 tb (1 + nr) (yX13_outNumber, cX13_outNumber, 2, none) kX13_outNumber) (gv_Q cX13_outNumber none (gr_sh ++ ext) (fun r h' => (∃ (I' : gr_I) (J' : gr_J), h' = gr_h I' J' ∧ gr_Inv I' ∧ gr_fr [70] [58] I I' ∧ gr_fj [70] [58] J J' ∧ r = none))) (14, [(0, .inr (.inr (some 0))), (1, .inl a1)], [], gr_sh ++ ext, gr_h I1 J2) := by
    intro I1 J2 hI1 FI1 FJ2 m_3
    have ha1_3 := m_3
    have f4 := gw_rem (x := a1) (y := 10) ⟨by exact gz_m 1 (by omega), by exact gz_m 2 (by omega)⟩ ⟨by exact gz_m 3 (by omega), by exact gz_m 4 (by omega)⟩
    refine gv_run 6 true hD (pc' := 22) (lv' := [(0, .inr (.inr (some 0))), (1, .inl a1)]) (st' := [.inl (48 + ((Int32.ofInt a1 - Int32.ofInt a1 / Int32.ofInt 10 * Int32.ofInt 10).toInt)), .inr (.inr (some 0))]) (h' := gr_h I1 J2) (C := ((((((True ∧ True) ∧ True) ∧ True) ∧ True) ∧ (gz_R 10 ∧ ¬ 10 = 0)) ∧ True)) rfl ⟨⟨⟨⟨⟨⟨trivial, trivial⟩, trivial⟩, trivial⟩, trivial⟩, ⟨⟨by exact gz_m 5 (by omega), by exact gz_m 6 (by omega)⟩, by exact gz_m 7 (by omega)⟩⟩, trivial⟩ ?_
    obtain ⟨r5, h5, E5, P5⟩ := r_outs (ws0 := ws0) (tb := tb) hws htb ext I1 J2 hI1 ((48 + ((Int32.ofInt a1 - Int32.ofInt a1 / Int32.ofInt 10 * Int32.ofInt 10).toInt))) ⟨by exact gz_m 8 (by omega), by exact gz_m 9 (by omega)⟩ 
    obtain ⟨I6, J7, rfl, hI6, g5, k5, rfl⟩ := P5
    have FI6 := gr_frt FI1 g5 rfl rfl
    have FJ7 := gr_fjt FJ2 k5 rfl rfl
    refine gv_callV hD rfl (As := [.inl (48 + ((Int32.ofInt a1 - Int32.ofInt a1 / Int32.ofInt 10 * Int32.ofInt 10).toInt))]) (st := []) rfl (by decide) rfl rfl (gr_lV hws rfl) (Nat.le_of_ble_eq_true rfl) (gz_Ev_mono (d := 1) (by exact gz_m 10 (by omega)) E5) ?_
    show gv_X _ _ (25, [(0, .inr (.inr (some 0))), (1, .inl a1)], [], gr_sh ++ ext, gr_h I6 J7)
    exact gv_vret hD rfl ⟨I6, J7, rfl, hI6, FI6, FJ7, rfl⟩
  refine gv_run 2 true hD (pc' := 3) (lv' := [(0, .inr (.inr (some 0))), (1, .inl a1)]) (st' := [.inl 9, .inl a1]) (h' := gr_h I J) (C := ((True ∧ True) ∧ True)) rfl ⟨⟨trivial, trivial⟩, trivial⟩ ?_
  refine gv_icmp_le (t := 14) hD rfl rfl ⟨⟨by exact gz_m 11 (by omega), by exact gz_m 12 (by omega)⟩, ⟨by exact gz_m 13 (by omega), by exact gz_m 14 (by omega)⟩⟩ (fun c8 => ?_) (fun c8 => ?_)
  · exact L14 I J hI FI FJ (by exact gz_m 15 (by omega))
  · have f9 := gw_div (x := a1) (y := 10) ⟨by exact gz_m 16 (by omega), by exact gz_m 17 (by omega)⟩ ⟨by exact gz_m 18 (by omega), by exact gz_m 19 (by omega)⟩
    refine gv_run 4 true hD (pc' := 11) (lv' := [(0, .inr (.inr (some 0))), (1, .inl a1)]) (st' := [.inl ((Int32.ofInt a1 / Int32.ofInt 10).toInt), .inr (.inr (some 0))]) (h' := gr_h I J) (C := ((((True ∧ True) ∧ True) ∧ True) ∧ (gz_R 10 ∧ ¬ 10 = 0))) rfl ⟨⟨⟨⟨trivial, trivial⟩, trivial⟩, trivial⟩, ⟨⟨by exact gz_m 20 (by omega), by exact gz_m 21 (by omega)⟩, by exact gz_m 22 (by omega)⟩⟩ ?_
    obtain ⟨r10, h10, E10, P10⟩ := ihR I J hI (((Int32.ofInt a1 / Int32.ofInt 10).toInt)) ⟨by exact gz_m 23 (by omega), by exact gz_m 24 (by omega)⟩  (by exact gz_m 25 (by omega))
    obtain ⟨I11, J12, rfl, hI11, g10, k10, rfl⟩ := P10
    have FI11 := gr_frt FI g10 rfl rfl
    have FJ12 := gr_fjt FJ k10 rfl rfl
    refine gv_callV hD rfl (As := [.inl ((Int32.ofInt a1 / Int32.ofInt 10).toInt)]) (st := []) rfl (by decide) rfl rfl (gr_lV hws rfl) (Nat.le_of_ble_eq_true rfl) (gz_Ev_mono (d := (1 + nr)) (Nat.le_refl _) E10) ?_
    show gv_X _ _ (14, [(0, .inr (.inr (some 0))), (1, .inl a1)], [], gr_sh ++ ext, gr_h I11 J12)
    exact L14 I11 J12 hI11 FI11 FJ12 (by exact gz_m 26 (by omega))
