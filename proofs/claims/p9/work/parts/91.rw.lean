set_option maxHeartbeats 8000000 in
set_option maxRecDepth 100000 in
theorem r_outNumber {ws0 : List Cond} {tb : String → gz_T} (hws : ∀ w ∈ gr_ws, w ∈ ws0) (htb : tb RX13 = gr_T) (ext : gz_Sh) : ∀ (nr : Nat) (I : gr_I) (J : gr_J) (hI : gr_Inv I) (a1 : Int) (ha1 : 0 ≤ a1 ∧ a1 ≤ 9999)  (_ : (if a1 ≤ 9 then (0 : Int) else if a1 ≤ 99 then 1 else if a1 ≤ 999 then 2 else 3).toNat < nr), ∃ r hₚ, gz_Ev ws0 tb (1 + nr) (yX13_outNumber, cX13_outNumber, 2, none) [.inr (.inr (some 0)), .inl a1] (gr_sh ++ ext) (gr_h I J) r (gr_sh ++ ext) hₚ 0 0 ∧ (∃ (Iₚ : gr_I) (Jₚ : gr_J), hₚ = gr_h Iₚ Jₚ ∧ gr_Inv Iₚ ∧ gr_fr [70] [58] I Iₚ ∧ gr_fj [70] [58] J Jₚ ∧ r = none) := by
  intro nr
  induction nr with
  | zero => intro I J hI a1 ha1 hnr; (/-0-/first | omega | (simp only [gz_hd] at *; omega))
  | succ nr ihR =>
  intro I J hI a1 ha1 hnr
  have FI : gr_fr [70] [58] I I := fun _ _ _ => rfl
  have FJ : gr_fj [70] [58] J J := fun _ _ _ => rfl
  have hD : gv_D (gr_E ws0 tb (1 + nr) (yX13_outNumber, cX13_outNumber, 2, none) kX13_outNumber) := gq_of oX13_outNumber
  refine gr_ev (d := (1 + nr)) (l := kX13_outNumber) (Po := fun r hₚ => (∃ (Iₚ : gr_I) (Jₚ : gr_J), hₚ = gr_h Iₚ Jₚ ∧ gr_Inv Iₚ ∧ gr_fr [70] [58] I Iₚ ∧ gr_fj [70] [58] J Jₚ ∧ r = none)) htb rfl (Nat.le_of_ble_eq_true rfl) ?_
  have L14 : ∀ (I1 : gr_I) (J2 : gr_J) , gr_Inv I1 → gr_fr [70] [58] I I1 → gr_fj [70] [58] J J2 → ((0 ≤ a1 ∧ a1 ≤ 9999)) → gv_X (gr_E ws0 tb (1 + nr) (yX13_outNumber, cX13_outNumber, 2, none) kX13_outNumber) (gv_Q cX13_outNumber none (gr_sh ++ ext) (fun r hₚ => (∃ (Iₚ : gr_I) (Jₚ : gr_J), hₚ = gr_h Iₚ Jₚ ∧ gr_Inv Iₚ ∧ gr_fr [70] [58] I Iₚ ∧ gr_fj [70] [58] J Jₚ ∧ r = none))) (14, [(0, .inr (.inr (some 0))), (1, .inl a1)], [], gr_sh ++ ext, gr_h I1 J2) := by
    intro I1 J2 hI1 FI1 FJ2 m_3
    have ha1_3 := m_3
    have f4 := gz_hi (gw_rem (x := a1) (y := 10) ⟨by (/-1-/first | omega | (simp only [gz_hd] at *; omega)), by (/-2-/first | omega | (simp only [gz_hd] at *; omega))⟩ ⟨by (/-3-/first | omega | (simp only [gz_hd] at *; omega)), by (/-4-/first | omega | (simp only [gz_hd] at *; omega))⟩)
    refine gv_run 6 true hD (pcₚ := 22) (lvₚ := [(0, .inr (.inr (some 0))), (1, .inl a1)]) (stₚ := [.inl (48 + ((Int32.ofInt a1 - Int32.ofInt a1 / Int32.ofInt 10 * Int32.ofInt 10).toInt)), .inr (.inr (some 0))]) (hₚ := gr_h I1 J2) (C := ((((((True ∧ True) ∧ True) ∧ True) ∧ True) ∧ (gz_R 10 ∧ ¬ 10 = 0)) ∧ True)) rfl ⟨⟨⟨⟨⟨⟨trivial, trivial⟩, trivial⟩, trivial⟩, trivial⟩, ⟨⟨by (/-5-/first | omega | (simp only [gz_hd] at *; omega)), by (/-6-/first | omega | (simp only [gz_hd] at *; omega))⟩, by (/-7-/first | omega | (simp only [gz_hd] at *; omega))⟩⟩, trivial⟩ ?_
    obtain ⟨r5, h5, E5, P5⟩ := r_outs (ws0 := ws0) (tb := tb) hws htb ext I1 J2 hI1 ((48 + ((Int32.ofInt a1 - Int32.ofInt a1 / Int32.ofInt 10 * Int32.ofInt 10).toInt))) ⟨by (/-8-/first | (have o1 := gz_sh f4; omega) | (simp only [gz_hd] at *; omega)), by (/-9-/first | (have o1 := gz_sh f4; omega) | (simp only [gz_hd] at *; omega))⟩ 
    obtain ⟨I6, J7, rfl, hI6, g5, k5, rfl⟩ := P5
    have FI6 := gr_frt FI1 g5 rfl rfl
    have FJ7 := gr_fjt FJ2 k5 rfl rfl
    refine gv_callV hD rfl (As := [.inl (48 + ((Int32.ofInt a1 - Int32.ofInt a1 / Int32.ofInt 10 * Int32.ofInt 10).toInt))]) (st := []) rfl (by decide) rfl rfl (gr_lV hws rfl) (Nat.le_of_ble_eq_true rfl) (gz_Ev_mono (d := 1) (by (/-10-/first | omega | (simp only [gz_hd] at *; omega))) E5) ?_
    show gv_X _ _ (25, [(0, .inr (.inr (some 0))), (1, .inl a1)], [], gr_sh ++ ext, gr_h I6 J7)
    exact gv_vret hD rfl ⟨I6, J7, rfl, hI6, FI6, FJ7, rfl⟩
  refine gv_run 2 true hD (pcₚ := 3) (lvₚ := [(0, .inr (.inr (some 0))), (1, .inl a1)]) (stₚ := [.inl 9, .inl a1]) (hₚ := gr_h I J) (C := ((True ∧ True) ∧ True)) rfl ⟨⟨trivial, trivial⟩, trivial⟩ ?_
  refine gv_icmp_le (t := 14) hD rfl rfl ⟨⟨by (/-11-/first | omega | (simp only [gz_hd] at *; omega)), by (/-12-/first | omega | (simp only [gz_hd] at *; omega))⟩, ⟨by (/-13-/first | omega | (simp only [gz_hd] at *; omega)), by (/-14-/first | omega | (simp only [gz_hd] at *; omega))⟩⟩ (fun c8 => ?_) (fun c8 => ?_)
  · exact L14 I J hI FI FJ (by (/-15-/first | omega | (simp only [gz_hd] at *; omega)))
  · have f9 := gz_hi (gw_div (x := a1) (y := 10) ⟨by (/-16-/first | omega | (simp only [gz_hd] at *; omega)), by (/-17-/first | omega | (simp only [gz_hd] at *; omega))⟩ ⟨by (/-18-/first | omega | (simp only [gz_hd] at *; omega)), by (/-19-/first | omega | (simp only [gz_hd] at *; omega))⟩)
    refine gv_run 4 true hD (pcₚ := 11) (lvₚ := [(0, .inr (.inr (some 0))), (1, .inl a1)]) (stₚ := [.inl ((Int32.ofInt a1 / Int32.ofInt 10).toInt), .inr (.inr (some 0))]) (hₚ := gr_h I J) (C := ((((True ∧ True) ∧ True) ∧ True) ∧ (gz_R 10 ∧ ¬ 10 = 0))) rfl ⟨⟨⟨⟨trivial, trivial⟩, trivial⟩, trivial⟩, ⟨⟨by (/-20-/first | omega | (simp only [gz_hd] at *; omega)), by (/-21-/first | omega | (simp only [gz_hd] at *; omega))⟩, by (/-22-/first | omega | (simp only [gz_hd] at *; omega))⟩⟩ ?_
    obtain ⟨r10, h10, E10, P10⟩ := ihR I J hI (((Int32.ofInt a1 / Int32.ofInt 10).toInt)) ⟨by (/-23-/first | (have o1 := gz_sh f9; omega) | (simp only [gz_hd] at *; omega)), by (/-24-/first | (have o1 := gz_sh f9; omega) | (simp only [gz_hd] at *; omega))⟩  (by (/-25-/first | (have o1 := gz_sh f9; omega) | (simp only [gz_hd] at *; omega)))
    obtain ⟨I11, J12, rfl, hI11, g10, k10, rfl⟩ := P10
    have FI11 := gr_frt FI g10 rfl rfl
    have FJ12 := gr_fjt FJ k10 rfl rfl
    refine gv_callV hD rfl (As := [.inl ((Int32.ofInt a1 / Int32.ofInt 10).toInt)]) (st := []) rfl (by decide) rfl rfl (gr_lV hws rfl) (Nat.le_of_ble_eq_true rfl) (gz_Ev_mono (d := (1 + nr)) (Nat.le_refl _) E10) ?_
    show gv_X _ _ (14, [(0, .inr (.inr (some 0))), (1, .inl a1)], [], gr_sh ++ ext, gr_h I11 J12)
    exact L14 I11 J12 hI11 FI11 FJ12 (by (/-26-/first | omega | (simp only [gz_hd] at *; omega)))
