def gr_PD (π : Nat → Int) (n : Int) (I : gr_I) : Prop := (0 ≤ n ∧ n ≤ 60) ∧ (∀ j : Nat, (j : Int) < n → 1 ≤ π j ∧ π (j + 1) = π j - 1 + I 6 (Int.toNat (I 113 j))) ∧ π (Int.toNat n) = 0
theorem gr_PD_fr {π : Nat → Int} {n : Int} {I Iₚ : gr_I} (h : gr_PD π n I) (h1 : ∀ k, Iₚ 6 k = I 6 k) (h2 : ∀ k, Iₚ 113 k = I 113 k) : gr_PD π n Iₚ := ⟨h.1, fun j hj => by
  rw [h1, h2]
  exact h.2.1 j hj, h.2.2⟩
theorem gr_PD_1 {π : Nat → Int} {n : Int} {I : gr_I} (h : gr_PD π n I) {k : Int} (h0 : 0 ≤ k) (hk : k < n) : π (Int.toNat (k + 1)) = π (Int.toNat k) - 1 + I 6 (Int.toNat (I 113 (Int.toNat k))) ∧ 1 ≤ π (Int.toNat k) := by
  have h9 := h.2.1 (Int.toNat k) (by omega)
  rw [show Int.toNat (k + 1) = Int.toNat k + 1 from by omega]
  exact ⟨h9.2, h9.1⟩
theorem gr_PD_n {π : Nat → Int} {n : Int} {I : gr_I} (h : gr_PD π n I) {k : Int} (hk : k ≤ n) (h1 : 1 ≤ π (Int.toNat k)) : k < n := by
  by_cases e : k = n
  · subst e
    have h9 := h.2.2
    omega
  · omega
set_option maxHeartbeats 8000000 in
set_option maxRecDepth 100000 in
theorem r_shown {ws0 : List Cond} {tb : String → gz_T} (hws : ∀ w ∈ gr_ws, w ∈ ws0) (htb : tb RX13 = gr_T) (ext : gz_Sh) (π : Nat → Int) (N9 : Int) : ∀ (nr : Nat) (I : gr_I) (J : gr_J) (hI : gr_Inv I) (a1 : Int) (ha1 : 0 ≤ a1 ∧ a1 ≤ 59) (x0 : gr_PD π N9 I) (x1 : a1 < N9) (_ : (60 - a1).toNat < nr), ∃ r hₚ, gz_Ev ws0 tb (2 + nr) (yX13_shown, cX13_shown, 5, (some .int)) [.inr (.inr (some 0)), .inl a1] (gr_sh ++ ext) (gr_h I J) r (gr_sh ++ ext) hₚ 0 0 ∧ (∃ (Iₚ : gr_I) (Jₚ : gr_J), hₚ = gr_h Iₚ Jₚ ∧ gr_Inv Iₚ ∧ gr_fr [70] [58] I Iₚ ∧ gr_fj [70] [58] J Jₚ ∧ (∃ z : Int, r = some (.inl z) ∧ 0 ≤ z ∧ z ≤ 60 ∧ (a1 < z) ∧ (z ≤ N9) ∧ (π (Int.toNat z) = π (Int.toNat a1) - 1))) := by
  intro nr
  induction nr with
  | zero => intro I J hI a1 ha1 x0 x1 hnr; (/-0-/first | omega | (simp only [gz_hd] at *; omega))
  | succ nr ihR =>
  intro I J hI a1 ha1 x0 x1 hnr
  have FI : gr_fr [70] [58] I I := fun _ _ _ => rfl
  have FJ : gr_fj [70] [58] J J := fun _ _ _ => rfl
  have hD : gv_D (gr_E ws0 tb (2 + nr) (yX13_shown, cX13_shown, 5, (some .int)) kX13_shown) := gq_of oX13_shown
  refine gr_ev (d := (2 + nr)) (l := kX13_shown) (Po := fun r hₚ => (∃ (Iₚ : gr_I) (Jₚ : gr_J), hₚ = gr_h Iₚ Jₚ ∧ gr_Inv Iₚ ∧ gr_fr [70] [58] I Iₚ ∧ gr_fj [70] [58] J Jₚ ∧ (∃ z : Int, r = some (.inl z) ∧ 0 ≤ z ∧ z ≤ 60 ∧ (a1 < z) ∧ (z ≤ N9) ∧ (π (Int.toNat z) = π (Int.toNat a1) - 1)))) htb rfl (Nat.le_of_ble_eq_true rfl) ?_
  have L24 : ∀ (n : Nat) (I1 : gr_I) (J2 : gr_J) (v2_3 : Int) (v3_3 : Int) (v4_3 : Int), (5 - v4_3).toNat < n → gr_Inv I1 → gr_fr [70] [58] I I1 → gr_fj [70] [58] J J2 → ((0 ≤ v2_3 ∧ v2_3 ≤ 95) ∧ (0 ≤ v3_3 ∧ v3_3 ≤ 60) ∧ (0 ≤ v4_3 ∧ v4_3 ≤ 4) ∧ (a1 < v3_3) ∧ (v3_3 ≤ N9) ∧ (π (Int.toNat v3_3) = π (Int.toNat a1) - 1 + I 6 (Int.toNat v2_3) - v4_3) ∧ (1 ≤ π (Int.toNat a1)) ∧ (v4_3 ≤ I 6 (Int.toNat v2_3))) → gv_X (gr_E ws0 tb (2 + nr) (yX13_shown, cX13_shown, 5, (some .int)) kX13_shown) (gv_Q cX13_shown (some .int) (gr_sh ++ ext) (fun r hₚ => (∃ (Iₚ : gr_I) (Jₚ : gr_J), hₚ = gr_h Iₚ Jₚ ∧ gr_Inv Iₚ ∧ gr_fr [70] [58] I Iₚ ∧ gr_fj [70] [58] J Jₚ ∧ (∃ z : Int, r = some (.inl z) ∧ 0 ≤ z ∧ z ≤ 60 ∧ (a1 < z) ∧ (z ≤ N9) ∧ (π (Int.toNat z) = π (Int.toNat a1) - 1))))) (24, [(0, .inr (.inr (some 0))), (2, .inl v2_3), (3, .inl v3_3), (4, .inl v4_3)], [], gr_sh ++ ext, gr_h I1 J2) := by
    intro n
    induction n with
    | zero => intro I1 J2 v2_3 v3_3 v4_3 hn; (/-1-/first | omega | (simp only [gz_hd] at *; omega))
    | succ n ih24 =>
      intro I1 J2 v2_3 v3_3 v4_3 hn hI1 FI1 FJ2 m_3
      obtain ⟨hv2_3, hv3_3, hv4_3, e0_3, e1_3, e2_3, e3_3, e4_3⟩ := gz_h8 m_3
      have t4 := gz_hi ((show I1 6 (Int.toNat v2_3) = I 6 (Int.toNat v2_3) from FI1 6 _ rfl))
      have L48 : ∀ (s1_5 : Int), ((0 ≤ v2_3 ∧ v2_3 ≤ 95) ∧ (0 ≤ v3_3 ∧ v3_3 ≤ 60) ∧ (0 ≤ v4_3 ∧ v4_3 ≤ 3) ∧ (40 ≤ s1_5 ∧ s1_5 ≤ 44) ∧ (a1 < v3_3) ∧ (v3_3 ≤ N9) ∧ (π (Int.toNat v3_3) = π (Int.toNat a1) - 1 + I 6 (Int.toNat v2_3) - v4_3) ∧ (1 ≤ π (Int.toNat a1)) ∧ (v4_3 ≤ I 6 (Int.toNat v2_3)) ∧ (v4_3 < I 6 (Int.toNat v2_3))) → gv_X (gr_E ws0 tb (2 + nr) (yX13_shown, cX13_shown, 5, (some .int)) kX13_shown) (gv_Q cX13_shown (some .int) (gr_sh ++ ext) (fun r hₚ => (∃ (Iₚ : gr_I) (Jₚ : gr_J), hₚ = gr_h Iₚ Jₚ ∧ gr_Inv Iₚ ∧ gr_fr [70] [58] I Iₚ ∧ gr_fj [70] [58] J Jₚ ∧ (∃ z : Int, r = some (.inl z) ∧ 0 ≤ z ∧ z ≤ 60 ∧ (a1 < z) ∧ (z ≤ N9) ∧ (π (Int.toNat z) = π (Int.toNat a1) - 1))))) (48, [(0, .inr (.inr (some 0))), (2, .inl v2_3), (3, .inl v3_3), (4, .inl v4_3)], [.inl s1_5, .inr (.inr (some 0))], gr_sh ++ ext, gr_h I1 J2) := by
        intro s1_5 m_5
        obtain ⟨hv2_3_5, hv3_3_5, hv4_3_5, hs1_5, e0_5, e1_5, e2_5, e3_5, e4_5, e5_5⟩ := gz_h10 m_5
        obtain ⟨r7, h7, E7, P7⟩ := r_outs (ws0 := ws0) (tb := tb) hws htb ext I1 J2 hI1 s1_5 ⟨by (/-2-/first | (have o1 := gz_sh hs1_5; omega) | (simp only [gz_hd] at *; omega)), by (/-3-/first | (have o1 := gz_sh hs1_5; omega) | (simp only [gz_hd] at *; omega))⟩ 
        obtain ⟨I8, J9, rfl, hI8, g7, k7, rfl⟩ := P7
        have FI8 := gr_frt FI1 g7 rfl rfl
        have FJ9 := gr_fjt FJ2 k7 rfl rfl
        refine gv_callV hD rfl (As := [.inl s1_5]) (st := []) rfl (by decide) rfl rfl (gr_lV hws rfl) (Nat.le_of_ble_eq_true rfl) (gz_Ev_mono (d := 1) (by (/-4-/first | omega | (simp only [gz_hd] at *; omega))) E7) ?_
        show gv_X _ _ (51, [(0, .inr (.inr (some 0))), (2, .inl v2_3), (3, .inl v3_3), (4, .inl v4_3)], [], gr_sh ++ ext, gr_h I8 J9)
        refine gv_run 2 true hD (pcₚ := 53) (lvₚ := [(0, .inr (.inr (some 0))), (2, .inl v2_3), (3, .inl v3_3), (4, .inl v4_3)]) (stₚ := [.inl v3_3, .inr (.inr (some 0))]) (hₚ := gr_h I8 J9) (C := ((True ∧ True) ∧ True)) rfl ⟨⟨trivial, trivial⟩, trivial⟩ ?_
        have t10 := gz_hi (gr_PD_n x0 (k := v3_3) (by (/-5-/first | (have o1 := gz_sh e1_5; omega) | (simp only [gz_hd] at *; omega))) (by (/-6-/first | (have o1 := gz_sh e2_3; have o2 := gz_sh e3_3; have o3 := gz_sh e5_5; omega) | (simp only [gz_hd] at *; omega))))
        have t11 := gz_hi (x0.1)
        obtain ⟨r12, h12, E12, P12⟩ := ihR I8 J9 hI8 v3_3 ⟨by (/-7-/first | (have o1 := gz_sh hv3_3; omega) | (simp only [gz_hd] at *; omega)), by (/-8-/first | (have o1 := gz_sh t10; have o2 := gz_sh t11; omega) | (simp only [gz_hd] at *; omega))⟩ (gr_PD_fr x0 (fun k => FI8 6 k rfl) (fun k => FI8 113 k rfl)) (by (/-9-/first | (have o1 := gz_sh t10; omega) | (simp only [gz_hd] at *; omega))) (by (/-10-/first | (have o1 := gz_sh e0_3; have o2 := gz_sh e2_3; have o3 := gz_sh hv3_3; have o4 := gz_sh hv4_3; have o5 := gz_sh hv4_3_5; have o6 := gz_sh t10; have o7 := gz_sh t11; have o8 := gz_sh t4; omega) | (simp only [gz_hd] at *; omega)))
        obtain ⟨I13, J14, rfl, hI13, g12, k12, ⟨z12, rfl, q12⟩⟩ := P12
        replace q12 := gz_hi q12
        have FI13 := gr_frt FI8 g12 rfl rfl
        have FJ14 := gr_fjt FJ9 k12 rfl rfl
        refine gv_callV hD rfl (As := [.inl v3_3]) (st := []) rfl (by decide) rfl rfl (gr_lV hws rfl) (Nat.le_of_ble_eq_true rfl) (gz_Ev_mono (d := (2 + nr)) (Nat.le_refl _) E12) ?_
        show gv_X _ _ (56, [(0, .inr (.inr (some 0))), (2, .inl v2_3), (3, .inl v3_3), (4, .inl v4_3)], [.inl z12], gr_sh ++ ext, gr_h I13 J14)
        refine gv_run 3 true hD (pcₚ := 24) (lvₚ := [(4, .inl (v4_3 + 1)), (3, .inl z12), (0, .inr (.inr (some 0))), (2, .inl v2_3)]) (stₚ := []) (hₚ := gr_h I13 J14) (C := (((True ∧ True) ∧ True) ∧ True)) rfl ⟨⟨⟨trivial, trivial⟩, trivial⟩, trivial⟩ ?_
        refine gv_pick [2, 3, 1, 0] rfl ?_
        exact ih24 I13 J14 v2_3 z12 (v4_3 + 1) (by (/-11-/first | (have o1 := gz_sh e2_3; have o2 := gz_sh hv4_3; have o3 := gz_sh hv4_3_5; have o4 := gz_sh q12; have o5 := gz_sh t4; omega) | (simp only [gz_hd] at *; omega))) hI13 FI13 FJ14 (by (/-12-/first | (and_intros; (have o1 := gz_sh hv2_3; omega); (have o1 := gz_sh hv2_3; omega); (have o1 := gz_sh q12; omega); (have o1 := gz_sh q12; omega); (have o1 := gz_sh hv4_3; omega); (have o1 := gz_sh hv4_3_5; omega); (have o1 := gz_sh e0_3; have o2 := gz_sh q12; omega); (have o1 := gz_sh q12; omega); (have o1 := gz_sh e2_3; have o2 := gz_sh q12; omega); (have o1 := gz_sh e3_3; omega); (have o1 := gz_sh e5_5; omega)) | (simp only [gz_hd] at *; omega)))
      have L78 : ∀ (I15 : gr_I) (J16 : gr_J) , gr_Inv I15 → gr_fr [70] [58] I I15 → gr_fj [70] [58] J J16 → ((0 ≤ v3_3 ∧ v3_3 ≤ 60) ∧ (a1 < v3_3) ∧ (v3_3 ≤ N9) ∧ (π (Int.toNat v3_3) = π (Int.toNat a1) - 1)) → gv_X (gr_E ws0 tb (2 + nr) (yX13_shown, cX13_shown, 5, (some .int)) kX13_shown) (gv_Q cX13_shown (some .int) (gr_sh ++ ext) (fun r hₚ => (∃ (Iₚ : gr_I) (Jₚ : gr_J), hₚ = gr_h Iₚ Jₚ ∧ gr_Inv Iₚ ∧ gr_fr [70] [58] I Iₚ ∧ gr_fj [70] [58] J Jₚ ∧ (∃ z : Int, r = some (.inl z) ∧ 0 ≤ z ∧ z ≤ 60 ∧ (a1 < z) ∧ (z ≤ N9) ∧ (π (Int.toNat z) = π (Int.toNat a1) - 1))))) (78, [(3, .inl v3_3)], [], gr_sh ++ ext, gr_h I15 J16) := by
        intro I15 J16 hI15 FI15 FJ16 m_17
        clear hv2_3 hv3_3 hv4_3 e0_3 e1_3 e2_3 e3_3 e4_3 t4
        obtain ⟨hv3_3_17, e0_17, e1_17, e2_17⟩ := gz_h4 m_17
        refine gv_run 1 true hD (pcₚ := 79) (lvₚ := [(3, .inl v3_3)]) (stₚ := [.inl v3_3]) (hₚ := gr_h I15 J16) (C := (True ∧ True)) rfl ⟨trivial, trivial⟩ ?_
        exact gv_iret hD rfl ⟨I15, J16, rfl, hI15, FI15, FJ16, ⟨_, rfl, by (/-13-/first | (and_intros; (have o1 := gz_sh hv3_3_17; omega); (have o1 := gz_sh hv3_3_17; omega); (have o1 := gz_sh e0_17; omega); (have o1 := gz_sh e1_17; omega); (have o1 := gz_sh e2_17; omega)) | (simp only [gz_hd] at *; omega))⟩⟩
      have f18 := gz_hi ((gr_b_6 hI1 (Int.toNat v2_3)))
      refine gv_run 5 true hD (pcₚ := 32) (lvₚ := [(0, .inr (.inr (some 0))), (2, .inl v2_3), (3, .inl v3_3), (4, .inl v4_3)]) (stₚ := [.inl (I1 6 (Int.toNat v2_3)), .inl v4_3]) (hₚ := gr_h I1 J2) (C := (((((True ∧ True) ∧ True) ∧ True) ∧ True) ∧ (0 ≤ v2_3 ∧ v2_3 < ((96 : Nat) : Int)))) rfl ⟨⟨⟨⟨⟨trivial, trivial⟩, trivial⟩, trivial⟩, trivial⟩, ⟨by (/-14-/first | (have o1 := gz_sh hv2_3; omega) | (simp only [gz_hd] at *; omega)), by (/-15-/first | (have o1 := gz_sh hv2_3; omega) | (simp only [gz_hd] at *; omega))⟩⟩ ?_
      refine gv_icmp_ge (t := 63) hD rfl rfl ⟨⟨by (/-16-/first | (have o1 := gz_sh hv4_3; omega) | (simp only [gz_hd] at *; omega)), by (/-17-/first | (have o1 := gz_sh hv4_3; omega) | (simp only [gz_hd] at *; omega))⟩, ⟨by (/-18-/first | (have o1 := gz_sh f18; omega) | (simp only [gz_hd] at *; omega)), by (/-19-/first | (have o1 := gz_sh f18; omega) | (simp only [gz_hd] at *; omega))⟩⟩ (fun c19 => ?_) (fun c19 => ?_)
      · have f20 := gz_hi ((gr_b_6 hI1 (Int.toNat v2_3)))
        refine gv_run 4 true hD (pcₚ := 69) (lvₚ := [(0, .inr (.inr (some 0))), (2, .inl v2_3), (3, .inl v3_3), (4, .inl v4_3)]) (stₚ := [.inl (I1 6 (Int.toNat v2_3))]) (hₚ := gr_h I1 J2) (C := ((((True ∧ True) ∧ True) ∧ True) ∧ (0 ≤ v2_3 ∧ v2_3 < ((96 : Nat) : Int)))) rfl ⟨⟨⟨⟨trivial, trivial⟩, trivial⟩, trivial⟩, ⟨by (/-20-/first | (have o1 := gz_sh hv2_3; omega) | (simp only [gz_hd] at *; omega)), by (/-21-/first | (have o1 := gz_sh hv2_3; omega) | (simp only [gz_hd] at *; omega))⟩⟩ ?_
        refine gv_if_le (t := 78) hD rfl rfl ⟨by (/-22-/first | (have o1 := gz_sh f18; omega) | (simp only [gz_hd] at *; omega)), by (/-23-/first | (have o1 := gz_sh f18; omega) | (simp only [gz_hd] at *; omega))⟩ (fun c21 => ?_) (fun c21 => ?_)
        · refine gv_pick [2] rfl ?_
          exact L78 I1 J2 hI1 FI1 FJ2 (by (/-24-/first | (and_intros; (have o1 := gz_sh hv3_3; omega); (have o1 := gz_sh hv3_3; omega); (have o1 := gz_sh e0_3; omega); (have o1 := gz_sh e1_3; omega); (have o1 := gz_sh e2_3; have o2 := gz_sh e4_3; have o3 := gz_sh hv4_3; have o4 := gz_sh t4; omega)) | (simp only [gz_hd] at *; omega)))
        · refine gv_run 2 true hD (pcₚ := 75) (lvₚ := [(0, .inr (.inr (some 0))), (2, .inl v2_3), (3, .inl v3_3), (4, .inl v4_3)]) (stₚ := [.inl 41, .inr (.inr (some 0))]) (hₚ := gr_h I1 J2) (C := ((True ∧ True) ∧ True)) rfl ⟨⟨trivial, trivial⟩, trivial⟩ ?_
          obtain ⟨r22, h22, E22, P22⟩ := r_outs (ws0 := ws0) (tb := tb) hws htb ext I1 J2 hI1 41 ⟨by (/-25-/first | omega | (simp only [gz_hd] at *; omega)), by (/-26-/first | omega | (simp only [gz_hd] at *; omega))⟩ 
          obtain ⟨I23, J24, rfl, hI23, g22, k22, rfl⟩ := P22
          have FI23 := gr_frt FI1 g22 rfl rfl
          have FJ24 := gr_fjt FJ2 k22 rfl rfl
          refine gv_callV hD rfl (As := [.inl 41]) (st := []) rfl (by decide) rfl rfl (gr_lV hws rfl) (Nat.le_of_ble_eq_true rfl) (gz_Ev_mono (d := 1) (by (/-27-/first | omega | (simp only [gz_hd] at *; omega))) E22) ?_
          show gv_X _ _ (78, [(0, .inr (.inr (some 0))), (2, .inl v2_3), (3, .inl v3_3), (4, .inl v4_3)], [], gr_sh ++ ext, gr_h I23 J24)
          refine gv_pick [2] rfl ?_
          exact L78 I23 J24 hI23 FI23 FJ24 (by (/-28-/first | (and_intros; (have o1 := gz_sh hv3_3; omega); (have o1 := gz_sh hv3_3; omega); (have o1 := gz_sh e0_3; omega); (have o1 := gz_sh e1_3; omega); (have o1 := gz_sh e2_3; have o2 := gz_sh e4_3; have o3 := gz_sh t4; omega)) | (simp only [gz_hd] at *; omega)))
      · refine gv_run 2 true hD (pcₚ := 38) (lvₚ := [(0, .inr (.inr (some 0))), (2, .inl v2_3), (3, .inl v3_3), (4, .inl v4_3)]) (stₚ := [.inl v4_3, .inr (.inr (some 0))]) (hₚ := gr_h I1 J2) (C := ((True ∧ True) ∧ True)) rfl ⟨⟨trivial, trivial⟩, trivial⟩ ?_
        refine gv_if_ne (t := 46) hD rfl rfl ⟨by (/-29-/first | (have o1 := gz_sh hv4_3; omega) | (simp only [gz_hd] at *; omega)), by (/-30-/first | (have o1 := gz_sh hv4_3; omega) | (simp only [gz_hd] at *; omega))⟩ (fun c25 => ?_) (fun c25 => ?_)
        · refine gv_run 1 true hD (pcₚ := 48) (lvₚ := [(0, .inr (.inr (some 0))), (2, .inl v2_3), (3, .inl v3_3), (4, .inl v4_3)]) (stₚ := [.inl 44, .inr (.inr (some 0))]) (hₚ := gr_h I1 J2) (C := (True ∧ True)) rfl ⟨trivial, trivial⟩ ?_
          exact L48 44 (by (/-31-/first | (and_intros; (have o1 := gz_sh hv2_3; omega); (have o1 := gz_sh hv2_3; omega); (have o1 := gz_sh hv3_3; omega); (have o1 := gz_sh hv3_3; omega); (have o1 := gz_sh hv4_3; omega); (have o1 := gz_sh f18; omega); (omega); (omega); (have o1 := gz_sh e0_3; omega); (have o1 := gz_sh e1_3; omega); (have o1 := gz_sh e2_3; omega); (have o1 := gz_sh e3_3; omega); (have o1 := gz_sh e4_3; omega); (have o1 := gz_sh t4; omega)) | (simp only [gz_hd] at *; omega)))
        · refine gv_run 2 true hD (pcₚ := 48) (lvₚ := [(0, .inr (.inr (some 0))), (2, .inl v2_3), (3, .inl v3_3), (4, .inl v4_3)]) (stₚ := [.inl 40, .inr (.inr (some 0))]) (hₚ := gr_h I1 J2) (C := ((True ∧ True) ∧ True)) rfl ⟨⟨trivial, trivial⟩, trivial⟩ ?_
          exact L48 40 (by (/-32-/first | (and_intros; (have o1 := gz_sh hv2_3; omega); (have o1 := gz_sh hv2_3; omega); (have o1 := gz_sh hv3_3; omega); (have o1 := gz_sh hv3_3; omega); (omega); (omega); (omega); (omega); (have o1 := gz_sh e0_3; omega); (have o1 := gz_sh e1_3; omega); (have o1 := gz_sh e2_3; omega); (have o1 := gz_sh e3_3; omega); (have o1 := gz_sh t4; omega); (have o1 := gz_sh t4; omega)) | (simp only [gz_hd] at *; omega)))
  have t26 := gz_hi (gr_PD_1 x0 (k := a1) (by (/-33-/first | omega | (simp only [gz_hd] at *; omega))) (by (/-34-/first | omega | (simp only [gz_hd] at *; omega))))
  have t28 := gz_hi ((gr_b_6 hI (Int.toNat (I 113 (Int.toNat a1)))))
  have f29 := gz_hi ((gr_b_113 hI (Int.toNat a1)))
  refine gv_run 4 true hD (pcₚ := 6) (lvₚ := [(0, .inr (.inr (some 0))), (1, .inl a1)]) (stₚ := [.inl (I 113 (Int.toNat a1))]) (hₚ := gr_h I J) (C := ((((True ∧ True) ∧ True) ∧ True) ∧ (0 ≤ a1 ∧ a1 < ((2000 : Nat) : Int)))) rfl ⟨⟨⟨⟨trivial, trivial⟩, trivial⟩, trivial⟩, ⟨by (/-35-/first | omega | (simp only [gz_hd] at *; omega)), by (/-36-/first | omega | (simp only [gz_hd] at *; omega))⟩⟩ ?_
  refine gv_run 7 true hD (pcₚ := 13) (lvₚ := [(3, .inl (a1 + 1)), (2, .inl (I 113 (Int.toNat a1))), (0, .inr (.inr (some 0))), (1, .inl a1)]) (stₚ := [.inr (.inr (some 0)), .inr (.inr (some 0))]) (hₚ := gr_h I J) (C := (((((((True ∧ True) ∧ True) ∧ True) ∧ True) ∧ True) ∧ True) ∧ True)) rfl ⟨⟨⟨⟨⟨⟨⟨trivial, trivial⟩, trivial⟩, trivial⟩, trivial⟩, trivial⟩, trivial⟩, trivial⟩ ?_
  refine gv_run 3 true hD (pcₚ := 18) (lvₚ := [(3, .inl (a1 + 1)), (2, .inl (I 113 (Int.toNat a1))), (0, .inr (.inr (some 0))), (1, .inl a1)]) (stₚ := [.inr (.inl (J 3 (Int.toNat ((I 113 (Int.toNat a1)))))), .inr (.inr (some 0))]) (hₚ := gr_h I J) (C := (((True ∧ True) ∧ True) ∧ (0 ≤ ((I 113 (Int.toNat a1))) ∧ ((I 113 (Int.toNat a1))) < ((96 : Nat) : Int)))) rfl ⟨⟨⟨trivial, trivial⟩, trivial⟩, ⟨by (/-37-/first | (have o1 := gz_sh f29; omega) | (simp only [gz_hd] at *; omega)), by (/-38-/first | (have o1 := gz_sh f29; omega) | (simp only [gz_hd] at *; omega))⟩⟩ ?_
  obtain ⟨r30, h30, E30, P30⟩ := r_outName (ws0 := ws0) (tb := tb) hws htb ext I J hI ((J 3 (Int.toNat ((I 113 (Int.toNat a1))))))  
  obtain ⟨I31, J32, rfl, hI31, g30, k30, rfl⟩ := P30
  have FI31 := gr_frt FI g30 rfl rfl
  have FJ32 := gr_fjt FJ k30 rfl rfl
  refine gv_callV hD rfl (As := [.inr (.inl (J 3 (Int.toNat ((I 113 (Int.toNat a1))))))]) (st := []) rfl (by decide) rfl rfl (gr_lV hws rfl) (Nat.le_of_ble_eq_true rfl) (gz_Ev_mono (d := 2) (by (/-39-/first | omega | (simp only [gz_hd] at *; omega))) E30) ?_
  show gv_X _ _ (21, [(3, .inl (a1 + 1)), (2, .inl (I 113 (Int.toNat a1))), (0, .inr (.inr (some 0))), (1, .inl a1)], [], gr_sh ++ ext, gr_h I31 J32)
  refine gv_run 2 true hD (pcₚ := 24) (lvₚ := [(4, .inl 0), (3, .inl (a1 + 1)), (2, .inl (I 113 (Int.toNat a1))), (0, .inr (.inr (some 0))), (1, .inl a1)]) (stₚ := []) (hₚ := gr_h I31 J32) (C := ((True ∧ True) ∧ True)) rfl ⟨⟨trivial, trivial⟩, trivial⟩ ?_
  refine gv_pick [3, 2, 1, 0] rfl ?_
  exact L24 _ I31 J32 ((I 113 (Int.toNat a1))) (a1 + 1) 0 (Nat.lt_succ_self _) hI31 FI31 FJ32 (by (/-40-/first | (and_intros; (have o1 := gz_sh f29; omega); (have o1 := gz_sh f29; omega); (omega); (omega); (omega); (omega); (omega); (omega); (have o1 := gz_sh t26; omega); (have o1 := gz_sh t26; omega); (have o1 := gz_sh t28; omega)) | (simp only [gz_hd] at *; omega)))
