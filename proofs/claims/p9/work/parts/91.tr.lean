/-! WHERE ARGUMENTS STAND. -/
def gr_AA (lo hi N : Int) (I : gr_I) : Prop := ∀ j : Nat, lo ≤ (j : Int) → (j : Int) < hi → ∀ a : Nat, (a : Int) < I 6 (Int.toNat (I 113 j)) → (j : Int) < I 122 (4 * j + a) ∧ I 122 (4 * j + a) < N
def gr_AO (k m N : Int) (I : gr_I) : Prop := ∀ a : Nat, (a : Int) < m → k < I 122 (4 * Int.toNat k + a) ∧ I 122 (4 * Int.toNat k + a) < N
def gr_AF (lo hi : Int) (I Iₚ : gr_I) : Prop := ∀ k : Nat, (k : Int) < 4 * lo ∨ 4 * hi ≤ (k : Int) → Iₚ 122 k = I 122 k
def gr_AL (I Iₚ : gr_I) (k at9 m N : Int) : Prop := gr_AA (k + 1) at9 N Iₚ ∧ gr_AO k m N Iₚ ∧ gr_AF k at9 I Iₚ
theorem gr_AL_0 {I : gr_I} {k N : Int} : gr_AL I I k (k + 1) 0 N := ⟨fun j h1 h2 => by omega, fun a ha => by omega, fun _ _ => rfl⟩
theorem gr_AL_nx {I I1 I2 I3 : gr_I} {k at9 m N r : Int} {i : Nat} (h : gr_AL I I1 k at9 m N) (hI : gr_Inv I1) (hk : 0 ≤ k ∧ k < at9) (hm : 0 ≤ m ∧ m < 4) (hr : at9 < r) (hn : at9 < N) (hi : (i : Int) = 4 * k + m) (p : ∀ b j, ¬ (b = 122 ∧ j = i) → I2 b j = I1 b j) (q : I2 122 i = at9) (aa : gr_AA at9 r N I3) (af : gr_AF at9 r I2 I3) (e1 : ∀ j, I3 6 j = I2 6 j) (e2 : ∀ j, I3 113 j = I2 113 j) : gr_AL I I3 k r (m + 1) N := by
  obtain ⟨a1, a2, a3⟩ := h
  have fa : ∀ j, I3 6 j = I1 6 j := fun j => (e1 j).trans (p _ _ (fun q => absurd q.1 (by first | exact gz_ne rfl | decide)))
  have tr : ∀ j, I3 113 j = I1 113 j := fun j => (e2 j).trans (p _ _ (fun q => absurd q.1 (by first | exact gz_ne rfl | decide)))
  refine ⟨fun j h1 h2 a ha => ?_, fun a ha => ?_, fun j hj => ?_⟩
  · by_cases c : (j : Int) < at9
    · rw [tr, fa] at ha
      have r9 := (show 0 ≤ I1 6 (Int.toNat (I1 113 j)) ∧ I1 6 (Int.toNat (I1 113 j)) ≤ 4 from (hI 6 _).1)
      rw [af _ (by omega), p _ _ (fun q => by have := q.2; omega)]
      exact a1 j h1 c a ha
    · exact aa j (by omega) h2 a ha
  · by_cases c : (a : Int) < m
    · rw [af _ (by omega), p _ _ (fun q => by have := q.2; omega)]
      exact a2 a c
    · rw [af _ (by omega), show 4 * Int.toNat k + a = i from by omega, q]
      omega
  · rw [af _ (by omega), p _ _ (fun q => by have := q.2; omega)]
    exact a3 j (by omega)
theorem gr_AL_e {I Iₚ : gr_I} {k at9 m N : Int} (h : gr_AL I Iₚ k at9 m N) (hk : 0 ≤ k) (hm : Iₚ 6 (Int.toNat (Iₚ 113 (Int.toNat k))) ≤ m) : gr_AA k at9 N Iₚ := fun j h1 h2 a ha => by
  by_cases c : (j : Int) = k
  · have e : j = Int.toNat k := by omega
    subst e
    have g := h.2.1 a (by omega)
    omega
  · exact h.1 j (by omega) h2 a ha
set_option maxHeartbeats 8000000 in
set_option maxRecDepth 100000 in
theorem r_argumentsOf_w {ws0 : List Cond} {tb : String → gz_T} (hws : ∀ w ∈ gr_ws, w ∈ ws0) (htb : tb RX13 = gr_T) (ext : gz_Sh) (π : Nat → Int) (N9 : Int) : ∀ (nr : Nat) (I : gr_I) (J : gr_J) (hI : gr_Inv I) (a1 : Int) (ha1 : 0 ≤ a1 ∧ a1 ≤ 59) (x0 : gr_PD π N9 I) (x1 : a1 < N9) (_ : (60 - a1).toNat < nr), ∃ r hₚ, gz_Ev ws0 tb (0 + nr) (yX13_argumentsOf, cX13_argumentsOf, 4, (some .int)) [.inr (.inr (some 0)), .inl a1] (gr_sh ++ ext) (gr_h I J) r (gr_sh ++ ext) hₚ 0 0 ∧ (∃ (Iₚ : gr_I) (Jₚ : gr_J), hₚ = gr_h Iₚ Jₚ ∧ gr_Inv Iₚ ∧ gr_fr [] [122] I Iₚ ∧ gr_fj [] [122] J Jₚ ∧ (∃ z : Int, r = some (.inl z) ∧ 0 ≤ z ∧ z ≤ 60 ∧ (a1 < z) ∧ (z ≤ N9) ∧ (π (Int.toNat z) = π (Int.toNat a1) - 1) ∧ (gr_AA a1 z N9 Iₚ) ∧ (gr_AF a1 z I Iₚ))) := by
  intro nr
  induction nr with
  | zero => intro I J hI a1 ha1 x0 x1 hnr; (/-0-/first | omega | (simp only [gz_hd] at *; omega))
  | succ nr ihR =>
  intro I J hI a1 ha1 x0 x1 hnr
  have FI : gr_fr [] [122] I I := fun _ _ _ => rfl
  have FJ : gr_fj [] [122] J J := fun _ _ _ => rfl
  have hD : gv_D (gr_E ws0 tb (0 + nr) (yX13_argumentsOf, cX13_argumentsOf, 4, (some .int)) kX13_argumentsOf) := gq_of oX13_argumentsOf
  refine gr_ev (d := (0 + nr)) (l := kX13_argumentsOf) (Po := fun r hₚ => (∃ (Iₚ : gr_I) (Jₚ : gr_J), hₚ = gr_h Iₚ Jₚ ∧ gr_Inv Iₚ ∧ gr_fr [] [122] I Iₚ ∧ gr_fj [] [122] J Jₚ ∧ (∃ z : Int, r = some (.inl z) ∧ 0 ≤ z ∧ z ≤ 60 ∧ (a1 < z) ∧ (z ≤ N9) ∧ (π (Int.toNat z) = π (Int.toNat a1) - 1) ∧ (gr_AA a1 z N9 Iₚ) ∧ (gr_AF a1 z I Iₚ)))) htb rfl (Nat.le_of_ble_eq_true rfl) ?_
  have L6 : ∀ (n : Nat) (I1 : gr_I) (J2 : gr_J) (v2_3 : Int) (v3_3 : Int), (5 - v3_3).toNat < n → gr_Inv I1 → gr_fr [] [122] I I1 → gr_fj [] [122] J J2 → ((0 ≤ a1 ∧ a1 ≤ 59) ∧ (0 ≤ v2_3 ∧ v2_3 ≤ 60) ∧ (0 ≤ v3_3 ∧ v3_3 ≤ 4) ∧ (a1 < v2_3) ∧ (v2_3 ≤ N9) ∧ (π (Int.toNat v2_3) = π (Int.toNat a1) - 1 + I 6 (Int.toNat (I 113 (Int.toNat a1))) - v3_3) ∧ (1 ≤ π (Int.toNat a1)) ∧ (v3_3 ≤ I 6 (Int.toNat (I 113 (Int.toNat a1))))) → (gr_AL I I1 a1 v2_3 v3_3 N9) → gv_X (gr_E ws0 tb (0 + nr) (yX13_argumentsOf, cX13_argumentsOf, 4, (some .int)) kX13_argumentsOf) (gv_Q cX13_argumentsOf (some .int) (gr_sh ++ ext) (fun r hₚ => (∃ (Iₚ : gr_I) (Jₚ : gr_J), hₚ = gr_h Iₚ Jₚ ∧ gr_Inv Iₚ ∧ gr_fr [] [122] I Iₚ ∧ gr_fj [] [122] J Jₚ ∧ (∃ z : Int, r = some (.inl z) ∧ 0 ≤ z ∧ z ≤ 60 ∧ (a1 < z) ∧ (z ≤ N9) ∧ (π (Int.toNat z) = π (Int.toNat a1) - 1) ∧ (gr_AA a1 z N9 Iₚ) ∧ (gr_AF a1 z I Iₚ))))) (6, [(0, .inr (.inr (some 0))), (1, .inl a1), (2, .inl v2_3), (3, .inl v3_3)], [], gr_sh ++ ext, gr_h I1 J2) := by
    intro n
    induction n with
    | zero => intro I1 J2 v2_3 v3_3 hn; (/-1-/first | omega | (simp only [gz_hd] at *; omega))
    | succ n ih6 =>
      intro I1 J2 v2_3 v3_3 hn hI1 FI1 FJ2 m_3 e5_3
      obtain ⟨ha1_3, hv2_3, hv3_3, e0_3, e1_3, e2_3, e3_3, e4_3⟩ := gz_h8 m_3
      have t4 := gz_hi ((show I1 6 (Int.toNat (I1 113 (Int.toNat a1))) = I 6 (Int.toNat (I 113 (Int.toNat a1))) from by rw [FI1 113 (Int.toNat a1) rfl]; exact FI1 6 _ rfl))
      have f5 := gz_hi ((gr_b_113 hI1 (Int.toNat a1)))
      refine gv_run 7 true hD (pcₚ := 17) (lvₚ := [(0, .inr (.inr (some 0))), (1, .inl a1), (2, .inl v2_3), (3, .inl v3_3)]) (stₚ := [.inl (I1 113 (Int.toNat a1)), .inr (.inr (some 6)), .inl v3_3]) (hₚ := gr_h I1 J2) (C := (((((((True ∧ True) ∧ True) ∧ True) ∧ True) ∧ True) ∧ True) ∧ (0 ≤ a1 ∧ a1 < ((2000 : Nat) : Int)))) rfl ⟨⟨⟨⟨⟨⟨⟨trivial, trivial⟩, trivial⟩, trivial⟩, trivial⟩, trivial⟩, trivial⟩, ⟨by (/-2-/first | omega | (simp only [gz_hd] at *; omega)), by (/-3-/first | omega | (simp only [gz_hd] at *; omega))⟩⟩ ?_
      have f6 := gz_hi ((gr_b_6 hI1 (Int.toNat ((I1 113 (Int.toNat a1))))))
      refine gv_run 1 true hD (pcₚ := 18) (lvₚ := [(0, .inr (.inr (some 0))), (1, .inl a1), (2, .inl v2_3), (3, .inl v3_3)]) (stₚ := [.inl (I1 6 (Int.toNat ((I1 113 (Int.toNat a1))))), .inl v3_3]) (hₚ := gr_h I1 J2) (C := (True ∧ (0 ≤ ((I1 113 (Int.toNat a1))) ∧ ((I1 113 (Int.toNat a1))) < ((96 : Nat) : Int)))) rfl ⟨trivial, ⟨by (/-4-/first | (have o1 := gz_sh f5; omega) | (simp only [gz_hd] at *; omega)), by (/-5-/first | (have o1 := gz_sh f5; omega) | (simp only [gz_hd] at *; omega))⟩⟩ ?_
      refine gv_icmp_ge (t := 44) hD rfl rfl ⟨⟨by (/-6-/first | (have o1 := gz_sh hv3_3; omega) | (simp only [gz_hd] at *; omega)), by (/-7-/first | (have o1 := gz_sh hv3_3; omega) | (simp only [gz_hd] at *; omega))⟩, ⟨by (/-8-/first | (have o1 := gz_sh f6; omega) | (simp only [gz_hd] at *; omega)), by (/-9-/first | (have o1 := gz_sh f6; omega) | (simp only [gz_hd] at *; omega))⟩⟩ (fun c7 => ?_) (fun c7 => ?_)
      · refine gv_run 1 true hD (pcₚ := 45) (lvₚ := [(0, .inr (.inr (some 0))), (1, .inl a1), (2, .inl v2_3), (3, .inl v3_3)]) (stₚ := [.inl v2_3]) (hₚ := gr_h I1 J2) (C := (True ∧ True)) rfl ⟨trivial, trivial⟩ ?_
        exact gv_iret hD rfl ⟨I1, J2, rfl, hI1, FI1, FJ2, ⟨_, rfl, by (/-10-/first | (have o1 := gz_sh hv2_3; omega) | (simp only [gz_hd] at *; omega)), by (/-11-/first | (have o1 := gz_sh hv2_3; omega) | (simp only [gz_hd] at *; omega)), by (/-12-/first | (have o1 := gz_sh e0_3; omega) | (simp only [gz_hd] at *; omega)), by (/-13-/first | (have o1 := gz_sh e1_3; omega) | (simp only [gz_hd] at *; omega)), by (/-14-/first | (have o1 := gz_sh e2_3; have o2 := gz_sh e4_3; have o3 := gz_sh t4; omega) | (simp only [gz_hd] at *; omega)), (gr_AL_e e5_3 (by (/-15-/first | omega | (simp only [gz_hd] at *; omega))) (by (/-16-/first | omega | (simp only [gz_hd] at *; omega)))), e5_3.2.2⟩⟩
      · refine gv_run 7 true hD (pcₚ := 30) (lvₚ := [(0, .inr (.inr (some 0))), (1, .inl a1), (2, .inl v2_3), (3, .inl v3_3)]) (stₚ := [.inl ((4 * a1) + v3_3), .inr (.inr (some 122))]) (hₚ := gr_h I1 J2) (C := (((((((True ∧ True) ∧ True) ∧ True) ∧ True) ∧ True) ∧ True) ∧ True)) rfl ⟨⟨⟨⟨⟨⟨⟨trivial, trivial⟩, trivial⟩, trivial⟩, trivial⟩, trivial⟩, trivial⟩, trivial⟩ ?_
        refine gv_run 2 true hD (pcₚ := 32) (lvₚ := [(0, .inr (.inr (some 0))), (1, .inl a1), (2, .inl v2_3), (3, .inl v3_3)]) (stₚ := []) (hₚ := gz_up (gr_h I1 J2) 122 (Int.toNat (((4 * a1) + v3_3))) (.inl v2_3)) (C := ((True ∧ True) ∧ (0 ≤ (((4 * a1) + v3_3)) ∧ (((4 * a1) + v3_3)) < ((240 : Nat) : Int)))) rfl ⟨⟨trivial, trivial⟩, ⟨by (/-17-/first | (have o1 := gz_sh hv3_3; omega) | (simp only [gz_hd] at *; omega)), by (/-18-/first | (have o1 := gz_sh e0_3; have o2 := gz_sh f6; have o3 := gz_sh hv2_3; omega) | (simp only [gz_hd] at *; omega))⟩⟩ ?_
        refine gr_st hI1 FI1 rfl rfl ⟨⟨by show 0 ≤ _; (/-19-/first | (have o1 := gz_sh hv2_3; omega) | (simp only [gz_hd] at *; omega)), by show _ ≤ 60; (/-20-/first | (have o1 := gz_sh hv2_3; omega) | (simp only [gz_hd] at *; omega))⟩, trivial⟩ (fun I8 hI8 FI8 q9 p9 => ?_)
        have t10 := gz_hi ((show I8 6 (Int.toNat (I8 113 (Int.toNat a1))) = I 6 (Int.toNat (I 113 (Int.toNat a1))) from by rw [FI8 113 (Int.toNat a1) rfl]; exact FI8 6 _ rfl))
        refine gv_run 2 true hD (pcₚ := 34) (lvₚ := [(0, .inr (.inr (some 0))), (1, .inl a1), (2, .inl v2_3), (3, .inl v3_3)]) (stₚ := [.inl v2_3, .inr (.inr (some 0))]) (hₚ := gr_h I8 J2) (C := ((True ∧ True) ∧ True)) rfl ⟨⟨trivial, trivial⟩, trivial⟩ ?_
        have t11 := gz_hi (gr_PD_n x0 (k := v2_3) (by (/-21-/first | (have o1 := gz_sh e1_3; omega) | (simp only [gz_hd] at *; omega))) (by (/-22-/first | (have o1 := gz_sh e2_3; have o2 := gz_sh e3_3; have o3 := gz_sh t4; omega) | (simp only [gz_hd] at *; omega))))
        have t12 := gz_hi (x0.1)
        obtain ⟨r13, h13, E13, P13⟩ := ihR I8 J2 hI8 v2_3 ⟨by (/-23-/first | (have o1 := gz_sh hv2_3; omega) | (simp only [gz_hd] at *; omega)), by (/-24-/first | (have o1 := gz_sh t11; have o2 := gz_sh t12; omega) | (simp only [gz_hd] at *; omega))⟩ (gr_PD_fr x0 (fun k => FI8 6 k rfl) (fun k => FI8 113 k rfl)) (by (/-25-/first | (have o1 := gz_sh t11; omega) | (simp only [gz_hd] at *; omega))) (by (/-26-/first | (have o1 := gz_sh e0_3; have o2 := gz_sh e2_3; have o3 := gz_sh hv2_3; have o4 := gz_sh hv3_3; have o5 := gz_sh t10; have o6 := gz_sh t11; have o7 := gz_sh t12; have o8 := gz_sh t4; omega) | (simp only [gz_hd] at *; omega)))
        obtain ⟨I14, J15, rfl, hI14, g13, k13, ⟨z13, rfl, q13⟩⟩ := P13
        replace q13 := gz_hi q13
        have FI14 := gr_frt FI8 g13 rfl rfl
        have FJ15 := gr_fjt FJ2 k13 rfl rfl
        refine gv_callV hD rfl (As := [.inl v2_3]) (st := []) rfl (by decide) rfl rfl (gr_lV hws rfl) (Nat.le_of_ble_eq_true rfl) (gz_Ev_mono (d := (0 + nr)) (Nat.le_refl _) E13) ?_
        show gv_X _ _ (37, [(0, .inr (.inr (some 0))), (1, .inl a1), (2, .inl v2_3), (3, .inl v3_3)], [.inl z13], gr_sh ++ ext, gr_h I14 J15)
        refine gv_run 3 true hD (pcₚ := 6) (lvₚ := [(3, .inl (v3_3 + 1)), (2, .inl z13), (0, .inr (.inr (some 0))), (1, .inl a1)]) (stₚ := []) (hₚ := gr_h I14 J15) (C := (((True ∧ True) ∧ True) ∧ True)) rfl ⟨⟨⟨trivial, trivial⟩, trivial⟩, trivial⟩ ?_
        refine gv_pick [2, 3, 1, 0] rfl ?_
        exact ih6 I14 J15 z13 (v3_3 + 1) (by (/-27-/first | (have o1 := gz_sh e2_3; have o2 := gz_sh f6; have o3 := gz_sh hv3_3; have o4 := gz_sh q13; have o5 := gz_sh t10; have o6 := gz_sh t4; omega) | (simp only [gz_hd] at *; omega))) hI14 FI14 FJ15 (by (/-28-/first | (and_intros; (omega); (omega); (have o1 := gz_sh q13; omega); (have o1 := gz_sh q13; omega); (have o1 := gz_sh hv3_3; omega); (have o1 := gz_sh f6; omega); (have o1 := gz_sh e0_3; have o2 := gz_sh q13; omega); (have o1 := gz_sh q13; omega); (have o1 := gz_sh e2_3; have o2 := gz_sh q13; omega); (have o1 := gz_sh e3_3; omega); (have o1 := gz_sh t4; omega)) | (simp only [gz_hd] at *; omega))) (gr_AL_nx e5_3 hI1 ⟨by (/-29-/first | omega | (simp only [gz_hd] at *; omega)), by (/-30-/first | (have o1 := gz_sh e0_3; omega) | (simp only [gz_hd] at *; omega))⟩ ⟨by (/-31-/first | (have o1 := gz_sh hv3_3; omega) | (simp only [gz_hd] at *; omega)), by (/-32-/first | (have o1 := gz_sh f6; omega) | (simp only [gz_hd] at *; omega))⟩ (by (/-33-/first | (have o1 := gz_sh q13; omega) | (simp only [gz_hd] at *; omega))) (by (/-34-/first | (have o1 := gz_sh t11; omega) | (simp only [gz_hd] at *; omega))) (by (/-35-/first | (have o1 := gz_sh hv3_3; omega) | (simp only [gz_hd] at *; omega))) p9 q9 (gz_sh q13).2.2.2.2.2.1 (gz_sh q13).2.2.2.2.2.2 (fun j => g13 6 j rfl) (fun j => g13 113 j rfl))
  have t16 := gz_hi (gr_PD_1 x0 (k := a1) (by (/-36-/first | omega | (simp only [gz_hd] at *; omega))) (by (/-37-/first | omega | (simp only [gz_hd] at *; omega))))
  have t18 := gz_hi ((gr_b_6 hI (Int.toNat (I 113 (Int.toNat a1)))))
  refine gv_run 6 true hD (pcₚ := 6) (lvₚ := [(3, .inl 0), (2, .inl (a1 + 1)), (0, .inr (.inr (some 0))), (1, .inl a1)]) (stₚ := []) (hₚ := gr_h I J) (C := ((((((True ∧ True) ∧ True) ∧ True) ∧ True) ∧ True) ∧ True)) rfl ⟨⟨⟨⟨⟨⟨trivial, trivial⟩, trivial⟩, trivial⟩, trivial⟩, trivial⟩, trivial⟩ ?_
  refine gv_pick [2, 3, 1, 0] rfl ?_
  exact L6 _ I J (a1 + 1) 0 (Nat.lt_succ_self _) hI FI FJ (by (/-38-/first | (and_intros; (omega); (omega); (omega); (omega); (omega); (omega); (omega); (omega); (have o1 := gz_sh t16; omega); (have o1 := gz_sh t16; omega); (have o1 := gz_sh t18; omega)) | (simp only [gz_hd] at *; omega))) gr_AL_0
