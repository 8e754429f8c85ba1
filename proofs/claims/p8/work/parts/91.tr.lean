/-! WHERE ARGUMENTS STAND. -/
def gr_AA (lo hi N : Int) (I : gr_I) : Prop := ∀ j : Nat, lo ≤ (j : Int) → (j : Int) < hi → ∀ a : Nat, (a : Int) < I 6 (Int.toNat (I 113 j)) → (j : Int) < I 122 (4 * j + a) ∧ I 122 (4 * j + a) < N
def gr_AO (k m N : Int) (I : gr_I) : Prop := ∀ a : Nat, (a : Int) < m → k < I 122 (4 * Int.toNat k + a) ∧ I 122 (4 * Int.toNat k + a) < N
def gr_AF (lo hi : Int) (I I' : gr_I) : Prop := ∀ k : Nat, (k : Int) < 4 * lo ∨ 4 * hi ≤ (k : Int) → I' 122 k = I 122 k
def gr_AL (I I' : gr_I) (k at9 m N : Int) : Prop := gr_AA (k + 1) at9 N I' ∧ gr_AO k m N I' ∧ gr_AF k at9 I I'
theorem gr_AL_0 {I : gr_I} {k N : Int} : gr_AL I I k (k + 1) 0 N := ⟨fun j h1 h2 => by omega, fun a ha => by omega, fun _ _ => rfl⟩
set_option maxHeartbeats 8000000 in
theorem gr_AL_nx {I I1 I2 I3 : gr_I} {k at9 m N r : Int} {i : Nat} (h : gr_AL I I1 k at9 m N) (hI : gr_Inv I1) (hk : 0 ≤ k ∧ k < at9) (hm : 0 ≤ m ∧ m < 4) (hr : at9 < r) (hn : at9 < N) (hi : (i : Int) = 4 * k + m) (p : ∀ b j, ¬ (b = 122 ∧ j = i) → I2 b j = I1 b j) (q : I2 122 i = at9) (aa : gr_AA at9 r N I3) (af : gr_AF at9 r I2 I3) (e1 : ∀ j, I3 6 j = I2 6 j) (e2 : ∀ j, I3 113 j = I2 113 j) : gr_AL I I3 k r (m + 1) N := by
  obtain ⟨a1, a2, a3⟩ := h
  have fa : ∀ j, I3 6 j = I1 6 j := fun j => (e1 j).trans (p _ _ (fun q => absurd q.1 (by decide)))
  have tr : ∀ j, I3 113 j = I1 113 j := fun j => (e2 j).trans (p _ _ (fun q => absurd q.1 (by decide)))
  refine ⟨fun j h1 h2 a ha => ?_, fun a ha => ?_, fun j hj => ?_⟩
  · by_cases c : (j : Int) < at9
    · rw [tr, fa] at ha
      have r9 := (show 0 ≤ I1 6 (Int.toNat (I1 113 j)) ∧ I1 6 (Int.toNat (I1 113 j)) ≤ 4 from (hI 6 _).1)
      rw [af _ (by exact gz_m 0 (by omega)), p _ _ (fun q => by have := q.2; exact gz_m 1 (by omega))]
      exact a1 j h1 c a ha
    · exact aa j (by exact gz_m 2 (by omega)) h2 a ha
  · by_cases c : (a : Int) < m
    · rw [af _ (by exact gz_m 3 (by omega)), p _ _ (fun q => by have := q.2; exact gz_m 4 (by omega))]
      exact a2 a c
    · rw [af _ (by exact gz_m 5 (by omega)), show 4 * Int.toNat k + a = i from by exact gz_m 6 (by omega), q]
      exact gz_m 7 (by omega)
  · rw [af _ (by exact gz_m 8 (by omega)), p _ _ (fun q => by have := q.2; exact gz_m 9 (by omega))]
    exact a3 j (by exact gz_m 10 (by omega))
theorem gr_AL_e {I I' : gr_I} {k at9 m N : Int} (h : gr_AL I I' k at9 m N) (hk : 0 ≤ k) (hm : I' 6 (Int.toNat (I' 113 (Int.toNat k))) ≤ m) : gr_AA k at9 N I' := fun j h1 h2 a ha => by
  by_cases c : (j : Int) = k
  · have e : j = Int.toNat k := by exact gz_m 0 (by omega)
    subst e
    have g := h.2.1 a (by exact gz_m 1 (by omega))
    exact gz_m 2 (by omega)
  · exact h.1 j (by exact gz_m 3 (by omega)) h2 a ha
set_option maxHeartbeats 8000000 in
set_option maxRecDepth 100000 in
theorem r_argumentsOf_w {ws0 : List Cond} {tb : String → gz_T} (hws : ∀ w ∈ gr_ws, w ∈ ws0) (htb : tb RX13 = gr_T) (ext : gz_Sh) (π : Nat → Int) (N9 : Int) : ∀ (nr : Nat) (I : gr_I) (J : gr_J) (hI : gr_Inv I) (a1 : Int) (ha1 : 0 ≤ a1 ∧ a1 ≤ 59) (x0 : gr_PD π N9 I) (x1 : a1 < N9) (_ : (60 - a1).toNat < nr), ∃ r h', gz_Ev ws0 tb (0 + nr) (yX13_argumentsOf, cX13_argumentsOf, 4, (some .int)) [.inr (.inr (some 0)), .inl a1] (gr_sh ++ ext) (gr_h I J) r (gr_sh ++ ext) h' 0 0 ∧ (∃ (I' : gr_I) (J' : gr_J), h' = gr_h I' J' ∧ gr_Inv I' ∧ gr_fr [] [122] I I' ∧ gr_fj [] [122] J J' ∧ (∃ z : Int, r = some (.inl z) ∧ 0 ≤ z ∧ z ≤ 60 ∧ (a1 < z) ∧ (z ≤ N9) ∧ (π (Int.toNat z) = π (Int.toNat a1) - 1) ∧ (gr_AA a1 z N9 I') ∧ (gr_AF a1 z I I'))) := by
  intro nr
  induction nr with
  | zero => intro I J hI a1 ha1 x0 x1 hnr; exact gz_m 0 (by omega)
  | succ nr ihR =>
  intro I J hI a1 ha1 x0 x1 hnr
  have FI : gr_fr [] [122] I I := fun _ _ _ => rfl
  have FJ : gr_fj [] [122] J J := fun _ _ _ => rfl
  have hD : gv_D (gr_E ws0 tb (0 + nr) (yX13_argumentsOf, cX13_argumentsOf, 4, (some .int)) kX13_argumentsOf) := gq_of oX13_argumentsOf
  refine gr_ev (d := (0 + nr)) (l := kX13_argumentsOf) (Po := fun r h' => (∃ (I' : gr_I) (J' : gr_J), h' = gr_h I' J' ∧ gr_Inv I' ∧ gr_fr [] [122] I I' ∧ gr_fj [] [122] J J' ∧ (∃ z : Int, r = some (.inl z) ∧ 0 ≤ z ∧ z ≤ 60 ∧ (a1 < z) ∧ (z ≤ N9) ∧ (π (Int.toNat z) = π (Int.toNat a1) - 1) ∧ (gr_AA a1 z N9 I') ∧ (gr_AF a1 z I I')))) htb rfl (Nat.le_of_ble_eq_true rfl) ?_
  have L6 : ∀ (n : Nat) (I1 : gr_I) (J2 : gr_J) (v2_3 : Int) (v3_3 : Int), (5 - v3_3).toNat < n → gr_Inv I1 → gr_fr [] [122] I I1 → gr_fj [] [122] J J2 → ((0 ≤ a1 ∧ a1 ≤ 59) ∧ (0 ≤ v2_3 ∧ v2_3 ≤ 60) ∧ (0 ≤ v3_3 ∧ v3_3 ≤ 4) ∧ (a1 < v2_3) ∧ (v2_3 ≤ N9) ∧ (π (Int.toNat v2_3) = π (Int.toNat a1) - 1 + I 6 (Int.toNat (I 113 (Int.toNat a1))) - v3_3) ∧ (1 ≤ π (Int.toNat a1)) ∧ (v3_3 ≤ I 6 (Int.toNat (I 113 (Int.toNat a1))))) → (gr_AL I I1 a1 v2_3 v3_3 N9) → gv_X (gr_E ws0 tb (0 + nr) (yX13_argumentsOf, cX13_argumentsOf, 4, (some .int)) kX13_argumentsOf) (gv_Q cX13_argumentsOf (some .int) (gr_sh ++ ext) (fun r h' => (∃ (I' : gr_I) (J' : gr_J), h' = gr_h I' J' ∧ gr_Inv I' ∧ gr_fr [] [122] I I' ∧ gr_fj [] [122] J J' ∧ (∃ z : Int, r = some (.inl z) ∧ 0 ≤ z ∧ z ≤ 60 ∧ (a1 < z) ∧ (z ≤ N9) ∧ (π (Int.toNat z) = π (Int.toNat a1) - 1) ∧ (gr_AA a1 z N9 I') ∧ (gr_AF a1 z I I'))))) (6, [(0, .inr (.inr (some 0))), (1, .inl a1), (2, .inl v2_3), (3, .inl v3_3)], [], gr_sh ++ ext, gr_h I1 J2) := by
    intro n
    induction n with
    | zero => intro I1 J2 v2_3 v3_3 hn; exact gz_m 1 (by omega)
    | succ n ih6 =>
      intro I1 J2 v2_3 v3_3 hn hI1 FI1 FJ2 m_3 e5_3
      obtain ⟨ha1_3, hv2_3, hv3_3, e0_3, e1_3, e2_3, e3_3, e4_3⟩ := m_3
      have t4 := (show I1 6 (Int.toNat (I1 113 (Int.toNat a1))) = I 6 (Int.toNat (I 113 (Int.toNat a1))) from by rw [FI1 113 (Int.toNat a1) rfl]; exact FI1 6 _ rfl)
      have f5 := (gr_b_113 hI1 (Int.toNat a1))
      refine gv_run 7 true hD (pc' := 17) (lv' := [(0, .inr (.inr (some 0))), (1, .inl a1), (2, .inl v2_3), (3, .inl v3_3)]) (st' := [.inl (I1 113 (Int.toNat a1)), .inr (.inr (some 6)), .inl v3_3]) (h' := gr_h I1 J2) (C := (((((((True ∧ True) ∧ True) ∧ True) ∧ True) ∧ True) ∧ True) ∧ (0 ≤ a1 ∧ a1 < ((2000 : Nat) : Int)))) rfl ⟨⟨⟨⟨⟨⟨⟨trivial, trivial⟩, trivial⟩, trivial⟩, trivial⟩, trivial⟩, trivial⟩, ⟨by exact gz_m 2 (by omega), by exact gz_m 3 (by omega)⟩⟩ ?_
      have f6 := (gr_b_6 hI1 (Int.toNat ((I1 113 (Int.toNat a1)))))
      refine gv_run 1 true hD (pc' := 18) (lv' := [(0, .inr (.inr (some 0))), (1, .inl a1), (2, .inl v2_3), (3, .inl v3_3)]) (st' := [.inl (I1 6 (Int.toNat ((I1 113 (Int.toNat a1))))), .inl v3_3]) (h' := gr_h I1 J2) (C := (True ∧ (0 ≤ ((I1 113 (Int.toNat a1))) ∧ ((I1 113 (Int.toNat a1))) < ((96 : Nat) : Int)))) rfl ⟨trivial, ⟨by exact gz_m 4 (by omega), by exact gz_m 5 (by omega)⟩⟩ ?_
      refine gv_icmp_ge (t := 44) hD rfl rfl ⟨⟨by exact gz_m 6 (by omega), by exact gz_m 7 (by omega)⟩, ⟨by exact gz_m 8 (by omega), by exact gz_m 9 (by omega)⟩⟩ (fun c7 => ?_) (fun c7 => ?_)
      · refine gv_run 1 true hD (pc' := 45) (lv' := [(0, .inr (.inr (some 0))), (1, .inl a1), (2, .inl v2_3), (3, .inl v3_3)]) (st' := [.inl v2_3]) (h' := gr_h I1 J2) (C := (True ∧ True)) rfl ⟨trivial, trivial⟩ ?_
        exact gv_iret hD rfl ⟨I1, J2, rfl, hI1, FI1, FJ2, ⟨_, rfl, by exact gz_m 10 (by omega), by exact gz_m 11 (by omega), by exact gz_m 12 (by omega), by exact gz_m 13 (by omega), by exact gz_m 14 (by omega), (gr_AL_e e5_3 (by exact gz_m 15 (by omega)) (by exact gz_m 16 (by omega))), e5_3.2.2⟩⟩
      · refine gv_run 7 true hD (pc' := 30) (lv' := [(0, .inr (.inr (some 0))), (1, .inl a1), (2, .inl v2_3), (3, .inl v3_3)]) (st' := [.inl ((4 * a1) + v3_3), .inr (.inr (some 122))]) (h' := gr_h I1 J2) (C := (((((((True ∧ True) ∧ True) ∧ True) ∧ True) ∧ True) ∧ True) ∧ True)) rfl ⟨⟨⟨⟨⟨⟨⟨trivial, trivial⟩, trivial⟩, trivial⟩, trivial⟩, trivial⟩, trivial⟩, trivial⟩ ?_
        refine gv_run 2 true hD (pc' := 32) (lv' := [(0, .inr (.inr (some 0))), (1, .inl a1), (2, .inl v2_3), (3, .inl v3_3)]) (st' := []) (h' := gz_up (gr_h I1 J2) 122 (Int.toNat (((4 * a1) + v3_3))) (.inl v2_3)) (C := ((True ∧ True) ∧ (0 ≤ (((4 * a1) + v3_3)) ∧ (((4 * a1) + v3_3)) < ((240 : Nat) : Int)))) rfl ⟨⟨trivial, trivial⟩, ⟨by exact gz_m 17 (by omega), by exact gz_m 18 (by omega)⟩⟩ ?_
        refine gr_st hI1 FI1 rfl rfl ⟨⟨by show 0 ≤ _; exact gz_m 19 (by omega), by show _ ≤ 60; exact gz_m 20 (by omega)⟩, trivial⟩ (fun I8 hI8 FI8 q9 p9 => ?_)
        have t10 := (show I8 6 (Int.toNat (I8 113 (Int.toNat a1))) = I 6 (Int.toNat (I 113 (Int.toNat a1))) from by rw [FI8 113 (Int.toNat a1) rfl]; exact FI8 6 _ rfl)
        refine gv_run 2 true hD (pc' := 34) (lv' := [(0, .inr (.inr (some 0))), (1, .inl a1), (2, .inl v2_3), (3, .inl v3_3)]) (st' := [.inl v2_3, .inr (.inr (some 0))]) (h' := gr_h I8 J2) (C := ((True ∧ True) ∧ True)) rfl ⟨⟨trivial, trivial⟩, trivial⟩ ?_
        have t11 := gr_PD_n x0 (k := v2_3) (by exact gz_m 21 (by omega)) (by exact gz_m 22 (by omega))
        have t12 := x0.1
        obtain ⟨r13, h13, E13, P13⟩ := ihR I8 J2 hI8 v2_3 ⟨by exact gz_m 23 (by omega), by exact gz_m 24 (by omega)⟩ (gr_PD_fr x0 (fun k => FI8 6 k rfl) (fun k => FI8 113 k rfl)) (by exact gz_m 25 (by omega)) (by exact gz_m 26 (by omega))
        obtain ⟨I14, J15, rfl, hI14, g13, k13, ⟨z13, rfl, q13⟩⟩ := P13
        have FI14 := gr_frt FI8 g13 rfl rfl
        have FJ15 := gr_fjt FJ2 k13 rfl rfl
        refine gv_callV hD rfl (As := [.inl v2_3]) (st := []) rfl (by decide) rfl rfl (gr_lV hws rfl) (Nat.le_of_ble_eq_true rfl) (gz_Ev_mono (d := (0 + nr)) (Nat.le_refl _) E13) ?_
        show gv_X _ _ (37, [(0, .inr (.inr (some 0))), (1, .inl a1), (2, .inl v2_3), (3, .inl v3_3)], [.inl z13], gr_sh ++ ext, gr_h I14 J15)
        refine gv_run 3 true hD (pc' := 6) (lv' := [(3, .inl (v3_3 + 1)), (2, .inl z13), (0, .inr (.inr (some 0))), (1, .inl a1)]) (st' := []) (h' := gr_h I14 J15) (C := (((True ∧ True) ∧ True) ∧ True)) rfl ⟨⟨⟨trivial, trivial⟩, trivial⟩, trivial⟩ ?_
        refine gv_pick [2, 3, 1, 0] rfl ?_
        exact ih6 I14 J15 z13 (v3_3 + 1) (by exact gz_m 27 (by omega)) hI14 FI14 FJ15 (by exact gz_m 28 (by omega)) (gr_AL_nx e5_3 hI1 ⟨by exact gz_m 29 (by omega), by exact gz_m 30 (by omega)⟩ ⟨by exact gz_m 31 (by omega), by exact gz_m 32 (by omega)⟩ (by exact gz_m 33 (by omega)) (by exact gz_m 34 (by omega)) (by exact gz_m 35 (by omega)) p9 q9 q13.2.2.2.2.2.1 q13.2.2.2.2.2.2 (fun j => g13 6 j rfl) (fun j => g13 113 j rfl))
  have t16 := gr_PD_1 x0 (k := a1) (by exact gz_m 36 (by omega)) (by exact gz_m 37 (by omega))
  have t17 := x0.1
  have t18 := (gr_b_6 hI (Int.toNat (I 113 (Int.toNat a1))))
  refine gv_run 6 true hD (pc' := 6) (lv' := [(3, .inl 0), (2, .inl (a1 + 1)), (0, .inr (.inr (some 0))), (1, .inl a1)]) (st' := []) (h' := gr_h I J) (C := ((((((True ∧ True) ∧ True) ∧ True) ∧ True) ∧ True) ∧ True)) rfl ⟨⟨⟨⟨⟨⟨trivial, trivial⟩, trivial⟩, trivial⟩, trivial⟩, trivial⟩, trivial⟩ ?_
  refine gv_pick [2, 3, 1, 0] rfl ?_
  exact L6 _ I J (a1 + 1) 0 (Nat.lt_succ_self _) hI FI FJ (by exact gz_m 38 (by omega)) gr_AL_0
