theorem gh_SE_trans {sh : gz_Sh} {ro : Nat → Nat} {A : gc_A} {I Iₚ I2 : gr_I} {J Jₚ J2 : gr_J} (h : gh_SE sh ro A I Iₚ J Jₚ) (g : gh_SE sh ro A Iₚ I2 Jₚ J2) : gh_SE sh ro A I I2 J J2 := ⟨fun q j a b => (g.1 q j a b).trans (h.1 q j a b), fun i t d j a b c => (g.2.1 i t d j a b c).trans (h.2.1 i t d j a b c), fun q a b d k c => (g.2.2.1 q a b d k c).trans (h.2.2.1 q a b d k c), fun q j a => (g.2.2.2 q j a).trans (h.2.2.2 q j a)⟩
theorem gh_tng {sh : gz_Sh} {ro : Nat → Nat} {A : gc_A} {I : gr_I} {J : gr_J} {i t : Nat} (hs : gh_HS sh ro I J A) (hi : (i : Int) < I 8 1) (ht : A 10 i = some t) : gc_Ls sh ro A t I ∧ gh_TL A I t ∧ gh_TW I t ∧ gc_sc (t + 10) I ∧ (∀ k, 0 ≤ I 12 k ∧ I 12 k ≤ 4) := by
  obtain ⟨u, w1, w2, _, w4, w5⟩ := hs.2.2.2.2.1 i hi
  cases w1.symm.trans ht
  have i8 : 0 ≤ I 8 1 ∧ I 8 1 ≤ 8 := gc_in hs.2.1 (gc_bR hs.1 (by decide) rfl) rfl rfl
  exact ⟨w2, w4, w5, (hs.2.2.2.1.1 i t (by omega) ht).2.2, fun k => gc_in hs.2.1 (gc_bR hs.1 (p := 12) (by decide) rfl) rfl rfl⟩
/-- one more reading ranked -/
theorem gh_RK1_l {sh : gz_Sh} {ro : Nat → Nat} {A : gc_A} {I Iₚ : gr_I} {J Jₚ : gr_J} {i t : Nat} (hs : gh_HS sh ro I J A) (hi : (i : Int) < I 8 1) (ht : A 10 i = some t) (h : gh_RK1 A I t) (se : gh_SE sh ro A I Iₚ J Jₚ) (hIₚ : gc_Inv ro Iₚ) (z : ∀ q j : Nat, 48 ≤ q → q ≤ 60 → Iₚ q j = I q j) (lh : gc_LH (gc_lsl A I t) (-1) Iₚ) (th : gc_TH (-1) Iₚ) : gh_RK1 A Iₚ t := by
  obtain ⟨k1, k2, k3, k4, k5⟩ := h
  obtain ⟨tL, _⟩ := gh_tng hs hi ht
  have i8 : 0 ≤ I 8 1 ∧ I 8 1 ≤ 8 := gc_in hs.2.1 (gc_bR hs.1 (by decide) rfl) rfl rfl
  have e11 := se.2.1 i t 0 11 (by omega) ht (by decide)
  have e13 := se.2.1 i t 0 13 (by omega) ht (by decide)
  rw [Nat.add_zero] at e11 e13
  have ls : ∀ j : Nat, (j : Int) < Iₚ t 13 → gc_lsl A Iₚ t j = gc_lsl A I t j := fun j hj => gh_lsl_eq tL (fun _ _ => rfl) se.2.2.1 j (by omega)
  have wv : gc_WV t Iₚ := gc_WV_fr k1 (z 48 6 (by decide) (by decide)) e13 (fun k9 => z 54 k9 (by decide) (by decide))
  exact ⟨wv, by rw [e11]; exact gc_WB_fr k2 (z 48 6 (by decide) (by decide)) (fun k9 => z 54 k9 (by decide) (by decide)), gh_WA_cg (gc_WA_fr k3 (z 48 6 (by decide) (by decide)) (Int.le_of_eq (z 48 3 (by decide) (by decide)).symm) (fun k9 => z 53 k9 (by decide) (by decide)) (fun k9 => z 54 k9 (by decide) (by decide)) (fun k9 => z 55 k9 (by decide) (by decide))) wv ls, by rw [z 48 10 (by decide) (by decide), z 49 _ (by decide) (by decide), z 50 _ (by decide) (by decide), z 48 3 (by decide) (by decide)]; exact k4, Or.inr ⟨gh_LH_cg lh wv (fun k9 => (show (0 : Int) ≤ Iₚ 69 k9 ∧ Iₚ 69 k9 ≤ 8999 from gc_in hIₚ (gc_bR hs.1 (by decide) rfl) rfl rfl).1) ls, th⟩⟩
/-- what parseTape's answer makes of the ranking -/
theorem gh_RKO_p {sh : gz_Sh} {ro : Nat → Nat} {A : gc_A} {I Iₚ : gr_I} {J Jₚ : gr_J} {i t : Nat} {z : Int} (hs : gh_HS sh ro I J A) (hi : (i : Int) < I 8 1) (ht : A 10 i = some t) (se : gh_SE sh ro A I Iₚ J Jₚ) (pc : z = 1 ∨ (Iₚ 61 3 = 0 ∧ Iₚ 61 15 = 0)) (po : ¬ z = 1 ∨ gh_RO A I Iₚ t) : gh_RKO A Iₚ := by
  obtain ⟨tL, _⟩ := gh_tng hs hi ht
  have i8 : 0 ≤ I 8 1 ∧ I 8 1 ≤ 8 := gc_in hs.2.1 (gc_bR hs.1 (by decide) rfl) rfl rfl
  have e11 := se.2.1 i t 0 11 (by omega) ht (by decide)
  have e13 := se.2.1 i t 0 13 (by omega) ht (by decide)
  have e81 := se.1 8 1 (by decide) (by decide)
  rw [Nat.add_zero] at e11 e13
  by_cases h9 : z = 1
  · obtain ⟨w1, w2, w3, w4, w5, w6, w7⟩ := po.resolve_left (fun h => h h9)
    exact Or.inr ⟨w7, i, t, by omega, ht, w5, w1, by rw [e11]; exact w2, gh_WA_cg w3 w1 (fun j hj => gh_lsl_eq tL (fun _ _ => rfl) se.2.2.1 j (by omega)), w4, Or.inl w6⟩
  · exact Or.inl (pc.resolve_left h9)
set_option maxHeartbeats 8000000 in
theorem hh_swap {ws0 : List Cond} {tb : String → gz_T} (hws : gc_Ws ws0) (htb : gc_tbs tb) {sh : gz_Sh} {ro : Nat → Nat} {I : gr_I} {J : gr_J} {A : gc_A} (hs : gh_HS sh ro I J A) (hc : gh_HC sh ro A I) (a1 : Int) (a2 : Int) (a3 : Int) (h1 : 0 ≤ a1 ∧ a1 < I 8 1) (h2 : 0 ≤ a2 ∧ a2 < I 2 1) (h3 : 0 ≤ a3 ∧ a3 < I 8 1) : ∃ (z : Int) (Iₚ : gr_I) (Jₚ : gr_J), gz_Ev ws0 tb 100 (yX12_swap, cX12_swap, 9, (some .int)) [.inr (.inr (some 0)), .inl a1, .inl a2, .inl a3] sh (gc_h sh I J A) (some (.inl z)) sh (gc_h sh Iₚ Jₚ A) 0 0 ∧ gh_K sh ro A I J Iₚ Jₚ 0 0 := by
  have hb := hs.1
  have hI := hs.2.1
  have hT := hs.2.2.2.1
  have hU := hs.2.2.2.2.1
  have i8 : 0 ≤ I 8 1 ∧ I 8 1 ≤ 8 := gc_in hI (gc_bR hb (by decide) rfl) rfl rfl
  have i2 : 0 ≤ I 2 1 ∧ I 2 1 ≤ 32 := gc_in hI (gc_bR hb (by decide) rfl) rfl rfl
  have h144 := gc_Base_len hb
  have hC := hc
  obtain ⟨t, ht, _⟩ := hU (Int.toNat a1) (by omega)
  obtain ⟨y, hy, _⟩ := hU (Int.toNat a3) (by omega)
  have Tt := hT.1 (Int.toNat a1) t (by omega) ht
  have Ty := hT.1 (Int.toNat a3) y (by omega) hy
  have Gt := Tt.2.1
  have Gy := Ty.2.1
  have dj := gc_dj_TT Tt.1 Ty.1
  obtain ⟨b0, b1, b2, b3, b4, b5, b6, b7, b8, b9, b10, b11, b12, b13, b14, b15, b16, b17, b18, b19, b20, b21, b22, b23, b24, b25, b26, b27, b28, b29, b30, b31, b32, b33, b34, b35, b36, b37, b38, b39, b40, b41, b42, b43, b44⟩ := id Tt.1
  obtain ⟨f0, f1, f2, f3, f4, f5, f6, f7, f8, f9, f10, f11, f12, f13, f14, f15, f16, f17, f18, f19, f20, f21, f22, f23, f24, f25, f26, f27, f28, f29, f30, f31, f32⟩ := id b44
  have Ft_0 := f0
  have Ft_R := f1
  have Ft_1 := f8
  have Ft_2 := f12
  have Ft_3 := f16
  have Ft_4 := f20
  have Ft_5 := f24
  have Ft_6 := f27
  have Ft_7 := f30
  have ltt := gc_x_lt Ft_7
  clear b0 b1 b2 b3 b4 b5 b6 b7 b8 b9 b10 b11 b12 b13 b14 b15 b16 b17 b18 b19 b20 b21 b22 b23 b24 b25 b26 b27 b28 b29 b30 b31 b32 b33 b34 b35 b36 b37 b38 b39 b40 b41 b42 b43 b44 f0 f1 f2 f3 f4 f5 f6 f7 f8 f9 f10 f11 f12 f13 f14 f15 f16 f17 f18 f19 f20 f21 f22 f23 f24 f25 f26 f27 f28 f29 f30 f31 f32
  obtain ⟨b0, b1, b2, b3, b4, b5, b6, b7, b8, b9, b10, b11, b12, b13, b14, b15, b16, b17, b18, b19, b20, b21, b22, b23, b24, b25, b26, b27, b28, b29, b30, b31, b32, b33, b34, b35, b36, b37, b38, b39, b40, b41, b42, b43, b44⟩ := id Ty.1
  obtain ⟨f0, f1, f2, f3, f4, f5, f6, f7, f8, f9, f10, f11, f12, f13, f14, f15, f16, f17, f18, f19, f20, f21, f22, f23, f24, f25, f26, f27, f28, f29, f30, f31, f32⟩ := id b44
  have Fy_0 := f0
  have Fy_R := f1
  have Fy_1 := f8
  have Fy_2 := f12
  have Fy_3 := f16
  have Fy_4 := f20
  have Fy_5 := f24
  have Fy_6 := f27
  have Fy_7 := f30
  have lty := gc_x_lt Fy_7
  clear b0 b1 b2 b3 b4 b5 b6 b7 b8 b9 b10 b11 b12 b13 b14 b15 b16 b17 b18 b19 b20 b21 b22 b23 b24 b25 b26 b27 b28 b29 b30 b31 b32 b33 b34 b35 b36 b37 b38 b39 b40 b41 b42 b43 b44 f0 f1 f2 f3 f4 f5 f6 f7 f8 f9 f10 f11 f12 f13 f14 f15 f16 f17 f18 f19 f20 f21 f22 f23 f24 f25 f26 f27 f28 f29 f30 f31 f32
  have loop : ∀ (n : Nat) (i v6 : Int) (I9 : gr_I) (J9 : gr_J), (16 - i).toNat < n → (0 ≤ i ∧ i ≤ 16) → (0 ≤ v6 ∧ v6 ≤ 1) → gh_HS sh ro I9 J9 A → gh_HC sh ro A I9 → gh_SE sh ro A I I9 J J9 → I9 23 1 = 0 → ((∀ k, I9 24 k = I 24 k) ∧ gh_E9 0 I I9) → (I9 61 3 = 0 ∨ I9 61 2 = (t : Int)) → gv_X (gc_E12 ws0 tb 97 (yX12_swap, cX12_swap, 9, (some .int)) kX12_swap) (gv_Q cX12_swap (some .int) sh (fun r hₚ => ∃ (z : Int) (Iₚ : gr_I) (Jₚ : gr_J), r = some (.inl z) ∧ hₚ = gc_h sh Iₚ Jₚ A ∧ gh_K sh ro A I J Iₚ Jₚ 0 0)) (62, [(0, .inr (.inr (some 0))), (1, .inl a1), (2, .inl a2), (3, .inl a3), (4, .inr (.inr (some t))), (5, .inr (.inr (some y))), (6, .inl v6), (7, .inl i)], [], sh, gc_h sh I9 J9 A) := by
    intro n
    induction n with
    | zero => intro i v6 I9 J9 hn; omega
    | succ n ih =>
      intro i v6 I9 J9 hn hi h6 hs9 hC9 se9 e23 e24 e61
      have e81 := se9.1 8 1 (by decide) (by decide)
      refine d_X12_swap_c hws htb sh ro I9 J9 A hs9.2.1 a1 a2 a3 t y v6 i hb Tt.1 Gt Ty.1 Gy ⟨by omega, by omega⟩ ⟨by omega, by omega⟩ ⟨by omega, by omega⟩ ⟨by omega, by omega⟩ ⟨by omega, by omega⟩ (fun m => ?_) (fun m => ?_)
      · have nx : ∀ (I5 : gr_I) (J5 : gr_J), gh_HS sh ro I5 J5 A → gh_HC sh ro A I5 → gh_SE sh ro A I9 I5 J9 J5 → I5 23 1 = 0 → ((∀ k, I5 24 k = I9 24 k) ∧ gh_E9 0 I9 I5) → (I5 61 3 = 0 ∨ I5 61 2 = (t : Int)) → gv_X (gc_E12 ws0 tb 97 (yX12_swap, cX12_swap, 9, (some .int)) kX12_swap) (gv_Q cX12_swap (some .int) sh (fun r hₚ => ∃ (z : Int) (Iₚ : gr_I) (Jₚ : gr_J), r = some (.inl z) ∧ hₚ = gc_h sh Iₚ Jₚ A ∧ gh_K sh ro A I J Iₚ Jₚ 0 0)) (62, [(0, .inr (.inr (some 0))), (1, .inl a1), (2, .inl a2), (3, .inl a3), (4, .inr (.inr (some t))), (5, .inr (.inr (some y))), (6, .inl v6), (7, .inl (i + 1))], [], sh, gc_h sh I5 J5 A) := fun I5 J5 q1 q2 q3 q4 q5 q6 => ih (i + 1) v6 I5 J5 (by omega) (by omega) h6 q1 q2 (gh_SE_trans se9 q3) q4 ⟨fun k => (q5.1 k).trans (e24.1 k), gh_E9_tr e24.2 q5.2⟩ q6
        have inc : ∀ (I5 : gr_I) (J5 : gr_J), gc_Inv ro I5 → gv_X (gc_E12 ws0 tb 97 (yX12_swap, cX12_swap, 9, (some .int)) kX12_swap) (gv_Q cX12_swap (some .int) sh (fun r hₚ => ∃ (z : Int) (Iₚ : gr_I) (Jₚ : gr_J), r = some (.inl z) ∧ hₚ = gc_h sh Iₚ Jₚ A ∧ gh_K sh ro A I J Iₚ Jₚ 0 0)) (62, [(0, .inr (.inr (some 0))), (1, .inl a1), (2, .inl a2), (3, .inl a3), (4, .inr (.inr (some t))), (5, .inr (.inr (some y))), (6, .inl v6), (7, .inl (i + 1))], [], sh, gc_h sh I5 J5 A) → gv_X (gc_E12 ws0 tb 97 (yX12_swap, cX12_swap, 9, (some .int)) kX12_swap) (gv_Q cX12_swap (some .int) sh (fun r hₚ => ∃ (z : Int) (Iₚ : gr_I) (Jₚ : gr_J), r = some (.inl z) ∧ hₚ = gc_h sh Iₚ Jₚ A ∧ gh_K sh ro A I J Iₚ Jₚ 0 0)) (137, [(0, .inr (.inr (some 0))), (1, .inl a1), (2, .inl a2), (3, .inl a3), (4, .inr (.inr (some t))), (5, .inr (.inr (some y))), (6, .inl v6), (7, .inl i)], [], sh, gc_h sh I5 J5 A) := fun I5 J5 hI5 q => d_X12_swap_i hws htb sh ro I5 J5 A hI5 a1 a2 a3 t y v6 i hb Tt.1 Gt Ty.1 Gy ⟨by omega, by omega⟩ ⟨by omega, by omega⟩ ⟨by omega, by omega⟩ ⟨by omega, by omega⟩ ⟨by omega, by omega⟩ (fun v7 m7 => by
          obtain ⟨_, _, _, _, _, rfl⟩ := m7
          exact q)
        rcases hC9.2.2.2.2.2.2.2 with ⟨d1, d2⟩ | ⟨d1, i9, u, d2, d3, d4, d5⟩
        · refine d_X12_swap_k hws htb sh ro I9 J9 A hs9.2.1 a1 a2 a3 t y v6 i hb Tt.1 Gt Ty.1 Gy ⟨by omega, by omega⟩ ⟨by omega, by omega⟩ ⟨by omega, by omega⟩ ⟨by omega, by omega⟩ ⟨by omega, by omega⟩ d1 d2 (fun m7 => ?_)
          exact inc I9 J9 hs9.2.1 (nx I9 J9 hs9 hC9 gh_SE_refl e23 ⟨fun _ => rfl, gh_E9_rf⟩ (Or.inl d1))
        · have eu : u = t := by omega
          subst eu
          obtain ⟨tL, tl, tw, _, a12⟩ := gh_tng (i := Int.toNat a1) hs9 (by omega) ht
          obtain ⟨k1, k2, k3, k4, k5⟩ := id d5
          have st : ∀ (I4 : gr_I) (J4 : gr_J), gc_Inv ro I4 → (∀ q j : Nat, ((q = 61 ∧ j = 4) ∨ (q = 61 ∧ j = 8) ∨ (q = 61 ∧ j = 9) ∨ (q = 61 ∧ j = 10) ∨ (q = 61 ∧ j = 15) ∨ q = 64 ∨ q = 65 ∨ q = 66 ∨ q = 67 ∨ q = 68 ∨ q = 69 ∨ q = 70 ∨ q = 71 ∨ q = 72 ∨ q = 73 ∨ q = 123) ∨ I4 q j = I9 q j) → (∀ q j : Nat, (False) ∨ J4 q j = J9 q j) → gc_LH (gc_lsl A I9 u) (-1) I4 → gc_TH (-1) I4 → gh_HS sh ro I4 J4 A ∧ gh_HC sh ro A I4 ∧ gh_SE sh ro A I9 I4 J9 J4 ∧ I4 23 1 = 0 ∧ ((∀ k, I4 24 k = I9 24 k) ∧ gh_E9 0 I9 I4) ∧ (I4 61 3 = 0 ∨ I4 61 2 = (u : Int)) := fun I4 J4 hI4 g4 k4 lh th => by
            have ok4 : gc_OK sh I4 J4 A := gh_OK_g hs9.2.2.1 (fun q j => (g4 q j).elim (fun h => by
                rcases h with ⟨rfl, rfl⟩ | ⟨rfl, rfl⟩ | ⟨rfl, rfl⟩ | ⟨rfl, rfl⟩ | ⟨rfl, rfl⟩ | rfl | rfl | rfl | rfl | rfl | rfl | rfl | rfl | rfl | rfl | rfl
                · exact Or.inl (gh_ok0 (gc_bS hb (p := 61) rfl) rfl)
                · exact Or.inl (gh_ok0 (gc_bS hb (p := 61) rfl) rfl)
                · have h9 : (0 : Int) ≤ I4 61 9 ∧ I4 61 9 ≤ 1 := gc_in hI4 (gc_bR hb (by decide) rfl) rfl rfl
                  exact Or.inl (gh_okn (n := 4) (gc_bS hb (p := 61) rfl) rfl (by omega))
                · have h9 : (0 : Int) ≤ I4 61 10 ∧ I4 61 10 ≤ 1 := gc_in hI4 (gc_bR hb (by decide) rfl) rfl rfl
                  exact Or.inl (gh_okn (n := 4) (gc_bS hb (p := 61) rfl) rfl (by omega))
                · exact Or.inl (gh_ok0 (gc_bS hb (p := 61) rfl) rfl)
                · exact Or.inl (gh_ok0 (gc_bS hb (p := 64) rfl) rfl)
                · exact Or.inl (gh_ok0 (gc_bS hb (p := 65) rfl) rfl)
                · exact Or.inl (gh_ok0 (gc_bS hb (p := 66) rfl) rfl)
                · exact Or.inl (gh_ok0 (gc_bS hb (p := 67) rfl) rfl)
                · exact Or.inl (gh_ok0 (gc_bS hb (p := 68) rfl) rfl)
                · exact Or.inl (gh_ok0 (gc_bS hb (p := 69) rfl) rfl)
                · exact Or.inl (gh_ok0 (gc_bS hb (p := 70) rfl) rfl)
                · exact Or.inl (gh_ok0 (gc_bS hb (p := 71) rfl) rfl)
                · exact Or.inl (gh_ok0 (gc_bS hb (p := 72) rfl) rfl)
                · exact Or.inl (gh_ok0 (gc_bS hb (p := 73) rfl) rfl)
                · exact Or.inl (gh_ok0 (gc_bS hb (p := 123) rfl) rfl)
                ) Or.inr) (fun q j => (k4 q j).imp (fun h => h.elim) id)
            have hk4 := gh_HS_n hs9 hI4 ok4 (fun q j => (g4 q j).imp (fun h => by omega) id) (fun q j => (k4 q j).imp (fun h => h.elim) id)
            have hs4 := hk4.1
            have hC4 : gh_HC sh ro A I4 := ⟨(gc_FN_fr hC9.1 (fun k9 => ((g4 49 k9).resolve_left (by omega))) (fun k9 => ((g4 50 k9).resolve_left (by omega)))), (gc_FZ_fr hC9.2.1 ((g4 2 1).resolve_left (by omega)) (fun k9 => ((g4 49 k9).resolve_left (by omega))) (fun k9 => ((g4 50 k9).resolve_left (by omega)))), (by have h1 := ((g4 86 2).resolve_left (by omega)); have h2 := ((g4 86 4).resolve_left (by omega)); have h3 := hC9.2.2.1; omega), (by have h1 := ((g4 100 2).resolve_left (by omega)); have h2 := ((g4 100 1).resolve_left (by omega)); have h3 := hk4.2.1 8 1 (by decide) (by decide); have h4 := hC9.2.2.2.1; omega), (gh_SN_fr hC9.2.2.2.2.1 ((g4 100 9).resolve_left (by omega))), (gh_FBT_fr hC9.2.2.2.2.2.1 hk4.2 (fun i9 t9 d j hi9 ht9 h1 h2 => (g4 (t9 + d) j).resolve_left (by have := (hs9.2.2.2.1.1 i9 t9 hi9 ht9).2.1; omega))), (gh_TRE_k hC9.2.2.2.2.2.2.1 hk4.2 (fun q j h1 h2 h3 => ((g4 q j).resolve_left (by omega)))), (Or.inr ⟨((g4 61 3).resolve_left (by omega)).trans d1, i9, u, by have h9 := hk4.2.1 8 1 (by decide) (by decide); omega, d3, ((g4 61 2).resolve_left (by omega)).trans d4, gh_RK1_l hs9 d2 d3 d5 hk4.2 hI4 (fun q j h1 h2 => (g4 q j).resolve_left (by omega)) lh th⟩)⟩
            exact ⟨hs4, hC4, hk4.2, ((g4 23 1).resolve_left (by omega)).trans e23, ⟨fun k => (g4 24 k).resolve_left (by omega), ⟨(g4 100 9).resolve_left (by omega), fun _ => ⟨(g4 100 1).resolve_left (by omega), (g4 100 2).resolve_left (by omega), fun k => (g4 101 k).resolve_left (by omega)⟩, fun _ => ⟨(g4 100 4).resolve_left (by omega), (g4 100 7).resolve_left (by omega), (g4 100 8).resolve_left (by omega), fun k => (g4 102 k).resolve_left (by omega), fun k => (g4 103 k).resolve_left (by omega)⟩, fun _ => ⟨(g4 100 14).resolve_left (by omega), fun k => (g4 111 k).resolve_left (by omega), fun k => (g4 112 k).resolve_left (by omega)⟩⟩⟩, Or.inr (((g4 61 2).resolve_left (by omega)).trans d4)⟩
          refine d_X12_swap_l hws htb sh ro I9 J9 A hs9.2.1 (gc_lsl A I9 u) a1 a2 a3 u y v6 i hb Tt.1 Gt Ty.1 Gy ⟨by omega, by omega⟩ ⟨by omega, by omega⟩ ⟨by omega, by omega⟩ ⟨by omega, by omega⟩ ⟨by omega, by omega⟩ tL k1 (fun i7 q7 _ hA7 => (gc_lsl_at hA7).symm) k3 hC9.1 k4 k5 d1 d4 (gh_ARF tL tl tw a12 k1 k2) (gh_SOP_of tl a12) (fun I4 J4 v8 hI4 g4 k4 m7 lh th wt => ?_) (fun I4 J4 hI4 g4 k4 m7 lh th => ?_)
          · obtain ⟨hs4, hC4, se4, e4, b4, r4⟩ := st I4 J4 hI4 g4 k4 lh th
            obtain ⟨m0, m1, m2, m3, m4, m5, m6⟩ := m7
            have e84 := se4.1 8 1 (by decide) (by decide)
            obtain ⟨yL, yl, yw, _, b12⟩ := gh_tng (i := Int.toNat a3) hs4 (by omega) hy
            refine d_X12_swap_n hws htb sh ro I4 J4 A hI4 (gc_lsl A I4 y) (gh_sg A I4 y) a1 a2 a3 u y v6 i v8 hb Tt.1 Gt Ty.1 Gy ⟨by omega, by omega⟩ ⟨by omega, by omega⟩ ⟨by omega, by omega⟩ ⟨by omega, by omega⟩ ⟨by omega, by omega⟩ ⟨by omega, by omega⟩ wt yL (gh_LP_of yl) (gh_SO_of yl b12) (gh_AG_of yl) (fun I5 J5 v7 hI5 g5 k5 m8 => ?_)
            have e7 : v7 = i + 1 := by omega
            have e74 : I5 74 1 = (y : Int) := by omega
            subst e7
            have ok5 : gc_OK sh I5 J5 A := gh_OK_g hs4.2.2.1 (fun q j => (g5 q j).elim (fun h => by
                rcases h with ⟨rfl, rfl⟩ | ⟨rfl, rfl⟩ | rfl | rfl | rfl | rfl | rfl | rfl | rfl | rfl | rfl | rfl | rfl | rfl | ⟨rfl, rfl⟩ | rfl | hR | rfl | ⟨rfl, rfl⟩
                · exact Or.inl (gh_ok5 (gc_bS hb (p := 74) rfl) rfl (by omega))
                · exact Or.inl (gh_ok0 (gc_bS hb (p := 74) rfl) rfl)
                · exact Or.inl (gh_ok0 (gc_bS hb (p := 22) rfl) rfl)
                · exact Or.inl (gh_ok0 (gc_bS hb (p := 75) rfl) rfl)
                · exact Or.inl (gh_ok0 (gc_bS hb (p := 76) rfl) rfl)
                · exact Or.inl (gh_ok0 (gc_bS hb (p := 77) rfl) rfl)
                · exact Or.inl (gh_ok0 (gc_bS hb (p := 78) rfl) rfl)
                · exact Or.inl (gh_ok0 (gc_bS hb (p := 79) rfl) rfl)
                · exact Or.inl (gh_ok0 (gc_bS hb (p := 80) rfl) rfl)
                · exact Or.inl (gh_ok0 (gc_bS hb (p := 81) rfl) rfl)
                · exact Or.inl (gh_ok0 (gc_bS hb (p := 82) rfl) rfl)
                · exact Or.inl (gh_ok0 (gc_bS hb (p := 83) rfl) rfl)
                · exact Or.inl (gh_ok0 (gc_bS hb (p := 84) rfl) rfl)
                · exact Or.inl (gh_ok0 (gc_bS hb (p := 85) rfl) rfl)
                · exact Or.inl (gh_ok0 (gc_bS hb (p := 35) rfl) rfl)
                · exact Or.inl (gh_ok0 (gc_bS hb (p := 36) rfl) rfl)
                · obtain ⟨q9, _, s9, _, _, e9⟩ := gh_cand hb (q - 126) (by omega)
                  rw [show q9 = q from by omega] at s9
                  exact Or.inl (gh_ok0 s9 rfl)
                · exact Or.inl (gh_ok0 (gc_bS hb (p := 142) rfl) rfl)
                · exact Or.inl (gh_ok0 (gc_bS hb (p := 0) rfl) rfl)
                ) Or.inr) (fun q j => (k5 q j).imp (fun h => h.elim) id)
            have hk5 := gh_HS_n hs4 hI5 ok5 (fun q j => (g5 q j).imp (fun h => by omega) id) (fun q j => (k5 q j).imp (fun h => h.elim) id)
            have hs5 := hk5.1
            have hC5 : gh_HC sh ro A I5 := ⟨(gc_FN_fr hC4.1 (fun k9 => ((g5 49 k9).resolve_left (by omega))) (fun k9 => ((g5 50 k9).resolve_left (by omega)))), (gc_FZ_fr hC4.2.1 ((g5 2 1).resolve_left (by omega)) (fun k9 => ((g5 49 k9).resolve_left (by omega))) (fun k9 => ((g5 50 k9).resolve_left (by omega)))), (by have h1 := ((g5 86 2).resolve_left (by omega)); have h2 := ((g5 86 4).resolve_left (by omega)); have h3 := hC4.2.2.1; omega), (by have h1 := ((g5 100 2).resolve_left (by omega)); have h2 := ((g5 100 1).resolve_left (by omega)); have h3 := hk5.2.1 8 1 (by decide) (by decide); have h4 := hC4.2.2.2.1; omega), (gh_SN_fr hC4.2.2.2.2.1 ((g5 100 9).resolve_left (by omega))), (gh_FBT_fr hC4.2.2.2.2.2.1 hk5.2 (fun i9 t9 d j hi9 ht9 h1 h2 => (g5 (t9 + d) j).resolve_left (by have := (hs4.2.2.2.1.1 i9 t9 hi9 ht9).2.1; omega))), (gh_TRE_k hC4.2.2.2.2.2.2.1 hk5.2 (fun q j h1 h2 h3 => ((g5 q j).resolve_left (by omega)))), (gh_RKO_fr hs4 hC4.2.2.2.2.2.2.2 hk5.2 (fun q j h1 h2 => ((g5 q j).resolve_left (by omega))))⟩
            exact nx I5 J5 hs5 hC5 (gh_SE_trans se4 hk5.2) (((g5 23 1).resolve_left (by omega)).trans e4) ⟨fun k => ((g5 24 k).resolve_left (by omega)).trans (b4.1 k), gh_E9_tr b4.2 ⟨(g5 100 9).resolve_left (by omega), fun _ => ⟨(g5 100 1).resolve_left (by omega), (g5 100 2).resolve_left (by omega), fun k => (g5 101 k).resolve_left (by omega)⟩, fun _ => ⟨(g5 100 4).resolve_left (by omega), (g5 100 7).resolve_left (by omega), (g5 100 8).resolve_left (by omega), fun k => (g5 102 k).resolve_left (by omega), fun k => (g5 103 k).resolve_left (by omega)⟩, fun _ => ⟨(g5 100 14).resolve_left (by omega), fun k => (g5 111 k).resolve_left (by omega), fun k => (g5 112 k).resolve_left (by omega)⟩⟩⟩ (by have h1 := (g5 61 3).resolve_left (by omega); have h2 := (g5 61 2).resolve_left (by omega); omega)
          · obtain ⟨hs4, hC4, se4, e4, b4, r4⟩ := st I4 J4 hI4 g4 k4 lh th
            exact inc I4 J4 hI4 (nx I4 J4 hs4 hC4 se4 e4 b4 r4)
      · refine gv_Xm (fun v h => ?_) (d_X12_swap_e hws htb sh ro I9 J9 A hs9.2.1 a1 a2 a3 t y v6 i hb Tt.1 Gt Ty.1 Gy ⟨by omega, by omega⟩ ⟨by omega, by omega⟩ ⟨by omega, by omega⟩ ⟨by omega, by omega⟩ ⟨by omega, by omega⟩)
        obtain ⟨r, h1, h2, h3, z, rfl, _, _⟩ := h
        exact ⟨_, h1, h2, z, I9, J9, rfl, h3, hs9, hC9, se9, e23, fun k _ => e24.1 k, e24.2⟩
  have hX : gv_X (gc_E12 ws0 tb 97 (yX12_swap, cX12_swap, 9, (some .int)) kX12_swap) (gv_Q cX12_swap (some .int) sh (fun r hₚ => ∃ (z : Int) (Iₚ : gr_I) (Jₚ : gr_J), r = some (.inl z) ∧ hₚ = gc_h sh Iₚ Jₚ A ∧ gh_K sh ro A I J Iₚ Jₚ 0 0)) (0, [(0, .inr (.inr (some 0))), (1, .inl a1), (2, .inl a2), (3, .inl a3)], [], sh, gc_h sh I J A) := by
    refine d_X12_swap_h hws htb sh ro I J A hI t y a1 a2 a3 hb Tt.1 Gt Ty.1 Gy ⟨by omega, by omega⟩ ⟨by omega, by omega⟩ ⟨by omega, by omega⟩ h1 ht (by omega) h3 hy (fun I1 J1 hI1 g1 k1 m => ?_)
    have ok1 : gc_OK sh I1 J1 A := gh_OK_g hs.2.2.1 (fun q j => (g1 q j).elim (fun h => by
        rcases h with ⟨rfl, rfl⟩
        · exact Or.inl (gh_ok0 (gc_bS hb (p := 0) rfl) rfl)
        ) Or.inr) (fun q j => (k1 q j).imp (fun h => h.elim) id)
    have hk1 := gh_HS_n hs hI1 ok1 (fun q j => (g1 q j).imp (fun h => by omega) id) (fun q j => (k1 q j).imp (fun h => h.elim) id)
    have hs1 := hk1.1
    have hC1 : gh_HC sh ro A I1 := ⟨(gc_FN_fr hC.1 (fun k9 => ((g1 49 k9).resolve_left (by omega))) (fun k9 => ((g1 50 k9).resolve_left (by omega)))), (gc_FZ_fr hC.2.1 ((g1 2 1).resolve_left (by omega)) (fun k9 => ((g1 49 k9).resolve_left (by omega))) (fun k9 => ((g1 50 k9).resolve_left (by omega)))), (by have h1 := ((g1 86 2).resolve_left (by omega)); have h2 := ((g1 86 4).resolve_left (by omega)); have h3 := hC.2.2.1; omega), (by have h1 := ((g1 100 2).resolve_left (by omega)); have h2 := ((g1 100 1).resolve_left (by omega)); have h3 := hk1.2.1 8 1 (by decide) (by decide); have h4 := hC.2.2.2.1; omega), (gh_SN_fr hC.2.2.2.2.1 ((g1 100 9).resolve_left (by omega))), (gh_FBT_fr hC.2.2.2.2.2.1 hk1.2 (fun i9 t9 d j hi9 ht9 h1 h2 => (g1 (t9 + d) j).resolve_left (by have := (hs.2.2.2.1.1 i9 t9 hi9 ht9).2.1; omega))), (gh_TRE_k hC.2.2.2.2.2.2.1 hk1.2 (fun q j h1 h2 h3 => ((g1 q j).resolve_left (by omega)))), (gh_RKO_fr hs hC.2.2.2.2.2.2.2 hk1.2 (fun q j h1 h2 => ((g1 q j).resolve_left (by omega))))⟩
    have e81 := hk1.2.1 8 1 (by decide) (by decide)
    have e21 := hk1.2.1 2 1 (by decide) (by decide)
    obtain ⟨tL, tl, _, sc, _⟩ := gh_tng (i := Int.toNat a1) hs1 (by omega) ht
    have FB1 := hC1.2.2.2.2.2.1 (Int.toNat a1) t (by omega) ht
    have st : ∀ (I2 : gr_I) (J2 : gr_J) (z : Int), gc_Inv ro I2 → (∀ q j : Nat, ((q = 48 ∧ j = 3) ∨ (q = 48 ∧ j = 6) ∨ (q = 48 ∧ j = 12) ∨ q = 51 ∨ q = 52 ∨ q = 53 ∨ q = 54 ∨ q = 55 ∨ (q = 48 ∧ j = 11) ∨ q = 58 ∨ q = 59 ∨ q = 60 ∨ (q = 48 ∧ j = 17) ∨ (q = 48 ∧ j = 18) ∨ q = 49 ∨ q = 50 ∨ (q = 48 ∧ j = 13) ∨ (q = 48 ∧ j = 14) ∨ (q = 48 ∧ j = 10) ∨ q = 56 ∨ q = 57 ∨ (q = 61 ∧ j = 2) ∨ (q = 61 ∧ j = 3) ∨ (q = 61 ∧ j = 4) ∨ (q = 61 ∧ j = 15) ∨ q = 62 ∨ (q = 23 ∧ j = 4) ∨ q = 25 ∨ q = 26 ∨ (q = (t + 17) ∧ j = 8) ∨ (q = (t + 17) ∧ j = 9) ∨ q = (t + 18) ∨ q = (t + 19) ∨ q = (t + 20) ∨ q = (t + 21) ∨ (q = (t + 17) ∧ j = 6) ∨ (q = (t + 17) ∧ j = 7) ∨ q = (t + 23) ∨ q = (t + 24) ∨ q = (t + 22) ∨ (q = 23 ∧ j = 1)) ∨ I2 q j = I1 q j) → (∀ q j : Nat, (False) ∨ J2 q j = J1 q j) → gc_FN I2 → gc_FZ I2 → ((I2 48 13 = I1 48 13 ∧ I2 48 14 = I1 48 14) ∨ (I2 48 13 = (t : Int) ∧ I2 48 14 = 23)) → (I2 61 2 = I1 61 2 ∨ I2 61 2 = (t : Int)) → gc_FB (t + 17) (24 * I2 (t + 17) 8) I2 → I2 (t + 17) 8 ≤ I1 t 11 → (I1 (t + 17) 6 = I1 (t + 17) 7 ∨ ¬ I2 (t + 17) 6 = I2 (t + 17) 7) → gh_BD I1 t I2 → (z = 1 ∨ (I2 61 3 = 0 ∧ I2 61 15 = 0)) → (¬ z = 1 ∨ gh_RO A I1 I2 t) → gh_HS sh ro I2 J2 A ∧ gh_HC sh ro A I2 ∧ gh_SE sh ro A I I2 J J2 ∧ ((∀ k, I2 24 k = I 24 k) ∧ gh_E9 0 I I2) ∧ (I2 61 3 = 0 ∨ I2 61 2 = (t : Int)) := fun I2 J2 z hI2 g2 k2 kFN kFZ p5 p6 n1 n2 nF nB pc po => by
      have ok2 : gc_OK sh I2 J2 A := gh_OK_g hs1.2.2.1 (fun q j => (g2 q j).elim (fun h => by
          rcases h with ⟨rfl, rfl⟩ | ⟨rfl, rfl⟩ | ⟨rfl, rfl⟩ | rfl | rfl | rfl | rfl | rfl | ⟨rfl, rfl⟩ | rfl | rfl | rfl | ⟨rfl, rfl⟩ | ⟨rfl, rfl⟩ | rfl | rfl | ⟨rfl, rfl⟩ | ⟨rfl, rfl⟩ | ⟨rfl, rfl⟩ | rfl | rfl | ⟨rfl, rfl⟩ | ⟨rfl, rfl⟩ | ⟨rfl, rfl⟩ | ⟨rfl, rfl⟩ | rfl | ⟨rfl, rfl⟩ | rfl | rfl | ⟨rfl, rfl⟩ | ⟨rfl, rfl⟩ | rfl | rfl | rfl | rfl | ⟨rfl, rfl⟩ | ⟨rfl, rfl⟩ | rfl | rfl | rfl | ⟨rfl, rfl⟩
          · exact Or.inl (gh_ok0 (gc_bS hb (p := 48) rfl) rfl)
          · exact Or.inl (gh_ok0 (gc_bS hb (p := 48) rfl) rfl)
          · exact Or.inl (gh_ok0 (gc_bS hb (p := 48) rfl) rfl)
          · exact Or.inl (gh_ok0 (gc_bS hb (p := 51) rfl) rfl)
          · exact Or.inl (gh_ok0 (gc_bS hb (p := 52) rfl) rfl)
          · exact Or.inl (gh_ok0 (gc_bS hb (p := 53) rfl) rfl)
          · exact Or.inl (gh_ok0 (gc_bS hb (p := 54) rfl) rfl)
          · exact Or.inl (gh_ok0 (gc_bS hb (p := 55) rfl) rfl)
          · exact Or.inl (gh_ok0 (gc_bS hb (p := 48) rfl) rfl)
          · exact Or.inl (gh_ok0 (gc_bS hb (p := 58) rfl) rfl)
          · exact Or.inl (gh_ok0 (gc_bS hb (p := 59) rfl) rfl)
          · exact Or.inl (gh_ok0 (gc_bS hb (p := 60) rfl) rfl)
          · exact Or.inl (gh_ok0 (gc_bS hb (p := 48) rfl) rfl)
          · exact Or.inl (gh_ok0 (gc_bS hb (p := 48) rfl) rfl)
          · exact Or.inl (gh_ok0 (gc_bS hb (p := 49) rfl) rfl)
          · exact Or.inl (gh_ok0 (gc_bS hb (p := 50) rfl) rfl)
          · exact p5.elim (fun e => Or.inr e.1) (fun e => Or.inl (gh_ok5 (gc_bS hb (p := 48) rfl) rfl (by omega)))
          · exact p5.elim (fun e => Or.inr e.2) (fun e => Or.inl (gh_ok5 (gc_bS hb (p := 48) rfl) rfl (by omega)))
          · exact Or.inl (gh_ok0 (gc_bS hb (p := 48) rfl) rfl)
          · exact Or.inl (gh_ok0 (gc_bS hb (p := 56) rfl) rfl)
          · exact Or.inl (gh_ok0 (gc_bS hb (p := 57) rfl) rfl)
          · exact p6.elim Or.inr (fun e => Or.inl (gh_ok5 (gc_bS hb (p := 61) rfl) rfl (by omega)))
          · exact Or.inl (gh_ok0 (gc_bS hb (p := 61) rfl) rfl)
          · exact Or.inl (gh_ok0 (gc_bS hb (p := 61) rfl) rfl)
          · exact Or.inl (gh_ok0 (gc_bS hb (p := 61) rfl) rfl)
          · exact Or.inl (gh_ok0 (gc_bS hb (p := 62) rfl) rfl)
          · exact Or.inl (gh_ok0 (gc_bS hb (p := 23) rfl) rfl)
          · exact Or.inl (gh_ok0 (gc_bS hb (p := 25) rfl) rfl)
          · exact Or.inl (gh_ok0 (gc_bS hb (p := 26) rfl) rfl)
          · exact Or.inl (gh_ok0 Ft_0 rfl)
          · exact Or.inl (gh_ok0 Ft_0 rfl)
          · exact Or.inl (gh_ok0 Ft_1 rfl)
          · exact Or.inl (gh_ok0 Ft_2 rfl)
          · exact Or.inl (gh_ok0 Ft_3 rfl)
          · exact Or.inl (gh_ok0 Ft_4 rfl)
          · have h9 : (0 : Int) ≤ I2 (t + 17) 6 ∧ I2 (t + 17) 6 ≤ 1 := gc_in hI2 (Ft_R) rfl rfl
            exact Or.inl (gh_okn (n := 6) Ft_0 rfl (by omega))
          · have h9 : (0 : Int) ≤ I2 (t + 17) 7 ∧ I2 (t + 17) 7 ≤ 1 := gc_in hI2 (Ft_R) rfl rfl
            exact Or.inl (gh_okn (n := 6) Ft_0 rfl (by omega))
          · exact Or.inl (gh_ok0 Ft_6 rfl)
          · exact Or.inl (gh_ok0 Ft_7 rfl)
          · exact Or.inl (gh_ok0 Ft_5 rfl)
          · exact Or.inl (gh_ok0 (gc_bS hb (p := 23) rfl) rfl)
          ) Or.inr) (fun q j => (k2 q j).imp (fun h => h.elim) id)
      have hk2 := gh_HS_k (i := Int.toNat a1) hs1 (by omega) ht hI2 ok2 (fun q j => (g2 q j).imp (fun h => by omega) id) (fun q j => (k2 q j).imp (fun h => h.elim) id)
      have hs2 := hk2.1
      have hC2 : gh_HC sh ro A I2 := ⟨kFN, kFZ, (by have h1 := ((g2 86 2).resolve_left (by omega)); have h2 := ((g2 86 4).resolve_left (by omega)); have h3 := hC1.2.2.1; omega), (by have h1 := ((g2 100 2).resolve_left (by omega)); have h2 := ((g2 100 1).resolve_left (by omega)); have h3 := hk2.2.1 8 1 (by decide) (by decide); have h4 := hC1.2.2.2.1; omega), (gh_SN_fr hC1.2.2.2.2.1 ((g2 100 9).resolve_left (by omega))), (gh_FBT_t hs1.2.2.2.1 hC1.2.2.2.2.2.1 hk2.2 (by omega) (by omega) ht (fun q j hq => (g2 q j).imp (fun h => by omega) id) n1 n2 (fun h9 => by omega) nB), (gh_TRE_k hC1.2.2.2.2.2.2.1 hk2.2 (fun q j h1 h2 h3 => ((g2 q j).resolve_left (by omega)))), (gh_RKO_p (i := Int.toNat a1) hs1 (by omega) ht hk2.2 pc po)⟩
      refine ⟨hs2, hC2, gh_SE_trans hk1.2 hk2.2, ⟨fun k => ((g2 24 k).resolve_left (by omega)).trans ((g1 24 k).resolve_left (by omega)), gh_E9_tr ⟨(g1 100 9).resolve_left (by omega), fun _ => ⟨(g1 100 1).resolve_left (by omega), (g1 100 2).resolve_left (by omega), fun k => (g1 101 k).resolve_left (by omega)⟩, fun _ => ⟨(g1 100 4).resolve_left (by omega), (g1 100 7).resolve_left (by omega), (g1 100 8).resolve_left (by omega), fun k => (g1 102 k).resolve_left (by omega), fun k => (g1 103 k).resolve_left (by omega)⟩, fun _ => ⟨(g1 100 14).resolve_left (by omega), fun k => (g1 111 k).resolve_left (by omega), fun k => (g1 112 k).resolve_left (by omega)⟩⟩ ⟨(g2 100 9).resolve_left (by omega), fun _ => ⟨(g2 100 1).resolve_left (by omega), (g2 100 2).resolve_left (by omega), fun k => (g2 101 k).resolve_left (by omega)⟩, fun _ => ⟨(g2 100 4).resolve_left (by omega), (g2 100 7).resolve_left (by omega), (g2 100 8).resolve_left (by omega), fun k => (g2 102 k).resolve_left (by omega), fun k => (g2 103 k).resolve_left (by omega)⟩, fun _ => ⟨(g2 100 14).resolve_left (by omega), fun k => (g2 111 k).resolve_left (by omega), fun k => (g2 112 k).resolve_left (by omega)⟩⟩⟩, ?_⟩
      by_cases h9 : z = 1
      · obtain ⟨_, _, _, _, w5, _, _⟩ := po.resolve_left (fun h => h h9)
        exact Or.inr w5
      · exact Or.inl (pc.resolve_left h9).1
    refine d_X12_swap_b hws htb sh ro I1 J1 A hI1 a1 a2 a3 t y hb Tt.1 Gt Ty.1 Gy ⟨by omega, by omega⟩ ⟨by omega, by omega⟩ ⟨by omega, by omega⟩ (by omega) tL (gh_UNC tl) sc FB1.1 (FB1.2.1 (by omega)) hC1.1 hC1.2.1 (fun v h => ?_) (fun I2 J2 v6 hI2 g2 k2 kFN kFZ nB m7 n1 n2 pc po => ?_)
    · obtain ⟨r, h1, h2, I2, J2, h3, hI2, g2, k2, kFN, kFZ, z, rfl, _, _, p2, n1, n2, pc, po, p5, p6, nF, nB⟩ := h
      obtain ⟨q1, q2, q3, q4, _⟩ := st I2 J2 z hI2 g2 k2 kFN kFZ p5 p6 n1 n2 nF nB pc po
      exact ⟨_, h1, h2, z, I2, J2, rfl, h3, q1, q2, q3, p2, fun k _ => q4.1 k, q4.2⟩
    · obtain ⟨_, _, _, m3, p2, p5, p6, _, nF⟩ := m7
      obtain ⟨hs2, hC2, se2, b2, r2⟩ := st I2 J2 v6 hI2 g2 k2 kFN kFZ p5 p6 n1 n2 nF nB pc po
      have e82 := se2.1 8 1 (by decide) (by decide)
      obtain ⟨yL, yl, _, ysc, _⟩ := gh_tng (i := Int.toNat a3) hs2 (by omega) hy
      have FB2 := hC2.2.2.2.2.2.1 (Int.toNat a3) y (by omega) hy
      refine d_X12_swap_m hws htb sh ro I2 J2 A hI2 a1 a2 a3 t y v6 hb Tt.1 Gt Ty.1 Gy ⟨by omega, by omega⟩ ⟨by omega, by omega⟩ ⟨by omega, by omega⟩ ⟨by omega, by omega⟩ ysc FB2.1 (FB2.2.1 (by omega)) (fun I3 J3 v7 hI3 g3 k3 nB m8 fb => ?_)
      obtain ⟨_, _, _, _, _, rfl, h8, nF⟩ := m8
      have ok3 : gc_OK sh I3 J3 A := gh_OK_g hs2.2.2.1 (fun q j => (g3 q j).elim (fun h => by
          rcases h with ⟨rfl, rfl⟩ | ⟨rfl, rfl⟩ | rfl | rfl | rfl | rfl | ⟨rfl, rfl⟩ | ⟨rfl, rfl⟩ | rfl | rfl
          · exact Or.inl (gh_ok0 Fy_0 rfl)
          · exact Or.inl (gh_ok0 Fy_0 rfl)
          · exact Or.inl (gh_ok0 Fy_1 rfl)
          · exact Or.inl (gh_ok0 Fy_2 rfl)
          · exact Or.inl (gh_ok0 Fy_3 rfl)
          · exact Or.inl (gh_ok0 Fy_4 rfl)
          · have h9 : (0 : Int) ≤ I3 (y + 17) 6 ∧ I3 (y + 17) 6 ≤ 1 := gc_in hI3 (Fy_R) rfl rfl
            exact Or.inl (gh_okn (n := 6) Fy_0 rfl (by omega))
          · have h9 : (0 : Int) ≤ I3 (y + 17) 7 ∧ I3 (y + 17) 7 ≤ 1 := gc_in hI3 (Fy_R) rfl rfl
            exact Or.inl (gh_okn (n := 6) Fy_0 rfl (by omega))
          · exact Or.inl (gh_ok0 Fy_6 rfl)
          · exact Or.inl (gh_ok0 Fy_7 rfl)
          ) Or.inr) (fun q j => (k3 q j).imp (fun h => h.elim) id)
      have hk3 := gh_HS_k (i := Int.toNat a3) hs2 (by omega) hy hI3 ok3 (fun q j => (g3 q j).imp (fun h => by omega) id) (fun q j => (k3 q j).imp (fun h => h.elim) id)
      have hs3 := hk3.1
      have hC3 : gh_HC sh ro A I3 := ⟨(gc_FN_fr hC2.1 (fun k9 => ((g3 49 k9).resolve_left (by omega))) (fun k9 => ((g3 50 k9).resolve_left (by omega)))), (gc_FZ_fr hC2.2.1 ((g3 2 1).resolve_left (by omega)) (fun k9 => ((g3 49 k9).resolve_left (by omega))) (fun k9 => ((g3 50 k9).resolve_left (by omega)))), (by have h1 := ((g3 86 2).resolve_left (by omega)); have h2 := ((g3 86 4).resolve_left (by omega)); have h3 := hC2.2.2.1; omega), (by have h1 := ((g3 100 2).resolve_left (by omega)); have h2 := ((g3 100 1).resolve_left (by omega)); have h3 := hk3.2.1 8 1 (by decide) (by decide); have h4 := hC2.2.2.2.1; omega), (gh_SN_fr hC2.2.2.2.2.1 ((g3 100 9).resolve_left (by omega))), (gh_FBT_t hs2.2.2.2.1 hC2.2.2.2.2.2.1 hk3.2 (by omega) (by omega) hy (fun q j hq => (g3 q j).imp (fun h => by omega) id) (by rw [h8]; exact fb) (by omega) (fun h9 => by omega) nB), (gh_TRE_k hC2.2.2.2.2.2.2.1 hk3.2 (fun q j h1 h2 h3 => ((g3 q j).resolve_left (by omega)))), (gh_RKO_fr hs2 hC2.2.2.2.2.2.2.2 hk3.2 (fun q j h1 h2 => ((g3 q j).resolve_left (by omega))))⟩
      exact loop 17 0 v6 I3 J3 (by decide) ⟨by decide, by decide⟩ m3 hs3 hC3 (gh_SE_trans se2 hk3.2) (((g3 23 1).resolve_left (by omega)).trans p2) ⟨fun k => ((g3 24 k).resolve_left (by omega)).trans (b2.1 k), gh_E9_tr b2.2 ⟨(g3 100 9).resolve_left (by omega), fun _ => ⟨(g3 100 1).resolve_left (by omega), (g3 100 2).resolve_left (by omega), fun k => (g3 101 k).resolve_left (by omega)⟩, fun _ => ⟨(g3 100 4).resolve_left (by omega), (g3 100 7).resolve_left (by omega), (g3 100 8).resolve_left (by omega), fun k => (g3 102 k).resolve_left (by omega), fun k => (g3 103 k).resolve_left (by omega)⟩, fun _ => ⟨(g3 100 14).resolve_left (by omega), fun k => (g3 111 k).resolve_left (by omega), fun k => (g3 112 k).resolve_left (by omega)⟩⟩⟩ (by have h1 := (g3 61 3).resolve_left (by omega); have h2 := (g3 61 2).resolve_left (by omega); omega)
  obtain ⟨r, hₚ, E9, z, Iₚ, Jₚ, rfl, rfl, hK⟩ := gc_ev12 (d := 97) (l := kX12_swap) (M := (yX12_swap, cX12_swap, 9, (some .int))) (av := [.inr (.inr (some 0)), .inl a1, .inl a2, .inl a3]) (Po := fun r hₚ => ∃ (z : Int) (Iₚ : gr_I) (Jₚ : gr_J), r = some (.inl z) ∧ hₚ = gc_h sh Iₚ Jₚ A ∧ gh_K sh ro A I J Iₚ Jₚ 0 0) htb rfl (Nat.le_of_ble_eq_true rfl) hX
  exact ⟨z, Iₚ, Jₚ, gz_Ev_mono (by decide) E9, hK⟩
