theorem gh_FB_le {p : Nat} {wb wb' : Int} {I : gr_I} (h : gc_FB p wb I) (hw : wb ≤ wb') : gc_FB p wb' I := ⟨fun k hk => by have := h.1 k hk; omega, fun k => (h.2 k).imp id (fun h9 => by omega)⟩
/-- the chart's answer, said of the state that it stands in -/
theorem gh_RF_n {sh : gz_Sh} {ro : Nat → Nat} {A : gc_A} {I Iₚ : gr_I} {J Jₚ : gr_J} {i t : Nat} (hs : gh_HS sh ro I J A) (hi : (i : Int) < I 8 1) (ht : A 10 i = some t) (se : gh_SE sh ro A I Iₚ J Jₚ) (h : gh_RF A I Iₚ t) : gh_RF A Iₚ Iₚ t := by
  obtain ⟨w1, w2, w3, w4⟩ := h
  obtain ⟨tL, _⟩ := gh_tng hs hi ht
  have i8 : 0 ≤ I 8 1 ∧ I 8 1 ≤ 8 := gc_in hs.2.1 (gc_bR hs.1 (by decide) rfl) rfl rfl
  have e11 := se.2.1 i t 0 11 (by omega) ht (by decide)
  have e13 := se.2.1 i t 0 13 (by omega) ht (by decide)
  rw [Nat.add_zero] at e11 e13
  exact ⟨w1, by rw [e11]; exact w2, gh_WA_cg w3 w1 (fun j hj => gh_lsl_eq tL (fun _ _ => rfl) se.2.2.1 j (by omega)), w4⟩
set_option maxHeartbeats 8000000 in
theorem hh_mend {ws0 : List Cond} {tb : String → gz_T} (hws : gc_Ws ws0) (htb : gc_tbs tb) {sh : gz_Sh} {ro : Nat → Nat} {I : gr_I} {J : gr_J} {A : gc_A} (hs : gh_HS sh ro I J A) (hc : gh_HC sh ro A I) (a1 : Int) (a2 : Int) (h1 : 0 ≤ a1 ∧ a1 < I 8 1) (h2 : 0 ≤ a2 ∧ a2 < I 2 1) : ∃ (z : Int) (Iₚ : gr_I) (Jₚ : gr_J), gz_Ev ws0 tb 100 (yX12_mend, cX12_mend, 10, (some .int)) [.inr (.inr (some 0)), .inl a1, .inl a2] sh (gc_h sh I J A) (some (.inl z)) sh (gc_h sh Iₚ Jₚ A) 0 0 ∧ gh_K sh ro A I J Iₚ Jₚ 0 0 := by
  have hb := hs.1
  have hI := hs.2.1
  have hT := hs.2.2.2.1
  have hU := hs.2.2.2.2.1
  have i8 : 0 ≤ I 8 1 ∧ I 8 1 ≤ 8 := gc_in hI (gc_bR hb (by decide) rfl) rfl rfl
  have i2 : 0 ≤ I 2 1 ∧ I 2 1 ≤ 32 := gc_in hI (gc_bR hb (by decide) rfl) rfl rfl
  have h144 := gc_Base_len hb
  have hC := hc
  obtain ⟨t, ht, _⟩ := hU (Int.toNat a1) (by omega)
  have Tt := hT.1 (Int.toNat a1) t (by omega) ht
  have Gt := Tt.2.1
  obtain ⟨b0, b1, b2, b3, b4, b5, b6, b7, b8, b9, b10, b11, b12, b13, b14, b15, b16, b17, b18, b19, b20, b21, b22, b23, b24, b25, b26, b27, b28, b29, b30, b31, b32, b33, b34, b35, b36, b37, b38, b39, b40, b41, b42, b43, b44⟩ := id Tt.1
  obtain ⟨f0, f1, f2, f3, f4, f5, f6, f7, f8, f9, f10, f11, f12, f13, f14, f15, f16, f17, f18, f19, f20, f21, f22, f23, f24, f25, f26, f27, f28, f29, f30, f31, f32⟩ := id b44
  have Ft_0 := f0
  have Ft_R := f1
  have Ft_1 := f8
  have Ft_2 := f12
  have Ft_3 := f16
  have Ft_4 := f20
  have Ft_5 := f24
  have Ft_6 := f27
  have Ft_7 := f30
  have ltt := gc_x_lt Ft_7
  clear b0 b1 b2 b3 b4 b5 b6 b7 b8 b9 b10 b11 b12 b13 b14 b15 b16 b17 b18 b19 b20 b21 b22 b23 b24 b25 b26 b27 b28 b29 b30 b31 b32 b33 b34 b35 b36 b37 b38 b39 b40 b41 b42 b43 b44 f0 f1 f2 f3 f4 f5 f6 f7 f8 f9 f10 f11 f12 f13 f14 f15 f16 f17 f18 f19 f20 f21 f22 f23 f24 f25 f26 f27 f28 f29 f30 f31 f32
  have fin : ∀ (m : Nat) (c f9 n i v4 : Int) (I9 : gr_I) (J9 : gr_J), gc_isText sh ro A m → (0 ≤ c ∧ c ≤ 32767) → (-1 ≤ f9 ∧ f9 ≤ 1) → (0 ≤ n ∧ n ≤ 1000) → (0 ≤ i ∧ i ≤ 1000) → (0 ≤ v4 ∧ v4 ≤ 1) → gh_HS sh ro I9 J9 A → gh_HC sh ro A I9 → gh_SE sh ro A I I9 J J9 → I9 23 1 = 0 → ((∀ k, I9 24 k = I 24 k) ∧ gh_E9 0 I I9) → (I9 61 3 = 0 ∧ I9 61 15 = 0) → (f9 ≤ 0 ∨ gh_RF A I9 I9 t) → gv_X (gc_E12 ws0 tb 97 (yX12_mend, cX12_mend, 10, (some .int)) kX12_mend) (gv_Q cX12_mend (some .int) sh (fun r hₚ => ∃ (z : Int) (Iₚ : gr_I) (Jₚ : gr_J), r = some (.inl z) ∧ hₚ = gc_h sh Iₚ Jₚ A ∧ gh_K sh ro A I J Iₚ Jₚ 0 0)) (242, [(0, .inr (.inr (some 0))), (1, .inl a1), (2, .inl a2), (3, .inr (.inr (some t))), (4, .inl v4), (5, .inr (.inr (some m))), (6, .inl c), (7, .inl f9), (8, .inl n), (9, .inl i)], [], sh, gc_h sh I9 J9 A) := by
    intro m c f9 n i v4 I9 J9 hm hc9 hf hn hi hv hs9 hC9 se9 e23 e24 cl rf
    have e81 := se9.1 8 1 (by decide) (by decide)
    refine gv_Xm (fun v h => ?_) (d_X12_mend_e hws htb sh ro I9 J9 A hs9.2.1 a1 a2 t v4 m c f9 n i hb Tt.1 Gt hm ⟨by omega, by omega⟩ ⟨by omega, by omega⟩ ⟨by omega, by omega⟩ ⟨by omega, by omega⟩ ⟨by omega, by omega⟩ ⟨by omega, by omega⟩ ⟨by omega, by omega⟩ hC9.1 hC9.2.1)
    obtain ⟨r, h1, h2, I4, J4, h3, hI4, g4, k4, kFN, kFZ, z, rfl, _, _, p1, p2, p3⟩ := h
    have ok4 : gc_OK sh I4 J4 A := gh_OK_g hs9.2.2.1 (fun q j => (g4 q j).elim (fun h => by
        rcases h with ⟨rfl, rfl⟩ | ⟨rfl, rfl⟩ | ⟨rfl, rfl⟩ | rfl | ⟨rfl, rfl⟩ | ⟨rfl, rfl⟩ | ⟨rfl, rfl⟩ | rfl
        · exact Or.inl (gh_ok0 (gc_bS hb (p := 48) rfl) rfl)
        · exact Or.inl (gh_ok0 (gc_bS hb (p := 48) rfl) rfl)
        · exact Or.inl (gh_ok0 (gc_bS hb (p := 27) rfl) rfl)
        · exact Or.inl (gh_ok0 (gc_bS hb (p := 28) rfl) rfl)
        · exact (by by_cases h9 : f9 ≤ 0; (· exact Or.inr (p2.resolve_left (by omega)).2.2); (· exact Or.inl (gh_ok5 (gc_bS hb (p := 61) rfl) rfl (by have h8 := (p1.resolve_left h9).2.1; omega))))
        · exact Or.inl (gh_ok0 (gc_bS hb (p := 61) rfl) rfl)
        · exact Or.inl (gh_ok0 (gc_bS hb (p := 61) rfl) rfl)
        · exact Or.inl (gh_ok0 (gc_bS hb (p := 62) rfl) rfl)
        ) Or.inr) (fun q j => (k4 q j).imp (fun h => h.elim) id)
    have hk4 := gh_HS_n hs9 hI4 ok4 (fun q j => (g4 q j).imp (fun h => by omega) id) (fun q j => (k4 q j).imp (fun h => h.elim) id)
    have hs4 := hk4.1
    have hC4 : gh_HC sh ro A I4 := ⟨kFN, kFZ, (by have h1 := ((g4 86 2).resolve_left (by omega)); have h2 := ((g4 86 4).resolve_left (by omega)); have h3 := hC9.2.2.1; omega), (by have h1 := ((g4 100 2).resolve_left (by omega)); have h2 := ((g4 100 1).resolve_left (by omega)); have h3 := hk4.2.1 8 1 (by decide) (by decide); have h4 := hC9.2.2.2.1; omega), (gh_SN_fr hC9.2.2.2.2.1 ((g4 100 9).resolve_left (by omega))), (gh_FBT_fr hC9.2.2.2.2.2.1 hk4.2 (fun i9 t9 d j hi9 ht9 h1 h2 => (g4 (t9 + d) j).resolve_left (by have := (hs9.2.2.2.1.1 i9 t9 hi9 ht9).2.1; omega))), (gh_TRE_k hC9.2.2.2.2.2.2.1 hk4.2 (fun q j h1 h2 h3 => ((g4 q j).resolve_left (by omega)))), (by
      by_cases h9 : f9 ≤ 0
      · have h8 := p2.resolve_left (by omega)
        exact Or.inl ⟨h8.1.trans cl.1, h8.2.1.trans cl.2⟩
      · obtain ⟨o1, o2, o3⟩ := p1.resolve_left h9
        have z9 := p3.resolve_left h9
        obtain ⟨w1, w2, w3, w4⟩ := gh_RF_n (i := Int.toNat a1) hs9 (by omega) ht hk4.2 (show gh_RF A I9 I4 t from ⟨gc_WV_fr (rf.resolve_left h9).1 (z9 48 6 (by decide) (by decide)) (by have h7 := hk4.2.2.1 (Int.toNat a1) t 0 13 (by omega) ht (by decide); rw [Nat.add_zero] at h7; exact h7) (fun k9 => z9 54 k9 (by decide) (by decide)), gc_WB_fr (rf.resolve_left h9).2.1 (z9 48 6 (by decide) (by decide)) (fun k9 => z9 54 k9 (by decide) (by decide)), gc_WA_fr (rf.resolve_left h9).2.2.1 (z9 48 6 (by decide) (by decide)) (Int.le_of_eq (z9 48 3 (by decide) (by decide)).symm) (fun k9 => z9 53 k9 (by decide) (by decide)) (fun k9 => z9 54 k9 (by decide) (by decide)) (fun k9 => z9 55 k9 (by decide) (by decide)), by rw [z9 48 10 (by decide) (by decide), z9 49 _ (by decide) (by decide), z9 50 _ (by decide) (by decide), z9 48 3 (by decide) (by decide)]; exact (rf.resolve_left h9).2.2.2⟩)
        exact Or.inr ⟨o1, Int.toNat a1, t, by have h8 := hk4.2.1 8 1 (by decide) (by decide); omega, ht, o2, w1, w2, w3, w4, Or.inl o3⟩)⟩
    exact ⟨_, h1, h2, z, I4, J4, rfl, h3, hs4, hC4, gh_SE_trans se9 hk4.2, ((g4 23 1).resolve_left (by omega)).trans e23, fun k _ => ((g4 24 k).resolve_left (by omega)).trans (e24.1 k), gh_E9_tr e24.2 ⟨(g4 100 9).resolve_left (by omega), fun _ => ⟨(g4 100 1).resolve_left (by omega), (g4 100 2).resolve_left (by omega), fun k => (g4 101 k).resolve_left (by omega)⟩, fun _ => ⟨(g4 100 4).resolve_left (by omega), (g4 100 7).resolve_left (by omega), (g4 100 8).resolve_left (by omega), fun k => (g4 102 k).resolve_left (by omega), fun k => (g4 103 k).resolve_left (by omega)⟩, fun _ => ⟨(g4 100 14).resolve_left (by omega), fun k => (g4 111 k).resolve_left (by omega), fun k => (g4 112 k).resolve_left (by omega)⟩⟩⟩
  have loop : ∀ (w : Nat) (m : Nat) (c f9 n i v4 : Int) (I9 : gr_I) (J9 : gr_J), (1000 - i).toNat < w → gc_isText sh ro A m → (0 ≤ c ∧ c ≤ 32767) → (-1 ≤ f9 ∧ f9 ≤ 1) → (0 ≤ n ∧ n ≤ 1000) → (0 ≤ i ∧ i ≤ 1000) → (0 ≤ v4 ∧ v4 ≤ 1) → gh_HS sh ro I9 J9 A → gh_HC sh ro A I9 → gh_SE sh ro A I I9 J J9 → I9 23 1 = 0 → ((∀ k, I9 24 k = I 24 k) ∧ gh_E9 0 I I9) → (I9 61 3 = 0 ∧ I9 61 15 = 0) → (f9 ≤ 0 ∨ gh_RF A I9 I9 t) → gc_SP 31 I9 → (f9 = -1 ∨ I9 48 11 ≤ 400000) → gh_CA t (I9 31 4) n I9 → gv_X (gc_E12 ws0 tb 97 (yX12_mend, cX12_mend, 10, (some .int)) kX12_mend) (gv_Q cX12_mend (some .int) sh (fun r hₚ => ∃ (z : Int) (Iₚ : gr_I) (Jₚ : gr_J), r = some (.inl z) ∧ hₚ = gc_h sh Iₚ Jₚ A ∧ gh_K sh ro A I J Iₚ Jₚ 0 0)) (165, [(0, .inr (.inr (some 0))), (1, .inl a1), (2, .inl a2), (3, .inr (.inr (some t))), (4, .inl v4), (5, .inr (.inr (some m))), (6, .inl c), (7, .inl f9), (8, .inl n), (9, .inl i)], [], sh, gc_h sh I9 J9 A) := by
    intro w
    induction w with
    | zero => intro m c f9 n i v4 I9 J9 hn; omega
    | succ w ih =>
      intro m c f9 n i v4 I9 J9 hw9 hm hc9 hf hn hi hv hs9 hC9 se9 e23 e24 cl rf sp tr ca
      have e81 := se9.1 8 1 (by decide) (by decide)
      have e21 := se9.1 2 1 (by decide) (by decide)
      refine d_X12_mend_c hws htb sh ro I9 J9 A hs9.2.1 a1 a2 t v4 m c f9 n i hb Tt.1 Gt hm ⟨by omega, by omega⟩ ⟨by omega, by omega⟩ ⟨by omega, by omega⟩ ⟨by omega, by omega⟩ ⟨by omega, by omega⟩ ⟨by omega, by omega⟩ ⟨by omega, by omega⟩ (fun q => ?_) (fun q => fin m c f9 n i v4 I9 J9 hm hc9 hf hn hi hv hs9 hC9 se9 e23 e24 cl rf)
      obtain ⟨tL, tl, _, sc, _⟩ := gh_tng (i := Int.toNat a1) hs9 (by omega) ht
      have FB9 := hC9.2.2.2.2.2.1 (Int.toNat a1) t (by omega) ht
      refine d_X12_mend_l hws htb sh ro I9 J9 A hs9.2.1 a1 a2 t v4 m c f9 n i hb Tt.1 Gt hm ⟨by omega, by omega⟩ ⟨by omega, by omega⟩ ⟨by omega, by omega⟩ ⟨by omega, by omega⟩ ⟨by omega, by omega⟩ ⟨by omega, by omega⟩ ⟨by omega, by omega⟩ (by omega) tL (gh_UNC tl) (gh_FB_le FB9.1 (by have h9 := FB9.2.1 (by omega); omega)) (by omega) (ca (Int.toNat i) (by omega)) hC9.1 hC9.2.1 (fun I4 J4 v6 v7 v9 hI4 g4 k4 kFN kFZ m7 r4 => ?_)
      obtain ⟨_, _, _, _, _, _, _, m1, _, m3, m4, m5, m6⟩ := m7
      have ok4 : gc_OK sh I4 J4 A := gh_OK_g hs9.2.2.1 (fun q j => (g4 q j).elim (fun h => by
          rcases h with ⟨rfl, rfl⟩ | ⟨rfl, rfl⟩ | ⟨rfl, rfl⟩ | rfl | rfl | rfl | rfl | rfl | ⟨rfl, rfl⟩ | rfl | rfl | rfl | ⟨rfl, rfl⟩ | ⟨rfl, rfl⟩ | rfl | rfl | ⟨rfl, rfl⟩ | ⟨rfl, rfl⟩ | ⟨rfl, rfl⟩ | rfl | rfl | rfl | ⟨rfl, rfl⟩ | rfl | ⟨rfl, rfl⟩ | rfl | rfl
          · exact Or.inl (gh_ok0 (gc_bS hb (p := 48) rfl) rfl)
          · exact Or.inl (gh_ok0 (gc_bS hb (p := 48) rfl) rfl)
          · exact Or.inl (gh_ok0 (gc_bS hb (p := 48) rfl) rfl)
          · exact Or.inl (gh_ok0 (gc_bS hb (p := 51) rfl) rfl)
          · exact Or.inl (gh_ok0 (gc_bS hb (p := 52) rfl) rfl)
          · exact Or.inl (gh_ok0 (gc_bS hb (p := 53) rfl) rfl)
          · exact Or.inl (gh_ok0 (gc_bS hb (p := 54) rfl) rfl)
          · exact Or.inl (gh_ok0 (gc_bS hb (p := 55) rfl) rfl)
          · exact Or.inl (gh_ok0 (gc_bS hb (p := 48) rfl) rfl)
          · exact Or.inl (gh_ok0 (gc_bS hb (p := 58) rfl) rfl)
          · exact Or.inl (gh_ok0 (gc_bS hb (p := 59) rfl) rfl)
          · exact Or.inl (gh_ok0 (gc_bS hb (p := 60) rfl) rfl)
          · exact Or.inl (gh_ok0 (gc_bS hb (p := 48) rfl) rfl)
          · exact Or.inl (gh_ok0 (gc_bS hb (p := 48) rfl) rfl)
          · exact Or.inl (gh_ok0 (gc_bS hb (p := 49) rfl) rfl)
          · exact Or.inl (gh_ok0 (gc_bS hb (p := 50) rfl) rfl)
          · exact m6.elim (fun e => Or.inr e.1) (fun e => Or.inl (gh_ok5 (gc_bS hb (p := 48) rfl) rfl (by omega)))
          · exact m6.elim (fun e => Or.inr e.2) (fun e => Or.inl (gh_ok5 (gc_bS hb (p := 48) rfl) rfl (by omega)))
          · exact Or.inl (gh_ok0 (gc_bS hb (p := 48) rfl) rfl)
          · exact Or.inl (gh_ok0 (gc_bS hb (p := 56) rfl) rfl)
          · exact Or.inl (gh_ok0 (gc_bS hb (p := 57) rfl) rfl)
          · exact Or.inl (gh_ok0 Ft_5 rfl)
          · exact Or.inl (gh_ok0 (gc_bS hb (p := 35) rfl) rfl)
          · exact Or.inl (gh_ok0 (gc_bS hb (p := 36) rfl) rfl)
          · exact Or.inl (gh_ok0 (gc_bS hb (p := 35) rfl) rfl)
          · exact Or.inl (gh_ok0 (gc_bS hb (p := 37) rfl) rfl)
          · exact Or.inl (gh_ok0 (gc_bS hb (p := 38) rfl) rfl)
          ) Or.inr) (fun q j => (k4 q j).imp (fun h => h.elim) id)
      have hk4 := gh_HS_k (i := Int.toNat a1) hs9 (by omega) ht hI4 ok4 (fun q j => (g4 q j).imp (fun h => by omega) id) (fun q j => (k4 q j).imp (fun h => h.elim) id)
      have hs4 := hk4.1
      have hC4 : gh_HC sh ro A I4 := ⟨kFN, kFZ, (by have h1 := ((g4 86 2).resolve_left (by omega)); have h2 := ((g4 86 4).resolve_left (by omega)); have h3 := hC9.2.2.1; omega), (by have h1 := ((g4 100 2).resolve_left (by omega)); have h2 := ((g4 100 1).resolve_left (by omega)); have h3 := hk4.2.1 8 1 (by decide) (by decide); have h4 := hC9.2.2.2.1; omega), (gh_SN_fr hC9.2.2.2.2.1 ((g4 100 9).resolve_left (by omega))), (gh_FBT_t hs9.2.2.2.1 hC9.2.2.2.2.2.1 hk4.2 (by omega) (by omega) ht (fun q j hq => (g4 q j).imp (fun h => by omega) id) (by rw [show I4 (t + 17) 8 = I9 (t + 17) 8 from (g4 (t + 17) 8).resolve_left (by omega)]; exact gc_FB_fr FB9.1 (fun k9 => (g4 (t + 17 + 4) k9).resolve_left (by omega)) (fun k9 => (g4 (t + 17 + 3) k9).resolve_left (by omega))) (by have h9 := (g4 (t + 17) 8).resolve_left (by omega); have h8 := FB9.2.1 (by omega); omega) (fun h9 => by rw [(g4 (t + 17) 6).resolve_left (by omega), (g4 (t + 17) 7).resolve_left (by omega)]; exact h9) (gh_BD_fr gh_BD_rf ((g4 (t + 17) 8).resolve_left (by omega)) ((g4 (t + 17) 9).resolve_left (by omega)) (fun k => (g4 (t + 18) k).resolve_left (by omega)) (fun k => (g4 (t + 19) k).resolve_left (by omega)) (fun k => (g4 (t + 20) k).resolve_left (by omega)) (fun k => (g4 (t + 21) k).resolve_left (by omega)))), (gh_TRE_k hC9.2.2.2.2.2.2.1 hk4.2 (fun q j h1 h2 h3 => ((g4 q j).resolve_left (by omega)))), (Or.inl ⟨((g4 61 3).resolve_left (by omega)).trans cl.1, ((g4 61 15).resolve_left (by omega)).trans cl.2⟩)⟩
      subst m1
      exact ih 35 v6 v7 n (i + 1) v4 I4 J4 (by omega) (gc_b35 hb) m5 m4 hn (by omega) hv hs4 hC4 (gh_SE_trans se9 hk4.2) (((g4 23 1).resolve_left (by omega)).trans e23) ⟨fun k => ((g4 24 k).resolve_left (by omega)).trans (e24.1 k), gh_E9_tr e24.2 ⟨(g4 100 9).resolve_left (by omega), fun _ => ⟨(g4 100 1).resolve_left (by omega), (g4 100 2).resolve_left (by omega), fun k => (g4 101 k).resolve_left (by omega)⟩, fun _ => ⟨(g4 100 4).resolve_left (by omega), (g4 100 7).resolve_left (by omega), (g4 100 8).resolve_left (by omega), fun k => (g4 102 k).resolve_left (by omega), fun k => (g4 103 k).resolve_left (by omega)⟩, fun _ => ⟨(g4 100 14).resolve_left (by omega), fun k => (g4 111 k).resolve_left (by omega), fun k => (g4 112 k).resolve_left (by omega)⟩⟩⟩ ⟨((g4 61 3).resolve_left (by omega)).trans cl.1, ((g4 61 15).resolve_left (by omega)).trans cl.2⟩ (r4.imp id (fun h => gh_RF_n (i := Int.toNat a1) hs9 (by omega) ht hk4.2 h)) (gc_SP_fr sp ((g4 31 4).resolve_left (by omega)) (fun k => (g4 33 k).resolve_left (by omega)) (fun k => (g4 34 k).resolve_left (by omega))) m3 (by rw [show I4 31 4 = I9 31 4 from (g4 31 4).resolve_left (by omega)]; exact gh_CA_fr ca (fun k => (g4 143 k).resolve_left (by omega)) (fun k => (g4 (t + 17 + 2) k).resolve_left (by omega)))
  have hX : gv_X (gc_E12 ws0 tb 97 (yX12_mend, cX12_mend, 10, (some .int)) kX12_mend) (gv_Q cX12_mend (some .int) sh (fun r hₚ => ∃ (z : Int) (Iₚ : gr_I) (Jₚ : gr_J), r = some (.inl z) ∧ hₚ = gc_h sh Iₚ Jₚ A ∧ gh_K sh ro A I J Iₚ Jₚ 0 0)) (0, [(0, .inr (.inr (some 0))), (1, .inl a1), (2, .inl a2)], [], sh, gc_h sh I J A) := by
    have st : ∀ (I1 : gr_I) (J1 : gr_J), gc_Inv ro I1 → (∀ q j : Nat, ((q = 61 ∧ j = 3) ∨ (q = 61 ∧ j = 4) ∨ (q = 61 ∧ j = 15) ∨ (q = 48 ∧ j = 3) ∨ (q = 48 ∧ j = 6) ∨ (q = 27 ∧ j = 1) ∨ (q = 31 ∧ j = 1) ∨ q = 32 ∨ (q = 23 ∧ j = 1) ∨ (q = 23 ∧ j = 4) ∨ q = 25 ∨ q = 26 ∨ (q = 31 ∧ j = 4) ∨ q = 33 ∨ q = 34) ∨ I1 q j = I q j) → (∀ q j : Nat, (False) ∨ J1 q j = J q j) → gc_FN I1 → gc_FZ I1 → (I1 61 3 = 0 ∧ I1 61 15 = 0) → gh_HS sh ro I1 J1 A ∧ gh_HC sh ro A I1 ∧ gh_SE sh ro A I I1 J J1 ∧ ((∀ k, I1 24 k = I 24 k) ∧ gh_E9 0 I I1) := fun I1 J1 hI1 g1 k1 kFN kFZ cl => by
      have ok1 : gc_OK sh I1 J1 A := gh_OK_g hs.2.2.1 (fun q j => (g1 q j).elim (fun h => by
          rcases h with ⟨rfl, rfl⟩ | ⟨rfl, rfl⟩ | ⟨rfl, rfl⟩ | ⟨rfl, rfl⟩ | ⟨rfl, rfl⟩ | ⟨rfl, rfl⟩ | ⟨rfl, rfl⟩ | rfl | ⟨rfl, rfl⟩ | ⟨rfl, rfl⟩ | rfl | rfl | ⟨rfl, rfl⟩ | rfl | rfl
          · exact Or.inl (gh_ok0 (gc_bS hb (p := 61) rfl) rfl)
          · exact Or.inl (gh_ok0 (gc_bS hb (p := 61) rfl) rfl)
          · exact Or.inl (gh_ok0 (gc_bS hb (p := 61) rfl) rfl)
          · exact Or.inl (gh_ok0 (gc_bS hb (p := 48) rfl) rfl)
          · exact Or.inl (gh_ok0 (gc_bS hb (p := 48) rfl) rfl)
          · exact Or.inl (gh_ok0 (gc_bS hb (p := 27) rfl) rfl)
          · exact Or.inl (gh_ok0 (gc_bS hb (p := 31) rfl) rfl)
          · exact Or.inl (gh_ok0 (gc_bS hb (p := 32) rfl) rfl)
          · exact Or.inl (gh_ok0 (gc_bS hb (p := 23) rfl) rfl)
          · exact Or.inl (gh_ok0 (gc_bS hb (p := 23) rfl) rfl)
          · exact Or.inl (gh_ok0 (gc_bS hb (p := 25) rfl) rfl)
          · exact Or.inl (gh_ok0 (gc_bS hb (p := 26) rfl) rfl)
          · exact Or.inl (gh_ok0 (gc_bS hb (p := 31) rfl) rfl)
          · exact Or.inl (gh_ok0 (gc_bS hb (p := 33) rfl) rfl)
          · exact Or.inl (gh_ok0 (gc_bS hb (p := 34) rfl) rfl)
          ) Or.inr) (fun q j => (k1 q j).imp (fun h => h.elim) id)
      have hk1 := gh_HS_n hs hI1 ok1 (fun q j => (g1 q j).imp (fun h => by omega) id) (fun q j => (k1 q j).imp (fun h => h.elim) id)
      have hs1 := hk1.1
      have hC1 : gh_HC sh ro A I1 := ⟨kFN, kFZ, (by have h1 := ((g1 86 2).resolve_left (by omega)); have h2 := ((g1 86 4).resolve_left (by omega)); have h3 := hC.2.2.1; omega), (by have h1 := ((g1 100 2).resolve_left (by omega)); have h2 := ((g1 100 1).resolve_left (by omega)); have h3 := hk1.2.1 8 1 (by decide) (by decide); have h4 := hC.2.2.2.1; omega), (gh_SN_fr hC.2.2.2.2.1 ((g1 100 9).resolve_left (by omega))), (gh_FBT_fr hC.2.2.2.2.2.1 hk1.2 (fun i9 t9 d j hi9 ht9 h1 h2 => (g1 (t9 + d) j).resolve_left (by have := (hs.2.2.2.1.1 i9 t9 hi9 ht9).2.1; omega))), (gh_TRE_k hC.2.2.2.2.2.2.1 hk1.2 (fun q j h1 h2 h3 => ((g1 q j).resolve_left (by omega)))), (Or.inl cl)⟩
      exact ⟨hs1, hC1, hk1.2, ⟨fun k => (g1 24 k).resolve_left (by omega), ⟨(g1 100 9).resolve_left (by omega), fun _ => ⟨(g1 100 1).resolve_left (by omega), (g1 100 2).resolve_left (by omega), fun k => (g1 101 k).resolve_left (by omega)⟩, fun _ => ⟨(g1 100 4).resolve_left (by omega), (g1 100 7).resolve_left (by omega), (g1 100 8).resolve_left (by omega), fun k => (g1 102 k).resolve_left (by omega), fun k => (g1 103 k).resolve_left (by omega)⟩, fun _ => ⟨(g1 100 14).resolve_left (by omega), fun k => (g1 111 k).resolve_left (by omega), fun k => (g1 112 k).resolve_left (by omega)⟩⟩⟩⟩
    refine d_X12_mend_h hws htb sh ro I J A hI t a1 a2 hb Tt.1 Gt ⟨by omega, by omega⟩ ⟨by omega, by omega⟩ h1 ht (by omega) hC.1 hC.2.1 (fun v h => ?_) (fun I1 J1 v4 hI1 g1 k1 kFN kFZ m7 sp => ?_)
    · obtain ⟨r, h1, h2, I1, J1, h3, hI1, g1, k1, kFN, kFZ, z, rfl, _, _, p2, p3⟩ := h
      obtain ⟨q1, q2, q3, q4⟩ := st I1 J1 hI1 g1 k1 kFN kFZ p3
      exact ⟨_, h1, h2, z, I1, J1, rfl, h3, q1, q2, q3, p2, fun k _ => q4.1 k, q4.2⟩
    · obtain ⟨_, _, m2, m3, _, _, p2, p3⟩ := m7
      obtain ⟨hs1, hC1, se1, b1⟩ := st I1 J1 hI1 g1 k1 kFN kFZ p3
      have e81 := se1.1 8 1 (by decide) (by decide)
      have e21 := se1.1 2 1 (by decide) (by decide)
      obtain ⟨tL, tl, _, sc, _⟩ := gh_tng (i := Int.toNat a1) hs1 (by omega) ht
      have FB1 := hC1.2.2.2.2.2.1 (Int.toNat a1) t (by omega) ht
      refine d_X12_mend_b hws htb sh ro I1 J1 A hI1 a1 a2 t v4 hb Tt.1 Gt ⟨by omega, by omega⟩ ⟨by omega, by omega⟩ ⟨by omega, by omega⟩ (by omega) tL (gh_UNC tl) sc FB1.1 (FB1.2.1 (by omega)) sp m3 hC1.1 hC1.2.1 (fun I2 J2 v6 v7 v8 v9 hI2 g2 k2 kFN kFZ nB m8 sp2 fb2 rf2 ca2 => ?_)
      obtain ⟨_, _, _, _, _, _, _, n1, n2, n3, n4, n5, n6, n7, nF⟩ := m8
      have ok2 : gc_OK sh I2 J2 A := gh_OK_g hs1.2.2.1 (fun q j => (g2 q j).elim (fun h => by
          rcases h with ⟨rfl, rfl⟩ | ⟨rfl, rfl⟩ | ⟨rfl, rfl⟩ | rfl | rfl | rfl | rfl | rfl | ⟨rfl, rfl⟩ | rfl | rfl | rfl | ⟨rfl, rfl⟩ | ⟨rfl, rfl⟩ | rfl | rfl | ⟨rfl, rfl⟩ | ⟨rfl, rfl⟩ | ⟨rfl, rfl⟩ | rfl | rfl | ⟨rfl, rfl⟩ | ⟨rfl, rfl⟩ | rfl | rfl | rfl | rfl | ⟨rfl, rfl⟩ | ⟨rfl, rfl⟩ | rfl | rfl | rfl | rfl
          · exact Or.inl (gh_ok0 (gc_bS hb (p := 48) rfl) rfl)
          · exact Or.inl (gh_ok0 (gc_bS hb (p := 48) rfl) rfl)
          · exact Or.inl (gh_ok0 (gc_bS hb (p := 48) rfl) rfl)
          · exact Or.inl (gh_ok0 (gc_bS hb (p := 51) rfl) rfl)
          · exact Or.inl (gh_ok0 (gc_bS hb (p := 52) rfl) rfl)
          · exact Or.inl (gh_ok0 (gc_bS hb (p := 53) rfl) rfl)
          · exact Or.inl (gh_ok0 (gc_bS hb (p := 54) rfl) rfl)
          · exact Or.inl (gh_ok0 (gc_bS hb (p := 55) rfl) rfl)
          · exact Or.inl (gh_ok0 (gc_bS hb (p := 48) rfl) rfl)
          · exact Or.inl (gh_ok0 (gc_bS hb (p := 58) rfl) rfl)
          · exact Or.inl (gh_ok0 (gc_bS hb (p := 59) rfl) rfl)
          · exact Or.inl (gh_ok0 (gc_bS hb (p := 60) rfl) rfl)
          · exact Or.inl (gh_ok0 (gc_bS hb (p := 48) rfl) rfl)
          · exact Or.inl (gh_ok0 (gc_bS hb (p := 48) rfl) rfl)
          · exact Or.inl (gh_ok0 (gc_bS hb (p := 49) rfl) rfl)
          · exact Or.inl (gh_ok0 (gc_bS hb (p := 50) rfl) rfl)
          · exact Or.inl (gh_ok5 (gc_bS hb (p := 48) rfl) rfl (by omega))
          · exact Or.inl (gh_ok5 (gc_bS hb (p := 48) rfl) rfl (by omega))
          · exact Or.inl (gh_ok0 (gc_bS hb (p := 48) rfl) rfl)
          · exact Or.inl (gh_ok0 (gc_bS hb (p := 56) rfl) rfl)
          · exact Or.inl (gh_ok0 (gc_bS hb (p := 57) rfl) rfl)
          · exact Or.inl (gh_ok0 Ft_0 rfl)
          · exact Or.inl (gh_ok0 Ft_0 rfl)
          · exact Or.inl (gh_ok0 Ft_1 rfl)
          · exact Or.inl (gh_ok0 Ft_2 rfl)
          · exact Or.inl (gh_ok0 Ft_3 rfl)
          · exact Or.inl (gh_ok0 Ft_4 rfl)
          · have h9 : (0 : Int) ≤ I2 (t + 17) 6 ∧ I2 (t + 17) 6 ≤ 1 := gc_in hI2 (Ft_R) rfl rfl
            exact Or.inl (gh_okn (n := 6) Ft_0 rfl (by omega))
          · have h9 : (0 : Int) ≤ I2 (t + 17) 7 ∧ I2 (t + 17) 7 ≤ 1 := gc_in hI2 (Ft_R) rfl rfl
            exact Or.inl (gh_okn (n := 6) Ft_0 rfl (by omega))
          · exact Or.inl (gh_ok0 Ft_6 rfl)
          · exact Or.inl (gh_ok0 Ft_7 rfl)
          · exact Or.inl (gh_ok0 Ft_5 rfl)
          · exact Or.inl (gh_ok0 (gc_bS hb (p := 143) rfl) rfl)
          ) Or.inr) (fun q j => (k2 q j).imp (fun h => h.elim) id)
      have hk2 := gh_HS_k (i := Int.toNat a1) hs1 (by omega) ht hI2 ok2 (fun q j => (g2 q j).imp (fun h => by omega) id) (fun q j => (k2 q j).imp (fun h => h.elim) id)
      have hs2 := hk2.1
      have hC2 : gh_HC sh ro A I2 := ⟨kFN, kFZ, (by have h1 := ((g2 86 2).resolve_left (by omega)); have h2 := ((g2 86 4).resolve_left (by omega)); have h3 := hC1.2.2.1; omega), (by have h1 := ((g2 100 2).resolve_left (by omega)); have h2 := ((g2 100 1).resolve_left (by omega)); have h3 := hk2.2.1 8 1 (by decide) (by decide); have h4 := hC1.2.2.2.1; omega), (gh_SN_fr hC1.2.2.2.2.1 ((g2 100 9).resolve_left (by omega))), (gh_FBT_t hs1.2.2.2.1 hC1.2.2.2.2.2.1 hk2.2 (by omega) (by omega) ht (fun q j hq => (g2 q j).imp (fun h => by omega) id) (by rw [n3]; exact fb2) (by omega) (fun h9 => by omega) nB), (gh_TRE_k hC1.2.2.2.2.2.2.1 hk2.2 (fun q j h1 h2 h3 => ((g2 q j).resolve_left (by omega)))), (Or.inl ⟨((g2 61 3).resolve_left (by omega)).trans p3.1, ((g2 61 15).resolve_left (by omega)).trans p3.2⟩)⟩
      subst n1
      have n2a := n2.1
      subst n2a
      exact loop 1001 31 0 v7 v8 0 v4 I2 J2 (by decide) (gc_b31 hb) ⟨by decide, by decide⟩ n5 n6 ⟨by decide, by decide⟩ ⟨by omega, by omega⟩ hs2 hC2 (gh_SE_trans se1 hk2.2) (((g2 23 1).resolve_left (by omega)).trans p2) ⟨fun k => ((g2 24 k).resolve_left (by omega)).trans (b1.1 k), gh_E9_tr b1.2 ⟨(g2 100 9).resolve_left (by omega), fun _ => ⟨(g2 100 1).resolve_left (by omega), (g2 100 2).resolve_left (by omega), fun k => (g2 101 k).resolve_left (by omega)⟩, fun _ => ⟨(g2 100 4).resolve_left (by omega), (g2 100 7).resolve_left (by omega), (g2 100 8).resolve_left (by omega), fun k => (g2 102 k).resolve_left (by omega), fun k => (g2 103 k).resolve_left (by omega)⟩, fun _ => ⟨(g2 100 14).resolve_left (by omega), fun k => (g2 111 k).resolve_left (by omega), fun k => (g2 112 k).resolve_left (by omega)⟩⟩⟩ ⟨((g2 61 3).resolve_left (by omega)).trans p3.1, ((g2 61 15).resolve_left (by omega)).trans p3.2⟩ (rf2.imp id (fun h => gh_RF_n (i := Int.toNat a1) hs1 (by omega) ht hk2.2 h)) sp2 n4 ca2
  obtain ⟨r, hₚ, E9, z, Iₚ, Jₚ, rfl, rfl, hK⟩ := gc_ev12 (d := 97) (l := kX12_mend) (M := (yX12_mend, cX12_mend, 10, (some .int))) (av := [.inr (.inr (some 0)), .inl a1, .inl a2]) (Po := fun r hₚ => ∃ (z : Int) (Iₚ : gr_I) (Jₚ : gr_J), r = some (.inl z) ∧ hₚ = gc_h sh Iₚ Jₚ A ∧ gh_K sh ro A I J Iₚ Jₚ 0 0) htb rfl (Nat.le_of_ble_eq_true rfl) hX
  exact ⟨z, Iₚ, Jₚ, gz_Ev_mono (by decide) E9, hK⟩
