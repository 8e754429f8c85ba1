set_option maxHeartbeats 2000000 in
theorem hh_say {ws0 : List Cond} {tb : String → gz_T} (hws : gc_Ws ws0) (htb : gc_tbs tb) {sh : gz_Sh} {ro : Nat → Nat} {I : gr_I} {J : gr_J} {A : gc_A} (hs : gh_HS sh ro I J A) (hc : gh_HC sh ro A I) (a1 : Int) (a2 : Int) (a3 : Int) (h1 : 0 ≤ a1 ∧ a1 < I 8 1) (ra2 : 0 ≤ a2 ∧ a2 ≤ 7) (ra3 : (-2147483648) ≤ a3 ∧ a3 ≤ 2147483647) : ∃ (z : Int) (Iₚ : gr_I) (Jₚ : gr_J), gz_Ev ws0 tb 100 (yX12_say, cX12_say, 5, (some .int)) [.inr (.inr (some 0)), .inl a1, .inl a2, .inl a3] sh (gc_h sh I J A) (some (.inl z)) sh (gc_h sh Iₚ Jₚ A) 0 0 ∧ gh_K sh ro A I J Iₚ Jₚ (I 23 1) 0 := by
  have hb := hs.1
  have hI := hs.2.1
  have hok := hs.2.2.1
  have hT := hs.2.2.2.1
  have hU := hs.2.2.2.2.1
  have i8 : 0 ≤ I 8 1 ∧ I 8 1 ≤ 8 := gc_in hI (gc_bR hb (by decide) rfl) rfl rfl
  have h144 := gc_Base_len hb
  obtain ⟨c1, c2, c3, c4, c5, c6, c7, c8⟩ := id hc
  obtain ⟨t, ht, tL, tv, tl, tw⟩ := hU (Int.toNat a1) (by omega)
  have Tt := hT.1 (Int.toNat a1) t (by omega) ht
  have Gt := Tt.2.1
  have FB := c6 (Int.toNat a1) t (by omega) ht
  obtain ⟨u, A_u, S_u, R_u, B_u, D_u⟩ := gh_plc hb (Int.toNat a2) (by omega)
  obtain ⟨r, hₚ, E, Iₚ, Jₚ, rfl, hIₚ, g, k, z, rfl, p0, p1, p2, p3, p4, pF, pB⟩ := d_X12_say hws htb sh ro I J A hI t u (gc_lsl A I t) (gh_sg A I t) a1 a2 a3 hb Tt.1 Tt.2.1 S_u R_u B_u ⟨by omega, by omega⟩ ⟨by omega, by omega⟩ ⟨by omega, by omega⟩ ⟨by omega, by omega⟩ ht Tt.2.2 FB.1 (FB.2.1 (by omega)) A_u D_u (by have h8 := c7 (Int.toNat a2) (by omega); rw [← D_u] at h8; exact h8.imp id (fun h7 => h7.1)) tL (gh_LP_of tl) (gh_SO_of tl (fun k9 => gc_in hI (gc_bR hb (p := 12) (by decide) rfl) rfl rfl)) (gh_AG_of tl)
  obtain ⟨b0, b1, b2, b3, b4, b5, b6, b7, b8, b9, b10, b11, b12, b13, b14, b15, b16, b17, b18, b19, b20, b21, b22, b23, b24, b25, b26, b27, b28, b29, b30, b31, b32, b33, b34, b35, b36, b37, b38, b39, b40, b41, b42, b43, b44⟩ := id Tt.1
  obtain ⟨f0, f1, f2, f3, f4, f5, f6, f7, f8, f9, f10, f11, f12, f13, f14, f15, f16, f17, f18, f19, f20, f21, f22, f23, f24, f25, f26, f27, f28, f29, f30, f31, f32⟩ := id b44
  have F_0 := f0
  have F_R := f1
  have F_1 := f8
  have F_2 := f12
  have F_3 := f16
  have F_4 := f20
  have F_5 := f24
  have F_6 := f27
  have F_7 := f30
  have lt7 := gc_x_lt F_7
  have ok' : gc_OK sh Iₚ Jₚ A := gh_OK_g hok (fun q j => (g q j).elim (fun h => by
      rcases h with ⟨rfl, rfl⟩ | ⟨rfl, rfl⟩ | rfl | rfl | rfl | rfl | ⟨rfl, rfl⟩ | ⟨rfl, rfl⟩ | rfl | rfl | ⟨rfl, rfl⟩ | ⟨rfl, rfl⟩ | rfl | rfl | rfl | rfl | rfl | rfl | rfl | rfl | rfl | rfl | rfl | rfl | ⟨rfl, rfl⟩ | rfl
      · exact Or.inl (gh_ok0 F_0 rfl)
      · exact Or.inl (gh_ok0 F_0 rfl)
      · exact Or.inl (gh_ok0 F_1 rfl)
      · exact Or.inl (gh_ok0 F_2 rfl)
      · exact Or.inl (gh_ok0 F_3 rfl)
      · exact Or.inl (gh_ok0 F_4 rfl)
      · have h9 : (0 : Int) ≤ Iₚ (t + 17) 6 ∧ Iₚ (t + 17) 6 ≤ 1 := gc_in hIₚ (F_R) rfl rfl
        exact Or.inl (gh_okn (n := 6) F_0 rfl (by omega))
      · have h9 : (0 : Int) ≤ Iₚ (t + 17) 7 ∧ Iₚ (t + 17) 7 ≤ 1 := gc_in hIₚ (F_R) rfl rfl
        exact Or.inl (gh_okn (n := 6) F_0 rfl (by omega))
      · exact Or.inl (gh_ok0 F_6 rfl)
      · exact Or.inl (gh_ok0 F_7 rfl)
      · exact p4.elim Or.inr (fun e => Or.inl (gh_ok5 (gc_bS hb (p := 74) rfl) rfl (by omega)))
      · exact Or.inl (gh_ok0 (gc_bS hb (p := 74) rfl) rfl)
      · exact Or.inl (gh_ok0 (gc_bS hb (p := 22) rfl) rfl)
      · exact Or.inl (gh_ok0 (gc_bS hb (p := 75) rfl) rfl)
      · exact Or.inl (gh_ok0 (gc_bS hb (p := 76) rfl) rfl)
      · exact Or.inl (gh_ok0 (gc_bS hb (p := 77) rfl) rfl)
      · exact Or.inl (gh_ok0 (gc_bS hb (p := 78) rfl) rfl)
      · exact Or.inl (gh_ok0 (gc_bS hb (p := 79) rfl) rfl)
      · exact Or.inl (gh_ok0 (gc_bS hb (p := 80) rfl) rfl)
      · exact Or.inl (gh_ok0 (gc_bS hb (p := 81) rfl) rfl)
      · exact Or.inl (gh_ok0 (gc_bS hb (p := 82) rfl) rfl)
      · exact Or.inl (gh_ok0 (gc_bS hb (p := 83) rfl) rfl)
      · exact Or.inl (gh_ok0 (gc_bS hb (p := 84) rfl) rfl)
      · exact Or.inl (gh_ok0 (gc_bS hb (p := 85) rfl) rfl)
      · exact Or.inl (gh_ok0 (gc_bS hb (p := 27) rfl) rfl)
      · exact Or.inl (gh_ok0 (gc_bS hb (p := 28) rfl) rfl)
      ) Or.inr) (fun q j => (k q j).imp (fun h => h.elim) id)
  have hk := gh_HS_k (i := Int.toNat a1) hs (by omega) ht hIₚ ok' (fun q j => (g q j).imp (fun h => by omega) id) (fun q j => (k q j).imp (fun h => h.elim) id)
  refine ⟨z, Iₚ, Jₚ, gz_Ev_mono (by decide) E, ⟨hk.1, ⟨(gc_FN_fr c1 (fun k => ((g 49 k).resolve_left (by omega))) (fun k => ((g 50 k).resolve_left (by omega)))), (gc_FZ_fr c2 ((g 2 1).resolve_left (by omega)) (fun k => ((g 49 k).resolve_left (by omega))) (fun k => ((g 50 k).resolve_left (by omega)))), (by have h1 := ((g 86 2).resolve_left (by omega)); have h2 := ((g 86 4).resolve_left (by omega)); omega), (by have h1 := ((g 100 2).resolve_left (by omega)); have h2 := ((g 100 1).resolve_left (by omega)); have h3 := hk.2.1 8 1 (by decide) (by decide); omega), (gh_SN_fr c5 ((g 100 9).resolve_left (by omega))), (gh_FBT_t hT c6 hk.2 (by omega) (by omega) ht (fun q j hq => (g q j).imp (fun h => by omega) id) p2 p3 (fun h9 => by omega) pB), (gh_TRE_k c7 hk.2 (fun q j h1 h2 h3 => ((g q j).resolve_left (by omega)))), (gh_RKO_fr hs c8 hk.2 (fun q j h1 h2 => ((g q j).resolve_left (by omega))))⟩, hk.2, ((g 23 1).resolve_left (by omega)), (fun k9 h9 => ((g 24 k9).resolve_left (by omega))), ⟨(g 100 9).resolve_left (by omega), fun _ => ⟨(g 100 1).resolve_left (by omega), (g 100 2).resolve_left (by omega), fun k => (g 101 k).resolve_left (by omega)⟩, fun _ => ⟨(g 100 4).resolve_left (by omega), (g 100 7).resolve_left (by omega), (g 100 8).resolve_left (by omega), fun k => (g 102 k).resolve_left (by omega), fun k => (g 103 k).resolve_left (by omega)⟩, fun _ => ⟨(g 100 14).resolve_left (by omega), fun k => (g 111 k).resolve_left (by omega), fun k => (g 112 k).resolve_left (by omega)⟩⟩⟩⟩
set_option maxHeartbeats 2000000 in
theorem hh_reading_o {ws0 : List Cond} {tb : String → gz_T} (hws : gc_Ws ws0) (htb : gc_tbs tb) {sh : gz_Sh} {ro : Nat → Nat} {I : gr_I} {J : gr_J} {A : gc_A} (hs : gh_HS sh ro I J A) (hc : gh_HC sh ro A I) (a1 : Int) (a2 : Int) (ra1 : (-2147483648) ≤ a1 ∧ a1 ≤ 2147483647) (ra2 : 0 ≤ a2 ∧ a2 ≤ 7) (i : Nat) (t : Nat) (h1 : (i : Int) < I 8 1) (ht : A 10 i = some t) (o1 : I 61 3 = 1) (o2 : I 61 2 = (t : Int)) (rk1 : gh_RK1 A I t) : ∃ (z : Int) (Iₚ : gr_I) (Jₚ : gr_J), gz_Ev ws0 tb 100 (yX12_reading, cX12_reading, 4, (some .int)) [.inr (.inr (some 0)), .inl a1, .inl a2] sh (gc_h sh I J A) (some (.inl z)) sh (gc_h sh Iₚ Jₚ A) 0 0 ∧ gh_K sh ro A I J Iₚ Jₚ (I 23 1) 0 := by
  have hb := hs.1
  have hI := hs.2.1
  have hok := hs.2.2.1
  have hT := hs.2.2.2.1
  have hU := hs.2.2.2.2.1
  have i8 : 0 ≤ I 8 1 ∧ I 8 1 ≤ 8 := gc_in hI (gc_bR hb (by decide) rfl) rfl rfl
  have h144 := gc_Base_len hb
  obtain ⟨c1, c2, c3, c4, c5, c6, c7, c8⟩ := id hc
  obtain ⟨t9, w1, tL, tv, tl, tw⟩ := hU i h1
  cases w1.symm.trans ht
  obtain ⟨k1, k2, k3, k4, k5⟩ := id rk1
  have Tt := hT.1 (i) t (by omega) ht
  have Gt := Tt.2.1
  have FB := c6 (i) t (by omega) ht
  obtain ⟨u, A_u, S_u, R_u, B_u, D_u⟩ := gh_plc hb (Int.toNat a2) (by omega)
  obtain ⟨r, hₚ, E, Iₚ, Jₚ, rfl, hIₚ, g, k, z, rfl, p0, p1, p2, p3, p4, p5, p6⟩ := d_X12_reading_o hws htb sh ro I J A hI t u (gc_lsl A I t) a1 a2 hb Tt.1 Tt.2.1 S_u R_u B_u ⟨by omega, by omega⟩ ⟨by omega, by omega⟩ tL k1 (fun i9 q9 _ hA9 => (gc_lsl_at hA9).symm) k3 c1 k4 k5 o1 o2 (gh_ARF tL tl tw (fun k9 => gc_in hI (gc_bR hb (p := 12) (by decide) rfl) rfl rfl) k1 k2) (gh_SOP_of tl (fun k9 => gc_in hI (gc_bR hb (p := 12) (by decide) rfl) rfl rfl)) A_u D_u
  have ok' : gc_OK sh Iₚ Jₚ A := gh_OK_g hok (fun q j => (g q j).elim (fun h => by
      rcases h with ⟨rfl, rfl⟩ | ⟨rfl, rfl⟩ | ⟨rfl, rfl⟩ | ⟨rfl, rfl⟩ | ⟨rfl, rfl⟩ | rfl | rfl | rfl | rfl | rfl | rfl | rfl | rfl | rfl | rfl | rfl | rfl | ⟨rfl, rfl⟩
      · exact Or.inl (gh_ok0 (gc_bS hb (p := 61) rfl) rfl)
      · exact Or.inl (gh_ok0 (gc_bS hb (p := 61) rfl) rfl)
      · have h9 : (0 : Int) ≤ Iₚ 61 9 ∧ Iₚ 61 9 ≤ 1 := gc_in hIₚ (gc_bR hb (by decide) rfl) rfl rfl
        exact Or.inl (gh_okn (n := 4) (gc_bS hb (p := 61) rfl) rfl (by omega))
      · have h9 : (0 : Int) ≤ Iₚ 61 10 ∧ Iₚ 61 10 ≤ 1 := gc_in hIₚ (gc_bR hb (by decide) rfl) rfl rfl
        exact Or.inl (gh_okn (n := 4) (gc_bS hb (p := 61) rfl) rfl (by omega))
      · exact Or.inl (gh_ok0 (gc_bS hb (p := 61) rfl) rfl)
      · exact Or.inl (gh_ok0 (gc_bS hb (p := 64) rfl) rfl)
      · exact Or.inl (gh_ok0 (gc_bS hb (p := 65) rfl) rfl)
      · exact Or.inl (gh_ok0 (gc_bS hb (p := 66) rfl) rfl)
      · exact Or.inl (gh_ok0 (gc_bS hb (p := 67) rfl) rfl)
      · exact Or.inl (gh_ok0 (gc_bS hb (p := 68) rfl) rfl)
      · exact Or.inl (gh_ok0 (gc_bS hb (p := 69) rfl) rfl)
      · exact Or.inl (gh_ok0 (gc_bS hb (p := 70) rfl) rfl)
      · exact Or.inl (gh_ok0 (gc_bS hb (p := 71) rfl) rfl)
      · exact Or.inl (gh_ok0 (gc_bS hb (p := 72) rfl) rfl)
      · exact Or.inl (gh_ok0 (gc_bS hb (p := 73) rfl) rfl)
      · exact Or.inl (gh_ok0 (gc_bS hb (p := 123) rfl) rfl)
      · exact Or.inl (gh_ok0 S_u rfl)
      · exact Or.inl (gh_ok0 (gc_bS hb (p := 124) rfl) rfl)
      ) Or.inr) (fun q j => (k q j).imp (fun h => h.elim) id)
  have hk := gh_HS_n hs hIₚ ok' (fun q j => (g q j).imp (fun h => by omega) id) (fun q j => (k q j).imp (fun h => h.elim) id)
  refine ⟨z, Iₚ, Jₚ, gz_Ev_mono (by decide) E, ⟨hk.1, ⟨(gc_FN_fr c1 (fun k => ((g 49 k).resolve_left (by omega))) (fun k => ((g 50 k).resolve_left (by omega)))), (gc_FZ_fr c2 ((g 2 1).resolve_left (by omega)) (fun k => ((g 49 k).resolve_left (by omega))) (fun k => ((g 50 k).resolve_left (by omega)))), (by have h1 := ((g 86 2).resolve_left (by omega)); have h2 := ((g 86 4).resolve_left (by omega)); omega), (by have h1 := ((g 100 2).resolve_left (by omega)); have h2 := ((g 100 1).resolve_left (by omega)); have h3 := hk.2.1 8 1 (by decide) (by decide); omega), (gh_SN_fr c5 ((g 100 9).resolve_left (by omega))), (gh_FBT_fr c6 hk.2 (fun i t d j hi ht h1 h2 => (g (t + d) j).resolve_left (by have := (hT.1 i t hi ht).2.1; omega))), (gh_TRE_1 (p := Int.toNat a2) c7 hk.2 (fun k9 h1 h2 => (g 124 k9).resolve_left (by omega)) (fun k9 j h1 h2 => (g (115 + k9) j).resolve_left (by omega)) (by
      have h41 := hk.2.1 4 1 (by decide) (by decide)
      rw [h41, ← D_u]
      by_cases h9 : 0 < z
      · obtain ⟨w1, w2, w3⟩ := p5.resolve_left (by omega)
        rw [w3]
        exact Or.inr ⟨w1, w2⟩
      · obtain ⟨w1, w2⟩ := p6.resolve_left h9
        rw [w2]
        have h8 := c7 (Int.toNat a2) (by omega)
        rw [← D_u] at h8
        exact h8.imp id (fun h7 => ⟨gh_wtr_fu h7.1 h7.2 (fun j _ => hk.2.1 12 j (by decide) (by decide)) w1, fun k9 h1 h2 => by rw [w1]; exact h7.2 k9 h1 h2⟩))), (by
      have e11 := hk.2.2.1 i t 0 11 (by omega) ht (by decide)
      have e13 := hk.2.2.1 i t 0 13 (by omega) ht (by decide)
      have e81 := hk.2.1 8 1 (by decide) (by decide)
      rw [Nat.add_zero] at e11 e13
      have z : ∀ q j : Nat, 48 ≤ q → q ≤ 60 → Iₚ q j = I q j := fun q j h7 h8 => (g q j).resolve_left (by omega)
      have ls : ∀ j : Nat, (j : Int) < Iₚ t 13 → gc_lsl A Iₚ t j = gc_lsl A I t j := fun j hj => gh_lsl_eq tL (fun _ _ => rfl) hk.2.2.2.1 j (by omega)
      have wv : gc_WV t Iₚ := gc_WV_fr k1 (z 48 6 (by decide) (by decide)) e13 (fun k9 => z 54 k9 (by decide) (by decide))
      exact Or.inr ⟨((g 61 3).resolve_left (by omega)).trans o1, i, t, by omega, ht, ((g 61 2).resolve_left (by omega)).trans o2, wv, by rw [e11]; exact gc_WB_fr k2 (z 48 6 (by decide) (by decide)) (fun k9 => z 54 k9 (by decide) (by decide)), gh_WA_cg (gc_WA_fr k3 (z 48 6 (by decide) (by decide)) (Int.le_of_eq (z 48 3 (by decide) (by decide)).symm) (fun k9 => z 53 k9 (by decide) (by decide)) (fun k9 => z 54 k9 (by decide) (by decide)) (fun k9 => z 55 k9 (by decide) (by decide))) wv ls, by rw [z 48 10 (by decide) (by decide), z 49 _ (by decide) (by decide), z 50 _ (by decide) (by decide), z 48 3 (by decide) (by decide)]; exact k4, Or.inr ⟨gh_LH_cg p2 wv (fun k9 => (show (0 : Int) ≤ Iₚ 69 k9 ∧ Iₚ 69 k9 ≤ 8999 from gc_in hIₚ (gc_bR hb (by decide) rfl) rfl rfl).1) ls, p3⟩⟩)⟩, hk.2, ((g 23 1).resolve_left (by omega)), (fun k9 h9 => ((g 24 k9).resolve_left (by omega))), ⟨(g 100 9).resolve_left (by omega), fun _ => ⟨(g 100 1).resolve_left (by omega), (g 100 2).resolve_left (by omega), fun k => (g 101 k).resolve_left (by omega)⟩, fun _ => ⟨(g 100 4).resolve_left (by omega), (g 100 7).resolve_left (by omega), (g 100 8).resolve_left (by omega), fun k => (g 102 k).resolve_left (by omega), fun k => (g 103 k).resolve_left (by omega)⟩, fun _ => ⟨(g 100 14).resolve_left (by omega), fun k => (g 111 k).resolve_left (by omega), fun k => (g 112 k).resolve_left (by omega)⟩⟩⟩⟩
