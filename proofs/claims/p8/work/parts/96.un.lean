set_option maxHeartbeats 8000000 in
set_option maxRecDepth 100000 in
theorem hh_sounds_z {ws0 : List Cond} {tb : String → gz_T} (hws : gc_Ws ws0) (htb : gc_tbs tb) {sh : gz_Sh} {ro : Nat → Nat} {I : gr_I} {J : gr_J} {A : gc_A} (hs : gh_HS sh ro I J A) (hc : gh_HC sh ro A I) (a1 : Int) (h1 : 0 ≤ a1 ∧ a1 < I 8 1) (yl : ∀ t, A 10 (Int.toNat a1) = some t → so_lhs I t) : ∃ (t : Nat) (z : Int) (Iₚ : gr_I) (Jₚ : gr_J), gz_Ev ws0 tb 100 (yX12_sounds, cX12_sounds, 4, (some .int)) [.inr (.inr (some 0)), .inl a1] sh (gc_h sh I J A) (some (.inl z)) sh (gc_h sh Iₚ Jₚ A) 0 0 ∧ A 10 (Int.toNat a1) = some t ∧ so_ans (fun k : Nat => so_rc I t (k : Int)) (Int.toNat (I t 6)) (I 23 1) (I 24) z ∧ gh_K sh ro A I J Iₚ Jₚ (0) 0 := by
  have hb := hs.1
  have hI := hs.2.1
  have hok := hs.2.2.1
  have hT := hs.2.2.2.1
  have hU := hs.2.2.2.2.1
  have i8 : 0 ≤ I 8 1 ∧ I 8 1 ≤ 8 := gc_in hI (gc_bR hb (by decide) rfl) rfl rfl
  have h144 := gc_Base_len hb
  obtain ⟨c1, c2, c3, c4, c5, c6, c7, c8⟩ := id hc
  obtain ⟨t, ht, tL, tv, tl, tw⟩ := hU (Int.toNat a1) (by exact gz_m 0 (by omega))
  have Tt := hT.1 (Int.toNat a1) t (by exact gz_m 1 (by omega)) ht
  have Gt := Tt.2.1
  have FB := c6 (Int.toNat a1) t (by exact gz_m 2 (by omega)) ht
  obtain ⟨r, hₚ, E, Iₚ, Jₚ, rfl, hIₚ, g, k, z, rfl, p0, p1, p2, pA, pF⟩ := d_X12_sounds_p hws htb sh ro I J A hI t a1 hb Tt.1 Tt.2.1 ⟨by exact gz_m 3 (by omega), by exact gz_m 4 (by omega)⟩ ⟨by exact gz_m 5 (by omega), by exact gz_m 6 (by omega)⟩ ht Tt.2.2 FB.2.2.2.1 (yl t ht)
  obtain ⟨b0, b1, b2, b3, b4, b5, b6, b7, b8, b9, b10, b11, b12, b13, b14, b15, b16, b17, b18, b19, b20, b21, b22, b23, b24, b25, b26, b27, b28, b29, b30, b31, b32, b33, b34, b35, b36, b37, b38, b39, b40, b41, b42, b43, b44⟩ := id Tt.1
  obtain ⟨f0, f1, f2, f3, f4, f5, f6, f7, f8, f9, f10, f11, f12, f13, f14, f15, f16, f17, f18, f19, f20, f21, f22, f23, f24, f25, f26, f27, f28, f29, f30, f31, f32⟩ := id b44
  have F_0 := f0
  have F_R := f1
  have F_1 := f8
  have F_2 := f12
  have F_3 := f16
  have F_4 := f20
  have F_5 := f24
  have F_6 := f27
  have F_7 := f30
  have lt7 := gc_x_lt F_7
  have ok' : gc_OK sh Iₚ Jₚ A := gh_OK_g hok (fun q j => (g q j).elim (fun h => by
      rcases h with ⟨rfl, rfl⟩ | rfl | ⟨rfl, rfl⟩ | ⟨rfl, rfl⟩ | ⟨rfl, rfl⟩ | rfl | rfl
      · exact Or.inl (gh_ok0 (gc_bS hb (p := 27) rfl) rfl)
      · exact Or.inl (gh_ok0 (gc_bS hb (p := 28) rfl) rfl)
      · exact Or.inl (gh_ok0 (gc_bS hb (p := 23) rfl) rfl)
      · have h9 : (0 : Int) ≤ Iₚ (t + 17) 6 ∧ Iₚ (t + 17) 6 ≤ 1 := gc_in hIₚ (F_R) rfl rfl
        exact Or.inl (gh_okn (n := 6) F_0 rfl (by exact gz_m 7 (by omega)))
      · have h9 : (0 : Int) ≤ Iₚ (t + 17) 7 ∧ Iₚ (t + 17) 7 ≤ 1 := gc_in hIₚ (F_R) rfl rfl
        exact Or.inl (gh_okn (n := 6) F_0 rfl (by exact gz_m 8 (by omega)))
      · exact Or.inl (gh_ok0 F_6 rfl)
      · exact Or.inl (gh_ok0 F_7 rfl)
      ) Or.inr) (fun q j => (k q j).imp (fun h => h.elim) id)
  have hk := gh_HS_k (i := Int.toNat a1) hs (by exact gz_m 9 (by omega)) ht hIₚ ok' (fun q j => (g q j).imp (fun h => by exact gz_m 10 (by omega)) id) (fun q j => (k q j).imp (fun h => h.elim) id)
  refine ⟨t, z, Iₚ, Jₚ, gz_Ev_mono (by decide) E, ht, pA, ⟨hk.1, ⟨(gc_FN_fr c1 (fun k => ((g 49 k).resolve_left (by exact gz_m 11 (by omega)))) (fun k => ((g 50 k).resolve_left (by exact gz_m 12 (by omega))))), (gc_FZ_fr c2 ((g 2 1).resolve_left (by exact gz_m 13 (by omega))) (fun k => ((g 49 k).resolve_left (by exact gz_m 14 (by omega)))) (fun k => ((g 50 k).resolve_left (by exact gz_m 15 (by omega))))), (by have h1 := ((g 86 2).resolve_left (by exact gz_m 16 (by omega))); have h2 := ((g 86 4).resolve_left (by exact gz_m 17 (by omega))); exact gz_m 18 (by omega)), (by have h1 := ((g 100 2).resolve_left (by exact gz_m 19 (by omega))); have h2 := ((g 100 1).resolve_left (by exact gz_m 20 (by omega))); have h3 := hk.2.1 8 1 (by decide) (by decide); exact gz_m 21 (by omega)), (gh_SN_fr c5 ((g 100 9).resolve_left (by exact gz_m 22 (by omega)))), (gh_FBT_t hT c6 hk.2 (by exact gz_m 23 (by omega)) (by exact gz_m 24 (by omega)) ht (fun q j hq => (g q j).imp (fun h => by exact gz_m 25 (by omega)) id) (by rw [show Iₚ (t + 17) 8 = I (t + 17) 8 from (g (t + 17) 8).resolve_left (by exact gz_m 26 (by omega))]; exact gc_FB_fr FB.1 (fun k => (g (t + 17 + 4) k).resolve_left (by exact gz_m 27 (by omega))) (fun k => (g (t + 17 + 3) k).resolve_left (by exact gz_m 28 (by omega)))) (by have h9 := (g (t + 17) 8).resolve_left (by exact gz_m 29 (by omega)); have h8 := FB.2.1 (by exact gz_m 30 (by omega)); exact gz_m 31 (by omega)) (fun h9 => by exact gz_m 32 (by omega)) (gh_BD_fr gh_BD_rf ((g (t + 17) 8).resolve_left (by exact gz_m 33 (by omega))) ((g (t + 17) 9).resolve_left (by exact gz_m 34 (by omega))) (fun k => (g (t + 18) k).resolve_left (by exact gz_m 35 (by omega))) (fun k => (g (t + 19) k).resolve_left (by exact gz_m 36 (by omega))) (fun k => (g (t + 20) k).resolve_left (by exact gz_m 37 (by omega))) (fun k => (g (t + 21) k).resolve_left (by exact gz_m 38 (by omega))))), (gh_TRE_k c7 hk.2 (fun q j h1 h2 h3 => ((g q j).resolve_left (by exact gz_m 39 (by omega))))), (gh_RKO_fr hs c8 hk.2 (fun q j h1 h2 => ((g q j).resolve_left (by exact gz_m 40 (by omega)))))⟩, hk.2, by exact gz_m 41 (by omega), (fun k9 h9 => ((g 24 k9).resolve_left (by exact gz_m 42 (by omega)))), ⟨(g 100 9).resolve_left (by exact gz_m 43 (by omega)), fun _ => ⟨(g 100 1).resolve_left (by exact gz_m 44 (by omega)), (g 100 2).resolve_left (by exact gz_m 45 (by omega)), fun k => (g 101 k).resolve_left (by exact gz_m 46 (by omega))⟩, fun _ => ⟨(g 100 4).resolve_left (by exact gz_m 47 (by omega)), (g 100 7).resolve_left (by exact gz_m 48 (by omega)), (g 100 8).resolve_left (by exact gz_m 49 (by omega)), fun k => (g 102 k).resolve_left (by exact gz_m 50 (by omega)), fun k => (g 103 k).resolve_left (by exact gz_m 51 (by omega))⟩, fun _ => ⟨(g 100 14).resolve_left (by exact gz_m 52 (by omega)), fun k => (g 111 k).resolve_left (by exact gz_m 53 (by omega)), fun k => (g 112 k).resolve_left (by exact gz_m 54 (by omega))⟩⟩⟩⟩
set_option maxHeartbeats 8000000 in
set_option maxRecDepth 100000 in
theorem q_sounds_z {ws0 : List Cond} {tb : String → gz_T} (hws : ∀ w ∈ gr_ws, w ∈ ws0) (htb : tb RX13 = gr_T) (ext : gz_Sh) {n : Nat} {I : gr_I} {J : gr_J} (h : gq_St n I) (hn : n < 64) (a1 : Int) (ha1 : (-2147483648) ≤ a1 ∧ a1 ≤ 2147483647) (y0 : (0 ≤ a1 ∧ a1 < I 0 1) → gs_SV I a1) : ∃ r hₚ, gz_Ev ws0 tb 1000 (yX13_sounds, cX13_sounds, 3, (some .int)) [.inr (.inr (some 0)), .inl a1] (gr_sh ++ ext) (gr_h I J) r (gr_sh ++ ext) hₚ 0 0 ∧ (∃ (Iₚ : gr_I) (Jₚ : gr_J), hₚ = gr_h Iₚ Jₚ ∧ gq_St (n + 1) Iₚ ∧ (gq_T 0 I J Iₚ Jₚ ∧ ∀ k, Iₚ 56 k = I 56 k) ∧ (∃ z : Int, r = some (.inl z) ∧ (-2147483648) ≤ z ∧ z ≤ 2147483647 ∧ ((0 ≤ a1 ∧ a1 < I 0 1) → Iₚ 0 68 = 0 ∧ Iₚ 0 0 = 0 ∧ so_ans (fun k : Nat => so_rr I a1 (24 * a1 + (k : Int))) (Int.toNat (I 16 (Int.toNat a1))) (I 0 68) (I 56) z) ∧ (¬ (0 ≤ a1 ∧ a1 < I 0 1) → Iₚ 0 68 = I 0 68 ∧ Iₚ 0 0 = 1))) := by
  obtain ⟨⟨hI, KTM, KVF, KGR, KTO, KFM, KFV, KPL, KOX⟩, KLE, b1, b2, b3, b4, b5⟩ := h
  have rt := (gr_b_0_68 hI)
  obtain ⟨r, h1, E, P⟩ := r_sounds_p (ws0 := ws0) (tb := tb) hws htb ext I J hI a1 ha1 y0
  obtain ⟨Iₚ, Jₚ, e1, hIₚ, F, G, ⟨z, hr, q⟩⟩ := P
  have KTM' := gr_TM_fr KTM (fun k => F 52 k rfl) (fun k => F 53 k rfl) (fun k => F 54 k rfl) (F 0 64 rfl)
  have KVF' := gr_VF_fr KVF (fun k => F 14 k rfl) (fun k => F 13 k rfl)
  have KGR' := gr_GR_fr KGR (fun k => F 19 k rfl) (fun k => F 18 k rfl) (fun k => F 36 k rfl) (fun k => F 41 k rfl) (fun k => F 42 k rfl) (fun k => F 43 k rfl) (fun k => F 45 k rfl) (fun k => F 46 k rfl) (fun k => F 47 k rfl) (fun k => F 6 k rfl) (fun k => F 7 k rfl) (fun k => F 8 k rfl) (F 0 3 rfl)
  have KTO' := gr_TO_fr KTO (fun k => F 52 k rfl) (fun k => F 53 k rfl) (fun k => F 54 k rfl) (fun k => F 55 k rfl) (fun k => F 6 k rfl) (F 0 64 rfl) (F 0 3 rfl)
  have KFM' := gr_FM_fr KFM (fun k => F 10 k rfl) (fun k => F 55 k rfl) (fun k => F 52 k rfl) (fun k => F 53 k rfl) (fun k => F 54 k rfl) (F 0 64 rfl) (F 0 3 rfl)
  have KFV' := gr_FV_fr KFV (fun k => F 87 k rfl) (fun k => F 88 k rfl) (fun k => F 104 k rfl) (fun k => F 90 k rfl) (fun k => F 91 k rfl) (fun k => F 92 k rfl) (fun k => F 94 k rfl) (fun k => F 95 k rfl) (fun k => F 97 k rfl) (fun k => F 98 k rfl) (fun k => F 19 k rfl) (fun k => F 18 k rfl) (fun k => F 41 k rfl) (fun k => F 6 k rfl) (fun k => F 99 k rfl) (fun k => F 105 k rfl) (fun k => F 107 k rfl) (fun k => F 108 k rfl) (fun k => F 110 k rfl) (fun k => F 111 k rfl) (F 0 157 rfl) (F 0 158 rfl) (F 0 177 rfl) (F 0 186 rfl) (F 0 159 rfl) hI
  have KPL' := gr_PL_fr KPL (fun k => F 114 k rfl) (fun k => F 115 k rfl) (fun k => F 6 k rfl) (F 0 3 rfl)
  have KOX' := gr_OX_fr KOX (fun k => F 121 k rfl) (fun k => F 120 k rfl)
  have e59 := F 0 59 rfl
  have e42 := F 0 42 rfl
  have e64 := F 0 64 rfl
  have e100 := F 0 100 rfl
  have eC := F 0 206 rfl
  have KLE' : gr_LE (20 * ((n + 1 : Nat) : Int)) Iₚ := gr_LE_tp KLE (fun k => F 19 k rfl) (by exact gz_m 0 (by omega))
  exact ⟨r, h1, gz_Ev_mono (d := 5) (by decide) E, Iₚ, Jₚ, e1, ⟨⟨hIₚ, KTM', KVF', KGR', KTO', KFM', KFV', KPL', KOX'⟩, KLE', by exact gz_m 1 (by omega), by exact gz_m 2 (by omega), by exact gz_m 3 (by omega), by exact gz_m 4 (by omega), by exact gz_m 5 (by omega)⟩, ⟨gq_Tof F G (by decide) (by decide) (by decide) ⟨fun _ => ⟨F 0 132 rfl, F 0 133 rfl, fun k => F 80 k rfl⟩, fun _ => ⟨F 0 136 rfl, F 0 137 rfl, F 0 138 rfl, fun k => F 81 k rfl, fun k => F 82 k rfl⟩, fun _ => ⟨F 0 211 rfl, fun k => F 132 k rfl, fun k => F 133 k rfl⟩⟩, fun k => F 56 k rfl⟩, ⟨z, hr, by exact gz_m 6 (by omega), by exact gz_m 7 (by omega), q.2.2.1, q.2.2.2⟩⟩
set_option maxHeartbeats 2000000 in
theorem gp_soundsx {ws0 : List Cond} {tb : String → gz_T} (hws : gc_Ws ws0) (htb : gc_tbs tb) (hwr : ∀ w ∈ gr_ws, w ∈ ws0) (htr : tb RX13 = gr_T) (ext : gz_Sh) {n a s : Nat} {sh : gz_Sh} {ro : Nat → Nat} {I : gr_I} {J : gr_J} {A : gc_A} {Ir : gr_I} {Jr : gr_J} (h : gp_P n a s sh ro I J A Ir Jr) (hn : n < 64) (a1 : Int) (ra1 : (-2147483648) ≤ a1 ∧ a1 ≤ 2147483647) : ∃ (z : Int) (Irₚ : gr_I) (Jrₚ : gr_J), gz_Ev ws0 tb 1000 (yX13_sounds, cX13_sounds, 3, (some .int)) [.inr (.inr (some 0)), .inl a1] (gr_sh ++ ext) (gr_h Ir Jr) (some (.inl z)) (gr_sh ++ ext) (gr_h Irₚ Jrₚ) 0 0 ∧ gr_Inv Irₚ ∧ ((-2147483648) ≤ z ∧ z ≤ 2147483647) ∧ ((∃ (Iₚ : gr_I) (Jₚ : gr_J), gz_Ev ws0 tb 100 (yX12_sounds, cX12_sounds, 4, (some .int)) [.inr (.inr (some 0)), .inl a1] sh (gc_h sh I J A) (some (.inl z)) sh (gc_h sh Iₚ Jₚ A) 0 0 ∧ Irₚ 0 0 = 0 ∧ gp_P (n + 1) a s sh ro Iₚ Jₚ A Irₚ Jrₚ) ∨ (gk_T ws0 tb (yX12_sounds, cX12_sounds, 4, (some .int)) [.inr (.inr (some 0)), .inl a1] sh I J A px_IAE ∧ Irₚ 0 0 = 1 ∧ gp_P (n + 1) (a + 1) (s + 6) sh ro I J A Irₚ Jrₚ)) := by
  have hs := h.1.1
  have hc := h.1.2.1
  have hR := h.2.2.1
  have e1 : I 8 1 = Ir 0 1 := hR.2.2.2.1.1
  have e3 := h.2.2.2.1
  have h6 := h.2.2.2.2.1
  have hS := h.2.2.2.2.2
  have i3 := gk_tp hs
  have RL : ∀ t : Nat, 0 ≤ a1 → a1 < I 8 1 → A 10 (Int.toNat a1) = some t → I t 6 = Ir 16 (Int.toNat a1) ∧ ∀ r : Int, 0 ≤ r → r < I t 6 → so_rc I t r = so_rr Ir a1 (24 * a1 + r) ∧ so_okrc I t r ∧ so_okr Ir a1 (24 * a1 + r) ∧ so_lh (so_rr Ir a1 (24 * a1 + r)) := fun t h0 h1 ht => by
    obtain ⟨_, _, _, qs, _⟩ := hR.2.2.2.2.2.2.2.1 (Int.toNat a1) t (by exact gz_m 0 (by omega)) ht
    have g := (hS.1 (Int.toNat a1) t (by exact gz_m 1 (by omega)) ht).2
    rw [show ((Int.toNat a1 : Nat) : Int) = a1 from by exact gz_m 2 (by omega)] at qs g
    exact ⟨qs, g⟩
  have sv : (0 ≤ a1 ∧ a1 < Ir 0 1) → gs_SV Ir a1 := fun c k h0 h1 => by
    obtain ⟨t, ht, _⟩ := hs.2.2.2.2.1 (Int.toNat a1) (by exact gz_m 3 (by omega))
    obtain ⟨qs, g⟩ := RL t (by exact gz_m 4 (by omega)) (by exact gz_m 5 (by omega)) ht
    obtain ⟨_, _, x, y⟩ := g k h0 (by exact gz_m 6 (by omega))
    exact ⟨x, y⟩
  obtain ⟨rr, hₚ, E, Irₚ, Jrₚ, rfl, q, t, z, rfl, l1, l2, P1, P2⟩ := q_sounds_z hwr htr ext h.2.1.1 hn a1 ra1 sv
  by_cases c : 0 ≤ a1 ∧ a1 < Ir 0 1
  · obtain ⟨u1, u2, u3⟩ := P1 c
    obtain ⟨t9, z9, Iₚ, Jₚ, E9, ht, ez, K9⟩ := hh_sounds_z hws htb hs hc a1 ⟨by exact gz_m 7 (by omega), by exact gz_m 8 (by omega)⟩ (fun t ht r h0 h1 => by
      obtain ⟨x, _, _, y⟩ := (RL t (by exact gz_m 9 (by omega)) (by exact gz_m 10 (by omega)) ht).2 r h0 h1
      rw [x]
      exact y)
    obtain ⟨qs, g⟩ := RL t9 (by exact gz_m 11 (by omega)) (by exact gz_m 12 (by omega)) ht
    have hz : z9 = z := so_ans_u ez (by rw [qs]; exact u3) (fun k hk => (g (k : Int) (by exact gz_m 13 (by omega)) (by exact gz_m 14 (by omega))).1) e3 (fun k hk => h6 k hk)
    rw [hz] at E9
    exact ⟨_, Irₚ, Jrₚ, E, q.1.1, ⟨l1, l2⟩, Or.inl ⟨Iₚ, Jₚ, E9, u2, gp_kp h K9 (by exact gz_m 15 (by omega)) q t u1⟩⟩
  · obtain ⟨u1, u2⟩ := P2 c
    rcases gk_sounds hws htb hs hc a1 ra1 with ⟨c9, _⟩ | ⟨c9, T9⟩
    · exact absurd c9 (by exact gz_m 16 (by omega))
    · exact ⟨_, Irₚ, Jrₚ, E, q.1.1, ⟨l1, l2⟩, Or.inr ⟨T9, u2, gp_th h q t u1⟩⟩
