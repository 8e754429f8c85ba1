/-- what is noted of ANALYSES (but of call 1), GUESSES (2) and HITS (3) stays -/
def gh_Na (I Iₚ : gr_I) : Prop := Iₚ 100 1 = I 100 1 ∧ Iₚ 100 2 = I 100 2 ∧ ∀ k, Iₚ 101 k = I 101 k
def gh_Nb (I Iₚ : gr_I) : Prop := Iₚ 100 4 = I 100 4 ∧ Iₚ 100 7 = I 100 7 ∧ Iₚ 100 8 = I 100 8 ∧ (∀ k, Iₚ 102 k = I 102 k) ∧ ∀ k, Iₚ 103 k = I 103 k
def gh_Nc (I Iₚ : gr_I) : Prop := Iₚ 100 14 = I 100 14 ∧ (∀ k, Iₚ 111 k = I 111 k) ∧ ∀ k, Iₚ 112 k = I 112 k
def gh_E9 (ν : Nat) (I Iₚ : gr_I) : Prop := Iₚ 100 9 = I 100 9 ∧ (¬ ν = 1 → gh_Na I Iₚ) ∧ (¬ ν = 2 → gh_Nb I Iₚ) ∧ (¬ ν = 3 → gh_Nc I Iₚ)
theorem gh_E9_rf {ν : Nat} {I : gr_I} : gh_E9 ν I I := ⟨rfl, fun _ => ⟨rfl, rfl, fun _ => rfl⟩, fun _ => ⟨rfl, rfl, rfl, fun _ => rfl, fun _ => rfl⟩, fun _ => ⟨rfl, fun _ => rfl, fun _ => rfl⟩⟩
theorem gh_E9_tr {ν : Nat} {I I1 I2 : gr_I} (h : gh_E9 ν I I1) (g : gh_E9 ν I1 I2) : gh_E9 ν I I2 := by
  obtain ⟨h0, h1, h2, h3⟩ := h
  obtain ⟨g0, g1, g2, g3⟩ := g
  refine ⟨g0.trans h0, fun n => ?_, fun n => ?_, fun n => ?_⟩
  · obtain ⟨a, b, c⟩ := h1 n
    obtain ⟨d, e, f⟩ := g1 n
    exact ⟨d.trans a, e.trans b, fun k => (f k).trans (c k)⟩
  · obtain ⟨a1, a2, a3, a4, a5⟩ := h2 n
    obtain ⟨b1, b2, b3, b4, b5⟩ := g2 n
    exact ⟨b1.trans a1, b2.trans a2, b3.trans a3, fun k => (b4 k).trans (a4 k), fun k => (b5 k).trans (a5 k)⟩
  · obtain ⟨a, b, c⟩ := h3 n
    obtain ⟨d, e, f⟩ := g3 n
    exact ⟨d.trans a, fun k => (e k).trans (b k), fun k => (f k).trans (c k)⟩
def gh_K (sh : gz_Sh) (ro : Nat → Nat) (A : gc_A) (I : gr_I) (J : gr_J) (Iₚ : gr_I) (Jₚ : gr_J) (tp : Int) (ν : Nat) : Prop := gh_HS sh ro Iₚ Jₚ A ∧ gh_HC sh ro A Iₚ ∧ gh_SE sh ro A I Iₚ J Jₚ ∧ Iₚ 23 1 = tp ∧ (∀ k : Nat, (k : Int) < I 23 1 → Iₚ 24 k = I 24 k) ∧ gh_E9 ν I Iₚ
theorem gh_SE_refl {sh : gz_Sh} {ro : Nat → Nat} {A : gc_A} {I : gr_I} {J : gr_J} : gh_SE sh ro A I I J J := ⟨fun _ _ _ _ => rfl, fun _ _ _ _ _ _ _ => rfl, fun _ _ _ _ _ _ => rfl, fun _ _ _ => rfl⟩
theorem gh_plc {sh : gz_Sh} {ro : Nat → Nat} {A : gc_A} (hb : gc_Base sh ro A) (i : Nat) (hi : i < 8) : ∃ q, A 114 i = some q ∧ sh[q]? = some (true, 1, 60) ∧ ro q = 37 ∧ q < 1000000 ∧ q = 115 + i := by
  match i, hi with
  | 0, _ => exact ⟨115, gc_bA hb rfl, gc_bS hb rfl, gc_bR hb (by decide) rfl, by decide, rfl⟩
  | 1, _ => exact ⟨116, gc_bA hb rfl, gc_bS hb rfl, gc_bR hb (by decide) rfl, by decide, rfl⟩
  | 2, _ => exact ⟨117, gc_bA hb rfl, gc_bS hb rfl, gc_bR hb (by decide) rfl, by decide, rfl⟩
  | 3, _ => exact ⟨118, gc_bA hb rfl, gc_bS hb rfl, gc_bR hb (by decide) rfl, by decide, rfl⟩
  | 4, _ => exact ⟨119, gc_bA hb rfl, gc_bS hb rfl, gc_bR hb (by decide) rfl, by decide, rfl⟩
  | 5, _ => exact ⟨120, gc_bA hb rfl, gc_bS hb rfl, gc_bR hb (by decide) rfl, by decide, rfl⟩
  | 6, _ => exact ⟨121, gc_bA hb rfl, gc_bS hb rfl, gc_bR hb (by decide) rfl, by decide, rfl⟩
  | 7, _ => exact ⟨122, gc_bA hb rfl, gc_bS hb rfl, gc_bR hb (by decide) rfl, by decide, rfl⟩
  | _ + 8, h => exact absurd h (by omega)
theorem gh_UNC {A : gc_A} {I : gr_I} {t : Nat} (h : gh_TL A I t) : ∀ i q : Nat, (i : Int) < I t 13 → A (t + 16) i = some q → gc_un q (gc_lk A I t i) I := fun i q hi hA => by
  rw [gc_lk_at hA]
  exact (h i q hi hA).2.2.1
set_option maxHeartbeats 2000000 in
theorem hh_rule {ws0 : List Cond} {tb : String → gz_T} (hws : gc_Ws ws0) (htb : gc_tbs tb) {sh : gz_Sh} {ro : Nat → Nat} {I : gr_I} {J : gr_J} {A : gc_A} (hs : gh_HS sh ro I J A) (hc : gh_HC sh ro A I) : ∃ (z : Int) (Iₚ : gr_I) (Jₚ : gr_J), gz_Ev ws0 tb 100 (yX12_rule, cX12_rule, 1, (some .int)) [.inr (.inr (some 0))] sh (gc_h sh I J A) (some (.inl z)) sh (gc_h sh Iₚ Jₚ A) 0 0 ∧ gh_K sh ro A I J Iₚ Jₚ (I 23 1) 0 := by
  have hb := hs.1
  have hI := hs.2.1
  have hok := hs.2.2.1
  have hT := hs.2.2.2.1
  have hU := hs.2.2.2.2.1
  have i8 : 0 ≤ I 8 1 ∧ I 8 1 ≤ 8 := gc_in hI (gc_bR hb (by decide) rfl) rfl rfl
  have h144 := gc_Base_len hb
  obtain ⟨c1, c2, c3, c4, c5, c6, c7, c8⟩ := id hc
  obtain ⟨r, hₚ, E, rfl, z, rfl, p0, p1⟩ := d_X12_rule hws htb sh ro I J A hI hb
  exact ⟨z, I, J, gz_Ev_mono (by decide) E, hs, hc, gh_SE_refl, rfl, fun _ _ => rfl, gh_E9_rf⟩
set_option maxHeartbeats 2000000 in
theorem hh_out {ws0 : List Cond} {tb : String → gz_T} (hws : gc_Ws ws0) (htb : gc_tbs tb) {sh : gz_Sh} {ro : Nat → Nat} {I : gr_I} {J : gr_J} {A : gc_A} (hs : gh_HS sh ro I J A) (hc : gh_HC sh ro A I) (a1 : Int) (ra1 : (-2147483648) ≤ a1 ∧ a1 ≤ 2147483647) : ∃ (z : Int) (Iₚ : gr_I) (Jₚ : gr_J), gz_Ev ws0 tb 100 (yX12_out, cX12_out, 2, (some .int)) [.inr (.inr (some 0)), .inl a1] sh (gc_h sh I J A) (some (.inl z)) sh (gc_h sh Iₚ Jₚ A) 0 0 ∧ gh_K sh ro A I J Iₚ Jₚ (I 23 1) 0 := by
  have hb := hs.1
  have hI := hs.2.1
  have hok := hs.2.2.1
  have hT := hs.2.2.2.1
  have hU := hs.2.2.2.2.1
  have i8 : 0 ≤ I 8 1 ∧ I 8 1 ≤ 8 := gc_in hI (gc_bR hb (by decide) rfl) rfl rfl
  have h144 := gc_Base_len hb
  obtain ⟨c1, c2, c3, c4, c5, c6, c7, c8⟩ := id hc
  obtain ⟨r, hₚ, E, rfl, z, rfl, p0, p1⟩ := d_X12_out hws htb sh ro I J A hI a1 hb ⟨by omega, by omega⟩
  exact ⟨z, I, J, gz_Ev_mono (by decide) E, hs, hc, gh_SE_refl, rfl, fun _ _ => rfl, gh_E9_rf⟩
set_option maxHeartbeats 2000000 in
theorem hh_guessed {ws0 : List Cond} {tb : String → gz_T} (hws : gc_Ws ws0) (htb : gc_tbs tb) {sh : gz_Sh} {ro : Nat → Nat} {I : gr_I} {J : gr_J} {A : gc_A} (hs : gh_HS sh ro I J A) (hc : gh_HC sh ro A I) (a1 : Int) (a2 : Int) (ra1 : (-2147483648) ≤ a1 ∧ a1 ≤ 2147483647) (ra2 : 0 ≤ a2 ∧ a2 ≤ 3) : ∃ (z : Int) (Iₚ : gr_I) (Jₚ : gr_J), gz_Ev ws0 tb 100 (yX12_guessed, cX12_guessed, 3, (some .int)) [.inr (.inr (some 0)), .inl a1, .inl a2] sh (gc_h sh I J A) (some (.inl z)) sh (gc_h sh Iₚ Jₚ A) 0 0 ∧ gh_K sh ro A I J Iₚ Jₚ (I 23 1) 0 := by
  have hb := hs.1
  have hI := hs.2.1
  have hok := hs.2.2.1
  have hT := hs.2.2.2.1
  have hU := hs.2.2.2.2.1
  have i8 : 0 ≤ I 8 1 ∧ I 8 1 ≤ 8 := gc_in hI (gc_bR hb (by decide) rfl) rfl rfl
  have h144 := gc_Base_len hb
  obtain ⟨c1, c2, c3, c4, c5, c6, c7, c8⟩ := id hc
  obtain ⟨r, hₚ, E, rfl, z, rfl, p0, p1⟩ := d_X12_guessed hws htb sh ro I J A hI a1 a2 hb ⟨by omega, by omega⟩ ⟨by omega, by omega⟩
  exact ⟨z, I, J, gz_Ev_mono (by decide) E, hs, hc, gh_SE_refl, rfl, fun _ _ => rfl, gh_E9_rf⟩
set_option maxHeartbeats 2000000 in
theorem hh_hit {ws0 : List Cond} {tb : String → gz_T} (hws : gc_Ws ws0) (htb : gc_tbs tb) {sh : gz_Sh} {ro : Nat → Nat} {I : gr_I} {J : gr_J} {A : gc_A} (hs : gh_HS sh ro I J A) (hc : gh_HC sh ro A I) (a1 : Int) (a2 : Int) (ra1 : (-2147483648) ≤ a1 ∧ a1 ≤ 2147483647) (ra2 : 0 ≤ a2 ∧ a2 ≤ 1) : ∃ (z : Int) (Iₚ : gr_I) (Jₚ : gr_J), gz_Ev ws0 tb 100 (yX12_hit, cX12_hit, 3, (some .int)) [.inr (.inr (some 0)), .inl a1, .inl a2] sh (gc_h sh I J A) (some (.inl z)) sh (gc_h sh Iₚ Jₚ A) 0 0 ∧ gh_K sh ro A I J Iₚ Jₚ (I 23 1) 0 := by
  have hb := hs.1
  have hI := hs.2.1
  have hok := hs.2.2.1
  have hT := hs.2.2.2.1
  have hU := hs.2.2.2.2.1
  have i8 : 0 ≤ I 8 1 ∧ I 8 1 ≤ 8 := gc_in hI (gc_bR hb (by decide) rfl) rfl rfl
  have h144 := gc_Base_len hb
  obtain ⟨c1, c2, c3, c4, c5, c6, c7, c8⟩ := id hc
  obtain ⟨r, hₚ, E, rfl, z, rfl, p0, p1⟩ := d_X12_hit hws htb sh ro I J A hI a1 a2 hb ⟨by omega, by omega⟩ ⟨by omega, by omega⟩
  exact ⟨z, I, J, gz_Ev_mono (by decide) E, hs, hc, gh_SE_refl, rfl, fun _ _ => rfl, gh_E9_rf⟩
set_option maxHeartbeats 2000000 in
theorem hh_end {ws0 : List Cond} {tb : String → gz_T} (hws : gc_Ws ws0) (htb : gc_tbs tb) {sh : gz_Sh} {ro : Nat → Nat} {I : gr_I} {J : gr_J} {A : gc_A} (hs : gh_HS sh ro I J A) (hc : gh_HC sh ro A I) (a1 : Int) (h1 : 0 ≤ a1 ∧ a1 ≤ I 23 1) : ∃ (z : Int) (Iₚ : gr_I) (Jₚ : gr_J), gz_Ev ws0 tb 100 (yX12_end, cX12_end, 2, (some .int)) [.inr (.inr (some 0)), .inl a1] sh (gc_h sh I J A) (some (.inl z)) sh (gc_h sh Iₚ Jₚ A) 0 0 ∧ gh_K sh ro A I J Iₚ Jₚ (a1) 0 := by
  have hb := hs.1
  have hI := hs.2.1
  have hok := hs.2.2.1
  have hT := hs.2.2.2.1
  have hU := hs.2.2.2.2.1
  have i8 : 0 ≤ I 8 1 ∧ I 8 1 ≤ 8 := gc_in hI (gc_bR hb (by decide) rfl) rfl rfl
  have h144 := gc_Base_len hb
  obtain ⟨c1, c2, c3, c4, c5, c6, c7, c8⟩ := id hc
  have f23 : 0 ≤ I 23 1 ∧ I 23 1 ≤ 1000 := gc_in hI (gc_bR hb (by decide) rfl) rfl rfl
  obtain ⟨r, hₚ, E, Iₚ, Jₚ, rfl, hIₚ, g, k, z, rfl, p0, p1, p2⟩ := d_X12_end hws htb sh ro I J A hI a1 hb ⟨by omega, by omega⟩ (by omega)
  have ok' : gc_OK sh Iₚ Jₚ A := gh_OK_g hok (fun q j => (g q j).elim (fun h => by
      rcases h with ⟨rfl, rfl⟩
      · exact Or.inl (gh_ok0 (gc_bS hb (p := 23) rfl) rfl)
      ) Or.inr) (fun q j => (k q j).imp (fun h => h.elim) id)
  have hk := gh_HS_n hs hIₚ ok' (fun q j => (g q j).imp (fun h => by omega) id) (fun q j => (k q j).imp (fun h => h.elim) id)
  refine ⟨z, Iₚ, Jₚ, gz_Ev_mono (by decide) E, ⟨hk.1, ⟨(gc_FN_fr c1 (fun k => ((g 49 k).resolve_left (by omega))) (fun k => ((g 50 k).resolve_left (by omega)))), (gc_FZ_fr c2 ((g 2 1).resolve_left (by omega)) (fun k => ((g 49 k).resolve_left (by omega))) (fun k => ((g 50 k).resolve_left (by omega)))), (by have h1 := ((g 86 2).resolve_left (by omega)); have h2 := ((g 86 4).resolve_left (by omega)); omega), (by have h1 := ((g 100 2).resolve_left (by omega)); have h2 := ((g 100 1).resolve_left (by omega)); have h3 := hk.2.1 8 1 (by decide) (by decide); omega), (gh_SN_fr c5 ((g 100 9).resolve_left (by omega))), (gh_FBT_fr c6 hk.2 (fun i t d j hi ht h1 h2 => (g (t + d) j).resolve_left (by have := (hT.1 i t hi ht).2.1; omega))), (gh_TRE_k c7 hk.2 (fun q j h1 h2 h3 => ((g q j).resolve_left (by omega)))), (gh_RKO_fr hs c8 hk.2 (fun q j h1 h2 => ((g q j).resolve_left (by omega))))⟩, hk.2, by omega, (fun k9 h9 => ((g 24 k9).resolve_left (by omega))), ⟨(g 100 9).resolve_left (by omega), fun _ => ⟨(g 100 1).resolve_left (by omega), (g 100 2).resolve_left (by omega), fun k => (g 101 k).resolve_left (by omega)⟩, fun _ => ⟨(g 100 4).resolve_left (by omega), (g 100 7).resolve_left (by omega), (g 100 8).resolve_left (by omega), fun k => (g 102 k).resolve_left (by omega), fun k => (g 103 k).resolve_left (by omega)⟩, fun _ => ⟨(g 100 14).resolve_left (by omega), fun k => (g 111 k).resolve_left (by omega), fun k => (g 112 k).resolve_left (by omega)⟩⟩⟩⟩
set_option maxHeartbeats 2000000 in
theorem hh_sounds {ws0 : List Cond} {tb : String → gz_T} (hws : gc_Ws ws0) (htb : gc_tbs tb) {sh : gz_Sh} {ro : Nat → Nat} {I : gr_I} {J : gr_J} {A : gc_A} (hs : gh_HS sh ro I J A) (hc : gh_HC sh ro A I) (a1 : Int) (h1 : 0 ≤ a1 ∧ a1 < I 8 1) : ∃ (z : Int) (Iₚ : gr_I) (Jₚ : gr_J), gz_Ev ws0 tb 100 (yX12_sounds, cX12_sounds, 4, (some .int)) [.inr (.inr (some 0)), .inl a1] sh (gc_h sh I J A) (some (.inl z)) sh (gc_h sh Iₚ Jₚ A) 0 0 ∧ gh_K sh ro A I J Iₚ Jₚ (0) 0 := by
  have hb := hs.1
  have hI := hs.2.1
  have hok := hs.2.2.1
  have hT := hs.2.2.2.1
  have hU := hs.2.2.2.2.1
  have i8 : 0 ≤ I 8 1 ∧ I 8 1 ≤ 8 := gc_in hI (gc_bR hb (by decide) rfl) rfl rfl
  have h144 := gc_Base_len hb
  obtain ⟨c1, c2, c3, c4, c5, c6, c7, c8⟩ := id hc
  obtain ⟨t, ht, tL, tv, tl, tw⟩ := hU (Int.toNat a1) (by omega)
  have Tt := hT.1 (Int.toNat a1) t (by omega) ht
  have Gt := Tt.2.1
  have FB := c6 (Int.toNat a1) t (by omega) ht
  obtain ⟨r, hₚ, E, Iₚ, Jₚ, rfl, hIₚ, g, k, z, rfl, p0, p1, p2, pF⟩ := d_X12_sounds hws htb sh ro I J A hI t a1 hb Tt.1 Tt.2.1 ⟨by omega, by omega⟩ ⟨by omega, by omega⟩ ht Tt.2.2
  obtain ⟨b0, b1, b2, b3, b4, b5, b6, b7, b8, b9, b10, b11, b12, b13, b14, b15, b16, b17, b18, b19, b20, b21, b22, b23, b24, b25, b26, b27, b28, b29, b30, b31, b32, b33, b34, b35, b36, b37, b38, b39, b40, b41, b42, b43, b44⟩ := id Tt.1
  obtain ⟨f0, f1, f2, f3, f4, f5, f6, f7, f8, f9, f10, f11, f12, f13, f14, f15, f16, f17, f18, f19, f20, f21, f22, f23, f24, f25, f26, f27, f28, f29, f30, f31, f32⟩ := id b44
  have F_0 := f0
  have F_R := f1
  have F_1 := f8
  have F_2 := f12
  have F_3 := f16
  have F_4 := f20
  have F_5 := f24
  have F_6 := f27
  have F_7 := f30
  have lt7 := gc_x_lt F_7
  have ok' : gc_OK sh Iₚ Jₚ A := gh_OK_g hok (fun q j => (g q j).elim (fun h => by
      rcases h with ⟨rfl, rfl⟩ | rfl | ⟨rfl, rfl⟩ | ⟨rfl, rfl⟩ | ⟨rfl, rfl⟩ | rfl | rfl
      · exact Or.inl (gh_ok0 (gc_bS hb (p := 27) rfl) rfl)
      · exact Or.inl (gh_ok0 (gc_bS hb (p := 28) rfl) rfl)
      · exact Or.inl (gh_ok0 (gc_bS hb (p := 23) rfl) rfl)
      · have h9 : (0 : Int) ≤ Iₚ (t + 17) 6 ∧ Iₚ (t + 17) 6 ≤ 1 := gc_in hIₚ (F_R) rfl rfl
        exact Or.inl (gh_okn (n := 6) F_0 rfl (by omega))
      · have h9 : (0 : Int) ≤ Iₚ (t + 17) 7 ∧ Iₚ (t + 17) 7 ≤ 1 := gc_in hIₚ (F_R) rfl rfl
        exact Or.inl (gh_okn (n := 6) F_0 rfl (by omega))
      · exact Or.inl (gh_ok0 F_6 rfl)
      · exact Or.inl (gh_ok0 F_7 rfl)
      ) Or.inr) (fun q j => (k q j).imp (fun h => h.elim) id)
  have hk := gh_HS_k (i := Int.toNat a1) hs (by omega) ht hIₚ ok' (fun q j => (g q j).imp (fun h => by omega) id) (fun q j => (k q j).imp (fun h => h.elim) id)
  refine ⟨z, Iₚ, Jₚ, gz_Ev_mono (by decide) E, ⟨hk.1, ⟨(gc_FN_fr c1 (fun k => ((g 49 k).resolve_left (by omega))) (fun k => ((g 50 k).resolve_left (by omega)))), (gc_FZ_fr c2 ((g 2 1).resolve_left (by omega)) (fun k => ((g 49 k).resolve_left (by omega))) (fun k => ((g 50 k).resolve_left (by omega)))), (by have h1 := ((g 86 2).resolve_left (by omega)); have h2 := ((g 86 4).resolve_left (by omega)); omega), (by have h1 := ((g 100 2).resolve_left (by omega)); have h2 := ((g 100 1).resolve_left (by omega)); have h3 := hk.2.1 8 1 (by decide) (by decide); omega), (gh_SN_fr c5 ((g 100 9).resolve_left (by omega))), (gh_FBT_t hT c6 hk.2 (by omega) (by omega) ht (fun q j hq => (g q j).imp (fun h => by omega) id) (by rw [show Iₚ (t + 17) 8 = I (t + 17) 8 from (g (t + 17) 8).resolve_left (by omega)]; exact gc_FB_fr FB.1 (fun k => (g (t + 17 + 4) k).resolve_left (by omega)) (fun k => (g (t + 17 + 3) k).resolve_left (by omega))) (by have h9 := (g (t + 17) 8).resolve_left (by omega); have h8 := FB.2.1 (by omega); omega) (fun h9 => by omega) (gh_BD_fr gh_BD_rf ((g (t + 17) 8).resolve_left (by omega)) ((g (t + 17) 9).resolve_left (by omega)) (fun k => (g (t + 18) k).resolve_left (by omega)) (fun k => (g (t + 19) k).resolve_left (by omega)) (fun k => (g (t + 20) k).resolve_left (by omega)) (fun k => (g (t + 21) k).resolve_left (by omega)))), (gh_TRE_k c7 hk.2 (fun q j h1 h2 h3 => ((g q j).resolve_left (by omega)))), (gh_RKO_fr hs c8 hk.2 (fun q j h1 h2 => ((g q j).resolve_left (by omega))))⟩, hk.2, by omega, (fun k9 h9 => ((g 24 k9).resolve_left (by omega))), ⟨(g 100 9).resolve_left (by omega), fun _ => ⟨(g 100 1).resolve_left (by omega), (g 100 2).resolve_left (by omega), fun k => (g 101 k).resolve_left (by omega)⟩, fun _ => ⟨(g 100 4).resolve_left (by omega), (g 100 7).resolve_left (by omega), (g 100 8).resolve_left (by omega), fun k => (g 102 k).resolve_left (by omega), fun k => (g 103 k).resolve_left (by omega)⟩, fun _ => ⟨(g 100 14).resolve_left (by omega), fun k => (g 111 k).resolve_left (by omega), fun k => (g 112 k).resolve_left (by omega)⟩⟩⟩⟩
set_option maxHeartbeats 2000000 in
theorem hh_analyse {ws0 : List Cond} {tb : String → gz_T} (hws : gc_Ws ws0) (htb : gc_tbs tb) {sh : gz_Sh} {ro : Nat → Nat} {I : gr_I} {J : gr_J} {A : gc_A} (hs : gh_HS sh ro I J A) (hc : gh_HC sh ro A I) (a1 : Int) (h1 : 0 ≤ a1 ∧ a1 < I 8 1) : ∃ (z : Int) (Iₚ : gr_I) (Jₚ : gr_J), gz_Ev ws0 tb 100 (yX12_analyse, cX12_analyse, 4, (some .int)) [.inr (.inr (some 0)), .inl a1] sh (gc_h sh I J A) (some (.inl z)) sh (gc_h sh Iₚ Jₚ A) 0 0 ∧ gh_K sh ro A I J Iₚ Jₚ (0) 1 := by
  have hb := hs.1
  have hI := hs.2.1
  have hok := hs.2.2.1
  have hT := hs.2.2.2.1
  have hU := hs.2.2.2.2.1
  have i8 : 0 ≤ I 8 1 ∧ I 8 1 ≤ 8 := gc_in hI (gc_bR hb (by decide) rfl) rfl rfl
  have h144 := gc_Base_len hb
  obtain ⟨c1, c2, c3, c4, c5, c6, c7, c8⟩ := id hc
  obtain ⟨t, ht, tL, tv, tl, tw⟩ := hU (Int.toNat a1) (by omega)
  have Tt := hT.1 (Int.toNat a1) t (by omega) ht
  have Gt := Tt.2.1
  have FB := c6 (Int.toNat a1) t (by omega) ht
  obtain ⟨r, hₚ, E, Iₚ, Jₚ, rfl, hIₚ, g, k, z, rfl, p0, p1, p2, p3, p4, p5, pF, pB⟩ := d_X12_analyse hws htb sh ro I J A hI t a1 hb Tt.1 Tt.2.1 ⟨by omega, by omega⟩ ⟨by omega, by omega⟩ ht Tt.2.2 FB.1 (FB.2.1 (by omega))
  obtain ⟨b0, b1, b2, b3, b4, b5, b6, b7, b8, b9, b10, b11, b12, b13, b14, b15, b16, b17, b18, b19, b20, b21, b22, b23, b24, b25, b26, b27, b28, b29, b30, b31, b32, b33, b34, b35, b36, b37, b38, b39, b40, b41, b42, b43, b44⟩ := id Tt.1
  obtain ⟨f0, f1, f2, f3, f4, f5, f6, f7, f8, f9, f10, f11, f12, f13, f14, f15, f16, f17, f18, f19, f20, f21, f22, f23, f24, f25, f26, f27, f28, f29, f30, f31, f32⟩ := id b44
  have F_0 := f0
  have F_R := f1
  have F_1 := f8
  have F_2 := f12
  have F_3 := f16
  have F_4 := f20
  have F_5 := f24
  have F_6 := f27
  have F_7 := f30
  have lt7 := gc_x_lt F_7
  have ok' : gc_OK sh Iₚ Jₚ A := gh_OK_g hok (fun q j => (g q j).elim (fun h => by
      rcases h with ⟨rfl, rfl⟩ | ⟨rfl, rfl⟩ | rfl | rfl | rfl | rfl | ⟨rfl, rfl⟩ | ⟨rfl, rfl⟩ | rfl | rfl | ⟨rfl, rfl⟩ | ⟨rfl, rfl⟩ | rfl | rfl | ⟨rfl, rfl⟩
      · exact Or.inl (gh_ok0 F_0 rfl)
      · exact Or.inl (gh_ok0 F_0 rfl)
      · exact Or.inl (gh_ok0 F_1 rfl)
      · exact Or.inl (gh_ok0 F_2 rfl)
      · exact Or.inl (gh_ok0 F_3 rfl)
      · exact Or.inl (gh_ok0 F_4 rfl)
      · have h9 : (0 : Int) ≤ Iₚ (t + 17) 6 ∧ Iₚ (t + 17) 6 ≤ 1 := gc_in hIₚ (F_R) rfl rfl
        exact Or.inl (gh_okn (n := 6) F_0 rfl (by omega))
      · have h9 : (0 : Int) ≤ Iₚ (t + 17) 7 ∧ Iₚ (t + 17) 7 ≤ 1 := gc_in hIₚ (F_R) rfl rfl
        exact Or.inl (gh_okn (n := 6) F_0 rfl (by omega))
      · exact Or.inl (gh_ok0 F_6 rfl)
      · exact Or.inl (gh_ok0 F_7 rfl)
      · exact Or.inl (gh_ok0 (gc_bS hb (p := 100) rfl) rfl)
      · exact Or.inl (gh_ok0 (gc_bS hb (p := 100) rfl) rfl)
      · exact Or.inl (gh_ok0 (gc_bS hb (p := 101) rfl) rfl)
      · exact Or.inl (gh_ok0 F_5 rfl)
      · exact Or.inl (gh_ok0 (gc_bS hb (p := 23) rfl) rfl)
      ) Or.inr) (fun q j => (k q j).imp (fun h => h.elim) id)
  have hk := gh_HS_k (i := Int.toNat a1) hs (by omega) ht hIₚ ok' (fun q j => (g q j).imp (fun h => by omega) id) (fun q j => (k q j).imp (fun h => h.elim) id)
  refine ⟨z, Iₚ, Jₚ, gz_Ev_mono (by decide) E, ⟨hk.1, ⟨(gc_FN_fr c1 (fun k => ((g 49 k).resolve_left (by omega))) (fun k => ((g 50 k).resolve_left (by omega)))), (gc_FZ_fr c2 ((g 2 1).resolve_left (by omega)) (fun k => ((g 49 k).resolve_left (by omega))) (fun k => ((g 50 k).resolve_left (by omega)))), (by have h1 := ((g 86 2).resolve_left (by omega)); have h2 := ((g 86 4).resolve_left (by omega)); omega), (by have h3 := hk.2.1 8 1 (by decide) (by decide); omega), (gh_SN_fr c5 ((g 100 9).resolve_left (by omega))), (gh_FBT_t hT c6 hk.2 (by omega) (by omega) ht (fun q j hq => (g q j).imp (fun h => by omega) id) (by rw [p4]; exact p3) (by omega) (fun h9 => by omega) pB), (gh_TRE_k c7 hk.2 (fun q j h1 h2 h3 => ((g q j).resolve_left (by omega)))), (gh_RKO_fr hs c8 hk.2 (fun q j h1 h2 => ((g q j).resolve_left (by omega))))⟩, hk.2, by omega, (fun k9 h9 => ((g 24 k9).resolve_left (by omega))), ⟨(g 100 9).resolve_left (by omega), fun h => absurd rfl h, fun _ => ⟨(g 100 4).resolve_left (by omega), (g 100 7).resolve_left (by omega), (g 100 8).resolve_left (by omega), fun k => (g 102 k).resolve_left (by omega), fun k => (g 103 k).resolve_left (by omega)⟩, fun _ => ⟨(g 100 14).resolve_left (by omega), fun k => (g 111 k).resolve_left (by omega), fun k => (g 112 k).resolve_left (by omega)⟩⟩⟩⟩
set_option maxHeartbeats 2000000 in
theorem hh_guess {ws0 : List Cond} {tb : String → gz_T} (hws : gc_Ws ws0) (htb : gc_tbs tb) {sh : gz_Sh} {ro : Nat → Nat} {I : gr_I} {J : gr_J} {A : gc_A} (hs : gh_HS sh ro I J A) (hc : gh_HC sh ro A I) (a1 : Int) (h1 : 0 ≤ a1 ∧ a1 < I 8 1) : ∃ (z : Int) (Iₚ : gr_I) (Jₚ : gr_J), gz_Ev ws0 tb 100 (yX12_guess, cX12_guess, 4, (some .int)) [.inr (.inr (some 0)), .inl a1] sh (gc_h sh I J A) (some (.inl z)) sh (gc_h sh Iₚ Jₚ A) 0 0 ∧ gh_K sh ro A I J Iₚ Jₚ (0) 2 := by
  have hb := hs.1
  have hI := hs.2.1
  have hok := hs.2.2.1
  have hT := hs.2.2.2.1
  have hU := hs.2.2.2.2.1
  have i8 : 0 ≤ I 8 1 ∧ I 8 1 ≤ 8 := gc_in hI (gc_bR hb (by decide) rfl) rfl rfl
  have h144 := gc_Base_len hb
  obtain ⟨c1, c2, c3, c4, c5, c6, c7, c8⟩ := id hc
  obtain ⟨t, ht, tL, tv, tl, tw⟩ := hU (Int.toNat a1) (by omega)
  have Tt := hT.1 (Int.toNat a1) t (by omega) ht
  have Gt := Tt.2.1
  have FB := c6 (Int.toNat a1) t (by omega) ht
  obtain ⟨r, hₚ, E, Iₚ, Jₚ, rfl, hIₚ, g, k, z, rfl, p0, p1, p2, p3, p4, pF, pB⟩ := d_X12_guess hws htb sh ro I J A hI t a1 hb Tt.1 Tt.2.1 ⟨by omega, by omega⟩ ⟨by omega, by omega⟩ ht Tt.2.2 FB.1 (FB.2.1 (by omega))
  obtain ⟨b0, b1, b2, b3, b4, b5, b6, b7, b8, b9, b10, b11, b12, b13, b14, b15, b16, b17, b18, b19, b20, b21, b22, b23, b24, b25, b26, b27, b28, b29, b30, b31, b32, b33, b34, b35, b36, b37, b38, b39, b40, b41, b42, b43, b44⟩ := id Tt.1
  obtain ⟨f0, f1, f2, f3, f4, f5, f6, f7, f8, f9, f10, f11, f12, f13, f14, f15, f16, f17, f18, f19, f20, f21, f22, f23, f24, f25, f26, f27, f28, f29, f30, f31, f32⟩ := id b44
  have F_0 := f0
  have F_R := f1
  have F_1 := f8
  have F_2 := f12
  have F_3 := f16
  have F_4 := f20
  have F_5 := f24
  have F_6 := f27
  have F_7 := f30
  have lt7 := gc_x_lt F_7
  have ok' : gc_OK sh Iₚ Jₚ A := gh_OK_g hok (fun q j => (g q j).elim (fun h => by
      rcases h with ⟨rfl, rfl⟩ | ⟨rfl, rfl⟩ | rfl | rfl | rfl | rfl | ⟨rfl, rfl⟩ | ⟨rfl, rfl⟩ | rfl | rfl | ⟨rfl, rfl⟩ | ⟨rfl, rfl⟩ | ⟨rfl, rfl⟩ | rfl | rfl | ⟨rfl, rfl⟩
      · exact Or.inl (gh_ok0 F_0 rfl)
      · exact Or.inl (gh_ok0 F_0 rfl)
      · exact Or.inl (gh_ok0 F_1 rfl)
      · exact Or.inl (gh_ok0 F_2 rfl)
      · exact Or.inl (gh_ok0 F_3 rfl)
      · exact Or.inl (gh_ok0 F_4 rfl)
      · have h9 : (0 : Int) ≤ Iₚ (t + 17) 6 ∧ Iₚ (t + 17) 6 ≤ 1 := gc_in hIₚ (F_R) rfl rfl
        exact Or.inl (gh_okn (n := 6) F_0 rfl (by omega))
      · have h9 : (0 : Int) ≤ Iₚ (t + 17) 7 ∧ Iₚ (t + 17) 7 ≤ 1 := gc_in hIₚ (F_R) rfl rfl
        exact Or.inl (gh_okn (n := 6) F_0 rfl (by omega))
      · exact Or.inl (gh_ok0 F_6 rfl)
      · exact Or.inl (gh_ok0 F_7 rfl)
      · exact Or.inl (gh_ok0 (gc_bS hb (p := 100) rfl) rfl)
      · exact Or.inl (gh_ok0 (gc_bS hb (p := 100) rfl) rfl)
      · exact Or.inl (gh_ok0 (gc_bS hb (p := 100) rfl) rfl)
      · exact Or.inl (gh_ok0 (gc_bS hb (p := 102) rfl) rfl)
      · exact Or.inl (gh_ok0 (gc_bS hb (p := 103) rfl) rfl)
      · exact Or.inl (gh_ok0 (gc_bS hb (p := 23) rfl) rfl)
      ) Or.inr) (fun q j => (k q j).imp (fun h => h.elim) id)
  have hk := gh_HS_k (i := Int.toNat a1) hs (by omega) ht hIₚ ok' (fun q j => (g q j).imp (fun h => by omega) id) (fun q j => (k q j).imp (fun h => h.elim) id)
  refine ⟨z, Iₚ, Jₚ, gz_Ev_mono (by decide) E, ⟨hk.1, ⟨(gc_FN_fr c1 (fun k => ((g 49 k).resolve_left (by omega))) (fun k => ((g 50 k).resolve_left (by omega)))), (gc_FZ_fr c2 ((g 2 1).resolve_left (by omega)) (fun k => ((g 49 k).resolve_left (by omega))) (fun k => ((g 50 k).resolve_left (by omega)))), (by have h1 := ((g 86 2).resolve_left (by omega)); have h2 := ((g 86 4).resolve_left (by omega)); omega), (by have h1 := ((g 100 2).resolve_left (by omega)); have h2 := ((g 100 1).resolve_left (by omega)); have h3 := hk.2.1 8 1 (by decide) (by decide); omega), (gh_SN_fr c5 ((g 100 9).resolve_left (by omega))), (gh_FBT_t hT c6 hk.2 (by omega) (by omega) ht (fun q j hq => (g q j).imp (fun h => by omega) id) (by rw [p4]; exact p3) (by omega) (fun h9 => by omega) pB), (gh_TRE_k c7 hk.2 (fun q j h1 h2 h3 => ((g q j).resolve_left (by omega)))), (gh_RKO_fr hs c8 hk.2 (fun q j h1 h2 => ((g q j).resolve_left (by omega))))⟩, hk.2, by omega, (fun k9 h9 => ((g 24 k9).resolve_left (by omega))), ⟨(g 100 9).resolve_left (by omega), fun _ => ⟨(g 100 1).resolve_left (by omega), (g 100 2).resolve_left (by omega), fun k => (g 101 k).resolve_left (by omega)⟩, fun h => absurd rfl h, fun _ => ⟨(g 100 14).resolve_left (by omega), fun k => (g 111 k).resolve_left (by omega), fun k => (g 112 k).resolve_left (by omega)⟩⟩⟩⟩
set_option maxHeartbeats 2000000 in
theorem hh_show {ws0 : List Cond} {tb : String → gz_T} (hws : gc_Ws ws0) (htb : gc_tbs tb) {sh : gz_Sh} {ro : Nat → Nat} {I : gr_I} {J : gr_J} {A : gc_A} (hs : gh_HS sh ro I J A) (hc : gh_HC sh ro A I) (a1 : Int) (ra1 : 0 ≤ a1 ∧ a1 ≤ 7) : ∃ (z : Int) (Iₚ : gr_I) (Jₚ : gr_J), gz_Ev ws0 tb 100 (yX12_show, cX12_show, 2, (some .int)) [.inr (.inr (some 0)), .inl a1] sh (gc_h sh I J A) (some (.inl z)) sh (gc_h sh Iₚ Jₚ A) 0 0 ∧ gh_K sh ro A I J Iₚ Jₚ (I 23 1) 0 := by
  have hb := hs.1
  have hI := hs.2.1
  have hok := hs.2.2.1
  have hT := hs.2.2.2.1
  have hU := hs.2.2.2.2.1
  have i8 : 0 ≤ I 8 1 ∧ I 8 1 ≤ 8 := gc_in hI (gc_bR hb (by decide) rfl) rfl rfl
  have h144 := gc_Base_len hb
  obtain ⟨c1, c2, c3, c4, c5, c6, c7, c8⟩ := id hc
  obtain ⟨u, A_u, S_u, R_u, B_u, D_u⟩ := gh_plc hb (Int.toNat a1) (by omega)
  obtain ⟨r, hₚ, E, Iₚ, Jₚ, rfl, hIₚ, g, k, z, rfl, p0, p1⟩ := d_X12_show hws htb sh ro I J A hI u a1 hb S_u R_u B_u ⟨by omega, by omega⟩ A_u D_u
  have ok' : gc_OK sh Iₚ Jₚ A := gh_OK_g hok (fun q j => (g q j).elim (fun h => by
      rcases h with ⟨rfl, rfl⟩ | rfl | rfl
      · exact Or.inl (gh_ok0 (gc_bS hb (p := 27) rfl) rfl)
      · exact Or.inl (gh_ok0 (gc_bS hb (p := 28) rfl) rfl)
      · exact Or.inl (gh_ok0 (gc_bS hb (p := 22) rfl) rfl)
      ) Or.inr) (fun q j => (k q j).imp (fun h => h.elim) id)
  have hk := gh_HS_n hs hIₚ ok' (fun q j => (g q j).imp (fun h => by omega) id) (fun q j => (k q j).imp (fun h => h.elim) id)
  refine ⟨z, Iₚ, Jₚ, gz_Ev_mono (by decide) E, ⟨hk.1, ⟨(gc_FN_fr c1 (fun k => ((g 49 k).resolve_left (by omega))) (fun k => ((g 50 k).resolve_left (by omega)))), (gc_FZ_fr c2 ((g 2 1).resolve_left (by omega)) (fun k => ((g 49 k).resolve_left (by omega))) (fun k => ((g 50 k).resolve_left (by omega)))), (by have h1 := ((g 86 2).resolve_left (by omega)); have h2 := ((g 86 4).resolve_left (by omega)); omega), (by have h1 := ((g 100 2).resolve_left (by omega)); have h2 := ((g 100 1).resolve_left (by omega)); have h3 := hk.2.1 8 1 (by decide) (by decide); omega), (gh_SN_fr c5 ((g 100 9).resolve_left (by omega))), (gh_FBT_fr c6 hk.2 (fun i t d j hi ht h1 h2 => (g (t + d) j).resolve_left (by have := (hT.1 i t hi ht).2.1; omega))), (gh_TRE_k c7 hk.2 (fun q j h1 h2 h3 => ((g q j).resolve_left (by omega)))), (gh_RKO_fr hs c8 hk.2 (fun q j h1 h2 => ((g q j).resolve_left (by omega))))⟩, hk.2, ((g 23 1).resolve_left (by omega)), (fun k9 h9 => ((g 24 k9).resolve_left (by omega))), ⟨(g 100 9).resolve_left (by omega), fun _ => ⟨(g 100 1).resolve_left (by omega), (g 100 2).resolve_left (by omega), fun k => (g 101 k).resolve_left (by omega)⟩, fun _ => ⟨(g 100 4).resolve_left (by omega), (g 100 7).resolve_left (by omega), (g 100 8).resolve_left (by omega), fun k => (g 102 k).resolve_left (by omega), fun k => (g 103 k).resolve_left (by omega)⟩, fun _ => ⟨(g 100 14).resolve_left (by omega), fun k => (g 111 k).resolve_left (by omega), fun k => (g 112 k).resolve_left (by omega)⟩⟩⟩⟩
set_option maxHeartbeats 2000000 in
theorem hh_same {ws0 : List Cond} {tb : String → gz_T} (hws : gc_Ws ws0) (htb : gc_tbs tb) {sh : gz_Sh} {ro : Nat → Nat} {I : gr_I} {J : gr_J} {A : gc_A} (hs : gh_HS sh ro I J A) (hc : gh_HC sh ro A I) (a1 : Int) (a2 : Int) (ra1 : 0 ≤ a1 ∧ a1 ≤ 7) (ra2 : 0 ≤ a2 ∧ a2 ≤ 7) : ∃ (z : Int) (Iₚ : gr_I) (Jₚ : gr_J), gz_Ev ws0 tb 100 (yX12_same, cX12_same, 4, (some .boolean)) [.inr (.inr (some 0)), .inl a1, .inl a2] sh (gc_h sh I J A) (some (.inl z)) sh (gc_h sh Iₚ Jₚ A) 0 0 ∧ gh_K sh ro A I J Iₚ Jₚ (I 23 1) 0 := by
  have hb := hs.1
  have hI := hs.2.1
  have hok := hs.2.2.1
  have hT := hs.2.2.2.1
  have hU := hs.2.2.2.2.1
  have i8 : 0 ≤ I 8 1 ∧ I 8 1 ≤ 8 := gc_in hI (gc_bR hb (by decide) rfl) rfl rfl
  have h144 := gc_Base_len hb
  obtain ⟨c1, c2, c3, c4, c5, c6, c7, c8⟩ := id hc
  obtain ⟨u, A_u, S_u, R_u, B_u, D_u⟩ := gh_plc hb (Int.toNat a1) (by omega)
  obtain ⟨v, A_v, S_v, R_v, B_v, D_v⟩ := gh_plc hb (Int.toNat a2) (by omega)
  obtain ⟨r, hₚ, E, rfl, z, rfl, p0, p1⟩ := d_X12_same hws htb sh ro I J A hI u v a1 a2 hb S_u R_u B_u S_v R_v B_v ⟨by omega, by omega⟩ ⟨by omega, by omega⟩ A_u D_u A_v D_v
  exact ⟨z, I, J, gz_Ev_mono (by decide) E, hs, hc, gh_SE_refl, rfl, fun _ _ => rfl, gh_E9_rf⟩
set_option maxHeartbeats 2000000 in
theorem hh_candidate {ws0 : List Cond} {tb : String → gz_T} (hws : gc_Ws ws0) (htb : gc_tbs tb) {sh : gz_Sh} {ro : Nat → Nat} {I : gr_I} {J : gr_J} {A : gc_A} (hs : gh_HS sh ro I J A) (hc : gh_HC sh ro A I) (a1 : Int) (ra1 : (-2147483648) ≤ a1 ∧ a1 ≤ 2147483647) : ∃ (z : Int) (Iₚ : gr_I) (Jₚ : gr_J), gz_Ev ws0 tb 100 (yX12_candidate, cX12_candidate, 2, (some .int)) [.inr (.inr (some 0)), .inl a1] sh (gc_h sh I J A) (some (.inl z)) sh (gc_h sh Iₚ Jₚ A) 0 0 ∧ gh_K sh ro A I J Iₚ Jₚ (I 23 1) 0 := by
  have hb := hs.1
  have hI := hs.2.1
  have hok := hs.2.2.1
  have hT := hs.2.2.2.1
  have hU := hs.2.2.2.2.1
  have i8 : 0 ≤ I 8 1 ∧ I 8 1 ≤ 8 := gc_in hI (gc_bR hb (by decide) rfl) rfl rfl
  have h144 := gc_Base_len hb
  obtain ⟨c1, c2, c3, c4, c5, c6, c7, c8⟩ := id hc
  obtain ⟨r, hₚ, E, Iₚ, Jₚ, rfl, hIₚ, g, k, z, rfl, p0, p1⟩ := d_X12_candidate hws htb sh ro I J A hI a1 hb ⟨by omega, by omega⟩
  have ok' : gc_OK sh Iₚ Jₚ A := gh_OK_g hok (fun q j => (g q j).elim (fun h => by
      rcases h with ⟨rfl, rfl⟩ | rfl
      · exact Or.inl (gh_ok0 (gc_bS hb (p := 27) rfl) rfl)
      · exact Or.inl (gh_ok0 (gc_bS hb (p := 28) rfl) rfl)
      ) Or.inr) (fun q j => (k q j).imp (fun h => h.elim) id)
  have hk := gh_HS_n hs hIₚ ok' (fun q j => (g q j).imp (fun h => by omega) id) (fun q j => (k q j).imp (fun h => h.elim) id)
  refine ⟨z, Iₚ, Jₚ, gz_Ev_mono (by decide) E, ⟨hk.1, ⟨(gc_FN_fr c1 (fun k => ((g 49 k).resolve_left (by omega))) (fun k => ((g 50 k).resolve_left (by omega)))), (gc_FZ_fr c2 ((g 2 1).resolve_left (by omega)) (fun k => ((g 49 k).resolve_left (by omega))) (fun k => ((g 50 k).resolve_left (by omega)))), (by have h1 := ((g 86 2).resolve_left (by omega)); have h2 := ((g 86 4).resolve_left (by omega)); omega), (by have h1 := ((g 100 2).resolve_left (by omega)); have h2 := ((g 100 1).resolve_left (by omega)); have h3 := hk.2.1 8 1 (by decide) (by decide); omega), (gh_SN_fr c5 ((g 100 9).resolve_left (by omega))), (gh_FBT_fr c6 hk.2 (fun i t d j hi ht h1 h2 => (g (t + d) j).resolve_left (by have := (hT.1 i t hi ht).2.1; omega))), (gh_TRE_k c7 hk.2 (fun q j h1 h2 h3 => ((g q j).resolve_left (by omega)))), (gh_RKO_fr hs c8 hk.2 (fun q j h1 h2 => ((g q j).resolve_left (by omega))))⟩, hk.2, ((g 23 1).resolve_left (by omega)), (fun k9 h9 => ((g 24 k9).resolve_left (by omega))), ⟨(g 100 9).resolve_left (by omega), fun _ => ⟨(g 100 1).resolve_left (by omega), (g 100 2).resolve_left (by omega), fun k => (g 101 k).resolve_left (by omega)⟩, fun _ => ⟨(g 100 4).resolve_left (by omega), (g 100 7).resolve_left (by omega), (g 100 8).resolve_left (by omega), fun k => (g 102 k).resolve_left (by omega), fun k => (g 103 k).resolve_left (by omega)⟩, fun _ => ⟨(g 100 14).resolve_left (by omega), fun k => (g 111 k).resolve_left (by omega), fun k => (g 112 k).resolve_left (by omega)⟩⟩⟩⟩
set_option maxHeartbeats 2000000 in
theorem hh_tree {ws0 : List Cond} {tb : String → gz_T} (hws : gc_Ws ws0) (htb : gc_tbs tb) {sh : gz_Sh} {ro : Nat → Nat} {I : gr_I} {J : gr_J} {A : gc_A} (hs : gh_HS sh ro I J A) (hc : gh_HC sh ro A I) (a1 : Int) (ra1 : 0 ≤ a1 ∧ a1 ≤ 7) : ∃ (z : Int) (Iₚ : gr_I) (Jₚ : gr_J), gz_Ev ws0 tb 100 (yX12_tree, cX12_tree, 3, (some .int)) [.inr (.inr (some 0)), .inl a1] sh (gc_h sh I J A) (some (.inl z)) sh (gc_h sh Iₚ Jₚ A) 0 0 ∧ gh_K sh ro A I J Iₚ Jₚ (0) 0 := by
  have hb := hs.1
  have hI := hs.2.1
  have hok := hs.2.2.1
  have hT := hs.2.2.2.1
  have hU := hs.2.2.2.2.1
  have i8 : 0 ≤ I 8 1 ∧ I 8 1 ≤ 8 := gc_in hI (gc_bR hb (by decide) rfl) rfl rfl
  have h144 := gc_Base_len hb
  obtain ⟨c1, c2, c3, c4, c5, c6, c7, c8⟩ := id hc
  obtain ⟨u, A_u, S_u, R_u, B_u, D_u⟩ := gh_plc hb (Int.toNat a1) (by omega)
  obtain ⟨r, hₚ, E, Iₚ, Jₚ, rfl, hIₚ, g, k, z, rfl, p0, p1, p2, p3, p4⟩ := d_X12_tree hws htb sh ro I J A hI u a1 hb S_u R_u B_u ⟨by omega, by omega⟩ A_u D_u
  have ok' : gc_OK sh Iₚ Jₚ A := gh_OK_g hok (fun q j => (g q j).elim (fun h => by
      rcases h with ⟨rfl, rfl⟩ | ⟨rfl, rfl⟩ | ⟨rfl, rfl⟩ | ⟨rfl, rfl⟩ | ⟨rfl, rfl⟩ | ⟨rfl, rfl⟩ | rfl | rfl | rfl | ⟨rfl, rfl⟩ | rfl | ⟨rfl, rfl⟩
      · exact Or.inl (gh_ok0 (gc_bS hb (p := 39) rfl) rfl)
      · exact Or.inl (gh_ok0 (gc_bS hb (p := 39) rfl) rfl)
      · exact Or.inl (gh_ok0 (gc_bS hb (p := 23) rfl) rfl)
      · exact Or.inl (gh_ok0 (gc_bS hb (p := 23) rfl) rfl)
      · exact Or.inl (gh_ok0 (gc_bS hb (p := 23) rfl) rfl)
      · exact Or.inl (gh_ok0 (gc_bS hb (p := 23) rfl) rfl)
      · exact Or.inl (gh_ok0 (gc_bS hb (p := 123) rfl) rfl)
      · exact Or.inl (gh_ok0 (gc_bS hb (p := 46) rfl) rfl)
      · exact Or.inl (gh_ok0 (gc_bS hb (p := 47) rfl) rfl)
      · exact Or.inl (gh_ok0 (gc_bS hb (p := 23) rfl) rfl)
      · exact Or.inl (gh_ok0 S_u rfl)
      · exact Or.inl (gh_ok0 (gc_bS hb (p := 124) rfl) rfl)
      ) Or.inr) (fun q j => (k q j).imp (fun h => by omega) id)
  have hk := gh_HS_n hs hIₚ ok' (fun q j => (g q j).imp (fun h => by omega) id) (fun q j => (k q j).imp (fun h => by omega) id)
  refine ⟨z, Iₚ, Jₚ, gz_Ev_mono (by decide) E, ⟨hk.1, ⟨(gc_FN_fr c1 (fun k => ((g 49 k).resolve_left (by omega))) (fun k => ((g 50 k).resolve_left (by omega)))), (gc_FZ_fr c2 ((g 2 1).resolve_left (by omega)) (fun k => ((g 49 k).resolve_left (by omega))) (fun k => ((g 50 k).resolve_left (by omega)))), (by have h1 := ((g 86 2).resolve_left (by omega)); have h2 := ((g 86 4).resolve_left (by omega)); omega), (by have h1 := ((g 100 2).resolve_left (by omega)); have h2 := ((g 100 1).resolve_left (by omega)); have h3 := hk.2.1 8 1 (by decide) (by decide); omega), (gh_SN_fr c5 ((g 100 9).resolve_left (by omega))), (gh_FBT_fr c6 hk.2 (fun i t d j hi ht h1 h2 => (g (t + d) j).resolve_left (by have := (hT.1 i t hi ht).2.1; omega))), (gh_TRE_1 (p := Int.toNat a1) c7 hk.2 (fun k9 h1 h2 => (g 124 k9).resolve_left (by omega)) (fun k9 j h1 h2 => (g (115 + k9) j).resolve_left (by omega)) (by
      have h41 := hk.2.1 4 1 (by decide) (by decide)
      rw [h41, ← D_u]
      by_cases h9 : 0 < z
      · obtain ⟨w1, w2, w3⟩ := p3.resolve_left (by omega)
        rw [w3]
        exact Or.inr ⟨w1, w2⟩
      · obtain ⟨w1, w2⟩ := p4.resolve_left h9
        rw [w2]
        have h8 := c7 (Int.toNat a1) (by omega)
        rw [← D_u] at h8
        exact h8.imp id (fun h7 => ⟨gh_wtr_fu h7.1 h7.2 (fun j _ => hk.2.1 12 j (by decide) (by decide)) w1, fun k9 h1 h2 => by rw [w1]; exact h7.2 k9 h1 h2⟩))), (gh_RKO_fr hs c8 hk.2 (fun q j h1 h2 => ((g q j).resolve_left (by omega))))⟩, hk.2, by omega, (fun k9 h9 => ((g 24 k9).resolve_left (by omega))), ⟨(g 100 9).resolve_left (by omega), fun _ => ⟨(g 100 1).resolve_left (by omega), (g 100 2).resolve_left (by omega), fun k => (g 101 k).resolve_left (by omega)⟩, fun _ => ⟨(g 100 4).resolve_left (by omega), (g 100 7).resolve_left (by omega), (g 100 8).resolve_left (by omega), fun k => (g 102 k).resolve_left (by omega), fun k => (g 103 k).resolve_left (by omega)⟩, fun _ => ⟨(g 100 14).resolve_left (by omega), fun k => (g 111 k).resolve_left (by omega), fun k => (g 112 k).resolve_left (by omega)⟩⟩⟩⟩
set_option maxHeartbeats 2000000 in
theorem hh_mean {ws0 : List Cond} {tb : String → gz_T} (hws : gc_Ws ws0) (htb : gc_tbs tb) {sh : gz_Sh} {ro : Nat → Nat} {I : gr_I} {J : gr_J} {A : gc_A} (hs : gh_HS sh ro I J A) (hc : gh_HC sh ro A I) (a1 : Int) (ra1 : 0 ≤ a1 ∧ a1 ≤ 7) : ∃ (z : Int) (Iₚ : gr_I) (Jₚ : gr_J), gz_Ev ws0 tb 100 (yX12_mean, cX12_mean, 3, (some .int)) [.inr (.inr (some 0)), .inl a1] sh (gc_h sh I J A) (some (.inl z)) sh (gc_h sh Iₚ Jₚ A) 0 0 ∧ gh_K sh ro A I J Iₚ Jₚ (I 23 1) 0 := by
  have hb := hs.1
  have hI := hs.2.1
  have hok := hs.2.2.1
  have hT := hs.2.2.2.1
  have hU := hs.2.2.2.2.1
  have i8 : 0 ≤ I 8 1 ∧ I 8 1 ≤ 8 := gc_in hI (gc_bR hb (by decide) rfl) rfl rfl
  have h144 := gc_Base_len hb
  obtain ⟨c1, c2, c3, c4, c5, c6, c7, c8⟩ := id hc
  obtain ⟨u, A_u, S_u, R_u, B_u, D_u⟩ := gh_plc hb (Int.toNat a1) (by omega)
  obtain ⟨r, hₚ, E, Iₚ, Jₚ, rfl, hIₚ, g, k, z, rfl, p0, p1, p2⟩ := d_X12_mean hws htb sh ro I J A hI u a1 hb S_u R_u B_u ⟨by omega, by omega⟩ A_u D_u c3 (by have h8 := c7 (Int.toNat a1) (by omega); rw [← D_u] at h8; exact h8.imp id (fun h7 => h7.1)) hs.2.2.2.2.2.1
  have ok' : gc_OK sh Iₚ Jₚ A := gh_OK_g hok (fun q j => (g q j).elim (fun h => by
      rcases h with rfl | rfl | ⟨rfl, rfl⟩ | ⟨rfl, rfl⟩ | ⟨rfl, rfl⟩ | ⟨rfl, rfl⟩ | ⟨rfl, rfl⟩ | rfl | rfl | rfl | rfl | ⟨rfl, rfl⟩ | rfl
      · exact Or.inl (gh_ok0 (gc_bS hb (p := 87) rfl) rfl)
      · exact Or.inl (gh_ok0 (gc_bS hb (p := 89) rfl) rfl)
      · exact Or.inl (gh_ok0 (gc_bS hb (p := 86) rfl) rfl)
      · have h9 : (0 : Int) ≤ Iₚ 86 2 ∧ Iₚ 86 2 ≤ 1 := gc_in hIₚ (gc_bR hb (by decide) rfl) rfl rfl
        exact Or.inl (gh_okn (n := 1001) (gc_bS hb (p := 86) rfl) rfl (by omega))
      · have h9 : (0 : Int) ≤ Iₚ 86 3 ∧ Iₚ 86 3 ≤ 1 := gc_in hIₚ (gc_bR hb (by decide) rfl) rfl rfl
        exact Or.inl (gh_okn (n := 1002) (gc_bS hb (p := 86) rfl) rfl (by omega))
      · have h9 : (0 : Int) ≤ Iₚ 86 4 ∧ Iₚ 86 4 ≤ 1 := gc_in hIₚ (gc_bR hb (by decide) rfl) rfl rfl
        exact Or.inl (gh_okn (n := 1001) (gc_bS hb (p := 86) rfl) rfl (by omega))
      · have h9 : (0 : Int) ≤ Iₚ 86 5 ∧ Iₚ 86 5 ≤ 1 := gc_in hIₚ (gc_bR hb (by decide) rfl) rfl rfl
        exact Or.inl (gh_okn (n := 1002) (gc_bS hb (p := 86) rfl) rfl (by omega))
      · exact Or.inl (gh_ok0 (gc_bS hb (p := 91) rfl) rfl)
      · exact Or.inl (gh_ok0 (gc_bS hb (p := 22) rfl) rfl)
      · exact Or.inl (gh_ok0 (gc_bS hb (p := 92) rfl) rfl)
      · exact Or.inl (gh_ok0 (gc_bS hb (p := 93) rfl) rfl)
      · exact Or.inl (gh_ok0 (gc_bS hb (p := 27) rfl) rfl)
      · exact Or.inl (gh_ok0 (gc_bS hb (p := 28) rfl) rfl)
      ) Or.inr) (fun q j => (k q j).imp (fun h => by omega) id)
  have hk := gh_HS_n hs hIₚ ok' (fun q j => (g q j).imp (fun h => by omega) id) (fun q j => (k q j).imp (fun h => by omega) id)
  refine ⟨z, Iₚ, Jₚ, gz_Ev_mono (by decide) E, ⟨hk.1, ⟨(gc_FN_fr c1 (fun k => ((g 49 k).resolve_left (by omega))) (fun k => ((g 50 k).resolve_left (by omega)))), (gc_FZ_fr c2 ((g 2 1).resolve_left (by omega)) (fun k => ((g 49 k).resolve_left (by omega))) (fun k => ((g 50 k).resolve_left (by omega)))), p2, (by have h1 := ((g 100 2).resolve_left (by omega)); have h2 := ((g 100 1).resolve_left (by omega)); have h3 := hk.2.1 8 1 (by decide) (by decide); omega), (gh_SN_fr c5 ((g 100 9).resolve_left (by omega))), (gh_FBT_fr c6 hk.2 (fun i t d j hi ht h1 h2 => (g (t + d) j).resolve_left (by have := (hT.1 i t hi ht).2.1; omega))), (gh_TRE_k c7 hk.2 (fun q j h1 h2 h3 => ((g q j).resolve_left (by omega)))), (gh_RKO_fr hs c8 hk.2 (fun q j h1 h2 => ((g q j).resolve_left (by omega))))⟩, hk.2, ((g 23 1).resolve_left (by omega)), (fun k9 h9 => ((g 24 k9).resolve_left (by omega))), ⟨(g 100 9).resolve_left (by omega), fun _ => ⟨(g 100 1).resolve_left (by omega), (g 100 2).resolve_left (by omega), fun k => (g 101 k).resolve_left (by omega)⟩, fun _ => ⟨(g 100 4).resolve_left (by omega), (g 100 7).resolve_left (by omega), (g 100 8).resolve_left (by omega), fun k => (g 102 k).resolve_left (by omega), fun k => (g 103 k).resolve_left (by omega)⟩, fun _ => ⟨(g 100 14).resolve_left (by omega), fun k => (g 111 k).resolve_left (by omega), fun k => (g 112 k).resolve_left (by omega)⟩⟩⟩⟩
set_option maxHeartbeats 2000000 in
theorem hh_truth {ws0 : List Cond} {tb : String → gz_T} (hws : gc_Ws ws0) (htb : gc_tbs tb) {sh : gz_Sh} {ro : Nat → Nat} {I : gr_I} {J : gr_J} {A : gc_A} (hs : gh_HS sh ro I J A) (hc : gh_HC sh ro A I) (a1 : Int) (ra1 : 0 ≤ a1 ∧ a1 ≤ 7) : ∃ (z : Int) (Iₚ : gr_I) (Jₚ : gr_J), gz_Ev ws0 tb 100 (yX12_truth, cX12_truth, 3, (some .int)) [.inr (.inr (some 0)), .inl a1] sh (gc_h sh I J A) (some (.inl z)) sh (gc_h sh Iₚ Jₚ A) 0 0 ∧ gh_K sh ro A I J Iₚ Jₚ (I 23 1) 0 := by
  have hb := hs.1
  have hI := hs.2.1
  have hok := hs.2.2.1
  have hT := hs.2.2.2.1
  have hU := hs.2.2.2.2.1
  have i8 : 0 ≤ I 8 1 ∧ I 8 1 ≤ 8 := gc_in hI (gc_bR hb (by decide) rfl) rfl rfl
  have h144 := gc_Base_len hb
  obtain ⟨c1, c2, c3, c4, c5, c6, c7, c8⟩ := id hc
  obtain ⟨u, A_u, S_u, R_u, B_u, D_u⟩ := gh_plc hb (Int.toNat a1) (by omega)
  obtain ⟨r, hₚ, E, Iₚ, Jₚ, rfl, hIₚ, g, k, z, rfl, p0, p1, p2⟩ := d_X12_truth hws htb sh ro I J A hI u a1 hb S_u R_u B_u ⟨by omega, by omega⟩ A_u D_u c3 (by have h8 := c7 (Int.toNat a1) (by omega); rw [← D_u] at h8; exact h8.imp id (fun h7 => h7.1)) hs.2.2.2.2.2.1
  have ok' : gc_OK sh Iₚ Jₚ A := gh_OK_g hok (fun q j => (g q j).elim (fun h => by
      rcases h with rfl | rfl | ⟨rfl, rfl⟩ | ⟨rfl, rfl⟩ | ⟨rfl, rfl⟩ | ⟨rfl, rfl⟩ | ⟨rfl, rfl⟩ | rfl | rfl | rfl | rfl | rfl | rfl | rfl | ⟨rfl, rfl⟩ | ⟨rfl, rfl⟩ | ⟨rfl, rfl⟩ | ⟨rfl, rfl⟩ | rfl | rfl
      · exact Or.inl (gh_ok0 (gc_bS hb (p := 87) rfl) rfl)
      · exact Or.inl (gh_ok0 (gc_bS hb (p := 89) rfl) rfl)
      · exact Or.inl (gh_ok0 (gc_bS hb (p := 86) rfl) rfl)
      · have h9 : (0 : Int) ≤ Iₚ 86 2 ∧ Iₚ 86 2 ≤ 1 := gc_in hIₚ (gc_bR hb (by decide) rfl) rfl rfl
        exact Or.inl (gh_okn (n := 1001) (gc_bS hb (p := 86) rfl) rfl (by omega))
      · have h9 : (0 : Int) ≤ Iₚ 86 3 ∧ Iₚ 86 3 ≤ 1 := gc_in hIₚ (gc_bR hb (by decide) rfl) rfl rfl
        exact Or.inl (gh_okn (n := 1002) (gc_bS hb (p := 86) rfl) rfl (by omega))
      · have h9 : (0 : Int) ≤ Iₚ 86 4 ∧ Iₚ 86 4 ≤ 1 := gc_in hIₚ (gc_bR hb (by decide) rfl) rfl rfl
        exact Or.inl (gh_okn (n := 1001) (gc_bS hb (p := 86) rfl) rfl (by omega))
      · have h9 : (0 : Int) ≤ Iₚ 86 5 ∧ Iₚ 86 5 ≤ 1 := gc_in hIₚ (gc_bR hb (by decide) rfl) rfl rfl
        exact Or.inl (gh_okn (n := 1002) (gc_bS hb (p := 86) rfl) rfl (by omega))
      · exact Or.inl (gh_ok0 (gc_bS hb (p := 91) rfl) rfl)
      · exact Or.inl (gh_ok0 (gc_bS hb (p := 22) rfl) rfl)
      · exact Or.inl (gh_ok0 (gc_bS hb (p := 92) rfl) rfl)
      · exact Or.inl (gh_ok0 (gc_bS hb (p := 93) rfl) rfl)
      · exact Or.inl (gh_ok0 (gc_bS hb (p := 95) rfl) rfl)
      · exact Or.inl (gh_ok0 (gc_bS hb (p := 96) rfl) rfl)
      · exact Or.inl (gh_ok0 (gc_bS hb (p := 98) rfl) rfl)
      · exact Or.inl (gh_ok0 (gc_bS hb (p := 86) rfl) rfl)
      · exact Or.inl (gh_ok0 (gc_bS hb (p := 86) rfl) rfl)
      · exact Or.inl (gh_ok0 (gc_bS hb (p := 86) rfl) rfl)
      · exact Or.inl (gh_ok0 (gc_bS hb (p := 86) rfl) rfl)
      · exact Or.inl (gh_ok0 (gc_bS hb (p := 97) rfl) rfl)
      · exact Or.inl (gh_ok0 (gc_bS hb (p := 99) rfl) rfl)
      ) Or.inr) (fun q j => (k q j).imp (fun h => by omega) id)
  have hk := gh_HS_n hs hIₚ ok' (fun q j => (g q j).imp (fun h => by omega) id) (fun q j => (k q j).imp (fun h => by omega) id)
  refine ⟨z, Iₚ, Jₚ, gz_Ev_mono (by decide) E, ⟨hk.1, ⟨(gc_FN_fr c1 (fun k => ((g 49 k).resolve_left (by omega))) (fun k => ((g 50 k).resolve_left (by omega)))), (gc_FZ_fr c2 ((g 2 1).resolve_left (by omega)) (fun k => ((g 49 k).resolve_left (by omega))) (fun k => ((g 50 k).resolve_left (by omega)))), p2, (by have h1 := ((g 100 2).resolve_left (by omega)); have h2 := ((g 100 1).resolve_left (by omega)); have h3 := hk.2.1 8 1 (by decide) (by decide); omega), (gh_SN_fr c5 ((g 100 9).resolve_left (by omega))), (gh_FBT_fr c6 hk.2 (fun i t d j hi ht h1 h2 => (g (t + d) j).resolve_left (by have := (hT.1 i t hi ht).2.1; omega))), (gh_TRE_k c7 hk.2 (fun q j h1 h2 h3 => ((g q j).resolve_left (by omega)))), (gh_RKO_fr hs c8 hk.2 (fun q j h1 h2 => ((g q j).resolve_left (by omega))))⟩, hk.2, ((g 23 1).resolve_left (by omega)), (fun k9 h9 => ((g 24 k9).resolve_left (by omega))), ⟨(g 100 9).resolve_left (by omega), fun _ => ⟨(g 100 1).resolve_left (by omega), (g 100 2).resolve_left (by omega), fun k => (g 101 k).resolve_left (by omega)⟩, fun _ => ⟨(g 100 4).resolve_left (by omega), (g 100 7).resolve_left (by omega), (g 100 8).resolve_left (by omega), fun k => (g 102 k).resolve_left (by omega), fun k => (g 103 k).resolve_left (by omega)⟩, fun _ => ⟨(g 100 14).resolve_left (by omega), fun k => (g 111 k).resolve_left (by omega), fun k => (g 112 k).resolve_left (by omega)⟩⟩⟩⟩
set_option maxHeartbeats 2000000 in
theorem hh_number_0 {ws0 : List Cond} {tb : String → gz_T} (hws : gc_Ws ws0) (htb : gc_tbs tb) {sh : gz_Sh} {ro : Nat → Nat} {I : gr_I} {J : gr_J} {A : gc_A} (hs : gh_HS sh ro I J A) (hc : gh_HC sh ro A I) (a1 : Int) (a2 : Int) (ra1 : (-2147483648) ≤ a1 ∧ a1 ≤ 2147483647) (ra2 : 0 ≤ a2 ∧ a2 ≤ 0) : ∃ (z : Int) (Iₚ : gr_I) (Jₚ : gr_J), gz_Ev ws0 tb 100 (yX12_number, cX12_number, 6, (some .int)) [.inr (.inr (some 0)), .inl a1, .inl a2] sh (gc_h sh I J A) (some (.inl z)) sh (gc_h sh Iₚ Jₚ A) 0 0 ∧ gh_K sh ro A I J Iₚ Jₚ (0) 0 := by
  have hb := hs.1
  have hI := hs.2.1
  have hok := hs.2.2.1
  have hT := hs.2.2.2.1
  have hU := hs.2.2.2.2.1
  have i8 : 0 ≤ I 8 1 ∧ I 8 1 ≤ 8 := gc_in hI (gc_bR hb (by decide) rfl) rfl rfl
  have h144 := gc_Base_len hb
  obtain ⟨c1, c2, c3, c4, c5, c6, c7, c8⟩ := id hc
  obtain ⟨r, hₚ, E, Iₚ, Jₚ, rfl, hIₚ, g, k, z, rfl, p0, p1, p2⟩ := d_X12_number_0 hws htb sh ro I J A hI a1 a2 hb ⟨by omega, by omega⟩ ⟨by omega, by omega⟩
  have ok' : gc_OK sh Iₚ Jₚ A := gh_OK_g hok (fun q j => (g q j).elim (fun h => by
      rcases h with ⟨rfl, rfl⟩ | ⟨rfl, rfl⟩ | ⟨rfl, rfl⟩ | ⟨rfl, rfl⟩ | ⟨rfl, rfl⟩
      · exact Or.inl (gh_ok0 (gc_bS hb (p := 23) rfl) rfl)
      · exact Or.inl (gh_ok0 (gc_bS hb (p := 23) rfl) rfl)
      · exact Or.inl (gh_ok0 (gc_bS hb (p := 23) rfl) rfl)
      · exact Or.inl (gh_ok0 (gc_bS hb (p := 23) rfl) rfl)
      · exact Or.inl (gh_ok0 (gc_bS hb (p := 23) rfl) rfl)
      ) Or.inr) (fun q j => (k q j).imp (fun h => by omega) id)
  have hk := gh_HS_n hs hIₚ ok' (fun q j => (g q j).imp (fun h => by omega) id) (fun q j => (k q j).imp (fun h => by omega) id)
  refine ⟨z, Iₚ, Jₚ, gz_Ev_mono (by decide) E, ⟨hk.1, ⟨(gc_FN_fr c1 (fun k => ((g 49 k).resolve_left (by omega))) (fun k => ((g 50 k).resolve_left (by omega)))), (gc_FZ_fr c2 ((g 2 1).resolve_left (by omega)) (fun k => ((g 49 k).resolve_left (by omega))) (fun k => ((g 50 k).resolve_left (by omega)))), (by have h1 := ((g 86 2).resolve_left (by omega)); have h2 := ((g 86 4).resolve_left (by omega)); omega), (by have h1 := ((g 100 2).resolve_left (by omega)); have h2 := ((g 100 1).resolve_left (by omega)); have h3 := hk.2.1 8 1 (by decide) (by decide); omega), (gh_SN_fr c5 ((g 100 9).resolve_left (by omega))), (gh_FBT_fr c6 hk.2 (fun i t d j hi ht h1 h2 => (g (t + d) j).resolve_left (by have := (hT.1 i t hi ht).2.1; omega))), (gh_TRE_k c7 hk.2 (fun q j h1 h2 h3 => ((g q j).resolve_left (by omega)))), (gh_RKO_fr hs c8 hk.2 (fun q j h1 h2 => ((g q j).resolve_left (by omega))))⟩, hk.2, by omega, (fun k9 h9 => ((g 24 k9).resolve_left (by omega))), ⟨(g 100 9).resolve_left (by omega), fun _ => ⟨(g 100 1).resolve_left (by omega), (g 100 2).resolve_left (by omega), fun k => (g 101 k).resolve_left (by omega)⟩, fun _ => ⟨(g 100 4).resolve_left (by omega), (g 100 7).resolve_left (by omega), (g 100 8).resolve_left (by omega), fun k => (g 102 k).resolve_left (by omega), fun k => (g 103 k).resolve_left (by omega)⟩, fun _ => ⟨(g 100 14).resolve_left (by omega), fun k => (g 111 k).resolve_left (by omega), fun k => (g 112 k).resolve_left (by omega)⟩⟩⟩⟩
set_option maxHeartbeats 2000000 in
theorem hh_number_1 {ws0 : List Cond} {tb : String → gz_T} (hws : gc_Ws ws0) (htb : gc_tbs tb) {sh : gz_Sh} {ro : Nat → Nat} {I : gr_I} {J : gr_J} {A : gc_A} (hs : gh_HS sh ro I J A) (hc : gh_HC sh ro A I) (a1 : Int) (a2 : Int) (ra1 : (-2147483648) ≤ a1 ∧ a1 ≤ 2147483647) (ra2 : 1 ≤ a2 ∧ a2 ≤ 1) : ∃ (z : Int) (Iₚ : gr_I) (Jₚ : gr_J), gz_Ev ws0 tb 100 (yX12_number, cX12_number, 6, (some .int)) [.inr (.inr (some 0)), .inl a1, .inl a2] sh (gc_h sh I J A) (some (.inl z)) sh (gc_h sh Iₚ Jₚ A) 0 0 ∧ gh_K sh ro A I J Iₚ Jₚ (0) 0 := by
  have hb := hs.1
  have hI := hs.2.1
  have hok := hs.2.2.1
  have hT := hs.2.2.2.1
  have hU := hs.2.2.2.2.1
  have i8 : 0 ≤ I 8 1 ∧ I 8 1 ≤ 8 := gc_in hI (gc_bR hb (by decide) rfl) rfl rfl
  have h144 := gc_Base_len hb
  obtain ⟨c1, c2, c3, c4, c5, c6, c7, c8⟩ := id hc
  obtain ⟨r, hₚ, E, Iₚ, Jₚ, rfl, hIₚ, g, k, z, rfl, p0, p1, p2⟩ := d_X12_number_1 hws htb sh ro I J A hI a1 a2 hb ⟨by omega, by omega⟩ ⟨by omega, by omega⟩
  have ok' : gc_OK sh Iₚ Jₚ A := gh_OK_g hok (fun q j => (g q j).elim (fun h => by
      rcases h with ⟨rfl, rfl⟩ | ⟨rfl, rfl⟩ | ⟨rfl, rfl⟩ | ⟨rfl, rfl⟩ | ⟨rfl, rfl⟩
      · exact Or.inl (gh_ok0 (gc_bS hb (p := 23) rfl) rfl)
      · exact Or.inl (gh_ok0 (gc_bS hb (p := 23) rfl) rfl)
      · exact Or.inl (gh_ok0 (gc_bS hb (p := 23) rfl) rfl)
      · exact Or.inl (gh_ok0 (gc_bS hb (p := 23) rfl) rfl)
      · exact Or.inl (gh_ok0 (gc_bS hb (p := 23) rfl) rfl)
      ) Or.inr) (fun q j => (k q j).imp (fun h => by omega) id)
  have hk := gh_HS_n hs hIₚ ok' (fun q j => (g q j).imp (fun h => by omega) id) (fun q j => (k q j).imp (fun h => by omega) id)
  refine ⟨z, Iₚ, Jₚ, gz_Ev_mono (by decide) E, ⟨hk.1, ⟨(gc_FN_fr c1 (fun k => ((g 49 k).resolve_left (by omega))) (fun k => ((g 50 k).resolve_left (by omega)))), (gc_FZ_fr c2 ((g 2 1).resolve_left (by omega)) (fun k => ((g 49 k).resolve_left (by omega))) (fun k => ((g 50 k).resolve_left (by omega)))), (by have h1 := ((g 86 2).resolve_left (by omega)); have h2 := ((g 86 4).resolve_left (by omega)); omega), (by have h1 := ((g 100 2).resolve_left (by omega)); have h2 := ((g 100 1).resolve_left (by omega)); have h3 := hk.2.1 8 1 (by decide) (by decide); omega), (gh_SN_fr c5 ((g 100 9).resolve_left (by omega))), (gh_FBT_fr c6 hk.2 (fun i t d j hi ht h1 h2 => (g (t + d) j).resolve_left (by have := (hT.1 i t hi ht).2.1; omega))), (gh_TRE_k c7 hk.2 (fun q j h1 h2 h3 => ((g q j).resolve_left (by omega)))), (gh_RKO_fr hs c8 hk.2 (fun q j h1 h2 => ((g q j).resolve_left (by omega))))⟩, hk.2, by omega, (fun k9 h9 => ((g 24 k9).resolve_left (by omega))), ⟨(g 100 9).resolve_left (by omega), fun _ => ⟨(g 100 1).resolve_left (by omega), (g 100 2).resolve_left (by omega), fun k => (g 101 k).resolve_left (by omega)⟩, fun _ => ⟨(g 100 4).resolve_left (by omega), (g 100 7).resolve_left (by omega), (g 100 8).resolve_left (by omega), fun k => (g 102 k).resolve_left (by omega), fun k => (g 103 k).resolve_left (by omega)⟩, fun _ => ⟨(g 100 14).resolve_left (by omega), fun k => (g 111 k).resolve_left (by omega), fun k => (g 112 k).resolve_left (by omega)⟩⟩⟩⟩
set_option maxHeartbeats 2000000 in
theorem hh_number_2 {ws0 : List Cond} {tb : String → gz_T} (hws : gc_Ws ws0) (htb : gc_tbs tb) {sh : gz_Sh} {ro : Nat → Nat} {I : gr_I} {J : gr_J} {A : gc_A} (hs : gh_HS sh ro I J A) (hc : gh_HC sh ro A I) (a1 : Int) (a2 : Int) (ra1 : (-2147483648) ≤ a1 ∧ a1 ≤ 2147483647) (ra2 : 2 ≤ a2 ∧ a2 ≤ 2) : ∃ (z : Int) (Iₚ : gr_I) (Jₚ : gr_J), gz_Ev ws0 tb 100 (yX12_number, cX12_number, 6, (some .int)) [.inr (.inr (some 0)), .inl a1, .inl a2] sh (gc_h sh I J A) (some (.inl z)) sh (gc_h sh Iₚ Jₚ A) 0 0 ∧ gh_K sh ro A I J Iₚ Jₚ (0) 0 := by
  have hb := hs.1
  have hI := hs.2.1
  have hok := hs.2.2.1
  have hT := hs.2.2.2.1
  have hU := hs.2.2.2.2.1
  have i8 : 0 ≤ I 8 1 ∧ I 8 1 ≤ 8 := gc_in hI (gc_bR hb (by decide) rfl) rfl rfl
  have h144 := gc_Base_len hb
  obtain ⟨c1, c2, c3, c4, c5, c6, c7, c8⟩ := id hc
  obtain ⟨r, hₚ, E, Iₚ, Jₚ, rfl, hIₚ, g, k, z, rfl, p0, p1, p2⟩ := d_X12_number_2 hws htb sh ro I J A hI a1 a2 hb ⟨by omega, by omega⟩ ⟨by omega, by omega⟩
  have ok' : gc_OK sh Iₚ Jₚ A := gh_OK_g hok (fun q j => (g q j).elim (fun h => by
      rcases h with ⟨rfl, rfl⟩ | ⟨rfl, rfl⟩ | ⟨rfl, rfl⟩ | ⟨rfl, rfl⟩ | ⟨rfl, rfl⟩
      · exact Or.inl (gh_ok0 (gc_bS hb (p := 23) rfl) rfl)
      · exact Or.inl (gh_ok0 (gc_bS hb (p := 23) rfl) rfl)
      · exact Or.inl (gh_ok0 (gc_bS hb (p := 23) rfl) rfl)
      · exact Or.inl (gh_ok0 (gc_bS hb (p := 23) rfl) rfl)
      · exact Or.inl (gh_ok0 (gc_bS hb (p := 23) rfl) rfl)
      ) Or.inr) (fun q j => (k q j).imp (fun h => by omega) id)
  have hk := gh_HS_n hs hIₚ ok' (fun q j => (g q j).imp (fun h => by omega) id) (fun q j => (k q j).imp (fun h => by omega) id)
  refine ⟨z, Iₚ, Jₚ, gz_Ev_mono (by decide) E, ⟨hk.1, ⟨(gc_FN_fr c1 (fun k => ((g 49 k).resolve_left (by omega))) (fun k => ((g 50 k).resolve_left (by omega)))), (gc_FZ_fr c2 ((g 2 1).resolve_left (by omega)) (fun k => ((g 49 k).resolve_left (by omega))) (fun k => ((g 50 k).resolve_left (by omega)))), (by have h1 := ((g 86 2).resolve_left (by omega)); have h2 := ((g 86 4).resolve_left (by omega)); omega), (by have h1 := ((g 100 2).resolve_left (by omega)); have h2 := ((g 100 1).resolve_left (by omega)); have h3 := hk.2.1 8 1 (by decide) (by decide); omega), (gh_SN_fr c5 ((g 100 9).resolve_left (by omega))), (gh_FBT_fr c6 hk.2 (fun i t d j hi ht h1 h2 => (g (t + d) j).resolve_left (by have := (hT.1 i t hi ht).2.1; omega))), (gh_TRE_k c7 hk.2 (fun q j h1 h2 h3 => ((g q j).resolve_left (by omega)))), (gh_RKO_fr hs c8 hk.2 (fun q j h1 h2 => ((g q j).resolve_left (by omega))))⟩, hk.2, by omega, (fun k9 h9 => ((g 24 k9).resolve_left (by omega))), ⟨(g 100 9).resolve_left (by omega), fun _ => ⟨(g 100 1).resolve_left (by omega), (g 100 2).resolve_left (by omega), fun k => (g 101 k).resolve_left (by omega)⟩, fun _ => ⟨(g 100 4).resolve_left (by omega), (g 100 7).resolve_left (by omega), (g 100 8).resolve_left (by omega), fun k => (g 102 k).resolve_left (by omega), fun k => (g 103 k).resolve_left (by omega)⟩, fun _ => ⟨(g 100 14).resolve_left (by omega), fun k => (g 111 k).resolve_left (by omega), fun k => (g 112 k).resolve_left (by omega)⟩⟩⟩⟩
set_option maxHeartbeats 2000000 in
theorem hh_number_3 {ws0 : List Cond} {tb : String → gz_T} (hws : gc_Ws ws0) (htb : gc_tbs tb) {sh : gz_Sh} {ro : Nat → Nat} {I : gr_I} {J : gr_J} {A : gc_A} (hs : gh_HS sh ro I J A) (hc : gh_HC sh ro A I) (a1 : Int) (a2 : Int) (h1 : 0 ≤ a1 ∧ a1 < I 8 1) (ra2 : 3 ≤ a2 ∧ a2 ≤ 3) : ∃ (z : Int) (Iₚ : gr_I) (Jₚ : gr_J), gz_Ev ws0 tb 100 (yX12_number, cX12_number, 6, (some .int)) [.inr (.inr (some 0)), .inl a1, .inl a2] sh (gc_h sh I J A) (some (.inl z)) sh (gc_h sh Iₚ Jₚ A) 0 0 ∧ gh_K sh ro A I J Iₚ Jₚ (0) 0 := by
  have hb := hs.1
  have hI := hs.2.1
  have hok := hs.2.2.1
  have hT := hs.2.2.2.1
  have hU := hs.2.2.2.2.1
  have i8 : 0 ≤ I 8 1 ∧ I 8 1 ≤ 8 := gc_in hI (gc_bR hb (by decide) rfl) rfl rfl
  have h144 := gc_Base_len hb
  obtain ⟨c1, c2, c3, c4, c5, c6, c7, c8⟩ := id hc
  obtain ⟨t, ht, tL, tv, tl, tw⟩ := hU (Int.toNat a1) (by omega)
  have Tt := hT.1 (Int.toNat a1) t (by omega) ht
  have Gt := Tt.2.1
  have FB := c6 (Int.toNat a1) t (by omega) ht
  obtain ⟨r, hₚ, E, Iₚ, Jₚ, rfl, hIₚ, g, k, z, rfl, p0, p1, p2⟩ := d_X12_number_3 hws htb sh ro I J A hI t a1 a2 hb Tt.1 Tt.2.1 ⟨by omega, by omega⟩ ⟨by omega, by omega⟩ ⟨by omega, by omega⟩ ht
  have ok' : gc_OK sh Iₚ Jₚ A := gh_OK_g hok (fun q j => (g q j).elim (fun h => by
      rcases h with ⟨rfl, rfl⟩ | ⟨rfl, rfl⟩ | ⟨rfl, rfl⟩ | ⟨rfl, rfl⟩ | ⟨rfl, rfl⟩
      · exact Or.inl (gh_ok0 (gc_bS hb (p := 23) rfl) rfl)
      · exact Or.inl (gh_ok0 (gc_bS hb (p := 23) rfl) rfl)
      · exact Or.inl (gh_ok0 (gc_bS hb (p := 23) rfl) rfl)
      · exact Or.inl (gh_ok0 (gc_bS hb (p := 23) rfl) rfl)
      · exact Or.inl (gh_ok0 (gc_bS hb (p := 23) rfl) rfl)
      ) Or.inr) (fun q j => (k q j).imp (fun h => by omega) id)
  have hk := gh_HS_n hs hIₚ ok' (fun q j => (g q j).imp (fun h => by omega) id) (fun q j => (k q j).imp (fun h => by omega) id)
  refine ⟨z, Iₚ, Jₚ, gz_Ev_mono (by decide) E, ⟨hk.1, ⟨(gc_FN_fr c1 (fun k => ((g 49 k).resolve_left (by omega))) (fun k => ((g 50 k).resolve_left (by omega)))), (gc_FZ_fr c2 ((g 2 1).resolve_left (by omega)) (fun k => ((g 49 k).resolve_left (by omega))) (fun k => ((g 50 k).resolve_left (by omega)))), (by have h1 := ((g 86 2).resolve_left (by omega)); have h2 := ((g 86 4).resolve_left (by omega)); omega), (by have h1 := ((g 100 2).resolve_left (by omega)); have h2 := ((g 100 1).resolve_left (by omega)); have h3 := hk.2.1 8 1 (by decide) (by decide); omega), (gh_SN_fr c5 ((g 100 9).resolve_left (by omega))), (gh_FBT_fr c6 hk.2 (fun i t d j hi ht h1 h2 => (g (t + d) j).resolve_left (by have := (hT.1 i t hi ht).2.1; omega))), (gh_TRE_k c7 hk.2 (fun q j h1 h2 h3 => ((g q j).resolve_left (by omega)))), (gh_RKO_fr hs c8 hk.2 (fun q j h1 h2 => ((g q j).resolve_left (by omega))))⟩, hk.2, by omega, (fun k9 h9 => ((g 24 k9).resolve_left (by omega))), ⟨(g 100 9).resolve_left (by omega), fun _ => ⟨(g 100 1).resolve_left (by omega), (g 100 2).resolve_left (by omega), fun k => (g 101 k).resolve_left (by omega)⟩, fun _ => ⟨(g 100 4).resolve_left (by omega), (g 100 7).resolve_left (by omega), (g 100 8).resolve_left (by omega), fun k => (g 102 k).resolve_left (by omega), fun k => (g 103 k).resolve_left (by omega)⟩, fun _ => ⟨(g 100 14).resolve_left (by omega), fun k => (g 111 k).resolve_left (by omega), fun k => (g 112 k).resolve_left (by omega)⟩⟩⟩⟩
set_option maxHeartbeats 2000000 in
theorem hh_number_4 {ws0 : List Cond} {tb : String → gz_T} (hws : gc_Ws ws0) (htb : gc_tbs tb) {sh : gz_Sh} {ro : Nat → Nat} {I : gr_I} {J : gr_J} {A : gc_A} (hs : gh_HS sh ro I J A) (hc : gh_HC sh ro A I) (a1 : Int) (a2 : Int) (h1 : 0 ≤ a1 ∧ a1 < I 8 1) (ra2 : 4 ≤ a2 ∧ a2 ≤ 4) : ∃ (z : Int) (Iₚ : gr_I) (Jₚ : gr_J), gz_Ev ws0 tb 100 (yX12_number, cX12_number, 6, (some .int)) [.inr (.inr (some 0)), .inl a1, .inl a2] sh (gc_h sh I J A) (some (.inl z)) sh (gc_h sh Iₚ Jₚ A) 0 0 ∧ gh_K sh ro A I J Iₚ Jₚ (0) 0 := by
  have hb := hs.1
  have hI := hs.2.1
  have hok := hs.2.2.1
  have hT := hs.2.2.2.1
  have hU := hs.2.2.2.2.1
  have i8 : 0 ≤ I 8 1 ∧ I 8 1 ≤ 8 := gc_in hI (gc_bR hb (by decide) rfl) rfl rfl
  have h144 := gc_Base_len hb
  obtain ⟨c1, c2, c3, c4, c5, c6, c7, c8⟩ := id hc
  obtain ⟨t, ht, tL, tv, tl, tw⟩ := hU (Int.toNat a1) (by omega)
  have Tt := hT.1 (Int.toNat a1) t (by omega) ht
  have Gt := Tt.2.1
  have FB := c6 (Int.toNat a1) t (by omega) ht
  obtain ⟨r, hₚ, E, Iₚ, Jₚ, rfl, hIₚ, g, k, z, rfl, p0, p1, p2⟩ := d_X12_number_4 hws htb sh ro I J A hI t a1 a2 hb Tt.1 Tt.2.1 ⟨by omega, by omega⟩ ⟨by omega, by omega⟩ ⟨by omega, by omega⟩ ht
  have ok' : gc_OK sh Iₚ Jₚ A := gh_OK_g hok (fun q j => (g q j).elim (fun h => by
      rcases h with ⟨rfl, rfl⟩ | ⟨rfl, rfl⟩ | ⟨rfl, rfl⟩ | ⟨rfl, rfl⟩ | ⟨rfl, rfl⟩
      · exact Or.inl (gh_ok0 (gc_bS hb (p := 23) rfl) rfl)
      · exact Or.inl (gh_ok0 (gc_bS hb (p := 23) rfl) rfl)
      · exact Or.inl (gh_ok0 (gc_bS hb (p := 23) rfl) rfl)
      · exact Or.inl (gh_ok0 (gc_bS hb (p := 23) rfl) rfl)
      · exact Or.inl (gh_ok0 (gc_bS hb (p := 23) rfl) rfl)
      ) Or.inr) (fun q j => (k q j).imp (fun h => by omega) id)
  have hk := gh_HS_n hs hIₚ ok' (fun q j => (g q j).imp (fun h => by omega) id) (fun q j => (k q j).imp (fun h => by omega) id)
  refine ⟨z, Iₚ, Jₚ, gz_Ev_mono (by decide) E, ⟨hk.1, ⟨(gc_FN_fr c1 (fun k => ((g 49 k).resolve_left (by omega))) (fun k => ((g 50 k).resolve_left (by omega)))), (gc_FZ_fr c2 ((g 2 1).resolve_left (by omega)) (fun k => ((g 49 k).resolve_left (by omega))) (fun k => ((g 50 k).resolve_left (by omega)))), (by have h1 := ((g 86 2).resolve_left (by omega)); have h2 := ((g 86 4).resolve_left (by omega)); omega), (by have h1 := ((g 100 2).resolve_left (by omega)); have h2 := ((g 100 1).resolve_left (by omega)); have h3 := hk.2.1 8 1 (by decide) (by decide); omega), (gh_SN_fr c5 ((g 100 9).resolve_left (by omega))), (gh_FBT_fr c6 hk.2 (fun i t d j hi ht h1 h2 => (g (t + d) j).resolve_left (by have := (hT.1 i t hi ht).2.1; omega))), (gh_TRE_k c7 hk.2 (fun q j h1 h2 h3 => ((g q j).resolve_left (by omega)))), (gh_RKO_fr hs c8 hk.2 (fun q j h1 h2 => ((g q j).resolve_left (by omega))))⟩, hk.2, by omega, (fun k9 h9 => ((g 24 k9).resolve_left (by omega))), ⟨(g 100 9).resolve_left (by omega), fun _ => ⟨(g 100 1).resolve_left (by omega), (g 100 2).resolve_left (by omega), fun k => (g 101 k).resolve_left (by omega)⟩, fun _ => ⟨(g 100 4).resolve_left (by omega), (g 100 7).resolve_left (by omega), (g 100 8).resolve_left (by omega), fun k => (g 102 k).resolve_left (by omega), fun k => (g 103 k).resolve_left (by omega)⟩, fun _ => ⟨(g 100 14).resolve_left (by omega), fun k => (g 111 k).resolve_left (by omega), fun k => (g 112 k).resolve_left (by omega)⟩⟩⟩⟩
set_option maxHeartbeats 2000000 in
theorem hh_number_5 {ws0 : List Cond} {tb : String → gz_T} (hws : gc_Ws ws0) (htb : gc_tbs tb) {sh : gz_Sh} {ro : Nat → Nat} {I : gr_I} {J : gr_J} {A : gc_A} (hs : gh_HS sh ro I J A) (hc : gh_HC sh ro A I) (a1 : Int) (a2 : Int) (h1 : 0 ≤ a1 ∧ a1 < I 8 1) (ra2 : 5 ≤ a2 ∧ a2 ≤ 5) : ∃ (z : Int) (Iₚ : gr_I) (Jₚ : gr_J), gz_Ev ws0 tb 100 (yX12_number, cX12_number, 6, (some .int)) [.inr (.inr (some 0)), .inl a1, .inl a2] sh (gc_h sh I J A) (some (.inl z)) sh (gc_h sh Iₚ Jₚ A) 0 0 ∧ gh_K sh ro A I J Iₚ Jₚ (0) 0 := by
  have hb := hs.1
  have hI := hs.2.1
  have hok := hs.2.2.1
  have hT := hs.2.2.2.1
  have hU := hs.2.2.2.2.1
  have i8 : 0 ≤ I 8 1 ∧ I 8 1 ≤ 8 := gc_in hI (gc_bR hb (by decide) rfl) rfl rfl
  have h144 := gc_Base_len hb
  obtain ⟨c1, c2, c3, c4, c5, c6, c7, c8⟩ := id hc
  obtain ⟨t, ht, tL, tv, tl, tw⟩ := hU (Int.toNat a1) (by omega)
  have Tt := hT.1 (Int.toNat a1) t (by omega) ht
  have Gt := Tt.2.1
  have FB := c6 (Int.toNat a1) t (by omega) ht
  obtain ⟨r, hₚ, E, Iₚ, Jₚ, rfl, hIₚ, g, k, z, rfl, p0, p1, p2⟩ := d_X12_number_5 hws htb sh ro I J A hI t a1 a2 hb Tt.1 Tt.2.1 ⟨by omega, by omega⟩ ⟨by omega, by omega⟩ ⟨by omega, by omega⟩ ht
  have ok' : gc_OK sh Iₚ Jₚ A := gh_OK_g hok (fun q j => (g q j).elim (fun h => by
      rcases h with ⟨rfl, rfl⟩ | ⟨rfl, rfl⟩ | ⟨rfl, rfl⟩ | ⟨rfl, rfl⟩ | ⟨rfl, rfl⟩
      · exact Or.inl (gh_ok0 (gc_bS hb (p := 23) rfl) rfl)
      · exact Or.inl (gh_ok0 (gc_bS hb (p := 23) rfl) rfl)
      · exact Or.inl (gh_ok0 (gc_bS hb (p := 23) rfl) rfl)
      · exact Or.inl (gh_ok0 (gc_bS hb (p := 23) rfl) rfl)
      · exact Or.inl (gh_ok0 (gc_bS hb (p := 23) rfl) rfl)
      ) Or.inr) (fun q j => (k q j).imp (fun h => by omega) id)
  have hk := gh_HS_n hs hIₚ ok' (fun q j => (g q j).imp (fun h => by omega) id) (fun q j => (k q j).imp (fun h => by omega) id)
  refine ⟨z, Iₚ, Jₚ, gz_Ev_mono (by decide) E, ⟨hk.1, ⟨(gc_FN_fr c1 (fun k => ((g 49 k).resolve_left (by omega))) (fun k => ((g 50 k).resolve_left (by omega)))), (gc_FZ_fr c2 ((g 2 1).resolve_left (by omega)) (fun k => ((g 49 k).resolve_left (by omega))) (fun k => ((g 50 k).resolve_left (by omega)))), (by have h1 := ((g 86 2).resolve_left (by omega)); have h2 := ((g 86 4).resolve_left (by omega)); omega), (by have h1 := ((g 100 2).resolve_left (by omega)); have h2 := ((g 100 1).resolve_left (by omega)); have h3 := hk.2.1 8 1 (by decide) (by decide); omega), (gh_SN_fr c5 ((g 100 9).resolve_left (by omega))), (gh_FBT_fr c6 hk.2 (fun i t d j hi ht h1 h2 => (g (t + d) j).resolve_left (by have := (hT.1 i t hi ht).2.1; omega))), (gh_TRE_k c7 hk.2 (fun q j h1 h2 h3 => ((g q j).resolve_left (by omega)))), (gh_RKO_fr hs c8 hk.2 (fun q j h1 h2 => ((g q j).resolve_left (by omega))))⟩, hk.2, by omega, (fun k9 h9 => ((g 24 k9).resolve_left (by omega))), ⟨(g 100 9).resolve_left (by omega), fun _ => ⟨(g 100 1).resolve_left (by omega), (g 100 2).resolve_left (by omega), fun k => (g 101 k).resolve_left (by omega)⟩, fun _ => ⟨(g 100 4).resolve_left (by omega), (g 100 7).resolve_left (by omega), (g 100 8).resolve_left (by omega), fun k => (g 102 k).resolve_left (by omega), fun k => (g 103 k).resolve_left (by omega)⟩, fun _ => ⟨(g 100 14).resolve_left (by omega), fun k => (g 111 k).resolve_left (by omega), fun k => (g 112 k).resolve_left (by omega)⟩⟩⟩⟩
set_option maxHeartbeats 2000000 in
theorem hh_count_s {ws0 : List Cond} {tb : String → gz_T} (hws : gc_Ws ws0) (htb : gc_tbs tb) {sh : gz_Sh} {ro : Nat → Nat} {I : gr_I} {J : gr_J} {A : gc_A} (hs : gh_HS sh ro I J A) (hc : gh_HC sh ro A I) (a1 : Int) (a2 : Int) (ra1 : (-2147483648) ≤ a1 ∧ a1 ≤ 2147483647) (ra2 : 0 ≤ a2 ∧ a2 ≤ 7) : ∃ (z : Int) (Iₚ : gr_I) (Jₚ : gr_J), gz_Ev ws0 tb 100 (yX12_count, cX12_count, 3, (some .int)) [.inr (.inr (some 0)), .inl a1, .inl a2] sh (gc_h sh I J A) (some (.inl z)) sh (gc_h sh Iₚ Jₚ A) 0 0 ∧ gh_K sh ro A I J Iₚ Jₚ (I 23 1) 0 := by
  have hb := hs.1
  have hI := hs.2.1
  have hok := hs.2.2.1
  have hT := hs.2.2.2.1
  have hU := hs.2.2.2.2.1
  have i8 : 0 ≤ I 8 1 ∧ I 8 1 ≤ 8 := gc_in hI (gc_bR hb (by decide) rfl) rfl rfl
  have h144 := gc_Base_len hb
  obtain ⟨c1, c2, c3, c4, c5, c6, c7, c8⟩ := id hc
  obtain ⟨r, hₚ, E, rfl, z, rfl, p0, p1⟩ := d_X12_count_s hws htb sh ro I J A hI a1 a2 hb ⟨by omega, by omega⟩ ⟨by omega, by omega⟩
  exact ⟨z, I, J, gz_Ev_mono (by decide) E, hs, hc, gh_SE_refl, rfl, fun _ _ => rfl, gh_E9_rf⟩
set_option maxHeartbeats 2000000 in
theorem hh_count_t {ws0 : List Cond} {tb : String → gz_T} (hws : gc_Ws ws0) (htb : gc_tbs tb) {sh : gz_Sh} {ro : Nat → Nat} {I : gr_I} {J : gr_J} {A : gc_A} (hs : gh_HS sh ro I J A) (hc : gh_HC sh ro A I) (a1 : Int) (a2 : Int) (h1 : 0 ≤ a1 ∧ a1 < I 8 1) (ra2 : 8 ≤ a2 ∧ a2 ≤ 14) : ∃ (z : Int) (Iₚ : gr_I) (Jₚ : gr_J), gz_Ev ws0 tb 100 (yX12_count, cX12_count, 3, (some .int)) [.inr (.inr (some 0)), .inl a1, .inl a2] sh (gc_h sh I J A) (some (.inl z)) sh (gc_h sh Iₚ Jₚ A) 0 0 ∧ gh_K sh ro A I J Iₚ Jₚ (I 23 1) 0 := by
  have hb := hs.1
  have hI := hs.2.1
  have hok := hs.2.2.1
  have hT := hs.2.2.2.1
  have hU := hs.2.2.2.2.1
  have i8 : 0 ≤ I 8 1 ∧ I 8 1 ≤ 8 := gc_in hI (gc_bR hb (by decide) rfl) rfl rfl
  have h144 := gc_Base_len hb
  obtain ⟨c1, c2, c3, c4, c5, c6, c7, c8⟩ := id hc
  obtain ⟨t, ht, tL, tv, tl, tw⟩ := hU (Int.toNat a1) (by omega)
  have Tt := hT.1 (Int.toNat a1) t (by omega) ht
  have Gt := Tt.2.1
  have FB := c6 (Int.toNat a1) t (by omega) ht
  obtain ⟨r, hₚ, E, rfl, z, rfl, p0, p1⟩ := d_X12_count_t hws htb sh ro I J A hI t a1 a2 hb Tt.1 Tt.2.1 ⟨by omega, by omega⟩ ⟨by omega, by omega⟩ ⟨by omega, by omega⟩ ht
  exact ⟨z, I, J, gz_Ev_mono (by decide) E, hs, hc, gh_SE_refl, rfl, fun _ _ => rfl, gh_E9_rf⟩
set_option maxHeartbeats 2000000 in
theorem hh_cell {ws0 : List Cond} {tb : String → gz_T} (hws : gc_Ws ws0) (htb : gc_tbs tb) {sh : gz_Sh} {ro : Nat → Nat} {I : gr_I} {J : gr_J} {A : gc_A} (hs : gh_HS sh ro I J A) (hc : gh_HC sh ro A I) (a1 : Int) (a2 : Int) (a3 : Int) (h1 : 0 ≤ a1 ∧ a1 < I 8 1) (h2 : 0 ≤ a2 ∧ a2 ≤ 63) (h3 : 0 ≤ a3 ∧ a3 ≤ 23) (h4 : ∀ t, A 10 (Int.toNat a1) = some t → a2 < I t 11 ∧ a3 < I (t + 13) (Int.toNat (I (t + 15) (Int.toNat ((a2 * 11) + 1))))) : ∃ (z : Int) (Iₚ : gr_I) (Jₚ : gr_J), gz_Ev ws0 tb 100 (yX12_cell, cX12_cell, 7, (some .int)) [.inr (.inr (some 0)), .inl a1, .inl a2, .inl a3] sh (gc_h sh I J A) (some (.inl z)) sh (gc_h sh Iₚ Jₚ A) 0 0 ∧ gh_K sh ro A I J Iₚ Jₚ (I 23 1) 0 := by
  have hb := hs.1
  have hI := hs.2.1
  have hok := hs.2.2.1
  have hT := hs.2.2.2.1
  have hU := hs.2.2.2.2.1
  have i8 : 0 ≤ I 8 1 ∧ I 8 1 ≤ 8 := gc_in hI (gc_bR hb (by decide) rfl) rfl rfl
  have h144 := gc_Base_len hb
  obtain ⟨c1, c2, c3, c4, c5, c6, c7, c8⟩ := id hc
  obtain ⟨t, ht, tL, tv, tl, tw⟩ := hU (Int.toNat a1) (by omega)
  have Tt := hT.1 (Int.toNat a1) t (by omega) ht
  have Gt := Tt.2.1
  have FB := c6 (Int.toNat a1) t (by omega) ht
  obtain ⟨r, hₚ, E, Iₚ, Jₚ, rfl, hIₚ, g, k, z, rfl, p0, p1, p2, p3, pF, pB⟩ := d_X12_cell hws htb sh ro I J A hI t a1 a2 a3 hb Tt.1 Tt.2.1 ⟨by omega, by omega⟩ ⟨by omega, by omega⟩ ⟨by omega, by omega⟩ ⟨by omega, by omega⟩ ht Tt.2.2 FB.1 (FB.2.1 (by omega)) (h4 t ht).1 (h4 t ht).2
  obtain ⟨b0, b1, b2, b3, b4, b5, b6, b7, b8, b9, b10, b11, b12, b13, b14, b15, b16, b17, b18, b19, b20, b21, b22, b23, b24, b25, b26, b27, b28, b29, b30, b31, b32, b33, b34, b35, b36, b37, b38, b39, b40, b41, b42, b43, b44⟩ := id Tt.1
  obtain ⟨f0, f1, f2, f3, f4, f5, f6, f7, f8, f9, f10, f11, f12, f13, f14, f15, f16, f17, f18, f19, f20, f21, f22, f23, f24, f25, f26, f27, f28, f29, f30, f31, f32⟩ := id b44
  have F_0 := f0
  have F_R := f1
  have F_1 := f8
  have F_2 := f12
  have F_3 := f16
  have F_4 := f20
  have F_5 := f24
  have F_6 := f27
  have F_7 := f30
  have lt7 := gc_x_lt F_7
  have ok' : gc_OK sh Iₚ Jₚ A := gh_OK_g hok (fun q j => (g q j).elim (fun h => by
      rcases h with ⟨rfl, rfl⟩ | ⟨rfl, rfl⟩ | rfl | rfl | rfl | rfl | ⟨rfl, rfl⟩ | ⟨rfl, rfl⟩ | rfl | rfl | ⟨rfl, rfl⟩ | rfl
      · exact Or.inl (gh_ok0 F_0 rfl)
      · exact Or.inl (gh_ok0 F_0 rfl)
      · exact Or.inl (gh_ok0 F_1 rfl)
      · exact Or.inl (gh_ok0 F_2 rfl)
      · exact Or.inl (gh_ok0 F_3 rfl)
      · exact Or.inl (gh_ok0 F_4 rfl)
      · have h9 : (0 : Int) ≤ Iₚ (t + 17) 6 ∧ Iₚ (t + 17) 6 ≤ 1 := gc_in hIₚ (F_R) rfl rfl
        exact Or.inl (gh_okn (n := 6) F_0 rfl (by omega))
      · have h9 : (0 : Int) ≤ Iₚ (t + 17) 7 ∧ Iₚ (t + 17) 7 ≤ 1 := gc_in hIₚ (F_R) rfl rfl
        exact Or.inl (gh_okn (n := 6) F_0 rfl (by omega))
      · exact Or.inl (gh_ok0 F_6 rfl)
      · exact Or.inl (gh_ok0 F_7 rfl)
      · exact Or.inl (gh_ok0 (gc_bS hb (p := 27) rfl) rfl)
      · exact Or.inl (gh_ok0 (gc_bS hb (p := 28) rfl) rfl)
      ) Or.inr) (fun q j => (k q j).imp (fun h => h.elim) id)
  have hk := gh_HS_k (i := Int.toNat a1) hs (by omega) ht hIₚ ok' (fun q j => (g q j).imp (fun h => by omega) id) (fun q j => (k q j).imp (fun h => h.elim) id)
  refine ⟨z, Iₚ, Jₚ, gz_Ev_mono (by decide) E, ⟨hk.1, ⟨(gc_FN_fr c1 (fun k => ((g 49 k).resolve_left (by omega))) (fun k => ((g 50 k).resolve_left (by omega)))), (gc_FZ_fr c2 ((g 2 1).resolve_left (by omega)) (fun k => ((g 49 k).resolve_left (by omega))) (fun k => ((g 50 k).resolve_left (by omega)))), (by have h1 := ((g 86 2).resolve_left (by omega)); have h2 := ((g 86 4).resolve_left (by omega)); omega), (by have h1 := ((g 100 2).resolve_left (by omega)); have h2 := ((g 100 1).resolve_left (by omega)); have h3 := hk.2.1 8 1 (by decide) (by decide); omega), (gh_SN_fr c5 ((g 100 9).resolve_left (by omega))), (gh_FBT_t hT c6 hk.2 (by omega) (by omega) ht (fun q j hq => (g q j).imp (fun h => by omega) id) p2 p3 (fun h9 => by omega) pB), (gh_TRE_k c7 hk.2 (fun q j h1 h2 h3 => ((g q j).resolve_left (by omega)))), (gh_RKO_fr hs c8 hk.2 (fun q j h1 h2 => ((g q j).resolve_left (by omega))))⟩, hk.2, ((g 23 1).resolve_left (by omega)), (fun k9 h9 => ((g 24 k9).resolve_left (by omega))), ⟨(g 100 9).resolve_left (by omega), fun _ => ⟨(g 100 1).resolve_left (by omega), (g 100 2).resolve_left (by omega), fun k => (g 101 k).resolve_left (by omega)⟩, fun _ => ⟨(g 100 4).resolve_left (by omega), (g 100 7).resolve_left (by omega), (g 100 8).resolve_left (by omega), fun k => (g 102 k).resolve_left (by omega), fun k => (g 103 k).resolve_left (by omega)⟩, fun _ => ⟨(g 100 14).resolve_left (by omega), fun k => (g 111 k).resolve_left (by omega), fun k => (g 112 k).resolve_left (by omega)⟩⟩⟩⟩
set_option maxHeartbeats 2000000 in
theorem hh_ask {ws0 : List Cond} {tb : String → gz_T} (hws : gc_Ws ws0) (htb : gc_tbs tb) {sh : gz_Sh} {ro : Nat → Nat} {I : gr_I} {J : gr_J} {A : gc_A} (hs : gh_HS sh ro I J A) (hc : gh_HC sh ro A I) (a1 : Int) (h1 : 0 ≤ a1 ∧ a1 < I 8 1) : ∃ (z : Int) (Iₚ : gr_I) (Jₚ : gr_J), gz_Ev ws0 tb 100 (yX12_ask, cX12_ask, 4, (some .int)) [.inr (.inr (some 0)), .inl a1] sh (gc_h sh I J A) (some (.inl z)) sh (gc_h sh Iₚ Jₚ A) 0 0 ∧ gh_K sh ro A I J Iₚ Jₚ (0) 3 := by
  have hb := hs.1
  have hI := hs.2.1
  have hok := hs.2.2.1
  have hT := hs.2.2.2.1
  have hU := hs.2.2.2.2.1
  have i8 : 0 ≤ I 8 1 ∧ I 8 1 ≤ 8 := gc_in hI (gc_bR hb (by decide) rfl) rfl rfl
  have h144 := gc_Base_len hb
  obtain ⟨c1, c2, c3, c4, c5, c6, c7, c8⟩ := id hc
  obtain ⟨t, ht, tL, tv, tl, tw⟩ := hU (Int.toNat a1) (by omega)
  have Tt := hT.1 (Int.toNat a1) t (by omega) ht
  have Gt := Tt.2.1
  have FB := c6 (Int.toNat a1) t (by omega) ht
  obtain ⟨r, hₚ, E, Iₚ, Jₚ, rfl, hIₚ, g, k, z, rfl, p0, p1, p2, p3, p4, pF, pB⟩ := d_X12_ask hws htb sh ro I J A hI t a1 hb Tt.1 Tt.2.1 ⟨by omega, by omega⟩ ⟨by omega, by omega⟩ ht Tt.2.2 FB.1 (FB.2.1 (by omega)) c5
  obtain ⟨b0, b1, b2, b3, b4, b5, b6, b7, b8, b9, b10, b11, b12, b13, b14, b15, b16, b17, b18, b19, b20, b21, b22, b23, b24, b25, b26, b27, b28, b29, b30, b31, b32, b33, b34, b35, b36, b37, b38, b39, b40, b41, b42, b43, b44⟩ := id Tt.1
  obtain ⟨f0, f1, f2, f3, f4, f5, f6, f7, f8, f9, f10, f11, f12, f13, f14, f15, f16, f17, f18, f19, f20, f21, f22, f23, f24, f25, f26, f27, f28, f29, f30, f31, f32⟩ := id b44
  have F_0 := f0
  have F_R := f1
  have F_1 := f8
  have F_2 := f12
  have F_3 := f16
  have F_4 := f20
  have F_5 := f24
  have F_6 := f27
  have F_7 := f30
  have lt7 := gc_x_lt F_7
  have ok' : gc_OK sh Iₚ Jₚ A := gh_OK_g hok (fun q j => (g q j).elim (fun h => by
      rcases h with ⟨rfl, rfl⟩ | ⟨rfl, rfl⟩ | rfl | rfl | rfl | rfl | ⟨rfl, rfl⟩ | ⟨rfl, rfl⟩ | rfl | rfl | ⟨rfl, rfl⟩ | ⟨rfl, rfl⟩ | rfl | ⟨rfl, rfl⟩ | ⟨rfl, rfl⟩ | ⟨rfl, rfl⟩ | ⟨rfl, rfl⟩ | ⟨rfl, rfl⟩ | rfl | ⟨rfl, rfl⟩ | rfl | rfl | rfl | rfl | rfl | rfl | ⟨rfl, rfl⟩
      · exact Or.inl (gh_ok0 F_0 rfl)
      · exact Or.inl (gh_ok0 F_0 rfl)
      · exact Or.inl (gh_ok0 F_1 rfl)
      · exact Or.inl (gh_ok0 F_2 rfl)
      · exact Or.inl (gh_ok0 F_3 rfl)
      · exact Or.inl (gh_ok0 F_4 rfl)
      · have h9 : (0 : Int) ≤ Iₚ (t + 17) 6 ∧ Iₚ (t + 17) 6 ≤ 1 := gc_in hIₚ (F_R) rfl rfl
        exact Or.inl (gh_okn (n := 6) F_0 rfl (by omega))
      · have h9 : (0 : Int) ≤ Iₚ (t + 17) 7 ∧ Iₚ (t + 17) 7 ≤ 1 := gc_in hIₚ (F_R) rfl rfl
        exact Or.inl (gh_okn (n := 6) F_0 rfl (by omega))
      · exact Or.inl (gh_ok0 F_6 rfl)
      · exact Or.inl (gh_ok0 F_7 rfl)
      · exact Or.inl (gh_ok0 (gc_bS hb (p := 100) rfl) rfl)
      · exact Or.inl (gh_ok0 (gc_bS hb (p := 100) rfl) rfl)
      · exact Or.inl (gh_ok0 (gc_bS hb (p := 113) rfl) rfl)
      · exact Or.inl (gh_ok0 (gc_bS hb (p := 23) rfl) rfl)
      · exact Or.inl (gh_ok0 (gc_bS hb (p := 23) rfl) rfl)
      · exact Or.inl (gh_ok0 (gc_bS hb (p := 23) rfl) rfl)
      · exact Or.inl (gh_ok0 (gc_bS hb (p := 23) rfl) rfl)
      · exact Or.inl (gh_ok0 (gc_bS hb (p := 106) rfl) rfl)
      · exact Or.inl (gh_ok0 (gc_bS hb (p := 107) rfl) rfl)
      · exact Or.inl (gh_ok0 (gc_bS hb (p := 106) rfl) rfl)
      · exact Or.inl (gh_ok0 (gc_bS hb (p := 108) rfl) rfl)
      · exact Or.inl (gh_ok0 (gc_bS hb (p := 109) rfl) rfl)
      · exact Or.inl (gh_ok0 (gc_bS hb (p := 110) rfl) rfl)
      · exact Or.inl (gh_ok0 (gc_bS hb (p := 111) rfl) rfl)
      · exact Or.inl (gh_ok0 (gc_bS hb (p := 112) rfl) rfl)
      · exact Or.inl (gh_ok0 F_5 rfl)
      · exact Or.inl (gh_ok0 (gc_bS hb (p := 23) rfl) rfl)
      ) Or.inr) (fun q j => (k q j).imp (fun h => by omega) id)
  have hk := gh_HS_k (i := Int.toNat a1) hs (by omega) ht hIₚ ok' (fun q j => (g q j).imp (fun h => by omega) id) (fun q j => (k q j).imp (fun h => by omega) id)
  refine ⟨z, Iₚ, Jₚ, gz_Ev_mono (by decide) E, ⟨hk.1, ⟨(gc_FN_fr c1 (fun k => ((g 49 k).resolve_left (by omega))) (fun k => ((g 50 k).resolve_left (by omega)))), (gc_FZ_fr c2 ((g 2 1).resolve_left (by omega)) (fun k => ((g 49 k).resolve_left (by omega))) (fun k => ((g 50 k).resolve_left (by omega)))), (by have h1 := ((g 86 2).resolve_left (by omega)); have h2 := ((g 86 4).resolve_left (by omega)); omega), (by have h1 := ((g 100 2).resolve_left (by omega)); have h2 := ((g 100 1).resolve_left (by omega)); have h3 := hk.2.1 8 1 (by decide) (by decide); omega), (gh_SN_fr c5 ((g 100 9).resolve_left (by omega))), (gh_FBT_t hT c6 hk.2 (by omega) (by omega) ht (fun q j hq => (g q j).imp (fun h => by omega) id) (by rw [p4]; exact p3) (by omega) (fun h9 => by omega) pB), (gh_TRE_k c7 hk.2 (fun q j h1 h2 h3 => ((g q j).resolve_left (by omega)))), (gh_RKO_fr hs c8 hk.2 (fun q j h1 h2 => ((g q j).resolve_left (by omega))))⟩, hk.2, by omega, (fun k9 h9 => ((g 24 k9).resolve_left (by omega))), ⟨(g 100 9).resolve_left (by omega), fun _ => ⟨(g 100 1).resolve_left (by omega), (g 100 2).resolve_left (by omega), fun k => (g 101 k).resolve_left (by omega)⟩, fun _ => ⟨(g 100 4).resolve_left (by omega), (g 100 7).resolve_left (by omega), (g 100 8).resolve_left (by omega), fun k => (g 102 k).resolve_left (by omega), fun k => (g 103 k).resolve_left (by omega)⟩, fun h => absurd rfl h⟩⟩⟩
set_option maxHeartbeats 2000000 in
theorem hh_analysis {ws0 : List Cond} {tb : String → gz_T} (hws : gc_Ws ws0) (htb : gc_tbs tb) {sh : gz_Sh} {ro : Nat → Nat} {I : gr_I} {J : gr_J} {A : gc_A} (hs : gh_HS sh ro I J A) (hc : gh_HC sh ro A I) (a1 : Int) (a2 : Int) (ra1 : (-2147483648) ≤ a1 ∧ a1 ≤ 2147483647) (ra2 : 0 ≤ a2 ∧ a2 ≤ 11) : ∃ (z : Int) (Iₚ : gr_I) (Jₚ : gr_J), gz_Ev ws0 tb 100 (yX12_analysis, cX12_analysis, 3, (some .int)) [.inr (.inr (some 0)), .inl a1, .inl a2] sh (gc_h sh I J A) (some (.inl z)) sh (gc_h sh Iₚ Jₚ A) 0 0 ∧ gh_K sh ro A I J Iₚ Jₚ (I 23 1) 0 := by
  have hb := hs.1
  have hI := hs.2.1
  have hok := hs.2.2.1
  have hT := hs.2.2.2.1
  have hU := hs.2.2.2.2.1
  have i8 : 0 ≤ I 8 1 ∧ I 8 1 ≤ 8 := gc_in hI (gc_bR hb (by decide) rfl) rfl rfl
  have h144 := gc_Base_len hb
  obtain ⟨c1, c2, c3, c4, c5, c6, c7, c8⟩ := id hc
  obtain ⟨r, hₚ, E, rfl, z, rfl, p0, p1⟩ := d_X12_analysis hws htb sh ro I J A hI a1 a2 hb ⟨by omega, by omega⟩ ⟨by omega, by omega⟩ (fun i9 h9 => by obtain ⟨t9, w1, _⟩ := hU i9 h9; exact ⟨t9, w1, (hT.1 i9 t9 (by omega) w1).1, (hT.1 i9 t9 (by omega) w1).2.1⟩) c4
  exact ⟨z, I, J, gz_Ev_mono (by decide) E, hs, hc, gh_SE_refl, rfl, fun _ _ => rfl, gh_E9_rf⟩
set_option maxHeartbeats 2000000 in
theorem hh_feed {ws0 : List Cond} {tb : String → gz_T} (hws : gc_Ws ws0) (htb : gc_tbs tb) {sh : gz_Sh} {ro : Nat → Nat} {I : gr_I} {J : gr_J} {A : gc_A} (hs : gh_HS sh ro I J A) (hc : gh_HC sh ro A I) (a1 : Int) (a2 : Int) (a3 : Int) (a4 : Int) (a5 : Int) (ra1 : (-2147483648) ≤ a1 ∧ a1 ≤ 2147483647) (ra2 : (-2147483648) ≤ a2 ∧ a2 ≤ 2147483647) (ra3 : (-2147483648) ≤ a3 ∧ a3 ≤ 2147483647) (ra4 : (-2147483648) ≤ a4 ∧ a4 ≤ 2147483647) (ra5 : (-2147483648) ≤ a5 ∧ a5 ≤ 2147483647) (h1 : I 23 1 ≤ 980) : ∃ (z : Int) (Iₚ : gr_I) (Jₚ : gr_J), gz_Ev ws0 tb 100 (yX12_feed, cX12_feed, 6, (some .int)) [.inr (.inr (some 0)), .inl a1, .inl a2, .inl a3, .inl a4, .inl a5] sh (gc_h sh I J A) (some (.inl z)) sh (gc_h sh Iₚ Jₚ A) 0 0 ∧ gh_K sh ro A I J Iₚ Jₚ (I 23 1 + 20) 0 ∧ z = I 23 1 + 20 := by
  have hb := hs.1
  have hI := hs.2.1
  have hok := hs.2.2.1
  have hT := hs.2.2.2.1
  have hU := hs.2.2.2.2.1
  have i8 : 0 ≤ I 8 1 ∧ I 8 1 ≤ 8 := gc_in hI (gc_bR hb (by decide) rfl) rfl rfl
  have h144 := gc_Base_len hb
  obtain ⟨c1, c2, c3, c4, c5, c6, c7, c8⟩ := id hc
  obtain ⟨r, hₚ, E, Iₚ, Jₚ, rfl, hIₚ, g, k, z, rfl, p0, p1, p2, p3⟩ := d_X12_feed hws htb sh ro I J A hI a1 a2 a3 a4 a5 hb ⟨by omega, by omega⟩ ⟨by omega, by omega⟩ ⟨by omega, by omega⟩ ⟨by omega, by omega⟩ ⟨by omega, by omega⟩ h1
  have ok' : gc_OK sh Iₚ Jₚ A := gh_OK_g hok (fun q j => (g q j).elim (fun h => by
      rcases h with ⟨rfl, rfl⟩ | ⟨rfl, hP⟩
      · exact Or.inl (gh_ok0 (gc_bS hb (p := 23) rfl) rfl)
      · exact Or.inl (gh_ok0 (gc_bS hb (p := 24) rfl) rfl)
      ) Or.inr) (fun q j => (k q j).imp (fun h => h.elim) id)
  have hk := gh_HS_n hs hIₚ ok' (fun q j => (g q j).imp (fun h => by omega) id) (fun q j => (k q j).imp (fun h => h.elim) id)
  refine ⟨z, Iₚ, Jₚ, gz_Ev_mono (by decide) E, ⟨hk.1, ⟨(gc_FN_fr c1 (fun k => ((g 49 k).resolve_left (by omega))) (fun k => ((g 50 k).resolve_left (by omega)))), (gc_FZ_fr c2 ((g 2 1).resolve_left (by omega)) (fun k => ((g 49 k).resolve_left (by omega))) (fun k => ((g 50 k).resolve_left (by omega)))), (by have h1 := ((g 86 2).resolve_left (by omega)); have h2 := ((g 86 4).resolve_left (by omega)); omega), (by have h1 := ((g 100 2).resolve_left (by omega)); have h2 := ((g 100 1).resolve_left (by omega)); have h3 := hk.2.1 8 1 (by decide) (by decide); omega), (gh_SN_fr c5 ((g 100 9).resolve_left (by omega))), (gh_FBT_fr c6 hk.2 (fun i t d j hi ht h1 h2 => (g (t + d) j).resolve_left (by have := (hT.1 i t hi ht).2.1; omega))), (gh_TRE_k c7 hk.2 (fun q j h1 h2 h3 => ((g q j).resolve_left (by omega)))), (gh_RKO_fr hs c8 hk.2 (fun q j h1 h2 => ((g q j).resolve_left (by omega))))⟩, hk.2, by omega, (fun k9 h9 => ((g 24 k9).resolve_left (by omega))), ⟨(g 100 9).resolve_left (by omega), fun _ => ⟨(g 100 1).resolve_left (by omega), (g 100 2).resolve_left (by omega), fun k => (g 101 k).resolve_left (by omega)⟩, fun _ => ⟨(g 100 4).resolve_left (by omega), (g 100 7).resolve_left (by omega), (g 100 8).resolve_left (by omega), fun k => (g 102 k).resolve_left (by omega), fun k => (g 103 k).resolve_left (by omega)⟩, fun _ => ⟨(g 100 14).resolve_left (by omega), fun k => (g 111 k).resolve_left (by omega), fun k => (g 112 k).resolve_left (by omega)⟩⟩⟩, p2⟩
set_option maxHeartbeats 2000000 in
theorem hh_parse {ws0 : List Cond} {tb : String → gz_T} (hws : gc_Ws ws0) (htb : gc_tbs tb) {sh : gz_Sh} {ro : Nat → Nat} {I : gr_I} {J : gr_J} {A : gc_A} (hs : gh_HS sh ro I J A) (hc : gh_HC sh ro A I) (a1 : Int) (a2 : Int) (h1 : 0 ≤ a1 ∧ a1 < I 8 1) (h2 : 0 ≤ a2 ∧ a2 < I 2 1) : ∃ (z : Int) (Iₚ : gr_I) (Jₚ : gr_J), gz_Ev ws0 tb 100 (yX12_parse, cX12_parse, 5, (some .int)) [.inr (.inr (some 0)), .inl a1, .inl a2] sh (gc_h sh I J A) (some (.inl z)) sh (gc_h sh Iₚ Jₚ A) 0 0 ∧ gh_K sh ro A I J Iₚ Jₚ (0) 0 := by
  have hb := hs.1
  have hI := hs.2.1
  have hok := hs.2.2.1
  have hT := hs.2.2.2.1
  have hU := hs.2.2.2.2.1
  have i8 : 0 ≤ I 8 1 ∧ I 8 1 ≤ 8 := gc_in hI (gc_bR hb (by decide) rfl) rfl rfl
  have h144 := gc_Base_len hb
  obtain ⟨c1, c2, c3, c4, c5, c6, c7, c8⟩ := id hc
  have i2 : 0 ≤ I 2 1 ∧ I 2 1 ≤ 32 := gc_in hI (gc_bR hb (by decide) rfl) rfl rfl
  obtain ⟨t, ht, tL, tv, tl, tw⟩ := hU (Int.toNat a1) (by omega)
  have Tt := hT.1 (Int.toNat a1) t (by omega) ht
  have Gt := Tt.2.1
  have FB := c6 (Int.toNat a1) t (by omega) ht
  obtain ⟨r, hₚ, E, Iₚ, Jₚ, rfl, hIₚ, g, k, kFN, kFZ, z, rfl, p0, p1, p2, p3, p4, p5, p6, p7, p8, pF, pB⟩ := d_X12_parse hws htb sh ro I J A hI t a1 a2 hb Tt.1 Tt.2.1 ⟨by omega, by omega⟩ ⟨by omega, by omega⟩ ⟨by omega, by omega⟩ ht (by omega) tL (gh_UNC tl) Tt.2.2 FB.1 (FB.2.1 (by omega)) c1 c2
  obtain ⟨b0, b1, b2, b3, b4, b5, b6, b7, b8, b9, b10, b11, b12, b13, b14, b15, b16, b17, b18, b19, b20, b21, b22, b23, b24, b25, b26, b27, b28, b29, b30, b31, b32, b33, b34, b35, b36, b37, b38, b39, b40, b41, b42, b43, b44⟩ := id Tt.1
  obtain ⟨f0, f1, f2, f3, f4, f5, f6, f7, f8, f9, f10, f11, f12, f13, f14, f15, f16, f17, f18, f19, f20, f21, f22, f23, f24, f25, f26, f27, f28, f29, f30, f31, f32⟩ := id b44
  have F_0 := f0
  have F_R := f1
  have F_1 := f8
  have F_2 := f12
  have F_3 := f16
  have F_4 := f20
  have F_5 := f24
  have F_6 := f27
  have F_7 := f30
  have lt7 := gc_x_lt F_7
  have ok' : gc_OK sh Iₚ Jₚ A := gh_OK_g hok (fun q j => (g q j).elim (fun h => by
      rcases h with ⟨rfl, rfl⟩ | ⟨rfl, rfl⟩ | ⟨rfl, rfl⟩ | rfl | rfl | rfl | rfl | rfl | ⟨rfl, rfl⟩ | rfl | rfl | rfl | ⟨rfl, rfl⟩ | ⟨rfl, rfl⟩ | rfl | rfl | ⟨rfl, rfl⟩ | ⟨rfl, rfl⟩ | ⟨rfl, rfl⟩ | rfl | rfl | ⟨rfl, rfl⟩ | ⟨rfl, rfl⟩ | ⟨rfl, rfl⟩ | ⟨rfl, rfl⟩ | rfl | ⟨rfl, rfl⟩ | rfl | rfl | ⟨rfl, rfl⟩ | ⟨rfl, rfl⟩ | rfl | rfl | rfl | rfl | ⟨rfl, rfl⟩ | ⟨rfl, rfl⟩ | rfl | rfl | rfl | ⟨rfl, rfl⟩
      · exact Or.inl (gh_ok0 (gc_bS hb (p := 48) rfl) rfl)
      · exact Or.inl (gh_ok0 (gc_bS hb (p := 48) rfl) rfl)
      · exact Or.inl (gh_ok0 (gc_bS hb (p := 48) rfl) rfl)
      · exact Or.inl (gh_ok0 (gc_bS hb (p := 51) rfl) rfl)
      · exact Or.inl (gh_ok0 (gc_bS hb (p := 52) rfl) rfl)
      · exact Or.inl (gh_ok0 (gc_bS hb (p := 53) rfl) rfl)
      · exact Or.inl (gh_ok0 (gc_bS hb (p := 54) rfl) rfl)
      · exact Or.inl (gh_ok0 (gc_bS hb (p := 55) rfl) rfl)
      · exact Or.inl (gh_ok0 (gc_bS hb (p := 48) rfl) rfl)
      · exact Or.inl (gh_ok0 (gc_bS hb (p := 58) rfl) rfl)
      · exact Or.inl (gh_ok0 (gc_bS hb (p := 59) rfl) rfl)
      · exact Or.inl (gh_ok0 (gc_bS hb (p := 60) rfl) rfl)
      · exact Or.inl (gh_ok0 (gc_bS hb (p := 48) rfl) rfl)
      · exact Or.inl (gh_ok0 (gc_bS hb (p := 48) rfl) rfl)
      · exact Or.inl (gh_ok0 (gc_bS hb (p := 49) rfl) rfl)
      · exact Or.inl (gh_ok0 (gc_bS hb (p := 50) rfl) rfl)
      · exact p7.elim (fun e => Or.inr e.1) (fun e => Or.inl (gh_ok5 (gc_bS hb (p := 48) rfl) rfl (by omega)))
      · exact p7.elim (fun e => Or.inr e.2) (fun e => Or.inl (gh_ok5 (gc_bS hb (p := 48) rfl) rfl (by omega)))
      · exact Or.inl (gh_ok0 (gc_bS hb (p := 48) rfl) rfl)
      · exact Or.inl (gh_ok0 (gc_bS hb (p := 56) rfl) rfl)
      · exact Or.inl (gh_ok0 (gc_bS hb (p := 57) rfl) rfl)
      · exact p8.elim Or.inr (fun e => Or.inl (gh_ok5 (gc_bS hb (p := 61) rfl) rfl (by omega)))
      · exact Or.inl (gh_ok0 (gc_bS hb (p := 61) rfl) rfl)
      · exact Or.inl (gh_ok0 (gc_bS hb (p := 61) rfl) rfl)
      · exact Or.inl (gh_ok0 (gc_bS hb (p := 61) rfl) rfl)
      · exact Or.inl (gh_ok0 (gc_bS hb (p := 62) rfl) rfl)
      · exact Or.inl (gh_ok0 (gc_bS hb (p := 23) rfl) rfl)
      · exact Or.inl (gh_ok0 (gc_bS hb (p := 25) rfl) rfl)
      · exact Or.inl (gh_ok0 (gc_bS hb (p := 26) rfl) rfl)
      · exact Or.inl (gh_ok0 F_0 rfl)
      · exact Or.inl (gh_ok0 F_0 rfl)
      · exact Or.inl (gh_ok0 F_1 rfl)
      · exact Or.inl (gh_ok0 F_2 rfl)
      · exact Or.inl (gh_ok0 F_3 rfl)
      · exact Or.inl (gh_ok0 F_4 rfl)
      · have h9 : (0 : Int) ≤ Iₚ (t + 17) 6 ∧ Iₚ (t + 17) 6 ≤ 1 := gc_in hIₚ (F_R) rfl rfl
        exact Or.inl (gh_okn (n := 6) F_0 rfl (by omega))
      · have h9 : (0 : Int) ≤ Iₚ (t + 17) 7 ∧ Iₚ (t + 17) 7 ≤ 1 := gc_in hIₚ (F_R) rfl rfl
        exact Or.inl (gh_okn (n := 6) F_0 rfl (by omega))
      · exact Or.inl (gh_ok0 F_6 rfl)
      · exact Or.inl (gh_ok0 F_7 rfl)
      · exact Or.inl (gh_ok0 F_5 rfl)
      · exact Or.inl (gh_ok0 (gc_bS hb (p := 23) rfl) rfl)
      ) Or.inr) (fun q j => (k q j).imp (fun h => h.elim) id)
  have hk := gh_HS_k (i := Int.toNat a1) hs (by omega) ht hIₚ ok' (fun q j => (g q j).imp (fun h => by omega) id) (fun q j => (k q j).imp (fun h => h.elim) id)
  refine ⟨z, Iₚ, Jₚ, gz_Ev_mono (by decide) E, ⟨hk.1, ⟨kFN, kFZ, (by have h1 := ((g 86 2).resolve_left (by omega)); have h2 := ((g 86 4).resolve_left (by omega)); omega), (by have h1 := ((g 100 2).resolve_left (by omega)); have h2 := ((g 100 1).resolve_left (by omega)); have h3 := hk.2.1 8 1 (by decide) (by decide); omega), (gh_SN_fr c5 ((g 100 9).resolve_left (by omega))), (gh_FBT_t hT c6 hk.2 (by omega) (by omega) ht (fun q j hq => (g q j).imp (fun h => by omega) id) p3 p4 (fun h9 => by omega) pB), (gh_TRE_k c7 hk.2 (fun q j h1 h2 h3 => ((g q j).resolve_left (by omega)))), (by
      have e11 := hk.2.2.1 (Int.toNat a1) t 0 11 (by omega) ht (by decide)
      have e13 := hk.2.2.1 (Int.toNat a1) t 0 13 (by omega) ht (by decide)
      have e81 := hk.2.1 8 1 (by decide) (by decide)
      rw [Nat.add_zero] at e11 e13
      by_cases h9 : z = 1
      · obtain ⟨w1, w2, w3, w4, w5, w6, w7⟩ := p6.resolve_left (fun h => h h9)
        exact Or.inr ⟨w7, Int.toNat a1, t, by omega, ht, w5, w1, by rw [e11]; exact w2, gh_WA_cg w3 w1 (fun j hj => gh_lsl_eq tL (fun _ _ => rfl) hk.2.2.2.1 j (by omega)), w4, Or.inl w6⟩
      · exact Or.inl (p5.resolve_left h9))⟩, hk.2, by omega, (fun k9 h9 => ((g 24 k9).resolve_left (by omega))), ⟨(g 100 9).resolve_left (by omega), fun _ => ⟨(g 100 1).resolve_left (by omega), (g 100 2).resolve_left (by omega), fun k => (g 101 k).resolve_left (by omega)⟩, fun _ => ⟨(g 100 4).resolve_left (by omega), (g 100 7).resolve_left (by omega), (g 100 8).resolve_left (by omega), fun k => (g 102 k).resolve_left (by omega), fun k => (g 103 k).resolve_left (by omega)⟩, fun _ => ⟨(g 100 14).resolve_left (by omega), fun k => (g 111 k).resolve_left (by omega), fun k => (g 112 k).resolve_left (by omega)⟩⟩⟩⟩
set_option maxHeartbeats 2000000 in
theorem hh_trees_c {ws0 : List Cond} {tb : String → gz_T} (hws : gc_Ws ws0) (htb : gc_tbs tb) {sh : gz_Sh} {ro : Nat → Nat} {I : gr_I} {J : gr_J} {A : gc_A} (hs : gh_HS sh ro I J A) (hc : gh_HC sh ro A I) (cl : I 61 3 = 0 ∧ I 61 15 = 0) : ∃ (z : Int64) (Iₚ : gr_I) (Jₚ : gr_J), gz_Ev ws0 tb 100 (yX12_trees, cX12_trees, 1, (some .long)) [.inr (.inr (some 0))] sh (gc_h sh I J A) (some (.inr (.inl z))) sh (gc_h sh Iₚ Jₚ A) 0 0 ∧ gh_K sh ro A I J Iₚ Jₚ (I 23 1) 0 := by
  have hb := hs.1
  have hI := hs.2.1
  have hok := hs.2.2.1
  have hT := hs.2.2.2.1
  have hU := hs.2.2.2.2.1
  have i8 : 0 ≤ I 8 1 ∧ I 8 1 ≤ 8 := gc_in hI (gc_bR hb (by decide) rfl) rfl rfl
  have h144 := gc_Base_len hb
  obtain ⟨c1, c2, c3, c4, c5, c6, c7, c8⟩ := id hc
  obtain ⟨r, hₚ, E, rfl, z, rfl⟩ := d_X12_trees_c hws htb sh ro I J A hI hb cl.1 cl.2
  exact ⟨z, I, J, gz_Ev_mono (by decide) E, hs, hc, gh_SE_refl, rfl, fun _ _ => rfl, gh_E9_rf⟩
set_option maxHeartbeats 2000000 in
theorem hh_price_c {ws0 : List Cond} {tb : String → gz_T} (hws : gc_Ws ws0) (htb : gc_tbs tb) {sh : gz_Sh} {ro : Nat → Nat} {I : gr_I} {J : gr_J} {A : gc_A} (hs : gh_HS sh ro I J A) (hc : gh_HC sh ro A I) (a1 : Int) (ra1 : (-2147483648) ≤ a1 ∧ a1 ≤ 2147483647) (cl : I 61 3 = 0 ∧ I 61 15 = 0) : ∃ (z : Int) (Iₚ : gr_I) (Jₚ : gr_J), gz_Ev ws0 tb 100 (yX12_price, cX12_price, 2, (some .int)) [.inr (.inr (some 0)), .inl a1] sh (gc_h sh I J A) (some (.inl z)) sh (gc_h sh Iₚ Jₚ A) 0 0 ∧ gh_K sh ro A I J Iₚ Jₚ (I 23 1) 0 := by
  have hb := hs.1
  have hI := hs.2.1
  have hok := hs.2.2.1
  have hT := hs.2.2.2.1
  have hU := hs.2.2.2.2.1
  have i8 : 0 ≤ I 8 1 ∧ I 8 1 ≤ 8 := gc_in hI (gc_bR hb (by decide) rfl) rfl rfl
  have h144 := gc_Base_len hb
  obtain ⟨c1, c2, c3, c4, c5, c6, c7, c8⟩ := id hc
  obtain ⟨r, hₚ, E, rfl, z, rfl, p0, p1⟩ := d_X12_price_c hws htb sh ro I J A hI a1 hb ⟨by omega, by omega⟩ cl.1 cl.2
  exact ⟨z, I, J, gz_Ev_mono (by decide) E, hs, hc, gh_SE_refl, rfl, fun _ _ => rfl, gh_E9_rf⟩
set_option maxHeartbeats 2000000 in
theorem hh_bar_c {ws0 : List Cond} {tb : String → gz_T} (hws : gc_Ws ws0) (htb : gc_tbs tb) {sh : gz_Sh} {ro : Nat → Nat} {I : gr_I} {J : gr_J} {A : gc_A} (hs : gh_HS sh ro I J A) (hc : gh_HC sh ro A I) (a1 : Int) (a2 : Int) (h1 : 0 ≤ a1 ∧ a1 < I 4 1) (ra2 : 0 ≤ a2 ∧ a2 ≤ 1) (cl : I 61 3 = 0 ∧ I 61 15 = 0) : ∃ (z : Int64) (Iₚ : gr_I) (Jₚ : gr_J), gz_Ev ws0 tb 100 (yX12_bar, cX12_bar, 3, (some .long)) [.inr (.inr (some 0)), .inl a1, .inl a2] sh (gc_h sh I J A) (some (.inr (.inl z))) sh (gc_h sh Iₚ Jₚ A) 0 0 ∧ gh_K sh ro A I J Iₚ Jₚ (I 23 1) 0 := by
  have hb := hs.1
  have hI := hs.2.1
  have hok := hs.2.2.1
  have hT := hs.2.2.2.1
  have hU := hs.2.2.2.2.1
  have i8 : 0 ≤ I 8 1 ∧ I 8 1 ≤ 8 := gc_in hI (gc_bR hb (by decide) rfl) rfl rfl
  have h144 := gc_Base_len hb
  obtain ⟨c1, c2, c3, c4, c5, c6, c7, c8⟩ := id hc
  have i4 : 0 ≤ I 4 1 ∧ I 4 1 ≤ 96 := gc_in hI (gc_bR hb (by decide) rfl) rfl rfl
  obtain ⟨r, hₚ, E, Iₚ, Jₚ, rfl, hIₚ, g, k, z, rfl⟩ := d_X12_bar_c hws htb sh ro I J A hI a1 a2 hb ⟨by omega, by omega⟩ ⟨by omega, by omega⟩ cl.1 cl.2 (by omega)
  have ok' : gc_OK sh Iₚ Jₚ A := gh_OK_g hok (fun q j => (g q j).elim (fun h => by
      rcases h with ⟨rfl, rfl⟩ | rfl
      · exact Or.inl (gh_ok0 (gc_bS hb (p := 61) rfl) rfl)
      · exact Or.inl (gh_ok0 (gc_bS hb (p := 62) rfl) rfl)
      ) Or.inr) (fun q j => (k q j).imp (fun h => h.elim) id)
  have hk := gh_HS_n hs hIₚ ok' (fun q j => (g q j).imp (fun h => by omega) id) (fun q j => (k q j).imp (fun h => h.elim) id)
  refine ⟨z, Iₚ, Jₚ, gz_Ev_mono (by decide) E, ⟨hk.1, ⟨(gc_FN_fr c1 (fun k => ((g 49 k).resolve_left (by omega))) (fun k => ((g 50 k).resolve_left (by omega)))), (gc_FZ_fr c2 ((g 2 1).resolve_left (by omega)) (fun k => ((g 49 k).resolve_left (by omega))) (fun k => ((g 50 k).resolve_left (by omega)))), (by have h1 := ((g 86 2).resolve_left (by omega)); have h2 := ((g 86 4).resolve_left (by omega)); omega), (by have h1 := ((g 100 2).resolve_left (by omega)); have h2 := ((g 100 1).resolve_left (by omega)); have h3 := hk.2.1 8 1 (by decide) (by decide); omega), (gh_SN_fr c5 ((g 100 9).resolve_left (by omega))), (gh_FBT_fr c6 hk.2 (fun i t d j hi ht h1 h2 => (g (t + d) j).resolve_left (by have := (hT.1 i t hi ht).2.1; omega))), (gh_TRE_k c7 hk.2 (fun q j h1 h2 h3 => ((g q j).resolve_left (by omega)))), (Or.inl ⟨by have h1 := (g 61 3).resolve_left (by omega); omega, by have h1 := (g 61 15).resolve_left (by omega); omega⟩)⟩, hk.2, ((g 23 1).resolve_left (by omega)), (fun k9 h9 => ((g 24 k9).resolve_left (by omega))), ⟨(g 100 9).resolve_left (by omega), fun _ => ⟨(g 100 1).resolve_left (by omega), (g 100 2).resolve_left (by omega), fun k => (g 101 k).resolve_left (by omega)⟩, fun _ => ⟨(g 100 4).resolve_left (by omega), (g 100 7).resolve_left (by omega), (g 100 8).resolve_left (by omega), fun k => (g 102 k).resolve_left (by omega), fun k => (g 103 k).resolve_left (by omega)⟩, fun _ => ⟨(g 100 14).resolve_left (by omega), fun k => (g 111 k).resolve_left (by omega), fun k => (g 112 k).resolve_left (by omega)⟩⟩⟩⟩
set_option maxHeartbeats 2000000 in
theorem hh_reading_c {ws0 : List Cond} {tb : String → gz_T} (hws : gc_Ws ws0) (htb : gc_tbs tb) {sh : gz_Sh} {ro : Nat → Nat} {I : gr_I} {J : gr_J} {A : gc_A} (hs : gh_HS sh ro I J A) (hc : gh_HC sh ro A I) (a1 : Int) (a2 : Int) (ra1 : (-2147483648) ≤ a1 ∧ a1 ≤ 2147483647) (ra2 : 0 ≤ a2 ∧ a2 ≤ 7) (cl : I 61 3 = 0 ∧ I 61 15 = 0) : ∃ (z : Int) (Iₚ : gr_I) (Jₚ : gr_J), gz_Ev ws0 tb 100 (yX12_reading, cX12_reading, 4, (some .int)) [.inr (.inr (some 0)), .inl a1, .inl a2] sh (gc_h sh I J A) (some (.inl z)) sh (gc_h sh Iₚ Jₚ A) 0 0 ∧ gh_K sh ro A I J Iₚ Jₚ (I 23 1) 0 := by
  have hb := hs.1
  have hI := hs.2.1
  have hok := hs.2.2.1
  have hT := hs.2.2.2.1
  have hU := hs.2.2.2.2.1
  have i8 : 0 ≤ I 8 1 ∧ I 8 1 ≤ 8 := gc_in hI (gc_bR hb (by decide) rfl) rfl rfl
  have h144 := gc_Base_len hb
  obtain ⟨c1, c2, c3, c4, c5, c6, c7, c8⟩ := id hc
  obtain ⟨r, hₚ, E, Iₚ, Jₚ, rfl, hIₚ, g, k, z, rfl, p0, p1, p2⟩ := d_X12_reading_c hws htb sh ro I J A hI a1 a2 hb ⟨by omega, by omega⟩ ⟨by omega, by omega⟩ cl.1 cl.2
  have ok' : gc_OK sh Iₚ Jₚ A := gh_OK_g hok (fun q j => Or.inr ((g q j).resolve_left id)) (fun q j => (k q j).imp (fun h => h.elim) id)
  have hk := gh_HS_n hs hIₚ ok' (fun q j => (g q j).imp (fun h => h.elim) id) (fun q j => (k q j).imp (fun h => h.elim) id)
  refine ⟨z, Iₚ, Jₚ, gz_Ev_mono (by decide) E, ⟨hk.1, ⟨(gc_FN_fr c1 (fun k => ((g 49 k).resolve_left (id))) (fun k => ((g 50 k).resolve_left (id)))), (gc_FZ_fr c2 ((g 2 1).resolve_left (id)) (fun k => ((g 49 k).resolve_left (id))) (fun k => ((g 50 k).resolve_left (id)))), (by have h1 := ((g 86 2).resolve_left (id)); have h2 := ((g 86 4).resolve_left (id)); omega), (by have h1 := ((g 100 2).resolve_left (id)); have h2 := ((g 100 1).resolve_left (id)); have h3 := hk.2.1 8 1 (by decide) (by decide); omega), (gh_SN_fr c5 ((g 100 9).resolve_left (id))), (gh_FBT_fr c6 hk.2 (fun i t d j hi ht h1 h2 => (g (t + d) j).resolve_left (id))), (gh_TRE_k c7 hk.2 (fun q j h1 h2 h3 => ((g q j).resolve_left (id)))), (gh_RKO_fr hs c8 hk.2 (fun q j h1 h2 => ((g q j).resolve_left (id))))⟩, hk.2, ((g 23 1).resolve_left (id)), (fun k9 h9 => ((g 24 k9).resolve_left (id))), ⟨(g 100 9).resolve_left (id), fun _ => ⟨(g 100 1).resolve_left (id), (g 100 2).resolve_left (id), fun k => (g 101 k).resolve_left (id)⟩, fun _ => ⟨(g 100 4).resolve_left (id), (g 100 7).resolve_left (id), (g 100 8).resolve_left (id), fun k => (g 102 k).resolve_left (id), fun k => (g 103 k).resolve_left (id)⟩, fun _ => ⟨(g 100 14).resolve_left (id), fun k => (g 111 k).resolve_left (id), fun k => (g 112 k).resolve_left (id)⟩⟩⟩⟩
set_option maxHeartbeats 2000000 in
theorem hh_trees_o {ws0 : List Cond} {tb : String → gz_T} (hws : gc_Ws ws0) (htb : gc_tbs tb) {sh : gz_Sh} {ro : Nat → Nat} {I : gr_I} {J : gr_J} {A : gc_A} (hs : gh_HS sh ro I J A) (hc : gh_HC sh ro A I) (i : Nat) (t : Nat) (h1 : (i : Int) < I 8 1) (ht : A 10 i = some t) (o1 : I 61 3 = 1) (o2 : I 61 2 = (t : Int)) (rk1 : gh_RK1 A I t) : ∃ (z : Int64) (Iₚ : gr_I) (Jₚ : gr_J), gz_Ev ws0 tb 100 (yX12_trees, cX12_trees, 1, (some .long)) [.inr (.inr (some 0))] sh (gc_h sh I J A) (some (.inr (.inl z))) sh (gc_h sh Iₚ Jₚ A) 0 0 ∧ gh_K sh ro A I J Iₚ Jₚ (I 23 1) 0 := by
  have hb := hs.1
  have hI := hs.2.1
  have hok := hs.2.2.1
  have hT := hs.2.2.2.1
  have hU := hs.2.2.2.2.1
  have i8 : 0 ≤ I 8 1 ∧ I 8 1 ≤ 8 := gc_in hI (gc_bR hb (by decide) rfl) rfl rfl
  have h144 := gc_Base_len hb
  obtain ⟨c1, c2, c3, c4, c5, c6, c7, c8⟩ := id hc
  obtain ⟨t9, w1, tL, tv, tl, tw⟩ := hU i h1
  cases w1.symm.trans ht
  obtain ⟨k1, k2, k3, k4, k5⟩ := id rk1
  have Tt := hT.1 (i) t (by omega) ht
  have Gt := Tt.2.1
  have FB := c6 (i) t (by omega) ht
  obtain ⟨r, hₚ, E, Iₚ, Jₚ, rfl, hIₚ, g, k, z, rfl⟩ := d_X12_trees_o hws htb sh ro I J A hI t (gc_lsl A I t) hb Tt.1 Tt.2.1 tL k1 (fun i9 q9 _ hA9 => (gc_lsl_at hA9).symm) k3 c1 k4 k5 o1 o2
  have ok' : gc_OK sh Iₚ Jₚ A := gh_OK_g hok (fun q j => Or.inr ((g q j).resolve_left id)) (fun q j => (k q j).imp (fun h => by omega) id)
  have hk := gh_HS_n hs hIₚ ok' (fun q j => (g q j).imp (fun h => h.elim) id) (fun q j => (k q j).imp (fun h => by omega) id)
  refine ⟨z, Iₚ, Jₚ, gz_Ev_mono (by decide) E, ⟨hk.1, ⟨(gc_FN_fr c1 (fun k => ((g 49 k).resolve_left (id))) (fun k => ((g 50 k).resolve_left (id)))), (gc_FZ_fr c2 ((g 2 1).resolve_left (id)) (fun k => ((g 49 k).resolve_left (id))) (fun k => ((g 50 k).resolve_left (id)))), (by have h1 := ((g 86 2).resolve_left (id)); have h2 := ((g 86 4).resolve_left (id)); omega), (by have h1 := ((g 100 2).resolve_left (id)); have h2 := ((g 100 1).resolve_left (id)); have h3 := hk.2.1 8 1 (by decide) (by decide); omega), (gh_SN_fr c5 ((g 100 9).resolve_left (id))), (gh_FBT_fr c6 hk.2 (fun i t d j hi ht h1 h2 => (g (t + d) j).resolve_left (id))), (gh_TRE_k c7 hk.2 (fun q j h1 h2 h3 => ((g q j).resolve_left (id)))), (gh_RKO_fr hs c8 hk.2 (fun q j h1 h2 => ((g q j).resolve_left (id))))⟩, hk.2, ((g 23 1).resolve_left (id)), (fun k9 h9 => ((g 24 k9).resolve_left (id))), ⟨(g 100 9).resolve_left (id), fun _ => ⟨(g 100 1).resolve_left (id), (g 100 2).resolve_left (id), fun k => (g 101 k).resolve_left (id)⟩, fun _ => ⟨(g 100 4).resolve_left (id), (g 100 7).resolve_left (id), (g 100 8).resolve_left (id), fun k => (g 102 k).resolve_left (id), fun k => (g 103 k).resolve_left (id)⟩, fun _ => ⟨(g 100 14).resolve_left (id), fun k => (g 111 k).resolve_left (id), fun k => (g 112 k).resolve_left (id)⟩⟩⟩⟩
set_option maxHeartbeats 2000000 in
theorem hh_bar_o {ws0 : List Cond} {tb : String → gz_T} (hws : gc_Ws ws0) (htb : gc_tbs tb) {sh : gz_Sh} {ro : Nat → Nat} {I : gr_I} {J : gr_J} {A : gc_A} (hs : gh_HS sh ro I J A) (hc : gh_HC sh ro A I) (a1 : Int) (a2 : Int) (ha : 0 ≤ a1 ∧ a1 < I 4 1) (ra2 : 0 ≤ a2 ∧ a2 ≤ 1) (i : Nat) (t : Nat) (h1 : (i : Int) < I 8 1) (ht : A 10 i = some t) (o1 : I 61 3 = 1) (o2 : I 61 2 = (t : Int)) (rk1 : gh_RK1 A I t) : ∃ (z : Int64) (Iₚ : gr_I) (Jₚ : gr_J), gz_Ev ws0 tb 100 (yX12_bar, cX12_bar, 3, (some .long)) [.inr (.inr (some 0)), .inl a1, .inl a2] sh (gc_h sh I J A) (some (.inr (.inl z))) sh (gc_h sh Iₚ Jₚ A) 0 0 ∧ gh_K sh ro A I J Iₚ Jₚ (I 23 1) 0 := by
  have hb := hs.1
  have hI := hs.2.1
  have hok := hs.2.2.1
  have hT := hs.2.2.2.1
  have hU := hs.2.2.2.2.1
  have i8 : 0 ≤ I 8 1 ∧ I 8 1 ≤ 8 := gc_in hI (gc_bR hb (by decide) rfl) rfl rfl
  have h144 := gc_Base_len hb
  obtain ⟨c1, c2, c3, c4, c5, c6, c7, c8⟩ := id hc
  have i4 : 0 ≤ I 4 1 ∧ I 4 1 ≤ 96 := gc_in hI (gc_bR hb (by decide) rfl) rfl rfl
  obtain ⟨t9, w1, tL, tv, tl, tw⟩ := hU i h1
  cases w1.symm.trans ht
  obtain ⟨k1, k2, k3, k4, k5⟩ := id rk1
  have Tt := hT.1 (i) t (by omega) ht
  have Gt := Tt.2.1
  have FB := c6 (i) t (by omega) ht
  obtain ⟨r, hₚ, E, Iₚ, Jₚ, rfl, hIₚ, g, k, z, rfl, p0⟩ := d_X12_bar_o hws htb sh ro I J A hI t (gc_lsl A I t) a1 a2 hb Tt.1 Tt.2.1 ⟨by omega, by omega⟩ ⟨by omega, by omega⟩ tL k1 (fun i9 q9 _ hA9 => (gc_lsl_at hA9).symm) k3 c1 k4 k5 o1 o2 (by omega)
  have ok' : gc_OK sh Iₚ Jₚ A := gh_OK_g hok (fun q j => (g q j).elim (fun h => by
      rcases h with ⟨rfl, rfl⟩ | rfl
      · exact Or.inl (gh_ok0 (gc_bS hb (p := 61) rfl) rfl)
      · exact Or.inl (gh_ok0 (gc_bS hb (p := 62) rfl) rfl)
      ) Or.inr) (fun q j => (k q j).imp (fun h => by omega) id)
  have hk := gh_HS_n hs hIₚ ok' (fun q j => (g q j).imp (fun h => by omega) id) (fun q j => (k q j).imp (fun h => by omega) id)
  refine ⟨z, Iₚ, Jₚ, gz_Ev_mono (by decide) E, ⟨hk.1, ⟨(gc_FN_fr c1 (fun k => ((g 49 k).resolve_left (by omega))) (fun k => ((g 50 k).resolve_left (by omega)))), (gc_FZ_fr c2 ((g 2 1).resolve_left (by omega)) (fun k => ((g 49 k).resolve_left (by omega))) (fun k => ((g 50 k).resolve_left (by omega)))), (by have h1 := ((g 86 2).resolve_left (by omega)); have h2 := ((g 86 4).resolve_left (by omega)); omega), (by have h1 := ((g 100 2).resolve_left (by omega)); have h2 := ((g 100 1).resolve_left (by omega)); have h3 := hk.2.1 8 1 (by decide) (by decide); omega), (gh_SN_fr c5 ((g 100 9).resolve_left (by omega))), (gh_FBT_fr c6 hk.2 (fun i t d j hi ht h1 h2 => (g (t + d) j).resolve_left (by have := (hT.1 i t hi ht).2.1; omega))), (gh_TRE_k c7 hk.2 (fun q j h1 h2 h3 => ((g q j).resolve_left (by omega)))), (by
      have e11 := hk.2.2.1 i t 0 11 (by omega) ht (by decide)
      have e13 := hk.2.2.1 i t 0 13 (by omega) ht (by decide)
      have e81 := hk.2.1 8 1 (by decide) (by decide)
      rw [Nat.add_zero] at e11 e13
      have z : ∀ q j : Nat, 48 ≤ q → q ≤ 60 → Iₚ q j = I q j := fun q j h7 h8 => (g q j).resolve_left (by omega)
      have ls : ∀ j : Nat, (j : Int) < Iₚ t 13 → gc_lsl A Iₚ t j = gc_lsl A I t j := fun j hj => gh_lsl_eq tL (fun _ _ => rfl) hk.2.2.2.1 j (by omega)
      have wv : gc_WV t Iₚ := gc_WV_fr k1 (z 48 6 (by decide) (by decide)) e13 (fun k9 => z 54 k9 (by decide) (by decide))
      exact Or.inr ⟨((g 61 3).resolve_left (by omega)).trans o1, i, t, by omega, ht, ((g 61 2).resolve_left (by omega)).trans o2, wv, by rw [e11]; exact gc_WB_fr k2 (z 48 6 (by decide) (by decide)) (fun k9 => z 54 k9 (by decide) (by decide)), gh_WA_cg (gc_WA_fr k3 (z 48 6 (by decide) (by decide)) (Int.le_of_eq (z 48 3 (by decide) (by decide)).symm) (fun k9 => z 53 k9 (by decide) (by decide)) (fun k9 => z 54 k9 (by decide) (by decide)) (fun k9 => z 55 k9 (by decide) (by decide))) wv ls, by rw [z 48 10 (by decide) (by decide), z 49 _ (by decide) (by decide), z 50 _ (by decide) (by decide), z 48 3 (by decide) (by decide)]; exact k4, Or.inl p0⟩)⟩, hk.2, ((g 23 1).resolve_left (by omega)), (fun k9 h9 => ((g 24 k9).resolve_left (by omega))), ⟨(g 100 9).resolve_left (by omega), fun _ => ⟨(g 100 1).resolve_left (by omega), (g 100 2).resolve_left (by omega), fun k => (g 101 k).resolve_left (by omega)⟩, fun _ => ⟨(g 100 4).resolve_left (by omega), (g 100 7).resolve_left (by omega), (g 100 8).resolve_left (by omega), fun k => (g 102 k).resolve_left (by omega), fun k => (g 103 k).resolve_left (by omega)⟩, fun _ => ⟨(g 100 14).resolve_left (by omega), fun k => (g 111 k).resolve_left (by omega), fun k => (g 112 k).resolve_left (by omega)⟩⟩⟩⟩
set_option maxHeartbeats 2000000 in
theorem hh_price_o {ws0 : List Cond} {tb : String → gz_T} (hws : gc_Ws ws0) (htb : gc_tbs tb) {sh : gz_Sh} {ro : Nat → Nat} {I : gr_I} {J : gr_J} {A : gc_A} (hs : gh_HS sh ro I J A) (hc : gh_HC sh ro A I) (a1 : Int) (ra1 : (-2147483648) ≤ a1 ∧ a1 ≤ 2147483647) (i : Nat) (t : Nat) (h1 : (i : Int) < I 8 1) (ht : A 10 i = some t) (o1 : I 61 3 = 1) (o2 : I 61 2 = (t : Int)) (rk1 : gh_RK1 A I t) : ∃ (z : Int) (Iₚ : gr_I) (Jₚ : gr_J), gz_Ev ws0 tb 100 (yX12_price, cX12_price, 2, (some .int)) [.inr (.inr (some 0)), .inl a1] sh (gc_h sh I J A) (some (.inl z)) sh (gc_h sh Iₚ Jₚ A) 0 0 ∧ gh_K sh ro A I J Iₚ Jₚ (I 23 1) 0 := by
  have hb := hs.1
  have hI := hs.2.1
  have hok := hs.2.2.1
  have hT := hs.2.2.2.1
  have hU := hs.2.2.2.2.1
  have i8 : 0 ≤ I 8 1 ∧ I 8 1 ≤ 8 := gc_in hI (gc_bR hb (by decide) rfl) rfl rfl
  have h144 := gc_Base_len hb
  obtain ⟨c1, c2, c3, c4, c5, c6, c7, c8⟩ := id hc
  obtain ⟨t9, w1, tL, tv, tl, tw⟩ := hU i h1
  cases w1.symm.trans ht
  obtain ⟨k1, k2, k3, k4, k5⟩ := id rk1
  have Tt := hT.1 (i) t (by omega) ht
  have Gt := Tt.2.1
  have FB := c6 (i) t (by omega) ht
  obtain ⟨r, hₚ, E, Iₚ, Jₚ, rfl, hIₚ, g, k, z, rfl, p0, p1, p2, p3, p4⟩ := d_X12_price_o hws htb sh ro I J A hI t (gc_lsl A I t) a1 hb Tt.1 Tt.2.1 ⟨by omega, by omega⟩ tL k1 (fun i9 q9 _ hA9 => (gc_lsl_at hA9).symm) k3 c1 k4 k5 o1 o2
  have ok' : gc_OK sh Iₚ Jₚ A := gh_OK_g hok (fun q j => (g q j).elim (fun h => by
      rcases h with ⟨rfl, rfl⟩ | ⟨rfl, rfl⟩ | ⟨rfl, rfl⟩ | ⟨rfl, rfl⟩ | ⟨rfl, rfl⟩ | rfl | rfl | rfl | rfl | rfl | rfl | rfl | rfl | rfl
      · exact Or.inl (gh_ok0 (gc_bS hb (p := 61) rfl) rfl)
      · exact Or.inl (gh_ok0 (gc_bS hb (p := 61) rfl) rfl)
      · have h9 : (0 : Int) ≤ Iₚ 61 9 ∧ Iₚ 61 9 ≤ 1 := gc_in hIₚ (gc_bR hb (by decide) rfl) rfl rfl
        exact Or.inl (gh_okn (n := 4) (gc_bS hb (p := 61) rfl) rfl (by omega))
      · have h9 : (0 : Int) ≤ Iₚ 61 10 ∧ Iₚ 61 10 ≤ 1 := gc_in hIₚ (gc_bR hb (by decide) rfl) rfl rfl
        exact Or.inl (gh_okn (n := 4) (gc_bS hb (p := 61) rfl) rfl (by omega))
      · exact Or.inl (gh_ok0 (gc_bS hb (p := 61) rfl) rfl)
      · exact Or.inl (gh_ok0 (gc_bS hb (p := 64) rfl) rfl)
      · exact Or.inl (gh_ok0 (gc_bS hb (p := 65) rfl) rfl)
      · exact Or.inl (gh_ok0 (gc_bS hb (p := 66) rfl) rfl)
      · exact Or.inl (gh_ok0 (gc_bS hb (p := 67) rfl) rfl)
      · exact Or.inl (gh_ok0 (gc_bS hb (p := 68) rfl) rfl)
      · exact Or.inl (gh_ok0 (gc_bS hb (p := 69) rfl) rfl)
      · exact Or.inl (gh_ok0 (gc_bS hb (p := 70) rfl) rfl)
      · exact Or.inl (gh_ok0 (gc_bS hb (p := 71) rfl) rfl)
      · exact Or.inl (gh_ok0 (gc_bS hb (p := 72) rfl) rfl)
      ) Or.inr) (fun q j => (k q j).imp (fun h => h.elim) id)
  have hk := gh_HS_n hs hIₚ ok' (fun q j => (g q j).imp (fun h => by omega) id) (fun q j => (k q j).imp (fun h => h.elim) id)
  refine ⟨z, Iₚ, Jₚ, gz_Ev_mono (by decide) E, ⟨hk.1, ⟨(gc_FN_fr c1 (fun k => ((g 49 k).resolve_left (by omega))) (fun k => ((g 50 k).resolve_left (by omega)))), (gc_FZ_fr c2 ((g 2 1).resolve_left (by omega)) (fun k => ((g 49 k).resolve_left (by omega))) (fun k => ((g 50 k).resolve_left (by omega)))), (by have h1 := ((g 86 2).resolve_left (by omega)); have h2 := ((g 86 4).resolve_left (by omega)); omega), (by have h1 := ((g 100 2).resolve_left (by omega)); have h2 := ((g 100 1).resolve_left (by omega)); have h3 := hk.2.1 8 1 (by decide) (by decide); omega), (gh_SN_fr c5 ((g 100 9).resolve_left (by omega))), (gh_FBT_fr c6 hk.2 (fun i t d j hi ht h1 h2 => (g (t + d) j).resolve_left (by have := (hT.1 i t hi ht).2.1; omega))), (gh_TRE_k c7 hk.2 (fun q j h1 h2 h3 => ((g q j).resolve_left (by omega)))), (by
      have e11 := hk.2.2.1 i t 0 11 (by omega) ht (by decide)
      have e13 := hk.2.2.1 i t 0 13 (by omega) ht (by decide)
      have e81 := hk.2.1 8 1 (by decide) (by decide)
      rw [Nat.add_zero] at e11 e13
      have z : ∀ q j : Nat, 48 ≤ q → q ≤ 60 → Iₚ q j = I q j := fun q j h7 h8 => (g q j).resolve_left (by omega)
      have ls : ∀ j : Nat, (j : Int) < Iₚ t 13 → gc_lsl A Iₚ t j = gc_lsl A I t j := fun j hj => gh_lsl_eq tL (fun _ _ => rfl) hk.2.2.2.1 j (by omega)
      have wv : gc_WV t Iₚ := gc_WV_fr k1 (z 48 6 (by decide) (by decide)) e13 (fun k9 => z 54 k9 (by decide) (by decide))
      exact Or.inr ⟨((g 61 3).resolve_left (by omega)).trans o1, i, t, by omega, ht, ((g 61 2).resolve_left (by omega)).trans o2, wv, by rw [e11]; exact gc_WB_fr k2 (z 48 6 (by decide) (by decide)) (fun k9 => z 54 k9 (by decide) (by decide)), gh_WA_cg (gc_WA_fr k3 (z 48 6 (by decide) (by decide)) (Int.le_of_eq (z 48 3 (by decide) (by decide)).symm) (fun k9 => z 53 k9 (by decide) (by decide)) (fun k9 => z 54 k9 (by decide) (by decide)) (fun k9 => z 55 k9 (by decide) (by decide))) wv ls, by rw [z 48 10 (by decide) (by decide), z 49 _ (by decide) (by decide), z 50 _ (by decide) (by decide), z 48 3 (by decide) (by decide)]; exact k4, Or.inr ⟨gh_LH_cg p2 wv (fun k9 => (show (0 : Int) ≤ Iₚ 69 k9 ∧ Iₚ 69 k9 ≤ 8999 from gc_in hIₚ (gc_bR hb (by decide) rfl) rfl rfl).1) ls, p3⟩⟩)⟩, hk.2, ((g 23 1).resolve_left (by omega)), (fun k9 h9 => ((g 24 k9).resolve_left (by omega))), ⟨(g 100 9).resolve_left (by omega), fun _ => ⟨(g 100 1).resolve_left (by omega), (g 100 2).resolve_left (by omega), fun k => (g 101 k).resolve_left (by omega)⟩, fun _ => ⟨(g 100 4).resolve_left (by omega), (g 100 7).resolve_left (by omega), (g 100 8).resolve_left (by omega), fun k => (g 102 k).resolve_left (by omega), fun k => (g 103 k).resolve_left (by omega)⟩, fun _ => ⟨(g 100 14).resolve_left (by omega), fun k => (g 111 k).resolve_left (by omega), fun k => (g 112 k).resolve_left (by omega)⟩⟩⟩⟩
