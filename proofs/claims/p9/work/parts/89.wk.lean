/-! RESTORE: the sizes come back, tongue by tongue; what the store kept it keeps. -/
def gh_7 (Iₚ I0 : gr_I) (t : Nat) : Prop := Iₚ (t + 1) 1 = I0 (t + 1) 1 ∧ Iₚ (t + 3) 1 = I0 (t + 3) 1 ∧ Iₚ (t + 7) 1 = I0 (t + 7) 1 ∧ Iₚ t 6 = I0 t 6 ∧ Iₚ (t + 11) 1 = I0 (t + 11) 1 ∧ Iₚ t 11 = I0 t 11 ∧ Iₚ t 13 = I0 t 13
def gh_c7 (t q j : Nat) : Prop := (q = t + 1 ∧ j = 1) ∨ (q = t + 3 ∧ j = 1) ∨ (q = t + 7 ∧ j = 1) ∨ (q = t ∧ j = 6) ∨ (q = t + 11 ∧ j = 1) ∨ (q = t ∧ j = 11) ∨ (q = t ∧ j = 13)
def gh_sz (q j : Nat) : Prop := (q = 2 ∧ j = 1) ∨ (q = 4 ∧ j = 1) ∨ (q = 6 ∧ j = 1) ∨ (q = 8 ∧ j = 1) ∨ (q = 1 ∧ j = 13) ∨ (q = 1 ∧ j = 17) ∨ (q = 1 ∧ j = 5)
def gh_MR (A : gc_A) (I I0 : gr_I) : Prop := (I 21 0 = I0 2 1 ∧ I 21 1 = I0 4 1 ∧ I 21 2 = I0 6 1 ∧ I 21 3 = I0 8 1 ∧ I 21 4 = I0 1 13 ∧ I 21 5 = I0 1 17 ∧ I 21 6 = I0 1 5) ∧ (∀ j t : Nat, (j : Int) < I0 8 1 → A 10 j = some t → gc_ts7 I I0 t (7 + 7 * j)) ∧ ∀ f : Nat, f < 96 → I 21 (63 + f) = I0 15 f
def gh_R0 (A : gc_A) (I0 : gr_I) : Prop := ((0 ≤ I0 2 1 ∧ I0 2 1 ≤ 32) ∧ (0 ≤ I0 4 1 ∧ I0 4 1 ≤ 96) ∧ (0 ≤ I0 6 1 ∧ I0 6 1 ≤ 8) ∧ (0 ≤ I0 8 1 ∧ I0 8 1 ≤ 8) ∧ (0 ≤ I0 1 13 ∧ I0 1 13 ≤ 64) ∧ 0 ≤ I0 1 17 ∧ (-1 ≤ I0 1 5 ∧ I0 1 5 ≤ 7)) ∧ (∀ j t : Nat, (j : Int) < I0 8 1 → A 10 j = some t → (0 ≤ I0 (t + 1) 1 ∧ I0 (t + 1) 1 ≤ 8) ∧ (0 ≤ I0 (t + 3) 1 ∧ I0 (t + 3) 1 ≤ 48) ∧ (0 ≤ I0 (t + 7) 1 ∧ I0 (t + 7) 1 ≤ 16) ∧ (0 ≤ I0 t 6 ∧ I0 t 6 ≤ 24) ∧ (0 ≤ I0 (t + 11) 1 ∧ I0 (t + 11) 1 ≤ 24) ∧ (0 ≤ I0 t 11 ∧ I0 t 11 ≤ 64) ∧ (0 ≤ I0 t 13 ∧ I0 t 13 ≤ 384)) ∧ ∀ f : Nat, f < 96 → 0 ≤ I0 15 f ∧ I0 15 f ≤ 40
def gh_RE (A : gc_A) (I I0 Iₚ : gr_I) : Prop := (Iₚ 2 1 = I0 2 1 ∧ Iₚ 4 1 = I0 4 1 ∧ Iₚ 6 1 = I0 6 1 ∧ Iₚ 8 1 = I0 8 1 ∧ Iₚ 1 13 = I0 1 13 ∧ Iₚ 1 17 = I0 1 17 ∧ Iₚ 1 5 = I0 1 5) ∧ (∀ f : Nat, f < 96 → Iₚ 15 f = I0 15 f) ∧ (∀ j t : Nat, (j : Int) < I0 8 1 → A 10 j = some t → gh_7 Iₚ I0 t) ∧ ∀ q j : Nat, (gh_sz q j ∨ q = 15 ∨ ∃ i t : Nat, (i : Int) < I0 8 1 ∧ A 10 i = some t ∧ gh_c7 t q j) ∨ Iₚ q j = I q j
def gh_LP (sh : gz_Sh) (A : gc_A) (I I0 : gr_I) (i : Int) (I9 : gr_I) : Prop := (I9 2 1 = I0 2 1 ∧ I9 4 1 = I0 4 1 ∧ I9 6 1 = I0 6 1 ∧ I9 8 1 = I0 8 1 ∧ I9 1 13 = I0 1 13 ∧ I9 1 17 = I0 1 17 ∧ I9 1 5 = I0 1 5) ∧ (∀ j t : Nat, (j : Int) < i → A 10 j = some t → gh_7 I9 I0 t) ∧ ∀ q j : Nat, (gh_sz q j ∨ ∃ i2 t : Nat, (i2 : Int) < I0 8 1 ∧ A 10 i2 = some t ∧ gh_c7 t q j) ∨ I9 q j = I q j
theorem gh_Jn {J Jₚ : gr_J} (h : ∀ q j : Nat, False ∨ Jₚ q j = J q j) : Jₚ = J := funext fun q => funext fun j => (h q j).resolve_left id
set_option maxHeartbeats 8000000 in
theorem e_X8_restore {ws0 : List Cond} {tb : String → gz_T} (hws : gc_Ws ws0) (htb : gc_tbs tb) (sh : gz_Sh) (ro : Nat → Nat) (I : gr_I) (J : gr_J) (A : gc_A) (hs : gh_HS sh ro I J A) (I0 : gr_I) (h8 : I0 8 1 ≤ I 8 1) (hm : gh_MR A I I0) (h0 : gh_R0 A I0) : ∃ Iₚ : gr_I, gz_Ev ws0 tb 3 (yX8_restore, cX8_restore, 2, none) [.inr (.inr (some 1))] sh (gc_h sh I J A) none sh (gc_h sh Iₚ J A) 0 0 ∧ gc_Inv ro Iₚ ∧ gc_OK sh Iₚ J A ∧ gh_RE A I I0 Iₚ := by
  have hb := hs.1
  have hI := hs.2.1
  have hok := hs.2.2.1
  have hTT := hs.2.2.2.1
  have h144 := gc_Base_len hb
  obtain ⟨⟨m0, m1, m2, m3, m4, m5, m6⟩, mT, mM⟩ := hm
  obtain ⟨⟨r0, r1, r2, r3, r4, r5, r6⟩, rT, rM⟩ := h0
  have loop : ∀ (n : Nat) (i : Int) (I9 : gr_I), (8 - i).toNat < n → gc_Inv ro I9 → (0 ≤ i ∧ i ≤ I0 8 1) → gh_LP sh A I I0 i I9 → gv_X (gc_E8 ws0 tb 2 (yX8_restore, cX8_restore, 2, none) kX8_restore) (gv_Q cX8_restore none sh (fun r hₚ => r = none ∧ ∃ Iₚ, hₚ = gc_h sh Iₚ J A ∧ gc_Inv ro Iₚ ∧ gh_RE A I I0 Iₚ)) (85, [(0, .inr (.inr (some 1))), (1, .inl i)], [], sh, gc_h sh I9 J A) := by
    intro n
    induction n with
    | zero => intro i I9 hn; omega
    | succ n ih =>
      intro i I9 hn hI9 hi hL
      obtain ⟨⟨s0, s1, s2, s3, s4, s5, s6⟩, hd, hf⟩ := hL
      have e21 : ∀ k, I9 21 k = I 21 k := fun k => (hf 21 k).resolve_left (fun h => by
        rcases h with h | ⟨i2, t, a, b, c⟩
        · unfold gh_sz at h; omega
        · have := (hTT.1 i2 t (by omega) b).2.1
          unfold gh_c7 at c
          omega)
      refine d_X8_restore_c hws htb sh ro I9 J A hI9 i hb ⟨by omega, by omega⟩ (fun m => ?_) (fun m => ?_)
      · obtain ⟨t, ht, _⟩ := hs.2.2.2.2.1 (Int.toNat i) (by omega)
        have hTt := hTT.1 (Int.toNat i) t (by omega) ht
        obtain ⟨a0, a1, a2, a3, a4, a5, a6⟩ := mT (Int.toNat i) t (by omega) ht
        obtain ⟨c0, c1, c2, c3, c4, c5, c6⟩ := rT (Int.toNat i) t (by omega) ht
        have b0 : I9 21 (Int.toNat (7 + (i * 7))) = I0 (t + 1) 1 := by rw [e21, show Int.toNat (7 + (i * 7)) = 7 + 7 * Int.toNat i from by omega]; exact a0
        have b1 : I9 21 (Int.toNat ((7 + (i * 7)) + 1)) = I0 (t + 3) 1 := by rw [e21, show Int.toNat ((7 + (i * 7)) + 1) = 7 + 7 * Int.toNat i + 1 from by omega]; exact a1
        have b2 : I9 21 (Int.toNat ((7 + (i * 7)) + 2)) = I0 (t + 7) 1 := by rw [e21, show Int.toNat ((7 + (i * 7)) + 2) = 7 + 7 * Int.toNat i + 2 from by omega]; exact a2
        have b3 : I9 21 (Int.toNat ((7 + (i * 7)) + 3)) = I0 t 6 := by rw [e21, show Int.toNat ((7 + (i * 7)) + 3) = 7 + 7 * Int.toNat i + 3 from by omega]; exact a3
        have b4 : I9 21 (Int.toNat ((7 + (i * 7)) + 4)) = I0 (t + 11) 1 := by rw [e21, show Int.toNat ((7 + (i * 7)) + 4) = 7 + 7 * Int.toNat i + 4 from by omega]; exact a4
        have b5 : I9 21 (Int.toNat ((7 + (i * 7)) + 5)) = I0 t 11 := by rw [e21, show Int.toNat ((7 + (i * 7)) + 5) = 7 + 7 * Int.toNat i + 5 from by omega]; exact a5
        have b6 : I9 21 (Int.toNat ((7 + (i * 7)) + 6)) = I0 t 13 := by rw [e21, show Int.toNat ((7 + (i * 7)) + 6) = 7 + 7 * Int.toNat i + 6 from by omega]; exact a6
        refine d_X8_restore_b hws htb sh ro I9 J A hI9 t i hb hTt.1 hTt.2.1 ⟨by omega, by omega⟩ ht (by omega) (by omega) (by omega) (by omega) (by omega) (by omega) (by omega) (fun I1 J2 v1 hI1 F1 G1 m2 => ?_)
        cases gh_Jn G1
        obtain ⟨n0, n1, n2, n3, n4, n5, n6, n7, n8⟩ := m2
        subst n1
        have G := hTt.2.1
        have fz : ∀ q j : Nat, q < 144 → I1 q j = I9 q j := fun q j hq => (F1 q j).resolve_left (by omega)
        refine ih (i + 1) I1 (by omega) hI1 (by omega) ⟨⟨(fz 2 1 (by decide)).trans s0, (fz 4 1 (by decide)).trans s1, (fz 6 1 (by decide)).trans s2, (fz 8 1 (by decide)).trans s3, (fz 1 13 (by decide)).trans s4, (fz 1 17 (by decide)).trans s5, (fz 1 5 (by decide)).trans s6⟩, fun j u hj hu => ?_, fun q j => ?_⟩
        · by_cases e : (j : Int) < i
          · have h7 := hd j u e hu
            have hne : ¬ u = t := fun h9 => by
              subst h9
              have := hTT.2 j (Int.toNat i) u (by omega) (by omega) hu ht
              omega
            have dj := gc_dj_TT (hTT.1 j u (by omega) hu).1 hTt.1
            have fy : ∀ d k : Nat, d < 25 → I1 (u + d) k = I9 (u + d) k := fun d k hd9 => (F1 (u + d) k).resolve_left (by omega)
            obtain ⟨g0, g1, g2, g3, g4, g5, g6⟩ := h7
            exact ⟨(fy 1 1 (by decide)).trans g0, (fy 3 1 (by decide)).trans g1, (fy 7 1 (by decide)).trans g2, (fy 0 6 (by decide)).trans g3, (fy 11 1 (by decide)).trans g4, (fy 0 11 (by decide)).trans g5, (fy 0 13 (by decide)).trans g6⟩
          · have ej : j = Int.toNat i := by omega
            subst ej
            cases hu.symm.trans ht
            exact ⟨n2.trans b0, n3.trans b1, n4.trans b2, n5.trans b3, n6.trans b4, n7.trans b5, n8.trans b6⟩
        · rcases F1 q j with h | h
          · exact Or.inl (Or.inr ⟨Int.toNat i, t, by omega, ht, h⟩)
          · rcases hf q j with h2 | h2
            · exact Or.inl h2
            · exact Or.inr (h.trans h2)
      · have ei : i = I0 8 1 := by omega
        refine gv_Xm (fun v h => ?_) (d_X8_restore_t hws htb sh ro I9 J A hI9 i hb ⟨by omega, by omega⟩ (fun f hf9 => by rw [e21, mM f hf9]; exact rM f hf9))
        obtain ⟨r, h1, h2, Iₚ, Jₚ, h3, h4, h5, h6, rfl, h7⟩ := h
        cases gh_Jn h6
        have fz : ∀ q j : Nat, ¬ q = 15 → Iₚ q j = I9 q j := fun q j hq => (h5 q j).resolve_left hq
        refine ⟨none, h1, h2, rfl, Iₚ, h3, h4, ⟨(fz 2 1 (by decide)).trans s0, (fz 4 1 (by decide)).trans s1, (fz 6 1 (by decide)).trans s2, (fz 8 1 (by decide)).trans s3, (fz 1 13 (by decide)).trans s4, (fz 1 17 (by decide)).trans s5, (fz 1 5 (by decide)).trans s6⟩, fun f hf9 => by rw [h7 f hf9, e21, mM f hf9], fun j u hj hu => ?_, fun q j => ?_⟩
        · have G := (hTT.1 j u (by omega) hu).2.1
          obtain ⟨g0, g1, g2, g3, g4, g5, g6⟩ := hd j u (by omega) hu
          exact ⟨(fz _ 1 (by omega)).trans g0, (fz _ 1 (by omega)).trans g1, (fz _ 1 (by omega)).trans g2, (fz _ 6 (by omega)).trans g3, (fz _ 1 (by omega)).trans g4, (fz _ 11 (by omega)).trans g5, (fz _ 13 (by omega)).trans g6⟩
        · by_cases e : q = 15
          · exact Or.inl (Or.inr (Or.inl e))
          · rcases hf q j with h | h
            · rcases h with h | h
              · exact Or.inl (Or.inl h)
              · exact Or.inl (Or.inr (Or.inr h))
            · exact Or.inr ((fz q j e).trans h)
  have hX : gv_X (gc_E8 ws0 tb 2 (yX8_restore, cX8_restore, 2, none) kX8_restore) (gv_Q cX8_restore none sh (fun r hₚ => r = none ∧ ∃ Iₚ, hₚ = gc_h sh Iₚ J A ∧ gc_Inv ro Iₚ ∧ gh_RE A I I0 Iₚ)) (0, [(0, .inr (.inr (some 1)))], [], sh, gc_h sh I J A) := by
    refine d_X8_restore_h hws htb sh ro I J A hI hb (by omega) (by omega) (by omega) (by omega) (by omega) (by omega) (by omega) (fun I1 J2 v1 hI1 F1 G1 m => ?_)
    cases gh_Jn G1
    obtain ⟨n0, n1, n2, n3, n4, n5, n6, n7, n8⟩ := m
    subst n1
    exact loop 9 0 I1 (by decide) hI1 ⟨by decide, by omega⟩ ⟨⟨by omega, by omega, by omega, by omega, by omega, by omega, by omega⟩, fun j t hj _ => by omega, fun q j => (F1 q j).imp Or.inl id⟩
  obtain ⟨r, hₚ, E9, rfl, Iₚ, rfl, hIₚ, hR⟩ := gc_ev8 (d := 2) (M := (yX8_restore, cX8_restore, 2, none)) (av := [.inr (.inr (some 1))]) (l := kX8_restore) (Po := fun r hₚ => r = none ∧ ∃ Iₚ, hₚ = gc_h sh Iₚ J A ∧ gc_Inv ro Iₚ ∧ gh_RE A I I0 Iₚ) htb rfl (Nat.le_of_ble_eq_true rfl) hX
  refine ⟨Iₚ, E9, hIₚ, gc_OK_fr hok (fun q j => (hR.2.2.2 q j).imp (fun h => ?_) id) (fun q j => Or.inr rfl), hR⟩
  rcases h with h | h | ⟨i, t, h1, h2, h3⟩
  · unfold gh_sz at h
    rcases h with ⟨rfl, rfl⟩ | ⟨rfl, rfl⟩ | ⟨rfl, rfl⟩ | ⟨rfl, rfl⟩ | ⟨rfl, rfl⟩ | ⟨rfl, rfl⟩ | ⟨rfl, rfl⟩
    · exact ⟨by omega, gc_tyx (gc_bS hb (p := 2) rfl)⟩
    · exact ⟨by omega, gc_tyx (gc_bS hb (p := 4) rfl)⟩
    · exact ⟨by omega, gc_tyx (gc_bS hb (p := 6) rfl)⟩
    · exact ⟨by omega, gc_tyx (gc_bS hb (p := 8) rfl)⟩
    · exact ⟨by omega, gc_tyx (gc_bS hb (p := 1) rfl)⟩
    · exact ⟨by omega, gc_tyx (gc_bS hb (p := 1) rfl)⟩
    · exact ⟨by omega, gc_tyx (gc_bS hb (p := 1) rfl)⟩
  · subst h
    exact ⟨by omega, gc_tyx (gc_bS hb (p := 15) rfl)⟩
  · have hTt := (hTT.1 i t (by omega) h2).1
    obtain ⟨b0, b1, b2, b3, b4, b5, b6, b7, b8, b9, b10, b11, b12, b13, b14, b15, b16, b17, b18, b19, b20, b21, b22, b23, b24, b25, b26, b27, b28, b29, b30, b31, b32, b33, b34, b35, b36, b37, b38, b39, b40, b41, b42, b43, b44⟩ := hTt
    unfold gh_c7 at h3
    rcases h3 with ⟨rfl, rfl⟩ | ⟨rfl, rfl⟩ | ⟨rfl, rfl⟩ | ⟨rfl, rfl⟩ | ⟨rfl, rfl⟩ | ⟨rfl, rfl⟩ | ⟨rfl, rfl⟩
    · exact ⟨gc_x_lt b4.1, gc_tyx b4.1⟩
    · exact ⟨gc_x_lt b6.1, gc_tyx b6.1⟩
    · exact ⟨gc_x_lt b16.1, gc_tyx b16.1⟩
    · exact ⟨gc_x_lt b0, gc_tyx b0⟩
    · exact ⟨gc_x_lt b26.1, gc_tyx b26.1⟩
    · exact ⟨gc_x_lt b0, gc_tyx b0⟩
    · exact ⟨gc_x_lt b0, gc_tyx b0⟩
/-- the store behind restore -/
theorem gh_HS_e {sh0 sh : gz_Sh} {ro0 ro : Nat → Nat} {I0 I Iₚ : gr_I} {J0 J : gr_J} {A0 A : gc_A} (hs0 : gh_HS sh0 ro0 I0 J0 A0) (hs : gh_HS sh ro I J A) (ao : gh_AO sh0 ro0 I0 A0 sh ro I A) (hIₚ : gc_Inv ro Iₚ) (hok' : gc_OK sh Iₚ J A) (hR : gh_RE A I I0 Iₚ) : gh_HS sh ro Iₚ J A ∧ gh_AO sh0 ro0 I0 A0 sh ro Iₚ A := by
  have hs9 := hs0
  obtain ⟨hb0, hI0, hok0, hT0, hU0, hM0, hc0⟩ := hs0
  have hT := hs.2.2.2.1
  obtain ⟨a1, a2, a3, a4, a5, a6, a7, a8, a9, a10⟩ := ao
  obtain ⟨⟨s0, s1, s2, s3, s4, s5, s6⟩, sM, sT, sF⟩ := hR
  have h81 : 0 ≤ I0 8 1 ∧ I0 8 1 ≤ 8 := gc_in hI0 (gc_bR hb0 (by decide) rfl) rfl rfl
  have h144 := gc_Base_len hb0
  have tg : ∀ i t : Nat, (i : Int) < I0 8 1 → A 10 i = some t → A0 10 i = some t := fun i t hi ht => by
    obtain ⟨u, hu, _⟩ := hU0 i hi
    cases (a7 i u (by omega) hu).symm.trans ht
    exact hu
  have fz : ∀ q j : Nat, q < 144 → ¬ gh_sz q j → ¬ q = 15 → Iₚ q j = I q j := fun q j h1 h2 h3 => (sF q j).resolve_left (fun h => by
    rcases h with h | h | ⟨i, t, b1, b2, b3⟩
    · exact h2 h
    · exact h3 h
    · have := (hT.1 i t (by omega) b2).2.1
      unfold gh_c7 at b3
      omega)
  have fu : gh_FU I0 Iₚ := ⟨by omega, fun j hj => by
      rw [fz 11 j (by decide) (by unfold gh_sz; omega) (by decide), fz 12 j (by decide) (by unfold gh_sz; omega) (by decide)]
      exact a4.2.1 j hj, fun j hj => by
      rw [fz 13 j (by decide) (by unfold gh_sz; omega) (by decide)]
      exact a4.2.2 j hj⟩
  have r16 : ∀ j, Iₚ 16 j = I 16 j := fun j => fz 16 j (by decide) (by unfold gh_sz; omega) (by decide)
  have me : gh_ME I0 Iₚ := fun f h9 hf => ⟨sM f h9, fun k hk => (r16 _).trans ((a5 f h9 hf).2 k hk)⟩
  have fh : ∀ q j : Nat, 144 ≤ q → (∃ i t : Nat, (i : Int) < I0 8 1 ∧ A 10 i = some t ∧ gh_c7 t q j) ∨ Iₚ q j = I q j := fun q j h1 => (sF q j).imp (fun h => by
    rcases h with h | h | h
    · unfold gh_sz at h; omega
    · omega
    · exact h) id
  have row : ∀ i t : Nat, i < 8 → A 10 i = some t → ∀ d j : Nat, d < 25 → ¬ d = 0 → ¬ d = 1 → ¬ d = 3 → ¬ d = 7 → ¬ d = 11 → Iₚ (t + d) j = I (t + d) j := fun i t hi ht d j h0 h1 h2 h3 h4 h5 => by
    have Tt := hT.1 i t hi ht
    refine (fh (t + d) j (by omega)).resolve_left (fun h => ?_)
    obtain ⟨i2, u, b1, b2, b3⟩ := h
    have dj := gc_dj_TT (hT.1 i2 u (by omega) b2).1 Tt.1
    unfold gh_c7 at b3
    omega
  have ao' : gh_AO sh0 ro0 I0 A0 sh ro Iₚ A := by
    refine ⟨a1, fun q j hq => ?_, fun q j h1 h2 => ?_, fu, me, ⟨by omega, by omega⟩, a7, fun i t hi ht => ?_, fun i t hi h0 ht => ?_, a10⟩
    · by_cases e : gh_sz q j ∨ q = 15
      · exact Or.inl (by unfold gh_sz at e; unfold gh_mw; omega)
      · rw [fz q j hq (fun h => e (Or.inl h)) (fun h => e (Or.inr h))]
        exact a2 q j hq
    · rcases fh q j h1 with ⟨i, t, b1, b2, b3⟩ | h
      · exact Or.inl ⟨i, t, by omega, b2, by unfold gh_c7 at b3; omega, by unfold gh_c7 at b3; omega⟩
      · rw [h]
        exact a3 q j h1 h2
    · have ht2 := a7 i t (by omega) ht
      obtain ⟨_, _, _, _, _, g11, g13⟩ := sT i t hi ht2
      obtain ⟨w1, w2, w3, w4⟩ := a8 i t hi ht
      exact ⟨by omega, by omega, w3, fun j hj => (row i t (by omega) ht2 15 j (by decide) (by decide) (by decide) (by decide) (by decide) (by decide)).trans (w4 j hj)⟩
    · obtain ⟨c1, c2⟩ := a9 i t hi h0 ht
      have r9 := row i t hi ht
      exact ⟨gc_FB_fr c1 (fun k => r9 21 k (by decide) (by decide) (by decide) (by decide) (by decide) (by decide)) (fun k => r9 20 k (by decide) (by decide) (by decide) (by decide) (by decide) (by decide)), (r9 17 8 (by decide) (by decide) (by decide) (by decide) (by decide) (by decide)).trans c2.1, by rw [r9 17 6 (by decide) (by decide) (by decide) (by decide) (by decide) (by decide), r9 17 7 (by decide) (by decide) (by decide) (by decide) (by decide) (by decide)]; exact c2.2.1, (r9 17 9 (by decide) (by decide) (by decide) (by decide) (by decide) (by decide)).trans c2.2.2⟩
  refine ⟨gh_step hs9 ao' hIₚ hok' ⟨fun i t hi ht => ?_, hT.2⟩ (fun i h1 h2 => by omega) (fun i t hi ht => ?_) ?_ (by omega), ao'⟩
  · have Tt := hT.1 i t hi ht
    exact ⟨Tt.1, Tt.2.1, gc_sc_fr Tt.2.2 (fun k => row i t hi ht 10 k (by decide) (by decide) (by decide) (by decide) (by decide) (by decide))⟩
  · have ht2 := a7 i t (by omega) ht
    obtain ⟨g1, g3, _, _, _, g11, g13⟩ := sT i t hi ht2
    obtain ⟨u, w1, _, w3, _, _⟩ := hU0 i hi
    cases w1.symm.trans ht
    exact ⟨by omega, fun j a b => by omega, fun w a b => by omega⟩
  · intro f h1 h2
    rw [sM f h1] at h2
    obtain ⟨b1, b2⟩ := hM0 f h1 h2
    have e := (fu.2.1 f b1).2
    obtain ⟨m1, m2⟩ := me f h1 h2
    have h40 : I0 15 f ≤ 40 := (show (0 : Int) ≤ I0 15 f ∧ I0 15 f ≤ 40 from gc_in hI0 (gc_bR hb0 (by decide) rfl) rfl rfl).2
    refine ⟨by omega, ?_, fun k hk => ?_⟩
    · rw [m1]
      exact gc_TC_eq b2.1 (fun k hk => m2 k (by omega))
    · rw [m1] at hk
      rw [e]
      show _ ≤ Iₚ 16 (f * 40 + k)
      rw [m2 k (by omega)]
      exact b2.2 k hk
