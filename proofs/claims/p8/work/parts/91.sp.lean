/-! A LINEARIZATION IS MATCHED. -/
theorem gr_NX_b {I : gr_I} (h : gr_NX I) {x : Int} (h0 : 0 ≤ x) (hx : x < I 0 157) : I 90 (Int.toNat x) < I 0 157 := h.elim (fun p hp => (hp (Int.toNat x) (by omega)).1)
def gr_IS (a : Int) (I I' : gr_I) : Prop := ∀ k : Nat, (k : Int) < a → I' 103 k = I 103 k
theorem gr_IS_rf (a : Int) (I : gr_I) : gr_IS a I I := fun _ _ => rfl
theorem gr_IS_tr {a : Int} {I I1 I2 : gr_I} (h : gr_IS a I I1) (g : gr_IS a I1 I2) : gr_IS a I I2 := fun k hk => (g k hk).trans (h k hk)
theorem gr_IS_w {a b : Int} {I I1 : gr_I} (h : gr_IS b I I1) (hb : a ≤ b) : gr_IS a I I1 := fun k hk => h k (by omega)
set_option maxHeartbeats 8000000 in
theorem gr_IT_t {it a : Int} {I : gr_I} (h : gr_IT it a I) (h0 : 0 ≤ it) (hx : 0 ≤ I 0 167) (hn : ¬ I 43 (Int.toNat (6 * I 0 167 + it)) < 0) : gr_IT (it + 1) (a + 1) I := by
  refine ⟨by have := h.1; exact gz_m 0 (by omega), fun k hk hm => ?_⟩
  rw [show Int.toNat (6 * I 0 167 + it) = 6 * Int.toNat (I 0 167) + Int.toNat it from by exact gz_m 1 (by omega)] at hn
  have kt : (k : Int) < it := by
    by_cases c : (k : Int) < it
    · exact c
    · have e : k = Int.toNat it := by exact gz_m 2 (by omega)
      rw [e] at hm
      exact absurd hm hn
  obtain ⟨u1, u2, u3⟩ := h.2 k kt hm
  exact ⟨u1, ⟨u2.1, by exact gz_m 3 (by omega), by exact gz_m 4 (by omega), u2.2.2.2⟩, u3⟩
theorem gr_IT_a {it a e kk nd : Int} {i : Nat} {I I' : gr_I} (h : gr_IT it a I) (h0 : 0 ≤ it) (hx : 0 ≤ I 0 167) (hi : (i : Int) = it) (p : ∀ b j, ¬ (b = 103 ∧ j = i) → I' b j = I b j) (q : I' 103 i = nd) (hnd : 0 ≤ nd ∧ nd < I 0 157) (T : gr_T3 kk a e nd I) (hls : gr_LS I) (hk : kk = I 7 (Int.toNat (4 * I 41 (Int.toNat (I 0 167)) - 1 - I 43 (Int.toNat (6 * I 0 167 + it))))) : gr_IT (it + 1) e I' := by
  have r : ∀ b : Nat, ¬ b = 103 → I' b = I b := fun b hb => funext fun j => p b j (fun q => hb q.1)
  rw [show Int.toNat (6 * I 0 167 + it) = 6 * Int.toNat (I 0 167) + Int.toNat it from by exact gz_m 0 (by omega)] at hk
  rcases T with T | T
  · exact gz_m 1 (by omega)
  have ge := hls.1 (Int.toNat nd) (by exact gz_m 2 (by omega))
  have h1 := h.1
  unfold gr_IT
  rw [r 0 (by decide), r 43 (by decide), r 104 (by decide), r 88 (by decide), r 87 (by decide), r 7 (by decide), r 41 (by decide)]
  refine ⟨by exact gz_m 3 (by omega), fun k hk2 hm => ?_⟩
  by_cases c : (k : Int) < it
  · obtain ⟨u1, u2, u3⟩ := h.2 k c hm
    rw [p 103 k (fun q => by have := q.2; exact gz_m 4 (by omega))]
    refine ⟨u1, ⟨u2.1, by exact gz_m 5 (by omega), by exact gz_m 6 (by omega), u2.2.2.2⟩, fun j hj hjm => ?_⟩
    rw [p 103 j (fun q => by have := q.2; exact gz_m 7 (by omega))]
    exact u3 j hj hjm
  · have ek : k = i := by exact gz_m 8 (by omega)
    have ek2 : k = Int.toNat it := by exact gz_m 9 (by omega)
    rw [ek, q]
    refine ⟨hnd, ⟨by exact gz_m 10 (by omega), by exact gz_m 11 (by omega), by exact gz_m 12 (by omega), ?_⟩, fun j hj hjm => ?_⟩
    · rw [← ek, ek2, T.1]
      exact hk
    · obtain ⟨u1, u2, u3⟩ := h.2 j (by exact gz_m 13 (by omega)) hjm
      rw [p 103 j (fun q => by have := q.2; exact gz_m 14 (by omega))]
      exact gz_m 15 (by omega)
set_option maxHeartbeats 8000000 in
set_option maxRecDepth 100000 in
theorem r_match {ws0 : List Cond} {tb : String → gz_T} (hws : ∀ w ∈ gr_ws, w ∈ ws0) (htb : tb RX13 = gr_T) (ext : gz_Sh) (t : Int) (o : Int) : ∀ (nr : Nat) (I : gr_I) (J : gr_J) (hI : gr_Inv I) (a1 : Int) (a2 : Int) (ha1 : 0 ≤ a1 ∧ a1 ≤ 6) (ha2 : 0 ≤ a2 ∧ a2 ≤ 24) (x0 : gr_GR I) (x1 : gr_FO t o I) (x2 : gr_IT a1 a2 I) (x3 : o = ((I 0 169 - I 0 168) * 25 + I 0 168) * 32 + I 8 (Int.toNat (I 41 (Int.toNat (I 0 167))))) (x4 : 0 ≤ t ∧ t ≤ 7) (x5 : 384 * t ≤ I 0 167) (x6 : I 0 167 < 384 * t + I 19 (Int.toNat t)) (x7 : I 0 168 < I 0 169) (x8 : I 0 169 ≤ I 0 143) (x9 : a1 ≤ I 42 (Int.toNat (I 0 167))) (x10 : a2 ≤ I 0 169) (x11 : I 0 161 ≤ 400000) (_ : (6 - a1).toNat < nr), ∃ r h', gz_Ev ws0 tb (3 + nr) (yX13_match, cX13_match, 12, none) [.inr (.inr (some 0)), .inl a1, .inl a2] (gr_sh ++ ext) (gr_h I J) r (gr_sh ++ ext) h' 0 0 ∧ (∃ (I' : gr_I) (J' : gr_J), h' = gr_h I' J' ∧ gr_Inv I' ∧ gr_fr [157, 158, 160, 161] [87, 88, 89, 90, 92, 93, 94, 95, 96, 97, 98, 100, 101, 103, 104] I I' ∧ gr_fj [157, 158, 160, 161] [87, 88, 89, 90, 92, 93, 94, 95, 96, 97, 98, 100, 101, 103, 104] J J' ∧ r = none ∧ (gr_FO t o I') ∧ (gr_XT I I') ∧ (gr_IS a1 I I') ∧ (I 0 161 ≤ I' 0 161) ∧ (I' 0 160 = 0 → I' 0 161 ≤ 400000)) := by
  intro nr
  induction nr with
  | zero => intro I J hI a1 a2 ha1 ha2 x0 x1 x2 x3 x4 x5 x6 x7 x8 x9 x10 x11 hnr; exact gz_m 0 (by omega)
  | succ nr ihR =>
  intro I J hI a1 a2 ha1 ha2 x0 x1 x2 x3 x4 x5 x6 x7 x8 x9 x10 x11 hnr
  have FI : gr_fr [157, 158, 160, 161] [87, 88, 89, 90, 92, 93, 94, 95, 96, 97, 98, 100, 101, 103, 104] I I := fun _ _ _ => rfl
  have FJ : gr_fj [157, 158, 160, 161] [87, 88, 89, 90, 92, 93, 94, 95, 96, 97, 98, 100, 101, 103, 104] J J := fun _ _ _ => rfl
  have hD : gv_D (gr_E ws0 tb (3 + nr) (yX13_match, cX13_match, 12, none) kX13_match) := gq_of oX13_match
  refine gr_ev (d := (3 + nr)) (l := kX13_match) (Po := fun r h' => (∃ (I' : gr_I) (J' : gr_J), h' = gr_h I' J' ∧ gr_Inv I' ∧ gr_fr [157, 158, 160, 161] [87, 88, 89, 90, 92, 93, 94, 95, 96, 97, 98, 100, 101, 103, 104] I I' ∧ gr_fj [157, 158, 160, 161] [87, 88, 89, 90, 92, 93, 94, 95, 96, 97, 98, 100, 101, 103, 104] J J' ∧ r = none ∧ (gr_FO t o I') ∧ (gr_XT I I') ∧ (gr_IS a1 I I') ∧ (I 0 161 ≤ I' 0 161) ∧ (I' 0 160 = 0 → I' 0 161 ≤ 400000))) htb rfl (Nat.le_of_ble_eq_true rfl) ?_
  have f1 := (gr_b_0_157 hI)
  have f2 := (gr_b_0_143 hI)
  have f3 := (gr_b_0_158 hI)
  have f4 := (gr_b_0_168 hI)
  have f5 := (gr_b_0_169 hI)
  have f6 := (gr_b_0_167 hI)
  have f7 := (gr_b_0_161 hI)
  have f8 := (gr_b_0_160 hI)
  have L5 : ∀ (v3_9 : Int), ((0 ≤ a1 ∧ a1 ≤ 6) ∧ (0 ≤ a2 ∧ a2 ≤ 24) ∧ (0 ≤ v3_9 ∧ v3_9 ≤ 3071) ∧ (v3_9 = I 0 167)) → gv_X (gr_E ws0 tb (3 + nr) (yX13_match, cX13_match, 12, none) kX13_match) (gv_Q cX13_match none (gr_sh ++ ext) (fun r h' => (∃ (I' : gr_I) (J' : gr_J), h' = gr_h I' J' ∧ gr_Inv I' ∧ gr_fr [157, 158, 160, 161] [87, 88, 89, 90, 92, 93, 94, 95, 96, 97, 98, 100, 101, 103, 104] I I' ∧ gr_fj [157, 158, 160, 161] [87, 88, 89, 90, 92, 93, 94, 95, 96, 97, 98, 100, 101, 103, 104] J J' ∧ r = none ∧ (gr_FO t o I') ∧ (gr_XT I I') ∧ (gr_IS a1 I I') ∧ (I 0 161 ≤ I' 0 161) ∧ (I' 0 160 = 0 → I' 0 161 ≤ 400000)))) (5, [(0, .inr (.inr (some 0))), (1, .inl a1), (2, .inl a2), (3, .inl v3_9)], [], gr_sh ++ ext, gr_h I J) := by
    intro v3_9 m_9
    obtain ⟨ha1_9, ha2_9, hv3_9, e0_9⟩ := m_9
    have q9_9 := e0_9
    subst q9_9
    have f10 := (gr_b_0_157 hI)
    have f11 := (gr_b_0_143 hI)
    have f12 := (gr_b_0_158 hI)
    have f13 := (gr_b_0_168 hI)
    have f14 := (gr_b_0_169 hI)
    have f15 := (gr_b_0_167 hI)
    have f16 := (gr_b_0_161 hI)
    have f17 := (gr_b_0_160 hI)
    have L27 : ∀ (I18 : gr_I) (J19 : gr_J) , gr_Inv I18 → gr_fr [157, 158, 160, 161] [87, 88, 89, 90, 92, 93, 94, 95, 96, 97, 98, 100, 101, 103, 104] I I18 → gr_fj [157, 158, 160, 161] [87, 88, 89, 90, 92, 93, 94, 95, 96, 97, 98, 100, 101, 103, 104] J J19 → ((I 0 161 ≤ I18 0 161) ∧ (I18 0 160 = 0 → I18 0 161 ≤ 400000)) → (gr_FO t o I18) → (gr_XT I I18) → (gr_IS a1 I I18) → gv_X (gr_E ws0 tb (3 + nr) (yX13_match, cX13_match, 12, none) kX13_match) (gv_Q cX13_match none (gr_sh ++ ext) (fun r h' => (∃ (I' : gr_I) (J' : gr_J), h' = gr_h I' J' ∧ gr_Inv I' ∧ gr_fr [157, 158, 160, 161] [87, 88, 89, 90, 92, 93, 94, 95, 96, 97, 98, 100, 101, 103, 104] I I' ∧ gr_fj [157, 158, 160, 161] [87, 88, 89, 90, 92, 93, 94, 95, 96, 97, 98, 100, 101, 103, 104] J J' ∧ r = none ∧ (gr_FO t o I') ∧ (gr_XT I I') ∧ (gr_IS a1 I I') ∧ (I 0 161 ≤ I' 0 161) ∧ (I' 0 160 = 0 → I' 0 161 ≤ 400000)))) (27, [], [], gr_sh ++ ext, gr_h I18 J19) := by
      intro I18 J19 hI18 FI18 FJ19 m_20 e0_20 e1_20 e2_20
      clear ha1_9 ha2_9 hv3_9 e0_9 f10 f11 f12 f13 f14 f15 f16 f17
      obtain ⟨e3_20, e4_20⟩ := m_20
      have f21 := (gr_b_0_157 hI18)
      have f22 := (gr_b_0_143 hI18)
      have f23 := (gr_b_0_158 hI18)
      have f24 := (gr_b_0_168 hI18)
      have f25 := (gr_b_0_169 hI18)
      have f26 := (gr_b_0_167 hI18)
      have f27 := (gr_b_0_161 hI18)
      have f28 := (gr_b_0_160 hI18)
      have t29 := FI18 0 168 rfl
      have t30 := FI18 0 169 rfl
      have t31 := FI18 0 167 rfl
      have t32 := FI18 0 143 rfl
      have t33 := FI18 19 (Int.toNat t) rfl
      exact gv_vret hD rfl ⟨I18, J19, rfl, hI18, FI18, FJ19, ⟨rfl, e0_20, e1_20, e2_20, by exact gz_m 1 (by omega), by exact gz_m 2 (by omega)⟩⟩
    have L72 : gv_X (gr_E ws0 tb (3 + nr) (yX13_match, cX13_match, 12, none) kX13_match) (gv_Q cX13_match none (gr_sh ++ ext) (fun r h' => (∃ (I' : gr_I) (J' : gr_J), h' = gr_h I' J' ∧ gr_Inv I' ∧ gr_fr [157, 158, 160, 161] [87, 88, 89, 90, 92, 93, 94, 95, 96, 97, 98, 100, 101, 103, 104] I I' ∧ gr_fj [157, 158, 160, 161] [87, 88, 89, 90, 92, 93, 94, 95, 96, 97, 98, 100, 101, 103, 104] J J' ∧ r = none ∧ (gr_FO t o I') ∧ (gr_XT I I') ∧ (gr_IS a1 I I') ∧ (I 0 161 ≤ I' 0 161) ∧ (I' 0 160 = 0 → I' 0 161 ≤ 400000)))) (72, [], [], gr_sh ++ ext, gr_h I J) := by
      have f35 := (gr_b_0_157 hI)
      have f36 := (gr_b_0_143 hI)
      have f37 := (gr_b_0_158 hI)
      have f38 := (gr_b_0_168 hI)
      have f39 := (gr_b_0_169 hI)
      have f40 := (gr_b_0_167 hI)
      have f41 := (gr_b_0_161 hI)
      have f42 := (gr_b_0_160 hI)
      exact gv_vret hD rfl ⟨I, J, rfl, hI, FI, FJ, ⟨rfl, x1, (gr_XT_rf I), (gr_IS_rf a1 I), by exact gz_m 3 (by omega), by exact gz_m 4 (by omega)⟩⟩
    have L76 : ∀ (n : Nat) (v4_43 : Int) (v5_43 : Int) (v6_43 : Int), (16 - v6_43).toNat < n → ((0 ≤ a1 ∧ a1 ≤ 6) ∧ (0 ≤ a2 ∧ a2 ≤ 23) ∧ (0 ≤ v4_43 ∧ v4_43 ≤ 32015) ∧ (0 ≤ v5_43 ∧ v5_43 ≤ 15) ∧ (0 ≤ v6_43 ∧ v6_43 ≤ 15) ∧ (v4_43 = I 43 (Int.toNat (6 * I 0 167 + a1))) ∧ (a1 < I 42 (Int.toNat (I 0 167)) ∧ I 42 (Int.toNat (I 0 167)) ≤ 6) ∧ (a2 < I 0 169)) → gv_X (gr_E ws0 tb (3 + nr) (yX13_match, cX13_match, 12, none) kX13_match) (gv_Q cX13_match none (gr_sh ++ ext) (fun r h' => (∃ (I' : gr_I) (J' : gr_J), h' = gr_h I' J' ∧ gr_Inv I' ∧ gr_fr [157, 158, 160, 161] [87, 88, 89, 90, 92, 93, 94, 95, 96, 97, 98, 100, 101, 103, 104] I I' ∧ gr_fj [157, 158, 160, 161] [87, 88, 89, 90, 92, 93, 94, 95, 96, 97, 98, 100, 101, 103, 104] J J' ∧ r = none ∧ (gr_FO t o I') ∧ (gr_XT I I') ∧ (gr_IS a1 I I') ∧ (I 0 161 ≤ I' 0 161) ∧ (I' 0 160 = 0 → I' 0 161 ≤ 400000)))) (76, [(0, .inr (.inr (some 0))), (1, .inl a1), (2, .inl a2), (4, .inl v4_43), (5, .inl v5_43), (6, .inl v6_43)], [], gr_sh ++ ext, gr_h I J) := by
      intro n
      induction n with
      | zero => intro v4_43 v5_43 v6_43 hn; exact gz_m 5 (by omega)
      | succ n ih76 =>
        intro v4_43 v5_43 v6_43 hn m_43
        obtain ⟨ha1_43, ha2_43, hv4_43, hv5_43, hv6_43, e0_43, e1_43, e2_43⟩ := m_43
        have f44 := (gr_b_0_157 hI)
        have f45 := (gr_b_0_143 hI)
        have f46 := (gr_b_0_158 hI)
        have f47 := (gr_b_0_168 hI)
        have f48 := (gr_b_0_169 hI)
        have f49 := (gr_b_0_167 hI)
        have f50 := (gr_b_0_161 hI)
        have f51 := (gr_b_0_160 hI)
        refine gv_run 2 true hD (pc' := 80) (lv' := [(0, .inr (.inr (some 0))), (1, .inl a1), (2, .inl a2), (4, .inl v4_43), (5, .inl v5_43), (6, .inl v6_43)]) (st' := [.inl v5_43, .inl v6_43]) (h' := gr_h I J) (C := ((True ∧ True) ∧ True)) rfl ⟨⟨trivial, trivial⟩, trivial⟩ ?_
        refine gv_icmp_ge (t := 117) hD rfl rfl ⟨⟨by exact gz_m 6 (by omega), by exact gz_m 7 (by omega)⟩, ⟨by exact gz_m 8 (by omega), by exact gz_m 9 (by omega)⟩⟩ (fun c52 => ?_) (fun c52 => ?_)
        · refine gv_run 7 true hD (pc' := 124) (lv' := [(0, .inr (.inr (some 0))), (1, .inl a1), (2, .inl a2), (4, .inl v4_43), (5, .inl v5_43), (6, .inl v6_43)]) (st' := [.inl (a2 + 1), .inl (a1 + 1), .inr (.inr (some 0))]) (h' := gr_h I J) (C := (((((((True ∧ True) ∧ True) ∧ True) ∧ True) ∧ True) ∧ True) ∧ True)) rfl ⟨⟨⟨⟨⟨⟨⟨trivial, trivial⟩, trivial⟩, trivial⟩, trivial⟩, trivial⟩, trivial⟩, trivial⟩ ?_
          obtain ⟨r53, h53, E53, P53⟩ := ihR I J hI (a1 + 1) (a2 + 1) ⟨by exact gz_m 10 (by omega), by exact gz_m 11 (by omega)⟩ ⟨by exact gz_m 12 (by omega), by exact gz_m 13 (by omega)⟩ x0 x1 (gr_IT_t x2 (by exact gz_m 14 (by omega)) (by exact gz_m 15 (by omega)) (by exact gz_m 16 (by omega))) x3 (by exact gz_m 17 (by omega)) (by exact gz_m 18 (by omega)) (by exact gz_m 19 (by omega)) (by exact gz_m 20 (by omega)) (by exact gz_m 21 (by omega)) (by exact gz_m 22 (by omega)) (by exact gz_m 23 (by omega)) (by exact gz_m 24 (by omega)) (by exact gz_m 25 (by omega))
          obtain ⟨I54, J55, rfl, hI54, g53, k53, ⟨rfl, q53⟩⟩ := P53
          have FI54 := gr_frt FI g53 rfl rfl
          have FJ55 := gr_fjt FJ k53 rfl rfl
          have t56 := g53 0 143 rfl
          have t57 := g53 0 168 rfl
          have t58 := g53 0 169 rfl
          have t59 := g53 0 167 rfl
          have f60 := (gr_b_0_157 hI54)
          have f61 := (gr_b_0_143 hI54)
          have f62 := (gr_b_0_158 hI54)
          have f63 := (gr_b_0_168 hI54)
          have f64 := (gr_b_0_169 hI54)
          have f65 := (gr_b_0_167 hI54)
          have f66 := (gr_b_0_161 hI54)
          have f67 := (gr_b_0_160 hI54)
          have t68 := q53.2.1.1
          refine gv_callV hD rfl (As := [.inl (a1 + 1), .inl (a2 + 1)]) (st := []) rfl (by decide) rfl rfl (gr_lV hws rfl) (Nat.le_of_ble_eq_true rfl) (gz_Ev_mono (d := (3 + nr)) (Nat.le_refl _) E53) ?_
          show gv_X _ _ (127, [(0, .inr (.inr (some 0))), (1, .inl a1), (2, .inl a2), (4, .inl v4_43), (5, .inl v5_43), (6, .inl v6_43)], [], gr_sh ++ ext, gr_h I54 J55)
          exact gv_vret hD rfl ⟨I54, J55, rfl, hI54, FI54, FJ55, ⟨rfl, q53.1, (gr_XT_tr (gr_XT_rf I) q53.2.1), (gr_IS_tr (gr_IS_rf a1 I) (gr_IS_w q53.2.2.1 (by exact gz_m 26 (by omega)))), by exact gz_m 27 (by omega), by exact gz_m 28 (by omega)⟩⟩
        · refine gv_run 7 true hD (pc' := 94) (lv' := [(0, .inr (.inr (some 0))), (1, .inl a1), (2, .inl a2), (4, .inl v4_43), (5, .inl v5_43), (6, .inl v6_43)]) (st' := [.inl ((24 * a2) + v6_43), .inr (.inr (some 83))]) (h' := gr_h I J) (C := (((((((True ∧ True) ∧ True) ∧ True) ∧ True) ∧ True) ∧ True) ∧ True)) rfl ⟨⟨⟨⟨⟨⟨⟨trivial, trivial⟩, trivial⟩, trivial⟩, trivial⟩, trivial⟩, trivial⟩, trivial⟩ ?_
          have f69 := (gr_b_83 hI (Int.toNat (((24 * a2) + v6_43))))
          refine gv_run 1 true hD (pc' := 95) (lv' := [(0, .inr (.inr (some 0))), (1, .inl a1), (2, .inl a2), (4, .inl v4_43), (5, .inl v5_43), (6, .inl v6_43)]) (st' := [.inl (I 83 (Int.toNat (((24 * a2) + v6_43))))]) (h' := gr_h I J) (C := (True ∧ (0 ≤ (((24 * a2) + v6_43)) ∧ (((24 * a2) + v6_43)) < ((576 : Nat) : Int)))) rfl ⟨trivial, ⟨by exact gz_m 29 (by omega), by exact gz_m 30 (by omega)⟩⟩ ?_
          have f70 := gw_shr (x := v4_43) (y := 4) ⟨by exact gz_m 31 (by omega), by exact gz_m 32 (by omega)⟩
          refine gv_run 7 true hD (pc' := 106) (lv' := [(0, .inr (.inr (some 0))), (1, .inl a1), (2, .inl a2), (4, .inl v4_43), (5, .inl v5_43), (6, .inl v6_43)]) (st' := [.inl (((Int32.ofInt v4_43 >>> (Int32.ofInt 4 &&& 31)).toInt) + v6_43), .inr (.inr (some 51)), .inl (I 83 (Int.toNat (((24 * a2) + v6_43))))]) (h' := gr_h I J) (C := (((((((True ∧ True) ∧ True) ∧ True) ∧ True) ∧ True) ∧ True) ∧ True)) rfl ⟨⟨⟨⟨⟨⟨⟨trivial, trivial⟩, trivial⟩, trivial⟩, trivial⟩, trivial⟩, trivial⟩, trivial⟩ ?_
          have f71 := (gr_b_51 hI (Int.toNat ((((Int32.ofInt v4_43 >>> (Int32.ofInt 4 &&& 31)).toInt) + v6_43))))
          refine gv_run 1 true hD (pc' := 107) (lv' := [(0, .inr (.inr (some 0))), (1, .inl a1), (2, .inl a2), (4, .inl v4_43), (5, .inl v5_43), (6, .inl v6_43)]) (st' := [.inl (I 51 (Int.toNat ((((Int32.ofInt v4_43 >>> (Int32.ofInt 4 &&& 31)).toInt) + v6_43)))), .inl (I 83 (Int.toNat (((24 * a2) + v6_43))))]) (h' := gr_h I J) (C := (True ∧ (0 ≤ ((((Int32.ofInt v4_43 >>> (Int32.ofInt 4 &&& 31)).toInt) + v6_43)) ∧ ((((Int32.ofInt v4_43 >>> (Int32.ofInt 4 &&& 31)).toInt) + v6_43)) < ((82000 : Nat) : Int)))) rfl ⟨trivial, ⟨by exact gz_m 33 (by omega), by exact gz_m 34 (by omega)⟩⟩ ?_
          refine gv_icmp_eq (t := 111) hD rfl rfl ⟨⟨by exact gz_m 35 (by omega), by exact gz_m 36 (by omega)⟩, ⟨by exact gz_m 37 (by omega), by exact gz_m 38 (by omega)⟩⟩ (fun c72 => ?_) (fun c72 => ?_)
          · refine gv_run 2 true hD (pc' := 76) (lv' := [(6, .inl (v6_43 + 1)), (0, .inr (.inr (some 0))), (1, .inl a1), (2, .inl a2), (4, .inl v4_43), (5, .inl v5_43)]) (st' := []) (h' := gr_h I J) (C := ((True ∧ True) ∧ True)) rfl ⟨⟨trivial, trivial⟩, trivial⟩ ?_
            refine gv_pick [1, 2, 3, 4, 5, 0] rfl ?_
            exact ih76 v4_43 v5_43 (v6_43 + 1) (by exact gz_m 39 (by omega)) (by exact gz_m 40 (by omega))
          · exact gv_vret hD rfl ⟨I, J, rfl, hI, FI, FJ, ⟨rfl, x1, (gr_XT_rf I), (gr_IS_rf a1 I), by exact gz_m 41 (by omega), by exact gz_m 42 (by omega)⟩⟩
    have L204 : ∀ (v5_73 : Int) (v6_73 : Int) (v7_73 : Int) (v8_73 : Int) (s0_73 : Int), ((0 ≤ a1 ∧ a1 ≤ 6) ∧ (0 ≤ a2 ∧ a2 ≤ 24) ∧ (0 ≤ v5_73 ∧ v5_73 ≤ 3) ∧ (0 ≤ v6_73 ∧ v6_73 ≤ 16777215) ∧ (0 ≤ v7_73 ∧ v7_73 ≤ 31) ∧ ((-5) ≤ v8_73 ∧ v8_73 ≤ 31) ∧ (0 ≤ s0_73 ∧ s0_73 ≤ 25) ∧ (v5_73 = -1 - I 43 (Int.toNat (6 * I 0 167 + a1))) ∧ (v7_73 = I 7 (Int.toNat (4 * I 41 (Int.toNat (I 0 167)) - 1 - I 43 (Int.toNat (6 * I 0 167 + a1))))) ∧ (v8_73 = I 0 169 - (I 42 (Int.toNat (I 0 167)) - a1 - 1)) ∧ (a1 < I 42 (Int.toNat (I 0 167)) ∧ I 42 (Int.toNat (I 0 167)) ≤ 6)) → gv_X (gr_E ws0 tb (3 + nr) (yX13_match, cX13_match, 12, none) kX13_match) (gv_Q cX13_match none (gr_sh ++ ext) (fun r h' => (∃ (I' : gr_I) (J' : gr_J), h' = gr_h I' J' ∧ gr_Inv I' ∧ gr_fr [157, 158, 160, 161] [87, 88, 89, 90, 92, 93, 94, 95, 96, 97, 98, 100, 101, 103, 104] I I' ∧ gr_fj [157, 158, 160, 161] [87, 88, 89, 90, 92, 93, 94, 95, 96, 97, 98, 100, 101, 103, 104] J J' ∧ r = none ∧ (gr_FO t o I') ∧ (gr_XT I I') ∧ (gr_IS a1 I I') ∧ (I 0 161 ≤ I' 0 161) ∧ (I' 0 160 = 0 → I' 0 161 ≤ 400000)))) (204, [(0, .inr (.inr (some 0))), (1, .inl a1), (2, .inl a2), (5, .inl v5_73), (6, .inl v6_73), (7, .inl v7_73), (8, .inl v8_73)], [.inl s0_73], gr_sh ++ ext, gr_h I J) := by
      intro v5_73 v6_73 v7_73 v8_73 s0_73 m_73
      obtain ⟨ha1_73, ha2_73, hv5_73, hv6_73, hv7_73, hv8_73, hs0_73, e0_73, e1_73, e2_73, e3_73⟩ := m_73
      have f74 := (gr_b_0_157 hI)
      have f75 := (gr_b_0_143 hI)
      have f76 := (gr_b_0_158 hI)
      have f77 := (gr_b_0_168 hI)
      have f78 := (gr_b_0_169 hI)
      have f79 := (gr_b_0_167 hI)
      have f80 := (gr_b_0_161 hI)
      have f81 := (gr_b_0_160 hI)
      have L206 : ∀ (n : Nat) (I82 : gr_I) (J83 : gr_J) (v9_84 : Int), (26 - v9_84).toNat < n → gr_Inv I82 → gr_fr [157, 158, 160, 161] [87, 88, 89, 90, 92, 93, 94, 95, 96, 97, 98, 100, 101, 103, 104] I I82 → gr_fj [157, 158, 160, 161] [87, 88, 89, 90, 92, 93, 94, 95, 96, 97, 98, 100, 101, 103, 104] J J83 → ((0 ≤ a1 ∧ a1 ≤ 6) ∧ (0 ≤ a2 ∧ a2 ≤ 24) ∧ (0 ≤ v5_73 ∧ v5_73 ≤ 3) ∧ (0 ≤ v6_73 ∧ v6_73 ≤ 16777215) ∧ (0 ≤ v7_73 ∧ v7_73 ≤ 31) ∧ ((-5) ≤ v8_73 ∧ v8_73 ≤ 24) ∧ (0 ≤ v9_84 ∧ v9_84 ≤ 25) ∧ (I 0 161 ≤ I82 0 161) ∧ (I82 0 160 = 0 → I82 0 161 ≤ 400000) ∧ (v5_73 = -1 - I 43 (Int.toNat (6 * I 0 167 + a1))) ∧ (v7_73 = I 7 (Int.toNat (4 * I 41 (Int.toNat (I 0 167)) - 1 - I 43 (Int.toNat (6 * I 0 167 + a1))))) ∧ (v8_73 = I 0 169 - (I 42 (Int.toNat (I 0 167)) - a1 - 1)) ∧ (a1 < I 42 (Int.toNat (I 0 167)) ∧ I 42 (Int.toNat (I 0 167)) ≤ 6)) → (gr_FO t o I82) → (gr_XT I I82) → (gr_IS a1 I I82) → gv_X (gr_E ws0 tb (3 + nr) (yX13_match, cX13_match, 12, none) kX13_match) (gv_Q cX13_match none (gr_sh ++ ext) (fun r h' => (∃ (I' : gr_I) (J' : gr_J), h' = gr_h I' J' ∧ gr_Inv I' ∧ gr_fr [157, 158, 160, 161] [87, 88, 89, 90, 92, 93, 94, 95, 96, 97, 98, 100, 101, 103, 104] I I' ∧ gr_fj [157, 158, 160, 161] [87, 88, 89, 90, 92, 93, 94, 95, 96, 97, 98, 100, 101, 103, 104] J J' ∧ r = none ∧ (gr_FO t o I') ∧ (gr_XT I I') ∧ (gr_IS a1 I I') ∧ (I 0 161 ≤ I' 0 161) ∧ (I' 0 160 = 0 → I' 0 161 ≤ 400000)))) (206, [(0, .inr (.inr (some 0))), (1, .inl a1), (2, .inl a2), (5, .inl v5_73), (6, .inl v6_73), (7, .inl v7_73), (8, .inl v8_73), (9, .inl v9_84)], [], gr_sh ++ ext, gr_h I82 J83) := by
        intro n
        induction n with
        | zero => intro I82 J83 v9_84 hn; exact gz_m 43 (by omega)
        | succ n ih206 =>
          intro I82 J83 v9_84 hn hI82 FI82 FJ83 m_84 e0_84 e1_84 e2_84
          clear ha1_73 ha2_73 hv5_73 hv6_73 hv7_73 hv8_73 hs0_73 e0_73 e1_73 e2_73 e3_73 f74 f75 f76 f77 f78 f79 f80 f81 ha1_9 ha2_9 hv3_9 e0_9 f10 f11 f12 f13 f14 f15 f16 f17
          obtain ⟨ha1_84, ha2_84, hv5_73_84, hv6_73_84, hv7_73_84, hv8_73_84, hv9_84, e3_84, e4_84, e5_84, e6_84, e7_84, e8_84⟩ := m_84
          have f85 := (gr_b_0_157 hI82)
          have f86 := (gr_b_0_143 hI82)
          have f87 := (gr_b_0_158 hI82)
          have f88 := (gr_b_0_168 hI82)
          have f89 := (gr_b_0_169 hI82)
          have f90 := (gr_b_0_167 hI82)
          have f91 := (gr_b_0_161 hI82)
          have f92 := (gr_b_0_160 hI82)
          have t93 := FI82 0 168 rfl
          have t94 := FI82 0 169 rfl
          have t95 := FI82 0 167 rfl
          have t96 := FI82 0 143 rfl
          have t97 := FI82 19 (Int.toNat t) rfl
          have L233 : ∀ (n : Nat) (I98 : gr_I) (J99 : gr_J) (v10_100 : Int), (400001 - I98 0 161).toNat < n → gr_Inv I98 → gr_fr [157, 158, 160, 161] [87, 88, 89, 90, 92, 93, 94, 95, 96, 97, 98, 100, 101, 103, 104] I I98 → gr_fj [157, 158, 160, 161] [87, 88, 89, 90, 92, 93, 94, 95, 96, 97, 98, 100, 101, 103, 104] J J99 → ((0 ≤ a1 ∧ a1 ≤ 6) ∧ (0 ≤ a2 ∧ a2 ≤ 24) ∧ (0 ≤ v5_73 ∧ v5_73 ≤ 3) ∧ (0 ≤ v6_73 ∧ v6_73 ≤ 16777215) ∧ (0 ≤ v7_73 ∧ v7_73 ≤ 31) ∧ (0 ≤ v8_73 ∧ v8_73 ≤ 24) ∧ (0 ≤ v9_84 ∧ v9_84 ≤ 24) ∧ ((-1) ≤ v10_100 ∧ v10_100 ≤ 2999) ∧ (I 0 161 ≤ I98 0 161) ∧ (I98 0 160 = 0 → I98 0 161 ≤ 400000) ∧ (v10_100 < I98 0 157) ∧ (v9_84 ≤ v8_73) ∧ (v5_73 = -1 - I 43 (Int.toNat (6 * I 0 167 + a1))) ∧ (v7_73 = I 7 (Int.toNat (4 * I 41 (Int.toNat (I 0 167)) - 1 - I 43 (Int.toNat (6 * I 0 167 + a1))))) ∧ (v8_73 = I 0 169 - (I 42 (Int.toNat (I 0 167)) - a1 - 1)) ∧ (a1 < I 42 (Int.toNat (I 0 167)) ∧ I 42 (Int.toNat (I 0 167)) ≤ 6)) → (gr_FO t o I98) → (gr_XT I I98) → (gr_IS a1 I I98) → (gr_T3 v7_73 a2 v9_84 v10_100 I98) → gv_X (gr_E ws0 tb (3 + nr) (yX13_match, cX13_match, 12, none) kX13_match) (gv_Q cX13_match none (gr_sh ++ ext) (fun r h' => (∃ (I' : gr_I) (J' : gr_J), h' = gr_h I' J' ∧ gr_Inv I' ∧ gr_fr [157, 158, 160, 161] [87, 88, 89, 90, 92, 93, 94, 95, 96, 97, 98, 100, 101, 103, 104] I I' ∧ gr_fj [157, 158, 160, 161] [87, 88, 89, 90, 92, 93, 94, 95, 96, 97, 98, 100, 101, 103, 104] J J' ∧ r = none ∧ (gr_FO t o I') ∧ (gr_XT I I') ∧ (gr_IS a1 I I') ∧ (I 0 161 ≤ I' 0 161) ∧ (I' 0 160 = 0 → I' 0 161 ≤ 400000)))) (233, [(0, .inr (.inr (some 0))), (1, .inl a1), (2, .inl a2), (5, .inl v5_73), (6, .inl v6_73), (7, .inl v7_73), (8, .inl v8_73), (9, .inl v9_84), (10, .inl v10_100)], [], gr_sh ++ ext, gr_h I98 J99) := by
            intro n
            induction n with
            | zero => intro I98 J99 v10_100 hn; exact gz_m 44 (by omega)
            | succ n ih233 =>
              intro I98 J99 v10_100 hn hI98 FI98 FJ99 m_100 e0_100 e1_100 e2_100 e3_100
              clear ha1_84 ha2_84 hv5_73_84 hv6_73_84 hv7_73_84 hv8_73_84 hv9_84 e3_84 e4_84 e5_84 e6_84 e7_84 e8_84 f85 f86 f87 f88 f89 f90 f91 f92 t93 t94 t95 t96 t97
              obtain ⟨ha1_100, ha2_100, hv5_73_100, hv6_73_100, hv7_73_100, hv8_73_100, hv9_84_100, hv10_100, e4_100, e5_100, e6_100, e7_100, e8_100, e9_100, e10_100, e11_100⟩ := m_100
              have f101 := (gr_b_0_157 hI98)
              have f102 := (gr_b_0_143 hI98)
              have f103 := (gr_b_0_158 hI98)
              have f104 := (gr_b_0_168 hI98)
              have f105 := (gr_b_0_169 hI98)
              have f106 := (gr_b_0_167 hI98)
              have f107 := (gr_b_0_161 hI98)
              have f108 := (gr_b_0_160 hI98)
              have t109 := FI98 0 168 rfl
              have t110 := FI98 0 169 rfl
              have t111 := FI98 0 167 rfl
              have t112 := FI98 0 143 rfl
              have t113 := FI98 19 (Int.toNat t) rfl
              have L319 : ∀ (I114 : gr_I) (J115 : gr_J) , gr_Inv I114 → gr_fr [157, 158, 160, 161] [87, 88, 89, 90, 92, 93, 94, 95, 96, 97, 98, 100, 101, 103, 104] I I114 → gr_fj [157, 158, 160, 161] [87, 88, 89, 90, 92, 93, 94, 95, 96, 97, 98, 100, 101, 103, 104] J J115 → ((0 ≤ a1 ∧ a1 ≤ 6) ∧ (0 ≤ a2 ∧ a2 ≤ 24) ∧ (0 ≤ v5_73 ∧ v5_73 ≤ 3) ∧ (0 ≤ v6_73 ∧ v6_73 ≤ 16777215) ∧ (0 ≤ v7_73 ∧ v7_73 ≤ 31) ∧ (0 ≤ v8_73 ∧ v8_73 ≤ 24) ∧ (0 ≤ v9_84 ∧ v9_84 ≤ 24) ∧ (0 ≤ v10_100 ∧ v10_100 ≤ 2999) ∧ (I 0 161 ≤ I114 0 161) ∧ (I114 0 160 = 0 → I114 0 161 ≤ 400000) ∧ (v10_100 < I114 0 157) ∧ (v9_84 ≤ v8_73) ∧ (0 ≤ v10_100) ∧ (I98 0 161 < I114 0 161) ∧ (v5_73 = -1 - I 43 (Int.toNat (6 * I 0 167 + a1))) ∧ (v7_73 = I 7 (Int.toNat (4 * I 41 (Int.toNat (I 0 167)) - 1 - I 43 (Int.toNat (6 * I 0 167 + a1))))) ∧ (v8_73 = I 0 169 - (I 42 (Int.toNat (I 0 167)) - a1 - 1)) ∧ (a1 < I 42 (Int.toNat (I 0 167)) ∧ I 42 (Int.toNat (I 0 167)) ≤ 6)) → (gr_FO t o I114) → (gr_XT I I114) → (gr_IS a1 I I114) → (gr_T3 v7_73 a2 v9_84 v10_100 I114) → gv_X (gr_E ws0 tb (3 + nr) (yX13_match, cX13_match, 12, none) kX13_match) (gv_Q cX13_match none (gr_sh ++ ext) (fun r h' => (∃ (I' : gr_I) (J' : gr_J), h' = gr_h I' J' ∧ gr_Inv I' ∧ gr_fr [157, 158, 160, 161] [87, 88, 89, 90, 92, 93, 94, 95, 96, 97, 98, 100, 101, 103, 104] I I' ∧ gr_fj [157, 158, 160, 161] [87, 88, 89, 90, 92, 93, 94, 95, 96, 97, 98, 100, 101, 103, 104] J J' ∧ r = none ∧ (gr_FO t o I') ∧ (gr_XT I I') ∧ (gr_IS a1 I I') ∧ (I 0 161 ≤ I' 0 161) ∧ (I' 0 160 = 0 → I' 0 161 ≤ 400000)))) (319, [(0, .inr (.inr (some 0))), (1, .inl a1), (2, .inl a2), (5, .inl v5_73), (6, .inl v6_73), (7, .inl v7_73), (8, .inl v8_73), (9, .inl v9_84), (10, .inl v10_100)], [], gr_sh ++ ext, gr_h I114 J115) := by
                intro I114 J115 hI114 FI114 FJ115 m_116 e0_116 e1_116 e2_116 e3_116
                clear ha1_100 ha2_100 hv5_73_100 hv6_73_100 hv7_73_100 hv8_73_100 hv9_84_100 hv10_100 e4_100 e5_100 e6_100 e7_100 e8_100 e9_100 e10_100 e11_100 f101 f102 f103 f104 f105 f106 f107 f108 t109 t110 t111 t112 t113
                obtain ⟨ha1_116, ha2_116, hv5_73_116, hv6_73_116, hv7_73_116, hv8_73_116, hv9_84_116, hv10_100_116, e4_116, e5_116, e6_116, e7_116, e8_116, e9_116, e10_116, e11_116, e12_116, e13_116⟩ := m_116
                have f117 := (gr_b_0_157 hI114)
                have f118 := (gr_b_0_143 hI114)
                have f119 := (gr_b_0_158 hI114)
                have f120 := (gr_b_0_168 hI114)
                have f121 := (gr_b_0_169 hI114)
                have f122 := (gr_b_0_167 hI114)
                have f123 := (gr_b_0_161 hI114)
                have f124 := (gr_b_0_160 hI114)
                have t125 := FI114 0 168 rfl
                have t126 := FI114 0 169 rfl
                have t127 := FI114 0 167 rfl
                have t128 := FI114 0 143 rfl
                have t129 := FI114 19 (Int.toNat t) rfl
                have f130 := (gr_b_90 hI114 (Int.toNat v10_100))
                refine gv_run 4 true hD (pc' := 326) (lv' := [(0, .inr (.inr (some 0))), (1, .inl a1), (2, .inl a2), (5, .inl v5_73), (6, .inl v6_73), (7, .inl v7_73), (8, .inl v8_73), (9, .inl v9_84), (10, .inl v10_100)]) (st' := [.inl (I114 90 (Int.toNat v10_100))]) (h' := gr_h I114 J115) (C := ((((True ∧ True) ∧ True) ∧ True) ∧ (0 ≤ v10_100 ∧ v10_100 < ((3000 : Nat) : Int)))) rfl ⟨⟨⟨⟨trivial, trivial⟩, trivial⟩, trivial⟩, ⟨by exact gz_m 45 (by omega), by exact gz_m 46 (by omega)⟩⟩ ?_
                have t131 := gr_NX_b e0_116.1 (x := v10_100) (by exact gz_m 47 (by omega)) (by exact gz_m 48 (by omega))
                refine gv_run 2 true hD (pc' := 233) (lv' := [(10, .inl (I114 90 (Int.toNat v10_100))), (0, .inr (.inr (some 0))), (1, .inl a1), (2, .inl a2), (5, .inl v5_73), (6, .inl v6_73), (7, .inl v7_73), (8, .inl v8_73), (9, .inl v9_84)]) (st' := []) (h' := gr_h I114 J115) (C := ((True ∧ True) ∧ True)) rfl ⟨⟨trivial, trivial⟩, trivial⟩ ?_
                refine gv_pick [1, 2, 3, 4, 5, 6, 7, 8, 0] rfl ?_
                exact ih233 I114 J115 ((I114 90 (Int.toNat v10_100))) (by exact gz_m 49 (by omega)) hI114 FI114 FJ115 (by exact gz_m 50 (by omega)) e0_116 e1_116 e2_116 (gr_LS_nx e0_116.2.2.2.1 e3_116 (by exact gz_m 51 (by omega)) (by exact gz_m 52 (by omega)))
              have L331 : ((0 ≤ a1 ∧ a1 ≤ 6) ∧ (0 ≤ a2 ∧ a2 ≤ 24) ∧ (0 ≤ v5_73 ∧ v5_73 ≤ 3) ∧ (0 ≤ v6_73 ∧ v6_73 ≤ 16777215) ∧ (0 ≤ v7_73 ∧ v7_73 ≤ 31) ∧ (0 ≤ v8_73 ∧ v8_73 ≤ 24) ∧ (0 ≤ v9_84 ∧ v9_84 ≤ 24) ∧ (I 0 161 ≤ I98 0 161) ∧ (I98 0 160 = 0 → I98 0 161 ≤ 400000) ∧ (v9_84 ≤ v8_73) ∧ (v5_73 = -1 - I 43 (Int.toNat (6 * I 0 167 + a1))) ∧ (v7_73 = I 7 (Int.toNat (4 * I 41 (Int.toNat (I 0 167)) - 1 - I 43 (Int.toNat (6 * I 0 167 + a1))))) ∧ (v8_73 = I 0 169 - (I 42 (Int.toNat (I 0 167)) - a1 - 1)) ∧ (a1 < I 42 (Int.toNat (I 0 167)) ∧ I 42 (Int.toNat (I 0 167)) ≤ 6)) → (gr_FO t o I98) → (gr_XT I I98) → (gr_IS a1 I I98) → gv_X (gr_E ws0 tb (3 + nr) (yX13_match, cX13_match, 12, none) kX13_match) (gv_Q cX13_match none (gr_sh ++ ext) (fun r h' => (∃ (I' : gr_I) (J' : gr_J), h' = gr_h I' J' ∧ gr_Inv I' ∧ gr_fr [157, 158, 160, 161] [87, 88, 89, 90, 92, 93, 94, 95, 96, 97, 98, 100, 101, 103, 104] I I' ∧ gr_fj [157, 158, 160, 161] [87, 88, 89, 90, 92, 93, 94, 95, 96, 97, 98, 100, 101, 103, 104] J J' ∧ r = none ∧ (gr_FO t o I') ∧ (gr_XT I I') ∧ (gr_IS a1 I I') ∧ (I 0 161 ≤ I' 0 161) ∧ (I' 0 160 = 0 → I' 0 161 ≤ 400000)))) (331, [(0, .inr (.inr (some 0))), (1, .inl a1), (2, .inl a2), (5, .inl v5_73), (6, .inl v6_73), (7, .inl v7_73), (8, .inl v8_73), (9, .inl v9_84)], [], gr_sh ++ ext, gr_h I98 J99) := by
                intro m_132 e0_132 e1_132 e2_132
                obtain ⟨ha1_132, ha2_132, hv5_73_132, hv6_73_132, hv7_73_132, hv8_73_132, hv9_84_132, e3_132, e4_132, e5_132, e6_132, e7_132, e8_132, e9_132⟩ := m_132
                have f133 := (gr_b_0_157 hI98)
                have f134 := (gr_b_0_143 hI98)
                have f135 := (gr_b_0_158 hI98)
                have f136 := (gr_b_0_168 hI98)
                have f137 := (gr_b_0_169 hI98)
                have f138 := (gr_b_0_167 hI98)
                have f139 := (gr_b_0_161 hI98)
                have f140 := (gr_b_0_160 hI98)
                have t141 := FI98 0 168 rfl
                have t142 := FI98 0 169 rfl
                have t143 := FI98 0 167 rfl
                have t144 := FI98 0 143 rfl
                have t145 := FI98 19 (Int.toNat t) rfl
                refine gv_run 2 true hD (pc' := 206) (lv' := [(9, .inl (v9_84 + 1)), (0, .inr (.inr (some 0))), (1, .inl a1), (2, .inl a2), (5, .inl v5_73), (6, .inl v6_73), (7, .inl v7_73), (8, .inl v8_73)]) (st' := []) (h' := gr_h I98 J99) (C := ((True ∧ True) ∧ True)) rfl ⟨⟨trivial, trivial⟩, trivial⟩ ?_
                refine gv_pick [1, 2, 3, 4, 5, 6, 7, 0] rfl ?_
                exact ih206 I98 J99 (v9_84 + 1) (by exact gz_m 53 (by omega)) hI98 FI98 FJ99 (by exact gz_m 54 (by omega)) e0_132 e1_132 e2_132
              refine gv_run 1 true hD (pc' := 235) (lv' := [(0, .inr (.inr (some 0))), (1, .inl a1), (2, .inl a2), (5, .inl v5_73), (6, .inl v6_73), (7, .inl v7_73), (8, .inl v8_73), (9, .inl v9_84), (10, .inl v10_100)]) (st' := [.inl v10_100]) (h' := gr_h I98 J99) (C := (True ∧ True)) rfl ⟨trivial, trivial⟩ ?_
              refine gv_if_lt (t := 331) hD rfl rfl ⟨by exact gz_m 55 (by omega), by exact gz_m 56 (by omega)⟩ (fun c146 => ?_) (fun c146 => ?_)
              · refine gv_pick [0, 1, 2, 3, 4, 5, 6, 7] rfl ?_
                exact L331 (by exact gz_m 57 (by omega)) e0_100 e1_100 e2_100
              · have f147 := (gr_b_0_160 hI98)
                refine gv_run 2 true hD (pc' := 242) (lv' := [(0, .inr (.inr (some 0))), (1, .inl a1), (2, .inl a2), (5, .inl v5_73), (6, .inl v6_73), (7, .inl v7_73), (8, .inl v8_73), (9, .inl v9_84), (10, .inl v10_100)]) (st' := [.inl (I98 0 160)]) (h' := gr_h I98 J99) (C := ((True ∧ True) ∧ True)) rfl ⟨⟨trivial, trivial⟩, trivial⟩ ?_
                refine gv_if_ne (t := 331) hD rfl rfl ⟨by exact gz_m 58 (by omega), by exact gz_m 59 (by omega)⟩ (fun c148 => ?_) (fun c148 => ?_)
                · refine gv_pick [0, 1, 2, 3, 4, 5, 6, 7] rfl ?_
                  exact L331 (by exact gz_m 60 (by omega)) e0_100 e1_100 e2_100
                · have f149 := (gr_b_0_161 hI98)
                  refine gv_run 5 true hD (pc' := 252) (lv' := [(0, .inr (.inr (some 0))), (1, .inl a1), (2, .inl a2), (5, .inl v5_73), (6, .inl v6_73), (7, .inl v7_73), (8, .inl v8_73), (9, .inl v9_84), (10, .inl v10_100)]) (st' := [.inl ((I98 0 161) + 1), .inr (.inr (some 0))]) (h' := gr_h I98 J99) (C := (((((True ∧ True) ∧ True) ∧ True) ∧ True) ∧ True)) rfl ⟨⟨⟨⟨⟨trivial, trivial⟩, trivial⟩, trivial⟩, trivial⟩, trivial⟩ ?_
                  refine gv_run 1 true hD (pc' := 255) (lv' := [(0, .inr (.inr (some 0))), (1, .inl a1), (2, .inl a2), (5, .inl v5_73), (6, .inl v6_73), (7, .inl v7_73), (8, .inl v8_73), (9, .inl v9_84), (10, .inl v10_100)]) (st' := []) (h' := gz_up (gr_h I98 J99) 0 161 (.inl (((I98 0 161) + 1)))) (C := (True ∧ True)) rfl ⟨trivial, trivial⟩ ?_
                  refine gr_st hI98 FI98 rfl rfl ⟨⟨by show 0 ≤ _; exact gz_m 61 (by omega), by show _ ≤ 400001; exact gz_m 62 (by omega)⟩, trivial⟩ (fun I150 hI150 FI150 q151 p151 => ?_)
                  have t152 := p151 0 157 (by decide)
                  have t153 := p151 0 143 (by decide)
                  have t154 := p151 0 158 (by decide)
                  have t155 := p151 0 168 (by decide)
                  have t156 := p151 0 169 (by decide)
                  have t157 := p151 0 167 (by decide)
                  have t158 := p151 0 160 (by decide)
                  have f159 := (gr_b_0_157 hI150)
                  have f160 := (gr_b_0_143 hI150)
                  have f161 := (gr_b_0_158 hI150)
                  have f162 := (gr_b_0_168 hI150)
                  have f163 := (gr_b_0_169 hI150)
                  have f164 := (gr_b_0_167 hI150)
                  have f165 := (gr_b_0_161 hI150)
                  have f166 := (gr_b_0_160 hI150)
                  have t167 := FI150 0 168 rfl
                  have t168 := FI150 0 169 rfl
                  have t169 := FI150 0 167 rfl
                  have t170 := FI150 0 143 rfl
                  have t171 := FI150 19 (Int.toNat t) rfl
                  have f172 := (gr_b_0_161 hI150)
                  refine gv_run 3 true hD (pc' := 262) (lv' := [(0, .inr (.inr (some 0))), (1, .inl a1), (2, .inl a2), (5, .inl v5_73), (6, .inl v6_73), (7, .inl v7_73), (8, .inl v8_73), (9, .inl v9_84), (10, .inl v10_100)]) (st' := [.inl 400000, .inl (I150 0 161)]) (h' := gr_h I150 J99) (C := (((True ∧ True) ∧ True) ∧ True)) rfl ⟨⟨⟨trivial, trivial⟩, trivial⟩, trivial⟩ ?_
                  refine gv_icmp_le (t := 271) hD rfl rfl ⟨⟨by exact gz_m 63 (by omega), by exact gz_m 64 (by omega)⟩, ⟨by exact gz_m 65 (by omega), by exact gz_m 66 (by omega)⟩⟩ (fun c173 => ?_) (fun c173 => ?_)
                  · have f174 := (gr_b_89 hI150 (Int.toNat v10_100))
                    refine gv_run 4 true hD (pc' := 278) (lv' := [(0, .inr (.inr (some 0))), (1, .inl a1), (2, .inl a2), (5, .inl v5_73), (6, .inl v6_73), (7, .inl v7_73), (8, .inl v8_73), (9, .inl v9_84), (10, .inl v10_100)]) (st' := [.inl (I150 89 (Int.toNat v10_100))]) (h' := gr_h I150 J99) (C := ((((True ∧ True) ∧ True) ∧ True) ∧ (0 ≤ v10_100 ∧ v10_100 < ((3000 : Nat) : Int)))) rfl ⟨⟨⟨⟨trivial, trivial⟩, trivial⟩, trivial⟩, ⟨by exact gz_m 67 (by omega), by exact gz_m 68 (by omega)⟩⟩ ?_
                    refine gv_run 1 true hD (pc' := 280) (lv' := [(0, .inr (.inr (some 0))), (1, .inl a1), (2, .inl a2), (5, .inl v5_73), (6, .inl v6_73), (7, .inl v7_73), (8, .inl v8_73), (9, .inl v9_84), (10, .inl v10_100)]) (st' := [.inl v6_73, .inl (I150 89 (Int.toNat v10_100))]) (h' := gr_h I150 J99) (C := (True ∧ True)) rfl ⟨trivial, trivial⟩ ?_
                    obtain ⟨r175, h175, E175, P175⟩ := r_fitted (ws0 := ws0) (tb := tb) hws htb ext I150 J99 hI150 ((I150 89 (Int.toNat v10_100))) v6_73 ⟨by exact gz_m 69 (by omega), by exact gz_m 70 (by omega)⟩ ⟨by exact gz_m 71 (by omega), by exact gz_m 72 (by omega)⟩ 
                    obtain ⟨rfl, ⟨z175, rfl, q175⟩⟩ := P175
                    refine gv_callS hD rfl (As := [.inl (I150 89 (Int.toNat v10_100)), .inl v6_73]) (st := []) rfl (gr_lS hws rfl) (Nat.le_of_ble_eq_true rfl) (gz_Ev_mono (d := 1) (by exact gz_m 73 (by omega)) E175) ?_
                    show gv_X _ _ (283, [(0, .inr (.inr (some 0))), (1, .inl a1), (2, .inl a2), (5, .inl v5_73), (6, .inl v6_73), (7, .inl v7_73), (8, .inl v8_73), (9, .inl v9_84), (10, .inl v10_100)], [.inl z175], gr_sh ++ ext, gr_h I150 J99)
                    refine gv_run 2 true hD (pc' := 287) (lv' := [(11, .inl z175), (0, .inr (.inr (some 0))), (1, .inl a1), (2, .inl a2), (5, .inl v5_73), (6, .inl v6_73), (7, .inl v7_73), (8, .inl v8_73), (9, .inl v9_84), (10, .inl v10_100)]) (st' := [.inl z175]) (h' := gr_h I150 J99) (C := ((True ∧ True) ∧ True)) rfl ⟨⟨trivial, trivial⟩, trivial⟩ ?_
                    refine gv_if_ge (t := 293) hD rfl rfl ⟨by exact gz_m 74 (by omega), by exact gz_m 75 (by omega)⟩ (fun c176 => ?_) (fun c176 => ?_)
                    · refine gv_run 4 true hD (pc' := 301) (lv' := [(11, .inl z175), (0, .inr (.inr (some 0))), (1, .inl a1), (2, .inl a2), (5, .inl v5_73), (6, .inl v6_73), (7, .inl v7_73), (8, .inl v8_73), (9, .inl v9_84), (10, .inl v10_100)]) (st' := [.inl z175, .inl v5_73, .inr (.inr (some 100))]) (h' := gr_h I150 J99) (C := ((((True ∧ True) ∧ True) ∧ True) ∧ True)) rfl ⟨⟨⟨⟨trivial, trivial⟩, trivial⟩, trivial⟩, trivial⟩ ?_
                      refine gv_run 1 true hD (pc' := 302) (lv' := [(11, .inl z175), (0, .inr (.inr (some 0))), (1, .inl a1), (2, .inl a2), (5, .inl v5_73), (6, .inl v6_73), (7, .inl v7_73), (8, .inl v8_73), (9, .inl v9_84), (10, .inl v10_100)]) (st' := []) (h' := gz_up (gr_h I150 J99) 100 (Int.toNat v5_73) (.inl z175)) (C := (True ∧ (0 ≤ v5_73 ∧ v5_73 < ((4 : Nat) : Int)))) rfl ⟨trivial, ⟨by exact gz_m 76 (by omega), by exact gz_m 77 (by omega)⟩⟩ ?_
                      refine gr_st hI150 FI150 rfl rfl ⟨⟨by show 0 ≤ _; exact gz_m 78 (by omega), by show _ ≤ 16777215; exact gz_m 79 (by omega)⟩, trivial⟩ (fun I177 hI177 FI177 q178 p178 => ?_)
                      have t179 := p178 0 157 (fun q => absurd q.1 (by decide))
                      have t180 := p178 0 143 (fun q => absurd q.1 (by decide))
                      have t181 := p178 0 158 (fun q => absurd q.1 (by decide))
                      have t182 := p178 0 168 (fun q => absurd q.1 (by decide))
                      have t183 := p178 0 169 (fun q => absurd q.1 (by decide))
                      have t184 := p178 0 167 (fun q => absurd q.1 (by decide))
                      have t185 := p178 0 161 (fun q => absurd q.1 (by decide))
                      have t186 := p178 0 160 (fun q => absurd q.1 (by decide))
                      have f187 := (gr_b_0_157 hI177)
                      have f188 := (gr_b_0_143 hI177)
                      have f189 := (gr_b_0_158 hI177)
                      have f190 := (gr_b_0_168 hI177)
                      have f191 := (gr_b_0_169 hI177)
                      have f192 := (gr_b_0_167 hI177)
                      have f193 := (gr_b_0_161 hI177)
                      have f194 := (gr_b_0_160 hI177)
                      have t195 := FI177 0 168 rfl
                      have t196 := FI177 0 169 rfl
                      have t197 := FI177 0 167 rfl
                      have t198 := FI177 0 143 rfl
                      have t199 := FI177 19 (Int.toNat t) rfl
                      refine gv_run 4 true hD (pc' := 309) (lv' := [(11, .inl z175), (0, .inr (.inr (some 0))), (1, .inl a1), (2, .inl a2), (5, .inl v5_73), (6, .inl v6_73), (7, .inl v7_73), (8, .inl v8_73), (9, .inl v9_84), (10, .inl v10_100)]) (st' := [.inl v10_100, .inl a1, .inr (.inr (some 103))]) (h' := gr_h I177 J99) (C := ((((True ∧ True) ∧ True) ∧ True) ∧ True)) rfl ⟨⟨⟨⟨trivial, trivial⟩, trivial⟩, trivial⟩, trivial⟩ ?_
                      refine gv_run 1 true hD (pc' := 310) (lv' := [(11, .inl z175), (0, .inr (.inr (some 0))), (1, .inl a1), (2, .inl a2), (5, .inl v5_73), (6, .inl v6_73), (7, .inl v7_73), (8, .inl v8_73), (9, .inl v9_84), (10, .inl v10_100)]) (st' := []) (h' := gz_up (gr_h I177 J99) 103 (Int.toNat a1) (.inl v10_100)) (C := (True ∧ (0 ≤ a1 ∧ a1 < ((6 : Nat) : Int)))) rfl ⟨trivial, ⟨by exact gz_m 80 (by omega), by exact gz_m 81 (by omega)⟩⟩ ?_
                      refine gr_st hI177 FI177 rfl rfl ⟨⟨by show 0 ≤ _; exact gz_m 82 (by omega), by show _ ≤ 2999; exact gz_m 83 (by omega)⟩, trivial⟩ (fun I200 hI200 FI200 q201 p201 => ?_)
                      have t202 := p201 0 157 (fun q => absurd q.1 (by decide))
                      have t203 := p201 0 143 (fun q => absurd q.1 (by decide))
                      have t204 := p201 0 158 (fun q => absurd q.1 (by decide))
                      have t205 := p201 0 168 (fun q => absurd q.1 (by decide))
                      have t206 := p201 0 169 (fun q => absurd q.1 (by decide))
                      have t207 := p201 0 167 (fun q => absurd q.1 (by decide))
                      have t208 := p201 0 161 (fun q => absurd q.1 (by decide))
                      have t209 := p201 0 160 (fun q => absurd q.1 (by decide))
                      have f210 := (gr_b_0_157 hI200)
                      have f211 := (gr_b_0_143 hI200)
                      have f212 := (gr_b_0_158 hI200)
                      have f213 := (gr_b_0_168 hI200)
                      have f214 := (gr_b_0_169 hI200)
                      have f215 := (gr_b_0_167 hI200)
                      have f216 := (gr_b_0_161 hI200)
                      have f217 := (gr_b_0_160 hI200)
                      have t218 := FI200 0 168 rfl
                      have t219 := FI200 0 169 rfl
                      have t220 := FI200 0 167 rfl
                      have t221 := FI200 0 143 rfl
                      have t222 := FI200 19 (Int.toNat t) rfl
                      refine gv_run 5 true hD (pc' := 316) (lv' := [(11, .inl z175), (0, .inr (.inr (some 0))), (1, .inl a1), (2, .inl a2), (5, .inl v5_73), (6, .inl v6_73), (7, .inl v7_73), (8, .inl v8_73), (9, .inl v9_84), (10, .inl v10_100)]) (st' := [.inl v9_84, .inl (a1 + 1), .inr (.inr (some 0))]) (h' := gr_h I200 J99) (C := (((((True ∧ True) ∧ True) ∧ True) ∧ True) ∧ True)) rfl ⟨⟨⟨⟨⟨trivial, trivial⟩, trivial⟩, trivial⟩, trivial⟩, trivial⟩ ?_
                      obtain ⟨r223, h223, E223, P223⟩ := ihR I200 J99 hI200 (a1 + 1) v9_84 ⟨by exact gz_m 84 (by omega), by exact gz_m 85 (by omega)⟩ ⟨by exact gz_m 86 (by omega), by exact gz_m 87 (by omega)⟩ (gr_GR_F x0 FI200) (gr_FO_fr (gr_FO_fr (gr_FO_fr e0_100 hI98 (fun k => p151 87 k (fun q => absurd q.1 (by decide))) (fun k => p151 88 k (fun q => absurd q.1 (by decide))) (fun k => p151 104 k (fun q => absurd q.1 (by decide))) (fun k => p151 90 k (fun q => absurd q.1 (by decide))) (fun k => p151 93 k (fun q => absurd q.1 (by decide))) (fun k => p151 92 k (fun q => absurd q.1 (by decide))) (fun k => p151 94 k (fun q => absurd q.1 (by decide))) (fun k => p151 95 k (fun q => absurd q.1 (by decide))) (fun k => p151 97 k (fun q => absurd q.1 (by decide))) (fun k => p151 98 k (fun q => absurd q.1 (by decide))) (fun k => p151 19 k (fun q => absurd q.1 (by decide))) (fun k => p151 18 k (fun q => absurd q.1 (by decide))) (fun k => p151 41 k (fun q => absurd q.1 (by decide))) (fun k => p151 6 k (fun q => absurd q.1 (by decide))) (by exact gz_m 88 (by omega)) (by exact gz_m 89 (by omega)) (by exact gz_m 90 (by omega))) hI150 (fun k => p178 87 k (fun q => absurd q.1 (by decide))) (fun k => p178 88 k (fun q => absurd q.1 (by decide))) (fun k => p178 104 k (fun q => absurd q.1 (by decide))) (fun k => p178 90 k (fun q => absurd q.1 (by decide))) (fun k => p178 93 k (fun q => absurd q.1 (by decide))) (fun k => p178 92 k (fun q => absurd q.1 (by decide))) (fun k => p178 94 k (fun q => absurd q.1 (by decide))) (fun k => p178 95 k (fun q => absurd q.1 (by decide))) (fun k => p178 97 k (fun q => absurd q.1 (by decide))) (fun k => p178 98 k (fun q => absurd q.1 (by decide))) (fun k => p178 19 k (fun q => absurd q.1 (by decide))) (fun k => p178 18 k (fun q => absurd q.1 (by decide))) (fun k => p178 41 k (fun q => absurd q.1 (by decide))) (fun k => p178 6 k (fun q => absurd q.1 (by decide))) (by exact gz_m 91 (by omega)) (by exact gz_m 92 (by omega)) (by exact gz_m 93 (by omega))) hI177 (fun k => p201 87 k (fun q => absurd q.1 (by decide))) (fun k => p201 88 k (fun q => absurd q.1 (by decide))) (fun k => p201 104 k (fun q => absurd q.1 (by decide))) (fun k => p201 90 k (fun q => absurd q.1 (by decide))) (fun k => p201 93 k (fun q => absurd q.1 (by decide))) (fun k => p201 92 k (fun q => absurd q.1 (by decide))) (fun k => p201 94 k (fun q => absurd q.1 (by decide))) (fun k => p201 95 k (fun q => absurd q.1 (by decide))) (fun k => p201 97 k (fun q => absurd q.1 (by decide))) (fun k => p201 98 k (fun q => absurd q.1 (by decide))) (fun k => p201 19 k (fun q => absurd q.1 (by decide))) (fun k => p201 18 k (fun q => absurd q.1 (by decide))) (fun k => p201 41 k (fun q => absurd q.1 (by decide))) (fun k => p201 6 k (fun q => absurd q.1 (by decide))) (by exact gz_m 94 (by omega)) (by exact gz_m 95 (by omega)) (by exact gz_m 96 (by omega))) (gr_IT_a (kk := v7_73) (i := (Int.toNat a1)) (gr_IT_x x2 (gr_XT_tr (gr_XT_tr e1_100 (gr_XT_sm (fun k => p151 87 k (fun q => absurd q.1 (by decide))) (fun k => p151 88 k (fun q => absurd q.1 (by decide))) (fun k => p151 104 k (fun q => absurd q.1 (by decide))) (fun k => p151 94 k (fun q => absurd q.1 (by decide))) (fun k => p151 95 k (fun q => absurd q.1 (by decide))) (fun k => p151 97 k (fun q => absurd q.1 (by decide))) (fun k => p151 98 k (fun q => absurd q.1 (by decide))) (by exact gz_m 97 (by omega)) (by exact gz_m 98 (by omega)))) (gr_XT_sm (fun k => p178 87 k (fun q => absurd q.1 (by decide))) (fun k => p178 88 k (fun q => absurd q.1 (by decide))) (fun k => p178 104 k (fun q => absurd q.1 (by decide))) (fun k => p178 94 k (fun q => absurd q.1 (by decide))) (fun k => p178 95 k (fun q => absurd q.1 (by decide))) (fun k => p178 97 k (fun q => absurd q.1 (by decide))) (fun k => p178 98 k (fun q => absurd q.1 (by decide))) (by exact gz_m 99 (by omega)) (by exact gz_m 100 (by omega)))) (gr_IS_tr (gr_IS_tr e2_100 (fun k _ => p151 103 k (fun q => absurd q.1 (by decide)))) (fun k _ => p178 103 k (fun q => absurd q.1 (by decide)))) (fun k => FI177 43 k rfl) (fun k => FI177 41 k rfl) (fun k => FI177 7 k rfl) (FI177 0 168 rfl) (FI177 0 167 rfl)) (by exact gz_m 101 (by omega)) (by exact gz_m 102 (by omega)) (by exact gz_m 103 (by omega)) p201 q201 ⟨by exact gz_m 104 (by omega), by exact gz_m 105 (by omega)⟩ (gr_T3_x e3_100 (gr_XT_tr (gr_XT_rf _) (gr_XT_tr (gr_XT_tr (gr_XT_rf _) (gr_XT_sm (fun k => p151 87 k (fun q => absurd q.1 (by decide))) (fun k => p151 88 k (fun q => absurd q.1 (by decide))) (fun k => p151 104 k (fun q => absurd q.1 (by decide))) (fun k => p151 94 k (fun q => absurd q.1 (by decide))) (fun k => p151 95 k (fun q => absurd q.1 (by decide))) (fun k => p151 97 k (fun q => absurd q.1 (by decide))) (fun k => p151 98 k (fun q => absurd q.1 (by decide))) (by exact gz_m 106 (by omega)) (by exact gz_m 107 (by omega)))) (gr_XT_sm (fun k => p178 87 k (fun q => absurd q.1 (by decide))) (fun k => p178 88 k (fun q => absurd q.1 (by decide))) (fun k => p178 104 k (fun q => absurd q.1 (by decide))) (fun k => p178 94 k (fun q => absurd q.1 (by decide))) (fun k => p178 95 k (fun q => absurd q.1 (by decide))) (fun k => p178 97 k (fun q => absurd q.1 (by decide))) (fun k => p178 98 k (fun q => absurd q.1 (by decide))) (by exact gz_m 108 (by omega)) (by exact gz_m 109 (by omega))))) (by exact gz_m 110 (by omega))) ((gr_FO_fr (gr_FO_fr e0_100 hI98 (fun k => p151 87 k (fun q => absurd q.1 (by decide))) (fun k => p151 88 k (fun q => absurd q.1 (by decide))) (fun k => p151 104 k (fun q => absurd q.1 (by decide))) (fun k => p151 90 k (fun q => absurd q.1 (by decide))) (fun k => p151 93 k (fun q => absurd q.1 (by decide))) (fun k => p151 92 k (fun q => absurd q.1 (by decide))) (fun k => p151 94 k (fun q => absurd q.1 (by decide))) (fun k => p151 95 k (fun q => absurd q.1 (by decide))) (fun k => p151 97 k (fun q => absurd q.1 (by decide))) (fun k => p151 98 k (fun q => absurd q.1 (by decide))) (fun k => p151 19 k (fun q => absurd q.1 (by decide))) (fun k => p151 18 k (fun q => absurd q.1 (by decide))) (fun k => p151 41 k (fun q => absurd q.1 (by decide))) (fun k => p151 6 k (fun q => absurd q.1 (by decide))) (by exact gz_m 111 (by omega)) (by exact gz_m 112 (by omega)) (by exact gz_m 113 (by omega))) hI150 (fun k => p178 87 k (fun q => absurd q.1 (by decide))) (fun k => p178 88 k (fun q => absurd q.1 (by decide))) (fun k => p178 104 k (fun q => absurd q.1 (by decide))) (fun k => p178 90 k (fun q => absurd q.1 (by decide))) (fun k => p178 93 k (fun q => absurd q.1 (by decide))) (fun k => p178 92 k (fun q => absurd q.1 (by decide))) (fun k => p178 94 k (fun q => absurd q.1 (by decide))) (fun k => p178 95 k (fun q => absurd q.1 (by decide))) (fun k => p178 97 k (fun q => absurd q.1 (by decide))) (fun k => p178 98 k (fun q => absurd q.1 (by decide))) (fun k => p178 19 k (fun q => absurd q.1 (by decide))) (fun k => p178 18 k (fun q => absurd q.1 (by decide))) (fun k => p178 41 k (fun q => absurd q.1 (by decide))) (fun k => p178 6 k (fun q => absurd q.1 (by decide))) (by exact gz_m 114 (by omega)) (by exact gz_m 115 (by omega)) (by exact gz_m 116 (by omega)))).2.2.2.1 (by rw [FI177 0 167 rfl, FI177 43 _ rfl, FI177 41 _ rfl, FI177 7 _ rfl]; exact e9_100)) (by rw [FI200 0 169 rfl, FI200 0 168 rfl, FI200 0 167 rfl, FI200 41 _ rfl, FI200 8 _ rfl]; exact x3) (by exact gz_m 117 (by omega)) (by exact gz_m 118 (by omega)) (by exact gz_m 119 (by omega)) (by exact gz_m 120 (by omega)) (by exact gz_m 121 (by omega)) (by rw [FI200 0 167 rfl, FI200 42 _ rfl]; exact gz_m 122 (by omega)) (by exact gz_m 123 (by omega)) (by exact gz_m 124 (by omega)) (by exact gz_m 125 (by omega))
                      obtain ⟨I224, J225, rfl, hI224, g223, k223, ⟨rfl, q223⟩⟩ := P223
                      have FI224 := gr_frt FI200 g223 rfl rfl
                      have FJ225 := gr_fjt FJ99 k223 rfl rfl
                      have t226 := g223 0 143 rfl
                      have t227 := g223 0 168 rfl
                      have t228 := g223 0 169 rfl
                      have t229 := g223 0 167 rfl
                      have f230 := (gr_b_0_157 hI224)
                      have f231 := (gr_b_0_143 hI224)
                      have f232 := (gr_b_0_158 hI224)
                      have f233 := (gr_b_0_168 hI224)
                      have f234 := (gr_b_0_169 hI224)
                      have f235 := (gr_b_0_167 hI224)
                      have f236 := (gr_b_0_161 hI224)
                      have f237 := (gr_b_0_160 hI224)
                      have t238 := q223.2.1.1
                      refine gv_callV hD rfl (As := [.inl (a1 + 1), .inl v9_84]) (st := []) rfl (by decide) rfl rfl (gr_lV hws rfl) (Nat.le_of_ble_eq_true rfl) (gz_Ev_mono (d := (3 + nr)) (Nat.le_refl _) E223) ?_
                      show gv_X _ _ (319, [(11, .inl z175), (0, .inr (.inr (some 0))), (1, .inl a1), (2, .inl a2), (5, .inl v5_73), (6, .inl v6_73), (7, .inl v7_73), (8, .inl v8_73), (9, .inl v9_84), (10, .inl v10_100)], [], gr_sh ++ ext, gr_h I224 J225)
                      refine gv_pick [1, 2, 3, 4, 5, 6, 7, 8, 9] rfl ?_
                      exact L319 I224 J225 hI224 FI224 FJ225 (by exact gz_m 126 (by omega)) q223.1 (gr_XT_tr (gr_XT_tr (gr_XT_tr (gr_XT_tr e1_100 (gr_XT_sm (fun k => p151 87 k (fun q => absurd q.1 (by decide))) (fun k => p151 88 k (fun q => absurd q.1 (by decide))) (fun k => p151 104 k (fun q => absurd q.1 (by decide))) (fun k => p151 94 k (fun q => absurd q.1 (by decide))) (fun k => p151 95 k (fun q => absurd q.1 (by decide))) (fun k => p151 97 k (fun q => absurd q.1 (by decide))) (fun k => p151 98 k (fun q => absurd q.1 (by decide))) (by exact gz_m 127 (by omega)) (by exact gz_m 128 (by omega)))) (gr_XT_sm (fun k => p178 87 k (fun q => absurd q.1 (by decide))) (fun k => p178 88 k (fun q => absurd q.1 (by decide))) (fun k => p178 104 k (fun q => absurd q.1 (by decide))) (fun k => p178 94 k (fun q => absurd q.1 (by decide))) (fun k => p178 95 k (fun q => absurd q.1 (by decide))) (fun k => p178 97 k (fun q => absurd q.1 (by decide))) (fun k => p178 98 k (fun q => absurd q.1 (by decide))) (by exact gz_m 129 (by omega)) (by exact gz_m 130 (by omega)))) (gr_XT_sm (fun k => p201 87 k (fun q => absurd q.1 (by decide))) (fun k => p201 88 k (fun q => absurd q.1 (by decide))) (fun k => p201 104 k (fun q => absurd q.1 (by decide))) (fun k => p201 94 k (fun q => absurd q.1 (by decide))) (fun k => p201 95 k (fun q => absurd q.1 (by decide))) (fun k => p201 97 k (fun q => absurd q.1 (by decide))) (fun k => p201 98 k (fun q => absurd q.1 (by decide))) (by exact gz_m 131 (by omega)) (by exact gz_m 132 (by omega)))) q223.2.1) (gr_IS_tr (gr_IS_tr (gr_IS_tr (gr_IS_tr e2_100 (fun k _ => p151 103 k (fun q => absurd q.1 (by decide)))) (fun k _ => p178 103 k (fun q => absurd q.1 (by decide)))) (fun k hk => p201 103 k (fun q => by have := q.2; exact gz_m 133 (by omega)))) (gr_IS_w q223.2.2.1 (by exact gz_m 134 (by omega)))) (gr_T3_x e3_100 (gr_XT_tr (gr_XT_tr (gr_XT_tr (gr_XT_tr (gr_XT_rf _) (gr_XT_sm (fun k => p151 87 k (fun q => absurd q.1 (by decide))) (fun k => p151 88 k (fun q => absurd q.1 (by decide))) (fun k => p151 104 k (fun q => absurd q.1 (by decide))) (fun k => p151 94 k (fun q => absurd q.1 (by decide))) (fun k => p151 95 k (fun q => absurd q.1 (by decide))) (fun k => p151 97 k (fun q => absurd q.1 (by decide))) (fun k => p151 98 k (fun q => absurd q.1 (by decide))) (by exact gz_m 135 (by omega)) (by exact gz_m 136 (by omega)))) (gr_XT_sm (fun k => p178 87 k (fun q => absurd q.1 (by decide))) (fun k => p178 88 k (fun q => absurd q.1 (by decide))) (fun k => p178 104 k (fun q => absurd q.1 (by decide))) (fun k => p178 94 k (fun q => absurd q.1 (by decide))) (fun k => p178 95 k (fun q => absurd q.1 (by decide))) (fun k => p178 97 k (fun q => absurd q.1 (by decide))) (fun k => p178 98 k (fun q => absurd q.1 (by decide))) (by exact gz_m 137 (by omega)) (by exact gz_m 138 (by omega)))) (gr_XT_sm (fun k => p201 87 k (fun q => absurd q.1 (by decide))) (fun k => p201 88 k (fun q => absurd q.1 (by decide))) (fun k => p201 104 k (fun q => absurd q.1 (by decide))) (fun k => p201 94 k (fun q => absurd q.1 (by decide))) (fun k => p201 95 k (fun q => absurd q.1 (by decide))) (fun k => p201 97 k (fun q => absurd q.1 (by decide))) (fun k => p201 98 k (fun q => absurd q.1 (by decide))) (by exact gz_m 139 (by omega)) (by exact gz_m 140 (by omega)))) q223.2.1) (by exact gz_m 141 (by omega)))
                    · refine gv_run 1 true hD (pc' := 319) (lv' := [(11, .inl z175), (0, .inr (.inr (some 0))), (1, .inl a1), (2, .inl a2), (5, .inl v5_73), (6, .inl v6_73), (7, .inl v7_73), (8, .inl v8_73), (9, .inl v9_84), (10, .inl v10_100)]) (st' := []) (h' := gr_h I150 J99) (C := (True ∧ True)) rfl ⟨trivial, trivial⟩ ?_
                      refine gv_pick [1, 2, 3, 4, 5, 6, 7, 8, 9] rfl ?_
                      exact L319 I150 J99 hI150 FI150 FJ99 (by exact gz_m 142 (by omega)) (gr_FO_fr e0_100 hI98 (fun k => p151 87 k (fun q => absurd q.1 (by decide))) (fun k => p151 88 k (fun q => absurd q.1 (by decide))) (fun k => p151 104 k (fun q => absurd q.1 (by decide))) (fun k => p151 90 k (fun q => absurd q.1 (by decide))) (fun k => p151 93 k (fun q => absurd q.1 (by decide))) (fun k => p151 92 k (fun q => absurd q.1 (by decide))) (fun k => p151 94 k (fun q => absurd q.1 (by decide))) (fun k => p151 95 k (fun q => absurd q.1 (by decide))) (fun k => p151 97 k (fun q => absurd q.1 (by decide))) (fun k => p151 98 k (fun q => absurd q.1 (by decide))) (fun k => p151 19 k (fun q => absurd q.1 (by decide))) (fun k => p151 18 k (fun q => absurd q.1 (by decide))) (fun k => p151 41 k (fun q => absurd q.1 (by decide))) (fun k => p151 6 k (fun q => absurd q.1 (by decide))) (by exact gz_m 143 (by omega)) (by exact gz_m 144 (by omega)) (by exact gz_m 145 (by omega))) (gr_XT_tr e1_100 (gr_XT_sm (fun k => p151 87 k (fun q => absurd q.1 (by decide))) (fun k => p151 88 k (fun q => absurd q.1 (by decide))) (fun k => p151 104 k (fun q => absurd q.1 (by decide))) (fun k => p151 94 k (fun q => absurd q.1 (by decide))) (fun k => p151 95 k (fun q => absurd q.1 (by decide))) (fun k => p151 97 k (fun q => absurd q.1 (by decide))) (fun k => p151 98 k (fun q => absurd q.1 (by decide))) (by exact gz_m 146 (by omega)) (by exact gz_m 147 (by omega)))) (gr_IS_tr e2_100 (fun k _ => p151 103 k (fun q => absurd q.1 (by decide)))) (gr_T3_x e3_100 (gr_XT_tr (gr_XT_rf _) (gr_XT_sm (fun k => p151 87 k (fun q => absurd q.1 (by decide))) (fun k => p151 88 k (fun q => absurd q.1 (by decide))) (fun k => p151 104 k (fun q => absurd q.1 (by decide))) (fun k => p151 94 k (fun q => absurd q.1 (by decide))) (fun k => p151 95 k (fun q => absurd q.1 (by decide))) (fun k => p151 97 k (fun q => absurd q.1 (by decide))) (fun k => p151 98 k (fun q => absurd q.1 (by decide))) (by exact gz_m 148 (by omega)) (by exact gz_m 149 (by omega)))) (by exact gz_m 150 (by omega)))
                  · refine gv_run 3 true hD (pc' := 270) (lv' := [(0, .inr (.inr (some 0))), (1, .inl a1), (2, .inl a2), (5, .inl v5_73), (6, .inl v6_73), (7, .inl v7_73), (8, .inl v8_73), (9, .inl v9_84), (10, .inl v10_100)]) (st' := []) (h' := gz_up (gr_h I150 J99) 0 160 (.inl 1)) (C := (((True ∧ True) ∧ True) ∧ (1 = 0 ∨ 1 = 1))) rfl ⟨⟨⟨trivial, trivial⟩, trivial⟩, (by exact gz_m 151 (by omega))⟩ ?_
                    refine gr_st hI150 FI150 rfl rfl ⟨⟨by show 0 ≤ _; exact gz_m 152 (by omega), by show _ ≤ 1; exact gz_m 153 (by omega)⟩, trivial⟩ (fun I239 hI239 FI239 q240 p240 => ?_)
                    have t241 := p240 0 157 (by decide)
                    have t242 := p240 0 143 (by decide)
                    have t243 := p240 0 158 (by decide)
                    have t244 := p240 0 168 (by decide)
                    have t245 := p240 0 169 (by decide)
                    have t246 := p240 0 167 (by decide)
                    have t247 := p240 0 161 (by decide)
                    have f248 := (gr_b_0_157 hI239)
                    have f249 := (gr_b_0_143 hI239)
                    have f250 := (gr_b_0_158 hI239)
                    have f251 := (gr_b_0_168 hI239)
                    have f252 := (gr_b_0_169 hI239)
                    have f253 := (gr_b_0_167 hI239)
                    have f254 := (gr_b_0_161 hI239)
                    have f255 := (gr_b_0_160 hI239)
                    have t256 := FI239 0 168 rfl
                    have t257 := FI239 0 169 rfl
                    have t258 := FI239 0 167 rfl
                    have t259 := FI239 0 143 rfl
                    have t260 := FI239 19 (Int.toNat t) rfl
                    exact gv_vret hD rfl ⟨I239, J99, rfl, hI239, FI239, FJ99, ⟨rfl, (gr_FO_fr (gr_FO_fr e0_100 hI98 (fun k => p151 87 k (fun q => absurd q.1 (by decide))) (fun k => p151 88 k (fun q => absurd q.1 (by decide))) (fun k => p151 104 k (fun q => absurd q.1 (by decide))) (fun k => p151 90 k (fun q => absurd q.1 (by decide))) (fun k => p151 93 k (fun q => absurd q.1 (by decide))) (fun k => p151 92 k (fun q => absurd q.1 (by decide))) (fun k => p151 94 k (fun q => absurd q.1 (by decide))) (fun k => p151 95 k (fun q => absurd q.1 (by decide))) (fun k => p151 97 k (fun q => absurd q.1 (by decide))) (fun k => p151 98 k (fun q => absurd q.1 (by decide))) (fun k => p151 19 k (fun q => absurd q.1 (by decide))) (fun k => p151 18 k (fun q => absurd q.1 (by decide))) (fun k => p151 41 k (fun q => absurd q.1 (by decide))) (fun k => p151 6 k (fun q => absurd q.1 (by decide))) (by exact gz_m 154 (by omega)) (by exact gz_m 155 (by omega)) (by exact gz_m 156 (by omega))) hI150 (fun k => p240 87 k (fun q => absurd q.1 (by decide))) (fun k => p240 88 k (fun q => absurd q.1 (by decide))) (fun k => p240 104 k (fun q => absurd q.1 (by decide))) (fun k => p240 90 k (fun q => absurd q.1 (by decide))) (fun k => p240 93 k (fun q => absurd q.1 (by decide))) (fun k => p240 92 k (fun q => absurd q.1 (by decide))) (fun k => p240 94 k (fun q => absurd q.1 (by decide))) (fun k => p240 95 k (fun q => absurd q.1 (by decide))) (fun k => p240 97 k (fun q => absurd q.1 (by decide))) (fun k => p240 98 k (fun q => absurd q.1 (by decide))) (fun k => p240 19 k (fun q => absurd q.1 (by decide))) (fun k => p240 18 k (fun q => absurd q.1 (by decide))) (fun k => p240 41 k (fun q => absurd q.1 (by decide))) (fun k => p240 6 k (fun q => absurd q.1 (by decide))) (by exact gz_m 157 (by omega)) (by exact gz_m 158 (by omega)) (by exact gz_m 159 (by omega))), (gr_XT_tr (gr_XT_tr e1_100 (gr_XT_sm (fun k => p151 87 k (fun q => absurd q.1 (by decide))) (fun k => p151 88 k (fun q => absurd q.1 (by decide))) (fun k => p151 104 k (fun q => absurd q.1 (by decide))) (fun k => p151 94 k (fun q => absurd q.1 (by decide))) (fun k => p151 95 k (fun q => absurd q.1 (by decide))) (fun k => p151 97 k (fun q => absurd q.1 (by decide))) (fun k => p151 98 k (fun q => absurd q.1 (by decide))) (by exact gz_m 160 (by omega)) (by exact gz_m 161 (by omega)))) (gr_XT_sm (fun k => p240 87 k (fun q => absurd q.1 (by decide))) (fun k => p240 88 k (fun q => absurd q.1 (by decide))) (fun k => p240 104 k (fun q => absurd q.1 (by decide))) (fun k => p240 94 k (fun q => absurd q.1 (by decide))) (fun k => p240 95 k (fun q => absurd q.1 (by decide))) (fun k => p240 97 k (fun q => absurd q.1 (by decide))) (fun k => p240 98 k (fun q => absurd q.1 (by decide))) (by exact gz_m 162 (by omega)) (by exact gz_m 163 (by omega)))), (gr_IS_tr (gr_IS_tr e2_100 (fun k _ => p151 103 k (fun q => absurd q.1 (by decide)))) (fun k _ => p240 103 k (fun q => absurd q.1 (by decide)))), by exact gz_m 164 (by omega), by exact gz_m 165 (by omega)⟩⟩
          refine gv_run 2 true hD (pc' := 210) (lv' := [(0, .inr (.inr (some 0))), (1, .inl a1), (2, .inl a2), (5, .inl v5_73), (6, .inl v6_73), (7, .inl v7_73), (8, .inl v8_73), (9, .inl v9_84)]) (st' := [.inl v8_73, .inl v9_84]) (h' := gr_h I82 J83) (C := ((True ∧ True) ∧ True)) rfl ⟨⟨trivial, trivial⟩, trivial⟩ ?_
          refine gv_icmp_gt (t := 337) hD rfl rfl ⟨⟨by exact gz_m 166 (by omega), by exact gz_m 167 (by omega)⟩, ⟨by exact gz_m 168 (by omega), by exact gz_m 169 (by omega)⟩⟩ (fun c261 => ?_) (fun c261 => ?_)
          · exact gv_vret hD rfl ⟨I82, J83, rfl, hI82, FI82, FJ83, ⟨rfl, e0_84, e1_84, e2_84, by exact gz_m 170 (by omega), by exact gz_m 171 (by omega)⟩⟩
          · refine gv_run 7 true hD (pc' := 224) (lv' := [(0, .inr (.inr (some 0))), (1, .inl a1), (2, .inl a2), (5, .inl v5_73), (6, .inl v6_73), (7, .inl v7_73), (8, .inl v8_73), (9, .inl v9_84)]) (st' := [.inl ((25 * a2) + v9_84), .inr (.inr (some 93))]) (h' := gr_h I82 J83) (C := (((((((True ∧ True) ∧ True) ∧ True) ∧ True) ∧ True) ∧ True) ∧ True)) rfl ⟨⟨⟨⟨⟨⟨⟨trivial, trivial⟩, trivial⟩, trivial⟩, trivial⟩, trivial⟩, trivial⟩, trivial⟩ ?_
            have f262 := (gr_b_93 hI82 (Int.toNat (((((25 * a2) + v9_84) * 32) + v7_73))))
            refine gv_run 5 true hD (pc' := 231) (lv' := [(0, .inr (.inr (some 0))), (1, .inl a1), (2, .inl a2), (5, .inl v5_73), (6, .inl v6_73), (7, .inl v7_73), (8, .inl v8_73), (9, .inl v9_84)]) (st' := [.inl (I82 93 (Int.toNat (((((25 * a2) + v9_84) * 32) + v7_73))))]) (h' := gr_h I82 J83) (C := (((((True ∧ True) ∧ True) ∧ True) ∧ True) ∧ (0 ≤ (((((25 * a2) + v9_84) * 32) + v7_73)) ∧ (((((25 * a2) + v9_84) * 32) + v7_73)) < ((20000 : Nat) : Int)))) rfl ⟨⟨⟨⟨⟨trivial, trivial⟩, trivial⟩, trivial⟩, trivial⟩, ⟨by exact gz_m 172 (by omega), by exact gz_m 173 (by omega)⟩⟩ ?_
            have t263 := gr_SB_at e0_84.2.1 (i := a2) (j := v9_84) (k := v7_73) ⟨by exact gz_m 174 (by omega), by exact gz_m 175 (by omega)⟩ ⟨by exact gz_m 176 (by omega), by exact gz_m 177 (by omega)⟩ ⟨by exact gz_m 178 (by omega), by exact gz_m 179 (by omega)⟩
            refine gv_run 1 true hD (pc' := 233) (lv' := [(10, .inl (I82 93 (Int.toNat (((((25 * a2) + v9_84) * 32) + v7_73))))), (0, .inr (.inr (some 0))), (1, .inl a1), (2, .inl a2), (5, .inl v5_73), (6, .inl v6_73), (7, .inl v7_73), (8, .inl v8_73), (9, .inl v9_84)]) (st' := []) (h' := gr_h I82 J83) (C := (True ∧ True)) rfl ⟨trivial, trivial⟩ ?_
            refine gv_pick [1, 2, 3, 4, 5, 6, 7, 8, 0] rfl ?_
            exact L233 _ I82 J83 ((I82 93 (Int.toNat (((((25 * a2) + v9_84) * 32) + v7_73))))) (Nat.lt_succ_self _) hI82 FI82 FJ83 (by exact gz_m 180 (by omega)) e0_84 e1_84 e2_84 (gr_LS_sp e0_84.2.2.2.1 ⟨by exact gz_m 181 (by omega), by exact gz_m 182 (by omega)⟩ ⟨by exact gz_m 183 (by omega), by exact gz_m 184 (by omega)⟩ ⟨by exact gz_m 185 (by omega), by exact gz_m 186 (by omega)⟩)
      refine gv_run 1 true hD (pc' := 206) (lv' := [(9, .inl s0_73), (0, .inr (.inr (some 0))), (1, .inl a1), (2, .inl a2), (5, .inl v5_73), (6, .inl v6_73), (7, .inl v7_73), (8, .inl v8_73)]) (st' := []) (h' := gr_h I J) (C := (True ∧ True)) rfl ⟨trivial, trivial⟩ ?_
      refine gv_pick [1, 2, 3, 4, 5, 6, 7, 0] rfl ?_
      exact L206 _ I J s0_73 (Nat.lt_succ_self _) hI FI FJ (by exact gz_m 187 (by omega)) x1 (gr_XT_rf I) (gr_IS_rf a1 I)
    have f264 := (gr_b_42 hI (Int.toNat ((I 0 167))))
    refine gv_run 5 true hD (pc' := 12) (lv' := [(0, .inr (.inr (some 0))), (1, .inl a1), (2, .inl a2), (3, .inl (I 0 167))]) (st' := [.inl (I 42 (Int.toNat ((I 0 167)))), .inl a1]) (h' := gr_h I J) (C := (((((True ∧ True) ∧ True) ∧ True) ∧ True) ∧ (0 ≤ (I 0 167) ∧ (I 0 167) < ((3072 : Nat) : Int)))) rfl ⟨⟨⟨⟨⟨trivial, trivial⟩, trivial⟩, trivial⟩, trivial⟩, ⟨by exact gz_m 188 (by omega), by exact gz_m 189 (by omega)⟩⟩ ?_
    refine gv_icmp_ne (t := 28) hD rfl rfl ⟨⟨by exact gz_m 190 (by omega), by exact gz_m 191 (by omega)⟩, ⟨by exact gz_m 192 (by omega), by exact gz_m 193 (by omega)⟩⟩ (fun c265 => ?_) (fun c265 => ?_)
    · refine gv_run 7 true hD (pc' := 38) (lv' := [(0, .inr (.inr (some 0))), (1, .inl a1), (2, .inl a2), (3, .inl (I 0 167))]) (st' := [.inl ((6 * (I 0 167)) + a1), .inr (.inr (some 43))]) (h' := gr_h I J) (C := (((((((True ∧ True) ∧ True) ∧ True) ∧ True) ∧ True) ∧ True) ∧ True)) rfl ⟨⟨⟨⟨⟨⟨⟨trivial, trivial⟩, trivial⟩, trivial⟩, trivial⟩, trivial⟩, trivial⟩, trivial⟩ ?_
      have t266 := (show (-4) ≤ I 43 (Int.toNat (6 * I 0 167 + a1)) ∧ I 43 (Int.toNat (6 * I 0 167 + a1)) ≤ 32015 from (hI 43 _).1)
      have f267 := (show (-4) ≤ I 43 (Int.toNat (((6 * (I 0 167)) + a1))) ∧ I 43 (Int.toNat (((6 * (I 0 167)) + a1))) ≤ 32015 from (hI 43 (Int.toNat (((6 * (I 0 167)) + a1)))).1)
      refine gv_run 1 true hD (pc' := 39) (lv' := [(0, .inr (.inr (some 0))), (1, .inl a1), (2, .inl a2), (3, .inl (I 0 167))]) (st' := [.inl (I 43 (Int.toNat (((6 * (I 0 167)) + a1))))]) (h' := gr_h I J) (C := (True ∧ (0 ≤ (((6 * (I 0 167)) + a1)) ∧ (((6 * (I 0 167)) + a1)) < ((18432 : Nat) : Int)))) rfl ⟨trivial, ⟨by exact gz_m 194 (by omega), by exact gz_m 195 (by omega)⟩⟩ ?_
      refine gv_run 2 true hD (pc' := 43) (lv' := [(4, .inl (I 43 (Int.toNat (((6 * (I 0 167)) + a1))))), (0, .inr (.inr (some 0))), (1, .inl a1), (2, .inl a2), (3, .inl (I 0 167))]) (st' := [.inl (I 43 (Int.toNat (((6 * (I 0 167)) + a1))))]) (h' := gr_h I J) (C := ((True ∧ True) ∧ True)) rfl ⟨⟨trivial, trivial⟩, trivial⟩ ?_
      refine gv_if_lt (t := 128) hD rfl rfl ⟨by exact gz_m 196 (by omega), by exact gz_m 197 (by omega)⟩ (fun c268 => ?_) (fun c268 => ?_)
      · refine gv_run 7 true hD (pc' := 140) (lv' := [(5, .inl ((-1) - (I 43 (Int.toNat (((6 * (I 0 167)) + a1)))))), (4, .inl (I 43 (Int.toNat (((6 * (I 0 167)) + a1))))), (0, .inr (.inr (some 0))), (1, .inl a1), (2, .inl a2), (3, .inl (I 0 167))]) (st' := [.inl 6, .inr (.inr (some 44))]) (h' := gr_h I J) (C := (((((((True ∧ True) ∧ True) ∧ True) ∧ True) ∧ True) ∧ True) ∧ True)) rfl ⟨⟨⟨⟨⟨⟨⟨trivial, trivial⟩, trivial⟩, trivial⟩, trivial⟩, trivial⟩, trivial⟩, trivial⟩ ?_
        have f269 := (gr_b_44 hI (Int.toNat (((6 * (I 0 167)) + a1))))
        refine gv_run 5 true hD (pc' := 145) (lv' := [(5, .inl ((-1) - (I 43 (Int.toNat (((6 * (I 0 167)) + a1)))))), (4, .inl (I 43 (Int.toNat (((6 * (I 0 167)) + a1))))), (0, .inr (.inr (some 0))), (1, .inl a1), (2, .inl a2), (3, .inl (I 0 167))]) (st' := [.inl (I 44 (Int.toNat (((6 * (I 0 167)) + a1))))]) (h' := gr_h I J) (C := (((((True ∧ True) ∧ True) ∧ True) ∧ True) ∧ (0 ≤ (((6 * (I 0 167)) + a1)) ∧ (((6 * (I 0 167)) + a1)) < ((18432 : Nat) : Int)))) rfl ⟨⟨⟨⟨⟨trivial, trivial⟩, trivial⟩, trivial⟩, trivial⟩, ⟨by exact gz_m 198 (by omega), by exact gz_m 199 (by omega)⟩⟩ ?_
        refine gv_run 7 true hD (pc' := 157) (lv' := [(6, .inl (I 44 (Int.toNat (((6 * (I 0 167)) + a1))))), (5, .inl ((-1) - (I 43 (Int.toNat (((6 * (I 0 167)) + a1)))))), (4, .inl (I 43 (Int.toNat (((6 * (I 0 167)) + a1))))), (0, .inr (.inr (some 0))), (1, .inl a1), (2, .inl a2), (3, .inl (I 0 167))]) (st' := [.inl (I 0 167), .inr (.inr (some 41)), .inl 4, .inr (.inr (some 7))]) (h' := gr_h I J) (C := (((((((True ∧ True) ∧ True) ∧ True) ∧ True) ∧ True) ∧ True) ∧ True)) rfl ⟨⟨⟨⟨⟨⟨⟨trivial, trivial⟩, trivial⟩, trivial⟩, trivial⟩, trivial⟩, trivial⟩, trivial⟩ ?_
        have f270 := (gr_b_41 hI (Int.toNat ((I 0 167))))
        refine gv_run 1 true hD (pc' := 158) (lv' := [(6, .inl (I 44 (Int.toNat (((6 * (I 0 167)) + a1))))), (5, .inl ((-1) - (I 43 (Int.toNat (((6 * (I 0 167)) + a1)))))), (4, .inl (I 43 (Int.toNat (((6 * (I 0 167)) + a1))))), (0, .inr (.inr (some 0))), (1, .inl a1), (2, .inl a2), (3, .inl (I 0 167))]) (st' := [.inl (I 41 (Int.toNat ((I 0 167)))), .inl 4, .inr (.inr (some 7))]) (h' := gr_h I J) (C := (True ∧ (0 ≤ (I 0 167) ∧ (I 0 167) < ((3072 : Nat) : Int)))) rfl ⟨trivial, ⟨by exact gz_m 200 (by omega), by exact gz_m 201 (by omega)⟩⟩ ?_
        have f271 := (gr_b_7 hI (Int.toNat (((4 * (I 41 (Int.toNat ((I 0 167))))) + ((-1) - (I 43 (Int.toNat (((6 * (I 0 167)) + a1)))))))))
        refine gv_run 4 true hD (pc' := 163) (lv' := [(6, .inl (I 44 (Int.toNat (((6 * (I 0 167)) + a1))))), (5, .inl ((-1) - (I 43 (Int.toNat (((6 * (I 0 167)) + a1)))))), (4, .inl (I 43 (Int.toNat (((6 * (I 0 167)) + a1))))), (0, .inr (.inr (some 0))), (1, .inl a1), (2, .inl a2), (3, .inl (I 0 167))]) (st' := [.inl (I 7 (Int.toNat (((4 * (I 41 (Int.toNat ((I 0 167))))) + ((-1) - (I 43 (Int.toNat (((6 * (I 0 167)) + a1)))))))))]) (h' := gr_h I J) (C := ((((True ∧ True) ∧ True) ∧ True) ∧ (0 ≤ (((4 * (I 41 (Int.toNat ((I 0 167))))) + ((-1) - (I 43 (Int.toNat (((6 * (I 0 167)) + a1))))))) ∧ (((4 * (I 41 (Int.toNat ((I 0 167))))) + ((-1) - (I 43 (Int.toNat (((6 * (I 0 167)) + a1))))))) < ((384 : Nat) : Int)))) rfl ⟨⟨⟨⟨trivial, trivial⟩, trivial⟩, trivial⟩, ⟨by exact gz_m 202 (by omega), by exact gz_m 203 (by omega)⟩⟩ ?_
        have t272 := (show (I 7 (Int.toNat (((4 * (I 41 (Int.toNat ((I 0 167))))) + ((-1) - (I 43 (Int.toNat (((6 * (I 0 167)) + a1))))))))) = I 7 (Int.toNat (4 * I 41 (Int.toNat (I 0 167)) - 1 - I 43 (Int.toNat (6 * I 0 167 + a1)))) from congrArg (I 7) (congrArg Int.toNat (by exact gz_m 204 (by omega))))
        have f273 := (gr_b_0_169 hI)
        have f274 := (gr_b_42 hI (Int.toNat ((I 0 167))))
        refine gv_run 7 true hD (pc' := 175) (lv' := [(7, .inl (I 7 (Int.toNat (((4 * (I 41 (Int.toNat ((I 0 167))))) + ((-1) - (I 43 (Int.toNat (((6 * (I 0 167)) + a1)))))))))), (6, .inl (I 44 (Int.toNat (((6 * (I 0 167)) + a1))))), (5, .inl ((-1) - (I 43 (Int.toNat (((6 * (I 0 167)) + a1)))))), (4, .inl (I 43 (Int.toNat (((6 * (I 0 167)) + a1))))), (0, .inr (.inr (some 0))), (1, .inl a1), (2, .inl a2), (3, .inl (I 0 167))]) (st' := [.inl (I 42 (Int.toNat ((I 0 167)))), .inl (I 0 169)]) (h' := gr_h I J) (C := (((((((True ∧ True) ∧ True) ∧ True) ∧ True) ∧ True) ∧ True) ∧ (0 ≤ (I 0 167) ∧ (I 0 167) < ((3072 : Nat) : Int)))) rfl ⟨⟨⟨⟨⟨⟨⟨trivial, trivial⟩, trivial⟩, trivial⟩, trivial⟩, trivial⟩, trivial⟩, ⟨by exact gz_m 205 (by omega), by exact gz_m 206 (by omega)⟩⟩ ?_
        refine gv_run 7 true hD (pc' := 183) (lv' := [(8, .inl ((I 0 169) - (((I 42 (Int.toNat ((I 0 167)))) - a1) - 1))), (7, .inl (I 7 (Int.toNat (((4 * (I 41 (Int.toNat ((I 0 167))))) + ((-1) - (I 43 (Int.toNat (((6 * (I 0 167)) + a1)))))))))), (6, .inl (I 44 (Int.toNat (((6 * (I 0 167)) + a1))))), (5, .inl ((-1) - (I 43 (Int.toNat (((6 * (I 0 167)) + a1)))))), (4, .inl (I 43 (Int.toNat (((6 * (I 0 167)) + a1))))), (0, .inr (.inr (some 0))), (1, .inl a1), (2, .inl a2), (3, .inl (I 0 167))]) (st' := [.inl a1]) (h' := gr_h I J) (C := (((((((True ∧ True) ∧ True) ∧ True) ∧ True) ∧ True) ∧ True) ∧ True)) rfl ⟨⟨⟨⟨⟨⟨⟨trivial, trivial⟩, trivial⟩, trivial⟩, trivial⟩, trivial⟩, trivial⟩, trivial⟩ ?_
        have f275 := (gr_b_42 hI (Int.toNat ((I 0 167))))
        refine gv_run 4 true hD (pc' := 189) (lv' := [(8, .inl ((I 0 169) - (((I 42 (Int.toNat ((I 0 167)))) - a1) - 1))), (7, .inl (I 7 (Int.toNat (((4 * (I 41 (Int.toNat ((I 0 167))))) + ((-1) - (I 43 (Int.toNat (((6 * (I 0 167)) + a1)))))))))), (6, .inl (I 44 (Int.toNat (((6 * (I 0 167)) + a1))))), (5, .inl ((-1) - (I 43 (Int.toNat (((6 * (I 0 167)) + a1)))))), (4, .inl (I 43 (Int.toNat (((6 * (I 0 167)) + a1))))), (0, .inr (.inr (some 0))), (1, .inl a1), (2, .inl a2), (3, .inl (I 0 167))]) (st' := [.inl (I 42 (Int.toNat ((I 0 167)))), .inl a1]) (h' := gr_h I J) (C := ((((True ∧ True) ∧ True) ∧ True) ∧ (0 ≤ (I 0 167) ∧ (I 0 167) < ((3072 : Nat) : Int)))) rfl ⟨⟨⟨⟨trivial, trivial⟩, trivial⟩, trivial⟩, ⟨by exact gz_m 207 (by omega), by exact gz_m 208 (by omega)⟩⟩ ?_
        refine gv_run 2 true hD (pc' := 191) (lv' := [(8, .inl ((I 0 169) - (((I 42 (Int.toNat ((I 0 167)))) - a1) - 1))), (7, .inl (I 7 (Int.toNat (((4 * (I 41 (Int.toNat ((I 0 167))))) + ((-1) - (I 43 (Int.toNat (((6 * (I 0 167)) + a1)))))))))), (6, .inl (I 44 (Int.toNat (((6 * (I 0 167)) + a1))))), (5, .inl ((-1) - (I 43 (Int.toNat (((6 * (I 0 167)) + a1)))))), (4, .inl (I 43 (Int.toNat (((6 * (I 0 167)) + a1))))), (0, .inr (.inr (some 0))), (1, .inl a1), (2, .inl a2), (3, .inl (I 0 167))]) (st' := [.inl ((I 42 (Int.toNat ((I 0 167)))) - 1), .inl a1]) (h' := gr_h I J) (C := ((True ∧ True) ∧ True)) rfl ⟨⟨trivial, trivial⟩, trivial⟩ ?_
        refine gv_icmp_ne (t := 201) hD rfl rfl ⟨⟨by exact gz_m 209 (by omega), by exact gz_m 210 (by omega)⟩, ⟨by exact gz_m 211 (by omega), by exact gz_m 212 (by omega)⟩⟩ (fun c276 => ?_) (fun c276 => ?_)
        · refine gv_run 3 true hD (pc' := 204) (lv' := [(8, .inl ((I 0 169) - (((I 42 (Int.toNat ((I 0 167)))) - a1) - 1))), (7, .inl (I 7 (Int.toNat (((4 * (I 41 (Int.toNat ((I 0 167))))) + ((-1) - (I 43 (Int.toNat (((6 * (I 0 167)) + a1)))))))))), (6, .inl (I 44 (Int.toNat (((6 * (I 0 167)) + a1))))), (5, .inl ((-1) - (I 43 (Int.toNat (((6 * (I 0 167)) + a1)))))), (4, .inl (I 43 (Int.toNat (((6 * (I 0 167)) + a1))))), (0, .inr (.inr (some 0))), (1, .inl a1), (2, .inl a2), (3, .inl (I 0 167))]) (st' := [.inl (a2 + 1)]) (h' := gr_h I J) (C := (((True ∧ True) ∧ True) ∧ True)) rfl ⟨⟨⟨trivial, trivial⟩, trivial⟩, trivial⟩ ?_
          refine gv_pick [5, 6, 7, 3, 2, 1, 0] rfl ?_
          exact L204 (((-1) - (I 43 (Int.toNat (((6 * (I 0 167)) + a1)))))) ((I 44 (Int.toNat (((6 * (I 0 167)) + a1))))) ((I 7 (Int.toNat (((4 * (I 41 (Int.toNat ((I 0 167))))) + ((-1) - (I 43 (Int.toNat (((6 * (I 0 167)) + a1)))))))))) (((I 0 169) - (((I 42 (Int.toNat ((I 0 167)))) - a1) - 1))) (a2 + 1) (by exact gz_m 213 (by omega))
        · have f277 := (gr_b_0_169 hI)
          refine gv_run 3 true hD (pc' := 204) (lv' := [(8, .inl ((I 0 169) - (((I 42 (Int.toNat ((I 0 167)))) - a1) - 1))), (7, .inl (I 7 (Int.toNat (((4 * (I 41 (Int.toNat ((I 0 167))))) + ((-1) - (I 43 (Int.toNat (((6 * (I 0 167)) + a1)))))))))), (6, .inl (I 44 (Int.toNat (((6 * (I 0 167)) + a1))))), (5, .inl ((-1) - (I 43 (Int.toNat (((6 * (I 0 167)) + a1)))))), (4, .inl (I 43 (Int.toNat (((6 * (I 0 167)) + a1))))), (0, .inr (.inr (some 0))), (1, .inl a1), (2, .inl a2), (3, .inl (I 0 167))]) (st' := [.inl (I 0 169)]) (h' := gr_h I J) (C := (((True ∧ True) ∧ True) ∧ True)) rfl ⟨⟨⟨trivial, trivial⟩, trivial⟩, trivial⟩ ?_
          refine gv_pick [5, 6, 7, 3, 2, 1, 0] rfl ?_
          exact L204 (((-1) - (I 43 (Int.toNat (((6 * (I 0 167)) + a1)))))) ((I 44 (Int.toNat (((6 * (I 0 167)) + a1))))) ((I 7 (Int.toNat (((4 * (I 41 (Int.toNat ((I 0 167))))) + ((-1) - (I 43 (Int.toNat (((6 * (I 0 167)) + a1)))))))))) (((I 0 169) - (((I 42 (Int.toNat ((I 0 167)))) - a1) - 1))) (I 0 169) (by exact gz_m 214 (by omega))
      · have f278 := gw_and (x := ((I 43 (Int.toNat (((6 * (I 0 167)) + a1)))))) (y := 15) ⟨by exact gz_m 215 (by omega), by exact gz_m 216 (by omega)⟩
        have f279 := (gr_b_0_169 hI)
        refine gv_run 7 true hD (pc' := 58) (lv' := [(5, .inl ((Int32.ofInt ((I 43 (Int.toNat (((6 * (I 0 167)) + a1))))) &&& Int32.ofInt 15).toInt)), (4, .inl (I 43 (Int.toNat (((6 * (I 0 167)) + a1))))), (0, .inr (.inr (some 0))), (1, .inl a1), (2, .inl a2), (3, .inl (I 0 167))]) (st' := [.inl (I 0 169), .inl a2]) (h' := gr_h I J) (C := (((((((True ∧ True) ∧ True) ∧ True) ∧ True) ∧ True) ∧ True) ∧ True)) rfl ⟨⟨⟨⟨⟨⟨⟨trivial, trivial⟩, trivial⟩, trivial⟩, trivial⟩, trivial⟩, trivial⟩, trivial⟩ ?_
        refine gv_icmp_ge (t := 72) hD rfl rfl ⟨⟨by exact gz_m 217 (by omega), by exact gz_m 218 (by omega)⟩, ⟨by exact gz_m 219 (by omega), by exact gz_m 220 (by omega)⟩⟩ (fun c280 => ?_) (fun c280 => ?_)
        · refine gv_pick [] rfl ?_
          exact L72 
        · have f281 := (gr_b_85 hI (Int.toNat a2))
          refine gv_run 4 true hD (pc' := 67) (lv' := [(5, .inl ((Int32.ofInt ((I 43 (Int.toNat (((6 * (I 0 167)) + a1))))) &&& Int32.ofInt 15).toInt)), (4, .inl (I 43 (Int.toNat (((6 * (I 0 167)) + a1))))), (0, .inr (.inr (some 0))), (1, .inl a1), (2, .inl a2), (3, .inl (I 0 167))]) (st' := [.inl (I 85 (Int.toNat a2))]) (h' := gr_h I J) (C := ((((True ∧ True) ∧ True) ∧ True) ∧ (0 ≤ a2 ∧ a2 < ((24 : Nat) : Int)))) rfl ⟨⟨⟨⟨trivial, trivial⟩, trivial⟩, trivial⟩, ⟨by exact gz_m 221 (by omega), by exact gz_m 222 (by omega)⟩⟩ ?_
          refine gv_run 1 true hD (pc' := 69) (lv' := [(5, .inl ((Int32.ofInt ((I 43 (Int.toNat (((6 * (I 0 167)) + a1))))) &&& Int32.ofInt 15).toInt)), (4, .inl (I 43 (Int.toNat (((6 * (I 0 167)) + a1))))), (0, .inr (.inr (some 0))), (1, .inl a1), (2, .inl a2), (3, .inl (I 0 167))]) (st' := [.inl ((Int32.ofInt ((I 43 (Int.toNat (((6 * (I 0 167)) + a1))))) &&& Int32.ofInt 15).toInt), .inl (I 85 (Int.toNat a2))]) (h' := gr_h I J) (C := (True ∧ True)) rfl ⟨trivial, trivial⟩ ?_
          refine gv_icmp_eq (t := 73) hD rfl rfl ⟨⟨by exact gz_m 223 (by omega), by exact gz_m 224 (by omega)⟩, ⟨by exact gz_m 225 (by omega), by exact gz_m 226 (by omega)⟩⟩ (fun c282 => ?_) (fun c282 => ?_)
          · refine gv_run 2 true hD (pc' := 76) (lv' := [(6, .inl 0), (5, .inl ((Int32.ofInt ((I 43 (Int.toNat (((6 * (I 0 167)) + a1))))) &&& Int32.ofInt 15).toInt)), (4, .inl (I 43 (Int.toNat (((6 * (I 0 167)) + a1))))), (0, .inr (.inr (some 0))), (1, .inl a1), (2, .inl a2), (3, .inl (I 0 167))]) (st' := []) (h' := gr_h I J) (C := ((True ∧ True) ∧ True)) rfl ⟨⟨trivial, trivial⟩, trivial⟩ ?_
            refine gv_pick [3, 4, 5, 2, 1, 0] rfl ?_
            exact L76 _ ((I 43 (Int.toNat (((6 * (I 0 167)) + a1))))) (((Int32.ofInt ((I 43 (Int.toNat (((6 * (I 0 167)) + a1))))) &&& Int32.ofInt 15).toInt)) 0 (Nat.lt_succ_self _) (by exact gz_m 227 (by omega))
          · refine gv_pick [] rfl ?_
            exact L72 
    · have f283 := (gr_b_0_169 hI)
      refine gv_run 3 true hD (pc' := 20) (lv' := [(0, .inr (.inr (some 0))), (1, .inl a1), (2, .inl a2), (3, .inl (I 0 167))]) (st' := [.inl (I 0 169), .inl a2]) (h' := gr_h I J) (C := (((True ∧ True) ∧ True) ∧ True)) rfl ⟨⟨⟨trivial, trivial⟩, trivial⟩, trivial⟩ ?_
      refine gv_icmp_ne (t := 27) hD rfl rfl ⟨⟨by exact gz_m 228 (by omega), by exact gz_m 229 (by omega)⟩, ⟨by exact gz_m 230 (by omega), by exact gz_m 231 (by omega)⟩⟩ (fun c284 => ?_) (fun c284 => ?_)
      · refine gv_pick [] rfl ?_
        exact L27 I J hI FI FJ (by exact gz_m 232 (by omega)) x1 (gr_XT_rf I) (gr_IS_rf a1 I)
      · refine gv_run 1 true hD (pc' := 24) (lv' := [(0, .inr (.inr (some 0))), (1, .inl a1), (2, .inl a2), (3, .inl (I 0 167))]) (st' := [.inr (.inr (some 0))]) (h' := gr_h I J) (C := (True ∧ True)) rfl ⟨trivial, trivial⟩ ?_
        obtain ⟨r285, h285, E285, P285⟩ := r_finish (ws0 := ws0) (tb := tb) hws htb ext t o I J hI   x0 x1 (by have u1 : a1 = I 42 (Int.toNat (I 0 167)) := (by exact gz_m 233 (by omega)); have u2 : a2 = I 0 169 := (by exact gz_m 234 (by omega)); rw [← u1, ← u2]; exact x2) x3 (by exact gz_m 235 (by omega)) (by exact gz_m 236 (by omega)) (by exact gz_m 237 (by omega)) (by exact gz_m 238 (by omega)) (by exact gz_m 239 (by omega))
        obtain ⟨I286, J287, rfl, hI286, g285, k285, ⟨rfl, q285⟩⟩ := P285
        have FI286 := gr_frt FI g285 rfl rfl
        have FJ287 := gr_fjt FJ k285 rfl rfl
        have t288 := g285 0 143 rfl
        have t289 := g285 0 168 rfl
        have t290 := g285 0 169 rfl
        have t291 := g285 0 167 rfl
        have t292 := g285 0 161 rfl
        have f293 := (gr_b_0_157 hI286)
        have f294 := (gr_b_0_143 hI286)
        have f295 := (gr_b_0_158 hI286)
        have f296 := (gr_b_0_168 hI286)
        have f297 := (gr_b_0_169 hI286)
        have f298 := (gr_b_0_167 hI286)
        have f299 := (gr_b_0_161 hI286)
        have f300 := (gr_b_0_160 hI286)
        have t301 := q285.2.1
        refine gv_callV hD rfl (As := []) (st := []) rfl (by decide) rfl rfl (gr_lV hws rfl) (Nat.le_of_ble_eq_true rfl) (gz_Ev_mono (d := 3) (by exact gz_m 240 (by omega)) E285) ?_
        show gv_X _ _ (27, [(0, .inr (.inr (some 0))), (1, .inl a1), (2, .inl a2), (3, .inl (I 0 167))], [], gr_sh ++ ext, gr_h I286 J287)
        refine gv_pick [] rfl ?_
        exact L27 I286 J287 hI286 FI286 FJ287 (by exact gz_m 241 (by omega)) q285.1 (gr_XT_tr (gr_XT_rf I) q285.2) (gr_IS_tr (gr_IS_rf a1 I) (fun k _ => g285 103 k rfl))
  have f302 := (gr_b_0_167 hI)
  refine gv_run 3 true hD (pc' := 5) (lv' := [(3, .inl (I 0 167)), (0, .inr (.inr (some 0))), (1, .inl a1), (2, .inl a2)]) (st' := []) (h' := gr_h I J) (C := (((True ∧ True) ∧ True) ∧ True)) rfl ⟨⟨⟨trivial, trivial⟩, trivial⟩, trivial⟩ ?_
  refine gv_pick [1, 2, 3, 0] rfl ?_
  exact L5 (I 0 167) (by exact gz_m 242 (by omega))
