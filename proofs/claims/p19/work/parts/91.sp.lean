/-! A LINEARIZATION IS MATCHED. -/
theorem gr_NX_b {I : gr_I} (h : gr_NX I) {x : Int} (h0 : 0 ≤ x) (hx : x < I 0 157) : I 90 (Int.toNat x) < I 0 157 := h.elim (fun p hp => (hp (Int.toNat x) (by omega)).1)
def gr_IS (a : Int) (I I' : gr_I) : Prop := ∀ k : Nat, (k : Int) < a → I' 103 k = I 103 k
theorem gr_IS_rf (a : Int) (I : gr_I) : gr_IS a I I := fun _ _ => rfl
theorem gr_IS_tr {a : Int} {I I1 I2 : gr_I} (h : gr_IS a I I1) (g : gr_IS a I1 I2) : gr_IS a I I2 := fun k hk => (g k hk).trans (h k hk)
theorem gr_IS_w {a b : Int} {I I1 : gr_I} (h : gr_IS b I I1) (hb : a ≤ b) : gr_IS a I I1 := fun k hk => h k (by omega)
theorem gr_IT_t {it a : Int} {I : gr_I} (h : gr_IT it a I) (h0 : 0 ≤ it) (hx : 0 ≤ I 0 167) (hn : ¬ I 43 (Int.toNat (6 * I 0 167 + it)) < 0) : gr_IT (it + 1) (a + 1) I := by
  refine ⟨by have := h.1; omega, fun k hk hm => ?_⟩
  rw [show Int.toNat (6 * I 0 167 + it) = 6 * Int.toNat (I 0 167) + Int.toNat it from by omega] at hn
  have kt : (k : Int) < it := by
    by_cases c : (k : Int) < it
    · exact c
    · have e : k = Int.toNat it := by omega
      rw [e] at hm
      exact absurd hm hn
  obtain ⟨u1, u2, u3⟩ := h.2 k kt hm
  exact ⟨u1, ⟨u2.1, by omega, by omega, u2.2.2.2⟩, u3⟩
theorem gr_IT_a {it a e kk nd : Int} {i : Nat} {I I' : gr_I} (h : gr_IT it a I) (h0 : 0 ≤ it) (hx : 0 ≤ I 0 167) (hi : (i : Int) = it) (p : ∀ b j, ¬ (b = 103 ∧ j = i) → I' b j = I b j) (q : I' 103 i = nd) (hnd : 0 ≤ nd ∧ nd < I 0 157) (T : gr_T3 kk a e nd I) (hls : gr_LS I) (hk : kk = I 7 (Int.toNat (4 * I 41 (Int.toNat (I 0 167)) - 1 - I 43 (Int.toNat (6 * I 0 167 + it))))) : gr_IT (it + 1) e I' := by
  have r : ∀ b : Nat, ¬ b = 103 → I' b = I b := fun b hb => funext fun j => p b j (fun q => hb q.1)
  rw [show Int.toNat (6 * I 0 167 + it) = 6 * Int.toNat (I 0 167) + Int.toNat it from by omega] at hk
  rcases T with T | T
  · omega
  have ge := hls.1 (Int.toNat nd) (by omega)
  have h1 := h.1
  unfold gr_IT
  rw [r 0 (by decide), r 43 (by decide), r 104 (by decide), r 88 (by decide), r 87 (by decide), r 7 (by decide), r 41 (by decide)]
  refine ⟨by omega, fun k hk2 hm => ?_⟩
  by_cases c : (k : Int) < it
  · obtain ⟨u1, u2, u3⟩ := h.2 k c hm
    rw [p 103 k (fun q => by have := q.2; omega)]
    refine ⟨u1, ⟨u2.1, by omega, by omega, u2.2.2.2⟩, fun j hj hjm => ?_⟩
    rw [p 103 j (fun q => by have := q.2; omega)]
    exact u3 j hj hjm
  · have ek : k = i := by omega
    have ek2 : k = Int.toNat it := by omega
    rw [ek, q]
    refine ⟨hnd, ⟨by omega, by omega, by omega, ?_⟩, fun j hj hjm => ?_⟩
    · rw [← ek, ek2, T.1]
      exact hk
    · obtain ⟨u1, u2, u3⟩ := h.2 j (by omega) hjm
      rw [p 103 j (fun q => by have := q.2; omega)]
      omega
set_option maxHeartbeats 4000000 in
set_option maxRecDepth 100000 in
theorem r_match {ws0 : List Cond} {tb : String → gz_T} (hws : ∀ w ∈ gr_ws, w ∈ ws0) (htb : tb RX13 = gr_T) (ext : gz_Sh) (t : Int) (o : Int) : ∀ (nr : Nat) (I : gr_I) (J : gr_J) (hI : gr_Inv I) (a1 : Int) (a2 : Int) (ha1 : 0 ≤ a1 ∧ a1 ≤ 6) (ha2 : 0 ≤ a2 ∧ a2 ≤ 24) (x0 : gr_GR I) (x1 : gr_FO t o I) (x2 : gr_IT a1 a2 I) (x3 : o = ((I 0 169 - I 0 168) * 25 + I 0 168) * 32 + I 8 (Int.toNat (I 41 (Int.toNat (I 0 167))))) (x4 : 0 ≤ t ∧ t ≤ 7) (x5 : 384 * t ≤ I 0 167) (x6 : I 0 167 < 384 * t + I 19 (Int.toNat t)) (x7 : I 0 168 < I 0 169) (x8 : I 0 169 ≤ I 0 143) (x9 : a1 ≤ I 42 (Int.toNat (I 0 167))) (x10 : a2 ≤ I 0 169) (x11 : I 0 161 ≤ 400000) (_ : (6 - a1).toNat < nr), ∃ r h', gz_Ev ws0 tb (3 + nr) (yX13_match, cX13_match, 12, none) [.inr (.inr (some 0)), .inl a1, .inl a2] (gr_sh ++ ext) (gr_h I J) r (gr_sh ++ ext) h' 0 0 ∧ (∃ (I' : gr_I) (J' : gr_J), h' = gr_h I' J' ∧ gr_Inv I' ∧ gr_fr [157, 158, 160, 161] [87, 88, 89, 90, 92, 93, 94, 95, 96, 97, 98, 100, 101, 103, 104] I I' ∧ gr_fj [157, 158, 160, 161] [87, 88, 89, 90, 92, 93, 94, 95, 96, 97, 98, 100, 101, 103, 104] J J' ∧ r = none ∧ (gr_FO t o I') ∧ (gr_XT I I') ∧ (gr_IS a1 I I') ∧ (I 0 161 ≤ I' 0 161) ∧ (I' 0 160 = 0 → I' 0 161 ≤ 400000)) := by
  intro nr
  induction nr with
  | zero => intro I J hI a1 a2 ha1 ha2 x0 x1 x2 x3 x4 x5 x6 x7 x8 x9 x10 x11 hnr; omega
  | succ nr ihR =>
  intro I J hI a1 a2 ha1 ha2 x0 x1 x2 x3 x4 x5 x6 x7 x8 x9 x10 x11 hnr
  have FI : gr_fr [157, 158, 160, 161] [87, 88, 89, 90, 92, 93, 94, 95, 96, 97, 98, 100, 101, 103, 104] I I := fun _ _ _ => rfl
  have FJ : gr_fj [157, 158, 160, 161] [87, 88, 89, 90, 92, 93, 94, 95, 96, 97, 98, 100, 101, 103, 104] J J := fun _ _ _ => rfl
  have hD : gv_D (gr_E ws0 tb (3 + nr) (yX13_match, cX13_match, 12, none) kX13_match) := gq_ok oX13_match
  refine gr_ev (d := (3 + nr)) (l := kX13_match) (Po := fun r h' => (∃ (I' : gr_I) (J' : gr_J), h' = gr_h I' J' ∧ gr_Inv I' ∧ gr_fr [157, 158, 160, 161] [87, 88, 89, 90, 92, 93, 94, 95, 96, 97, 98, 100, 101, 103, 104] I I' ∧ gr_fj [157, 158, 160, 161] [87, 88, 89, 90, 92, 93, 94, 95, 96, 97, 98, 100, 101, 103, 104] J J' ∧ r = none ∧ (gr_FO t o I') ∧ (gr_XT I I') ∧ (gr_IS a1 I I') ∧ (I 0 161 ≤ I' 0 161) ∧ (I' 0 160 = 0 → I' 0 161 ≤ 400000))) htb rfl (Nat.le_of_ble_eq_true rfl) ?_
  have f1 := (show 0 ≤ I 0 157 ∧ I 0 157 ≤ 3000 from (hI 0 157).1)
  have f2 := (show 0 ≤ I 0 143 ∧ I 0 143 ≤ 24 from (hI 0 143).1)
  have f3 := (show 0 ≤ I 0 158 ∧ I 0 158 ≤ 9000 from (hI 0 158).1)
  have f4 := (show 0 ≤ I 0 168 ∧ I 0 168 ≤ 24 from (hI 0 168).1)
  have f5 := (show 0 ≤ I 0 169 ∧ I 0 169 ≤ 24 from (hI 0 169).1)
  have f6 := (show 0 ≤ I 0 167 ∧ I 0 167 ≤ 3071 from (hI 0 167).1)
  have f7 := (show 0 ≤ I 0 161 ∧ I 0 161 ≤ 400001 from (hI 0 161).1)
  have f8 := (show 0 ≤ I 0 160 ∧ I 0 160 ≤ 1 from (hI 0 160).1)
  have L5 : ∀ (v3_9 : Int), ((0 ≤ a1 ∧ a1 ≤ 6) ∧ (0 ≤ a2 ∧ a2 ≤ 24) ∧ (0 ≤ v3_9 ∧ v3_9 ≤ 3071) ∧ (v3_9 = I 0 167)) → gv_X (gr_E ws0 tb (3 + nr) (yX13_match, cX13_match, 12, none) kX13_match) (gv_Q cX13_match none (gr_sh ++ ext) (fun r h' => (∃ (I' : gr_I) (J' : gr_J), h' = gr_h I' J' ∧ gr_Inv I' ∧ gr_fr [157, 158, 160, 161] [87, 88, 89, 90, 92, 93, 94, 95, 96, 97, 98, 100, 101, 103, 104] I I' ∧ gr_fj [157, 158, 160, 161] [87, 88, 89, 90, 92, 93, 94, 95, 96, 97, 98, 100, 101, 103, 104] J J' ∧ r = none ∧ (gr_FO t o I') ∧ (gr_XT I I') ∧ (gr_IS a1 I I') ∧ (I 0 161 ≤ I' 0 161) ∧ (I' 0 160 = 0 → I' 0 161 ≤ 400000)))) (5, [(0, .inr (.inr (some 0))), (1, .inl a1), (2, .inl a2), (3, .inl v3_9)], [], gr_sh ++ ext, gr_h I J) := by
    intro v3_9 m_9
    obtain ⟨ha1_9, ha2_9, hv3_9, e0_9⟩ := m_9
    have q9_9 := e0_9
    subst q9_9
    have f10 := (show 0 ≤ I 0 157 ∧ I 0 157 ≤ 3000 from (hI 0 157).1)
    have f11 := (show 0 ≤ I 0 143 ∧ I 0 143 ≤ 24 from (hI 0 143).1)
    have f12 := (show 0 ≤ I 0 158 ∧ I 0 158 ≤ 9000 from (hI 0 158).1)
    have f13 := (show 0 ≤ I 0 168 ∧ I 0 168 ≤ 24 from (hI 0 168).1)
    have f14 := (show 0 ≤ I 0 169 ∧ I 0 169 ≤ 24 from (hI 0 169).1)
    have f15 := (show 0 ≤ I 0 167 ∧ I 0 167 ≤ 3071 from (hI 0 167).1)
    have f16 := (show 0 ≤ I 0 161 ∧ I 0 161 ≤ 400001 from (hI 0 161).1)
    have f17 := (show 0 ≤ I 0 160 ∧ I 0 160 ≤ 1 from (hI 0 160).1)
    have L27 : ∀ (I18 : gr_I) (J19 : gr_J) , gr_Inv I18 → gr_fr [157, 158, 160, 161] [87, 88, 89, 90, 92, 93, 94, 95, 96, 97, 98, 100, 101, 103, 104] I I18 → gr_fj [157, 158, 160, 161] [87, 88, 89, 90, 92, 93, 94, 95, 96, 97, 98, 100, 101, 103, 104] J J19 → ((I 0 161 ≤ I18 0 161) ∧ (I18 0 160 = 0 → I18 0 161 ≤ 400000)) → (gr_FO t o I18) → (gr_XT I I18) → (gr_IS a1 I I18) → gv_X (gr_E ws0 tb (3 + nr) (yX13_match, cX13_match, 12, none) kX13_match) (gv_Q cX13_match none (gr_sh ++ ext) (fun r h' => (∃ (I' : gr_I) (J' : gr_J), h' = gr_h I' J' ∧ gr_Inv I' ∧ gr_fr [157, 158, 160, 161] [87, 88, 89, 90, 92, 93, 94, 95, 96, 97, 98, 100, 101, 103, 104] I I' ∧ gr_fj [157, 158, 160, 161] [87, 88, 89, 90, 92, 93, 94, 95, 96, 97, 98, 100, 101, 103, 104] J J' ∧ r = none ∧ (gr_FO t o I') ∧ (gr_XT I I') ∧ (gr_IS a1 I I') ∧ (I 0 161 ≤ I' 0 161) ∧ (I' 0 160 = 0 → I' 0 161 ≤ 400000)))) (27, [], [], gr_sh ++ ext, gr_h I18 J19) := by
      intro I18 J19 hI18 FI18 FJ19 m_20 e0_20 e1_20 e2_20
      clear ha1_9 ha2_9 hv3_9 e0_9 f10 f11 f12 f13 f14 f15 f16 f17
      obtain ⟨e3_20, e4_20⟩ := m_20
      have f21 := (show 0 ≤ I18 0 157 ∧ I18 0 157 ≤ 3000 from (hI18 0 157).1)
      have f22 := (show 0 ≤ I18 0 143 ∧ I18 0 143 ≤ 24 from (hI18 0 143).1)
      have f23 := (show 0 ≤ I18 0 158 ∧ I18 0 158 ≤ 9000 from (hI18 0 158).1)
      have f24 := (show 0 ≤ I18 0 168 ∧ I18 0 168 ≤ 24 from (hI18 0 168).1)
      have f25 := (show 0 ≤ I18 0 169 ∧ I18 0 169 ≤ 24 from (hI18 0 169).1)
      have f26 := (show 0 ≤ I18 0 167 ∧ I18 0 167 ≤ 3071 from (hI18 0 167).1)
      have f27 := (show 0 ≤ I18 0 161 ∧ I18 0 161 ≤ 400001 from (hI18 0 161).1)
      have f28 := (show 0 ≤ I18 0 160 ∧ I18 0 160 ≤ 1 from (hI18 0 160).1)
      have t29 := FI18 0 168 rfl
      have t30 := FI18 0 169 rfl
      have t31 := FI18 0 167 rfl
      have t32 := FI18 0 143 rfl
      have t33 := FI18 19 (Int.toNat t) rfl
      exact gv_vret hD rfl ⟨I18, J19, rfl, hI18, FI18, FJ19, ⟨rfl, e0_20, e1_20, e2_20, by omega, by omega⟩⟩
    have L72 : gv_X (gr_E ws0 tb (3 + nr) (yX13_match, cX13_match, 12, none) kX13_match) (gv_Q cX13_match none (gr_sh ++ ext) (fun r h' => (∃ (I' : gr_I) (J' : gr_J), h' = gr_h I' J' ∧ gr_Inv I' ∧ gr_fr [157, 158, 160, 161] [87, 88, 89, 90, 92, 93, 94, 95, 96, 97, 98, 100, 101, 103, 104] I I' ∧ gr_fj [157, 158, 160, 161] [87, 88, 89, 90, 92, 93, 94, 95, 96, 97, 98, 100, 101, 103, 104] J J' ∧ r = none ∧ (gr_FO t o I') ∧ (gr_XT I I') ∧ (gr_IS a1 I I') ∧ (I 0 161 ≤ I' 0 161) ∧ (I' 0 160 = 0 → I' 0 161 ≤ 400000)))) (72, [], [], gr_sh ++ ext, gr_h I J) := by
      have f35 := (show 0 ≤ I 0 157 ∧ I 0 157 ≤ 3000 from (hI 0 157).1)
      have f36 := (show 0 ≤ I 0 143 ∧ I 0 143 ≤ 24 from (hI 0 143).1)
      have f37 := (show 0 ≤ I 0 158 ∧ I 0 158 ≤ 9000 from (hI 0 158).1)
      have f38 := (show 0 ≤ I 0 168 ∧ I 0 168 ≤ 24 from (hI 0 168).1)
      have f39 := (show 0 ≤ I 0 169 ∧ I 0 169 ≤ 24 from (hI 0 169).1)
      have f40 := (show 0 ≤ I 0 167 ∧ I 0 167 ≤ 3071 from (hI 0 167).1)
      have f41 := (show 0 ≤ I 0 161 ∧ I 0 161 ≤ 400001 from (hI 0 161).1)
      have f42 := (show 0 ≤ I 0 160 ∧ I 0 160 ≤ 1 from (hI 0 160).1)
      exact gv_vret hD rfl ⟨I, J, rfl, hI, FI, FJ, ⟨rfl, x1, (gr_XT_rf I), (gr_IS_rf a1 I), by omega, by omega⟩⟩
    have L76 : ∀ (n : Nat) (v4_43 : Int) (v5_43 : Int) (v6_43 : Int), (16 - v6_43).toNat < n → ((0 ≤ a1 ∧ a1 ≤ 6) ∧ (0 ≤ a2 ∧ a2 ≤ 23) ∧ (0 ≤ v4_43 ∧ v4_43 ≤ 32015) ∧ (0 ≤ v5_43 ∧ v5_43 ≤ 15) ∧ (0 ≤ v6_43 ∧ v6_43 ≤ 15) ∧ (v4_43 = I 43 (Int.toNat (6 * I 0 167 + a1))) ∧ (a1 < I 42 (Int.toNat (I 0 167)) ∧ I 42 (Int.toNat (I 0 167)) ≤ 6) ∧ (a2 < I 0 169)) → gv_X (gr_E ws0 tb (3 + nr) (yX13_match, cX13_match, 12, none) kX13_match) (gv_Q cX13_match none (gr_sh ++ ext) (fun r h' => (∃ (I' : gr_I) (J' : gr_J), h' = gr_h I' J' ∧ gr_Inv I' ∧ gr_fr [157, 158, 160, 161] [87, 88, 89, 90, 92, 93, 94, 95, 96, 97, 98, 100, 101, 103, 104] I I' ∧ gr_fj [157, 158, 160, 161] [87, 88, 89, 90, 92, 93, 94, 95, 96, 97, 98, 100, 101, 103, 104] J J' ∧ r = none ∧ (gr_FO t o I') ∧ (gr_XT I I') ∧ (gr_IS a1 I I') ∧ (I 0 161 ≤ I' 0 161) ∧ (I' 0 160 = 0 → I' 0 161 ≤ 400000)))) (76, [(0, .inr (.inr (some 0))), (1, .inl a1), (2, .inl a2), (4, .inl v4_43), (5, .inl v5_43), (6, .inl v6_43)], [], gr_sh ++ ext, gr_h I J) := by
      intro n
      induction n with
      | zero => intro v4_43 v5_43 v6_43 hn; omega
      | succ n ih76 =>
        intro v4_43 v5_43 v6_43 hn m_43
        obtain ⟨ha1_43, ha2_43, hv4_43, hv5_43, hv6_43, e0_43, e1_43, e2_43⟩ := m_43
        have f44 := (show 0 ≤ I 0 157 ∧ I 0 157 ≤ 3000 from (hI 0 157).1)
        have f45 := (show 0 ≤ I 0 143 ∧ I 0 143 ≤ 24 from (hI 0 143).1)
        have f46 := (show 0 ≤ I 0 158 ∧ I 0 158 ≤ 9000 from (hI 0 158).1)
        have f47 := (show 0 ≤ I 0 168 ∧ I 0 168 ≤ 24 from (hI 0 168).1)
        have f48 := (show 0 ≤ I 0 169 ∧ I 0 169 ≤ 24 from (hI 0 169).1)
        have f49 := (show 0 ≤ I 0 167 ∧ I 0 167 ≤ 3071 from (hI 0 167).1)
        have f50 := (show 0 ≤ I 0 161 ∧ I 0 161 ≤ 400001 from (hI 0 161).1)
        have f51 := (show 0 ≤ I 0 160 ∧ I 0 160 ≤ 1 from (hI 0 160).1)
        refine gv_run 2 true hD (pc' := 80) (lv' := [(0, .inr (.inr (some 0))), (1, .inl a1), (2, .inl a2), (4, .inl v4_43), (5, .inl v5_43), (6, .inl v6_43)]) (st' := [.inl v5_43, .inl v6_43]) (h' := gr_h I J) (C := ((True ∧ True) ∧ True)) rfl ⟨⟨trivial, trivial⟩, trivial⟩ ?_
        refine gv_icmp_ge (t := 117) hD rfl rfl ⟨⟨by omega, by omega⟩, ⟨by omega, by omega⟩⟩ (fun c52 => ?_) (fun c52 => ?_)
        · refine gv_run 7 true hD (pc' := 124) (lv' := [(0, .inr (.inr (some 0))), (1, .inl a1), (2, .inl a2), (4, .inl v4_43), (5, .inl v5_43), (6, .inl v6_43)]) (st' := [.inl (a2 + 1), .inl (a1 + 1), .inr (.inr (some 0))]) (h' := gr_h I J) (C := (((((((True ∧ True) ∧ True) ∧ True) ∧ True) ∧ True) ∧ True) ∧ True)) rfl ⟨⟨⟨⟨⟨⟨⟨trivial, trivial⟩, trivial⟩, trivial⟩, trivial⟩, trivial⟩, trivial⟩, trivial⟩ ?_
          obtain ⟨r53, h53, E53, P53⟩ := ihR I J hI (a1 + 1) (a2 + 1) ⟨by omega, by omega⟩ ⟨by omega, by omega⟩ x0 x1 (gr_IT_t x2 (by omega) (by omega) (by omega)) x3 (by omega) (by omega) (by omega) (by omega) (by omega) (by omega) (by omega) (by omega) (by omega)
          obtain ⟨I54, J55, rfl, hI54, g53, k53, ⟨rfl, q53⟩⟩ := P53
          have FI54 := gr_frt FI g53 rfl rfl
          have FJ55 := gr_fjt FJ k53 rfl rfl
          have t56 := g53 0 143 rfl
          have t57 := g53 0 168 rfl
          have t58 := g53 0 169 rfl
          have t59 := g53 0 167 rfl
          have f60 := (show 0 ≤ I54 0 157 ∧ I54 0 157 ≤ 3000 from (hI54 0 157).1)
          have f61 := (show 0 ≤ I54 0 143 ∧ I54 0 143 ≤ 24 from (hI54 0 143).1)
          have f62 := (show 0 ≤ I54 0 158 ∧ I54 0 158 ≤ 9000 from (hI54 0 158).1)
          have f63 := (show 0 ≤ I54 0 168 ∧ I54 0 168 ≤ 24 from (hI54 0 168).1)
          have f64 := (show 0 ≤ I54 0 169 ∧ I54 0 169 ≤ 24 from (hI54 0 169).1)
          have f65 := (show 0 ≤ I54 0 167 ∧ I54 0 167 ≤ 3071 from (hI54 0 167).1)
          have f66 := (show 0 ≤ I54 0 161 ∧ I54 0 161 ≤ 400001 from (hI54 0 161).1)
          have f67 := (show 0 ≤ I54 0 160 ∧ I54 0 160 ≤ 1 from (hI54 0 160).1)
          have t68 := q53.2.1.1
          refine gv_callV hD rfl (As := [.inl (a1 + 1), .inl (a2 + 1)]) (st := []) rfl (by decide) rfl rfl (gr_lV hws rfl) (Nat.le_of_ble_eq_true rfl) (gz_Ev_mono (d := (3 + nr)) (Nat.le_refl _) E53) ?_
          show gv_X _ _ (127, [(0, .inr (.inr (some 0))), (1, .inl a1), (2, .inl a2), (4, .inl v4_43), (5, .inl v5_43), (6, .inl v6_43)], [], gr_sh ++ ext, gr_h I54 J55)
          exact gv_vret hD rfl ⟨I54, J55, rfl, hI54, FI54, FJ55, ⟨rfl, q53.1, (gr_XT_tr (gr_XT_rf I) q53.2.1), (gr_IS_tr (gr_IS_rf a1 I) (gr_IS_w q53.2.2.1 (by omega))), by omega, by omega⟩⟩
        · refine gv_run 7 true hD (pc' := 94) (lv' := [(0, .inr (.inr (some 0))), (1, .inl a1), (2, .inl a2), (4, .inl v4_43), (5, .inl v5_43), (6, .inl v6_43)]) (st' := [.inl ((24 * a2) + v6_43), .inr (.inr (some 83))]) (h' := gr_h I J) (C := (((((((True ∧ True) ∧ True) ∧ True) ∧ True) ∧ True) ∧ True) ∧ True)) rfl ⟨⟨⟨⟨⟨⟨⟨trivial, trivial⟩, trivial⟩, trivial⟩, trivial⟩, trivial⟩, trivial⟩, trivial⟩ ?_
          have f69 := (show (-128) ≤ I 83 (Int.toNat (((24 * a2) + v6_43))) ∧ I 83 (Int.toNat (((24 * a2) + v6_43))) ≤ 127 from (hI 83 (Int.toNat (((24 * a2) + v6_43)))).1)
          refine gv_run 1 true hD (pc' := 95) (lv' := [(0, .inr (.inr (some 0))), (1, .inl a1), (2, .inl a2), (4, .inl v4_43), (5, .inl v5_43), (6, .inl v6_43)]) (st' := [.inl (I 83 (Int.toNat (((24 * a2) + v6_43))))]) (h' := gr_h I J) (C := (True ∧ (0 ≤ (((24 * a2) + v6_43)) ∧ (((24 * a2) + v6_43)) < ((576 : Nat) : Int)))) rfl ⟨trivial, ⟨by omega, by omega⟩⟩ ?_
          have f70 := gw_shr (x := v4_43) (y := 4) ⟨by omega, by omega⟩
          refine gv_run 7 true hD (pc' := 106) (lv' := [(0, .inr (.inr (some 0))), (1, .inl a1), (2, .inl a2), (4, .inl v4_43), (5, .inl v5_43), (6, .inl v6_43)]) (st' := [.inl (((Int32.ofInt v4_43 >>> (Int32.ofInt 4 &&& 31)).toInt) + v6_43), .inr (.inr (some 51)), .inl (I 83 (Int.toNat (((24 * a2) + v6_43))))]) (h' := gr_h I J) (C := (((((((True ∧ True) ∧ True) ∧ True) ∧ True) ∧ True) ∧ True) ∧ True)) rfl ⟨⟨⟨⟨⟨⟨⟨trivial, trivial⟩, trivial⟩, trivial⟩, trivial⟩, trivial⟩, trivial⟩, trivial⟩ ?_
          have f71 := (show (-128) ≤ I 51 (Int.toNat ((((Int32.ofInt v4_43 >>> (Int32.ofInt 4 &&& 31)).toInt) + v6_43))) ∧ I 51 (Int.toNat ((((Int32.ofInt v4_43 >>> (Int32.ofInt 4 &&& 31)).toInt) + v6_43))) ≤ 127 from (hI 51 (Int.toNat ((((Int32.ofInt v4_43 >>> (Int32.ofInt 4 &&& 31)).toInt) + v6_43)))).1)
          refine gv_run 1 true hD (pc' := 107) (lv' := [(0, .inr (.inr (some 0))), (1, .inl a1), (2, .inl a2), (4, .inl v4_43), (5, .inl v5_43), (6, .inl v6_43)]) (st' := [.inl (I 51 (Int.toNat ((((Int32.ofInt v4_43 >>> (Int32.ofInt 4 &&& 31)).toInt) + v6_43)))), .inl (I 83 (Int.toNat (((24 * a2) + v6_43))))]) (h' := gr_h I J) (C := (True ∧ (0 ≤ ((((Int32.ofInt v4_43 >>> (Int32.ofInt 4 &&& 31)).toInt) + v6_43)) ∧ ((((Int32.ofInt v4_43 >>> (Int32.ofInt 4 &&& 31)).toInt) + v6_43)) < ((82000 : Nat) : Int)))) rfl ⟨trivial, ⟨by omega, by omega⟩⟩ ?_
          refine gv_icmp_eq (t := 111) hD rfl rfl ⟨⟨by omega, by omega⟩, ⟨by omega, by omega⟩⟩ (fun c72 => ?_) (fun c72 => ?_)
          · refine gv_run 2 true hD (pc' := 76) (lv' := [(6, .inl (v6_43 + 1)), (0, .inr (.inr (some 0))), (1, .inl a1), (2, .inl a2), (4, .inl v4_43), (5, .inl v5_43)]) (st' := []) (h' := gr_h I J) (C := ((True ∧ True) ∧ True)) rfl ⟨⟨trivial, trivial⟩, trivial⟩ ?_
            refine gv_pick [1, 2, 3, 4, 5, 0] rfl ?_
            exact ih76 v4_43 v5_43 (v6_43 + 1) (by omega) (by omega)
          · exact gv_vret hD rfl ⟨I, J, rfl, hI, FI, FJ, ⟨rfl, x1, (gr_XT_rf I), (gr_IS_rf a1 I), by omega, by omega⟩⟩
    have L204 : ∀ (v5_73 : Int) (v6_73 : Int) (v7_73 : Int) (v8_73 : Int) (s0_73 : Int), ((0 ≤ a1 ∧ a1 ≤ 6) ∧ (0 ≤ a2 ∧ a2 ≤ 24) ∧ (0 ≤ v5_73 ∧ v5_73 ≤ 3) ∧ (0 ≤ v6_73 ∧ v6_73 ≤ 16777215) ∧ (0 ≤ v7_73 ∧ v7_73 ≤ 31) ∧ ((-5) ≤ v8_73 ∧ v8_73 ≤ 31) ∧ (0 ≤ s0_73 ∧ s0_73 ≤ 25) ∧ (v5_73 = -1 - I 43 (Int.toNat (6 * I 0 167 + a1))) ∧ (v7_73 = I 7 (Int.toNat (4 * I 41 (Int.toNat (I 0 167)) - 1 - I 43 (Int.toNat (6 * I 0 167 + a1))))) ∧ (v8_73 = I 0 169 - (I 42 (Int.toNat (I 0 167)) - a1 - 1)) ∧ (a1 < I 42 (Int.toNat (I 0 167)) ∧ I 42 (Int.toNat (I 0 167)) ≤ 6)) → gv_X (gr_E ws0 tb (3 + nr) (yX13_match, cX13_match, 12, none) kX13_match) (gv_Q cX13_match none (gr_sh ++ ext) (fun r h' => (∃ (I' : gr_I) (J' : gr_J), h' = gr_h I' J' ∧ gr_Inv I' ∧ gr_fr [157, 158, 160, 161] [87, 88, 89, 90, 92, 93, 94, 95, 96, 97, 98, 100, 101, 103, 104] I I' ∧ gr_fj [157, 158, 160, 161] [87, 88, 89, 90, 92, 93, 94, 95, 96, 97, 98, 100, 101, 103, 104] J J' ∧ r = none ∧ (gr_FO t o I') ∧ (gr_XT I I') ∧ (gr_IS a1 I I') ∧ (I 0 161 ≤ I' 0 161) ∧ (I' 0 160 = 0 → I' 0 161 ≤ 400000)))) (204, [(0, .inr (.inr (some 0))), (1, .inl a1), (2, .inl a2), (5, .inl v5_73), (6, .inl v6_73), (7, .inl v7_73), (8, .inl v8_73)], [.inl s0_73], gr_sh ++ ext, gr_h I J) := by
      intro v5_73 v6_73 v7_73 v8_73 s0_73 m_73
      obtain ⟨ha1_73, ha2_73, hv5_73, hv6_73, hv7_73, hv8_73, hs0_73, e0_73, e1_73, e2_73, e3_73⟩ := m_73
      have f74 := (show 0 ≤ I 0 157 ∧ I 0 157 ≤ 3000 from (hI 0 157).1)
      have f75 := (show 0 ≤ I 0 143 ∧ I 0 143 ≤ 24 from (hI 0 143).1)
      have f76 := (show 0 ≤ I 0 158 ∧ I 0 158 ≤ 9000 from (hI 0 158).1)
      have f77 := (show 0 ≤ I 0 168 ∧ I 0 168 ≤ 24 from (hI 0 168).1)
      have f78 := (show 0 ≤ I 0 169 ∧ I 0 169 ≤ 24 from (hI 0 169).1)
      have f79 := (show 0 ≤ I 0 167 ∧ I 0 167 ≤ 3071 from (hI 0 167).1)
      have f80 := (show 0 ≤ I 0 161 ∧ I 0 161 ≤ 400001 from (hI 0 161).1)
      have f81 := (show 0 ≤ I 0 160 ∧ I 0 160 ≤ 1 from (hI 0 160).1)
      have L206 : ∀ (n : Nat) (I82 : gr_I) (J83 : gr_J) (v9_84 : Int), (26 - v9_84).toNat < n → gr_Inv I82 → gr_fr [157, 158, 160, 161] [87, 88, 89, 90, 92, 93, 94, 95, 96, 97, 98, 100, 101, 103, 104] I I82 → gr_fj [157, 158, 160, 161] [87, 88, 89, 90, 92, 93, 94, 95, 96, 97, 98, 100, 101, 103, 104] J J83 → ((0 ≤ a1 ∧ a1 ≤ 6) ∧ (0 ≤ a2 ∧ a2 ≤ 24) ∧ (0 ≤ v5_73 ∧ v5_73 ≤ 3) ∧ (0 ≤ v6_73 ∧ v6_73 ≤ 16777215) ∧ (0 ≤ v7_73 ∧ v7_73 ≤ 31) ∧ ((-5) ≤ v8_73 ∧ v8_73 ≤ 24) ∧ (0 ≤ v9_84 ∧ v9_84 ≤ 25) ∧ (I 0 161 ≤ I82 0 161) ∧ (I82 0 160 = 0 → I82 0 161 ≤ 400000) ∧ (v5_73 = -1 - I 43 (Int.toNat (6 * I 0 167 + a1))) ∧ (v7_73 = I 7 (Int.toNat (4 * I 41 (Int.toNat (I 0 167)) - 1 - I 43 (Int.toNat (6 * I 0 167 + a1))))) ∧ (v8_73 = I 0 169 - (I 42 (Int.toNat (I 0 167)) - a1 - 1)) ∧ (a1 < I 42 (Int.toNat (I 0 167)) ∧ I 42 (Int.toNat (I 0 167)) ≤ 6)) → (gr_FO t o I82) → (gr_XT I I82) → (gr_IS a1 I I82) → gv_X (gr_E ws0 tb (3 + nr) (yX13_match, cX13_match, 12, none) kX13_match) (gv_Q cX13_match none (gr_sh ++ ext) (fun r h' => (∃ (I' : gr_I) (J' : gr_J), h' = gr_h I' J' ∧ gr_Inv I' ∧ gr_fr [157, 158, 160, 161] [87, 88, 89, 90, 92, 93, 94, 95, 96, 97, 98, 100, 101, 103, 104] I I' ∧ gr_fj [157, 158, 160, 161] [87, 88, 89, 90, 92, 93, 94, 95, 96, 97, 98, 100, 101, 103, 104] J J' ∧ r = none ∧ (gr_FO t o I') ∧ (gr_XT I I') ∧ (gr_IS a1 I I') ∧ (I 0 161 ≤ I' 0 161) ∧ (I' 0 160 = 0 → I' 0 161 ≤ 400000)))) (206, [(0, .inr (.inr (some 0))), (1, .inl a1), (2, .inl a2), (5, .inl v5_73), (6, .inl v6_73), (7, .inl v7_73), (8, .inl v8_73), (9, .inl v9_84)], [], gr_sh ++ ext, gr_h I82 J83) := by
        intro n
        induction n with
        | zero => intro I82 J83 v9_84 hn; omega
        | succ n ih206 =>
          intro I82 J83 v9_84 hn hI82 FI82 FJ83 m_84 e0_84 e1_84 e2_84
          clear ha1_73 ha2_73 hv5_73 hv6_73 hv7_73 hv8_73 hs0_73 e0_73 e1_73 e2_73 e3_73 f74 f75 f76 f77 f78 f79 f80 f81 ha1_9 ha2_9 hv3_9 e0_9 f10 f11 f12 f13 f14 f15 f16 f17
          obtain ⟨ha1_84, ha2_84, hv5_73_84, hv6_73_84, hv7_73_84, hv8_73_84, hv9_84, e3_84, e4_84, e5_84, e6_84, e7_84, e8_84⟩ := m_84
          have f85 := (show 0 ≤ I82 0 157 ∧ I82 0 157 ≤ 3000 from (hI82 0 157).1)
          have f86 := (show 0 ≤ I82 0 143 ∧ I82 0 143 ≤ 24 from (hI82 0 143).1)
          have f87 := (show 0 ≤ I82 0 158 ∧ I82 0 158 ≤ 9000 from (hI82 0 158).1)
          have f88 := (show 0 ≤ I82 0 168 ∧ I82 0 168 ≤ 24 from (hI82 0 168).1)
          have f89 := (show 0 ≤ I82 0 169 ∧ I82 0 169 ≤ 24 from (hI82 0 169).1)
          have f90 := (show 0 ≤ I82 0 167 ∧ I82 0 167 ≤ 3071 from (hI82 0 167).1)
          have f91 := (show 0 ≤ I82 0 161 ∧ I82 0 161 ≤ 400001 from (hI82 0 161).1)
          have f92 := (show 0 ≤ I82 0 160 ∧ I82 0 160 ≤ 1 from (hI82 0 160).1)
          have t93 := FI82 0 168 rfl
          have t94 := FI82 0 169 rfl
          have t95 := FI82 0 167 rfl
          have t96 := FI82 0 143 rfl
          have t97 := FI82 19 (Int.toNat t) rfl
          have L233 : ∀ (n : Nat) (I98 : gr_I) (J99 : gr_J) (v10_100 : Int), (400001 - I98 0 161).toNat < n → gr_Inv I98 → gr_fr [157, 158, 160, 161] [87, 88, 89, 90, 92, 93, 94, 95, 96, 97, 98, 100, 101, 103, 104] I I98 → gr_fj [157, 158, 160, 161] [87, 88, 89, 90, 92, 93, 94, 95, 96, 97, 98, 100, 101, 103, 104] J J99 → ((0 ≤ a1 ∧ a1 ≤ 6) ∧ (0 ≤ a2 ∧ a2 ≤ 24) ∧ (0 ≤ v5_73 ∧ v5_73 ≤ 3) ∧ (0 ≤ v6_73 ∧ v6_73 ≤ 16777215) ∧ (0 ≤ v7_73 ∧ v7_73 ≤ 31) ∧ (0 ≤ v8_73 ∧ v8_73 ≤ 24) ∧ (0 ≤ v9_84 ∧ v9_84 ≤ 24) ∧ ((-1) ≤ v10_100 ∧ v10_100 ≤ 2999) ∧ (I 0 161 ≤ I98 0 161) ∧ (I98 0 160 = 0 → I98 0 161 ≤ 400000) ∧ (v10_100 < I98 0 157) ∧ (v9_84 ≤ v8_73) ∧ (v5_73 = -1 - I 43 (Int.toNat (6 * I 0 167 + a1))) ∧ (v7_73 = I 7 (Int.toNat (4 * I 41 (Int.toNat (I 0 167)) - 1 - I 43 (Int.toNat (6 * I 0 167 + a1))))) ∧ (v8_73 = I 0 169 - (I 42 (Int.toNat (I 0 167)) - a1 - 1)) ∧ (a1 < I 42 (Int.toNat (I 0 167)) ∧ I 42 (Int.toNat (I 0 167)) ≤ 6)) → (gr_FO t o I98) → (gr_XT I I98) → (gr_IS a1 I I98) → (gr_T3 v7_73 a2 v9_84 v10_100 I98) → gv_X (gr_E ws0 tb (3 + nr) (yX13_match, cX13_match, 12, none) kX13_match) (gv_Q cX13_match none (gr_sh ++ ext) (fun r h' => (∃ (I' : gr_I) (J' : gr_J), h' = gr_h I' J' ∧ gr_Inv I' ∧ gr_fr [157, 158, 160, 161] [87, 88, 89, 90, 92, 93, 94, 95, 96, 97, 98, 100, 101, 103, 104] I I' ∧ gr_fj [157, 158, 160, 161] [87, 88, 89, 90, 92, 93, 94, 95, 96, 97, 98, 100, 101, 103, 104] J J' ∧ r = none ∧ (gr_FO t o I') ∧ (gr_XT I I') ∧ (gr_IS a1 I I') ∧ (I 0 161 ≤ I' 0 161) ∧ (I' 0 160 = 0 → I' 0 161 ≤ 400000)))) (233, [(0, .inr (.inr (some 0))), (1, .inl a1), (2, .inl a2), (5, .inl v5_73), (6, .inl v6_73), (7, .inl v7_73), (8, .inl v8_73), (9, .inl v9_84), (10, .inl v10_100)], [], gr_sh ++ ext, gr_h I98 J99) := by
            intro n
            induction n with
            | zero => intro I98 J99 v10_100 hn; omega
            | succ n ih233 =>
              intro I98 J99 v10_100 hn hI98 FI98 FJ99 m_100 e0_100 e1_100 e2_100 e3_100
              clear ha1_84 ha2_84 hv5_73_84 hv6_73_84 hv7_73_84 hv8_73_84 hv9_84 e3_84 e4_84 e5_84 e6_84 e7_84 e8_84 f85 f86 f87 f88 f89 f90 f91 f92 t93 t94 t95 t96 t97
              obtain ⟨ha1_100, ha2_100, hv5_73_100, hv6_73_100, hv7_73_100, hv8_73_100, hv9_84_100, hv10_100, e4_100, e5_100, e6_100, e7_100, e8_100, e9_100, e10_100, e11_100⟩ := m_100
              have f101 := (show 0 ≤ I98 0 157 ∧ I98 0 157 ≤ 3000 from (hI98 0 157).1)
              have f102 := (show 0 ≤ I98 0 143 ∧ I98 0 143 ≤ 24 from (hI98 0 143).1)
              have f103 := (show 0 ≤ I98 0 158 ∧ I98 0 158 ≤ 9000 from (hI98 0 158).1)
              have f104 := (show 0 ≤ I98 0 168 ∧ I98 0 168 ≤ 24 from (hI98 0 168).1)
              have f105 := (show 0 ≤ I98 0 169 ∧ I98 0 169 ≤ 24 from (hI98 0 169).1)
              have f106 := (show 0 ≤ I98 0 167 ∧ I98 0 167 ≤ 3071 from (hI98 0 167).1)
              have f107 := (show 0 ≤ I98 0 161 ∧ I98 0 161 ≤ 400001 from (hI98 0 161).1)
              have f108 := (show 0 ≤ I98 0 160 ∧ I98 0 160 ≤ 1 from (hI98 0 160).1)
              have t109 := FI98 0 168 rfl
              have t110 := FI98 0 169 rfl
              have t111 := FI98 0 167 rfl
              have t112 := FI98 0 143 rfl
              have t113 := FI98 19 (Int.toNat t) rfl
              have L319 : ∀ (I114 : gr_I) (J115 : gr_J) , gr_Inv I114 → gr_fr [157, 158, 160, 161] [87, 88, 89, 90, 92, 93, 94, 95, 96, 97, 98, 100, 101, 103, 104] I I114 → gr_fj [157, 158, 160, 161] [87, 88, 89, 90, 92, 93, 94, 95, 96, 97, 98, 100, 101, 103, 104] J J115 → ((0 ≤ a1 ∧ a1 ≤ 6) ∧ (0 ≤ a2 ∧ a2 ≤ 24) ∧ (0 ≤ v5_73 ∧ v5_73 ≤ 3) ∧ (0 ≤ v6_73 ∧ v6_73 ≤ 16777215) ∧ (0 ≤ v7_73 ∧ v7_73 ≤ 31) ∧ (0 ≤ v8_73 ∧ v8_73 ≤ 24) ∧ (0 ≤ v9_84 ∧ v9_84 ≤ 24) ∧ (0 ≤ v10_100 ∧ v10_100 ≤ 2999) ∧ (I 0 161 ≤ I114 0 161) ∧ (I114 0 160 = 0 → I114 0 161 ≤ 400000) ∧ (v10_100 < I114 0 157) ∧ (v9_84 ≤ v8_73) ∧ (0 ≤ v10_100) ∧ (I98 0 161 < I114 0 161) ∧ (v5_73 = -1 - I 43 (Int.toNat (6 * I 0 167 + a1))) ∧ (v7_73 = I 7 (Int.toNat (4 * I 41 (Int.toNat (I 0 167)) - 1 - I 43 (Int.toNat (6 * I 0 167 + a1))))) ∧ (v8_73 = I 0 169 - (I 42 (Int.toNat (I 0 167)) - a1 - 1)) ∧ (a1 < I 42 (Int.toNat (I 0 167)) ∧ I 42 (Int.toNat (I 0 167)) ≤ 6)) → (gr_FO t o I114) → (gr_XT I I114) → (gr_IS a1 I I114) → (gr_T3 v7_73 a2 v9_84 v10_100 I114) → gv_X (gr_E ws0 tb (3 + nr) (yX13_match, cX13_match, 12, none) kX13_match) (gv_Q cX13_match none (gr_sh ++ ext) (fun r h' => (∃ (I' : gr_I) (J' : gr_J), h' = gr_h I' J' ∧ gr_Inv I' ∧ gr_fr [157, 158, 160, 161] [87, 88, 89, 90, 92, 93, 94, 95, 96, 97, 98, 100, 101, 103, 104] I I' ∧ gr_fj [157, 158, 160, 161] [87, 88, 89, 90, 92, 93, 94, 95, 96, 97, 98, 100, 101, 103, 104] J J' ∧ r = none ∧ (gr_FO t o I') ∧ (gr_XT I I') ∧ (gr_IS a1 I I') ∧ (I 0 161 ≤ I' 0 161) ∧ (I' 0 160 = 0 → I' 0 161 ≤ 400000)))) (319, [(0, .inr (.inr (some 0))), (1, .inl a1), (2, .inl a2), (5, .inl v5_73), (6, .inl v6_73), (7, .inl v7_73), (8, .inl v8_73), (9, .inl v9_84), (10, .inl v10_100)], [], gr_sh ++ ext, gr_h I114 J115) := by
                intro I114 J115 hI114 FI114 FJ115 m_116 e0_116 e1_116 e2_116 e3_116
                clear ha1_100 ha2_100 hv5_73_100 hv6_73_100 hv7_73_100 hv8_73_100 hv9_84_100 hv10_100 e4_100 e5_100 e6_100 e7_100 e8_100 e9_100 e10_100 e11_100 f101 f102 f103 f104 f105 f106 f107 f108 t109 t110 t111 t112 t113
                obtain ⟨ha1_116, ha2_116, hv5_73_116, hv6_73_116, hv7_73_116, hv8_73_116, hv9_84_116, hv10_100_116, e4_116, e5_116, e6_116, e7_116, e8_116, e9_116, e10_116, e11_116, e12_116, e13_116⟩ := m_116
                have f117 := (show 0 ≤ I114 0 157 ∧ I114 0 157 ≤ 3000 from (hI114 0 157).1)
                have f118 := (show 0 ≤ I114 0 143 ∧ I114 0 143 ≤ 24 from (hI114 0 143).1)
                have f119 := (show 0 ≤ I114 0 158 ∧ I114 0 158 ≤ 9000 from (hI114 0 158).1)
                have f120 := (show 0 ≤ I114 0 168 ∧ I114 0 168 ≤ 24 from (hI114 0 168).1)
                have f121 := (show 0 ≤ I114 0 169 ∧ I114 0 169 ≤ 24 from (hI114 0 169).1)
                have f122 := (show 0 ≤ I114 0 167 ∧ I114 0 167 ≤ 3071 from (hI114 0 167).1)
                have f123 := (show 0 ≤ I114 0 161 ∧ I114 0 161 ≤ 400001 from (hI114 0 161).1)
                have f124 := (show 0 ≤ I114 0 160 ∧ I114 0 160 ≤ 1 from (hI114 0 160).1)
                have t125 := FI114 0 168 rfl
                have t126 := FI114 0 169 rfl
                have t127 := FI114 0 167 rfl
                have t128 := FI114 0 143 rfl
                have t129 := FI114 19 (Int.toNat t) rfl
                have f130 := (show (-1) ≤ I114 90 (Int.toNat v10_100) ∧ I114 90 (Int.toNat v10_100) ≤ 2999 from (hI114 90 (Int.toNat v10_100)).1)
                refine gv_run 4 true hD (pc' := 326) (lv' := [(0, .inr (.inr (some 0))), (1, .inl a1), (2, .inl a2), (5, .inl v5_73), (6, .inl v6_73), (7, .inl v7_73), (8, .inl v8_73), (9, .inl v9_84), (10, .inl v10_100)]) (st' := [.inl (I114 90 (Int.toNat v10_100))]) (h' := gr_h I114 J115) (C := ((((True ∧ True) ∧ True) ∧ True) ∧ (0 ≤ v10_100 ∧ v10_100 < ((3000 : Nat) : Int)))) rfl ⟨⟨⟨⟨trivial, trivial⟩, trivial⟩, trivial⟩, ⟨by omega, by omega⟩⟩ ?_
                have t131 := gr_NX_b e0_116.1 (x := v10_100) (by omega) (by omega)
                refine gv_run 2 true hD (pc' := 233) (lv' := [(10, .inl (I114 90 (Int.toNat v10_100))), (0, .inr (.inr (some 0))), (1, .inl a1), (2, .inl a2), (5, .inl v5_73), (6, .inl v6_73), (7, .inl v7_73), (8, .inl v8_73), (9, .inl v9_84)]) (st' := []) (h' := gr_h I114 J115) (C := ((True ∧ True) ∧ True)) rfl ⟨⟨trivial, trivial⟩, trivial⟩ ?_
                refine gv_pick [1, 2, 3, 4, 5, 6, 7, 8, 0] rfl ?_
                exact ih233 I114 J115 ((I114 90 (Int.toNat v10_100))) (by omega) hI114 FI114 FJ115 (by omega) e0_116 e1_116 e2_116 (gr_LS_nx e0_116.2.2.2.1 e3_116 (by omega) (by omega))
              have L331 : ((0 ≤ a1 ∧ a1 ≤ 6) ∧ (0 ≤ a2 ∧ a2 ≤ 24) ∧ (0 ≤ v5_73 ∧ v5_73 ≤ 3) ∧ (0 ≤ v6_73 ∧ v6_73 ≤ 16777215) ∧ (0 ≤ v7_73 ∧ v7_73 ≤ 31) ∧ (0 ≤ v8_73 ∧ v8_73 ≤ 24) ∧ (0 ≤ v9_84 ∧ v9_84 ≤ 24) ∧ (I 0 161 ≤ I98 0 161) ∧ (I98 0 160 = 0 → I98 0 161 ≤ 400000) ∧ (v9_84 ≤ v8_73) ∧ (v5_73 = -1 - I 43 (Int.toNat (6 * I 0 167 + a1))) ∧ (v7_73 = I 7 (Int.toNat (4 * I 41 (Int.toNat (I 0 167)) - 1 - I 43 (Int.toNat (6 * I 0 167 + a1))))) ∧ (v8_73 = I 0 169 - (I 42 (Int.toNat (I 0 167)) - a1 - 1)) ∧ (a1 < I 42 (Int.toNat (I 0 167)) ∧ I 42 (Int.toNat (I 0 167)) ≤ 6)) → (gr_FO t o I98) → (gr_XT I I98) → (gr_IS a1 I I98) → gv_X (gr_E ws0 tb (3 + nr) (yX13_match, cX13_match, 12, none) kX13_match) (gv_Q cX13_match none (gr_sh ++ ext) (fun r h' => (∃ (I' : gr_I) (J' : gr_J), h' = gr_h I' J' ∧ gr_Inv I' ∧ gr_fr [157, 158, 160, 161] [87, 88, 89, 90, 92, 93, 94, 95, 96, 97, 98, 100, 101, 103, 104] I I' ∧ gr_fj [157, 158, 160, 161] [87, 88, 89, 90, 92, 93, 94, 95, 96, 97, 98, 100, 101, 103, 104] J J' ∧ r = none ∧ (gr_FO t o I') ∧ (gr_XT I I') ∧ (gr_IS a1 I I') ∧ (I 0 161 ≤ I' 0 161) ∧ (I' 0 160 = 0 → I' 0 161 ≤ 400000)))) (331, [(0, .inr (.inr (some 0))), (1, .inl a1), (2, .inl a2), (5, .inl v5_73), (6, .inl v6_73), (7, .inl v7_73), (8, .inl v8_73), (9, .inl v9_84)], [], gr_sh ++ ext, gr_h I98 J99) := by
                intro m_132 e0_132 e1_132 e2_132
                obtain ⟨ha1_132, ha2_132, hv5_73_132, hv6_73_132, hv7_73_132, hv8_73_132, hv9_84_132, e3_132, e4_132, e5_132, e6_132, e7_132, e8_132, e9_132⟩ := m_132
                have f133 := (show 0 ≤ I98 0 157 ∧ I98 0 157 ≤ 3000 from (hI98 0 157).1)
                have f134 := (show 0 ≤ I98 0 143 ∧ I98 0 143 ≤ 24 from (hI98 0 143).1)
                have f135 := (show 0 ≤ I98 0 158 ∧ I98 0 158 ≤ 9000 from (hI98 0 158).1)
                have f136 := (show 0 ≤ I98 0 168 ∧ I98 0 168 ≤ 24 from (hI98 0 168).1)
                have f137 := (show 0 ≤ I98 0 169 ∧ I98 0 169 ≤ 24 from (hI98 0 169).1)
                have f138 := (show 0 ≤ I98 0 167 ∧ I98 0 167 ≤ 3071 from (hI98 0 167).1)
                have f139 := (show 0 ≤ I98 0 161 ∧ I98 0 161 ≤ 400001 from (hI98 0 161).1)
                have f140 := (show 0 ≤ I98 0 160 ∧ I98 0 160 ≤ 1 from (hI98 0 160).1)
                have t141 := FI98 0 168 rfl
                have t142 := FI98 0 169 rfl
                have t143 := FI98 0 167 rfl
                have t144 := FI98 0 143 rfl
                have t145 := FI98 19 (Int.toNat t) rfl
                refine gv_run 2 true hD (pc' := 206) (lv' := [(9, .inl (v9_84 + 1)), (0, .inr (.inr (some 0))), (1, .inl a1), (2, .inl a2), (5, .inl v5_73), (6, .inl v6_73), (7, .inl v7_73), (8, .inl v8_73)]) (st' := []) (h' := gr_h I98 J99) (C := ((True ∧ True) ∧ True)) rfl ⟨⟨trivial, trivial⟩, trivial⟩ ?_
                refine gv_pick [1, 2, 3, 4, 5, 6, 7, 0] rfl ?_
                exact ih206 I98 J99 (v9_84 + 1) (by omega) hI98 FI98 FJ99 (by omega) e0_132 e1_132 e2_132
              refine gv_run 1 true hD (pc' := 235) (lv' := [(0, .inr (.inr (some 0))), (1, .inl a1), (2, .inl a2), (5, .inl v5_73), (6, .inl v6_73), (7, .inl v7_73), (8, .inl v8_73), (9, .inl v9_84), (10, .inl v10_100)]) (st' := [.inl v10_100]) (h' := gr_h I98 J99) (C := (True ∧ True)) rfl ⟨trivial, trivial⟩ ?_
              refine gv_if_lt (t := 331) hD rfl rfl ⟨by omega, by omega⟩ (fun c146 => ?_) (fun c146 => ?_)
              · refine gv_pick [0, 1, 2, 3, 4, 5, 6, 7] rfl ?_
                exact L331 (by omega) e0_100 e1_100 e2_100
              · have f147 := (show 0 ≤ I98 0 160 ∧ I98 0 160 ≤ 1 from (hI98 0 160).1)
                refine gv_run 2 true hD (pc' := 242) (lv' := [(0, .inr (.inr (some 0))), (1, .inl a1), (2, .inl a2), (5, .inl v5_73), (6, .inl v6_73), (7, .inl v7_73), (8, .inl v8_73), (9, .inl v9_84), (10, .inl v10_100)]) (st' := [.inl (I98 0 160)]) (h' := gr_h I98 J99) (C := ((True ∧ True) ∧ True)) rfl ⟨⟨trivial, trivial⟩, trivial⟩ ?_
                refine gv_if_ne (t := 331) hD rfl rfl ⟨by omega, by omega⟩ (fun c148 => ?_) (fun c148 => ?_)
                · refine gv_pick [0, 1, 2, 3, 4, 5, 6, 7] rfl ?_
                  exact L331 (by omega) e0_100 e1_100 e2_100
                · have f149 := (show 0 ≤ I98 0 161 ∧ I98 0 161 ≤ 400001 from (hI98 0 161).1)
                  refine gv_run 5 true hD (pc' := 252) (lv' := [(0, .inr (.inr (some 0))), (1, .inl a1), (2, .inl a2), (5, .inl v5_73), (6, .inl v6_73), (7, .inl v7_73), (8, .inl v8_73), (9, .inl v9_84), (10, .inl v10_100)]) (st' := [.inl ((I98 0 161) + 1), .inr (.inr (some 0))]) (h' := gr_h I98 J99) (C := (((((True ∧ True) ∧ True) ∧ True) ∧ True) ∧ True)) rfl ⟨⟨⟨⟨⟨trivial, trivial⟩, trivial⟩, trivial⟩, trivial⟩, trivial⟩ ?_
                  refine gv_run 1 true hD (pc' := 255) (lv' := [(0, .inr (.inr (some 0))), (1, .inl a1), (2, .inl a2), (5, .inl v5_73), (6, .inl v6_73), (7, .inl v7_73), (8, .inl v8_73), (9, .inl v9_84), (10, .inl v10_100)]) (st' := []) (h' := gz_up (gr_h I98 J99) 0 161 (.inl (((I98 0 161) + 1)))) (C := (True ∧ True)) rfl ⟨trivial, trivial⟩ ?_
                  refine gr_st hI98 FI98 rfl rfl ⟨⟨by show 0 ≤ _; omega, by show _ ≤ 400001; omega⟩, trivial⟩ (fun I150 hI150 FI150 q151 p151 => ?_)
                  have t152 := p151 0 157 (by decide)
                  have t153 := p151 0 143 (by decide)
                  have t154 := p151 0 158 (by decide)
                  have t155 := p151 0 168 (by decide)
                  have t156 := p151 0 169 (by decide)
                  have t157 := p151 0 167 (by decide)
                  have t158 := p151 0 160 (by decide)
                  have f159 := (show 0 ≤ I150 0 157 ∧ I150 0 157 ≤ 3000 from (hI150 0 157).1)
                  have f160 := (show 0 ≤ I150 0 143 ∧ I150 0 143 ≤ 24 from (hI150 0 143).1)
                  have f161 := (show 0 ≤ I150 0 158 ∧ I150 0 158 ≤ 9000 from (hI150 0 158).1)
                  have f162 := (show 0 ≤ I150 0 168 ∧ I150 0 168 ≤ 24 from (hI150 0 168).1)
                  have f163 := (show 0 ≤ I150 0 169 ∧ I150 0 169 ≤ 24 from (hI150 0 169).1)
                  have f164 := (show 0 ≤ I150 0 167 ∧ I150 0 167 ≤ 3071 from (hI150 0 167).1)
                  have f165 := (show 0 ≤ I150 0 161 ∧ I150 0 161 ≤ 400001 from (hI150 0 161).1)
                  have f166 := (show 0 ≤ I150 0 160 ∧ I150 0 160 ≤ 1 from (hI150 0 160).1)
                  have t167 := FI150 0 168 rfl
                  have t168 := FI150 0 169 rfl
                  have t169 := FI150 0 167 rfl
                  have t170 := FI150 0 143 rfl
                  have t171 := FI150 19 (Int.toNat t) rfl
                  have f172 := (show 0 ≤ I150 0 161 ∧ I150 0 161 ≤ 400001 from (hI150 0 161).1)
                  refine gv_run 3 true hD (pc' := 262) (lv' := [(0, .inr (.inr (some 0))), (1, .inl a1), (2, .inl a2), (5, .inl v5_73), (6, .inl v6_73), (7, .inl v7_73), (8, .inl v8_73), (9, .inl v9_84), (10, .inl v10_100)]) (st' := [.inl 400000, .inl (I150 0 161)]) (h' := gr_h I150 J99) (C := (((True ∧ True) ∧ True) ∧ True)) rfl ⟨⟨⟨trivial, trivial⟩, trivial⟩, trivial⟩ ?_
                  refine gv_icmp_le (t := 271) hD rfl rfl ⟨⟨by omega, by omega⟩, ⟨by omega, by omega⟩⟩ (fun c173 => ?_) (fun c173 => ?_)
                  · have f174 := (show 0 ≤ I150 89 (Int.toNat v10_100) ∧ I150 89 (Int.toNat v10_100) ≤ 16777215 from (hI150 89 (Int.toNat v10_100)).1)
                    refine gv_run 4 true hD (pc' := 278) (lv' := [(0, .inr (.inr (some 0))), (1, .inl a1), (2, .inl a2), (5, .inl v5_73), (6, .inl v6_73), (7, .inl v7_73), (8, .inl v8_73), (9, .inl v9_84), (10, .inl v10_100)]) (st' := [.inl (I150 89 (Int.toNat v10_100))]) (h' := gr_h I150 J99) (C := ((((True ∧ True) ∧ True) ∧ True) ∧ (0 ≤ v10_100 ∧ v10_100 < ((3000 : Nat) : Int)))) rfl ⟨⟨⟨⟨trivial, trivial⟩, trivial⟩, trivial⟩, ⟨by omega, by omega⟩⟩ ?_
                    refine gv_run 1 true hD (pc' := 280) (lv' := [(0, .inr (.inr (some 0))), (1, .inl a1), (2, .inl a2), (5, .inl v5_73), (6, .inl v6_73), (7, .inl v7_73), (8, .inl v8_73), (9, .inl v9_84), (10, .inl v10_100)]) (st' := [.inl v6_73, .inl (I150 89 (Int.toNat v10_100))]) (h' := gr_h I150 J99) (C := (True ∧ True)) rfl ⟨trivial, trivial⟩ ?_
                    obtain ⟨r175, h175, E175, P175⟩ := r_fitted (ws0 := ws0) (tb := tb) hws htb ext I150 J99 hI150 ((I150 89 (Int.toNat v10_100))) v6_73 ⟨by omega, by omega⟩ ⟨by omega, by omega⟩ 
                    obtain ⟨rfl, ⟨z175, rfl, q175⟩⟩ := P175
                    refine gv_callS hD rfl (As := [.inl (I150 89 (Int.toNat v10_100)), .inl v6_73]) (st := []) rfl (gr_lS hws rfl) (Nat.le_of_ble_eq_true rfl) (gz_Ev_mono (d := 1) (by omega) E175) ?_
                    show gv_X _ _ (283, [(0, .inr (.inr (some 0))), (1, .inl a1), (2, .inl a2), (5, .inl v5_73), (6, .inl v6_73), (7, .inl v7_73), (8, .inl v8_73), (9, .inl v9_84), (10, .inl v10_100)], [.inl z175], gr_sh ++ ext, gr_h I150 J99)
                    refine gv_run 2 true hD (pc' := 287) (lv' := [(11, .inl z175), (0, .inr (.inr (some 0))), (1, .inl a1), (2, .inl a2), (5, .inl v5_73), (6, .inl v6_73), (7, .inl v7_73), (8, .inl v8_73), (9, .inl v9_84), (10, .inl v10_100)]) (st' := [.inl z175]) (h' := gr_h I150 J99) (C := ((True ∧ True) ∧ True)) rfl ⟨⟨trivial, trivial⟩, trivial⟩ ?_
                    refine gv_if_ge (t := 293) hD rfl rfl ⟨by omega, by omega⟩ (fun c176 => ?_) (fun c176 => ?_)
                    · refine gv_run 4 true hD (pc' := 301) (lv' := [(11, .inl z175), (0, .inr (.inr (some 0))), (1, .inl a1), (2, .inl a2), (5, .inl v5_73), (6, .inl v6_73), (7, .inl v7_73), (8, .inl v8_73), (9, .inl v9_84), (10, .inl v10_100)]) (st' := [.inl z175, .inl v5_73, .inr (.inr (some 100))]) (h' := gr_h I150 J99) (C := ((((True ∧ True) ∧ True) ∧ True) ∧ True)) rfl ⟨⟨⟨⟨trivial, trivial⟩, trivial⟩, trivial⟩, trivial⟩ ?_
                      refine gv_run 1 true hD (pc' := 302) (lv' := [(11, .inl z175), (0, .inr (.inr (some 0))), (1, .inl a1), (2, .inl a2), (5, .inl v5_73), (6, .inl v6_73), (7, .inl v7_73), (8, .inl v8_73), (9, .inl v9_84), (10, .inl v10_100)]) (st' := []) (h' := gz_up (gr_h I150 J99) 100 (Int.toNat v5_73) (.inl z175)) (C := (True ∧ (0 ≤ v5_73 ∧ v5_73 < ((4 : Nat) : Int)))) rfl ⟨trivial, ⟨by omega, by omega⟩⟩ ?_
                      refine gr_st hI150 FI150 rfl rfl ⟨⟨by show 0 ≤ _; omega, by show _ ≤ 16777215; omega⟩, trivial⟩ (fun I177 hI177 FI177 q178 p178 => ?_)
                      have t179 := p178 0 157 (fun q => absurd q.1 (by decide))
                      have t180 := p178 0 143 (fun q => absurd q.1 (by decide))
                      have t181 := p178 0 158 (fun q => absurd q.1 (by decide))
                      have t182 := p178 0 168 (fun q => absurd q.1 (by decide))
                      have t183 := p178 0 169 (fun q => absurd q.1 (by decide))
                      have t184 := p178 0 167 (fun q => absurd q.1 (by decide))
                      have t185 := p178 0 161 (fun q => absurd q.1 (by decide))
                      have t186 := p178 0 160 (fun q => absurd q.1 (by decide))
                      have f187 := (show 0 ≤ I177 0 157 ∧ I177 0 157 ≤ 3000 from (hI177 0 157).1)
                      have f188 := (show 0 ≤ I177 0 143 ∧ I177 0 143 ≤ 24 from (hI177 0 143).1)
                      have f189 := (show 0 ≤ I177 0 158 ∧ I177 0 158 ≤ 9000 from (hI177 0 158).1)
                      have f190 := (show 0 ≤ I177 0 168 ∧ I177 0 168 ≤ 24 from (hI177 0 168).1)
                      have f191 := (show 0 ≤ I177 0 169 ∧ I177 0 169 ≤ 24 from (hI177 0 169).1)
                      have f192 := (show 0 ≤ I177 0 167 ∧ I177 0 167 ≤ 3071 from (hI177 0 167).1)
                      have f193 := (show 0 ≤ I177 0 161 ∧ I177 0 161 ≤ 400001 from (hI177 0 161).1)
                      have f194 := (show 0 ≤ I177 0 160 ∧ I177 0 160 ≤ 1 from (hI177 0 160).1)
                      have t195 := FI177 0 168 rfl
                      have t196 := FI177 0 169 rfl
                      have t197 := FI177 0 167 rfl
                      have t198 := FI177 0 143 rfl
                      have t199 := FI177 19 (Int.toNat t) rfl
                      refine gv_run 4 true hD (pc' := 309) (lv' := [(11, .inl z175), (0, .inr (.inr (some 0))), (1, .inl a1), (2, .inl a2), (5, .inl v5_73), (6, .inl v6_73), (7, .inl v7_73), (8, .inl v8_73), (9, .inl v9_84), (10, .inl v10_100)]) (st' := [.inl v10_100, .inl a1, .inr (.inr (some 103))]) (h' := gr_h I177 J99) (C := ((((True ∧ True) ∧ True) ∧ True) ∧ True)) rfl ⟨⟨⟨⟨trivial, trivial⟩, trivial⟩, trivial⟩, trivial⟩ ?_
                      refine gv_run 1 true hD (pc' := 310) (lv' := [(11, .inl z175), (0, .inr (.inr (some 0))), (1, .inl a1), (2, .inl a2), (5, .inl v5_73), (6, .inl v6_73), (7, .inl v7_73), (8, .inl v8_73), (9, .inl v9_84), (10, .inl v10_100)]) (st' := []) (h' := gz_up (gr_h I177 J99) 103 (Int.toNat a1) (.inl v10_100)) (C := (True ∧ (0 ≤ a1 ∧ a1 < ((6 : Nat) : Int)))) rfl ⟨trivial, ⟨by omega, by omega⟩⟩ ?_
                      refine gr_st hI177 FI177 rfl rfl ⟨⟨by show 0 ≤ _; omega, by show _ ≤ 2999; omega⟩, trivial⟩ (fun I200 hI200 FI200 q201 p201 => ?_)
                      have t202 := p201 0 157 (fun q => absurd q.1 (by decide))
                      have t203 := p201 0 143 (fun q => absurd q.1 (by decide))
                      have t204 := p201 0 158 (fun q => absurd q.1 (by decide))
                      have t205 := p201 0 168 (fun q => absurd q.1 (by decide))
                      have t206 := p201 0 169 (fun q => absurd q.1 (by decide))
                      have t207 := p201 0 167 (fun q => absurd q.1 (by decide))
                      have t208 := p201 0 161 (fun q => absurd q.1 (by decide))
                      have t209 := p201 0 160 (fun q => absurd q.1 (by decide))
                      have f210 := (show 0 ≤ I200 0 157 ∧ I200 0 157 ≤ 3000 from (hI200 0 157).1)
                      have f211 := (show 0 ≤ I200 0 143 ∧ I200 0 143 ≤ 24 from (hI200 0 143).1)
                      have f212 := (show 0 ≤ I200 0 158 ∧ I200 0 158 ≤ 9000 from (hI200 0 158).1)
                      have f213 := (show 0 ≤ I200 0 168 ∧ I200 0 168 ≤ 24 from (hI200 0 168).1)
                      have f214 := (show 0 ≤ I200 0 169 ∧ I200 0 169 ≤ 24 from (hI200 0 169).1)
                      have f215 := (show 0 ≤ I200 0 167 ∧ I200 0 167 ≤ 3071 from (hI200 0 167).1)
                      have f216 := (show 0 ≤ I200 0 161 ∧ I200 0 161 ≤ 400001 from (hI200 0 161).1)
                      have f217 := (show 0 ≤ I200 0 160 ∧ I200 0 160 ≤ 1 from (hI200 0 160).1)
                      have t218 := FI200 0 168 rfl
                      have t219 := FI200 0 169 rfl
                      have t220 := FI200 0 167 rfl
                      have t221 := FI200 0 143 rfl
                      have t222 := FI200 19 (Int.toNat t) rfl
                      refine gv_run 5 true hD (pc' := 316) (lv' := [(11, .inl z175), (0, .inr (.inr (some 0))), (1, .inl a1), (2, .inl a2), (5, .inl v5_73), (6, .inl v6_73), (7, .inl v7_73), (8, .inl v8_73), (9, .inl v9_84), (10, .inl v10_100)]) (st' := [.inl v9_84, .inl (a1 + 1), .inr (.inr (some 0))]) (h' := gr_h I200 J99) (C := (((((True ∧ True) ∧ True) ∧ True) ∧ True) ∧ True)) rfl ⟨⟨⟨⟨⟨trivial, trivial⟩, trivial⟩, trivial⟩, trivial⟩, trivial⟩ ?_
                      obtain ⟨r223, h223, E223, P223⟩ := ihR I200 J99 hI200 (a1 + 1) v9_84 ⟨by omega, by omega⟩ ⟨by omega, by omega⟩ (gr_GR_F x0 FI200) (gr_FO_fr (gr_FO_fr (gr_FO_fr e0_100 hI98 (fun k => p151 87 k (fun q => absurd q.1 (by decide))) (fun k => p151 88 k (fun q => absurd q.1 (by decide))) (fun k => p151 104 k (fun q => absurd q.1 (by decide))) (fun k => p151 90 k (fun q => absurd q.1 (by decide))) (fun k => p151 93 k (fun q => absurd q.1 (by decide))) (fun k => p151 92 k (fun q => absurd q.1 (by decide))) (fun k => p151 94 k (fun q => absurd q.1 (by decide))) (fun k => p151 95 k (fun q => absurd q.1 (by decide))) (fun k => p151 97 k (fun q => absurd q.1 (by decide))) (fun k => p151 98 k (fun q => absurd q.1 (by decide))) (fun k => p151 19 k (fun q => absurd q.1 (by decide))) (fun k => p151 18 k (fun q => absurd q.1 (by decide))) (fun k => p151 41 k (fun q => absurd q.1 (by decide))) (fun k => p151 6 k (fun q => absurd q.1 (by decide))) (by omega) (by omega) (by omega)) hI150 (fun k => p178 87 k (fun q => absurd q.1 (by decide))) (fun k => p178 88 k (fun q => absurd q.1 (by decide))) (fun k => p178 104 k (fun q => absurd q.1 (by decide))) (fun k => p178 90 k (fun q => absurd q.1 (by decide))) (fun k => p178 93 k (fun q => absurd q.1 (by decide))) (fun k => p178 92 k (fun q => absurd q.1 (by decide))) (fun k => p178 94 k (fun q => absurd q.1 (by decide))) (fun k => p178 95 k (fun q => absurd q.1 (by decide))) (fun k => p178 97 k (fun q => absurd q.1 (by decide))) (fun k => p178 98 k (fun q => absurd q.1 (by decide))) (fun k => p178 19 k (fun q => absurd q.1 (by decide))) (fun k => p178 18 k (fun q => absurd q.1 (by decide))) (fun k => p178 41 k (fun q => absurd q.1 (by decide))) (fun k => p178 6 k (fun q => absurd q.1 (by decide))) (by omega) (by omega) (by omega)) hI177 (fun k => p201 87 k (fun q => absurd q.1 (by decide))) (fun k => p201 88 k (fun q => absurd q.1 (by decide))) (fun k => p201 104 k (fun q => absurd q.1 (by decide))) (fun k => p201 90 k (fun q => absurd q.1 (by decide))) (fun k => p201 93 k (fun q => absurd q.1 (by decide))) (fun k => p201 92 k (fun q => absurd q.1 (by decide))) (fun k => p201 94 k (fun q => absurd q.1 (by decide))) (fun k => p201 95 k (fun q => absurd q.1 (by decide))) (fun k => p201 97 k (fun q => absurd q.1 (by decide))) (fun k => p201 98 k (fun q => absurd q.1 (by decide))) (fun k => p201 19 k (fun q => absurd q.1 (by decide))) (fun k => p201 18 k (fun q => absurd q.1 (by decide))) (fun k => p201 41 k (fun q => absurd q.1 (by decide))) (fun k => p201 6 k (fun q => absurd q.1 (by decide))) (by omega) (by omega) (by omega)) (gr_IT_a (kk := v7_73) (i := (Int.toNat a1)) (gr_IT_x x2 (gr_XT_tr (gr_XT_tr e1_100 (gr_XT_sm (fun k => p151 87 k (fun q => absurd q.1 (by decide))) (fun k => p151 88 k (fun q => absurd q.1 (by decide))) (fun k => p151 104 k (fun q => absurd q.1 (by decide))) (fun k => p151 94 k (fun q => absurd q.1 (by decide))) (fun k => p151 95 k (fun q => absurd q.1 (by decide))) (fun k => p151 97 k (fun q => absurd q.1 (by decide))) (fun k => p151 98 k (fun q => absurd q.1 (by decide))) (by omega) (by omega))) (gr_XT_sm (fun k => p178 87 k (fun q => absurd q.1 (by decide))) (fun k => p178 88 k (fun q => absurd q.1 (by decide))) (fun k => p178 104 k (fun q => absurd q.1 (by decide))) (fun k => p178 94 k (fun q => absurd q.1 (by decide))) (fun k => p178 95 k (fun q => absurd q.1 (by decide))) (fun k => p178 97 k (fun q => absurd q.1 (by decide))) (fun k => p178 98 k (fun q => absurd q.1 (by decide))) (by omega) (by omega))) (gr_IS_tr (gr_IS_tr e2_100 (fun k _ => p151 103 k (fun q => absurd q.1 (by decide)))) (fun k _ => p178 103 k (fun q => absurd q.1 (by decide)))) (fun k => FI177 43 k rfl) (fun k => FI177 41 k rfl) (fun k => FI177 7 k rfl) (FI177 0 168 rfl) (FI177 0 167 rfl)) (by omega) (by omega) (by omega) p201 q201 ⟨by omega, by omega⟩ (gr_T3_x e3_100 (gr_XT_tr (gr_XT_rf _) (gr_XT_tr (gr_XT_tr (gr_XT_rf _) (gr_XT_sm (fun k => p151 87 k (fun q => absurd q.1 (by decide))) (fun k => p151 88 k (fun q => absurd q.1 (by decide))) (fun k => p151 104 k (fun q => absurd q.1 (by decide))) (fun k => p151 94 k (fun q => absurd q.1 (by decide))) (fun k => p151 95 k (fun q => absurd q.1 (by decide))) (fun k => p151 97 k (fun q => absurd q.1 (by decide))) (fun k => p151 98 k (fun q => absurd q.1 (by decide))) (by omega) (by omega))) (gr_XT_sm (fun k => p178 87 k (fun q => absurd q.1 (by decide))) (fun k => p178 88 k (fun q => absurd q.1 (by decide))) (fun k => p178 104 k (fun q => absurd q.1 (by decide))) (fun k => p178 94 k (fun q => absurd q.1 (by decide))) (fun k => p178 95 k (fun q => absurd q.1 (by decide))) (fun k => p178 97 k (fun q => absurd q.1 (by decide))) (fun k => p178 98 k (fun q => absurd q.1 (by decide))) (by omega) (by omega)))) (by omega)) ((gr_FO_fr (gr_FO_fr e0_100 hI98 (fun k => p151 87 k (fun q => absurd q.1 (by decide))) (fun k => p151 88 k (fun q => absurd q.1 (by decide))) (fun k => p151 104 k (fun q => absurd q.1 (by decide))) (fun k => p151 90 k (fun q => absurd q.1 (by decide))) (fun k => p151 93 k (fun q => absurd q.1 (by decide))) (fun k => p151 92 k (fun q => absurd q.1 (by decide))) (fun k => p151 94 k (fun q => absurd q.1 (by decide))) (fun k => p151 95 k (fun q => absurd q.1 (by decide))) (fun k => p151 97 k (fun q => absurd q.1 (by decide))) (fun k => p151 98 k (fun q => absurd q.1 (by decide))) (fun k => p151 19 k (fun q => absurd q.1 (by decide))) (fun k => p151 18 k (fun q => absurd q.1 (by decide))) (fun k => p151 41 k (fun q => absurd q.1 (by decide))) (fun k => p151 6 k (fun q => absurd q.1 (by decide))) (by omega) (by omega) (by omega)) hI150 (fun k => p178 87 k (fun q => absurd q.1 (by decide))) (fun k => p178 88 k (fun q => absurd q.1 (by decide))) (fun k => p178 104 k (fun q => absurd q.1 (by decide))) (fun k => p178 90 k (fun q => absurd q.1 (by decide))) (fun k => p178 93 k (fun q => absurd q.1 (by decide))) (fun k => p178 92 k (fun q => absurd q.1 (by decide))) (fun k => p178 94 k (fun q => absurd q.1 (by decide))) (fun k => p178 95 k (fun q => absurd q.1 (by decide))) (fun k => p178 97 k (fun q => absurd q.1 (by decide))) (fun k => p178 98 k (fun q => absurd q.1 (by decide))) (fun k => p178 19 k (fun q => absurd q.1 (by decide))) (fun k => p178 18 k (fun q => absurd q.1 (by decide))) (fun k => p178 41 k (fun q => absurd q.1 (by decide))) (fun k => p178 6 k (fun q => absurd q.1 (by decide))) (by omega) (by omega) (by omega))).2.2.2.1 (by rw [FI177 0 167 rfl, FI177 43 _ rfl, FI177 41 _ rfl, FI177 7 _ rfl]; exact e9_100)) (by rw [FI200 0 169 rfl, FI200 0 168 rfl, FI200 0 167 rfl, FI200 41 _ rfl, FI200 8 _ rfl]; exact x3) (by omega) (by omega) (by omega) (by omega) (by omega) (by rw [FI200 0 167 rfl, FI200 42 _ rfl]; omega) (by omega) (by omega) (by omega)
                      obtain ⟨I224, J225, rfl, hI224, g223, k223, ⟨rfl, q223⟩⟩ := P223
                      have FI224 := gr_frt FI200 g223 rfl rfl
                      have FJ225 := gr_fjt FJ99 k223 rfl rfl
                      have t226 := g223 0 143 rfl
                      have t227 := g223 0 168 rfl
                      have t228 := g223 0 169 rfl
                      have t229 := g223 0 167 rfl
                      have f230 := (show 0 ≤ I224 0 157 ∧ I224 0 157 ≤ 3000 from (hI224 0 157).1)
                      have f231 := (show 0 ≤ I224 0 143 ∧ I224 0 143 ≤ 24 from (hI224 0 143).1)
                      have f232 := (show 0 ≤ I224 0 158 ∧ I224 0 158 ≤ 9000 from (hI224 0 158).1)
                      have f233 := (show 0 ≤ I224 0 168 ∧ I224 0 168 ≤ 24 from (hI224 0 168).1)
                      have f234 := (show 0 ≤ I224 0 169 ∧ I224 0 169 ≤ 24 from (hI224 0 169).1)
                      have f235 := (show 0 ≤ I224 0 167 ∧ I224 0 167 ≤ 3071 from (hI224 0 167).1)
                      have f236 := (show 0 ≤ I224 0 161 ∧ I224 0 161 ≤ 400001 from (hI224 0 161).1)
                      have f237 := (show 0 ≤ I224 0 160 ∧ I224 0 160 ≤ 1 from (hI224 0 160).1)
                      have t238 := q223.2.1.1
                      refine gv_callV hD rfl (As := [.inl (a1 + 1), .inl v9_84]) (st := []) rfl (by decide) rfl rfl (gr_lV hws rfl) (Nat.le_of_ble_eq_true rfl) (gz_Ev_mono (d := (3 + nr)) (Nat.le_refl _) E223) ?_
                      show gv_X _ _ (319, [(11, .inl z175), (0, .inr (.inr (some 0))), (1, .inl a1), (2, .inl a2), (5, .inl v5_73), (6, .inl v6_73), (7, .inl v7_73), (8, .inl v8_73), (9, .inl v9_84), (10, .inl v10_100)], [], gr_sh ++ ext, gr_h I224 J225)
                      refine gv_pick [1, 2, 3, 4, 5, 6, 7, 8, 9] rfl ?_
                      exact L319 I224 J225 hI224 FI224 FJ225 (by omega) q223.1 (gr_XT_tr (gr_XT_tr (gr_XT_tr (gr_XT_tr e1_100 (gr_XT_sm (fun k => p151 87 k (fun q => absurd q.1 (by decide))) (fun k => p151 88 k (fun q => absurd q.1 (by decide))) (fun k => p151 104 k (fun q => absurd q.1 (by decide))) (fun k => p151 94 k (fun q => absurd q.1 (by decide))) (fun k => p151 95 k (fun q => absurd q.1 (by decide))) (fun k => p151 97 k (fun q => absurd q.1 (by decide))) (fun k => p151 98 k (fun q => absurd q.1 (by decide))) (by omega) (by omega))) (gr_XT_sm (fun k => p178 87 k (fun q => absurd q.1 (by decide))) (fun k => p178 88 k (fun q => absurd q.1 (by decide))) (fun k => p178 104 k (fun q => absurd q.1 (by decide))) (fun k => p178 94 k (fun q => absurd q.1 (by decide))) (fun k => p178 95 k (fun q => absurd q.1 (by decide))) (fun k => p178 97 k (fun q => absurd q.1 (by decide))) (fun k => p178 98 k (fun q => absurd q.1 (by decide))) (by omega) (by omega))) (gr_XT_sm (fun k => p201 87 k (fun q => absurd q.1 (by decide))) (fun k => p201 88 k (fun q => absurd q.1 (by decide))) (fun k => p201 104 k (fun q => absurd q.1 (by decide))) (fun k => p201 94 k (fun q => absurd q.1 (by decide))) (fun k => p201 95 k (fun q => absurd q.1 (by decide))) (fun k => p201 97 k (fun q => absurd q.1 (by decide))) (fun k => p201 98 k (fun q => absurd q.1 (by decide))) (by omega) (by omega))) q223.2.1) (gr_IS_tr (gr_IS_tr (gr_IS_tr (gr_IS_tr e2_100 (fun k _ => p151 103 k (fun q => absurd q.1 (by decide)))) (fun k _ => p178 103 k (fun q => absurd q.1 (by decide)))) (fun k hk => p201 103 k (fun q => by have := q.2; omega))) (gr_IS_w q223.2.2.1 (by omega))) (gr_T3_x e3_100 (gr_XT_tr (gr_XT_tr (gr_XT_tr (gr_XT_tr (gr_XT_rf _) (gr_XT_sm (fun k => p151 87 k (fun q => absurd q.1 (by decide))) (fun k => p151 88 k (fun q => absurd q.1 (by decide))) (fun k => p151 104 k (fun q => absurd q.1 (by decide))) (fun k => p151 94 k (fun q => absurd q.1 (by decide))) (fun k => p151 95 k (fun q => absurd q.1 (by decide))) (fun k => p151 97 k (fun q => absurd q.1 (by decide))) (fun k => p151 98 k (fun q => absurd q.1 (by decide))) (by omega) (by omega))) (gr_XT_sm (fun k => p178 87 k (fun q => absurd q.1 (by decide))) (fun k => p178 88 k (fun q => absurd q.1 (by decide))) (fun k => p178 104 k (fun q => absurd q.1 (by decide))) (fun k => p178 94 k (fun q => absurd q.1 (by decide))) (fun k => p178 95 k (fun q => absurd q.1 (by decide))) (fun k => p178 97 k (fun q => absurd q.1 (by decide))) (fun k => p178 98 k (fun q => absurd q.1 (by decide))) (by omega) (by omega))) (gr_XT_sm (fun k => p201 87 k (fun q => absurd q.1 (by decide))) (fun k => p201 88 k (fun q => absurd q.1 (by decide))) (fun k => p201 104 k (fun q => absurd q.1 (by decide))) (fun k => p201 94 k (fun q => absurd q.1 (by decide))) (fun k => p201 95 k (fun q => absurd q.1 (by decide))) (fun k => p201 97 k (fun q => absurd q.1 (by decide))) (fun k => p201 98 k (fun q => absurd q.1 (by decide))) (by omega) (by omega))) q223.2.1) (by omega))
                    · refine gv_run 1 true hD (pc' := 319) (lv' := [(11, .inl z175), (0, .inr (.inr (some 0))), (1, .inl a1), (2, .inl a2), (5, .inl v5_73), (6, .inl v6_73), (7, .inl v7_73), (8, .inl v8_73), (9, .inl v9_84), (10, .inl v10_100)]) (st' := []) (h' := gr_h I150 J99) (C := (True ∧ True)) rfl ⟨trivial, trivial⟩ ?_
                      refine gv_pick [1, 2, 3, 4, 5, 6, 7, 8, 9] rfl ?_
                      exact L319 I150 J99 hI150 FI150 FJ99 (by omega) (gr_FO_fr e0_100 hI98 (fun k => p151 87 k (fun q => absurd q.1 (by decide))) (fun k => p151 88 k (fun q => absurd q.1 (by decide))) (fun k => p151 104 k (fun q => absurd q.1 (by decide))) (fun k => p151 90 k (fun q => absurd q.1 (by decide))) (fun k => p151 93 k (fun q => absurd q.1 (by decide))) (fun k => p151 92 k (fun q => absurd q.1 (by decide))) (fun k => p151 94 k (fun q => absurd q.1 (by decide))) (fun k => p151 95 k (fun q => absurd q.1 (by decide))) (fun k => p151 97 k (fun q => absurd q.1 (by decide))) (fun k => p151 98 k (fun q => absurd q.1 (by decide))) (fun k => p151 19 k (fun q => absurd q.1 (by decide))) (fun k => p151 18 k (fun q => absurd q.1 (by decide))) (fun k => p151 41 k (fun q => absurd q.1 (by decide))) (fun k => p151 6 k (fun q => absurd q.1 (by decide))) (by omega) (by omega) (by omega)) (gr_XT_tr e1_100 (gr_XT_sm (fun k => p151 87 k (fun q => absurd q.1 (by decide))) (fun k => p151 88 k (fun q => absurd q.1 (by decide))) (fun k => p151 104 k (fun q => absurd q.1 (by decide))) (fun k => p151 94 k (fun q => absurd q.1 (by decide))) (fun k => p151 95 k (fun q => absurd q.1 (by decide))) (fun k => p151 97 k (fun q => absurd q.1 (by decide))) (fun k => p151 98 k (fun q => absurd q.1 (by decide))) (by omega) (by omega))) (gr_IS_tr e2_100 (fun k _ => p151 103 k (fun q => absurd q.1 (by decide)))) (gr_T3_x e3_100 (gr_XT_tr (gr_XT_rf _) (gr_XT_sm (fun k => p151 87 k (fun q => absurd q.1 (by decide))) (fun k => p151 88 k (fun q => absurd q.1 (by decide))) (fun k => p151 104 k (fun q => absurd q.1 (by decide))) (fun k => p151 94 k (fun q => absurd q.1 (by decide))) (fun k => p151 95 k (fun q => absurd q.1 (by decide))) (fun k => p151 97 k (fun q => absurd q.1 (by decide))) (fun k => p151 98 k (fun q => absurd q.1 (by decide))) (by omega) (by omega))) (by omega))
                  · refine gv_run 3 true hD (pc' := 270) (lv' := [(0, .inr (.inr (some 0))), (1, .inl a1), (2, .inl a2), (5, .inl v5_73), (6, .inl v6_73), (7, .inl v7_73), (8, .inl v8_73), (9, .inl v9_84), (10, .inl v10_100)]) (st' := []) (h' := gz_up (gr_h I150 J99) 0 160 (.inl 1)) (C := (((True ∧ True) ∧ True) ∧ (1 = 0 ∨ 1 = 1))) rfl ⟨⟨⟨trivial, trivial⟩, trivial⟩, (by omega)⟩ ?_
                    refine gr_st hI150 FI150 rfl rfl ⟨⟨by show 0 ≤ _; omega, by show _ ≤ 1; omega⟩, trivial⟩ (fun I239 hI239 FI239 q240 p240 => ?_)
                    have t241 := p240 0 157 (by decide)
                    have t242 := p240 0 143 (by decide)
                    have t243 := p240 0 158 (by decide)
                    have t244 := p240 0 168 (by decide)
                    have t245 := p240 0 169 (by decide)
                    have t246 := p240 0 167 (by decide)
                    have t247 := p240 0 161 (by decide)
                    have f248 := (show 0 ≤ I239 0 157 ∧ I239 0 157 ≤ 3000 from (hI239 0 157).1)
                    have f249 := (show 0 ≤ I239 0 143 ∧ I239 0 143 ≤ 24 from (hI239 0 143).1)
                    have f250 := (show 0 ≤ I239 0 158 ∧ I239 0 158 ≤ 9000 from (hI239 0 158).1)
                    have f251 := (show 0 ≤ I239 0 168 ∧ I239 0 168 ≤ 24 from (hI239 0 168).1)
                    have f252 := (show 0 ≤ I239 0 169 ∧ I239 0 169 ≤ 24 from (hI239 0 169).1)
                    have f253 := (show 0 ≤ I239 0 167 ∧ I239 0 167 ≤ 3071 from (hI239 0 167).1)
                    have f254 := (show 0 ≤ I239 0 161 ∧ I239 0 161 ≤ 400001 from (hI239 0 161).1)
                    have f255 := (show 0 ≤ I239 0 160 ∧ I239 0 160 ≤ 1 from (hI239 0 160).1)
                    have t256 := FI239 0 168 rfl
                    have t257 := FI239 0 169 rfl
                    have t258 := FI239 0 167 rfl
                    have t259 := FI239 0 143 rfl
                    have t260 := FI239 19 (Int.toNat t) rfl
                    exact gv_vret hD rfl ⟨I239, J99, rfl, hI239, FI239, FJ99, ⟨rfl, (gr_FO_fr (gr_FO_fr e0_100 hI98 (fun k => p151 87 k (fun q => absurd q.1 (by decide))) (fun k => p151 88 k (fun q => absurd q.1 (by decide))) (fun k => p151 104 k (fun q => absurd q.1 (by decide))) (fun k => p151 90 k (fun q => absurd q.1 (by decide))) (fun k => p151 93 k (fun q => absurd q.1 (by decide))) (fun k => p151 92 k (fun q => absurd q.1 (by decide))) (fun k => p151 94 k (fun q => absurd q.1 (by decide))) (fun k => p151 95 k (fun q => absurd q.1 (by decide))) (fun k => p151 97 k (fun q => absurd q.1 (by decide))) (fun k => p151 98 k (fun q => absurd q.1 (by decide))) (fun k => p151 19 k (fun q => absurd q.1 (by decide))) (fun k => p151 18 k (fun q => absurd q.1 (by decide))) (fun k => p151 41 k (fun q => absurd q.1 (by decide))) (fun k => p151 6 k (fun q => absurd q.1 (by decide))) (by omega) (by omega) (by omega)) hI150 (fun k => p240 87 k (fun q => absurd q.1 (by decide))) (fun k => p240 88 k (fun q => absurd q.1 (by decide))) (fun k => p240 104 k (fun q => absurd q.1 (by decide))) (fun k => p240 90 k (fun q => absurd q.1 (by decide))) (fun k => p240 93 k (fun q => absurd q.1 (by decide))) (fun k => p240 92 k (fun q => absurd q.1 (by decide))) (fun k => p240 94 k (fun q => absurd q.1 (by decide))) (fun k => p240 95 k (fun q => absurd q.1 (by decide))) (fun k => p240 97 k (fun q => absurd q.1 (by decide))) (fun k => p240 98 k (fun q => absurd q.1 (by decide))) (fun k => p240 19 k (fun q => absurd q.1 (by decide))) (fun k => p240 18 k (fun q => absurd q.1 (by decide))) (fun k => p240 41 k (fun q => absurd q.1 (by decide))) (fun k => p240 6 k (fun q => absurd q.1 (by decide))) (by omega) (by omega) (by omega)), (gr_XT_tr (gr_XT_tr e1_100 (gr_XT_sm (fun k => p151 87 k (fun q => absurd q.1 (by decide))) (fun k => p151 88 k (fun q => absurd q.1 (by decide))) (fun k => p151 104 k (fun q => absurd q.1 (by decide))) (fun k => p151 94 k (fun q => absurd q.1 (by decide))) (fun k => p151 95 k (fun q => absurd q.1 (by decide))) (fun k => p151 97 k (fun q => absurd q.1 (by decide))) (fun k => p151 98 k (fun q => absurd q.1 (by decide))) (by omega) (by omega))) (gr_XT_sm (fun k => p240 87 k (fun q => absurd q.1 (by decide))) (fun k => p240 88 k (fun q => absurd q.1 (by decide))) (fun k => p240 104 k (fun q => absurd q.1 (by decide))) (fun k => p240 94 k (fun q => absurd q.1 (by decide))) (fun k => p240 95 k (fun q => absurd q.1 (by decide))) (fun k => p240 97 k (fun q => absurd q.1 (by decide))) (fun k => p240 98 k (fun q => absurd q.1 (by decide))) (by omega) (by omega))), (gr_IS_tr (gr_IS_tr e2_100 (fun k _ => p151 103 k (fun q => absurd q.1 (by decide)))) (fun k _ => p240 103 k (fun q => absurd q.1 (by decide)))), by omega, by omega⟩⟩
          refine gv_run 2 true hD (pc' := 210) (lv' := [(0, .inr (.inr (some 0))), (1, .inl a1), (2, .inl a2), (5, .inl v5_73), (6, .inl v6_73), (7, .inl v7_73), (8, .inl v8_73), (9, .inl v9_84)]) (st' := [.inl v8_73, .inl v9_84]) (h' := gr_h I82 J83) (C := ((True ∧ True) ∧ True)) rfl ⟨⟨trivial, trivial⟩, trivial⟩ ?_
          refine gv_icmp_gt (t := 337) hD rfl rfl ⟨⟨by omega, by omega⟩, ⟨by omega, by omega⟩⟩ (fun c261 => ?_) (fun c261 => ?_)
          · exact gv_vret hD rfl ⟨I82, J83, rfl, hI82, FI82, FJ83, ⟨rfl, e0_84, e1_84, e2_84, by omega, by omega⟩⟩
          · refine gv_run 7 true hD (pc' := 224) (lv' := [(0, .inr (.inr (some 0))), (1, .inl a1), (2, .inl a2), (5, .inl v5_73), (6, .inl v6_73), (7, .inl v7_73), (8, .inl v8_73), (9, .inl v9_84)]) (st' := [.inl ((25 * a2) + v9_84), .inr (.inr (some 93))]) (h' := gr_h I82 J83) (C := (((((((True ∧ True) ∧ True) ∧ True) ∧ True) ∧ True) ∧ True) ∧ True)) rfl ⟨⟨⟨⟨⟨⟨⟨trivial, trivial⟩, trivial⟩, trivial⟩, trivial⟩, trivial⟩, trivial⟩, trivial⟩ ?_
            have f262 := (show (-1) ≤ I82 93 (Int.toNat (((((25 * a2) + v9_84) * 32) + v7_73))) ∧ I82 93 (Int.toNat (((((25 * a2) + v9_84) * 32) + v7_73))) ≤ 2999 from (hI82 93 (Int.toNat (((((25 * a2) + v9_84) * 32) + v7_73)))).1)
            refine gv_run 5 true hD (pc' := 231) (lv' := [(0, .inr (.inr (some 0))), (1, .inl a1), (2, .inl a2), (5, .inl v5_73), (6, .inl v6_73), (7, .inl v7_73), (8, .inl v8_73), (9, .inl v9_84)]) (st' := [.inl (I82 93 (Int.toNat (((((25 * a2) + v9_84) * 32) + v7_73))))]) (h' := gr_h I82 J83) (C := (((((True ∧ True) ∧ True) ∧ True) ∧ True) ∧ (0 ≤ (((((25 * a2) + v9_84) * 32) + v7_73)) ∧ (((((25 * a2) + v9_84) * 32) + v7_73)) < ((20000 : Nat) : Int)))) rfl ⟨⟨⟨⟨⟨trivial, trivial⟩, trivial⟩, trivial⟩, trivial⟩, ⟨by omega, by omega⟩⟩ ?_
            have t263 := gr_SB_at e0_84.2.1 (i := a2) (j := v9_84) (k := v7_73) ⟨by omega, by omega⟩ ⟨by omega, by omega⟩ ⟨by omega, by omega⟩
            refine gv_run 1 true hD (pc' := 233) (lv' := [(10, .inl (I82 93 (Int.toNat (((((25 * a2) + v9_84) * 32) + v7_73))))), (0, .inr (.inr (some 0))), (1, .inl a1), (2, .inl a2), (5, .inl v5_73), (6, .inl v6_73), (7, .inl v7_73), (8, .inl v8_73), (9, .inl v9_84)]) (st' := []) (h' := gr_h I82 J83) (C := (True ∧ True)) rfl ⟨trivial, trivial⟩ ?_
            refine gv_pick [1, 2, 3, 4, 5, 6, 7, 8, 0] rfl ?_
            exact L233 _ I82 J83 ((I82 93 (Int.toNat (((((25 * a2) + v9_84) * 32) + v7_73))))) (Nat.lt_succ_self _) hI82 FI82 FJ83 (by omega) e0_84 e1_84 e2_84 (gr_LS_sp e0_84.2.2.2.1 ⟨by omega, by omega⟩ ⟨by omega, by omega⟩ ⟨by omega, by omega⟩)
      refine gv_run 1 true hD (pc' := 206) (lv' := [(9, .inl s0_73), (0, .inr (.inr (some 0))), (1, .inl a1), (2, .inl a2), (5, .inl v5_73), (6, .inl v6_73), (7, .inl v7_73), (8, .inl v8_73)]) (st' := []) (h' := gr_h I J) (C := (True ∧ True)) rfl ⟨trivial, trivial⟩ ?_
      refine gv_pick [1, 2, 3, 4, 5, 6, 7, 0] rfl ?_
      exact L206 _ I J s0_73 (Nat.lt_succ_self _) hI FI FJ (by omega) x1 (gr_XT_rf I) (gr_IS_rf a1 I)
    have f264 := (show 0 ≤ I 42 (Int.toNat ((I 0 167))) ∧ I 42 (Int.toNat ((I 0 167))) ≤ 6 from (hI 42 (Int.toNat ((I 0 167)))).1)
    refine gv_run 5 true hD (pc' := 12) (lv' := [(0, .inr (.inr (some 0))), (1, .inl a1), (2, .inl a2), (3, .inl (I 0 167))]) (st' := [.inl (I 42 (Int.toNat ((I 0 167)))), .inl a1]) (h' := gr_h I J) (C := (((((True ∧ True) ∧ True) ∧ True) ∧ True) ∧ (0 ≤ (I 0 167) ∧ (I 0 167) < ((3072 : Nat) : Int)))) rfl ⟨⟨⟨⟨⟨trivial, trivial⟩, trivial⟩, trivial⟩, trivial⟩, ⟨by omega, by omega⟩⟩ ?_
    refine gv_icmp_ne (t := 28) hD rfl rfl ⟨⟨by omega, by omega⟩, ⟨by omega, by omega⟩⟩ (fun c265 => ?_) (fun c265 => ?_)
    · refine gv_run 7 true hD (pc' := 38) (lv' := [(0, .inr (.inr (some 0))), (1, .inl a1), (2, .inl a2), (3, .inl (I 0 167))]) (st' := [.inl ((6 * (I 0 167)) + a1), .inr (.inr (some 43))]) (h' := gr_h I J) (C := (((((((True ∧ True) ∧ True) ∧ True) ∧ True) ∧ True) ∧ True) ∧ True)) rfl ⟨⟨⟨⟨⟨⟨⟨trivial, trivial⟩, trivial⟩, trivial⟩, trivial⟩, trivial⟩, trivial⟩, trivial⟩ ?_
      have t266 := (show (-4) ≤ I 43 (Int.toNat (6 * I 0 167 + a1)) ∧ I 43 (Int.toNat (6 * I 0 167 + a1)) ≤ 32015 from (hI 43 _).1)
      have f267 := (show (-4) ≤ I 43 (Int.toNat (((6 * (I 0 167)) + a1))) ∧ I 43 (Int.toNat (((6 * (I 0 167)) + a1))) ≤ 32015 from (hI 43 (Int.toNat (((6 * (I 0 167)) + a1)))).1)
      refine gv_run 1 true hD (pc' := 39) (lv' := [(0, .inr (.inr (some 0))), (1, .inl a1), (2, .inl a2), (3, .inl (I 0 167))]) (st' := [.inl (I 43 (Int.toNat (((6 * (I 0 167)) + a1))))]) (h' := gr_h I J) (C := (True ∧ (0 ≤ (((6 * (I 0 167)) + a1)) ∧ (((6 * (I 0 167)) + a1)) < ((18432 : Nat) : Int)))) rfl ⟨trivial, ⟨by omega, by omega⟩⟩ ?_
      refine gv_run 2 true hD (pc' := 43) (lv' := [(4, .inl (I 43 (Int.toNat (((6 * (I 0 167)) + a1))))), (0, .inr (.inr (some 0))), (1, .inl a1), (2, .inl a2), (3, .inl (I 0 167))]) (st' := [.inl (I 43 (Int.toNat (((6 * (I 0 167)) + a1))))]) (h' := gr_h I J) (C := ((True ∧ True) ∧ True)) rfl ⟨⟨trivial, trivial⟩, trivial⟩ ?_
      refine gv_if_lt (t := 128) hD rfl rfl ⟨by omega, by omega⟩ (fun c268 => ?_) (fun c268 => ?_)
      · refine gv_run 7 true hD (pc' := 140) (lv' := [(5, .inl ((-1) - (I 43 (Int.toNat (((6 * (I 0 167)) + a1)))))), (4, .inl (I 43 (Int.toNat (((6 * (I 0 167)) + a1))))), (0, .inr (.inr (some 0))), (1, .inl a1), (2, .inl a2), (3, .inl (I 0 167))]) (st' := [.inl 6, .inr (.inr (some 44))]) (h' := gr_h I J) (C := (((((((True ∧ True) ∧ True) ∧ True) ∧ True) ∧ True) ∧ True) ∧ True)) rfl ⟨⟨⟨⟨⟨⟨⟨trivial, trivial⟩, trivial⟩, trivial⟩, trivial⟩, trivial⟩, trivial⟩, trivial⟩ ?_
        have f269 := (show 0 ≤ I 44 (Int.toNat (((6 * (I 0 167)) + a1))) ∧ I 44 (Int.toNat (((6 * (I 0 167)) + a1))) ≤ 16777215 from (hI 44 (Int.toNat (((6 * (I 0 167)) + a1)))).1)
        refine gv_run 5 true hD (pc' := 145) (lv' := [(5, .inl ((-1) - (I 43 (Int.toNat (((6 * (I 0 167)) + a1)))))), (4, .inl (I 43 (Int.toNat (((6 * (I 0 167)) + a1))))), (0, .inr (.inr (some 0))), (1, .inl a1), (2, .inl a2), (3, .inl (I 0 167))]) (st' := [.inl (I 44 (Int.toNat (((6 * (I 0 167)) + a1))))]) (h' := gr_h I J) (C := (((((True ∧ True) ∧ True) ∧ True) ∧ True) ∧ (0 ≤ (((6 * (I 0 167)) + a1)) ∧ (((6 * (I 0 167)) + a1)) < ((18432 : Nat) : Int)))) rfl ⟨⟨⟨⟨⟨trivial, trivial⟩, trivial⟩, trivial⟩, trivial⟩, ⟨by omega, by omega⟩⟩ ?_
        refine gv_run 7 true hD (pc' := 157) (lv' := [(6, .inl (I 44 (Int.toNat (((6 * (I 0 167)) + a1))))), (5, .inl ((-1) - (I 43 (Int.toNat (((6 * (I 0 167)) + a1)))))), (4, .inl (I 43 (Int.toNat (((6 * (I 0 167)) + a1))))), (0, .inr (.inr (some 0))), (1, .inl a1), (2, .inl a2), (3, .inl (I 0 167))]) (st' := [.inl (I 0 167), .inr (.inr (some 41)), .inl 4, .inr (.inr (some 7))]) (h' := gr_h I J) (C := (((((((True ∧ True) ∧ True) ∧ True) ∧ True) ∧ True) ∧ True) ∧ True)) rfl ⟨⟨⟨⟨⟨⟨⟨trivial, trivial⟩, trivial⟩, trivial⟩, trivial⟩, trivial⟩, trivial⟩, trivial⟩ ?_
        have f270 := (show 0 ≤ I 41 (Int.toNat ((I 0 167))) ∧ I 41 (Int.toNat ((I 0 167))) ≤ 95 from (hI 41 (Int.toNat ((I 0 167)))).1)
        refine gv_run 1 true hD (pc' := 158) (lv' := [(6, .inl (I 44 (Int.toNat (((6 * (I 0 167)) + a1))))), (5, .inl ((-1) - (I 43 (Int.toNat (((6 * (I 0 167)) + a1)))))), (4, .inl (I 43 (Int.toNat (((6 * (I 0 167)) + a1))))), (0, .inr (.inr (some 0))), (1, .inl a1), (2, .inl a2), (3, .inl (I 0 167))]) (st' := [.inl (I 41 (Int.toNat ((I 0 167)))), .inl 4, .inr (.inr (some 7))]) (h' := gr_h I J) (C := (True ∧ (0 ≤ (I 0 167) ∧ (I 0 167) < ((3072 : Nat) : Int)))) rfl ⟨trivial, ⟨by omega, by omega⟩⟩ ?_
        have f271 := (show 0 ≤ I 7 (Int.toNat (((4 * (I 41 (Int.toNat ((I 0 167))))) + ((-1) - (I 43 (Int.toNat (((6 * (I 0 167)) + a1)))))))) ∧ I 7 (Int.toNat (((4 * (I 41 (Int.toNat ((I 0 167))))) + ((-1) - (I 43 (Int.toNat (((6 * (I 0 167)) + a1)))))))) ≤ 31 from (hI 7 (Int.toNat (((4 * (I 41 (Int.toNat ((I 0 167))))) + ((-1) - (I 43 (Int.toNat (((6 * (I 0 167)) + a1))))))))).1)
        refine gv_run 4 true hD (pc' := 163) (lv' := [(6, .inl (I 44 (Int.toNat (((6 * (I 0 167)) + a1))))), (5, .inl ((-1) - (I 43 (Int.toNat (((6 * (I 0 167)) + a1)))))), (4, .inl (I 43 (Int.toNat (((6 * (I 0 167)) + a1))))), (0, .inr (.inr (some 0))), (1, .inl a1), (2, .inl a2), (3, .inl (I 0 167))]) (st' := [.inl (I 7 (Int.toNat (((4 * (I 41 (Int.toNat ((I 0 167))))) + ((-1) - (I 43 (Int.toNat (((6 * (I 0 167)) + a1)))))))))]) (h' := gr_h I J) (C := ((((True ∧ True) ∧ True) ∧ True) ∧ (0 ≤ (((4 * (I 41 (Int.toNat ((I 0 167))))) + ((-1) - (I 43 (Int.toNat (((6 * (I 0 167)) + a1))))))) ∧ (((4 * (I 41 (Int.toNat ((I 0 167))))) + ((-1) - (I 43 (Int.toNat (((6 * (I 0 167)) + a1))))))) < ((384 : Nat) : Int)))) rfl ⟨⟨⟨⟨trivial, trivial⟩, trivial⟩, trivial⟩, ⟨by omega, by omega⟩⟩ ?_
        have t272 := (show (I 7 (Int.toNat (((4 * (I 41 (Int.toNat ((I 0 167))))) + ((-1) - (I 43 (Int.toNat (((6 * (I 0 167)) + a1))))))))) = I 7 (Int.toNat (4 * I 41 (Int.toNat (I 0 167)) - 1 - I 43 (Int.toNat (6 * I 0 167 + a1)))) from congrArg (I 7) (congrArg Int.toNat (by omega)))
        have f273 := (show 0 ≤ I 0 169 ∧ I 0 169 ≤ 24 from (hI 0 169).1)
        have f274 := (show 0 ≤ I 42 (Int.toNat ((I 0 167))) ∧ I 42 (Int.toNat ((I 0 167))) ≤ 6 from (hI 42 (Int.toNat ((I 0 167)))).1)
        refine gv_run 7 true hD (pc' := 175) (lv' := [(7, .inl (I 7 (Int.toNat (((4 * (I 41 (Int.toNat ((I 0 167))))) + ((-1) - (I 43 (Int.toNat (((6 * (I 0 167)) + a1)))))))))), (6, .inl (I 44 (Int.toNat (((6 * (I 0 167)) + a1))))), (5, .inl ((-1) - (I 43 (Int.toNat (((6 * (I 0 167)) + a1)))))), (4, .inl (I 43 (Int.toNat (((6 * (I 0 167)) + a1))))), (0, .inr (.inr (some 0))), (1, .inl a1), (2, .inl a2), (3, .inl (I 0 167))]) (st' := [.inl (I 42 (Int.toNat ((I 0 167)))), .inl (I 0 169)]) (h' := gr_h I J) (C := (((((((True ∧ True) ∧ True) ∧ True) ∧ True) ∧ True) ∧ True) ∧ (0 ≤ (I 0 167) ∧ (I 0 167) < ((3072 : Nat) : Int)))) rfl ⟨⟨⟨⟨⟨⟨⟨trivial, trivial⟩, trivial⟩, trivial⟩, trivial⟩, trivial⟩, trivial⟩, ⟨by omega, by omega⟩⟩ ?_
        refine gv_run 7 true hD (pc' := 183) (lv' := [(8, .inl ((I 0 169) - (((I 42 (Int.toNat ((I 0 167)))) - a1) - 1))), (7, .inl (I 7 (Int.toNat (((4 * (I 41 (Int.toNat ((I 0 167))))) + ((-1) - (I 43 (Int.toNat (((6 * (I 0 167)) + a1)))))))))), (6, .inl (I 44 (Int.toNat (((6 * (I 0 167)) + a1))))), (5, .inl ((-1) - (I 43 (Int.toNat (((6 * (I 0 167)) + a1)))))), (4, .inl (I 43 (Int.toNat (((6 * (I 0 167)) + a1))))), (0, .inr (.inr (some 0))), (1, .inl a1), (2, .inl a2), (3, .inl (I 0 167))]) (st' := [.inl a1]) (h' := gr_h I J) (C := (((((((True ∧ True) ∧ True) ∧ True) ∧ True) ∧ True) ∧ True) ∧ True)) rfl ⟨⟨⟨⟨⟨⟨⟨trivial, trivial⟩, trivial⟩, trivial⟩, trivial⟩, trivial⟩, trivial⟩, trivial⟩ ?_
        have f275 := (show 0 ≤ I 42 (Int.toNat ((I 0 167))) ∧ I 42 (Int.toNat ((I 0 167))) ≤ 6 from (hI 42 (Int.toNat ((I 0 167)))).1)
        refine gv_run 4 true hD (pc' := 189) (lv' := [(8, .inl ((I 0 169) - (((I 42 (Int.toNat ((I 0 167)))) - a1) - 1))), (7, .inl (I 7 (Int.toNat (((4 * (I 41 (Int.toNat ((I 0 167))))) + ((-1) - (I 43 (Int.toNat (((6 * (I 0 167)) + a1)))))))))), (6, .inl (I 44 (Int.toNat (((6 * (I 0 167)) + a1))))), (5, .inl ((-1) - (I 43 (Int.toNat (((6 * (I 0 167)) + a1)))))), (4, .inl (I 43 (Int.toNat (((6 * (I 0 167)) + a1))))), (0, .inr (.inr (some 0))), (1, .inl a1), (2, .inl a2), (3, .inl (I 0 167))]) (st' := [.inl (I 42 (Int.toNat ((I 0 167)))), .inl a1]) (h' := gr_h I J) (C := ((((True ∧ True) ∧ True) ∧ True) ∧ (0 ≤ (I 0 167) ∧ (I 0 167) < ((3072 : Nat) : Int)))) rfl ⟨⟨⟨⟨trivial, trivial⟩, trivial⟩, trivial⟩, ⟨by omega, by omega⟩⟩ ?_
        refine gv_run 2 true hD (pc' := 191) (lv' := [(8, .inl ((I 0 169) - (((I 42 (Int.toNat ((I 0 167)))) - a1) - 1))), (7, .inl (I 7 (Int.toNat (((4 * (I 41 (Int.toNat ((I 0 167))))) + ((-1) - (I 43 (Int.toNat (((6 * (I 0 167)) + a1)))))))))), (6, .inl (I 44 (Int.toNat (((6 * (I 0 167)) + a1))))), (5, .inl ((-1) - (I 43 (Int.toNat (((6 * (I 0 167)) + a1)))))), (4, .inl (I 43 (Int.toNat (((6 * (I 0 167)) + a1))))), (0, .inr (.inr (some 0))), (1, .inl a1), (2, .inl a2), (3, .inl (I 0 167))]) (st' := [.inl ((I 42 (Int.toNat ((I 0 167)))) - 1), .inl a1]) (h' := gr_h I J) (C := ((True ∧ True) ∧ True)) rfl ⟨⟨trivial, trivial⟩, trivial⟩ ?_
        refine gv_icmp_ne (t := 201) hD rfl rfl ⟨⟨by omega, by omega⟩, ⟨by omega, by omega⟩⟩ (fun c276 => ?_) (fun c276 => ?_)
        · refine gv_run 3 true hD (pc' := 204) (lv' := [(8, .inl ((I 0 169) - (((I 42 (Int.toNat ((I 0 167)))) - a1) - 1))), (7, .inl (I 7 (Int.toNat (((4 * (I 41 (Int.toNat ((I 0 167))))) + ((-1) - (I 43 (Int.toNat (((6 * (I 0 167)) + a1)))))))))), (6, .inl (I 44 (Int.toNat (((6 * (I 0 167)) + a1))))), (5, .inl ((-1) - (I 43 (Int.toNat (((6 * (I 0 167)) + a1)))))), (4, .inl (I 43 (Int.toNat (((6 * (I 0 167)) + a1))))), (0, .inr (.inr (some 0))), (1, .inl a1), (2, .inl a2), (3, .inl (I 0 167))]) (st' := [.inl (a2 + 1)]) (h' := gr_h I J) (C := (((True ∧ True) ∧ True) ∧ True)) rfl ⟨⟨⟨trivial, trivial⟩, trivial⟩, trivial⟩ ?_
          refine gv_pick [5, 6, 7, 3, 2, 1, 0] rfl ?_
          exact L204 (((-1) - (I 43 (Int.toNat (((6 * (I 0 167)) + a1)))))) ((I 44 (Int.toNat (((6 * (I 0 167)) + a1))))) ((I 7 (Int.toNat (((4 * (I 41 (Int.toNat ((I 0 167))))) + ((-1) - (I 43 (Int.toNat (((6 * (I 0 167)) + a1)))))))))) (((I 0 169) - (((I 42 (Int.toNat ((I 0 167)))) - a1) - 1))) (a2 + 1) (by omega)
        · have f277 := (show 0 ≤ I 0 169 ∧ I 0 169 ≤ 24 from (hI 0 169).1)
          refine gv_run 3 true hD (pc' := 204) (lv' := [(8, .inl ((I 0 169) - (((I 42 (Int.toNat ((I 0 167)))) - a1) - 1))), (7, .inl (I 7 (Int.toNat (((4 * (I 41 (Int.toNat ((I 0 167))))) + ((-1) - (I 43 (Int.toNat (((6 * (I 0 167)) + a1)))))))))), (6, .inl (I 44 (Int.toNat (((6 * (I 0 167)) + a1))))), (5, .inl ((-1) - (I 43 (Int.toNat (((6 * (I 0 167)) + a1)))))), (4, .inl (I 43 (Int.toNat (((6 * (I 0 167)) + a1))))), (0, .inr (.inr (some 0))), (1, .inl a1), (2, .inl a2), (3, .inl (I 0 167))]) (st' := [.inl (I 0 169)]) (h' := gr_h I J) (C := (((True ∧ True) ∧ True) ∧ True)) rfl ⟨⟨⟨trivial, trivial⟩, trivial⟩, trivial⟩ ?_
          refine gv_pick [5, 6, 7, 3, 2, 1, 0] rfl ?_
          exact L204 (((-1) - (I 43 (Int.toNat (((6 * (I 0 167)) + a1)))))) ((I 44 (Int.toNat (((6 * (I 0 167)) + a1))))) ((I 7 (Int.toNat (((4 * (I 41 (Int.toNat ((I 0 167))))) + ((-1) - (I 43 (Int.toNat (((6 * (I 0 167)) + a1)))))))))) (((I 0 169) - (((I 42 (Int.toNat ((I 0 167)))) - a1) - 1))) (I 0 169) (by omega)
      · have f278 := gw_and (x := ((I 43 (Int.toNat (((6 * (I 0 167)) + a1)))))) (y := 15) ⟨by omega, by omega⟩
        have f279 := (show 0 ≤ I 0 169 ∧ I 0 169 ≤ 24 from (hI 0 169).1)
        refine gv_run 7 true hD (pc' := 58) (lv' := [(5, .inl ((Int32.ofInt ((I 43 (Int.toNat (((6 * (I 0 167)) + a1))))) &&& Int32.ofInt 15).toInt)), (4, .inl (I 43 (Int.toNat (((6 * (I 0 167)) + a1))))), (0, .inr (.inr (some 0))), (1, .inl a1), (2, .inl a2), (3, .inl (I 0 167))]) (st' := [.inl (I 0 169), .inl a2]) (h' := gr_h I J) (C := (((((((True ∧ True) ∧ True) ∧ True) ∧ True) ∧ True) ∧ True) ∧ True)) rfl ⟨⟨⟨⟨⟨⟨⟨trivial, trivial⟩, trivial⟩, trivial⟩, trivial⟩, trivial⟩, trivial⟩, trivial⟩ ?_
        refine gv_icmp_ge (t := 72) hD rfl rfl ⟨⟨by omega, by omega⟩, ⟨by omega, by omega⟩⟩ (fun c280 => ?_) (fun c280 => ?_)
        · refine gv_pick [] rfl ?_
          exact L72 
        · have f281 := (show 0 ≤ I 85 (Int.toNat a2) ∧ I 85 (Int.toNat a2) ≤ 24 from (hI 85 (Int.toNat a2)).1)
          refine gv_run 4 true hD (pc' := 67) (lv' := [(5, .inl ((Int32.ofInt ((I 43 (Int.toNat (((6 * (I 0 167)) + a1))))) &&& Int32.ofInt 15).toInt)), (4, .inl (I 43 (Int.toNat (((6 * (I 0 167)) + a1))))), (0, .inr (.inr (some 0))), (1, .inl a1), (2, .inl a2), (3, .inl (I 0 167))]) (st' := [.inl (I 85 (Int.toNat a2))]) (h' := gr_h I J) (C := ((((True ∧ True) ∧ True) ∧ True) ∧ (0 ≤ a2 ∧ a2 < ((24 : Nat) : Int)))) rfl ⟨⟨⟨⟨trivial, trivial⟩, trivial⟩, trivial⟩, ⟨by omega, by omega⟩⟩ ?_
          refine gv_run 1 true hD (pc' := 69) (lv' := [(5, .inl ((Int32.ofInt ((I 43 (Int.toNat (((6 * (I 0 167)) + a1))))) &&& Int32.ofInt 15).toInt)), (4, .inl (I 43 (Int.toNat (((6 * (I 0 167)) + a1))))), (0, .inr (.inr (some 0))), (1, .inl a1), (2, .inl a2), (3, .inl (I 0 167))]) (st' := [.inl ((Int32.ofInt ((I 43 (Int.toNat (((6 * (I 0 167)) + a1))))) &&& Int32.ofInt 15).toInt), .inl (I 85 (Int.toNat a2))]) (h' := gr_h I J) (C := (True ∧ True)) rfl ⟨trivial, trivial⟩ ?_
          refine gv_icmp_eq (t := 73) hD rfl rfl ⟨⟨by omega, by omega⟩, ⟨by omega, by omega⟩⟩ (fun c282 => ?_) (fun c282 => ?_)
          · refine gv_run 2 true hD (pc' := 76) (lv' := [(6, .inl 0), (5, .inl ((Int32.ofInt ((I 43 (Int.toNat (((6 * (I 0 167)) + a1))))) &&& Int32.ofInt 15).toInt)), (4, .inl (I 43 (Int.toNat (((6 * (I 0 167)) + a1))))), (0, .inr (.inr (some 0))), (1, .inl a1), (2, .inl a2), (3, .inl (I 0 167))]) (st' := []) (h' := gr_h I J) (C := ((True ∧ True) ∧ True)) rfl ⟨⟨trivial, trivial⟩, trivial⟩ ?_
            refine gv_pick [3, 4, 5, 2, 1, 0] rfl ?_
            exact L76 _ ((I 43 (Int.toNat (((6 * (I 0 167)) + a1))))) (((Int32.ofInt ((I 43 (Int.toNat (((6 * (I 0 167)) + a1))))) &&& Int32.ofInt 15).toInt)) 0 (Nat.lt_succ_self _) (by omega)
          · refine gv_pick [] rfl ?_
            exact L72 
    · have f283 := (show 0 ≤ I 0 169 ∧ I 0 169 ≤ 24 from (hI 0 169).1)
      refine gv_run 3 true hD (pc' := 20) (lv' := [(0, .inr (.inr (some 0))), (1, .inl a1), (2, .inl a2), (3, .inl (I 0 167))]) (st' := [.inl (I 0 169), .inl a2]) (h' := gr_h I J) (C := (((True ∧ True) ∧ True) ∧ True)) rfl ⟨⟨⟨trivial, trivial⟩, trivial⟩, trivial⟩ ?_
      refine gv_icmp_ne (t := 27) hD rfl rfl ⟨⟨by omega, by omega⟩, ⟨by omega, by omega⟩⟩ (fun c284 => ?_) (fun c284 => ?_)
      · refine gv_pick [] rfl ?_
        exact L27 I J hI FI FJ (by omega) x1 (gr_XT_rf I) (gr_IS_rf a1 I)
      · refine gv_run 1 true hD (pc' := 24) (lv' := [(0, .inr (.inr (some 0))), (1, .inl a1), (2, .inl a2), (3, .inl (I 0 167))]) (st' := [.inr (.inr (some 0))]) (h' := gr_h I J) (C := (True ∧ True)) rfl ⟨trivial, trivial⟩ ?_
        obtain ⟨r285, h285, E285, P285⟩ := r_finish (ws0 := ws0) (tb := tb) hws htb ext t o I J hI   x0 x1 (by have u1 : a1 = I 42 (Int.toNat (I 0 167)) := (by omega); have u2 : a2 = I 0 169 := (by omega); rw [← u1, ← u2]; exact x2) x3 (by omega) (by omega) (by omega) (by omega) (by omega)
        obtain ⟨I286, J287, rfl, hI286, g285, k285, ⟨rfl, q285⟩⟩ := P285
        have FI286 := gr_frt FI g285 rfl rfl
        have FJ287 := gr_fjt FJ k285 rfl rfl
        have t288 := g285 0 143 rfl
        have t289 := g285 0 168 rfl
        have t290 := g285 0 169 rfl
        have t291 := g285 0 167 rfl
        have t292 := g285 0 161 rfl
        have f293 := (show 0 ≤ I286 0 157 ∧ I286 0 157 ≤ 3000 from (hI286 0 157).1)
        have f294 := (show 0 ≤ I286 0 143 ∧ I286 0 143 ≤ 24 from (hI286 0 143).1)
        have f295 := (show 0 ≤ I286 0 158 ∧ I286 0 158 ≤ 9000 from (hI286 0 158).1)
        have f296 := (show 0 ≤ I286 0 168 ∧ I286 0 168 ≤ 24 from (hI286 0 168).1)
        have f297 := (show 0 ≤ I286 0 169 ∧ I286 0 169 ≤ 24 from (hI286 0 169).1)
        have f298 := (show 0 ≤ I286 0 167 ∧ I286 0 167 ≤ 3071 from (hI286 0 167).1)
        have f299 := (show 0 ≤ I286 0 161 ∧ I286 0 161 ≤ 400001 from (hI286 0 161).1)
        have f300 := (show 0 ≤ I286 0 160 ∧ I286 0 160 ≤ 1 from (hI286 0 160).1)
        have t301 := q285.2.1
        refine gv_callV hD rfl (As := []) (st := []) rfl (by decide) rfl rfl (gr_lV hws rfl) (Nat.le_of_ble_eq_true rfl) (gz_Ev_mono (d := 3) (by omega) E285) ?_
        show gv_X _ _ (27, [(0, .inr (.inr (some 0))), (1, .inl a1), (2, .inl a2), (3, .inl (I 0 167))], [], gr_sh ++ ext, gr_h I286 J287)
        refine gv_pick [] rfl ?_
        exact L27 I286 J287 hI286 FI286 FJ287 (by omega) q285.1 (gr_XT_tr (gr_XT_rf I) q285.2) (gr_IS_tr (gr_IS_rf a1 I) (fun k _ => g285 103 k rfl))
  have f302 := (show 0 ≤ I 0 167 ∧ I 0 167 ≤ 3071 from (hI 0 167).1)
  refine gv_run 3 true hD (pc' := 5) (lv' := [(3, .inl (I 0 167)), (0, .inr (.inr (some 0))), (1, .inl a1), (2, .inl a2)]) (st' := []) (h' := gr_h I J) (C := (((True ∧ True) ∧ True) ∧ True)) rfl ⟨⟨⟨trivial, trivial⟩, trivial⟩, trivial⟩ ?_
  refine gv_pick [1, 2, 3, 0] rfl ?_
  exact L5 (I 0 167) (by omega)
