theorem gr_GR_w {I I1 I' : gr_I} {t k : Nat} {z : Int} (h : gr_GR I) (ht : t < 8) (p1 : ∀ b j, ¬ (b = 18 ∧ j = t) → I1 b j = I b j) (q1 : I1 18 t = I 18 t + 1) (h0 : 0 ≤ I 18 t) (h63 : I 18 t ≤ 63) (hk : (k : Int) = 64 * (t : Int) + I 18 t) (p : ∀ b j, ¬ (b = 36 ∧ j = k) → I' b j = I1 b j) (q : I' 36 k = z) (hz : 0 ≤ z ∧ z < I 0 3) (h6 : I 6 (Int.toNat z) = 0) : gr_GR I' := by
  have e : ∀ b j, ¬ (b = 18 ∧ j = t) → ¬ (b = 36 ∧ j = k) → I' b j = I b j := fun b j a c => (p b j c).trans (p1 b j a)
  have r : ∀ b j, ¬ b = 18 → ¬ b = 36 → I' b j = I b j := fun b j a c => e b j (fun q => a q.1) (fun q => c q.1)
  refine ⟨fun s i hs hi => ?_, fun s i hs hi => ?_⟩
  · rw [r 19 s (by decide) (by decide)] at hi
    obtain ⟨a, b⟩ := h.1 s i hs hi
    refine ⟨a, fun hc => ?_⟩
    have b9 := b hc
    exact gr_LW_c b9 (r _ _ (by decide) (by decide)) (r _ _ (by decide) (by decide)) (r _ _ (by decide) (by decide)) (fun _ _ => r _ _ (by decide) (by decide)) (fun _ _ => r _ _ (by decide) (by decide)) (fun _ _ => r _ _ (by decide) (by decide)) (by rw [r 0 3 (by decide) (by decide)]; exact b9.1.1) (r _ _ (by decide) (by decide)) (fun _ _ => r _ _ (by decide) (by decide)) (r _ _ (by decide) (by decide))
  · by_cases c : s = t ∧ (i : Int) = I 18 t
    · have ek : 64 * s + i = k := by omega
      refine ⟨by omega, fun _ => ?_⟩
      rw [ek, q, r 0 3 (by decide) (by decide), r 6 _ (by decide) (by decide)]
      exact ⟨by omega, by omega, h6⟩
    · have hi9 : (i : Int) < I 18 s := by
        by_cases c2 : s = t
        · subst c2
          rw [p 18 s (fun q => absurd q.1 (by decide)), q1] at hi
          omega
        · rw [e 18 s (fun q => c2 q.2) (fun q => absurd q.1 (by decide))] at hi
          exact hi
      obtain ⟨a, b⟩ := h.2 s i hs hi9
      refine ⟨a, fun hc => ?_⟩
      have b9 := b hc
      have ne : ¬ 64 * s + i = k := by
        intro q
        refine c ⟨by omega, by omega⟩
      rw [e 36 _ (fun q => absurd q.1 (by decide)) (fun q => ne q.2), r 0 3 (by decide) (by decide), r 6 _ (by decide) (by decide)]
      exact b9
theorem gr_ST_w {I9 I I1 I' : gr_I} {t k : Nat} (h : gr_ST I9 I) (hG : gr_GR I) (ht : t < 8) (p1 : ∀ b j, ¬ (b = 18 ∧ j = t) → I1 b j = I b j) (q1 : I1 18 t = I 18 t + 1) (h0 : 0 ≤ I 18 t) (h63 : I 18 t ≤ 63) (hk : (k : Int) = 64 * (t : Int) + I 18 t) (p : ∀ b j, ¬ (b = 36 ∧ j = k) → I' b j = I1 b j) : gr_ST I9 I' := by
  have e : ∀ b j, ¬ (b = 18 ∧ j = t) → ¬ (b = 36 ∧ j = k) → I' b j = I b j := fun b j a c => (p b j c).trans (p1 b j a)
  have r : ∀ b j, ¬ b = 18 → ¬ b = 36 → I' b j = I b j := fun b j a c => e b j (fun q => a q.1) (fun q => c q.1)
  refine ⟨⟨by rw [r 0 3 (by decide) (by decide)]; exact h.1.1, fun f hf => (r _ _ (by decide) (by decide)).trans (h.1.2 f hf)⟩, fun s hs => ?_⟩
  obtain ⟨⟨a, a2⟩, b, c⟩ := h.2 s hs
  refine ⟨⟨by rw [r 19 s (by decide) (by decide)]; exact a, ?_⟩, fun i hi => (r _ _ (by decide) (by decide)).trans (b i hi), fun i hi => ?_⟩
  · by_cases c2 : s = t
    · subst c2
      rw [p 18 s (fun q => absurd q.1 (by decide)), q1]
      omega
    · rw [e 18 s (fun q => c2 q.2) (fun q => absurd q.1 (by decide))]
      exact a2
  · have u := (hG.2 s i hs (by omega)).1
    rw [e 36 _ (fun q => absurd q.1 (by decide)) (fun q => ?_)]
    · exact c i hi
    · have q2 := q.2
      have z1 : s = t := by omega
      subst z1
      omega
set_option maxHeartbeats 4000000 in
set_option maxRecDepth 100000 in
theorem r_wordOf_w {ws0 : List Cond} {tb : String → gz_T} (hws : ∀ w ∈ gr_ws, w ∈ ws0) (htb : tb RX13 = gr_T) (ext : gz_Sh) (I9 : gr_I) (I : gr_I) (J : gr_J) (hI : gr_Inv I)   (x0 : I 0 71 = 5 ∨ I 0 73 ≤ I 0 69) (x1 : I 0 72 ≤ I 0 69) (x2 : I 0 71 = 0 ∨ (I 0 72 < I 0 73 ∧ I 0 72 < I 0 69)) (x3 : I 0 71 = 3 → 2 ≤ I 0 73 - I 0 72 ∧ I 0 73 - I 0 72 ≤ 14) (x4 : I 0 72 ≤ I 0 73) (x5 : 0 ≤ I 0 6) (x6 : I 0 59 + I 0 69 - I 0 72 ≤ 1900) (KGR_I : gr_GR I) (KST_I : gr_ST I9 I) : ∃ r h', gz_Ev ws0 tb 12 (yX13_wordOf, cX13_wordOf, 7, (some .boolean)) [.inr (.inr (some 0))] (gr_sh ++ ext) (gr_h I J) r (gr_sh ++ ext) h' 0 0 ∧ (∃ (I' : gr_I) (J' : gr_J), h' = gr_h I' J' ∧ gr_Inv I' ∧ gr_fr [59, 71, 72, 73, 74, 75, 76, 77, 101, 106] [18, 36, 37, 38, 39, 40, 51, 57, 67] I I' ∧ gr_fj [59, 71, 72, 73, 74, 75, 76, 77, 101, 106] [18, 36, 37, 38, 39, 40, 51, 57, 67] J J' ∧ gr_GR I' ∧ gr_ST I9 I' ∧ (∃ z : Int, r = some (.inl z) ∧ 0 ≤ z ∧ z ≤ 1 ∧ (I' 0 71 = 5 ∨ I' 0 73 ≤ I' 0 69) ∧ (I' 0 72 ≤ I' 0 69) ∧ (I' 0 71 = 0 ∨ (I' 0 72 < I' 0 73 ∧ I' 0 72 < I' 0 69)) ∧ (I' 0 71 = 3 → 2 ≤ I' 0 73 - I' 0 72 ∧ I' 0 73 - I' 0 72 ≤ 14) ∧ (I' 0 72 ≤ I' 0 73) ∧ (I' 0 69 = I 0 69) ∧ (I 0 73 ≤ I' 0 73) ∧ (I 0 72 ≤ I' 0 72) ∧ (I' 0 59 - I' 0 72 ≤ I 0 59 - I 0 72))) := by
  have FI : gr_fr [59, 71, 72, 73, 74, 75, 76, 77, 101, 106] [18, 36, 37, 38, 39, 40, 51, 57, 67] I I := fun _ _ _ => rfl
  have FJ : gr_fj [59, 71, 72, 73, 74, 75, 76, 77, 101, 106] [18, 36, 37, 38, 39, 40, 51, 57, 67] J J := fun _ _ _ => rfl
  have hD : gv_D (gr_E ws0 tb 11 (yX13_wordOf, cX13_wordOf, 7, (some .boolean)) kX13_wordOf) := gq_ok oX13_wordOf
  refine gr_ev (d := 11) (l := kX13_wordOf) (Po := fun r h' => (∃ (I' : gr_I) (J' : gr_J), h' = gr_h I' J' ∧ gr_Inv I' ∧ gr_fr [59, 71, 72, 73, 74, 75, 76, 77, 101, 106] [18, 36, 37, 38, 39, 40, 51, 57, 67] I I' ∧ gr_fj [59, 71, 72, 73, 74, 75, 76, 77, 101, 106] [18, 36, 37, 38, 39, 40, 51, 57, 67] J J' ∧ gr_GR I' ∧ gr_ST I9 I' ∧ (∃ z : Int, r = some (.inl z) ∧ 0 ≤ z ∧ z ≤ 1 ∧ (I' 0 71 = 5 ∨ I' 0 73 ≤ I' 0 69) ∧ (I' 0 72 ≤ I' 0 69) ∧ (I' 0 71 = 0 ∨ (I' 0 72 < I' 0 73 ∧ I' 0 72 < I' 0 69)) ∧ (I' 0 71 = 3 → 2 ≤ I' 0 73 - I' 0 72 ∧ I' 0 73 - I' 0 72 ≤ 14) ∧ (I' 0 72 ≤ I' 0 73) ∧ (I' 0 69 = I 0 69) ∧ (I 0 73 ≤ I' 0 73) ∧ (I 0 72 ≤ I' 0 72) ∧ (I' 0 59 - I' 0 72 ≤ I 0 59 - I 0 72)))) htb rfl (Nat.le_of_ble_eq_true rfl) ?_
  have f1 := (show 0 ≤ I 0 71 ∧ I 0 71 ≤ 5 from (hI 0 71).1)
  have f2 := (show 0 ≤ I 0 72 ∧ I 0 72 ≤ 1000 from (hI 0 72).1)
  have f3 := (show 0 ≤ I 0 73 ∧ I 0 73 ≤ 1001 from (hI 0 73).1)
  have f4 := (show 0 ≤ I 0 69 ∧ I 0 69 ≤ 1000 from (hI 0 69).1)
  have f5 := (show (-1) ≤ I 0 6 ∧ I 0 6 ≤ 7 from (hI 0 6).1)
  have f6 := (show 0 ≤ I 0 59 ∧ I 0 59 ≤ 2000 from (hI 0 59).1)
  have f7 := (show 0 ≤ I 0 3 ∧ I 0 3 ≤ 96 from (hI 0 3).1)
  have L14 : ∀ (I8 : gr_I) (J9 : gr_J) (v1_10 : Int), gr_Inv I8 → gr_fr [59, 71, 72, 73, 74, 75, 76, 77, 101, 106] [18, 36, 37, 38, 39, 40, 51, 57, 67] I I8 → gr_fj [59, 71, 72, 73, 74, 75, 76, 77, 101, 106] [18, 36, 37, 38, 39, 40, 51, 57, 67] J J9 → gr_GR I8 → gr_ST I9 I8 → ((0 ≤ v1_10 ∧ v1_10 ≤ 7) ∧ (I8 0 71 = 1) ∧ (I8 0 71 = 5 ∨ I8 0 73 ≤ I8 0 69) ∧ (I8 0 72 ≤ I8 0 69) ∧ (I8 0 71 = 0 ∨ (I8 0 72 < I8 0 73 ∧ I8 0 72 < I8 0 69)) ∧ (I8 0 71 = 3 → 2 ≤ I8 0 73 - I8 0 72 ∧ I8 0 73 - I8 0 72 ≤ 14) ∧ (I8 0 72 ≤ I8 0 73) ∧ (I8 0 69 = I 0 69) ∧ (I 0 73 ≤ I8 0 73) ∧ (I 0 72 ≤ I8 0 72) ∧ (I8 0 6 = I 0 6) ∧ (I8 0 59 - I8 0 72 ≤ I 0 59 - I 0 72)) → gv_X (gr_E ws0 tb 11 (yX13_wordOf, cX13_wordOf, 7, (some .boolean)) kX13_wordOf) (gv_Q cX13_wordOf (some .boolean) (gr_sh ++ ext) (fun r h' => (∃ (I' : gr_I) (J' : gr_J), h' = gr_h I' J' ∧ gr_Inv I' ∧ gr_fr [59, 71, 72, 73, 74, 75, 76, 77, 101, 106] [18, 36, 37, 38, 39, 40, 51, 57, 67] I I' ∧ gr_fj [59, 71, 72, 73, 74, 75, 76, 77, 101, 106] [18, 36, 37, 38, 39, 40, 51, 57, 67] J J' ∧ gr_GR I' ∧ gr_ST I9 I' ∧ (∃ z : Int, r = some (.inl z) ∧ 0 ≤ z ∧ z ≤ 1 ∧ (I' 0 71 = 5 ∨ I' 0 73 ≤ I' 0 69) ∧ (I' 0 72 ≤ I' 0 69) ∧ (I' 0 71 = 0 ∨ (I' 0 72 < I' 0 73 ∧ I' 0 72 < I' 0 69)) ∧ (I' 0 71 = 3 → 2 ≤ I' 0 73 - I' 0 72 ∧ I' 0 73 - I' 0 72 ≤ 14) ∧ (I' 0 72 ≤ I' 0 73) ∧ (I' 0 69 = I 0 69) ∧ (I 0 73 ≤ I' 0 73) ∧ (I 0 72 ≤ I' 0 72) ∧ (I' 0 59 - I' 0 72 ≤ I 0 59 - I 0 72))))) (14, [(0, .inr (.inr (some 0))), (1, .inl v1_10)], [], gr_sh ++ ext, gr_h I8 J9) := by
    intro I8 J9 v1_10 hI8 FI8 FJ9 KGR_I8 KST_I8 m_10
    obtain ⟨hv1_10, e0_10, e1_10, e2_10, e3_10, e4_10, e5_10, e6_10, e7_10, e8_10, e9_10, e10_10⟩ := m_10
    have f11 := (show 0 ≤ I8 0 71 ∧ I8 0 71 ≤ 5 from (hI8 0 71).1)
    have f12 := (show 0 ≤ I8 0 72 ∧ I8 0 72 ≤ 1000 from (hI8 0 72).1)
    have f13 := (show 0 ≤ I8 0 73 ∧ I8 0 73 ≤ 1001 from (hI8 0 73).1)
    have f14 := (show 0 ≤ I8 0 69 ∧ I8 0 69 ≤ 1000 from (hI8 0 69).1)
    have f15 := (show (-1) ≤ I8 0 6 ∧ I8 0 6 ≤ 7 from (hI8 0 6).1)
    have f16 := (show 0 ≤ I8 0 59 ∧ I8 0 59 ≤ 2000 from (hI8 0 59).1)
    have f17 := (show 0 ≤ I8 0 3 ∧ I8 0 3 ≤ 96 from (hI8 0 3).1)
    have L44 : ((I8 0 71 = 5 ∨ I8 0 73 ≤ I8 0 69) ∧ (I8 0 72 ≤ I8 0 69) ∧ (I8 0 71 = 0 ∨ (I8 0 72 < I8 0 73 ∧ I8 0 72 < I8 0 69)) ∧ (I8 0 71 = 3 → 2 ≤ I8 0 73 - I8 0 72 ∧ I8 0 73 - I8 0 72 ≤ 14) ∧ (I8 0 72 ≤ I8 0 73) ∧ (I8 0 69 = I 0 69) ∧ (I 0 73 ≤ I8 0 73) ∧ (I 0 72 ≤ I8 0 72) ∧ (I8 0 6 = I 0 6) ∧ (I8 0 59 - I8 0 72 ≤ I 0 59 - I 0 72)) → gv_X (gr_E ws0 tb 11 (yX13_wordOf, cX13_wordOf, 7, (some .boolean)) kX13_wordOf) (gv_Q cX13_wordOf (some .boolean) (gr_sh ++ ext) (fun r h' => (∃ (I' : gr_I) (J' : gr_J), h' = gr_h I' J' ∧ gr_Inv I' ∧ gr_fr [59, 71, 72, 73, 74, 75, 76, 77, 101, 106] [18, 36, 37, 38, 39, 40, 51, 57, 67] I I' ∧ gr_fj [59, 71, 72, 73, 74, 75, 76, 77, 101, 106] [18, 36, 37, 38, 39, 40, 51, 57, 67] J J' ∧ gr_GR I' ∧ gr_ST I9 I' ∧ (∃ z : Int, r = some (.inl z) ∧ 0 ≤ z ∧ z ≤ 1 ∧ (I' 0 71 = 5 ∨ I' 0 73 ≤ I' 0 69) ∧ (I' 0 72 ≤ I' 0 69) ∧ (I' 0 71 = 0 ∨ (I' 0 72 < I' 0 73 ∧ I' 0 72 < I' 0 69)) ∧ (I' 0 71 = 3 → 2 ≤ I' 0 73 - I' 0 72 ∧ I' 0 73 - I' 0 72 ≤ 14) ∧ (I' 0 72 ≤ I' 0 73) ∧ (I' 0 69 = I 0 69) ∧ (I 0 73 ≤ I' 0 73) ∧ (I 0 72 ≤ I' 0 72) ∧ (I' 0 59 - I' 0 72 ≤ I 0 59 - I 0 72))))) (44, [(0, .inr (.inr (some 0)))], [], gr_sh ++ ext, gr_h I8 J9) := by
      intro m_18
      obtain ⟨e0_18, e1_18, e2_18, e3_18, e4_18, e5_18, e6_18, e7_18, e8_18, e9_18⟩ := m_18
      have f19 := (show 0 ≤ I8 0 71 ∧ I8 0 71 ≤ 5 from (hI8 0 71).1)
      have f20 := (show 0 ≤ I8 0 72 ∧ I8 0 72 ≤ 1000 from (hI8 0 72).1)
      have f21 := (show 0 ≤ I8 0 73 ∧ I8 0 73 ≤ 1001 from (hI8 0 73).1)
      have f22 := (show 0 ≤ I8 0 69 ∧ I8 0 69 ≤ 1000 from (hI8 0 69).1)
      have f23 := (show (-1) ≤ I8 0 6 ∧ I8 0 6 ≤ 7 from (hI8 0 6).1)
      have f24 := (show 0 ≤ I8 0 59 ∧ I8 0 59 ≤ 2000 from (hI8 0 59).1)
      have f25 := (show 0 ≤ I8 0 3 ∧ I8 0 3 ≤ 96 from (hI8 0 3).1)
      refine gv_run 2 true hD (pc' := 46) (lv' := [(0, .inr (.inr (some 0)))]) (st' := [.inl 5, .inr (.inr (some 0))]) (h' := gr_h I8 J9) (C := ((True ∧ True) ∧ True)) rfl ⟨⟨trivial, trivial⟩, trivial⟩ ?_
      obtain ⟨r26, h26, E26, P26⟩ := r_no_ (ws0 := ws0) (tb := tb) hws htb ext I8 J9 hI8 5 ⟨by omega, by omega⟩ 
      obtain ⟨I27, J28, rfl, hI27, g26, k26, ⟨z26, rfl, q26⟩⟩ := P26
      have FI27 := gr_frt FI8 g26 rfl rfl
      have FJ28 := gr_fjt FJ9 k26 rfl rfl
      have t29 := g26 0 71 rfl
      have t30 := g26 0 72 rfl
      have t31 := g26 0 73 rfl
      have t32 := g26 0 69 rfl
      have t33 := g26 0 6 rfl
      have t34 := g26 0 59 rfl
      have t35 := g26 0 3 rfl
      have f36 := (show 0 ≤ I27 0 71 ∧ I27 0 71 ≤ 5 from (hI27 0 71).1)
      have f37 := (show 0 ≤ I27 0 72 ∧ I27 0 72 ≤ 1000 from (hI27 0 72).1)
      have f38 := (show 0 ≤ I27 0 73 ∧ I27 0 73 ≤ 1001 from (hI27 0 73).1)
      have f39 := (show 0 ≤ I27 0 69 ∧ I27 0 69 ≤ 1000 from (hI27 0 69).1)
      have f40 := (show (-1) ≤ I27 0 6 ∧ I27 0 6 ≤ 7 from (hI27 0 6).1)
      have f41 := (show 0 ≤ I27 0 59 ∧ I27 0 59 ≤ 2000 from (hI27 0 59).1)
      have f42 := (show 0 ≤ I27 0 3 ∧ I27 0 3 ≤ 96 from (hI27 0 3).1)
      have KGR_I27 := gr_GR_fr KGR_I8 (fun k => g26 19 k rfl) (fun k => g26 18 k rfl) (fun k => g26 36 k rfl) (fun k => g26 41 k rfl) (fun k => g26 42 k rfl) (fun k => g26 43 k rfl) (fun k => g26 45 k rfl) (fun k => g26 46 k rfl) (fun k => g26 47 k rfl) (fun k => g26 6 k rfl) (fun k => g26 7 k rfl) (fun k => g26 8 k rfl) (g26 0 3 rfl)
      have KST_I27 := gr_ST_fr KST_I8 (fun k => g26 6 k rfl) (fun k => g26 19 k rfl) (fun k => g26 18 k rfl) (fun k => g26 41 k rfl) (fun k => g26 36 k rfl) (g26 0 3 rfl)
      refine gv_callV hD rfl (As := [.inl 5]) (st := []) rfl (by decide) rfl rfl (gr_lV hws rfl) (Nat.le_of_ble_eq_true rfl) (gz_Ev_mono (d := 2) (by decide) E26) ?_
      show gv_X _ _ (49, [(0, .inr (.inr (some 0)))], [.inl z26], gr_sh ++ ext, gr_h I27 J28)
      exact gv_zret hD rfl (by omega) ⟨I27, J28, rfl, hI27, FI27, FJ28, KGR_I27, KST_I27, ⟨_, rfl, by omega⟩⟩
    have L63 : ∀ (I43 : gr_I) (J44 : gr_J) (v2_45 : Int), gr_Inv I43 → gr_fr [59, 71, 72, 73, 74, 75, 76, 77, 101, 106] [18, 36, 37, 38, 39, 40, 51, 57, 67] I I43 → gr_fj [59, 71, 72, 73, 74, 75, 76, 77, 101, 106] [18, 36, 37, 38, 39, 40, 51, 57, 67] J J44 → gr_GR I43 → gr_ST I9 I43 → ((0 ≤ v1_10 ∧ v1_10 ≤ 7) ∧ (0 ≤ v2_45 ∧ v2_45 ≤ 95) ∧ (I43 0 71 = 1) ∧ (I43 6 (Int.toNat v2_45) = 0) ∧ (v2_45 < I43 0 3) ∧ (I43 0 71 = 5 ∨ I43 0 73 ≤ I43 0 69) ∧ (I43 0 72 ≤ I43 0 69) ∧ (I43 0 71 = 0 ∨ (I43 0 72 < I43 0 73 ∧ I43 0 72 < I43 0 69)) ∧ (I43 0 71 = 3 → 2 ≤ I43 0 73 - I43 0 72 ∧ I43 0 73 - I43 0 72 ≤ 14) ∧ (I43 0 72 ≤ I43 0 73) ∧ (I43 0 69 = I 0 69) ∧ (I 0 73 ≤ I43 0 73) ∧ (I 0 72 ≤ I43 0 72) ∧ (I43 0 6 = I 0 6) ∧ (I43 0 59 - I43 0 72 ≤ I 0 59 - I 0 72)) → gv_X (gr_E ws0 tb 11 (yX13_wordOf, cX13_wordOf, 7, (some .boolean)) kX13_wordOf) (gv_Q cX13_wordOf (some .boolean) (gr_sh ++ ext) (fun r h' => (∃ (I' : gr_I) (J' : gr_J), h' = gr_h I' J' ∧ gr_Inv I' ∧ gr_fr [59, 71, 72, 73, 74, 75, 76, 77, 101, 106] [18, 36, 37, 38, 39, 40, 51, 57, 67] I I' ∧ gr_fj [59, 71, 72, 73, 74, 75, 76, 77, 101, 106] [18, 36, 37, 38, 39, 40, 51, 57, 67] J J' ∧ gr_GR I' ∧ gr_ST I9 I' ∧ (∃ z : Int, r = some (.inl z) ∧ 0 ≤ z ∧ z ≤ 1 ∧ (I' 0 71 = 5 ∨ I' 0 73 ≤ I' 0 69) ∧ (I' 0 72 ≤ I' 0 69) ∧ (I' 0 71 = 0 ∨ (I' 0 72 < I' 0 73 ∧ I' 0 72 < I' 0 69)) ∧ (I' 0 71 = 3 → 2 ≤ I' 0 73 - I' 0 72 ∧ I' 0 73 - I' 0 72 ≤ 14) ∧ (I' 0 72 ≤ I' 0 73) ∧ (I' 0 69 = I 0 69) ∧ (I 0 73 ≤ I' 0 73) ∧ (I 0 72 ≤ I' 0 72) ∧ (I' 0 59 - I' 0 72 ≤ I 0 59 - I 0 72))))) (63, [(0, .inr (.inr (some 0))), (1, .inl v1_10), (2, .inl v2_45)], [], gr_sh ++ ext, gr_h I43 J44) := by
      intro I43 J44 v2_45 hI43 FI43 FJ44 KGR_I43 KST_I43 m_45
      clear hv1_10 e0_10 e1_10 e2_10 e3_10 e4_10 e5_10 e6_10 e7_10 e8_10 e9_10 e10_10 f11 f12 f13 f14 f15 f16 f17
      obtain ⟨hv1_10_45, hv2_45, e0_45, e1_45, e2_45, e3_45, e4_45, e5_45, e6_45, e7_45, e8_45, e9_45, e10_45, e11_45, e12_45⟩ := m_45
      have f46 := (show 0 ≤ I43 0 71 ∧ I43 0 71 ≤ 5 from (hI43 0 71).1)
      have f47 := (show 0 ≤ I43 0 72 ∧ I43 0 72 ≤ 1000 from (hI43 0 72).1)
      have f48 := (show 0 ≤ I43 0 73 ∧ I43 0 73 ≤ 1001 from (hI43 0 73).1)
      have f49 := (show 0 ≤ I43 0 69 ∧ I43 0 69 ≤ 1000 from (hI43 0 69).1)
      have f50 := (show (-1) ≤ I43 0 6 ∧ I43 0 6 ≤ 7 from (hI43 0 6).1)
      have f51 := (show 0 ≤ I43 0 59 ∧ I43 0 59 ≤ 2000 from (hI43 0 59).1)
      have f52 := (show 0 ≤ I43 0 3 ∧ I43 0 3 ≤ 96 from (hI43 0 3).1)
      have L119 : ∀ (n : Nat) (I53 : gr_I) (J54 : gr_J) (v3_55 : Int) (v4_55 : Int) (v5_55 : Int), (4 - v5_55).toNat < n → gr_Inv I53 → gr_fr [59, 71, 72, 73, 74, 75, 76, 77, 101, 106] [18, 36, 37, 38, 39, 40, 51, 57, 67] I I53 → gr_fj [59, 71, 72, 73, 74, 75, 76, 77, 101, 106] [18, 36, 37, 38, 39, 40, 51, 57, 67] J J54 → gr_GR I53 → gr_ST I9 I53 → ((0 ≤ v1_10 ∧ v1_10 ≤ 7) ∧ (0 ≤ v2_45 ∧ v2_45 ≤ 95) ∧ (0 ≤ v3_55 ∧ v3_55 ≤ 23) ∧ (0 ≤ v4_55 ∧ v4_55 ≤ 0) ∧ (0 ≤ v5_55 ∧ v5_55 ≤ 3) ∧ (I53 6 (Int.toNat v2_45) = 0) ∧ (v2_45 < I53 0 3) ∧ (I53 0 71 = 5 ∨ I53 0 73 ≤ I53 0 69) ∧ (I53 0 72 ≤ I53 0 69) ∧ (I53 0 71 = 0 ∨ (I53 0 72 < I53 0 73 ∧ I53 0 72 < I53 0 69)) ∧ (I53 0 71 = 3 → 2 ≤ I53 0 73 - I53 0 72 ∧ I53 0 73 - I53 0 72 ≤ 14) ∧ (I53 0 72 ≤ I53 0 73) ∧ (I53 0 69 = I 0 69) ∧ (I 0 73 ≤ I53 0 73) ∧ (I 0 72 ≤ I53 0 72) ∧ (I53 0 6 = I 0 6) ∧ (I53 0 59 - I53 0 72 ≤ I 0 59 - I 0 72)) → gv_X (gr_E ws0 tb 11 (yX13_wordOf, cX13_wordOf, 7, (some .boolean)) kX13_wordOf) (gv_Q cX13_wordOf (some .boolean) (gr_sh ++ ext) (fun r h' => (∃ (I' : gr_I) (J' : gr_J), h' = gr_h I' J' ∧ gr_Inv I' ∧ gr_fr [59, 71, 72, 73, 74, 75, 76, 77, 101, 106] [18, 36, 37, 38, 39, 40, 51, 57, 67] I I' ∧ gr_fj [59, 71, 72, 73, 74, 75, 76, 77, 101, 106] [18, 36, 37, 38, 39, 40, 51, 57, 67] J J' ∧ gr_GR I' ∧ gr_ST I9 I' ∧ (∃ z : Int, r = some (.inl z) ∧ 0 ≤ z ∧ z ≤ 1 ∧ (I' 0 71 = 5 ∨ I' 0 73 ≤ I' 0 69) ∧ (I' 0 72 ≤ I' 0 69) ∧ (I' 0 71 = 0 ∨ (I' 0 72 < I' 0 73 ∧ I' 0 72 < I' 0 69)) ∧ (I' 0 71 = 3 → 2 ≤ I' 0 73 - I' 0 72 ∧ I' 0 73 - I' 0 72 ≤ 14) ∧ (I' 0 72 ≤ I' 0 73) ∧ (I' 0 69 = I 0 69) ∧ (I 0 73 ≤ I' 0 73) ∧ (I 0 72 ≤ I' 0 72) ∧ (I' 0 59 - I' 0 72 ≤ I 0 59 - I 0 72))))) (119, [(0, .inr (.inr (some 0))), (1, .inl v1_10), (2, .inl v2_45), (3, .inl v3_55), (4, .inl v4_55), (5, .inl v5_55)], [], gr_sh ++ ext, gr_h I53 J54) := by
        intro n
        induction n with
        | zero => intro I53 J54 v3_55 v4_55 v5_55 hn; omega
        | succ n ih119 =>
          intro I53 J54 v3_55 v4_55 v5_55 hn hI53 FI53 FJ54 KGR_I53 KST_I53 m_55
          clear hv1_10_45 hv2_45 e0_45 e1_45 e2_45 e3_45 e4_45 e5_45 e6_45 e7_45 e8_45 e9_45 e10_45 e11_45 e12_45 f46 f47 f48 f49 f50 f51 f52
          obtain ⟨hv1_10_55, hv2_45_55, hv3_55, hv4_55, hv5_55, e0_55, e1_55, e2_55, e3_55, e4_55, e5_55, e6_55, e7_55, e8_55, e9_55, e10_55, e11_55⟩ := m_55
          have f56 := (show 0 ≤ I53 0 71 ∧ I53 0 71 ≤ 5 from (hI53 0 71).1)
          have f57 := (show 0 ≤ I53 0 72 ∧ I53 0 72 ≤ 1000 from (hI53 0 72).1)
          have f58 := (show 0 ≤ I53 0 73 ∧ I53 0 73 ≤ 1001 from (hI53 0 73).1)
          have f59 := (show 0 ≤ I53 0 69 ∧ I53 0 69 ≤ 1000 from (hI53 0 69).1)
          have f60 := (show (-1) ≤ I53 0 6 ∧ I53 0 6 ≤ 7 from (hI53 0 6).1)
          have f61 := (show 0 ≤ I53 0 59 ∧ I53 0 59 ≤ 2000 from (hI53 0 59).1)
          have f62 := (show 0 ≤ I53 0 3 ∧ I53 0 3 ≤ 96 from (hI53 0 3).1)
          have L139 : ∀ (n : Nat) (I63 : gr_I) (J64 : gr_J) (v4_65 : Int), (1001 - I63 0 72).toNat < n → gr_Inv I63 → gr_fr [59, 71, 72, 73, 74, 75, 76, 77, 101, 106] [18, 36, 37, 38, 39, 40, 51, 57, 67] I I63 → gr_fj [59, 71, 72, 73, 74, 75, 76, 77, 101, 106] [18, 36, 37, 38, 39, 40, 51, 57, 67] J J64 → gr_GR I63 → gr_ST I9 I63 → ((0 ≤ v1_10 ∧ v1_10 ≤ 7) ∧ (0 ≤ v2_45 ∧ v2_45 ≤ 95) ∧ (0 ≤ v3_55 ∧ v3_55 ≤ 23) ∧ (0 ≤ v4_65 ∧ v4_65 ≤ 3) ∧ (I63 6 (Int.toNat v2_45) = 0) ∧ (v2_45 < I63 0 3) ∧ (I63 0 71 = 5 ∨ I63 0 73 ≤ I63 0 69) ∧ (I63 0 72 ≤ I63 0 69) ∧ (I63 0 71 = 0 ∨ (I63 0 72 < I63 0 73 ∧ I63 0 72 < I63 0 69)) ∧ (I63 0 71 = 3 → 2 ≤ I63 0 73 - I63 0 72 ∧ I63 0 73 - I63 0 72 ≤ 14) ∧ (I63 0 72 ≤ I63 0 73) ∧ (I63 0 69 = I 0 69) ∧ (I 0 73 ≤ I63 0 73) ∧ (I 0 72 ≤ I63 0 72) ∧ (I63 0 6 = I 0 6) ∧ (I63 0 59 - I63 0 72 ≤ I 0 59 - I 0 72)) → gv_X (gr_E ws0 tb 11 (yX13_wordOf, cX13_wordOf, 7, (some .boolean)) kX13_wordOf) (gv_Q cX13_wordOf (some .boolean) (gr_sh ++ ext) (fun r h' => (∃ (I' : gr_I) (J' : gr_J), h' = gr_h I' J' ∧ gr_Inv I' ∧ gr_fr [59, 71, 72, 73, 74, 75, 76, 77, 101, 106] [18, 36, 37, 38, 39, 40, 51, 57, 67] I I' ∧ gr_fj [59, 71, 72, 73, 74, 75, 76, 77, 101, 106] [18, 36, 37, 38, 39, 40, 51, 57, 67] J J' ∧ gr_GR I' ∧ gr_ST I9 I' ∧ (∃ z : Int, r = some (.inl z) ∧ 0 ≤ z ∧ z ≤ 1 ∧ (I' 0 71 = 5 ∨ I' 0 73 ≤ I' 0 69) ∧ (I' 0 72 ≤ I' 0 69) ∧ (I' 0 71 = 0 ∨ (I' 0 72 < I' 0 73 ∧ I' 0 72 < I' 0 69)) ∧ (I' 0 71 = 3 → 2 ≤ I' 0 73 - I' 0 72 ∧ I' 0 73 - I' 0 72 ≤ 14) ∧ (I' 0 72 ≤ I' 0 73) ∧ (I' 0 69 = I 0 69) ∧ (I 0 73 ≤ I' 0 73) ∧ (I 0 72 ≤ I' 0 72) ∧ (I' 0 59 - I' 0 72 ≤ I 0 59 - I 0 72))))) (139, [(0, .inr (.inr (some 0))), (1, .inl v1_10), (2, .inl v2_45), (3, .inl v3_55), (4, .inl v4_65)], [], gr_sh ++ ext, gr_h I63 J64) := by
            intro n
            induction n with
            | zero => intro I63 J64 v4_65 hn; omega
            | succ n ih139 =>
              intro I63 J64 v4_65 hn hI63 FI63 FJ64 KGR_I63 KST_I63 m_65
              clear hv1_10_55 hv2_45_55 hv3_55 hv4_55 hv5_55 e0_55 e1_55 e2_55 e3_55 e4_55 e5_55 e6_55 e7_55 e8_55 e9_55 e10_55 e11_55 f56 f57 f58 f59 f60 f61 f62
              obtain ⟨hv1_10_65, hv2_45_65, hv3_55_65, hv4_65, e0_65, e1_65, e2_65, e3_65, e4_65, e5_65, e6_65, e7_65, e8_65, e9_65, e10_65, e11_65⟩ := m_65
              have f66 := (show 0 ≤ I63 0 71 ∧ I63 0 71 ≤ 5 from (hI63 0 71).1)
              have f67 := (show 0 ≤ I63 0 72 ∧ I63 0 72 ≤ 1000 from (hI63 0 72).1)
              have f68 := (show 0 ≤ I63 0 73 ∧ I63 0 73 ≤ 1001 from (hI63 0 73).1)
              have f69 := (show 0 ≤ I63 0 69 ∧ I63 0 69 ≤ 1000 from (hI63 0 69).1)
              have f70 := (show (-1) ≤ I63 0 6 ∧ I63 0 6 ≤ 7 from (hI63 0 6).1)
              have f71 := (show 0 ≤ I63 0 59 ∧ I63 0 59 ≤ 2000 from (hI63 0 59).1)
              have f72 := (show 0 ≤ I63 0 3 ∧ I63 0 3 ≤ 96 from (hI63 0 3).1)
              have L174 : ((0 ≤ v1_10 ∧ v1_10 ≤ 7) ∧ (0 ≤ v2_45 ∧ v2_45 ≤ 95) ∧ (0 ≤ v3_55 ∧ v3_55 ≤ 23) ∧ (I63 6 (Int.toNat v2_45) = 0) ∧ (v2_45 < I63 0 3) ∧ (I63 0 71 = 5 ∨ I63 0 73 ≤ I63 0 69) ∧ (I63 0 72 ≤ I63 0 69) ∧ (I63 0 71 = 0 ∨ (I63 0 72 < I63 0 73 ∧ I63 0 72 < I63 0 69)) ∧ (I63 0 71 = 3 → 2 ≤ I63 0 73 - I63 0 72 ∧ I63 0 73 - I63 0 72 ≤ 14) ∧ (I63 0 72 ≤ I63 0 73) ∧ (I63 0 69 = I 0 69) ∧ (I 0 73 ≤ I63 0 73) ∧ (I 0 72 ≤ I63 0 72) ∧ (I63 0 6 = I 0 6) ∧ (I63 0 59 - I63 0 72 ≤ I 0 59 - I 0 72)) → gv_X (gr_E ws0 tb 11 (yX13_wordOf, cX13_wordOf, 7, (some .boolean)) kX13_wordOf) (gv_Q cX13_wordOf (some .boolean) (gr_sh ++ ext) (fun r h' => (∃ (I' : gr_I) (J' : gr_J), h' = gr_h I' J' ∧ gr_Inv I' ∧ gr_fr [59, 71, 72, 73, 74, 75, 76, 77, 101, 106] [18, 36, 37, 38, 39, 40, 51, 57, 67] I I' ∧ gr_fj [59, 71, 72, 73, 74, 75, 76, 77, 101, 106] [18, 36, 37, 38, 39, 40, 51, 57, 67] J J' ∧ gr_GR I' ∧ gr_ST I9 I' ∧ (∃ z : Int, r = some (.inl z) ∧ 0 ≤ z ∧ z ≤ 1 ∧ (I' 0 71 = 5 ∨ I' 0 73 ≤ I' 0 69) ∧ (I' 0 72 ≤ I' 0 69) ∧ (I' 0 71 = 0 ∨ (I' 0 72 < I' 0 73 ∧ I' 0 72 < I' 0 69)) ∧ (I' 0 71 = 3 → 2 ≤ I' 0 73 - I' 0 72 ∧ I' 0 73 - I' 0 72 ≤ 14) ∧ (I' 0 72 ≤ I' 0 73) ∧ (I' 0 69 = I 0 69) ∧ (I 0 73 ≤ I' 0 73) ∧ (I 0 72 ≤ I' 0 72) ∧ (I' 0 59 - I' 0 72 ≤ I 0 59 - I 0 72))))) (174, [(0, .inr (.inr (some 0))), (1, .inl v1_10), (2, .inl v2_45), (3, .inl v3_55)], [], gr_sh ++ ext, gr_h I63 J64) := by
                intro m_73
                obtain ⟨hv1_10_73, hv2_45_73, hv3_55_73, e0_73, e1_73, e2_73, e3_73, e4_73, e5_73, e6_73, e7_73, e8_73, e9_73, e10_73, e11_73⟩ := m_73
                have f74 := (show 0 ≤ I63 0 71 ∧ I63 0 71 ≤ 5 from (hI63 0 71).1)
                have f75 := (show 0 ≤ I63 0 72 ∧ I63 0 72 ≤ 1000 from (hI63 0 72).1)
                have f76 := (show 0 ≤ I63 0 73 ∧ I63 0 73 ≤ 1001 from (hI63 0 73).1)
                have f77 := (show 0 ≤ I63 0 69 ∧ I63 0 69 ≤ 1000 from (hI63 0 69).1)
                have f78 := (show (-1) ≤ I63 0 6 ∧ I63 0 6 ≤ 7 from (hI63 0 6).1)
                have f79 := (show 0 ≤ I63 0 59 ∧ I63 0 59 ≤ 2000 from (hI63 0 59).1)
                have f80 := (show 0 ≤ I63 0 3 ∧ I63 0 3 ≤ 96 from (hI63 0 3).1)
                have L246 : ∀ (I81 : gr_I) (J82 : gr_J) , gr_Inv I81 → gr_fr [59, 71, 72, 73, 74, 75, 76, 77, 101, 106] [18, 36, 37, 38, 39, 40, 51, 57, 67] I I81 → gr_fj [59, 71, 72, 73, 74, 75, 76, 77, 101, 106] [18, 36, 37, 38, 39, 40, 51, 57, 67] J J82 → gr_GR I81 → gr_ST I9 I81 → ((0 ≤ v1_10 ∧ v1_10 ≤ 7) ∧ (0 ≤ v2_45 ∧ v2_45 ≤ 95) ∧ (0 ≤ v3_55 ∧ v3_55 ≤ 23) ∧ (I81 6 (Int.toNat v2_45) = 0) ∧ (v2_45 < I81 0 3) ∧ (I81 0 71 = 5 ∨ I81 0 73 ≤ I81 0 69) ∧ (I81 0 72 ≤ I81 0 69) ∧ (I81 0 71 = 0 ∨ (I81 0 72 < I81 0 73 ∧ I81 0 72 < I81 0 69)) ∧ (I81 0 71 = 3 → 2 ≤ I81 0 73 - I81 0 72 ∧ I81 0 73 - I81 0 72 ≤ 14) ∧ (I81 0 72 ≤ I81 0 73) ∧ (I81 0 69 = I 0 69) ∧ (I 0 73 ≤ I81 0 73) ∧ (I 0 72 ≤ I81 0 72) ∧ (I81 0 6 = I 0 6) ∧ (I81 0 59 - I81 0 72 ≤ I 0 59 - I 0 72)) → gv_X (gr_E ws0 tb 11 (yX13_wordOf, cX13_wordOf, 7, (some .boolean)) kX13_wordOf) (gv_Q cX13_wordOf (some .boolean) (gr_sh ++ ext) (fun r h' => (∃ (I' : gr_I) (J' : gr_J), h' = gr_h I' J' ∧ gr_Inv I' ∧ gr_fr [59, 71, 72, 73, 74, 75, 76, 77, 101, 106] [18, 36, 37, 38, 39, 40, 51, 57, 67] I I' ∧ gr_fj [59, 71, 72, 73, 74, 75, 76, 77, 101, 106] [18, 36, 37, 38, 39, 40, 51, 57, 67] J J' ∧ gr_GR I' ∧ gr_ST I9 I' ∧ (∃ z : Int, r = some (.inl z) ∧ 0 ≤ z ∧ z ≤ 1 ∧ (I' 0 71 = 5 ∨ I' 0 73 ≤ I' 0 69) ∧ (I' 0 72 ≤ I' 0 69) ∧ (I' 0 71 = 0 ∨ (I' 0 72 < I' 0 73 ∧ I' 0 72 < I' 0 69)) ∧ (I' 0 71 = 3 → 2 ≤ I' 0 73 - I' 0 72 ∧ I' 0 73 - I' 0 72 ≤ 14) ∧ (I' 0 72 ≤ I' 0 73) ∧ (I' 0 69 = I 0 69) ∧ (I 0 73 ≤ I' 0 73) ∧ (I 0 72 ≤ I' 0 72) ∧ (I' 0 59 - I' 0 72 ≤ I 0 59 - I 0 72))))) (246, [(0, .inr (.inr (some 0))), (1, .inl v1_10), (2, .inl v2_45), (3, .inl v3_55)], [], gr_sh ++ ext, gr_h I81 J82) := by
                  intro I81 J82 hI81 FI81 FJ82 KGR_I81 KST_I81 m_83
                  clear hv1_10_73 hv2_45_73 hv3_55_73 e0_73 e1_73 e2_73 e3_73 e4_73 e5_73 e6_73 e7_73 e8_73 e9_73 e10_73 e11_73 f74 f75 f76 f77 f78 f79 f80 hv1_10_65 hv2_45_65 hv3_55_65 hv4_65 e0_65 e1_65 e2_65 e3_65 e4_65 e5_65 e6_65 e7_65 e8_65 e9_65 e10_65 e11_65 f66 f67 f68 f69 f70 f71 f72
                  obtain ⟨hv1_10_83, hv2_45_83, hv3_55_83, e0_83, e1_83, e2_83, e3_83, e4_83, e5_83, e6_83, e7_83, e8_83, e9_83, e10_83, e11_83⟩ := m_83
                  have f84 := (show 0 ≤ I81 0 71 ∧ I81 0 71 ≤ 5 from (hI81 0 71).1)
                  have f85 := (show 0 ≤ I81 0 72 ∧ I81 0 72 ≤ 1000 from (hI81 0 72).1)
                  have f86 := (show 0 ≤ I81 0 73 ∧ I81 0 73 ≤ 1001 from (hI81 0 73).1)
                  have f87 := (show 0 ≤ I81 0 69 ∧ I81 0 69 ≤ 1000 from (hI81 0 69).1)
                  have f88 := (show (-1) ≤ I81 0 6 ∧ I81 0 6 ≤ 7 from (hI81 0 6).1)
                  have f89 := (show 0 ≤ I81 0 59 ∧ I81 0 59 ≤ 2000 from (hI81 0 59).1)
                  have f90 := (show 0 ≤ I81 0 3 ∧ I81 0 3 ≤ 96 from (hI81 0 3).1)
                  have L276 : ∀ (I91 : gr_I) (J92 : gr_J) , gr_Inv I91 → gr_fr [59, 71, 72, 73, 74, 75, 76, 77, 101, 106] [18, 36, 37, 38, 39, 40, 51, 57, 67] I I91 → gr_fj [59, 71, 72, 73, 74, 75, 76, 77, 101, 106] [18, 36, 37, 38, 39, 40, 51, 57, 67] J J92 → gr_GR I91 → gr_ST I9 I91 → ((I91 0 71 = 5 ∨ I91 0 73 ≤ I91 0 69) ∧ (I91 0 72 ≤ I91 0 69) ∧ (I91 0 71 = 0 ∨ (I91 0 72 < I91 0 73 ∧ I91 0 72 < I91 0 69)) ∧ (I91 0 71 = 3 → 2 ≤ I91 0 73 - I91 0 72 ∧ I91 0 73 - I91 0 72 ≤ 14) ∧ (I91 0 72 ≤ I91 0 73) ∧ (I91 0 69 = I 0 69) ∧ (I 0 73 ≤ I91 0 73) ∧ (I 0 72 ≤ I91 0 72) ∧ (I91 0 6 = I 0 6) ∧ (I91 0 59 - I91 0 72 ≤ I 0 59 - I 0 72)) → gv_X (gr_E ws0 tb 11 (yX13_wordOf, cX13_wordOf, 7, (some .boolean)) kX13_wordOf) (gv_Q cX13_wordOf (some .boolean) (gr_sh ++ ext) (fun r h' => (∃ (I' : gr_I) (J' : gr_J), h' = gr_h I' J' ∧ gr_Inv I' ∧ gr_fr [59, 71, 72, 73, 74, 75, 76, 77, 101, 106] [18, 36, 37, 38, 39, 40, 51, 57, 67] I I' ∧ gr_fj [59, 71, 72, 73, 74, 75, 76, 77, 101, 106] [18, 36, 37, 38, 39, 40, 51, 57, 67] J J' ∧ gr_GR I' ∧ gr_ST I9 I' ∧ (∃ z : Int, r = some (.inl z) ∧ 0 ≤ z ∧ z ≤ 1 ∧ (I' 0 71 = 5 ∨ I' 0 73 ≤ I' 0 69) ∧ (I' 0 72 ≤ I' 0 69) ∧ (I' 0 71 = 0 ∨ (I' 0 72 < I' 0 73 ∧ I' 0 72 < I' 0 69)) ∧ (I' 0 71 = 3 → 2 ≤ I' 0 73 - I' 0 72 ∧ I' 0 73 - I' 0 72 ≤ 14) ∧ (I' 0 72 ≤ I' 0 73) ∧ (I' 0 69 = I 0 69) ∧ (I 0 73 ≤ I' 0 73) ∧ (I 0 72 ≤ I' 0 72) ∧ (I' 0 59 - I' 0 72 ≤ I 0 59 - I 0 72))))) (276, [], [], gr_sh ++ ext, gr_h I91 J92) := by
                    intro I91 J92 hI91 FI91 FJ92 KGR_I91 KST_I91 m_93
                    clear hv1_10_83 hv2_45_83 hv3_55_83 e0_83 e1_83 e2_83 e3_83 e4_83 e5_83 e6_83 e7_83 e8_83 e9_83 e10_83 e11_83 f84 f85 f86 f87 f88 f89 f90
                    obtain ⟨e0_93, e1_93, e2_93, e3_93, e4_93, e5_93, e6_93, e7_93, e8_93, e9_93⟩ := m_93
                    have f94 := (show 0 ≤ I91 0 71 ∧ I91 0 71 ≤ 5 from (hI91 0 71).1)
                    have f95 := (show 0 ≤ I91 0 72 ∧ I91 0 72 ≤ 1000 from (hI91 0 72).1)
                    have f96 := (show 0 ≤ I91 0 73 ∧ I91 0 73 ≤ 1001 from (hI91 0 73).1)
                    have f97 := (show 0 ≤ I91 0 69 ∧ I91 0 69 ≤ 1000 from (hI91 0 69).1)
                    have f98 := (show (-1) ≤ I91 0 6 ∧ I91 0 6 ≤ 7 from (hI91 0 6).1)
                    have f99 := (show 0 ≤ I91 0 59 ∧ I91 0 59 ≤ 2000 from (hI91 0 59).1)
                    have f100 := (show 0 ≤ I91 0 3 ∧ I91 0 3 ≤ 96 from (hI91 0 3).1)
                    refine gv_run 1 true hD (pc' := 277) (lv' := []) (st' := [.inl 0]) (h' := gr_h I91 J92) (C := (True ∧ True)) rfl ⟨trivial, trivial⟩ ?_
                    exact gv_zret hD rfl (by omega) ⟨I91, J92, rfl, hI91, FI91, FJ92, KGR_I91, KST_I91, ⟨_, rfl, by omega⟩⟩
                  have L253 : ∀ (I101 : gr_I) (J102 : gr_J) , gr_Inv I101 → gr_fr [59, 71, 72, 73, 74, 75, 76, 77, 101, 106] [18, 36, 37, 38, 39, 40, 51, 57, 67] I I101 → gr_fj [59, 71, 72, 73, 74, 75, 76, 77, 101, 106] [18, 36, 37, 38, 39, 40, 51, 57, 67] J J102 → gr_GR I101 → gr_ST I9 I101 → ((0 ≤ v1_10 ∧ v1_10 ≤ 7) ∧ (0 ≤ v2_45 ∧ v2_45 ≤ 95) ∧ (0 ≤ v3_55 ∧ v3_55 ≤ 23) ∧ (I101 6 (Int.toNat v2_45) = 0) ∧ (v2_45 < I101 0 3) ∧ (I101 0 71 = 5 ∨ I101 0 73 ≤ I101 0 69) ∧ (I101 0 72 ≤ I101 0 69) ∧ (I101 0 71 = 0 ∨ (I101 0 72 < I101 0 73 ∧ I101 0 72 < I101 0 69)) ∧ (I101 0 71 = 3 → 2 ≤ I101 0 73 - I101 0 72 ∧ I101 0 73 - I101 0 72 ≤ 14) ∧ (I101 0 72 ≤ I101 0 73) ∧ (I101 0 69 = I 0 69) ∧ (I 0 73 ≤ I101 0 73) ∧ (I 0 72 ≤ I101 0 72) ∧ (I101 0 6 = I 0 6) ∧ (I101 0 59 - I101 0 72 ≤ I 0 59 - I 0 72)) → gv_X (gr_E ws0 tb 11 (yX13_wordOf, cX13_wordOf, 7, (some .boolean)) kX13_wordOf) (gv_Q cX13_wordOf (some .boolean) (gr_sh ++ ext) (fun r h' => (∃ (I' : gr_I) (J' : gr_J), h' = gr_h I' J' ∧ gr_Inv I' ∧ gr_fr [59, 71, 72, 73, 74, 75, 76, 77, 101, 106] [18, 36, 37, 38, 39, 40, 51, 57, 67] I I' ∧ gr_fj [59, 71, 72, 73, 74, 75, 76, 77, 101, 106] [18, 36, 37, 38, 39, 40, 51, 57, 67] J J' ∧ gr_GR I' ∧ gr_ST I9 I' ∧ (∃ z : Int, r = some (.inl z) ∧ 0 ≤ z ∧ z ≤ 1 ∧ (I' 0 71 = 5 ∨ I' 0 73 ≤ I' 0 69) ∧ (I' 0 72 ≤ I' 0 69) ∧ (I' 0 71 = 0 ∨ (I' 0 72 < I' 0 73 ∧ I' 0 72 < I' 0 69)) ∧ (I' 0 71 = 3 → 2 ≤ I' 0 73 - I' 0 72 ∧ I' 0 73 - I' 0 72 ≤ 14) ∧ (I' 0 72 ≤ I' 0 73) ∧ (I' 0 69 = I 0 69) ∧ (I 0 73 ≤ I' 0 73) ∧ (I 0 72 ≤ I' 0 72) ∧ (I' 0 59 - I' 0 72 ≤ I 0 59 - I 0 72))))) (253, [(0, .inr (.inr (some 0))), (1, .inl v1_10), (2, .inl v2_45), (3, .inl v3_55)], [], gr_sh ++ ext, gr_h I101 J102) := by
                    intro I101 J102 hI101 FI101 FJ102 KGR_I101 KST_I101 m_103
                    clear hv1_10_83 hv2_45_83 hv3_55_83 e0_83 e1_83 e2_83 e3_83 e4_83 e5_83 e6_83 e7_83 e8_83 e9_83 e10_83 e11_83 f84 f85 f86 f87 f88 f89 f90
                    obtain ⟨hv1_10_103, hv2_45_103, hv3_55_103, e0_103, e1_103, e2_103, e3_103, e4_103, e5_103, e6_103, e7_103, e8_103, e9_103, e10_103, e11_103⟩ := m_103
                    have f104 := (show 0 ≤ I101 0 71 ∧ I101 0 71 ≤ 5 from (hI101 0 71).1)
                    have f105 := (show 0 ≤ I101 0 72 ∧ I101 0 72 ≤ 1000 from (hI101 0 72).1)
                    have f106 := (show 0 ≤ I101 0 73 ∧ I101 0 73 ≤ 1001 from (hI101 0 73).1)
                    have f107 := (show 0 ≤ I101 0 69 ∧ I101 0 69 ≤ 1000 from (hI101 0 69).1)
                    have f108 := (show (-1) ≤ I101 0 6 ∧ I101 0 6 ≤ 7 from (hI101 0 6).1)
                    have f109 := (show 0 ≤ I101 0 59 ∧ I101 0 59 ≤ 2000 from (hI101 0 59).1)
                    have f110 := (show 0 ≤ I101 0 3 ∧ I101 0 3 ≤ 96 from (hI101 0 3).1)
                    have L270 : ∀ (s1_111 : Int), ((0 ≤ v1_10 ∧ v1_10 ≤ 7) ∧ (0 ≤ v2_45 ∧ v2_45 ≤ 95) ∧ (0 ≤ v3_55 ∧ v3_55 ≤ 23) ∧ (0 ≤ s1_111 ∧ s1_111 ≤ 1) ∧ (s1_111 = 0 ∨ I101 18 (Int.toNat v1_10) ≤ 63) ∧ (I101 6 (Int.toNat v2_45) = 0) ∧ (v2_45 < I101 0 3) ∧ (I101 0 71 = 5 ∨ I101 0 73 ≤ I101 0 69) ∧ (I101 0 72 ≤ I101 0 69) ∧ (I101 0 71 = 0 ∨ (I101 0 72 < I101 0 73 ∧ I101 0 72 < I101 0 69)) ∧ (I101 0 71 = 3 → 2 ≤ I101 0 73 - I101 0 72 ∧ I101 0 73 - I101 0 72 ≤ 14) ∧ (I101 0 72 ≤ I101 0 73) ∧ (I101 0 69 = I 0 69) ∧ (I 0 73 ≤ I101 0 73) ∧ (I 0 72 ≤ I101 0 72) ∧ (I101 0 6 = I 0 6) ∧ (I101 0 59 - I101 0 72 ≤ I 0 59 - I 0 72)) → gv_X (gr_E ws0 tb 11 (yX13_wordOf, cX13_wordOf, 7, (some .boolean)) kX13_wordOf) (gv_Q cX13_wordOf (some .boolean) (gr_sh ++ ext) (fun r h' => (∃ (I' : gr_I) (J' : gr_J), h' = gr_h I' J' ∧ gr_Inv I' ∧ gr_fr [59, 71, 72, 73, 74, 75, 76, 77, 101, 106] [18, 36, 37, 38, 39, 40, 51, 57, 67] I I' ∧ gr_fj [59, 71, 72, 73, 74, 75, 76, 77, 101, 106] [18, 36, 37, 38, 39, 40, 51, 57, 67] J J' ∧ gr_GR I' ∧ gr_ST I9 I' ∧ (∃ z : Int, r = some (.inl z) ∧ 0 ≤ z ∧ z ≤ 1 ∧ (I' 0 71 = 5 ∨ I' 0 73 ≤ I' 0 69) ∧ (I' 0 72 ≤ I' 0 69) ∧ (I' 0 71 = 0 ∨ (I' 0 72 < I' 0 73 ∧ I' 0 72 < I' 0 69)) ∧ (I' 0 71 = 3 → 2 ≤ I' 0 73 - I' 0 72 ∧ I' 0 73 - I' 0 72 ≤ 14) ∧ (I' 0 72 ≤ I' 0 73) ∧ (I' 0 69 = I 0 69) ∧ (I 0 73 ≤ I' 0 73) ∧ (I 0 72 ≤ I' 0 72) ∧ (I' 0 59 - I' 0 72 ≤ I 0 59 - I 0 72))))) (270, [(0, .inr (.inr (some 0))), (1, .inl v1_10), (2, .inl v2_45), (3, .inl v3_55)], [.inl s1_111, .inr (.inr (some 0))], gr_sh ++ ext, gr_h I101 J102) := by
                      intro s1_111 m_111
                      obtain ⟨hv1_10_111, hv2_45_111, hv3_55_111, hs1_111, e0_111, e1_111, e2_111, e3_111, e4_111, e5_111, e6_111, e7_111, e8_111, e9_111, e10_111, e11_111, e12_111⟩ := m_111
                      have f112 := (show 0 ≤ I101 0 71 ∧ I101 0 71 ≤ 5 from (hI101 0 71).1)
                      have f113 := (show 0 ≤ I101 0 72 ∧ I101 0 72 ≤ 1000 from (hI101 0 72).1)
                      have f114 := (show 0 ≤ I101 0 73 ∧ I101 0 73 ≤ 1001 from (hI101 0 73).1)
                      have f115 := (show 0 ≤ I101 0 69 ∧ I101 0 69 ≤ 1000 from (hI101 0 69).1)
                      have f116 := (show (-1) ≤ I101 0 6 ∧ I101 0 6 ≤ 7 from (hI101 0 6).1)
                      have f117 := (show 0 ≤ I101 0 59 ∧ I101 0 59 ≤ 2000 from (hI101 0 59).1)
                      have f118 := (show 0 ≤ I101 0 3 ∧ I101 0 3 ≤ 96 from (hI101 0 3).1)
                      have L315 : ∀ (n : Nat) (I119 : gr_I) (J120 : gr_J) (v5_121 : Int) (v6_121 : Int), (4 - v6_121).toNat < n → gr_Inv I119 → gr_fr [59, 71, 72, 73, 74, 75, 76, 77, 101, 106] [18, 36, 37, 38, 39, 40, 51, 57, 67] I I119 → gr_fj [59, 71, 72, 73, 74, 75, 76, 77, 101, 106] [18, 36, 37, 38, 39, 40, 51, 57, 67] J J120 → gr_GR I119 → gr_ST I9 I119 → ((0 ≤ v5_121 ∧ v5_121 ≤ 511) ∧ (0 ≤ v6_121 ∧ v6_121 ≤ 3) ∧ (I119 0 71 = 5 ∨ I119 0 73 ≤ I119 0 69) ∧ (I119 0 72 ≤ I119 0 69) ∧ (I119 0 71 = 0 ∨ (I119 0 72 < I119 0 73 ∧ I119 0 72 < I119 0 69)) ∧ (I119 0 71 = 3 → 2 ≤ I119 0 73 - I119 0 72 ∧ I119 0 73 - I119 0 72 ≤ 14) ∧ (I119 0 72 ≤ I119 0 73) ∧ (I119 0 69 = I 0 69) ∧ (I 0 73 ≤ I119 0 73) ∧ (I 0 72 ≤ I119 0 72) ∧ (I119 0 6 = I 0 6) ∧ (I119 0 59 - I119 0 72 ≤ I 0 59 - I 0 72)) → gv_X (gr_E ws0 tb 11 (yX13_wordOf, cX13_wordOf, 7, (some .boolean)) kX13_wordOf) (gv_Q cX13_wordOf (some .boolean) (gr_sh ++ ext) (fun r h' => (∃ (I' : gr_I) (J' : gr_J), h' = gr_h I' J' ∧ gr_Inv I' ∧ gr_fr [59, 71, 72, 73, 74, 75, 76, 77, 101, 106] [18, 36, 37, 38, 39, 40, 51, 57, 67] I I' ∧ gr_fj [59, 71, 72, 73, 74, 75, 76, 77, 101, 106] [18, 36, 37, 38, 39, 40, 51, 57, 67] J J' ∧ gr_GR I' ∧ gr_ST I9 I' ∧ (∃ z : Int, r = some (.inl z) ∧ 0 ≤ z ∧ z ≤ 1 ∧ (I' 0 71 = 5 ∨ I' 0 73 ≤ I' 0 69) ∧ (I' 0 72 ≤ I' 0 69) ∧ (I' 0 71 = 0 ∨ (I' 0 72 < I' 0 73 ∧ I' 0 72 < I' 0 69)) ∧ (I' 0 71 = 3 → 2 ≤ I' 0 73 - I' 0 72 ∧ I' 0 73 - I' 0 72 ≤ 14) ∧ (I' 0 72 ≤ I' 0 73) ∧ (I' 0 69 = I 0 69) ∧ (I 0 73 ≤ I' 0 73) ∧ (I 0 72 ≤ I' 0 72) ∧ (I' 0 59 - I' 0 72 ≤ I 0 59 - I 0 72))))) (315, [(0, .inr (.inr (some 0))), (5, .inl v5_121), (6, .inl v6_121)], [], gr_sh ++ ext, gr_h I119 J120) := by
                        intro n
                        induction n with
                        | zero => intro I119 J120 v5_121 v6_121 hn; omega
                        | succ n ih315 =>
                          intro I119 J120 v5_121 v6_121 hn hI119 FI119 FJ120 KGR_I119 KST_I119 m_121
                          clear hv1_10_111 hv2_45_111 hv3_55_111 hs1_111 e0_111 e1_111 e2_111 e3_111 e4_111 e5_111 e6_111 e7_111 e8_111 e9_111 e10_111 e11_111 e12_111 f112 f113 f114 f115 f116 f117 f118 hv1_10_103 hv2_45_103 hv3_55_103 e0_103 e1_103 e2_103 e3_103 e4_103 e5_103 e6_103 e7_103 e8_103 e9_103 e10_103 e11_103 f104 f105 f106 f107 f108 f109 f110
                          obtain ⟨hv5_121, hv6_121, e0_121, e1_121, e2_121, e3_121, e4_121, e5_121, e6_121, e7_121, e8_121, e9_121⟩ := m_121
                          have f122 := (show 0 ≤ I119 0 71 ∧ I119 0 71 ≤ 5 from (hI119 0 71).1)
                          have f123 := (show 0 ≤ I119 0 72 ∧ I119 0 72 ≤ 1000 from (hI119 0 72).1)
                          have f124 := (show 0 ≤ I119 0 73 ∧ I119 0 73 ≤ 1001 from (hI119 0 73).1)
                          have f125 := (show 0 ≤ I119 0 69 ∧ I119 0 69 ≤ 1000 from (hI119 0 69).1)
                          have f126 := (show (-1) ≤ I119 0 6 ∧ I119 0 6 ≤ 7 from (hI119 0 6).1)
                          have f127 := (show 0 ≤ I119 0 59 ∧ I119 0 59 ≤ 2000 from (hI119 0 59).1)
                          have f128 := (show 0 ≤ I119 0 3 ∧ I119 0 3 ≤ 96 from (hI119 0 3).1)
                          refine gv_run 2 true hD (pc' := 318) (lv' := [(0, .inr (.inr (some 0))), (5, .inl v5_121), (6, .inl v6_121)]) (st' := [.inl 3, .inl v6_121]) (h' := gr_h I119 J120) (C := ((True ∧ True) ∧ True)) rfl ⟨⟨trivial, trivial⟩, trivial⟩ ?_
                          refine gv_icmp_ge (t := 346) hD rfl rfl ⟨⟨by omega, by omega⟩, ⟨by omega, by omega⟩⟩ (fun c129 => ?_) (fun c129 => ?_)
                          · have f130 := (show 0 ≤ I119 0 106 ∧ I119 0 106 ≤ 16777215 from (hI119 0 106).1)
                            refine gv_run 5 true hD (pc' := 356) (lv' := [(0, .inr (.inr (some 0))), (5, .inl v5_121), (6, .inl v6_121)]) (st' := [.inl (I119 0 106), .inl v5_121, .inr (.inr (some 39))]) (h' := gr_h I119 J120) (C := (((((True ∧ True) ∧ True) ∧ True) ∧ True) ∧ True)) rfl ⟨⟨⟨⟨⟨trivial, trivial⟩, trivial⟩, trivial⟩, trivial⟩, trivial⟩ ?_
                            refine gv_run 1 true hD (pc' := 357) (lv' := [(0, .inr (.inr (some 0))), (5, .inl v5_121), (6, .inl v6_121)]) (st' := []) (h' := gz_up (gr_h I119 J120) 39 (Int.toNat v5_121) (.inl (I119 0 106))) (C := (True ∧ (0 ≤ v5_121 ∧ v5_121 < ((512 : Nat) : Int)))) rfl ⟨trivial, ⟨by omega, by omega⟩⟩ ?_
                            refine gr_st hI119 FI119 rfl rfl ⟨⟨by show 0 ≤ _; omega, by show _ ≤ 16777215; omega⟩, trivial⟩ (fun I131 hI131 FI131 q132 p132 => ?_)
                            have t133 := p132 0 71 (fun q => absurd q.1 (by decide))
                            have t134 := p132 0 72 (fun q => absurd q.1 (by decide))
                            have t135 := p132 0 73 (fun q => absurd q.1 (by decide))
                            have t136 := p132 0 69 (fun q => absurd q.1 (by decide))
                            have t137 := p132 0 6 (fun q => absurd q.1 (by decide))
                            have t138 := p132 0 59 (fun q => absurd q.1 (by decide))
                            have t139 := p132 0 3 (fun q => absurd q.1 (by decide))
                            have f140 := (show 0 ≤ I131 0 71 ∧ I131 0 71 ≤ 5 from (hI131 0 71).1)
                            have f141 := (show 0 ≤ I131 0 72 ∧ I131 0 72 ≤ 1000 from (hI131 0 72).1)
                            have f142 := (show 0 ≤ I131 0 73 ∧ I131 0 73 ≤ 1001 from (hI131 0 73).1)
                            have f143 := (show 0 ≤ I131 0 69 ∧ I131 0 69 ≤ 1000 from (hI131 0 69).1)
                            have f144 := (show (-1) ≤ I131 0 6 ∧ I131 0 6 ≤ 7 from (hI131 0 6).1)
                            have f145 := (show 0 ≤ I131 0 59 ∧ I131 0 59 ≤ 2000 from (hI131 0 59).1)
                            have f146 := (show 0 ≤ I131 0 3 ∧ I131 0 3 ≤ 96 from (hI131 0 3).1)
                            have KGR_I131 := gr_GR_fr KGR_I119 (fun k => p132 19 k (fun q => absurd q.1 (by decide))) (fun k => p132 18 k (fun q => absurd q.1 (by decide))) (fun k => p132 36 k (fun q => absurd q.1 (by decide))) (fun k => p132 41 k (fun q => absurd q.1 (by decide))) (fun k => p132 42 k (fun q => absurd q.1 (by decide))) (fun k => p132 43 k (fun q => absurd q.1 (by decide))) (fun k => p132 45 k (fun q => absurd q.1 (by decide))) (fun k => p132 46 k (fun q => absurd q.1 (by decide))) (fun k => p132 47 k (fun q => absurd q.1 (by decide))) (fun k => p132 6 k (fun q => absurd q.1 (by decide))) (fun k => p132 7 k (fun q => absurd q.1 (by decide))) (fun k => p132 8 k (fun q => absurd q.1 (by decide))) (p132 0 3 (fun q => absurd q.1 (by decide)))
                            have KST_I131 := gr_ST_fr KST_I119 (fun k => p132 6 k (fun q => absurd q.1 (by decide))) (fun k => p132 19 k (fun q => absurd q.1 (by decide))) (fun k => p132 18 k (fun q => absurd q.1 (by decide))) (fun k => p132 41 k (fun q => absurd q.1 (by decide))) (fun k => p132 36 k (fun q => absurd q.1 (by decide))) (p132 0 3 (fun q => absurd q.1 (by decide)))
                            have f147 := (show 0 ≤ I131 0 101 ∧ I131 0 101 ≤ 10000 from (hI131 0 101).1)
                            refine gv_run 5 true hD (pc' := 367) (lv' := [(0, .inr (.inr (some 0))), (5, .inl v5_121), (6, .inl v6_121)]) (st' := [.inl (I131 0 101), .inl v5_121, .inr (.inr (some 40))]) (h' := gr_h I131 J120) (C := (((((True ∧ True) ∧ True) ∧ True) ∧ True) ∧ True)) rfl ⟨⟨⟨⟨⟨trivial, trivial⟩, trivial⟩, trivial⟩, trivial⟩, trivial⟩ ?_
                            refine gv_run 1 true hD (pc' := 368) (lv' := [(0, .inr (.inr (some 0))), (5, .inl v5_121), (6, .inl v6_121)]) (st' := []) (h' := gz_up (gr_h I131 J120) 40 (Int.toNat v5_121) (.inl (I131 0 101))) (C := (True ∧ (0 ≤ v5_121 ∧ v5_121 < ((512 : Nat) : Int)))) rfl ⟨trivial, ⟨by omega, by omega⟩⟩ ?_
                            refine gr_st hI131 FI131 rfl rfl ⟨⟨by show 0 ≤ _; omega, by show _ ≤ 10000; omega⟩, trivial⟩ (fun I148 hI148 FI148 q149 p149 => ?_)
                            have t150 := p149 0 71 (fun q => absurd q.1 (by decide))
                            have t151 := p149 0 72 (fun q => absurd q.1 (by decide))
                            have t152 := p149 0 73 (fun q => absurd q.1 (by decide))
                            have t153 := p149 0 69 (fun q => absurd q.1 (by decide))
                            have t154 := p149 0 6 (fun q => absurd q.1 (by decide))
                            have t155 := p149 0 59 (fun q => absurd q.1 (by decide))
                            have t156 := p149 0 3 (fun q => absurd q.1 (by decide))
                            have f157 := (show 0 ≤ I148 0 71 ∧ I148 0 71 ≤ 5 from (hI148 0 71).1)
                            have f158 := (show 0 ≤ I148 0 72 ∧ I148 0 72 ≤ 1000 from (hI148 0 72).1)
                            have f159 := (show 0 ≤ I148 0 73 ∧ I148 0 73 ≤ 1001 from (hI148 0 73).1)
                            have f160 := (show 0 ≤ I148 0 69 ∧ I148 0 69 ≤ 1000 from (hI148 0 69).1)
                            have f161 := (show (-1) ≤ I148 0 6 ∧ I148 0 6 ≤ 7 from (hI148 0 6).1)
                            have f162 := (show 0 ≤ I148 0 59 ∧ I148 0 59 ≤ 2000 from (hI148 0 59).1)
                            have f163 := (show 0 ≤ I148 0 3 ∧ I148 0 3 ≤ 96 from (hI148 0 3).1)
                            have KGR_I148 := gr_GR_fr KGR_I131 (fun k => p149 19 k (fun q => absurd q.1 (by decide))) (fun k => p149 18 k (fun q => absurd q.1 (by decide))) (fun k => p149 36 k (fun q => absurd q.1 (by decide))) (fun k => p149 41 k (fun q => absurd q.1 (by decide))) (fun k => p149 42 k (fun q => absurd q.1 (by decide))) (fun k => p149 43 k (fun q => absurd q.1 (by decide))) (fun k => p149 45 k (fun q => absurd q.1 (by decide))) (fun k => p149 46 k (fun q => absurd q.1 (by decide))) (fun k => p149 47 k (fun q => absurd q.1 (by decide))) (fun k => p149 6 k (fun q => absurd q.1 (by decide))) (fun k => p149 7 k (fun q => absurd q.1 (by decide))) (fun k => p149 8 k (fun q => absurd q.1 (by decide))) (p149 0 3 (fun q => absurd q.1 (by decide)))
                            have KST_I148 := gr_ST_fr KST_I131 (fun k => p149 6 k (fun q => absurd q.1 (by decide))) (fun k => p149 19 k (fun q => absurd q.1 (by decide))) (fun k => p149 18 k (fun q => absurd q.1 (by decide))) (fun k => p149 41 k (fun q => absurd q.1 (by decide))) (fun k => p149 36 k (fun q => absurd q.1 (by decide))) (p149 0 3 (fun q => absurd q.1 (by decide)))
                            refine gv_run 1 true hD (pc' := 369) (lv' := [(0, .inr (.inr (some 0))), (5, .inl v5_121), (6, .inl v6_121)]) (st' := [.inl 1]) (h' := gr_h I148 J120) (C := (True ∧ True)) rfl ⟨trivial, trivial⟩ ?_
                            exact gv_zret hD rfl (by omega) ⟨I148, J120, rfl, hI148, FI148, FJ120, KGR_I148, KST_I148, ⟨_, rfl, by omega⟩⟩
                          · refine gv_run 7 true hD (pc' := 332) (lv' := [(0, .inr (.inr (some 0))), (5, .inl v5_121), (6, .inl v6_121)]) (st' := [.inl ((3 * v5_121) + v6_121), .inr (.inr (some 38))]) (h' := gr_h I119 J120) (C := (((((((True ∧ True) ∧ True) ∧ True) ∧ True) ∧ True) ∧ True) ∧ True)) rfl ⟨⟨⟨⟨⟨⟨⟨trivial, trivial⟩, trivial⟩, trivial⟩, trivial⟩, trivial⟩, trivial⟩, trivial⟩ ?_
                            have f164 := (show (-1) ≤ I119 67 (Int.toNat v6_121) ∧ I119 67 (Int.toNat v6_121) ≤ 32015 from (hI119 67 (Int.toNat v6_121)).1)
                            refine gv_run 4 true hD (pc' := 339) (lv' := [(0, .inr (.inr (some 0))), (5, .inl v5_121), (6, .inl v6_121)]) (st' := [.inl (I119 67 (Int.toNat v6_121)), .inl ((3 * v5_121) + v6_121), .inr (.inr (some 38))]) (h' := gr_h I119 J120) (C := ((((True ∧ True) ∧ True) ∧ True) ∧ (0 ≤ v6_121 ∧ v6_121 < ((3 : Nat) : Int)))) rfl ⟨⟨⟨⟨trivial, trivial⟩, trivial⟩, trivial⟩, ⟨by omega, by omega⟩⟩ ?_
                            refine gv_run 1 true hD (pc' := 340) (lv' := [(0, .inr (.inr (some 0))), (5, .inl v5_121), (6, .inl v6_121)]) (st' := []) (h' := gz_up (gr_h I119 J120) 38 (Int.toNat (((3 * v5_121) + v6_121))) (.inl ((I119 67 (Int.toNat v6_121))))) (C := (True ∧ (0 ≤ (((3 * v5_121) + v6_121)) ∧ (((3 * v5_121) + v6_121)) < ((1536 : Nat) : Int)))) rfl ⟨trivial, ⟨by omega, by omega⟩⟩ ?_
                            refine gr_st hI119 FI119 rfl rfl ⟨⟨by show (-1) ≤ _; omega, by show _ ≤ 32015; omega⟩, trivial⟩ (fun I165 hI165 FI165 q166 p166 => ?_)
                            have t167 := p166 0 71 (fun q => absurd q.1 (by decide))
                            have t168 := p166 0 72 (fun q => absurd q.1 (by decide))
                            have t169 := p166 0 73 (fun q => absurd q.1 (by decide))
                            have t170 := p166 0 69 (fun q => absurd q.1 (by decide))
                            have t171 := p166 0 6 (fun q => absurd q.1 (by decide))
                            have t172 := p166 0 59 (fun q => absurd q.1 (by decide))
                            have t173 := p166 0 3 (fun q => absurd q.1 (by decide))
                            have f174 := (show 0 ≤ I165 0 71 ∧ I165 0 71 ≤ 5 from (hI165 0 71).1)
                            have f175 := (show 0 ≤ I165 0 72 ∧ I165 0 72 ≤ 1000 from (hI165 0 72).1)
                            have f176 := (show 0 ≤ I165 0 73 ∧ I165 0 73 ≤ 1001 from (hI165 0 73).1)
                            have f177 := (show 0 ≤ I165 0 69 ∧ I165 0 69 ≤ 1000 from (hI165 0 69).1)
                            have f178 := (show (-1) ≤ I165 0 6 ∧ I165 0 6 ≤ 7 from (hI165 0 6).1)
                            have f179 := (show 0 ≤ I165 0 59 ∧ I165 0 59 ≤ 2000 from (hI165 0 59).1)
                            have f180 := (show 0 ≤ I165 0 3 ∧ I165 0 3 ≤ 96 from (hI165 0 3).1)
                            have KGR_I165 := gr_GR_fr KGR_I119 (fun k => p166 19 k (fun q => absurd q.1 (by decide))) (fun k => p166 18 k (fun q => absurd q.1 (by decide))) (fun k => p166 36 k (fun q => absurd q.1 (by decide))) (fun k => p166 41 k (fun q => absurd q.1 (by decide))) (fun k => p166 42 k (fun q => absurd q.1 (by decide))) (fun k => p166 43 k (fun q => absurd q.1 (by decide))) (fun k => p166 45 k (fun q => absurd q.1 (by decide))) (fun k => p166 46 k (fun q => absurd q.1 (by decide))) (fun k => p166 47 k (fun q => absurd q.1 (by decide))) (fun k => p166 6 k (fun q => absurd q.1 (by decide))) (fun k => p166 7 k (fun q => absurd q.1 (by decide))) (fun k => p166 8 k (fun q => absurd q.1 (by decide))) (p166 0 3 (fun q => absurd q.1 (by decide)))
                            have KST_I165 := gr_ST_fr KST_I119 (fun k => p166 6 k (fun q => absurd q.1 (by decide))) (fun k => p166 19 k (fun q => absurd q.1 (by decide))) (fun k => p166 18 k (fun q => absurd q.1 (by decide))) (fun k => p166 41 k (fun q => absurd q.1 (by decide))) (fun k => p166 36 k (fun q => absurd q.1 (by decide))) (p166 0 3 (fun q => absurd q.1 (by decide)))
                            refine gv_run 2 true hD (pc' := 315) (lv' := [(6, .inl (v6_121 + 1)), (0, .inr (.inr (some 0))), (5, .inl v5_121)]) (st' := []) (h' := gr_h I165 J120) (C := ((True ∧ True) ∧ True)) rfl ⟨⟨trivial, trivial⟩, trivial⟩ ?_
                            refine gv_pick [1, 2, 0] rfl ?_
                            exact ih315 I165 J120 v5_121 (v6_121 + 1) (by omega) hI165 FI165 FJ120 KGR_I165 KST_I165 (by omega)
                      obtain ⟨r181, h181, E181, P181⟩ := r_done (ws0 := ws0) (tb := tb) hws htb ext I101 J102 hI101 s1_111 ⟨by omega, by omega⟩ (by omega) (by omega) (by omega) (by omega) (by omega)
                      obtain ⟨I182, J183, rfl, hI182, g181, k181, ⟨z181, rfl, q181⟩⟩ := P181
                      have FI182 := gr_frt FI101 g181 rfl rfl
                      have FJ183 := gr_fjt FJ102 k181 rfl rfl
                      have t184 := g181 0 69 rfl
                      have t185 := g181 0 6 rfl
                      have t186 := g181 0 59 rfl
                      have t187 := g181 0 3 rfl
                      have t188 := g181 18 (Int.toNat v1_10) rfl
                      have t189 := g181 6 (Int.toNat v2_45) rfl
                      have f190 := (show 0 ≤ I182 0 71 ∧ I182 0 71 ≤ 5 from (hI182 0 71).1)
                      have f191 := (show 0 ≤ I182 0 72 ∧ I182 0 72 ≤ 1000 from (hI182 0 72).1)
                      have f192 := (show 0 ≤ I182 0 73 ∧ I182 0 73 ≤ 1001 from (hI182 0 73).1)
                      have f193 := (show 0 ≤ I182 0 69 ∧ I182 0 69 ≤ 1000 from (hI182 0 69).1)
                      have f194 := (show (-1) ≤ I182 0 6 ∧ I182 0 6 ≤ 7 from (hI182 0 6).1)
                      have f195 := (show 0 ≤ I182 0 59 ∧ I182 0 59 ≤ 2000 from (hI182 0 59).1)
                      have f196 := (show 0 ≤ I182 0 3 ∧ I182 0 3 ≤ 96 from (hI182 0 3).1)
                      have KGR_I182 := gr_GR_fr KGR_I101 (fun k => g181 19 k rfl) (fun k => g181 18 k rfl) (fun k => g181 36 k rfl) (fun k => g181 41 k rfl) (fun k => g181 42 k rfl) (fun k => g181 43 k rfl) (fun k => g181 45 k rfl) (fun k => g181 46 k rfl) (fun k => g181 47 k rfl) (fun k => g181 6 k rfl) (fun k => g181 7 k rfl) (fun k => g181 8 k rfl) (g181 0 3 rfl)
                      have KST_I182 := gr_ST_fr KST_I101 (fun k => g181 6 k rfl) (fun k => g181 19 k rfl) (fun k => g181 18 k rfl) (fun k => g181 41 k rfl) (fun k => g181 36 k rfl) (g181 0 3 rfl)
                      refine gv_callV hD rfl (As := [.inl s1_111]) (st := []) rfl (by decide) rfl rfl (gr_lV hws rfl) (Nat.le_of_ble_eq_true rfl) (gz_Ev_mono (d := 11) (by decide) E181) ?_
                      show gv_X _ _ (273, [(0, .inr (.inr (some 0))), (1, .inl v1_10), (2, .inl v2_45), (3, .inl v3_55)], [.inl z181], gr_sh ++ ext, gr_h I182 J183)
                      refine gv_if_ne (t := 278) hD rfl rfl ⟨by omega, by omega⟩ (fun c197 => ?_) (fun c197 => ?_)
                      · refine gv_run 7 true hD (pc' := 288) (lv' := [(0, .inr (.inr (some 0))), (1, .inl v1_10), (2, .inl v2_45), (3, .inl v3_55)]) (st' := [.inl v1_10, .inr (.inr (some 18)), .inl v1_10, .inr (.inr (some 18)), .inl (64 * v1_10)]) (h' := gr_h I182 J183) (C := (((((((True ∧ True) ∧ True) ∧ True) ∧ True) ∧ True) ∧ True) ∧ True)) rfl ⟨⟨⟨⟨⟨⟨⟨trivial, trivial⟩, trivial⟩, trivial⟩, trivial⟩, trivial⟩, trivial⟩, trivial⟩ ?_
                        have f198 := (show 0 ≤ I182 18 (Int.toNat v1_10) ∧ I182 18 (Int.toNat v1_10) ≤ 64 from (hI182 18 (Int.toNat v1_10)).1)
                        refine gv_run 1 true hD (pc' := 289) (lv' := [(0, .inr (.inr (some 0))), (1, .inl v1_10), (2, .inl v2_45), (3, .inl v3_55)]) (st' := [.inl (I182 18 (Int.toNat v1_10)), .inl v1_10, .inr (.inr (some 18)), .inl (64 * v1_10)]) (h' := gr_h I182 J183) (C := (True ∧ (0 ≤ v1_10 ∧ v1_10 < ((8 : Nat) : Int)))) rfl ⟨trivial, ⟨by omega, by omega⟩⟩ ?_
                        refine gv_run 3 true hD (pc' := 292) (lv' := [(0, .inr (.inr (some 0))), (1, .inl v1_10), (2, .inl v2_45), (3, .inl v3_55)]) (st' := [.inl ((I182 18 (Int.toNat v1_10)) + 1), .inl v1_10, .inr (.inr (some 18)), .inl (I182 18 (Int.toNat v1_10)), .inl (64 * v1_10)]) (h' := gr_h I182 J183) (C := (((True ∧ True) ∧ True) ∧ True)) rfl ⟨⟨⟨trivial, trivial⟩, trivial⟩, trivial⟩ ?_
                        refine gv_run 1 true hD (pc' := 293) (lv' := [(0, .inr (.inr (some 0))), (1, .inl v1_10), (2, .inl v2_45), (3, .inl v3_55)]) (st' := [.inl (I182 18 (Int.toNat v1_10)), .inl (64 * v1_10)]) (h' := gz_up (gr_h I182 J183) 18 (Int.toNat v1_10) (.inl (((I182 18 (Int.toNat v1_10)) + 1)))) (C := (True ∧ (0 ≤ v1_10 ∧ v1_10 < ((8 : Nat) : Int)))) rfl ⟨trivial, ⟨by omega, by omega⟩⟩ ?_
                        refine gr_st hI182 FI182 rfl rfl ⟨⟨by show 0 ≤ _; omega, by show _ ≤ 64; omega⟩, trivial⟩ (fun I199 hI199 FI199 q200 p200 => ?_)
                        have t201 := p200 0 71 (fun q => absurd q.1 (by decide))
                        have t202 := p200 0 72 (fun q => absurd q.1 (by decide))
                        have t203 := p200 0 73 (fun q => absurd q.1 (by decide))
                        have t204 := p200 0 69 (fun q => absurd q.1 (by decide))
                        have t205 := p200 0 6 (fun q => absurd q.1 (by decide))
                        have t206 := p200 0 59 (fun q => absurd q.1 (by decide))
                        have t207 := p200 0 3 (fun q => absurd q.1 (by decide))
                        have t208 := p200 6 (Int.toNat v2_45) (fun q => absurd q.1 (by decide))
                        have f209 := (show 0 ≤ I199 0 71 ∧ I199 0 71 ≤ 5 from (hI199 0 71).1)
                        have f210 := (show 0 ≤ I199 0 72 ∧ I199 0 72 ≤ 1000 from (hI199 0 72).1)
                        have f211 := (show 0 ≤ I199 0 73 ∧ I199 0 73 ≤ 1001 from (hI199 0 73).1)
                        have f212 := (show 0 ≤ I199 0 69 ∧ I199 0 69 ≤ 1000 from (hI199 0 69).1)
                        have f213 := (show (-1) ≤ I199 0 6 ∧ I199 0 6 ≤ 7 from (hI199 0 6).1)
                        have f214 := (show 0 ≤ I199 0 59 ∧ I199 0 59 ≤ 2000 from (hI199 0 59).1)
                        have f215 := (show 0 ≤ I199 0 3 ∧ I199 0 3 ≤ 96 from (hI199 0 3).1)
                        refine gv_run 6 true hD (pc' := 303) (lv' := [(5, .inl ((64 * v1_10) + (I182 18 (Int.toNat v1_10)))), (0, .inr (.inr (some 0))), (1, .inl v1_10), (2, .inl v2_45), (3, .inl v3_55)]) (st' := [.inl v2_45, .inl ((64 * v1_10) + (I182 18 (Int.toNat v1_10))), .inr (.inr (some 36))]) (h' := gr_h I199 J183) (C := ((((((True ∧ True) ∧ True) ∧ True) ∧ True) ∧ True) ∧ True)) rfl ⟨⟨⟨⟨⟨⟨trivial, trivial⟩, trivial⟩, trivial⟩, trivial⟩, trivial⟩, trivial⟩ ?_
                        refine gv_run 1 true hD (pc' := 304) (lv' := [(5, .inl ((64 * v1_10) + (I182 18 (Int.toNat v1_10)))), (0, .inr (.inr (some 0))), (1, .inl v1_10), (2, .inl v2_45), (3, .inl v3_55)]) (st' := []) (h' := gz_up (gr_h I199 J183) 36 (Int.toNat (((64 * v1_10) + (I182 18 (Int.toNat v1_10))))) (.inl v2_45)) (C := (True ∧ (0 ≤ (((64 * v1_10) + (I182 18 (Int.toNat v1_10)))) ∧ (((64 * v1_10) + (I182 18 (Int.toNat v1_10)))) < ((512 : Nat) : Int)))) rfl ⟨trivial, ⟨by omega, by omega⟩⟩ ?_
                        refine gr_st hI199 FI199 rfl rfl ⟨⟨by show 0 ≤ _; omega, by show _ ≤ 95; omega⟩, trivial⟩ (fun I216 hI216 FI216 q217 p217 => ?_)
                        have t218 := p217 0 71 (fun q => absurd q.1 (by decide))
                        have t219 := p217 0 72 (fun q => absurd q.1 (by decide))
                        have t220 := p217 0 73 (fun q => absurd q.1 (by decide))
                        have t221 := p217 0 69 (fun q => absurd q.1 (by decide))
                        have t222 := p217 0 6 (fun q => absurd q.1 (by decide))
                        have t223 := p217 0 59 (fun q => absurd q.1 (by decide))
                        have t224 := p217 0 3 (fun q => absurd q.1 (by decide))
                        have t225 := p217 18 (Int.toNat v1_10) (fun q => absurd q.1 (by decide))
                        have t226 := p217 6 (Int.toNat v2_45) (fun q => absurd q.1 (by decide))
                        have f227 := (show 0 ≤ I216 0 71 ∧ I216 0 71 ≤ 5 from (hI216 0 71).1)
                        have f228 := (show 0 ≤ I216 0 72 ∧ I216 0 72 ≤ 1000 from (hI216 0 72).1)
                        have f229 := (show 0 ≤ I216 0 73 ∧ I216 0 73 ≤ 1001 from (hI216 0 73).1)
                        have f230 := (show 0 ≤ I216 0 69 ∧ I216 0 69 ≤ 1000 from (hI216 0 69).1)
                        have f231 := (show (-1) ≤ I216 0 6 ∧ I216 0 6 ≤ 7 from (hI216 0 6).1)
                        have f232 := (show 0 ≤ I216 0 59 ∧ I216 0 59 ≤ 2000 from (hI216 0 59).1)
                        have f233 := (show 0 ≤ I216 0 3 ∧ I216 0 3 ≤ 96 from (hI216 0 3).1)
                        have KGR_I216 : gr_GR I216 := gr_GR_w (t := (Int.toNat v1_10)) (k := (Int.toNat (((64 * v1_10) + (I182 18 (Int.toNat v1_10)))))) KGR_I182 (by omega) p200 (by omega) (by omega) (by omega) (by omega) p217 q217 (by omega) (by omega)
                        have KST_I216 : gr_ST I9 I216 := gr_ST_w (t := (Int.toNat v1_10)) (k := (Int.toNat (((64 * v1_10) + (I182 18 (Int.toNat v1_10)))))) KST_I182 KGR_I182 (by omega) p200 (by omega) (by omega) (by omega) (by omega) p217
                        refine gv_run 4 true hD (pc' := 311) (lv' := [(5, .inl ((64 * v1_10) + (I182 18 (Int.toNat v1_10)))), (0, .inr (.inr (some 0))), (1, .inl v1_10), (2, .inl v2_45), (3, .inl v3_55)]) (st' := [.inl v3_55, .inl ((64 * v1_10) + (I182 18 (Int.toNat v1_10))), .inr (.inr (some 37))]) (h' := gr_h I216 J183) (C := ((((True ∧ True) ∧ True) ∧ True) ∧ True)) rfl ⟨⟨⟨⟨trivial, trivial⟩, trivial⟩, trivial⟩, trivial⟩ ?_
                        refine gv_run 1 true hD (pc' := 312) (lv' := [(5, .inl ((64 * v1_10) + (I182 18 (Int.toNat v1_10)))), (0, .inr (.inr (some 0))), (1, .inl v1_10), (2, .inl v2_45), (3, .inl v3_55)]) (st' := []) (h' := gz_up (gr_h I216 J183) 37 (Int.toNat (((64 * v1_10) + (I182 18 (Int.toNat v1_10))))) (.inl v3_55)) (C := (True ∧ (0 ≤ (((64 * v1_10) + (I182 18 (Int.toNat v1_10)))) ∧ (((64 * v1_10) + (I182 18 (Int.toNat v1_10)))) < ((512 : Nat) : Int)))) rfl ⟨trivial, ⟨by omega, by omega⟩⟩ ?_
                        refine gr_st hI216 FI216 rfl rfl ⟨⟨by show 0 ≤ _; omega, by show _ ≤ 23; omega⟩, trivial⟩ (fun I234 hI234 FI234 q235 p235 => ?_)
                        have t236 := p235 0 71 (fun q => absurd q.1 (by decide))
                        have t237 := p235 0 72 (fun q => absurd q.1 (by decide))
                        have t238 := p235 0 73 (fun q => absurd q.1 (by decide))
                        have t239 := p235 0 69 (fun q => absurd q.1 (by decide))
                        have t240 := p235 0 6 (fun q => absurd q.1 (by decide))
                        have t241 := p235 0 59 (fun q => absurd q.1 (by decide))
                        have t242 := p235 0 3 (fun q => absurd q.1 (by decide))
                        have t243 := p235 18 (Int.toNat v1_10) (fun q => absurd q.1 (by decide))
                        have t244 := p235 6 (Int.toNat v2_45) (fun q => absurd q.1 (by decide))
                        have f245 := (show 0 ≤ I234 0 71 ∧ I234 0 71 ≤ 5 from (hI234 0 71).1)
                        have f246 := (show 0 ≤ I234 0 72 ∧ I234 0 72 ≤ 1000 from (hI234 0 72).1)
                        have f247 := (show 0 ≤ I234 0 73 ∧ I234 0 73 ≤ 1001 from (hI234 0 73).1)
                        have f248 := (show 0 ≤ I234 0 69 ∧ I234 0 69 ≤ 1000 from (hI234 0 69).1)
                        have f249 := (show (-1) ≤ I234 0 6 ∧ I234 0 6 ≤ 7 from (hI234 0 6).1)
                        have f250 := (show 0 ≤ I234 0 59 ∧ I234 0 59 ≤ 2000 from (hI234 0 59).1)
                        have f251 := (show 0 ≤ I234 0 3 ∧ I234 0 3 ≤ 96 from (hI234 0 3).1)
                        have KGR_I234 := gr_GR_fr KGR_I216 (fun k => p235 19 k (fun q => absurd q.1 (by decide))) (fun k => p235 18 k (fun q => absurd q.1 (by decide))) (fun k => p235 36 k (fun q => absurd q.1 (by decide))) (fun k => p235 41 k (fun q => absurd q.1 (by decide))) (fun k => p235 42 k (fun q => absurd q.1 (by decide))) (fun k => p235 43 k (fun q => absurd q.1 (by decide))) (fun k => p235 45 k (fun q => absurd q.1 (by decide))) (fun k => p235 46 k (fun q => absurd q.1 (by decide))) (fun k => p235 47 k (fun q => absurd q.1 (by decide))) (fun k => p235 6 k (fun q => absurd q.1 (by decide))) (fun k => p235 7 k (fun q => absurd q.1 (by decide))) (fun k => p235 8 k (fun q => absurd q.1 (by decide))) (p235 0 3 (fun q => absurd q.1 (by decide)))
                        have KST_I234 := gr_ST_fr KST_I216 (fun k => p235 6 k (fun q => absurd q.1 (by decide))) (fun k => p235 19 k (fun q => absurd q.1 (by decide))) (fun k => p235 18 k (fun q => absurd q.1 (by decide))) (fun k => p235 41 k (fun q => absurd q.1 (by decide))) (fun k => p235 36 k (fun q => absurd q.1 (by decide))) (p235 0 3 (fun q => absurd q.1 (by decide)))
                        refine gv_run 2 true hD (pc' := 315) (lv' := [(6, .inl 0), (5, .inl ((64 * v1_10) + (I182 18 (Int.toNat v1_10)))), (0, .inr (.inr (some 0))), (1, .inl v1_10), (2, .inl v2_45), (3, .inl v3_55)]) (st' := []) (h' := gr_h I234 J183) (C := ((True ∧ True) ∧ True)) rfl ⟨⟨trivial, trivial⟩, trivial⟩ ?_
                        refine gv_pick [2, 1, 0] rfl ?_
                        exact L315 _ I234 J183 (((64 * v1_10) + (I182 18 (Int.toNat v1_10)))) 0 (Nat.lt_succ_self _) hI234 FI234 FJ183 KGR_I234 KST_I234 (by omega)
                      · refine gv_pick [] rfl ?_
                        exact L276 I182 J183 hI182 FI182 FJ183 KGR_I182 KST_I182 (by omega)
                    have f252 := (show 0 ≤ I101 18 (Int.toNat v1_10) ∧ I101 18 (Int.toNat v1_10) ≤ 64 from (hI101 18 (Int.toNat v1_10)).1)
                    refine gv_run 5 true hD (pc' := 260) (lv' := [(0, .inr (.inr (some 0))), (1, .inl v1_10), (2, .inl v2_45), (3, .inl v3_55)]) (st' := [.inl (I101 18 (Int.toNat v1_10)), .inr (.inr (some 0))]) (h' := gr_h I101 J102) (C := (((((True ∧ True) ∧ True) ∧ True) ∧ True) ∧ (0 ≤ v1_10 ∧ v1_10 < ((8 : Nat) : Int)))) rfl ⟨⟨⟨⟨⟨trivial, trivial⟩, trivial⟩, trivial⟩, trivial⟩, ⟨by omega, by omega⟩⟩ ?_
                    refine gv_run 1 true hD (pc' := 262) (lv' := [(0, .inr (.inr (some 0))), (1, .inl v1_10), (2, .inl v2_45), (3, .inl v3_55)]) (st' := [.inl 64, .inl (I101 18 (Int.toNat v1_10)), .inr (.inr (some 0))]) (h' := gr_h I101 J102) (C := (True ∧ True)) rfl ⟨trivial, trivial⟩ ?_
                    refine gv_icmp_ge (t := 269) hD rfl rfl ⟨⟨by omega, by omega⟩, ⟨by omega, by omega⟩⟩ (fun c253 => ?_) (fun c253 => ?_)
                    · refine gv_run 1 true hD (pc' := 270) (lv' := [(0, .inr (.inr (some 0))), (1, .inl v1_10), (2, .inl v2_45), (3, .inl v3_55)]) (st' := [.inl 0, .inr (.inr (some 0))]) (h' := gr_h I101 J102) (C := (True ∧ True)) rfl ⟨trivial, trivial⟩ ?_
                      exact L270 0 (by omega)
                    · refine gv_run 2 true hD (pc' := 270) (lv' := [(0, .inr (.inr (some 0))), (1, .inl v1_10), (2, .inl v2_45), (3, .inl v3_55)]) (st' := [.inl 1, .inr (.inr (some 0))]) (h' := gr_h I101 J102) (C := ((True ∧ True) ∧ True)) rfl ⟨⟨trivial, trivial⟩, trivial⟩ ?_
                      exact L270 1 (by omega)
                  refine gv_run 1 true hD (pc' := 247) (lv' := [(0, .inr (.inr (some 0))), (1, .inl v1_10), (2, .inl v2_45), (3, .inl v3_55)]) (st' := [.inr (.inr (some 0))]) (h' := gr_h I81 J82) (C := (True ∧ True)) rfl ⟨trivial, trivial⟩ ?_
                  obtain ⟨r254, h254, E254, P254⟩ := r_cost (ws0 := ws0) (tb := tb) hws htb ext I81 J82 hI81   (by omega) (by omega) (by omega) (by omega) (by omega)
                  obtain ⟨I255, J256, rfl, hI255, g254, k254, ⟨z254, rfl, q254⟩⟩ := P254
                  have FI255 := gr_frt FI81 g254 rfl rfl
                  have FJ256 := gr_fjt FJ82 k254 rfl rfl
                  have t257 := g254 0 69 rfl
                  have t258 := g254 0 6 rfl
                  have t259 := g254 0 59 rfl
                  have t260 := g254 0 3 rfl
                  have t261 := g254 18 (Int.toNat v1_10) rfl
                  have t262 := g254 6 (Int.toNat v2_45) rfl
                  have f263 := (show 0 ≤ I255 0 71 ∧ I255 0 71 ≤ 5 from (hI255 0 71).1)
                  have f264 := (show 0 ≤ I255 0 72 ∧ I255 0 72 ≤ 1000 from (hI255 0 72).1)
                  have f265 := (show 0 ≤ I255 0 73 ∧ I255 0 73 ≤ 1001 from (hI255 0 73).1)
                  have f266 := (show 0 ≤ I255 0 69 ∧ I255 0 69 ≤ 1000 from (hI255 0 69).1)
                  have f267 := (show (-1) ≤ I255 0 6 ∧ I255 0 6 ≤ 7 from (hI255 0 6).1)
                  have f268 := (show 0 ≤ I255 0 59 ∧ I255 0 59 ≤ 2000 from (hI255 0 59).1)
                  have f269 := (show 0 ≤ I255 0 3 ∧ I255 0 3 ≤ 96 from (hI255 0 3).1)
                  have KGR_I255 := gr_GR_fr KGR_I81 (fun k => g254 19 k rfl) (fun k => g254 18 k rfl) (fun k => g254 36 k rfl) (fun k => g254 41 k rfl) (fun k => g254 42 k rfl) (fun k => g254 43 k rfl) (fun k => g254 45 k rfl) (fun k => g254 46 k rfl) (fun k => g254 47 k rfl) (fun k => g254 6 k rfl) (fun k => g254 7 k rfl) (fun k => g254 8 k rfl) (g254 0 3 rfl)
                  have KST_I255 := gr_ST_fr KST_I81 (fun k => g254 6 k rfl) (fun k => g254 19 k rfl) (fun k => g254 18 k rfl) (fun k => g254 41 k rfl) (fun k => g254 36 k rfl) (g254 0 3 rfl)
                  refine gv_callV hD rfl (As := []) (st := []) rfl (by decide) rfl rfl (gr_lV hws rfl) (Nat.le_of_ble_eq_true rfl) (gz_Ev_mono (d := 11) (by decide) E254) ?_
                  show gv_X _ _ (250, [(0, .inr (.inr (some 0))), (1, .inl v1_10), (2, .inl v2_45), (3, .inl v3_55)], [.inl z254], gr_sh ++ ext, gr_h I255 J256)
                  refine gv_if_eq (t := 276) hD rfl rfl ⟨by omega, by omega⟩ (fun c270 => ?_) (fun c270 => ?_)
                  · refine gv_pick [] rfl ?_
                    exact L276 I255 J256 hI255 FI255 FJ256 KGR_I255 KST_I255 (by omega)
                  · exact L253 I255 J256 hI255 FI255 FJ256 KGR_I255 KST_I255 (by omega)
                have L203 : ∀ (I271 : gr_I) (J272 : gr_J) , gr_Inv I271 → gr_fr [59, 71, 72, 73, 74, 75, 76, 77, 101, 106] [18, 36, 37, 38, 39, 40, 51, 57, 67] I I271 → gr_fj [59, 71, 72, 73, 74, 75, 76, 77, 101, 106] [18, 36, 37, 38, 39, 40, 51, 57, 67] J J272 → gr_GR I271 → gr_ST I9 I271 → ((0 ≤ v1_10 ∧ v1_10 ≤ 7) ∧ (0 ≤ v2_45 ∧ v2_45 ≤ 95) ∧ (0 ≤ v3_55 ∧ v3_55 ≤ 23) ∧ (I271 0 71 = 1) ∧ (I271 6 (Int.toNat v2_45) = 0) ∧ (v2_45 < I271 0 3) ∧ (I271 0 71 = 5 ∨ I271 0 73 ≤ I271 0 69) ∧ (I271 0 72 ≤ I271 0 69) ∧ (I271 0 71 = 0 ∨ (I271 0 72 < I271 0 73 ∧ I271 0 72 < I271 0 69)) ∧ (I271 0 71 = 3 → 2 ≤ I271 0 73 - I271 0 72 ∧ I271 0 73 - I271 0 72 ≤ 14) ∧ (I271 0 72 ≤ I271 0 73) ∧ (I271 0 69 = I 0 69) ∧ (I 0 73 ≤ I271 0 73) ∧ (I 0 72 ≤ I271 0 72) ∧ (I271 0 6 = I 0 6) ∧ (I271 0 59 - I271 0 72 ≤ I 0 59 - I 0 72)) → gv_X (gr_E ws0 tb 11 (yX13_wordOf, cX13_wordOf, 7, (some .boolean)) kX13_wordOf) (gv_Q cX13_wordOf (some .boolean) (gr_sh ++ ext) (fun r h' => (∃ (I' : gr_I) (J' : gr_J), h' = gr_h I' J' ∧ gr_Inv I' ∧ gr_fr [59, 71, 72, 73, 74, 75, 76, 77, 101, 106] [18, 36, 37, 38, 39, 40, 51, 57, 67] I I' ∧ gr_fj [59, 71, 72, 73, 74, 75, 76, 77, 101, 106] [18, 36, 37, 38, 39, 40, 51, 57, 67] J J' ∧ gr_GR I' ∧ gr_ST I9 I' ∧ (∃ z : Int, r = some (.inl z) ∧ 0 ≤ z ∧ z ≤ 1 ∧ (I' 0 71 = 5 ∨ I' 0 73 ≤ I' 0 69) ∧ (I' 0 72 ≤ I' 0 69) ∧ (I' 0 71 = 0 ∨ (I' 0 72 < I' 0 73 ∧ I' 0 72 < I' 0 69)) ∧ (I' 0 71 = 3 → 2 ≤ I' 0 73 - I' 0 72 ∧ I' 0 73 - I' 0 72 ≤ 14) ∧ (I' 0 72 ≤ I' 0 73) ∧ (I' 0 69 = I 0 69) ∧ (I 0 73 ≤ I' 0 73) ∧ (I 0 72 ≤ I' 0 72) ∧ (I' 0 59 - I' 0 72 ≤ I 0 59 - I 0 72))))) (203, [(0, .inr (.inr (some 0))), (1, .inl v1_10), (2, .inl v2_45), (3, .inl v3_55)], [], gr_sh ++ ext, gr_h I271 J272) := by
                  intro I271 J272 hI271 FI271 FJ272 KGR_I271 KST_I271 m_273
                  clear hv1_10_73 hv2_45_73 hv3_55_73 e0_73 e1_73 e2_73 e3_73 e4_73 e5_73 e6_73 e7_73 e8_73 e9_73 e10_73 e11_73 f74 f75 f76 f77 f78 f79 f80 hv1_10_65 hv2_45_65 hv3_55_65 hv4_65 e0_65 e1_65 e2_65 e3_65 e4_65 e5_65 e6_65 e7_65 e8_65 e9_65 e10_65 e11_65 f66 f67 f68 f69 f70 f71 f72
                  obtain ⟨hv1_10_273, hv2_45_273, hv3_55_273, e0_273, e1_273, e2_273, e3_273, e4_273, e5_273, e6_273, e7_273, e8_273, e9_273, e10_273, e11_273, e12_273⟩ := m_273
                  have f274 := (show 0 ≤ I271 0 71 ∧ I271 0 71 ≤ 5 from (hI271 0 71).1)
                  have f275 := (show 0 ≤ I271 0 72 ∧ I271 0 72 ≤ 1000 from (hI271 0 72).1)
                  have f276 := (show 0 ≤ I271 0 73 ∧ I271 0 73 ≤ 1001 from (hI271 0 73).1)
                  have f277 := (show 0 ≤ I271 0 69 ∧ I271 0 69 ≤ 1000 from (hI271 0 69).1)
                  have f278 := (show (-1) ≤ I271 0 6 ∧ I271 0 6 ≤ 7 from (hI271 0 6).1)
                  have f279 := (show 0 ≤ I271 0 59 ∧ I271 0 59 ≤ 2000 from (hI271 0 59).1)
                  have f280 := (show 0 ≤ I271 0 3 ∧ I271 0 3 ≤ 96 from (hI271 0 3).1)
                  have L206 : ∀ (n : Nat) (I281 : gr_I) (J282 : gr_J) (v5_283 : Int), (1001 - I281 0 72).toNat < n → gr_Inv I281 → gr_fr [59, 71, 72, 73, 74, 75, 76, 77, 101, 106] [18, 36, 37, 38, 39, 40, 51, 57, 67] I I281 → gr_fj [59, 71, 72, 73, 74, 75, 76, 77, 101, 106] [18, 36, 37, 38, 39, 40, 51, 57, 67] J J282 → gr_GR I281 → gr_ST I9 I281 → ((0 ≤ v1_10 ∧ v1_10 ≤ 7) ∧ (0 ≤ v2_45 ∧ v2_45 ≤ 95) ∧ (0 ≤ v3_55 ∧ v3_55 ≤ 23) ∧ (0 ≤ v5_283 ∧ v5_283 ≤ 1) ∧ (I281 6 (Int.toNat v2_45) = 0) ∧ (v2_45 < I281 0 3) ∧ (I281 0 71 = 5 ∨ I281 0 73 ≤ I281 0 69) ∧ (I281 0 72 ≤ I281 0 69) ∧ (I281 0 71 = 0 ∨ (I281 0 72 < I281 0 73 ∧ I281 0 72 < I281 0 69)) ∧ (I281 0 71 = 3 → 2 ≤ I281 0 73 - I281 0 72 ∧ I281 0 73 - I281 0 72 ≤ 14) ∧ (I281 0 72 ≤ I281 0 73) ∧ (I281 0 69 = I 0 69) ∧ (I 0 73 ≤ I281 0 73) ∧ (I 0 72 ≤ I281 0 72) ∧ (I281 0 6 = I 0 6) ∧ (I281 0 59 - I281 0 72 ≤ I 0 59 - I 0 72)) → gv_X (gr_E ws0 tb 11 (yX13_wordOf, cX13_wordOf, 7, (some .boolean)) kX13_wordOf) (gv_Q cX13_wordOf (some .boolean) (gr_sh ++ ext) (fun r h' => (∃ (I' : gr_I) (J' : gr_J), h' = gr_h I' J' ∧ gr_Inv I' ∧ gr_fr [59, 71, 72, 73, 74, 75, 76, 77, 101, 106] [18, 36, 37, 38, 39, 40, 51, 57, 67] I I' ∧ gr_fj [59, 71, 72, 73, 74, 75, 76, 77, 101, 106] [18, 36, 37, 38, 39, 40, 51, 57, 67] J J' ∧ gr_GR I' ∧ gr_ST I9 I' ∧ (∃ z : Int, r = some (.inl z) ∧ 0 ≤ z ∧ z ≤ 1 ∧ (I' 0 71 = 5 ∨ I' 0 73 ≤ I' 0 69) ∧ (I' 0 72 ≤ I' 0 69) ∧ (I' 0 71 = 0 ∨ (I' 0 72 < I' 0 73 ∧ I' 0 72 < I' 0 69)) ∧ (I' 0 71 = 3 → 2 ≤ I' 0 73 - I' 0 72 ∧ I' 0 73 - I' 0 72 ≤ 14) ∧ (I' 0 72 ≤ I' 0 73) ∧ (I' 0 69 = I 0 69) ∧ (I 0 73 ≤ I' 0 73) ∧ (I 0 72 ≤ I' 0 72) ∧ (I' 0 59 - I' 0 72 ≤ I 0 59 - I 0 72))))) (206, [(0, .inr (.inr (some 0))), (1, .inl v1_10), (2, .inl v2_45), (3, .inl v3_55), (5, .inl v5_283)], [], gr_sh ++ ext, gr_h I281 J282) := by
                    intro n
                    induction n with
                    | zero => intro I281 J282 v5_283 hn; omega
                    | succ n ih206 =>
                      intro I281 J282 v5_283 hn hI281 FI281 FJ282 KGR_I281 KST_I281 m_283
                      clear hv1_10_273 hv2_45_273 hv3_55_273 e0_273 e1_273 e2_273 e3_273 e4_273 e5_273 e6_273 e7_273 e8_273 e9_273 e10_273 e11_273 e12_273 f274 f275 f276 f277 f278 f279 f280
                      obtain ⟨hv1_10_283, hv2_45_283, hv3_55_283, hv5_283, e0_283, e1_283, e2_283, e3_283, e4_283, e5_283, e6_283, e7_283, e8_283, e9_283, e10_283, e11_283⟩ := m_283
                      have f284 := (show 0 ≤ I281 0 71 ∧ I281 0 71 ≤ 5 from (hI281 0 71).1)
                      have f285 := (show 0 ≤ I281 0 72 ∧ I281 0 72 ≤ 1000 from (hI281 0 72).1)
                      have f286 := (show 0 ≤ I281 0 73 ∧ I281 0 73 ≤ 1001 from (hI281 0 73).1)
                      have f287 := (show 0 ≤ I281 0 69 ∧ I281 0 69 ≤ 1000 from (hI281 0 69).1)
                      have f288 := (show (-1) ≤ I281 0 6 ∧ I281 0 6 ≤ 7 from (hI281 0 6).1)
                      have f289 := (show 0 ≤ I281 0 59 ∧ I281 0 59 ≤ 2000 from (hI281 0 59).1)
                      have f290 := (show 0 ≤ I281 0 3 ∧ I281 0 3 ≤ 96 from (hI281 0 3).1)
                      have L231 : ((0 ≤ v1_10 ∧ v1_10 ≤ 7) ∧ (0 ≤ v2_45 ∧ v2_45 ≤ 95) ∧ (0 ≤ v3_55 ∧ v3_55 ≤ 23) ∧ (I281 0 71 = 1) ∧ (I281 6 (Int.toNat v2_45) = 0) ∧ (v2_45 < I281 0 3) ∧ (I281 0 71 = 5 ∨ I281 0 73 ≤ I281 0 69) ∧ (I281 0 72 ≤ I281 0 69) ∧ (I281 0 71 = 0 ∨ (I281 0 72 < I281 0 73 ∧ I281 0 72 < I281 0 69)) ∧ (I281 0 71 = 3 → 2 ≤ I281 0 73 - I281 0 72 ∧ I281 0 73 - I281 0 72 ≤ 14) ∧ (I281 0 72 ≤ I281 0 73) ∧ (I281 0 69 = I 0 69) ∧ (I 0 73 ≤ I281 0 73) ∧ (I 0 72 ≤ I281 0 72) ∧ (I281 0 6 = I 0 6) ∧ (I281 0 59 - I281 0 72 ≤ I 0 59 - I 0 72)) → gv_X (gr_E ws0 tb 11 (yX13_wordOf, cX13_wordOf, 7, (some .boolean)) kX13_wordOf) (gv_Q cX13_wordOf (some .boolean) (gr_sh ++ ext) (fun r h' => (∃ (I' : gr_I) (J' : gr_J), h' = gr_h I' J' ∧ gr_Inv I' ∧ gr_fr [59, 71, 72, 73, 74, 75, 76, 77, 101, 106] [18, 36, 37, 38, 39, 40, 51, 57, 67] I I' ∧ gr_fj [59, 71, 72, 73, 74, 75, 76, 77, 101, 106] [18, 36, 37, 38, 39, 40, 51, 57, 67] J J' ∧ gr_GR I' ∧ gr_ST I9 I' ∧ (∃ z : Int, r = some (.inl z) ∧ 0 ≤ z ∧ z ≤ 1 ∧ (I' 0 71 = 5 ∨ I' 0 73 ≤ I' 0 69) ∧ (I' 0 72 ≤ I' 0 69) ∧ (I' 0 71 = 0 ∨ (I' 0 72 < I' 0 73 ∧ I' 0 72 < I' 0 69)) ∧ (I' 0 71 = 3 → 2 ≤ I' 0 73 - I' 0 72 ∧ I' 0 73 - I' 0 72 ≤ 14) ∧ (I' 0 72 ≤ I' 0 73) ∧ (I' 0 69 = I 0 69) ∧ (I 0 73 ≤ I' 0 73) ∧ (I 0 72 ≤ I' 0 72) ∧ (I' 0 59 - I' 0 72 ≤ I 0 59 - I 0 72))))) (231, [(0, .inr (.inr (some 0))), (1, .inl v1_10), (2, .inl v2_45), (3, .inl v3_55)], [], gr_sh ++ ext, gr_h I281 J282) := by
                        intro m_291
                        obtain ⟨hv1_10_291, hv2_45_291, hv3_55_291, e0_291, e1_291, e2_291, e3_291, e4_291, e5_291, e6_291, e7_291, e8_291, e9_291, e10_291, e11_291, e12_291⟩ := m_291
                        have f292 := (show 0 ≤ I281 0 71 ∧ I281 0 71 ≤ 5 from (hI281 0 71).1)
                        have f293 := (show 0 ≤ I281 0 72 ∧ I281 0 72 ≤ 1000 from (hI281 0 72).1)
                        have f294 := (show 0 ≤ I281 0 73 ∧ I281 0 73 ≤ 1001 from (hI281 0 73).1)
                        have f295 := (show 0 ≤ I281 0 69 ∧ I281 0 69 ≤ 1000 from (hI281 0 69).1)
                        have f296 := (show (-1) ≤ I281 0 6 ∧ I281 0 6 ≤ 7 from (hI281 0 6).1)
                        have f297 := (show 0 ≤ I281 0 59 ∧ I281 0 59 ≤ 2000 from (hI281 0 59).1)
                        have f298 := (show 0 ≤ I281 0 3 ∧ I281 0 3 ≤ 96 from (hI281 0 3).1)
                        have L240 : ∀ (I299 : gr_I) (J300 : gr_J) , gr_Inv I299 → gr_fr [59, 71, 72, 73, 74, 75, 76, 77, 101, 106] [18, 36, 37, 38, 39, 40, 51, 57, 67] I I299 → gr_fj [59, 71, 72, 73, 74, 75, 76, 77, 101, 106] [18, 36, 37, 38, 39, 40, 51, 57, 67] J J300 → gr_GR I299 → gr_ST I9 I299 → ((0 ≤ v1_10 ∧ v1_10 ≤ 7) ∧ (0 ≤ v2_45 ∧ v2_45 ≤ 95) ∧ (0 ≤ v3_55 ∧ v3_55 ≤ 23) ∧ (I281 0 72 < I299 0 72) ∧ (I299 6 (Int.toNat v2_45) = 0) ∧ (v2_45 < I299 0 3) ∧ (I299 0 71 = 5 ∨ I299 0 73 ≤ I299 0 69) ∧ (I299 0 72 ≤ I299 0 69) ∧ (I299 0 71 = 0 ∨ (I299 0 72 < I299 0 73 ∧ I299 0 72 < I299 0 69)) ∧ (I299 0 71 = 3 → 2 ≤ I299 0 73 - I299 0 72 ∧ I299 0 73 - I299 0 72 ≤ 14) ∧ (I299 0 72 ≤ I299 0 73) ∧ (I299 0 69 = I 0 69) ∧ (I 0 73 ≤ I299 0 73) ∧ (I 0 72 ≤ I299 0 72) ∧ (I299 0 6 = I 0 6) ∧ (I299 0 59 - I299 0 72 ≤ I 0 59 - I 0 72)) → gv_X (gr_E ws0 tb 11 (yX13_wordOf, cX13_wordOf, 7, (some .boolean)) kX13_wordOf) (gv_Q cX13_wordOf (some .boolean) (gr_sh ++ ext) (fun r h' => (∃ (I' : gr_I) (J' : gr_J), h' = gr_h I' J' ∧ gr_Inv I' ∧ gr_fr [59, 71, 72, 73, 74, 75, 76, 77, 101, 106] [18, 36, 37, 38, 39, 40, 51, 57, 67] I I' ∧ gr_fj [59, 71, 72, 73, 74, 75, 76, 77, 101, 106] [18, 36, 37, 38, 39, 40, 51, 57, 67] J J' ∧ gr_GR I' ∧ gr_ST I9 I' ∧ (∃ z : Int, r = some (.inl z) ∧ 0 ≤ z ∧ z ≤ 1 ∧ (I' 0 71 = 5 ∨ I' 0 73 ≤ I' 0 69) ∧ (I' 0 72 ≤ I' 0 69) ∧ (I' 0 71 = 0 ∨ (I' 0 72 < I' 0 73 ∧ I' 0 72 < I' 0 69)) ∧ (I' 0 71 = 3 → 2 ≤ I' 0 73 - I' 0 72 ∧ I' 0 73 - I' 0 72 ≤ 14) ∧ (I' 0 72 ≤ I' 0 73) ∧ (I' 0 69 = I 0 69) ∧ (I 0 73 ≤ I' 0 73) ∧ (I 0 72 ≤ I' 0 72) ∧ (I' 0 59 - I' 0 72 ≤ I 0 59 - I 0 72))))) (240, [(0, .inr (.inr (some 0))), (1, .inl v1_10), (2, .inl v2_45), (3, .inl v3_55)], [], gr_sh ++ ext, gr_h I299 J300) := by
                          intro I299 J300 hI299 FI299 FJ300 KGR_I299 KST_I299 m_301
                          clear hv1_10_291 hv2_45_291 hv3_55_291 e0_291 e1_291 e2_291 e3_291 e4_291 e5_291 e6_291 e7_291 e8_291 e9_291 e10_291 e11_291 e12_291 f292 f293 f294 f295 f296 f297 f298 hv1_10_283 hv2_45_283 hv3_55_283 hv5_283 e0_283 e1_283 e2_283 e3_283 e4_283 e5_283 e6_283 e7_283 e8_283 e9_283 e10_283 e11_283 f284 f285 f286 f287 f288 f289 f290
                          obtain ⟨hv1_10_301, hv2_45_301, hv3_55_301, e0_301, e1_301, e2_301, e3_301, e4_301, e5_301, e6_301, e7_301, e8_301, e9_301, e10_301, e11_301, e12_301⟩ := m_301
                          have f302 := (show 0 ≤ I299 0 71 ∧ I299 0 71 ≤ 5 from (hI299 0 71).1)
                          have f303 := (show 0 ≤ I299 0 72 ∧ I299 0 72 ≤ 1000 from (hI299 0 72).1)
                          have f304 := (show 0 ≤ I299 0 73 ∧ I299 0 73 ≤ 1001 from (hI299 0 73).1)
                          have f305 := (show 0 ≤ I299 0 69 ∧ I299 0 69 ≤ 1000 from (hI299 0 69).1)
                          have f306 := (show (-1) ≤ I299 0 6 ∧ I299 0 6 ≤ 7 from (hI299 0 6).1)
                          have f307 := (show 0 ≤ I299 0 59 ∧ I299 0 59 ≤ 2000 from (hI299 0 59).1)
                          have f308 := (show 0 ≤ I299 0 3 ∧ I299 0 3 ≤ 96 from (hI299 0 3).1)
                          refine gv_run 3 true hD (pc' := 206) (lv' := [(5, .inl 0), (0, .inr (.inr (some 0))), (1, .inl v1_10), (2, .inl v2_45), (3, .inl v3_55)]) (st' := []) (h' := gr_h I299 J300) (C := (((True ∧ True) ∧ True) ∧ True)) rfl ⟨⟨⟨trivial, trivial⟩, trivial⟩, trivial⟩ ?_
                          refine gv_pick [1, 2, 3, 4, 0] rfl ?_
                          exact ih206 I299 J300 0 (by omega) hI299 FI299 FJ300 KGR_I299 KST_I299 (by omega)
                        refine gv_run 1 true hD (pc' := 232) (lv' := [(0, .inr (.inr (some 0))), (1, .inl v1_10), (2, .inl v2_45), (3, .inl v3_55)]) (st' := [.inr (.inr (some 0))]) (h' := gr_h I281 J282) (C := (True ∧ True)) rfl ⟨trivial, trivial⟩ ?_
                        obtain ⟨r309, h309, E309, P309⟩ := r_oneValue (ws0 := ws0) (tb := tb) hws htb ext I281 J282 hI281   (by omega) (by omega) (by omega) (by omega) (by omega) (by omega) (by omega)
                        obtain ⟨I310, J311, rfl, hI310, g309, k309, ⟨z309, rfl, q309⟩⟩ := P309
                        have FI310 := gr_frt FI281 g309 rfl rfl
                        have FJ311 := gr_fjt FJ282 k309 rfl rfl
                        have t312 := g309 0 69 rfl
                        have t313 := g309 0 6 rfl
                        have t314 := g309 0 59 rfl
                        have t315 := g309 0 3 rfl
                        have t316 := g309 18 (Int.toNat v1_10) rfl
                        have t317 := g309 6 (Int.toNat v2_45) rfl
                        have f318 := (show 0 ≤ I310 0 71 ∧ I310 0 71 ≤ 5 from (hI310 0 71).1)
                        have f319 := (show 0 ≤ I310 0 72 ∧ I310 0 72 ≤ 1000 from (hI310 0 72).1)
                        have f320 := (show 0 ≤ I310 0 73 ∧ I310 0 73 ≤ 1001 from (hI310 0 73).1)
                        have f321 := (show 0 ≤ I310 0 69 ∧ I310 0 69 ≤ 1000 from (hI310 0 69).1)
                        have f322 := (show (-1) ≤ I310 0 6 ∧ I310 0 6 ≤ 7 from (hI310 0 6).1)
                        have f323 := (show 0 ≤ I310 0 59 ∧ I310 0 59 ≤ 2000 from (hI310 0 59).1)
                        have f324 := (show 0 ≤ I310 0 3 ∧ I310 0 3 ≤ 96 from (hI310 0 3).1)
                        have KGR_I310 := gr_GR_fr KGR_I281 (fun k => g309 19 k rfl) (fun k => g309 18 k rfl) (fun k => g309 36 k rfl) (fun k => g309 41 k rfl) (fun k => g309 42 k rfl) (fun k => g309 43 k rfl) (fun k => g309 45 k rfl) (fun k => g309 46 k rfl) (fun k => g309 47 k rfl) (fun k => g309 6 k rfl) (fun k => g309 7 k rfl) (fun k => g309 8 k rfl) (g309 0 3 rfl)
                        have KST_I310 := gr_ST_fr KST_I281 (fun k => g309 6 k rfl) (fun k => g309 19 k rfl) (fun k => g309 18 k rfl) (fun k => g309 41 k rfl) (fun k => g309 36 k rfl) (g309 0 3 rfl)
                        refine gv_callV hD rfl (As := []) (st := []) rfl (by decide) rfl rfl (gr_lV hws rfl) (Nat.le_of_ble_eq_true rfl) (gz_Ev_mono (d := 11) (by decide) E309) ?_
                        show gv_X _ _ (235, [(0, .inr (.inr (some 0))), (1, .inl v1_10), (2, .inl v2_45), (3, .inl v3_55)], [.inl z309], gr_sh ++ ext, gr_h I310 J311)
                        refine gv_if_ne (t := 240) hD rfl rfl ⟨by omega, by omega⟩ (fun c325 => ?_) (fun c325 => ?_)
                        · exact L240 I310 J311 hI310 FI310 FJ311 KGR_I310 KST_I310 (by omega)
                        · refine gv_run 1 true hD (pc' := 239) (lv' := [(0, .inr (.inr (some 0))), (1, .inl v1_10), (2, .inl v2_45), (3, .inl v3_55)]) (st' := [.inl 0]) (h' := gr_h I310 J311) (C := (True ∧ True)) rfl ⟨trivial, trivial⟩ ?_
                          exact gv_zret hD rfl (by omega) ⟨I310, J311, rfl, hI310, FI310, FJ311, KGR_I310, KST_I310, ⟨_, rfl, by omega⟩⟩
                      have f326 := (show 0 ≤ I281 0 71 ∧ I281 0 71 ≤ 5 from (hI281 0 71).1)
                      refine gv_run 3 true hD (pc' := 211) (lv' := [(0, .inr (.inr (some 0))), (1, .inl v1_10), (2, .inl v2_45), (3, .inl v3_55), (5, .inl v5_283)]) (st' := [.inl 1, .inl (I281 0 71)]) (h' := gr_h I281 J282) (C := (((True ∧ True) ∧ True) ∧ True)) rfl ⟨⟨⟨trivial, trivial⟩, trivial⟩, trivial⟩ ?_
                      refine gv_icmp_ne (t := 246) hD rfl rfl ⟨⟨by omega, by omega⟩, ⟨by omega, by omega⟩⟩ (fun c327 => ?_) (fun c327 => ?_)
                      · refine gv_pick [0, 1, 2, 3] rfl ?_
                        exact L246 I281 J282 hI281 FI281 FJ282 KGR_I281 KST_I281 (by omega)
                      · refine gv_run 1 true hD (pc' := 216) (lv' := [(0, .inr (.inr (some 0))), (1, .inl v1_10), (2, .inl v2_45), (3, .inl v3_55), (5, .inl v5_283)]) (st' := [.inl v5_283]) (h' := gr_h I281 J282) (C := (True ∧ True)) rfl ⟨trivial, trivial⟩ ?_
                        refine gv_if_ne (t := 231) hD rfl rfl ⟨by omega, by omega⟩ (fun c328 => ?_) (fun c328 => ?_)
                        · refine gv_pick [0, 1, 2, 3] rfl ?_
                          exact L231 (by omega)
                        · have f329 := gw_cmp ((J282 0 75)) ((J282 0 92))
                          refine gv_run 5 true hD (pc' := 228) (lv' := [(0, .inr (.inr (some 0))), (1, .inl v1_10), (2, .inl v2_45), (3, .inl v3_55), (5, .inl v5_283)]) (st' := [.inl ((lg_cmp ((J282 0 75)) ((J282 0 92))).toInt)]) (h' := gr_h I281 J282) (C := (((((True ∧ True) ∧ True) ∧ True) ∧ True) ∧ True)) rfl ⟨⟨⟨⟨⟨trivial, trivial⟩, trivial⟩, trivial⟩, trivial⟩, trivial⟩ ?_
                          refine gv_if_eq (t := 246) hD rfl rfl ⟨by omega, by omega⟩ (fun c330 => ?_) (fun c330 => ?_)
                          · refine gv_pick [0, 1, 2, 3] rfl ?_
                            exact L246 I281 J282 hI281 FI281 FJ282 KGR_I281 KST_I281 (by omega)
                          · refine gv_pick [0, 1, 2, 3] rfl ?_
                            exact L231 (by omega)
                  refine gv_run 2 true hD (pc' := 206) (lv' := [(5, .inl 1), (0, .inr (.inr (some 0))), (1, .inl v1_10), (2, .inl v2_45), (3, .inl v3_55)]) (st' := []) (h' := gr_h I271 J272) (C := ((True ∧ True) ∧ True)) rfl ⟨⟨trivial, trivial⟩, trivial⟩ ?_
                  refine gv_pick [1, 2, 3, 4, 0] rfl ?_
                  exact L206 _ I271 J272 1 (Nat.lt_succ_self _) hI271 FI271 FJ272 KGR_I271 KST_I271 (by omega)
                refine gv_run 3 true hD (pc' := 179) (lv' := [(0, .inr (.inr (some 0))), (1, .inl v1_10), (2, .inl v2_45), (3, .inl v3_55)]) (st' := []) (h' := gz_up (gr_h I63 J64) 0 106 (.inl 0)) (C := (((True ∧ True) ∧ True) ∧ True)) rfl ⟨⟨⟨trivial, trivial⟩, trivial⟩, trivial⟩ ?_
                refine gr_st hI63 FI63 rfl rfl ⟨⟨by show 0 ≤ _; omega, by show _ ≤ 16777215; omega⟩, trivial⟩ (fun I331 hI331 FI331 q332 p332 => ?_)
                have t333 := p332 0 71 (by decide)
                have t334 := p332 0 72 (by decide)
                have t335 := p332 0 73 (by decide)
                have t336 := p332 0 69 (by decide)
                have t337 := p332 0 6 (by decide)
                have t338 := p332 0 59 (by decide)
                have t339 := p332 0 3 (by decide)
                have t340 := p332 18 (Int.toNat v1_10) (fun q => absurd q.1 (by decide))
                have t341 := p332 6 (Int.toNat v2_45) (fun q => absurd q.1 (by decide))
                have f342 := (show 0 ≤ I331 0 71 ∧ I331 0 71 ≤ 5 from (hI331 0 71).1)
                have f343 := (show 0 ≤ I331 0 72 ∧ I331 0 72 ≤ 1000 from (hI331 0 72).1)
                have f344 := (show 0 ≤ I331 0 73 ∧ I331 0 73 ≤ 1001 from (hI331 0 73).1)
                have f345 := (show 0 ≤ I331 0 69 ∧ I331 0 69 ≤ 1000 from (hI331 0 69).1)
                have f346 := (show (-1) ≤ I331 0 6 ∧ I331 0 6 ≤ 7 from (hI331 0 6).1)
                have f347 := (show 0 ≤ I331 0 59 ∧ I331 0 59 ≤ 2000 from (hI331 0 59).1)
                have f348 := (show 0 ≤ I331 0 3 ∧ I331 0 3 ≤ 96 from (hI331 0 3).1)
                have KGR_I331 := gr_GR_fr KGR_I63 (fun k => p332 19 k (fun q => absurd q.1 (by decide))) (fun k => p332 18 k (fun q => absurd q.1 (by decide))) (fun k => p332 36 k (fun q => absurd q.1 (by decide))) (fun k => p332 41 k (fun q => absurd q.1 (by decide))) (fun k => p332 42 k (fun q => absurd q.1 (by decide))) (fun k => p332 43 k (fun q => absurd q.1 (by decide))) (fun k => p332 45 k (fun q => absurd q.1 (by decide))) (fun k => p332 46 k (fun q => absurd q.1 (by decide))) (fun k => p332 47 k (fun q => absurd q.1 (by decide))) (fun k => p332 6 k (fun q => absurd q.1 (by decide))) (fun k => p332 7 k (fun q => absurd q.1 (by decide))) (fun k => p332 8 k (fun q => absurd q.1 (by decide))) (p332 0 3 (by decide))
                have KST_I331 := gr_ST_fr KST_I63 (fun k => p332 6 k (fun q => absurd q.1 (by decide))) (fun k => p332 19 k (fun q => absurd q.1 (by decide))) (fun k => p332 18 k (fun q => absurd q.1 (by decide))) (fun k => p332 41 k (fun q => absurd q.1 (by decide))) (fun k => p332 36 k (fun q => absurd q.1 (by decide))) (p332 0 3 (by decide))
                refine gv_run 3 true hD (pc' := 184) (lv' := [(0, .inr (.inr (some 0))), (1, .inl v1_10), (2, .inl v2_45), (3, .inl v3_55)]) (st' := [.inr (.inl (J64 0 93)), .inr (.inr (some 0))]) (h' := gr_h I331 J64) (C := (((True ∧ True) ∧ True) ∧ True)) rfl ⟨⟨⟨trivial, trivial⟩, trivial⟩, trivial⟩ ?_
                obtain ⟨r349, h349, E349, P349⟩ := r_is (ws0 := ws0) (tb := tb) hws htb ext I331 J64 hI331 (J64 0 93)  
                obtain ⟨rfl, ⟨z349, rfl, q349⟩⟩ := P349
                refine gv_callV hD rfl (As := [.inr (.inl (J64 0 93))]) (st := []) rfl (by decide) rfl rfl (gr_lV hws rfl) (Nat.le_of_ble_eq_true rfl) (gz_Ev_mono (d := 1) (by decide) E349) ?_
                show gv_X _ _ (187, [(0, .inr (.inr (some 0))), (1, .inl v1_10), (2, .inl v2_45), (3, .inl v3_55)], [.inl z349], gr_sh ++ ext, gr_h I331 J64)
                refine gv_if_eq (t := 246) hD rfl rfl ⟨by omega, by omega⟩ (fun c350 => ?_) (fun c350 => ?_)
                · exact L246 I331 J64 hI331 FI331 FJ64 KGR_I331 KST_I331 (by omega)
                · refine gv_run 1 true hD (pc' := 191) (lv' := [(0, .inr (.inr (some 0))), (1, .inl v1_10), (2, .inl v2_45), (3, .inl v3_55)]) (st' := [.inr (.inr (some 0))]) (h' := gr_h I331 J64) (C := (True ∧ True)) rfl ⟨trivial, trivial⟩ ?_
                  obtain ⟨r351, h351, E351, P351⟩ := r_next (ws0 := ws0) (tb := tb) hws htb ext I331 J64 hI331   (by omega)
                  obtain ⟨I352, J353, rfl, hI352, g351, k351, ⟨rfl, q351⟩⟩ := P351
                  have FI352 := gr_frt FI331 g351 rfl rfl
                  have FJ353 := gr_fjt FJ64 k351 rfl rfl
                  have t354 := g351 0 69 rfl
                  have t355 := g351 0 6 rfl
                  have t356 := g351 0 59 rfl
                  have t357 := g351 0 3 rfl
                  have t358 := g351 18 (Int.toNat v1_10) rfl
                  have t359 := g351 6 (Int.toNat v2_45) rfl
                  have f360 := (show 0 ≤ I352 0 71 ∧ I352 0 71 ≤ 5 from (hI352 0 71).1)
                  have f361 := (show 0 ≤ I352 0 72 ∧ I352 0 72 ≤ 1000 from (hI352 0 72).1)
                  have f362 := (show 0 ≤ I352 0 73 ∧ I352 0 73 ≤ 1001 from (hI352 0 73).1)
                  have f363 := (show 0 ≤ I352 0 69 ∧ I352 0 69 ≤ 1000 from (hI352 0 69).1)
                  have f364 := (show (-1) ≤ I352 0 6 ∧ I352 0 6 ≤ 7 from (hI352 0 6).1)
                  have f365 := (show 0 ≤ I352 0 59 ∧ I352 0 59 ≤ 2000 from (hI352 0 59).1)
                  have f366 := (show 0 ≤ I352 0 3 ∧ I352 0 3 ≤ 96 from (hI352 0 3).1)
                  have KGR_I352 := gr_GR_fr KGR_I331 (fun k => g351 19 k rfl) (fun k => g351 18 k rfl) (fun k => g351 36 k rfl) (fun k => g351 41 k rfl) (fun k => g351 42 k rfl) (fun k => g351 43 k rfl) (fun k => g351 45 k rfl) (fun k => g351 46 k rfl) (fun k => g351 47 k rfl) (fun k => g351 6 k rfl) (fun k => g351 7 k rfl) (fun k => g351 8 k rfl) (g351 0 3 rfl)
                  have KST_I352 := gr_ST_fr KST_I331 (fun k => g351 6 k rfl) (fun k => g351 19 k rfl) (fun k => g351 18 k rfl) (fun k => g351 41 k rfl) (fun k => g351 36 k rfl) (g351 0 3 rfl)
                  refine gv_callV hD rfl (As := []) (st := []) rfl (by decide) rfl rfl (gr_lV hws rfl) (Nat.le_of_ble_eq_true rfl) (gz_Ev_mono (d := 10) (by decide) E351) ?_
                  show gv_X _ _ (194, [(0, .inr (.inr (some 0))), (1, .inl v1_10), (2, .inl v2_45), (3, .inl v3_55)], [], gr_sh ++ ext, gr_h I352 J353)
                  refine gv_run 1 true hD (pc' := 195) (lv' := [(0, .inr (.inr (some 0))), (1, .inl v1_10), (2, .inl v2_45), (3, .inl v3_55)]) (st' := [.inr (.inr (some 0))]) (h' := gr_h I352 J353) (C := (True ∧ True)) rfl ⟨trivial, trivial⟩ ?_
                  obtain ⟨r367, h367, E367, P367⟩ := r_name (ws0 := ws0) (tb := tb) hws htb ext I352 J353 hI352   
                  obtain ⟨I368, J369, rfl, hI368, g367, k367, ⟨z367, rfl, q367⟩⟩ := P367
                  have FI368 := gr_frt FI352 g367 rfl rfl
                  have FJ369 := gr_fjt FJ353 k367 rfl rfl
                  have t370 := g367 0 71 rfl
                  have t371 := g367 0 72 rfl
                  have t372 := g367 0 73 rfl
                  have t373 := g367 0 69 rfl
                  have t374 := g367 0 6 rfl
                  have t375 := g367 0 59 rfl
                  have t376 := g367 0 3 rfl
                  have t377 := g367 18 (Int.toNat v1_10) rfl
                  have t378 := g367 6 (Int.toNat v2_45) rfl
                  have f379 := (show 0 ≤ I368 0 71 ∧ I368 0 71 ≤ 5 from (hI368 0 71).1)
                  have f380 := (show 0 ≤ I368 0 72 ∧ I368 0 72 ≤ 1000 from (hI368 0 72).1)
                  have f381 := (show 0 ≤ I368 0 73 ∧ I368 0 73 ≤ 1001 from (hI368 0 73).1)
                  have f382 := (show 0 ≤ I368 0 69 ∧ I368 0 69 ≤ 1000 from (hI368 0 69).1)
                  have f383 := (show (-1) ≤ I368 0 6 ∧ I368 0 6 ≤ 7 from (hI368 0 6).1)
                  have f384 := (show 0 ≤ I368 0 59 ∧ I368 0 59 ≤ 2000 from (hI368 0 59).1)
                  have f385 := (show 0 ≤ I368 0 3 ∧ I368 0 3 ≤ 96 from (hI368 0 3).1)
                  have KGR_I368 := gr_GR_fr KGR_I352 (fun k => g367 19 k rfl) (fun k => g367 18 k rfl) (fun k => g367 36 k rfl) (fun k => g367 41 k rfl) (fun k => g367 42 k rfl) (fun k => g367 43 k rfl) (fun k => g367 45 k rfl) (fun k => g367 46 k rfl) (fun k => g367 47 k rfl) (fun k => g367 6 k rfl) (fun k => g367 7 k rfl) (fun k => g367 8 k rfl) (g367 0 3 rfl)
                  have KST_I368 := gr_ST_fr KST_I352 (fun k => g367 6 k rfl) (fun k => g367 19 k rfl) (fun k => g367 18 k rfl) (fun k => g367 41 k rfl) (fun k => g367 36 k rfl) (g367 0 3 rfl)
                  refine gv_callV hD rfl (As := []) (st := []) rfl (by decide) rfl rfl (gr_lV hws rfl) (Nat.le_of_ble_eq_true rfl) (gz_Ev_mono (d := 3) (by decide) E367) ?_
                  show gv_X _ _ (198, [(0, .inr (.inr (some 0))), (1, .inl v1_10), (2, .inl v2_45), (3, .inl v3_55)], [.inl z367], gr_sh ++ ext, gr_h I368 J369)
                  refine gv_if_ne (t := 203) hD rfl rfl ⟨by omega, by omega⟩ (fun c386 => ?_) (fun c386 => ?_)
                  · exact L203 I368 J369 hI368 FI368 FJ369 KGR_I368 KST_I368 (by omega)
                  · refine gv_run 1 true hD (pc' := 202) (lv' := [(0, .inr (.inr (some 0))), (1, .inl v1_10), (2, .inl v2_45), (3, .inl v3_55)]) (st' := [.inl 0]) (h' := gr_h I368 J369) (C := (True ∧ True)) rfl ⟨trivial, trivial⟩ ?_
                    exact gv_zret hD rfl (by omega) ⟨I368, J369, rfl, hI368, FI368, FJ369, KGR_I368, KST_I368, ⟨_, rfl, by omega⟩⟩
              have f387 := (show 0 ≤ I63 0 71 ∧ I63 0 71 ≤ 5 from (hI63 0 71).1)
              refine gv_run 3 true hD (pc' := 144) (lv' := [(0, .inr (.inr (some 0))), (1, .inl v1_10), (2, .inl v2_45), (3, .inl v3_55), (4, .inl v4_65)]) (st' := [.inl 3, .inl (I63 0 71)]) (h' := gr_h I63 J64) (C := (((True ∧ True) ∧ True) ∧ True)) rfl ⟨⟨⟨trivial, trivial⟩, trivial⟩, trivial⟩ ?_
              refine gv_icmp_ne (t := 174) hD rfl rfl ⟨⟨by omega, by omega⟩, ⟨by omega, by omega⟩⟩ (fun c388 => ?_) (fun c388 => ?_)
              · refine gv_pick [0, 1, 2, 3] rfl ?_
                exact L174 (by omega)
              · refine gv_run 2 true hD (pc' := 150) (lv' := [(0, .inr (.inr (some 0))), (1, .inl v1_10), (2, .inl v2_45), (3, .inl v3_55), (4, .inl v4_65)]) (st' := [.inl 3, .inl v4_65]) (h' := gr_h I63 J64) (C := ((True ∧ True) ∧ True)) rfl ⟨⟨trivial, trivial⟩, trivial⟩ ?_
                refine gv_icmp_ge (t := 174) hD rfl rfl ⟨⟨by omega, by omega⟩, ⟨by omega, by omega⟩⟩ (fun c389 => ?_) (fun c389 => ?_)
                · refine gv_pick [0, 1, 2, 3] rfl ?_
                  exact L174 (by omega)
                · refine gv_run 5 true hD (pc' := 163) (lv' := [(4, .inl (v4_65 + 1)), (0, .inr (.inr (some 0))), (1, .inl v1_10), (2, .inl v2_45), (3, .inl v3_55)]) (st' := [.inr (.inr (some 0)), .inl v4_65, .inr (.inr (some 67))]) (h' := gr_h I63 J64) (C := (((((True ∧ True) ∧ True) ∧ True) ∧ True) ∧ True)) rfl ⟨⟨⟨⟨⟨trivial, trivial⟩, trivial⟩, trivial⟩, trivial⟩, trivial⟩ ?_
                  obtain ⟨r390, h390, E390, P390⟩ := r_keeps (ws0 := ws0) (tb := tb) hws htb ext I63 J64 hI63   (by omega) (by omega) (by omega) (by omega)
                  obtain ⟨I391, J392, rfl, hI391, g390, k390, ⟨z390, rfl, q390⟩⟩ := P390
                  have FI391 := gr_frt FI63 g390 rfl rfl
                  have FJ392 := gr_fjt FJ64 k390 rfl rfl
                  have t393 := g390 0 71 rfl
                  have t394 := g390 0 72 rfl
                  have t395 := g390 0 73 rfl
                  have t396 := g390 0 69 rfl
                  have t397 := g390 0 6 rfl
                  have t398 := g390 0 3 rfl
                  have t399 := g390 18 (Int.toNat v1_10) rfl
                  have t400 := g390 6 (Int.toNat v2_45) rfl
                  have f401 := (show 0 ≤ I391 0 71 ∧ I391 0 71 ≤ 5 from (hI391 0 71).1)
                  have f402 := (show 0 ≤ I391 0 72 ∧ I391 0 72 ≤ 1000 from (hI391 0 72).1)
                  have f403 := (show 0 ≤ I391 0 73 ∧ I391 0 73 ≤ 1001 from (hI391 0 73).1)
                  have f404 := (show 0 ≤ I391 0 69 ∧ I391 0 69 ≤ 1000 from (hI391 0 69).1)
                  have f405 := (show (-1) ≤ I391 0 6 ∧ I391 0 6 ≤ 7 from (hI391 0 6).1)
                  have f406 := (show 0 ≤ I391 0 59 ∧ I391 0 59 ≤ 2000 from (hI391 0 59).1)
                  have f407 := (show 0 ≤ I391 0 3 ∧ I391 0 3 ≤ 96 from (hI391 0 3).1)
                  have KGR_I391 := gr_GR_fr KGR_I63 (fun k => g390 19 k rfl) (fun k => g390 18 k rfl) (fun k => g390 36 k rfl) (fun k => g390 41 k rfl) (fun k => g390 42 k rfl) (fun k => g390 43 k rfl) (fun k => g390 45 k rfl) (fun k => g390 46 k rfl) (fun k => g390 47 k rfl) (fun k => g390 6 k rfl) (fun k => g390 7 k rfl) (fun k => g390 8 k rfl) (g390 0 3 rfl)
                  have KST_I391 := gr_ST_fr KST_I63 (fun k => g390 6 k rfl) (fun k => g390 19 k rfl) (fun k => g390 18 k rfl) (fun k => g390 41 k rfl) (fun k => g390 36 k rfl) (g390 0 3 rfl)
                  refine gv_callV hD rfl (As := []) (st := [.inl v4_65, .inr (.inr (some 67))]) rfl (by decide) rfl rfl (gr_lV hws rfl) (Nat.le_of_ble_eq_true rfl) (gz_Ev_mono (d := 2) (by decide) E390) ?_
                  show gv_X _ _ (166, [(4, .inl (v4_65 + 1)), (0, .inr (.inr (some 0))), (1, .inl v1_10), (2, .inl v2_45), (3, .inl v3_55)], [.inl z390, .inl v4_65, .inr (.inr (some 67))], gr_sh ++ ext, gr_h I391 J392)
                  refine gv_run 1 true hD (pc' := 167) (lv' := [(4, .inl (v4_65 + 1)), (0, .inr (.inr (some 0))), (1, .inl v1_10), (2, .inl v2_45), (3, .inl v3_55)]) (st' := []) (h' := gz_up (gr_h I391 J392) 67 (Int.toNat v4_65) (.inl z390)) (C := (True ∧ (0 ≤ v4_65 ∧ v4_65 < ((3 : Nat) : Int)))) rfl ⟨trivial, ⟨by omega, by omega⟩⟩ ?_
                  refine gr_st hI391 FI391 rfl rfl ⟨⟨by show (-1) ≤ _; omega, by show _ ≤ 32015; omega⟩, trivial⟩ (fun I408 hI408 FI408 q409 p409 => ?_)
                  have t410 := p409 0 71 (fun q => absurd q.1 (by decide))
                  have t411 := p409 0 72 (fun q => absurd q.1 (by decide))
                  have t412 := p409 0 73 (fun q => absurd q.1 (by decide))
                  have t413 := p409 0 69 (fun q => absurd q.1 (by decide))
                  have t414 := p409 0 6 (fun q => absurd q.1 (by decide))
                  have t415 := p409 0 59 (fun q => absurd q.1 (by decide))
                  have t416 := p409 0 3 (fun q => absurd q.1 (by decide))
                  have t417 := p409 18 (Int.toNat v1_10) (fun q => absurd q.1 (by decide))
                  have t418 := p409 6 (Int.toNat v2_45) (fun q => absurd q.1 (by decide))
                  have f419 := (show 0 ≤ I408 0 71 ∧ I408 0 71 ≤ 5 from (hI408 0 71).1)
                  have f420 := (show 0 ≤ I408 0 72 ∧ I408 0 72 ≤ 1000 from (hI408 0 72).1)
                  have f421 := (show 0 ≤ I408 0 73 ∧ I408 0 73 ≤ 1001 from (hI408 0 73).1)
                  have f422 := (show 0 ≤ I408 0 69 ∧ I408 0 69 ≤ 1000 from (hI408 0 69).1)
                  have f423 := (show (-1) ≤ I408 0 6 ∧ I408 0 6 ≤ 7 from (hI408 0 6).1)
                  have f424 := (show 0 ≤ I408 0 59 ∧ I408 0 59 ≤ 2000 from (hI408 0 59).1)
                  have f425 := (show 0 ≤ I408 0 3 ∧ I408 0 3 ≤ 96 from (hI408 0 3).1)
                  have KGR_I408 := gr_GR_fr KGR_I391 (fun k => p409 19 k (fun q => absurd q.1 (by decide))) (fun k => p409 18 k (fun q => absurd q.1 (by decide))) (fun k => p409 36 k (fun q => absurd q.1 (by decide))) (fun k => p409 41 k (fun q => absurd q.1 (by decide))) (fun k => p409 42 k (fun q => absurd q.1 (by decide))) (fun k => p409 43 k (fun q => absurd q.1 (by decide))) (fun k => p409 45 k (fun q => absurd q.1 (by decide))) (fun k => p409 46 k (fun q => absurd q.1 (by decide))) (fun k => p409 47 k (fun q => absurd q.1 (by decide))) (fun k => p409 6 k (fun q => absurd q.1 (by decide))) (fun k => p409 7 k (fun q => absurd q.1 (by decide))) (fun k => p409 8 k (fun q => absurd q.1 (by decide))) (p409 0 3 (fun q => absurd q.1 (by decide)))
                  have KST_I408 := gr_ST_fr KST_I391 (fun k => p409 6 k (fun q => absurd q.1 (by decide))) (fun k => p409 19 k (fun q => absurd q.1 (by decide))) (fun k => p409 18 k (fun q => absurd q.1 (by decide))) (fun k => p409 41 k (fun q => absurd q.1 (by decide))) (fun k => p409 36 k (fun q => absurd q.1 (by decide))) (p409 0 3 (fun q => absurd q.1 (by decide)))
                  refine gv_run 1 true hD (pc' := 168) (lv' := [(4, .inl (v4_65 + 1)), (0, .inr (.inr (some 0))), (1, .inl v1_10), (2, .inl v2_45), (3, .inl v3_55)]) (st' := [.inr (.inr (some 0))]) (h' := gr_h I408 J392) (C := (True ∧ True)) rfl ⟨trivial, trivial⟩ ?_
                  obtain ⟨r426, h426, E426, P426⟩ := r_next (ws0 := ws0) (tb := tb) hws htb ext I408 J392 hI408   (by omega)
                  obtain ⟨I427, J428, rfl, hI427, g426, k426, ⟨rfl, q426⟩⟩ := P426
                  have FI427 := gr_frt FI408 g426 rfl rfl
                  have FJ428 := gr_fjt FJ392 k426 rfl rfl
                  have t429 := g426 0 69 rfl
                  have t430 := g426 0 6 rfl
                  have t431 := g426 0 59 rfl
                  have t432 := g426 0 3 rfl
                  have t433 := g426 18 (Int.toNat v1_10) rfl
                  have t434 := g426 6 (Int.toNat v2_45) rfl
                  have f435 := (show 0 ≤ I427 0 71 ∧ I427 0 71 ≤ 5 from (hI427 0 71).1)
                  have f436 := (show 0 ≤ I427 0 72 ∧ I427 0 72 ≤ 1000 from (hI427 0 72).1)
                  have f437 := (show 0 ≤ I427 0 73 ∧ I427 0 73 ≤ 1001 from (hI427 0 73).1)
                  have f438 := (show 0 ≤ I427 0 69 ∧ I427 0 69 ≤ 1000 from (hI427 0 69).1)
                  have f439 := (show (-1) ≤ I427 0 6 ∧ I427 0 6 ≤ 7 from (hI427 0 6).1)
                  have f440 := (show 0 ≤ I427 0 59 ∧ I427 0 59 ≤ 2000 from (hI427 0 59).1)
                  have f441 := (show 0 ≤ I427 0 3 ∧ I427 0 3 ≤ 96 from (hI427 0 3).1)
                  have KGR_I427 := gr_GR_fr KGR_I408 (fun k => g426 19 k rfl) (fun k => g426 18 k rfl) (fun k => g426 36 k rfl) (fun k => g426 41 k rfl) (fun k => g426 42 k rfl) (fun k => g426 43 k rfl) (fun k => g426 45 k rfl) (fun k => g426 46 k rfl) (fun k => g426 47 k rfl) (fun k => g426 6 k rfl) (fun k => g426 7 k rfl) (fun k => g426 8 k rfl) (g426 0 3 rfl)
                  have KST_I427 := gr_ST_fr KST_I408 (fun k => g426 6 k rfl) (fun k => g426 19 k rfl) (fun k => g426 18 k rfl) (fun k => g426 41 k rfl) (fun k => g426 36 k rfl) (g426 0 3 rfl)
                  refine gv_callV hD rfl (As := []) (st := []) rfl (by decide) rfl rfl (gr_lV hws rfl) (Nat.le_of_ble_eq_true rfl) (gz_Ev_mono (d := 10) (by decide) E426) ?_
                  show gv_X _ _ (171, [(4, .inl (v4_65 + 1)), (0, .inr (.inr (some 0))), (1, .inl v1_10), (2, .inl v2_45), (3, .inl v3_55)], [], gr_sh ++ ext, gr_h I427 J428)
                  refine gv_run 1 true hD (pc' := 139) (lv' := [(4, .inl (v4_65 + 1)), (0, .inr (.inr (some 0))), (1, .inl v1_10), (2, .inl v2_45), (3, .inl v3_55)]) (st' := []) (h' := gr_h I427 J428) (C := (True ∧ True)) rfl ⟨trivial, trivial⟩ ?_
                  refine gv_pick [1, 2, 3, 4, 0] rfl ?_
                  exact ih139 I427 J428 (v4_65 + 1) (by omega) hI427 FI427 FJ428 KGR_I427 KST_I427 (by omega)
          refine gv_run 2 true hD (pc' := 122) (lv' := [(0, .inr (.inr (some 0))), (1, .inl v1_10), (2, .inl v2_45), (3, .inl v3_55), (4, .inl v4_55), (5, .inl v5_55)]) (st' := [.inl 3, .inl v5_55]) (h' := gr_h I53 J54) (C := ((True ∧ True) ∧ True)) rfl ⟨⟨trivial, trivial⟩, trivial⟩ ?_
          refine gv_icmp_ge (t := 139) hD rfl rfl ⟨⟨by omega, by omega⟩, ⟨by omega, by omega⟩⟩ (fun c442 => ?_) (fun c442 => ?_)
          · refine gv_pick [0, 1, 2, 3, 4] rfl ?_
            exact L139 _ I53 J54 v4_55 (Nat.lt_succ_self _) hI53 FI53 FJ54 KGR_I53 KST_I53 (by omega)
          · refine gv_run 4 true hD (pc' := 132) (lv' := [(0, .inr (.inr (some 0))), (1, .inl v1_10), (2, .inl v2_45), (3, .inl v3_55), (4, .inl v4_55), (5, .inl v5_55)]) (st' := [.inl (-1), .inl v5_55, .inr (.inr (some 67))]) (h' := gr_h I53 J54) (C := ((((True ∧ True) ∧ True) ∧ True) ∧ True)) rfl ⟨⟨⟨⟨trivial, trivial⟩, trivial⟩, trivial⟩, trivial⟩ ?_
            refine gv_run 1 true hD (pc' := 133) (lv' := [(0, .inr (.inr (some 0))), (1, .inl v1_10), (2, .inl v2_45), (3, .inl v3_55), (4, .inl v4_55), (5, .inl v5_55)]) (st' := []) (h' := gz_up (gr_h I53 J54) 67 (Int.toNat v5_55) (.inl (-1))) (C := (True ∧ (0 ≤ v5_55 ∧ v5_55 < ((3 : Nat) : Int)))) rfl ⟨trivial, ⟨by omega, by omega⟩⟩ ?_
            refine gr_st hI53 FI53 rfl rfl ⟨⟨by show (-1) ≤ _; omega, by show _ ≤ 32015; omega⟩, trivial⟩ (fun I443 hI443 FI443 q444 p444 => ?_)
            have t445 := p444 0 71 (fun q => absurd q.1 (by decide))
            have t446 := p444 0 72 (fun q => absurd q.1 (by decide))
            have t447 := p444 0 73 (fun q => absurd q.1 (by decide))
            have t448 := p444 0 69 (fun q => absurd q.1 (by decide))
            have t449 := p444 0 6 (fun q => absurd q.1 (by decide))
            have t450 := p444 0 59 (fun q => absurd q.1 (by decide))
            have t451 := p444 0 3 (fun q => absurd q.1 (by decide))
            have t452 := p444 18 (Int.toNat v1_10) (fun q => absurd q.1 (by decide))
            have t453 := p444 6 (Int.toNat v2_45) (fun q => absurd q.1 (by decide))
            have f454 := (show 0 ≤ I443 0 71 ∧ I443 0 71 ≤ 5 from (hI443 0 71).1)
            have f455 := (show 0 ≤ I443 0 72 ∧ I443 0 72 ≤ 1000 from (hI443 0 72).1)
            have f456 := (show 0 ≤ I443 0 73 ∧ I443 0 73 ≤ 1001 from (hI443 0 73).1)
            have f457 := (show 0 ≤ I443 0 69 ∧ I443 0 69 ≤ 1000 from (hI443 0 69).1)
            have f458 := (show (-1) ≤ I443 0 6 ∧ I443 0 6 ≤ 7 from (hI443 0 6).1)
            have f459 := (show 0 ≤ I443 0 59 ∧ I443 0 59 ≤ 2000 from (hI443 0 59).1)
            have f460 := (show 0 ≤ I443 0 3 ∧ I443 0 3 ≤ 96 from (hI443 0 3).1)
            have KGR_I443 := gr_GR_fr KGR_I53 (fun k => p444 19 k (fun q => absurd q.1 (by decide))) (fun k => p444 18 k (fun q => absurd q.1 (by decide))) (fun k => p444 36 k (fun q => absurd q.1 (by decide))) (fun k => p444 41 k (fun q => absurd q.1 (by decide))) (fun k => p444 42 k (fun q => absurd q.1 (by decide))) (fun k => p444 43 k (fun q => absurd q.1 (by decide))) (fun k => p444 45 k (fun q => absurd q.1 (by decide))) (fun k => p444 46 k (fun q => absurd q.1 (by decide))) (fun k => p444 47 k (fun q => absurd q.1 (by decide))) (fun k => p444 6 k (fun q => absurd q.1 (by decide))) (fun k => p444 7 k (fun q => absurd q.1 (by decide))) (fun k => p444 8 k (fun q => absurd q.1 (by decide))) (p444 0 3 (fun q => absurd q.1 (by decide)))
            have KST_I443 := gr_ST_fr KST_I53 (fun k => p444 6 k (fun q => absurd q.1 (by decide))) (fun k => p444 19 k (fun q => absurd q.1 (by decide))) (fun k => p444 18 k (fun q => absurd q.1 (by decide))) (fun k => p444 41 k (fun q => absurd q.1 (by decide))) (fun k => p444 36 k (fun q => absurd q.1 (by decide))) (p444 0 3 (fun q => absurd q.1 (by decide)))
            refine gv_run 2 true hD (pc' := 119) (lv' := [(5, .inl (v5_55 + 1)), (0, .inr (.inr (some 0))), (1, .inl v1_10), (2, .inl v2_45), (3, .inl v3_55), (4, .inl v4_55)]) (st' := []) (h' := gr_h I443 J54) (C := ((True ∧ True) ∧ True)) rfl ⟨⟨trivial, trivial⟩, trivial⟩ ?_
            refine gv_pick [1, 2, 3, 4, 5, 0] rfl ?_
            exact ih119 I443 J54 v3_55 v4_55 (v5_55 + 1) (by omega) hI443 FI443 FJ54 KGR_I443 KST_I443 (by omega)
      refine gv_run 7 true hD (pc' := 75) (lv' := [(0, .inr (.inr (some 0))), (1, .inl v1_10), (2, .inl v2_45)]) (st' := [.inr (.inr (some 17)), .inl (24 * v1_10), .inr (.inr (some 23))]) (h' := gr_h I43 J44) (C := (((((((True ∧ True) ∧ True) ∧ True) ∧ True) ∧ True) ∧ True) ∧ True)) rfl ⟨⟨⟨⟨⟨⟨⟨trivial, trivial⟩, trivial⟩, trivial⟩, trivial⟩, trivial⟩, trivial⟩, trivial⟩ ?_
      have f461 := (show 0 ≤ I43 17 (Int.toNat v1_10) ∧ I43 17 (Int.toNat v1_10) ≤ 24 from (hI43 17 (Int.toNat v1_10)).1)
      refine gv_run 2 true hD (pc' := 77) (lv' := [(0, .inr (.inr (some 0))), (1, .inl v1_10), (2, .inl v2_45)]) (st' := [.inl (I43 17 (Int.toNat v1_10)), .inl (24 * v1_10), .inr (.inr (some 23))]) (h' := gr_h I43 J44) (C := ((True ∧ True) ∧ (0 ≤ v1_10 ∧ v1_10 < ((8 : Nat) : Int)))) rfl ⟨⟨trivial, trivial⟩, ⟨by omega, by omega⟩⟩ ?_
      refine gv_run 2 true hD (pc' := 81) (lv' := [(0, .inr (.inr (some 0))), (1, .inl v1_10), (2, .inl v2_45)]) (st' := [.inr (.inl (J44 0 75)), .inl (I43 17 (Int.toNat v1_10)), .inl (24 * v1_10), .inr (.inr (some 23))]) (h' := gr_h I43 J44) (C := ((True ∧ True) ∧ True)) rfl ⟨⟨trivial, trivial⟩, trivial⟩ ?_
      obtain ⟨r462, h462, E462, P462⟩ := r_find_23 (ws0 := ws0) (tb := tb) hws htb ext I43 J44 hI43 (24 * v1_10) ((I43 17 (Int.toNat v1_10))) (J44 0 75) ⟨by omega, by omega⟩ ⟨by omega, by omega⟩ (by omega)
      obtain ⟨rfl, ⟨z462, rfl, q462⟩⟩ := P462
      refine gv_callS hD rfl (As := [.inr (.inr (some 23)), .inl (24 * v1_10), .inl (I43 17 (Int.toNat v1_10)), .inr (.inl (J44 0 75))]) (st := []) rfl (gr_lS hws rfl) (Nat.le_of_ble_eq_true rfl) (gz_Ev_mono (d := 1) (by decide) E462) ?_
      show gv_X _ _ (84, [(0, .inr (.inr (some 0))), (1, .inl v1_10), (2, .inl v2_45)], [.inl z462], gr_sh ++ ext, gr_h I43 J44)
      refine gv_run 2 true hD (pc' := 86) (lv' := [(3, .inl z462), (0, .inr (.inr (some 0))), (1, .inl v1_10), (2, .inl v2_45)]) (st' := [.inl z462]) (h' := gr_h I43 J44) (C := ((True ∧ True) ∧ True)) rfl ⟨⟨trivial, trivial⟩, trivial⟩ ?_
      refine gv_if_ge (t := 95) hD rfl rfl ⟨by omega, by omega⟩ (fun c463 => ?_) (fun c463 => ?_)
      · refine gv_run 1 true hD (pc' := 96) (lv' := [(3, .inl z462), (0, .inr (.inr (some 0))), (1, .inl v1_10), (2, .inl v2_45)]) (st' := [.inr (.inr (some 0))]) (h' := gr_h I43 J44) (C := (True ∧ True)) rfl ⟨trivial, trivial⟩ ?_
        obtain ⟨r464, h464, E464, P464⟩ := r_next (ws0 := ws0) (tb := tb) hws htb ext I43 J44 hI43   (by omega)
        obtain ⟨I465, J466, rfl, hI465, g464, k464, ⟨rfl, q464⟩⟩ := P464
        have FI465 := gr_frt FI43 g464 rfl rfl
        have FJ466 := gr_fjt FJ44 k464 rfl rfl
        have t467 := g464 0 69 rfl
        have t468 := g464 0 6 rfl
        have t469 := g464 0 59 rfl
        have t470 := g464 0 3 rfl
        have t471 := g464 18 (Int.toNat v1_10) rfl
        have t472 := g464 6 (Int.toNat v2_45) rfl
        have f473 := (show 0 ≤ I465 0 71 ∧ I465 0 71 ≤ 5 from (hI465 0 71).1)
        have f474 := (show 0 ≤ I465 0 72 ∧ I465 0 72 ≤ 1000 from (hI465 0 72).1)
        have f475 := (show 0 ≤ I465 0 73 ∧ I465 0 73 ≤ 1001 from (hI465 0 73).1)
        have f476 := (show 0 ≤ I465 0 69 ∧ I465 0 69 ≤ 1000 from (hI465 0 69).1)
        have f477 := (show (-1) ≤ I465 0 6 ∧ I465 0 6 ≤ 7 from (hI465 0 6).1)
        have f478 := (show 0 ≤ I465 0 59 ∧ I465 0 59 ≤ 2000 from (hI465 0 59).1)
        have f479 := (show 0 ≤ I465 0 3 ∧ I465 0 3 ≤ 96 from (hI465 0 3).1)
        have KGR_I465 := gr_GR_fr KGR_I43 (fun k => g464 19 k rfl) (fun k => g464 18 k rfl) (fun k => g464 36 k rfl) (fun k => g464 41 k rfl) (fun k => g464 42 k rfl) (fun k => g464 43 k rfl) (fun k => g464 45 k rfl) (fun k => g464 46 k rfl) (fun k => g464 47 k rfl) (fun k => g464 6 k rfl) (fun k => g464 7 k rfl) (fun k => g464 8 k rfl) (g464 0 3 rfl)
        have KST_I465 := gr_ST_fr KST_I43 (fun k => g464 6 k rfl) (fun k => g464 19 k rfl) (fun k => g464 18 k rfl) (fun k => g464 41 k rfl) (fun k => g464 36 k rfl) (g464 0 3 rfl)
        refine gv_callV hD rfl (As := []) (st := []) rfl (by decide) rfl rfl (gr_lV hws rfl) (Nat.le_of_ble_eq_true rfl) (gz_Ev_mono (d := 10) (by decide) E464) ?_
        show gv_X _ _ (99, [(3, .inl z462), (0, .inr (.inr (some 0))), (1, .inl v1_10), (2, .inl v2_45)], [], gr_sh ++ ext, gr_h I465 J466)
        have f480 := (show 0 ≤ I465 0 71 ∧ I465 0 71 ≤ 5 from (hI465 0 71).1)
        refine gv_run 3 true hD (pc' := 104) (lv' := [(3, .inl z462), (0, .inr (.inr (some 0))), (1, .inl v1_10), (2, .inl v2_45)]) (st' := [.inl 3, .inl (I465 0 71)]) (h' := gr_h I465 J466) (C := (((True ∧ True) ∧ True) ∧ True)) rfl ⟨⟨⟨trivial, trivial⟩, trivial⟩, trivial⟩ ?_
        refine gv_icmp_eq (t := 113) hD rfl rfl ⟨⟨by omega, by omega⟩, ⟨by omega, by omega⟩⟩ (fun c481 => ?_) (fun c481 => ?_)
        · refine gv_run 4 true hD (pc' := 119) (lv' := [(5, .inl 0), (4, .inl 0), (3, .inl z462), (0, .inr (.inr (some 0))), (1, .inl v1_10), (2, .inl v2_45)]) (st' := []) (h' := gr_h I465 J466) (C := ((((True ∧ True) ∧ True) ∧ True) ∧ True)) rfl ⟨⟨⟨⟨trivial, trivial⟩, trivial⟩, trivial⟩, trivial⟩ ?_
          refine gv_pick [3, 4, 5, 2, 1, 0] rfl ?_
          exact L119 _ I465 J466 z462 0 0 (Nat.lt_succ_self _) hI465 FI465 FJ466 KGR_I465 KST_I465 (by omega)
        · refine gv_run 2 true hD (pc' := 109) (lv' := [(3, .inl z462), (0, .inr (.inr (some 0))), (1, .inl v1_10), (2, .inl v2_45)]) (st' := [.inl 1, .inr (.inr (some 0))]) (h' := gr_h I465 J466) (C := ((True ∧ True) ∧ True)) rfl ⟨⟨trivial, trivial⟩, trivial⟩ ?_
          obtain ⟨r482, h482, E482, P482⟩ := r_no_ (ws0 := ws0) (tb := tb) hws htb ext I465 J466 hI465 1 ⟨by omega, by omega⟩ 
          obtain ⟨I483, J484, rfl, hI483, g482, k482, ⟨z482, rfl, q482⟩⟩ := P482
          have FI483 := gr_frt FI465 g482 rfl rfl
          have FJ484 := gr_fjt FJ466 k482 rfl rfl
          have t485 := g482 0 71 rfl
          have t486 := g482 0 72 rfl
          have t487 := g482 0 73 rfl
          have t488 := g482 0 69 rfl
          have t489 := g482 0 6 rfl
          have t490 := g482 0 59 rfl
          have t491 := g482 0 3 rfl
          have t492 := g482 18 (Int.toNat v1_10) rfl
          have t493 := g482 6 (Int.toNat v2_45) rfl
          have f494 := (show 0 ≤ I483 0 71 ∧ I483 0 71 ≤ 5 from (hI483 0 71).1)
          have f495 := (show 0 ≤ I483 0 72 ∧ I483 0 72 ≤ 1000 from (hI483 0 72).1)
          have f496 := (show 0 ≤ I483 0 73 ∧ I483 0 73 ≤ 1001 from (hI483 0 73).1)
          have f497 := (show 0 ≤ I483 0 69 ∧ I483 0 69 ≤ 1000 from (hI483 0 69).1)
          have f498 := (show (-1) ≤ I483 0 6 ∧ I483 0 6 ≤ 7 from (hI483 0 6).1)
          have f499 := (show 0 ≤ I483 0 59 ∧ I483 0 59 ≤ 2000 from (hI483 0 59).1)
          have f500 := (show 0 ≤ I483 0 3 ∧ I483 0 3 ≤ 96 from (hI483 0 3).1)
          have KGR_I483 := gr_GR_fr KGR_I465 (fun k => g482 19 k rfl) (fun k => g482 18 k rfl) (fun k => g482 36 k rfl) (fun k => g482 41 k rfl) (fun k => g482 42 k rfl) (fun k => g482 43 k rfl) (fun k => g482 45 k rfl) (fun k => g482 46 k rfl) (fun k => g482 47 k rfl) (fun k => g482 6 k rfl) (fun k => g482 7 k rfl) (fun k => g482 8 k rfl) (g482 0 3 rfl)
          have KST_I483 := gr_ST_fr KST_I465 (fun k => g482 6 k rfl) (fun k => g482 19 k rfl) (fun k => g482 18 k rfl) (fun k => g482 41 k rfl) (fun k => g482 36 k rfl) (g482 0 3 rfl)
          refine gv_callV hD rfl (As := [.inl 1]) (st := []) rfl (by decide) rfl rfl (gr_lV hws rfl) (Nat.le_of_ble_eq_true rfl) (gz_Ev_mono (d := 2) (by decide) E482) ?_
          show gv_X _ _ (112, [(3, .inl z462), (0, .inr (.inr (some 0))), (1, .inl v1_10), (2, .inl v2_45)], [.inl z482], gr_sh ++ ext, gr_h I483 J484)
          exact gv_zret hD rfl (by omega) ⟨I483, J484, rfl, hI483, FI483, FJ484, KGR_I483, KST_I483, ⟨_, rfl, by omega⟩⟩
      · refine gv_run 2 true hD (pc' := 91) (lv' := [(3, .inl z462), (0, .inr (.inr (some 0))), (1, .inl v1_10), (2, .inl v2_45)]) (st' := [.inl 5, .inr (.inr (some 0))]) (h' := gr_h I43 J44) (C := ((True ∧ True) ∧ True)) rfl ⟨⟨trivial, trivial⟩, trivial⟩ ?_
        obtain ⟨r501, h501, E501, P501⟩ := r_no_ (ws0 := ws0) (tb := tb) hws htb ext I43 J44 hI43 5 ⟨by omega, by omega⟩ 
        obtain ⟨I502, J503, rfl, hI502, g501, k501, ⟨z501, rfl, q501⟩⟩ := P501
        have FI502 := gr_frt FI43 g501 rfl rfl
        have FJ503 := gr_fjt FJ44 k501 rfl rfl
        have t504 := g501 0 71 rfl
        have t505 := g501 0 72 rfl
        have t506 := g501 0 73 rfl
        have t507 := g501 0 69 rfl
        have t508 := g501 0 6 rfl
        have t509 := g501 0 59 rfl
        have t510 := g501 0 3 rfl
        have t511 := g501 18 (Int.toNat v1_10) rfl
        have t512 := g501 6 (Int.toNat v2_45) rfl
        have f513 := (show 0 ≤ I502 0 71 ∧ I502 0 71 ≤ 5 from (hI502 0 71).1)
        have f514 := (show 0 ≤ I502 0 72 ∧ I502 0 72 ≤ 1000 from (hI502 0 72).1)
        have f515 := (show 0 ≤ I502 0 73 ∧ I502 0 73 ≤ 1001 from (hI502 0 73).1)
        have f516 := (show 0 ≤ I502 0 69 ∧ I502 0 69 ≤ 1000 from (hI502 0 69).1)
        have f517 := (show (-1) ≤ I502 0 6 ∧ I502 0 6 ≤ 7 from (hI502 0 6).1)
        have f518 := (show 0 ≤ I502 0 59 ∧ I502 0 59 ≤ 2000 from (hI502 0 59).1)
        have f519 := (show 0 ≤ I502 0 3 ∧ I502 0 3 ≤ 96 from (hI502 0 3).1)
        have KGR_I502 := gr_GR_fr KGR_I43 (fun k => g501 19 k rfl) (fun k => g501 18 k rfl) (fun k => g501 36 k rfl) (fun k => g501 41 k rfl) (fun k => g501 42 k rfl) (fun k => g501 43 k rfl) (fun k => g501 45 k rfl) (fun k => g501 46 k rfl) (fun k => g501 47 k rfl) (fun k => g501 6 k rfl) (fun k => g501 7 k rfl) (fun k => g501 8 k rfl) (g501 0 3 rfl)
        have KST_I502 := gr_ST_fr KST_I43 (fun k => g501 6 k rfl) (fun k => g501 19 k rfl) (fun k => g501 18 k rfl) (fun k => g501 41 k rfl) (fun k => g501 36 k rfl) (g501 0 3 rfl)
        refine gv_callV hD rfl (As := [.inl 5]) (st := []) rfl (by decide) rfl rfl (gr_lV hws rfl) (Nat.le_of_ble_eq_true rfl) (gz_Ev_mono (d := 2) (by decide) E501) ?_
        show gv_X _ _ (94, [(3, .inl z462), (0, .inr (.inr (some 0))), (1, .inl v1_10), (2, .inl v2_45)], [.inl z501], gr_sh ++ ext, gr_h I502 J503)
        exact gv_zret hD rfl (by omega) ⟨I502, J503, rfl, hI502, FI502, FJ503, KGR_I502, KST_I502, ⟨_, rfl, by omega⟩⟩
    have f520 := (show 0 ≤ I8 0 3 ∧ I8 0 3 ≤ 96 from (hI8 0 3).1)
    refine gv_run 7 true hD (pc' := 27) (lv' := [(0, .inr (.inr (some 0))), (1, .inl v1_10)]) (st' := [.inr (.inl (J9 0 75)), .inl (I8 0 3), .inl 0, .inr (.inr (some 3))]) (h' := gr_h I8 J9) (C := (((((((True ∧ True) ∧ True) ∧ True) ∧ True) ∧ True) ∧ True) ∧ True)) rfl ⟨⟨⟨⟨⟨⟨⟨trivial, trivial⟩, trivial⟩, trivial⟩, trivial⟩, trivial⟩, trivial⟩, trivial⟩ ?_
    obtain ⟨r521, h521, E521, P521⟩ := r_find_3 (ws0 := ws0) (tb := tb) hws htb ext I8 J9 hI8 0 (I8 0 3) (J9 0 75) ⟨by omega, by omega⟩ ⟨by omega, by omega⟩ (by omega)
    obtain ⟨rfl, ⟨z521, rfl, q521⟩⟩ := P521
    refine gv_callS hD rfl (As := [.inr (.inr (some 3)), .inl 0, .inl (I8 0 3), .inr (.inl (J9 0 75))]) (st := []) rfl (gr_lS hws rfl) (Nat.le_of_ble_eq_true rfl) (gz_Ev_mono (d := 1) (by decide) E521) ?_
    show gv_X _ _ (30, [(0, .inr (.inr (some 0))), (1, .inl v1_10)], [.inl z521], gr_sh ++ ext, gr_h I8 J9)
    refine gv_run 2 true hD (pc' := 32) (lv' := [(2, .inl z521), (0, .inr (.inr (some 0))), (1, .inl v1_10)]) (st' := [.inl z521]) (h' := gr_h I8 J9) (C := ((True ∧ True) ∧ True)) rfl ⟨⟨trivial, trivial⟩, trivial⟩ ?_
    refine gv_if_lt (t := 44) hD rfl rfl ⟨by omega, by omega⟩ (fun c522 => ?_) (fun c522 => ?_)
    · refine gv_pick [1] rfl ?_
      exact L44 (by omega)
    · have f523 := (show 0 ≤ I8 6 (Int.toNat z521) ∧ I8 6 (Int.toNat z521) ≤ 4 from (hI8 6 (Int.toNat z521)).1)
      refine gv_run 4 true hD (pc' := 41) (lv' := [(2, .inl z521), (0, .inr (.inr (some 0))), (1, .inl v1_10)]) (st' := [.inl (I8 6 (Int.toNat z521))]) (h' := gr_h I8 J9) (C := ((((True ∧ True) ∧ True) ∧ True) ∧ (0 ≤ z521 ∧ z521 < ((96 : Nat) : Int)))) rfl ⟨⟨⟨⟨trivial, trivial⟩, trivial⟩, trivial⟩, ⟨by omega, by omega⟩⟩ ?_
      refine gv_if_le (t := 50) hD rfl rfl ⟨by omega, by omega⟩ (fun c524 => ?_) (fun c524 => ?_)
      · refine gv_run 1 true hD (pc' := 51) (lv' := [(2, .inl z521), (0, .inr (.inr (some 0))), (1, .inl v1_10)]) (st' := [.inr (.inr (some 0))]) (h' := gr_h I8 J9) (C := (True ∧ True)) rfl ⟨trivial, trivial⟩ ?_
        obtain ⟨r525, h525, E525, P525⟩ := r_next (ws0 := ws0) (tb := tb) hws htb ext I8 J9 hI8   (by omega)
        obtain ⟨I526, J527, rfl, hI526, g525, k525, ⟨rfl, q525⟩⟩ := P525
        have FI526 := gr_frt FI8 g525 rfl rfl
        have FJ527 := gr_fjt FJ9 k525 rfl rfl
        have t528 := g525 0 69 rfl
        have t529 := g525 0 6 rfl
        have t530 := g525 0 59 rfl
        have t531 := g525 0 3 rfl
        have t532 := g525 18 (Int.toNat v1_10) rfl
        have t533 := g525 6 (Int.toNat z521) rfl
        have f534 := (show 0 ≤ I526 0 71 ∧ I526 0 71 ≤ 5 from (hI526 0 71).1)
        have f535 := (show 0 ≤ I526 0 72 ∧ I526 0 72 ≤ 1000 from (hI526 0 72).1)
        have f536 := (show 0 ≤ I526 0 73 ∧ I526 0 73 ≤ 1001 from (hI526 0 73).1)
        have f537 := (show 0 ≤ I526 0 69 ∧ I526 0 69 ≤ 1000 from (hI526 0 69).1)
        have f538 := (show (-1) ≤ I526 0 6 ∧ I526 0 6 ≤ 7 from (hI526 0 6).1)
        have f539 := (show 0 ≤ I526 0 59 ∧ I526 0 59 ≤ 2000 from (hI526 0 59).1)
        have f540 := (show 0 ≤ I526 0 3 ∧ I526 0 3 ≤ 96 from (hI526 0 3).1)
        have KGR_I526 := gr_GR_fr KGR_I8 (fun k => g525 19 k rfl) (fun k => g525 18 k rfl) (fun k => g525 36 k rfl) (fun k => g525 41 k rfl) (fun k => g525 42 k rfl) (fun k => g525 43 k rfl) (fun k => g525 45 k rfl) (fun k => g525 46 k rfl) (fun k => g525 47 k rfl) (fun k => g525 6 k rfl) (fun k => g525 7 k rfl) (fun k => g525 8 k rfl) (g525 0 3 rfl)
        have KST_I526 := gr_ST_fr KST_I8 (fun k => g525 6 k rfl) (fun k => g525 19 k rfl) (fun k => g525 18 k rfl) (fun k => g525 41 k rfl) (fun k => g525 36 k rfl) (g525 0 3 rfl)
        refine gv_callV hD rfl (As := []) (st := []) rfl (by decide) rfl rfl (gr_lV hws rfl) (Nat.le_of_ble_eq_true rfl) (gz_Ev_mono (d := 10) (by decide) E525) ?_
        show gv_X _ _ (54, [(2, .inl z521), (0, .inr (.inr (some 0))), (1, .inl v1_10)], [], gr_sh ++ ext, gr_h I526 J527)
        refine gv_run 1 true hD (pc' := 55) (lv' := [(2, .inl z521), (0, .inr (.inr (some 0))), (1, .inl v1_10)]) (st' := [.inr (.inr (some 0))]) (h' := gr_h I526 J527) (C := (True ∧ True)) rfl ⟨trivial, trivial⟩ ?_
        obtain ⟨r541, h541, E541, P541⟩ := r_name (ws0 := ws0) (tb := tb) hws htb ext I526 J527 hI526   
        obtain ⟨I542, J543, rfl, hI542, g541, k541, ⟨z541, rfl, q541⟩⟩ := P541
        have FI542 := gr_frt FI526 g541 rfl rfl
        have FJ543 := gr_fjt FJ527 k541 rfl rfl
        have t544 := g541 0 71 rfl
        have t545 := g541 0 72 rfl
        have t546 := g541 0 73 rfl
        have t547 := g541 0 69 rfl
        have t548 := g541 0 6 rfl
        have t549 := g541 0 59 rfl
        have t550 := g541 0 3 rfl
        have t551 := g541 18 (Int.toNat v1_10) rfl
        have t552 := g541 6 (Int.toNat z521) rfl
        have f553 := (show 0 ≤ I542 0 71 ∧ I542 0 71 ≤ 5 from (hI542 0 71).1)
        have f554 := (show 0 ≤ I542 0 72 ∧ I542 0 72 ≤ 1000 from (hI542 0 72).1)
        have f555 := (show 0 ≤ I542 0 73 ∧ I542 0 73 ≤ 1001 from (hI542 0 73).1)
        have f556 := (show 0 ≤ I542 0 69 ∧ I542 0 69 ≤ 1000 from (hI542 0 69).1)
        have f557 := (show (-1) ≤ I542 0 6 ∧ I542 0 6 ≤ 7 from (hI542 0 6).1)
        have f558 := (show 0 ≤ I542 0 59 ∧ I542 0 59 ≤ 2000 from (hI542 0 59).1)
        have f559 := (show 0 ≤ I542 0 3 ∧ I542 0 3 ≤ 96 from (hI542 0 3).1)
        have KGR_I542 := gr_GR_fr KGR_I526 (fun k => g541 19 k rfl) (fun k => g541 18 k rfl) (fun k => g541 36 k rfl) (fun k => g541 41 k rfl) (fun k => g541 42 k rfl) (fun k => g541 43 k rfl) (fun k => g541 45 k rfl) (fun k => g541 46 k rfl) (fun k => g541 47 k rfl) (fun k => g541 6 k rfl) (fun k => g541 7 k rfl) (fun k => g541 8 k rfl) (g541 0 3 rfl)
        have KST_I542 := gr_ST_fr KST_I526 (fun k => g541 6 k rfl) (fun k => g541 19 k rfl) (fun k => g541 18 k rfl) (fun k => g541 41 k rfl) (fun k => g541 36 k rfl) (g541 0 3 rfl)
        refine gv_callV hD rfl (As := []) (st := []) rfl (by decide) rfl rfl (gr_lV hws rfl) (Nat.le_of_ble_eq_true rfl) (gz_Ev_mono (d := 3) (by decide) E541) ?_
        show gv_X _ _ (58, [(2, .inl z521), (0, .inr (.inr (some 0))), (1, .inl v1_10)], [.inl z541], gr_sh ++ ext, gr_h I542 J543)
        refine gv_if_ne (t := 63) hD rfl rfl ⟨by omega, by omega⟩ (fun c560 => ?_) (fun c560 => ?_)
        · refine gv_pick [1, 2, 0] rfl ?_
          exact L63 I542 J543 z521 hI542 FI542 FJ543 KGR_I542 KST_I542 (by omega)
        · refine gv_run 1 true hD (pc' := 62) (lv' := [(2, .inl z521), (0, .inr (.inr (some 0))), (1, .inl v1_10)]) (st' := [.inl 0]) (h' := gr_h I542 J543) (C := (True ∧ True)) rfl ⟨trivial, trivial⟩ ?_
          exact gv_zret hD rfl (by omega) ⟨I542, J543, rfl, hI542, FI542, FJ543, KGR_I542, KST_I542, ⟨_, rfl, by omega⟩⟩
      · refine gv_pick [1] rfl ?_
        exact L44 (by omega)
  have f561 := (show (-1) ≤ I 0 6 ∧ I 0 6 ≤ 7 from (hI 0 6).1)
  refine gv_run 4 true hD (pc' := 6) (lv' := [(1, .inl (I 0 6)), (0, .inr (.inr (some 0)))]) (st' := [.inr (.inr (some 0))]) (h' := gr_h I J) (C := ((((True ∧ True) ∧ True) ∧ True) ∧ True)) rfl ⟨⟨⟨⟨trivial, trivial⟩, trivial⟩, trivial⟩, trivial⟩ ?_
  obtain ⟨r562, h562, E562, P562⟩ := r_name (ws0 := ws0) (tb := tb) hws htb ext I J hI   
  obtain ⟨I563, J564, rfl, hI563, g562, k562, ⟨z562, rfl, q562⟩⟩ := P562
  have FI563 := gr_frt FI g562 rfl rfl
  have FJ564 := gr_fjt FJ k562 rfl rfl
  have t565 := g562 0 71 rfl
  have t566 := g562 0 72 rfl
  have t567 := g562 0 73 rfl
  have t568 := g562 0 69 rfl
  have t569 := g562 0 6 rfl
  have t570 := g562 0 59 rfl
  have t571 := g562 0 3 rfl
  have t572 := g562 18 (Int.toNat ((I 0 6))) rfl
  have f573 := (show 0 ≤ I563 0 71 ∧ I563 0 71 ≤ 5 from (hI563 0 71).1)
  have f574 := (show 0 ≤ I563 0 72 ∧ I563 0 72 ≤ 1000 from (hI563 0 72).1)
  have f575 := (show 0 ≤ I563 0 73 ∧ I563 0 73 ≤ 1001 from (hI563 0 73).1)
  have f576 := (show 0 ≤ I563 0 69 ∧ I563 0 69 ≤ 1000 from (hI563 0 69).1)
  have f577 := (show (-1) ≤ I563 0 6 ∧ I563 0 6 ≤ 7 from (hI563 0 6).1)
  have f578 := (show 0 ≤ I563 0 59 ∧ I563 0 59 ≤ 2000 from (hI563 0 59).1)
  have f579 := (show 0 ≤ I563 0 3 ∧ I563 0 3 ≤ 96 from (hI563 0 3).1)
  have KGR_I563 := gr_GR_fr KGR_I (fun k => g562 19 k rfl) (fun k => g562 18 k rfl) (fun k => g562 36 k rfl) (fun k => g562 41 k rfl) (fun k => g562 42 k rfl) (fun k => g562 43 k rfl) (fun k => g562 45 k rfl) (fun k => g562 46 k rfl) (fun k => g562 47 k rfl) (fun k => g562 6 k rfl) (fun k => g562 7 k rfl) (fun k => g562 8 k rfl) (g562 0 3 rfl)
  have KST_I563 := gr_ST_fr KST_I (fun k => g562 6 k rfl) (fun k => g562 19 k rfl) (fun k => g562 18 k rfl) (fun k => g562 41 k rfl) (fun k => g562 36 k rfl) (g562 0 3 rfl)
  refine gv_callV hD rfl (As := []) (st := []) rfl (by decide) rfl rfl (gr_lV hws rfl) (Nat.le_of_ble_eq_true rfl) (gz_Ev_mono (d := 3) (by decide) E562) ?_
  show gv_X _ _ (9, [(1, .inl (I 0 6)), (0, .inr (.inr (some 0)))], [.inl z562], gr_sh ++ ext, gr_h I563 J564)
  refine gv_if_ne (t := 14) hD rfl rfl ⟨by omega, by omega⟩ (fun c580 => ?_) (fun c580 => ?_)
  · refine gv_pick [1, 0] rfl ?_
    exact L14 I563 J564 (I 0 6) hI563 FI563 FJ564 KGR_I563 KST_I563 (by omega)
  · refine gv_run 1 true hD (pc' := 13) (lv' := [(1, .inl (I 0 6)), (0, .inr (.inr (some 0)))]) (st' := [.inl 0]) (h' := gr_h I563 J564) (C := (True ∧ True)) rfl ⟨trivial, trivial⟩ ?_
    exact gv_zret hD rfl (by omega) ⟨I563, J564, rfl, hI563, FI563, FJ564, KGR_I563, KST_I563, ⟨_, rfl, by omega⟩⟩
