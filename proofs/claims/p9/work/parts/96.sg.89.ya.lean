/-! WHAT THE REST OF THE HOUSE KEEPS (gh_HC): chart, ranking, trees, meanings, collection, forms. -/
def gh_FBT (A : gc_A) (I : gr_I) : Prop := ∀ i t : Nat, i < 8 → A 10 i = some t → gc_FB (t + 17) (24 * I (t + 17) 8) I ∧ ((i : Int) < I 8 1 → I (t + 17) 8 ≤ I t 11) ∧ (I 8 1 ≤ (i : Int) → I (t + 17) 8 ≤ 0) ∧ ¬ I (t + 17) 6 = I (t + 17) 7 ∧ gh_K9 I i t
def gh_TRE (I : gr_I) : Prop := ∀ p : Nat, p < 8 → I 124 p = 0 ∨ (gc_wtr I (115 + p) (I 124 p) ∧ gc_rg (115 + p) I (I 124 p) 0 (I 4 1 - 1))
def gh_RK1 (A : gc_A) (I : gr_I) (t : Nat) : Prop := gc_WV t I ∧ gc_WB (24 * I t 11) I ∧ gc_WA (gc_lsl A I t) I ∧ (I 49 (Int.toNat (I 48 10)) + I 50 (Int.toNat (I 48 10)) ≤ I 48 3) ∧ (I 61 4 = 0 ∨ (gc_LH (gc_lsl A I t) (-1) I ∧ gc_TH (-1) I))
def gh_RKO (A : gc_A) (I : gr_I) : Prop := (I 61 3 = 0 ∧ I 61 15 = 0) ∨ (I 61 3 = 1 ∧ ∃ i t : Nat, (i : Int) < I 8 1 ∧ A 10 i = some t ∧ I 61 2 = (t : Int) ∧ gh_RK1 A I t)
def gh_HC (sh : gz_Sh) (ro : Nat → Nat) (A : gc_A) (I : gr_I) : Prop := gc_FN I ∧ gc_FZ I ∧ I 86 2 + I 86 4 = 1 ∧ (I 100 2 = 0 ∨ I 100 1 < I 8 1) ∧ gc_SN sh ro A I ∧ gh_FBT A I ∧ gh_TRE I ∧ gh_RKO A I
theorem gh_lsl_eq {sh : gz_Sh} {ro : Nat → Nat} {A Aₚ : gc_A} {t : Nat} {I Iₚ : gr_I} (hL : gc_Ls sh ro A t I) (hA : ∀ j : Nat, (j : Int) < I t 13 → Aₚ (t + 16) j = A (t + 16) j) (hr : ∀ q, gc_isLin sh ro A q → 144 ≤ q → ∀ d k, d ≤ 8 → Iₚ (q + d) k = I (q + d) k) : ∀ j : Nat, (j : Int) < I t 13 → gc_lsl Aₚ Iₚ t j = gc_lsl A I t j := fun j hj => by
  obtain ⟨q, a, b, c, _, _⟩ := hL j hj
  rw [gc_lsl_at a, gc_lsl_at ((hA j hj).trans a)]
  exact hr q b c 0 8 (by decide)
theorem gh_WA_cg {σ σ' : Nat → Int} {t : Nat} {I : gr_I} (h : gc_WA σ I) (hv : gc_WV t I) (e : ∀ j : Nat, (j : Int) < I t 13 → σ' j = σ j) : gc_WA σ' I := fun w hw => ⟨(h w hw).1, fun hn s h0 h4 hs => (h w hw).2 hn s h0 h4 (by
  have h1 := (hv w hw).resolve_left (by omega)
  rw [← e (Int.toNat (-1 - I 54 w)) (by omega)]
  exact hs)⟩
theorem gh_LH_cg {σ σ' : Nat → Int} {t : Nat} {o : Int} {I : gr_I} (h : gc_LH σ o I) (hv : gc_WV t I) (h69 : ∀ e, 0 ≤ I 69 e) (e : ∀ j : Nat, (j : Int) < I t 13 → σ' j = σ j) : gc_LH σ' o I := fun k h1 h2 h3 h4 => by
  obtain ⟨a, b⟩ := h k h1 h2 h3 h4
  have h9 := h69 k
  refine ⟨a, fun s c d f => b s c d ?_⟩
  have e9 : gc_ws σ' I (Int.toNat (I 69 k)) = gc_ws σ I (Int.toNat (I 69 k)) := by
    unfold gc_ws
    by_cases hn : 0 ≤ I 54 (Int.toNat (I 69 k))
    · rw [if_pos hn, if_pos hn]
    · rw [if_neg hn, if_neg hn]
      have h1 := (hv (Int.toNat (I 69 k)) (by omega)).resolve_left hn
      exact e _ (by omega)
  rw [← e9]
  exact f
set_option maxHeartbeats 8000000 in
theorem gh_op_fu {I Iₚ : gr_I} {T : Nat} (hf : ∀ j : Nat, (j : Int) < I 4 1 → Iₚ 12 j = I 12 j) : ∀ {n : Nat}, (∀ k, k < n → Iₚ T k = I T k ∧ 0 ≤ I T k ∧ I T k < I 4 1) → gc_op Iₚ T n = gc_op I T n
  | 0, _ => rfl
  | n + 1, h => by
    show gc_op Iₚ T n - 1 + Iₚ 12 (Int.toNat (Iₚ T n)) = gc_op I T n - 1 + I 12 (Int.toNat (I T n))
    obtain ⟨a, b, c⟩ := h n (by exact gz_m 0 (by omega))
    rw [gh_op_fu hf (n := n) (fun k hk => h k (by exact gz_m 1 (by omega))), a, hf _ (by exact gz_m 2 (by omega))]
theorem gh_wtr_fu {I Iₚ : gr_I} {T : Nat} {n : Int} (h : gc_wtr I T n) (hg : gc_rg T I n 0 (I 4 1 - 1)) (hf : ∀ j : Nat, (j : Int) < I 4 1 → Iₚ 12 j = I 12 j) (e : ∀ k, Iₚ T k = I T k) : gc_wtr Iₚ T n := by
  have g : ∀ k : Nat, (k : Int) < n → Iₚ T k = I T k ∧ 0 ≤ I T k ∧ I T k < I 4 1 := fun k hk => by
    have h9 := hg (k : Int) (by omega) hk
    rw [Int.toNat_natCast] at h9
    exact ⟨e k, h9.1, by omega⟩
  exact ⟨fun i hi => by rw [gh_op_fu hf (fun k hk => g k (by omega))]; exact h.1 i hi, by rw [gh_op_fu hf (fun k hk => g k (by omega))]; exact h.2⟩
theorem gh_TRE_fr {I Iₚ : gr_I} (h : gh_TRE I) (hf : ∀ j : Nat, (j : Int) < I 4 1 → Iₚ 12 j = I 12 j) (h4 : I 4 1 ≤ Iₚ 4 1) (e4 : ∀ p, p < 8 → Iₚ 124 p = I 124 p) (e : ∀ p k, p < 8 → Iₚ (115 + p) k = I (115 + p) k) : gh_TRE Iₚ := fun p hp => by
  rw [e4 p hp]
  exact (h p hp).imp id (fun g => ⟨gh_wtr_fu g.1 g.2 hf (fun k => e p k hp), fun k a b => by
    rw [e p _ hp]
    have h9 := g.2 k a b
    omega⟩)
/-- rows of the chart and the ranking stay; lins and words only grow -/
theorem gh_RK1_fr {sh shₚ : gz_Sh} {ro ro' : Nat → Nat} {A Aₚ : gc_A} {t : Nat} {I Iₚ : gr_I} (h : gh_RK1 A I t) (e : ∀ q j : Nat, 48 ≤ q → q ≤ 73 → Iₚ q j = I q j) (hL : gc_Ls sh ro A t I) (h13 : I t 13 ≤ Iₚ t 13) (h11 : I t 11 ≤ Iₚ t 11) (hA : ∀ j : Nat, (j : Int) < I t 13 → Aₚ (t + 16) j = A (t + 16) j) (hr : ∀ q, gc_isLin sh ro A q → 144 ≤ q → ∀ d k, d ≤ 8 → Iₚ (q + d) k = I (q + d) k) (h69 : ∀ e, 0 ≤ I 69 e) : gh_RK1 Aₚ Iₚ t := by
  obtain ⟨a, b, c, d, f⟩ := h
  have ls := gh_lsl_eq hL hA hr
  have c2 := gh_WA_cg c a ls
  refine ⟨fun k hk => ?_, fun k hk => ?_, gc_WA_fr c2 (e 48 6 (by decide) (by decide)) (Int.le_of_eq (e 48 3 (by decide) (by decide)).symm) (fun k => e 53 k (by decide) (by decide)) (fun k => e 54 k (by decide) (by decide)) (fun k => e 55 k (by decide) (by decide)), ?_, ?_⟩
  · rw [e 48 6 (by decide) (by decide)] at hk
    rw [e 54 k (by decide) (by decide)]
    exact (a k hk).imp id (fun h9 => by omega)
  · rw [e 48 6 (by decide) (by decide)] at hk
    rw [e 54 k (by decide) (by decide)]
    have h9 := b k hk
    omega
  · rw [e 48 10 (by decide) (by decide), e 49 _ (by decide) (by decide), e 50 _ (by decide) (by decide), e 48 3 (by decide) (by decide)]
    exact d
  · rw [e 61 4 (by decide) (by decide)]
    exact f.imp id (fun g => ⟨gc_LH_fr (gh_LH_cg g.1 a h69 ls) (e 48 6 (by decide) (by decide)) (e 48 3 (by decide) (by decide)) (fun k => e 54 k (by decide) (by decide)) (fun k => e 55 k (by decide) (by decide)) (fun k => e 67 k (by decide) (by decide)) (fun k => e 69 k (by decide) (by decide)) (fun k => e 70 k (by decide) (by decide)), gc_TH_fr g.2 (e 61 15 (by decide) (by decide)) (e 48 3 (by decide) (by decide)) (fun k => e 67 k (by decide) (by decide)) (fun k => e 72 k (by decide) (by decide))⟩)
/-- what a module leaves -/
theorem gh_HC_m {sh shₚ : gz_Sh} {ro ro' : Nat → Nat} {A Aₚ : gc_A} {I Iₚ : gr_I} {J Jₚ : gr_J} (hs : gh_HS sh ro I J A) (hs' : gh_HS shₚ ro' Iₚ Jₚ Aₚ) (ao : gh_AO sh ro I A shₚ ro' Iₚ Aₚ) (hc : gh_HC sh ro A I) (hK : ∀ i t : Nat, (i : Int) < I 8 1 → A 10 i = some t → Aₚ 10 i = some t → (∀ d j : Nat, 17 ≤ d → d < 25 → Iₚ (t + d) j = I (t + d) j) → I (t + 17) 8 ≤ I t 11 → gh_KI I t → gh_KI Iₚ t) : gh_HC shₚ ro' Aₚ Iₚ := by
  obtain ⟨c1, c2, c3, c4, c5, c6, c7, c8⟩ := hc
  obtain ⟨a1, a2, a3, a4, a5, a6, a7, a8, a9, a10⟩ := ao
  have hb := hs.1
  have hT := hs.2.2.2.1
  have hT' := hs'.2.2.2.1
  have e : ∀ q j : Nat, 48 ≤ q → q < 144 → Iₚ q j = I q j := fun q j h1 h2 => (a2 q j h2).resolve_left (fun h => by unfold gh_mw at h; (/-0-/first | omega | (simp only [gz_hd] at *; omega)))
  have h81 : 0 ≤ I 8 1 ∧ I 8 1 ≤ 8 := gc_in hs.2.1 (gc_bR hb (by decide) rfl) rfl rfl
  have wc : ∀ i t : Nat, i < 8 → Aₚ 10 i = some t → 0 ≤ Iₚ t 11 := fun i t hi ht => by
    have Tt := (hT'.1 i t hi ht).1
    exact (show (0 : Int) ≤ Iₚ t 11 ∧ Iₚ t 11 ≤ 64 from gc_in hs'.2.1 Tt.2.1 rfl rfl).1
  have kb : ∀ i t : Nat, i < 8 → Aₚ 10 i = some t → 0 ≤ Iₚ t 6 ∧ ∀ k : Nat, -1 ≤ Iₚ (t + 17 + 4) k := fun i t hi ht => by
    have Tt := (hT'.1 i t hi ht).1
    obtain ⟨b0, b1, b2, b3, b4, b5, b6, b7, b8, b9, b10, b11, b12, b13, b14, b15, b16, b17, b18, b19, b20, b21, b22, b23, b24, b25, b26, b27, b28, b29, b30, b31, b32, b33, b34, b35, b36, b37, b38, b39, b40, b41, b42, b43, b44⟩ := id Tt
    obtain ⟨f0_, f1_, f2_, f3_, f4_, f5_, f6_, f7_, f8_, f9_, f10_, f11_, f12_, f13_, f14_, f15_, f16_, f17_, f18_, f19_, f20_, f21_, f22_, f23_, f24_, f25_, f26_, f27_, f28_, f29_, f30_, f31_, f32_⟩ := id b44
    exact ⟨(show (0 : Int) ≤ Iₚ t 6 ∧ Iₚ t 6 ≤ 24 from gc_in hs'.2.1 b1 rfl rfl).1, fun k => (show (-1 : Int) ≤ Iₚ (t + 17 + 4) k ∧ Iₚ (t + 17 + 4) k ≤ 1535 from gc_in hs'.2.1 f21_ rfl rfl).1⟩
  refine ⟨gc_FN_fr c1 (fun k => e 49 k (by decide) (by decide)) (fun k => e 50 k (by decide) (by decide)), fun j hj hk => ?_, by rw [e 86 2 (by decide) (by decide), e 86 4 (by decide) (by decide)]; exact c3, ?_, fun i hi => ?_, fun i t hi ht => ?_, ?_, ?_⟩
  · rw [e 49 j (by decide) (by decide), e 50 j (by decide) (by decide)]
    exact c2 j hj (by (/-1-/first | omega | (simp only [gz_hd] at *; omega)))
  · rw [e 100 2 (by decide) (by decide), e 100 1 (by decide) (by decide)]
    (/-2-/first | omega | (simp only [gz_hd] at *; omega))
  · rw [e 100 9 (by decide) (by decide)] at hi
    obtain ⟨q, n, s1, s2, s3, s4, s5, s6⟩ := c5 i hi
    exact ⟨q, n, (a10 i).trans s1, gc_x_sh a1 s2, gc_x_ro a1 s2 s3, s4, s5, s6⟩
  · cases h0 : A 10 i with
    | none =>
      obtain ⟨g1, g2⟩ := a9 i t hi h0 ht
      have w := wc i t hi ht
      have g3 := g2.1
      have f9 : gc_FB (t + 17) (24 * Iₚ (t + 17) 8) Iₚ := by
        rw [g3]
        exact g1
      exact ⟨f9, fun _ => by (/-3-/first | omega | (simp only [gz_hd] at *; omega)), fun _ => by (/-4-/first | omega | (simp only [gz_hd] at *; omega)), g2.2.1, fun _ => gh_KI_e f9 (by (/-5-/first | omega | (simp only [gz_hd] at *; omega))) (by have := g2.2.2; (/-6-/first | omega | (simp only [gz_hd] at *; omega))) (kb i t hi ht).1 (kb i t hi ht).2, fun _ => by have := g2.2.2; (/-7-/first | omega | (simp only [gz_hd] at *; omega))⟩
    | some u =>
      cases (a7 i u hi h0).symm.trans ht
      obtain ⟨f1, f2, f3, f4, f5⟩ := c6 i t hi h0
      have rg := gh_rng hT hi h0
      have w := wc i t hi ht
      have fr : ∀ d j : Nat, 17 ≤ d → d < 25 → Iₚ (t + d) j = I (t + d) j := fun d j h17 h25 => by
        rcases a3 (t + d) j (by (/-8-/first | omega | (simp only [gz_hd] at *; omega))) (by (/-9-/first | omega | (simp only [gz_hd] at *; omega))) with ⟨i9, u9, e1, e2, e3, e4⟩ | h
        · have dj := gc_dj_TT (hT'.1 i9 u9 e1 e2).1 (hT'.1 i t hi ht).1
          (/-10-/first | omega | (simp only [gz_hd] at *; omega))
        · exact h
      have f8 := gz_hi (fr 17 8 (by decide) (by decide))
      have f9 : gc_FB (t + 17) (24 * Iₚ (t + 17) 8) Iₚ := by
        rw [(gz_sh f8)]
        exact gc_FB_fr f1 (fun k => fr 21 k (by decide) (by decide)) (fun k => fr 20 k (by decide) (by decide))
      have f99 := gz_hi (fr 17 9 (by decide) (by decide))
      refine ⟨f9, fun h => ?_, fun h => ?_, by rw [fr 17 6 (by decide) (by decide), fr 17 7 (by decide) (by decide)]; exact f4, fun h => ?_, fun h => ?_⟩
      · by_cases hu : (i : Int) < I 8 1
        · have h1 := f2 hu
          have h2 := (a8 i t hu h0).2.1
          (/-11-/first | (have o1 := gz_sh f8; omega) | (simp only [gz_hd] at *; omega))
        · have h1 := f3 (by (/-12-/first | omega | (simp only [gz_hd] at *; omega)))
          (/-13-/first | (have o1 := gz_sh f8; omega) | (simp only [gz_hd] at *; omega))
      · have h1 := f3 (by (/-14-/first | omega | (simp only [gz_hd] at *; omega)))
        (/-15-/first | (have o1 := gz_sh f8; omega) | (simp only [gz_hd] at *; omega))
      · by_cases hu : (i : Int) < I 8 1
        · exact hK i t hu h0 ht fr (f2 hu) (f5.1 hu)
        · have h1 := f3 (by (/-16-/first | omega | (simp only [gz_hd] at *; omega)))
          have h2 := f5.2 (by (/-17-/first | omega | (simp only [gz_hd] at *; omega)))
          exact gh_KI_e f9 (by (/-18-/first | (have o1 := gz_sh f8; omega) | (simp only [gz_hd] at *; omega))) (by (/-19-/first | (have o1 := gz_sh f99; omega) | (simp only [gz_hd] at *; omega))) (kb i t hi ht).1 (kb i t hi ht).2
      · have h2 := f5.2 (by (/-20-/first | omega | (simp only [gz_hd] at *; omega)))
        (/-21-/first | (have o1 := gz_sh f99; omega) | (simp only [gz_hd] at *; omega))
  · exact gh_TRE_fr c7 (fun j hj => (a4.2.1 j hj).2) a4.1 (fun p _ => e 124 p (by decide) (by decide)) (fun p k hp => e (115 + p) k (by (/-22-/first | omega | (simp only [gz_hd] at *; omega))) (by (/-23-/first | omega | (simp only [gz_hd] at *; omega))))
  · rcases c8 with ⟨d1, d2⟩ | ⟨d1, i, t, d2, d3, d4, d5⟩
    · exact Or.inl ⟨(e 61 3 (by decide) (by decide)).trans d1, (e 61 15 (by decide) (by decide)).trans d2⟩
    · have ht' := a7 i t (by (/-24-/first | omega | (simp only [gz_hd] at *; omega))) d3
      obtain ⟨u, w1, w2, w3, w4, w5⟩ := hs.2.2.2.2.1 i d2
      cases w1.symm.trans d3
      obtain ⟨o1, o2, o3, o4⟩ := a8 i t d2 d3
      refine Or.inr ⟨(e 61 3 (by decide) (by decide)).trans d1, i, t, by (/-25-/first | omega | (simp only [gz_hd] at *; omega)), ht', (e 61 2 (by decide) (by decide)).trans d4, gh_RK1_fr (shₚ := shₚ) (ro' := ro') d5 (fun q j h1 h2 => e q j h1 (by (/-26-/first | omega | (simp only [gz_hd] at *; omega)))) w2 o1 o2 o3 (fun q g1 g2 d k hd => ?_) (fun k => (show (0 : Int) ≤ I 69 k ∧ I 69 k ≤ 8999 from gc_in hs.2.1 (gc_bR hb (by decide) rfl) rfl rfl).1)⟩
      rcases a3 (q + d) k (by (/-27-/first | omega | (simp only [gz_hd] at *; omega))) (by have h9 := gc_x_lt (gc_linS8 g1); (/-28-/first | omega | (simp only [gz_hd] at *; omega))) with ⟨i9, t9, e1, e2, e3, e4⟩ | h
      · have h8 := gc_dj_LT (gc_isLin_x a1 g1) (hT'.1 i9 t9 e1 e2).1
        (/-29-/first | omega | (simp only [gz_hd] at *; omega))
      · exact h
/-- what touches neither the store nor lins keeps the store -/
theorem gh_HS_o {sh : gz_Sh} {ro : Nat → Nat} {I Iₚ : gr_I} {J Jₚ : gr_J} {A : gc_A} (hs : gh_HS sh ro I J A) (hIₚ : gc_Inv ro Iₚ) (hok' : gc_OK sh Iₚ Jₚ A) (g : ∀ q j : Nat, ((22 ≤ q ∧ q < 144) ∨ q = 0 ∨ ∃ i t, i < 8 ∧ A 10 i = some t ∧ t + 17 ≤ q ∧ q < t + 25) ∨ Iₚ q j = I q j) : gh_HS sh ro Iₚ Jₚ A := by
  have hs0 := hs
  obtain ⟨hb, hI, hok, hT, hU, hM, hc⟩ := hs
  have h81 : 0 ≤ I 8 1 ∧ I 8 1 ≤ 8 := gc_in hI (gc_bR hb (by decide) rfl) rfl rfl
  have fz : ∀ q j : Nat, q < 22 → ¬ q = 0 → Iₚ q j = I q j := fun q j h1 h0 => (g q j).resolve_left (fun h => by
    rcases h with h | h | ⟨i, t, e1, e2, e3, e4⟩
    · omega
    · omega
    · have := (hT.1 i t e1 e2).2.1
      omega)
  have tg : ∀ i t : Nat, i < 8 → A 10 i = some t → ∀ d j : Nat, d < 17 → Iₚ (t + d) j = I (t + d) j := fun i t hi ht d j hd => (g (t + d) j).resolve_left (fun h => by
    have Tt := hT.1 i t hi ht
    rcases h with h | h | ⟨i2, u, e1, e2, e3, e4⟩
    · omega
    · omega
    · have dj := gc_dj_TT (hT.1 i2 u e1 e2).1 Tt.1
      omega)
  have ln : ∀ q, gc_isLin sh ro A q → 144 ≤ q → ∀ d k, d ≤ 8 → Iₚ (q + d) k = I (q + d) k := fun q g1 g2 d k hd => (g (q + d) k).resolve_left (fun h => by
    rcases h with h | h | ⟨i2, u, e1, e2, e3, e4⟩
    · omega
    · omega
    · have dj := gc_dj_LT g1 (hT.1 i2 u e1 e2).1
      omega)
  have fu : gh_FU I Iₚ := gh_FU_of (fz 4 1 (by decide) (by decide)) (fun j => fz 11 j (by decide) (by decide)) (fun j => fz 12 j (by decide) (by decide)) (fun j => fz 13 j (by decide) (by decide))
  have h12 : ∀ k, 0 ≤ I 12 k ∧ I 12 k ≤ 4 := fun k => gc_in hI (gc_bR hb (by decide) rfl) rfl rfl
  refine ⟨hb, hIₚ, hok', ⟨fun i t hi ht => ?_, hT.2⟩, fun i hi => ?_, gh_MS_st hM fu (fun j => fz 15 j (by decide) (by decide)) (fun j => fz 16 j (by decide) (by decide)), by rw [fz 1 5 (by decide) (by decide), fz 8 1 (by decide) (by decide)]; exact hc⟩
  · have Tt := hT.1 i t hi ht
    exact ⟨Tt.1, Tt.2.1, gc_sc_fr Tt.2.2 (fun k => tg i t hi ht 10 k (by decide))⟩
  · rw [fz 8 1 (by decide) (by decide)] at hi
    obtain ⟨t, u1, u2, u3, u4, u5⟩ := hU i hi
    have tt := tg i t (by omega) u1
    have e13 := tt 0 13 (by decide)
    have e11 := tt 0 11 (by decide)
    rw [Nat.add_zero] at e13 e11
    refine ⟨t, u1, gc_Ls_fr u2 e13 ln, by rw [tt 3 1 (by decide), tt 1 1 (by decide)]; exact u3, fun j q hj hq => ?_, fun w hw => ?_⟩
    · rw [e13] at hj
      obtain ⟨q9, p1, p2, p3, _, _⟩ := u2 j hj
      cases p1.symm.trans hq
      exact gh_LN_st (u4 j _ hj hq) (ln _ p2 p3) fu h12
    · rw [e11] at hw
      rw [tt 15 _ (by decide), fz 12 _ (by decide) (by decide), fz 4 1 (by decide) (by decide)]
      exact u5 w hw
