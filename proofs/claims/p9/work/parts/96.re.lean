def gh_QSp (B : Int) (sh : gz_Sh) (ro : Nat → Nat) (I : gr_I) (A : gc_A) (β : Int → Int) (η p : Int) (Ir : gr_I) (Jr : gr_J) (v : gz_S) (a s : Nat) : Prop := ∃ (z : Int) (shₚ : gz_Sh) (ro' : Nat → Nat) (Iₚ : gr_I) (Jₚ : gr_J) (Aₚ : gc_A), gz_fin cX6_readStatement (some .boolean) v (some (.inl z)) ∧ v.2.2.2.1 = shₚ ∧ v.2.2.2.2 = gc_h shₚ Iₚ Jₚ Aₚ ∧ gh_RS B sh ro I A z a s shₚ ro' Iₚ Jₚ Aₚ ∧ (gs_SP β η p Ir Jr z Iₚ Jₚ Aₚ ∧ gs_SCV β η p Ir Jr I A z Iₚ Aₚ)
theorem gs_cn_0 {β : Int → Int} {N : Int} : ∀ (m : Nat) (q : Int), 0 ≤ gs_cn β N m q
  | 0, _ => by
    show (0 : Int) ≤ 0
    decide
  | m + 1, q => by
    have h := gs_cn_0 (β := β) (N := N) m (gs_X β N q)
    show 0 ≤ (if gs_T β N q = 1 then 1 + gs_cn β N m (gs_X β N q) else 0)
    by_cases c : gs_T β N q = 1
    · rw [if_pos c]
      omega
    · rw [if_neg c]
      exact Int.le_refl _
theorem gs_fz9 {I Iₚ : gr_I} {q j : Nat} (h : ((q = 39 ∧ j = 3) ∨ (q = 39 ∧ j = 4) ∨ (q = 23 ∧ j = 5) ∨ (q = 23 ∧ j = 6) ∨ (q = 23 ∧ j = 7) ∨ (q = 23 ∧ j = 8) ∨ (q = 1 ∧ j = 5)) ∨ Iₚ q j = I q j) (a : ¬ q = 39) (b : ¬ q = 23) (c : ¬ (q = 1 ∧ j = 5)) : Iₚ q j = I q j := by
  rcases h with h | h
  · rcases h with h | h | h | h | h | h | h
    · exact absurd h.1 a
    · exact absurd h.1 a
    · exact absurd h.1 b
    · exact absurd h.1 b
    · exact absurd h.1 b
    · exact absurd h.1 b
    · exact absurd h c
  · exact h
/-- the store's tables, out of such frames -/
theorem gs_cG_9 {I Iₚ : gr_I} {J Jₚ : gr_J} (f : ∀ q j : Nat, ¬ q = 39 → ¬ q = 23 → ¬ (q = 1 ∧ j = 5) → Iₚ q j = I q j) (g : ∀ q j : Nat, ¬ q = 23 → Jₚ q j = J q j) (c : Iₚ 1 5 = I 1 5) : gs_cG I J Iₚ Jₚ :=
  ⟨⟨f 2 1 (by decide) (by decide) (by decide), f 4 1 (by decide) (by decide) (by decide), f 6 1 (by decide) (by decide) (by decide), f 8 1 (by decide) (by decide) (by decide)⟩, fun k => ⟨g 3 k (by decide), g 5 k (by decide), g 7 k (by decide), g 9 k (by decide), g 18 k (by decide)⟩, ⟨f 1 13 (by decide) (by decide) (by decide), c⟩, fun k => ⟨f 11 k (by decide) (by decide) (fun h => absurd h.1 (by first | exact gz_ne rfl | decide)), f 12 k (by decide) (by decide) (fun h => absurd h.1 (by first | exact gz_ne rfl | decide)), f 13 k (by decide) (by decide) (fun h => absurd h.1 (by first | exact gz_ne rfl | decide)), f 15 k (by decide) (by decide) (fun h => absurd h.1 (by first | exact gz_ne rfl | decide)), f 19 k (by decide) (by decide) (fun h => absurd h.1 (by first | exact gz_ne rfl | decide)), f 14 k (by decide) (by decide) (fun h => absurd h.1 (by first | exact gz_ne rfl | decide))⟩⟩
/-- a new TONGUE: its tables are empty, on both sides -/
theorem gs_RT_0 {i t : Nat} {Ir : gr_I} {Jr : gr_J} {I : gr_I} {J : gr_J} {A : gc_A} (c : I (t + 1) 1 = 0 ∧ I (t + 3) 1 = 0 ∧ I (t + 7) 1 = 0 ∧ I (t + 11) 1 = 0 ∧ I t 6 = 0 ∧ I t 11 = 0 ∧ I t 13 = 0) (r : Ir 13 i = 0 ∧ Ir 14 i = 0 ∧ Ir 15 i = 0 ∧ Ir 16 i = 0 ∧ Ir 17 i = 0 ∧ Ir 18 i = 0 ∧ Ir 19 i = 0) : gs_RT (i : Int) t Ir Jr I J A := by
  obtain ⟨c1, c2, c3, c4, c5, c6, c7⟩ := c
  obtain ⟨r1, r2, r3, r4, r5, r6, r7⟩ := r
  have e : Int.toNat (i : Int) = i := by omega
  unfold gs_RT gs_T1 gs_T3 gs_T7 gs_TP gs_TL
  rw [e, c1, c2, c3, c4, c5, c6, c7, r1, r2, r3, r4, r5, r6, r7]
  refine ⟨⟨rfl, fun k h => absurd h (by omega)⟩, ⟨⟨rfl, fun k h => absurd h (by omega)⟩, fun k h0 h1 => absurd h1 (by omega)⟩, ⟨rfl, fun k h => absurd h (by omega)⟩, rfl, ⟨⟨rfl, fun k h => absurd h (by omega)⟩, fun k h0 h1 => absurd h1 (by omega)⟩, rfl, rfl, fun k q h => absurd h (by omega), fun x _ => ?_, fun k h => absurd h (by omega)⟩
  show (0 : Int) ≤ 4
  decide
set_option maxHeartbeats 8000000 in
theorem gs_SP_80 {sh shₚ : gz_Sh} {ro ro' : Nat → Nat} {I Iₚ : gr_I} {J Jₚ : gr_J} {A Aₚ : gc_A} {Ir : gr_I} {Jr : gr_J} {β : Int → Int} {η p z B : Int} {a s : Nat} (hs : gh_HS sh ro I J A) (yR : gs_R I J A Ir Jr) (fA : 0 ≤ gs_A β η (gs_X β η p)) (eK : gs_rn β η p = gs_W 80) (eC : gs_stc β η Ir Jr p = gs_tong β η Ir Jr (I 39 5) (gs_X β η p)) (hR : gh_RS B sh ro I A z a s shₚ ro' Iₚ Jₚ Aₚ) (hP : gs_RTp β η (gs_X β η p) Ir Jr sh I J A z Iₚ Jₚ Aₚ) : gs_SP β η p Ir Jr z Iₚ Jₚ Aₚ := by
  unfold gs_SP
  rw [eC]
  refine ⟨fun h9 => ?_, fun h9 => ?_⟩
  · obtain ⟨c1, c2, rfl, c4, c5, c6⟩ := hP.1 h9
    have f : ∀ q j : Nat, ¬ q = 39 → ¬ q = 23 → ¬ (q = 1 ∧ j = 5) → Iₚ q j = I q j := fun q j x y z => gs_fz9 (c5 q j) x y z
    have g : ∀ q j : Nat, ¬ q = 23 → Jₚ q j = J q j := fun q j x => (c6 q j).resolve_left (fun h => x h.1)
    refine ⟨c1, c2, gs_R_same yR (gs_cG_9 f g c4) (fun i t hi ht => ⟨ht, ?_⟩)⟩
    exact gs_ct_s hs (fun q j h => f q j (by (/-0-/first | omega | (simp only [gz_hd] at *; omega))) (by (/-1-/first | omega | (simp only [gz_hd] at *; omega))) (by (/-2-/first | omega | (simp only [gz_hd] at *; omega)))) (fun q j h => g q j (by (/-3-/first | omega | (simp only [gz_hd] at *; omega)))) i t hi ht
  · obtain ⟨c1, c18, hc⟩ := hP.2 h9
    refine ⟨c1.1, c1.2, c18, fun Irₚ Jrₚ hU => ?_⟩
    obtain ⟨⟨u1, u2⟩, ts⟩ := gs_STU_k hU 80 (by decide) eK
    have ra : gs_rA Ir Jr Irₚ Jrₚ := gs_rA_ts ts rfl
    obtain ⟨rn2, rn4, rn6, rn8, rgf, rgk, rc5, rT, r00⟩ := id yR
    rcases hc with ⟨l0, l5, rfl, c5, c6⟩ | ⟨l0, l7, l5, pu, t, G, hA, hA9, hAf, hz, c5, c6⟩
    · obtain ⟨⟨v1, v2⟩, v6⟩ := u2 l0
      have f : ∀ q j : Nat, ¬ q = 39 → ¬ q = 23 → ¬ (q = 1 ∧ j = 5) → Iₚ q j = I q j := fun q j x y z => gs_fz9 (c5 q j) x y z
      have g : ∀ q j : Nat, ¬ q = 23 → Jₚ q j = J q j := fun q j x => (c6 q j).resolve_left (fun h => x h.1)
      have fr : ∀ q j : Nat, ¬ q = 39 → ¬ q = 23 → ¬ q = 1 → Iₚ q j = I q j := fun q j x y z => f q j x y (fun h => z h.1)
      refine ⟨gs_GN_fr rn2 (fr 2 1 (by decide) (by decide) (by decide)) (fun k => g 3 k (by decide)) (ts.1 2 rfl rfl) (ts.2.2 2 rfl rfl), gs_GN_fr rn4 (fr 4 1 (by decide) (by decide) (by decide)) (fun k => g 5 k (by decide)) (ts.1 3 rfl rfl) (ts.2.2 3 rfl rfl), gs_GN_fr rn6 (fr 6 1 (by decide) (by decide) (by decide)) (fun k => g 7 k (by decide)) (ts.1 4 rfl rfl) (ts.2.2 4 rfl rfl), gs_GN_fr rn8 (fr 8 1 (by decide) (by decide) (by decide)) (fun k => g 9 k (by decide)) v1 v2, gs_GF_fr rgf (f 1 13 (by decide) (by decide) (by decide)) (fun k => g 18 k (by decide)) (fun k => fr 19 k (by decide) (by decide) (by decide)) (ts.1 5 rfl rfl) (fun k => ⟨ts.2.2 5 rfl rfl k, ts.2.1 11 rfl rfl k, ts.2.1 12 rfl rfl k⟩), gs_GK_fr rgk (fr 4 1 (by decide) (by decide) (by decide)) (fun k => fr 11 k (by decide) (by decide) (by decide)) (fun k => fr 12 k (by decide) (by decide) (by decide)) (fun k => fr 13 k (by decide) (by decide) (by decide)) (fun k => fr 15 k (by decide) (by decide) (by decide)) (fun k => ⟨ts.2.1 6 rfl rfl k, ts.2.1 7 rfl rfl k, ts.2.1 8 rfl rfl k, ts.2.1 10 rfl rfl k⟩) (fun k => fr 14 k (by decide) (by decide) (by decide)) (fun k => ts.2.1 9 rfl rfl k), l5.trans v6.symm, fun i t hi ht => ?_, gs_G0_fr r00 (by rw [v1]; exact Int.le_refl _) (fun i _ _ => ra.1 i)⟩
      have e8 : Iₚ 8 1 = I 8 1 := fr 8 1 (by decide) (by decide) (by decide)
      exact gs_RT_fr (rT i t (by (/-4-/first | omega | (simp only [gz_hd] at *; omega))) ht) (gs_ct_s hs (fun q j h => fr q j (by (/-5-/first | omega | (simp only [gz_hd] at *; omega))) (by (/-6-/first | omega | (simp only [gz_hd] at *; omega))) (by (/-7-/first | omega | (simp only [gz_hd] at *; omega)))) (fun q j h => g q j (by (/-8-/first | omega | (simp only [gz_hd] at *; omega)))) i t (by (/-9-/first | omega | (simp only [gz_hd] at *; omega))) ht) ra
    · obtain ⟨v1, v6⟩ := u1 l0
      have h144 := gc_Base_len hs.1
      have i8 : 0 ≤ I 8 1 ∧ I 8 1 ≤ 8 := gc_in hs.2.1 (gc_bR hs.1 (by decide) rfl) rfl rfl
      have t1 := gz_hi (gs_al_p (gs_t_tong c1.1 fA))
      have pu3 := pu (show I 8 1 < ((8 : Nat) : Int) by (/-10-/first | omega | (simp only [gz_hd] at *; omega)))
      have fr : ∀ q j : Nat, q < 144 → ¬ q = 39 → ¬ q = 23 → ¬ (q = 1 ∧ j = 5) → ¬ q = 8 → Iₚ q j = I q j := fun q j x y z w v => (c5 q j (by (/-11-/first | omega | (simp only [gz_hd] at *; omega)))).resolve_left (by (/-12-/first | omega | (simp only [gz_hd] at *; omega)))
      have g : ∀ q j : Nat, q < sh.length → ¬ q = 23 → ¬ q = 9 → Jₚ q j = J q j := fun q j x y z => (c6 q j x).resolve_left (by (/-13-/first | omega | (simp only [gz_hd] at *; omega)))
      have e8 := rn8.1
      refine ⟨gs_GN_fr rn2 (fr 2 1 (by decide) (by decide) (by decide) (by decide) (by decide)) (fun k => g 3 k (by (/-14-/first | omega | (simp only [gz_hd] at *; omega))) (by decide) (by decide)) (ts.1 2 rfl rfl) (ts.2.2 2 rfl rfl), gs_GN_fr rn4 (fr 4 1 (by decide) (by decide) (by decide) (by decide) (by decide)) (fun k => g 5 k (by (/-15-/first | omega | (simp only [gz_hd] at *; omega))) (by decide) (by decide)) (ts.1 3 rfl rfl) (ts.2.2 3 rfl rfl), gs_GN_fr rn6 (fr 6 1 (by decide) (by decide) (by decide) (by decide) (by decide)) (fun k => g 7 k (by (/-16-/first | omega | (simp only [gz_hd] at *; omega))) (by decide) (by decide)) (ts.1 4 rfl rfl) (ts.2.2 4 rfl rfl), gs_GN_put (n := 8) rn8 i8.1 (by (/-17-/first | omega | (simp only [gz_hd] at *; omega))) pu v1 (gz_sh t1), gs_GF_fr rgf (fr 1 13 (by decide) (by decide) (by decide) (by decide) (by decide)) (fun k => g 18 k (by (/-18-/first | omega | (simp only [gz_hd] at *; omega))) (by decide) (by decide)) (fun k => fr 19 k (by decide) (by decide) (by decide) (fun h => absurd h.1 (by first | exact gz_ne rfl | decide)) (by decide)) (ts.1 5 rfl rfl) (fun k => ⟨ts.2.2 5 rfl rfl k, ts.2.1 11 rfl rfl k, ts.2.1 12 rfl rfl k⟩), gs_GK_fr rgk (fr 4 1 (by decide) (by decide) (by decide) (by decide) (by decide)) (fun k => fr 11 k (by decide) (by decide) (by decide) (fun h => absurd h.1 (by first | exact gz_ne rfl | decide)) (by decide)) (fun k => fr 12 k (by decide) (by decide) (by decide) (fun h => absurd h.1 (by first | exact gz_ne rfl | decide)) (by decide)) (fun k => fr 13 k (by decide) (by decide) (by decide) (fun h => absurd h.1 (by first | exact gz_ne rfl | decide)) (by decide)) (fun k => fr 15 k (by decide) (by decide) (by decide) (fun h => absurd h.1 (by first | exact gz_ne rfl | decide)) (by decide)) (fun k => ⟨ts.2.1 6 rfl rfl k, ts.2.1 7 rfl rfl k, ts.2.1 8 rfl rfl k, ts.2.1 10 rfl rfl k⟩) (fun k => fr 14 k (by decide) (by decide) (by decide) (fun h => absurd h.1 (by first | exact gz_ne rfl | decide)) (by decide)) (fun k => ts.2.1 9 rfl rfl k), by rw [l5, v6, e8], fun i t2 hi ht => ?_, gs_G0_fr r00 (by rw [v1.1]; (/-19-/first | omega | (simp only [gz_hd] at *; omega))) (fun i _ _ => ra.1 i)⟩
      by_cases c : i = Int.toNat (I 8 1)
      · rw [c] at ht
        have et : t = t2 := Option.some.inj (hA.symm.trans ht)
        rw [← et]
        refine gs_RT_0 hz ?_
        obtain ⟨d1, d2, d3, d4, d5, d6, d7⟩ := ra.1 i
        rw [d1, d2, d3, d4, d5, d6, d7]
        exact r00 i (by (/-20-/first | omega | (simp only [gz_hd] at *; omega))) (by (/-21-/first | omega | (simp only [gz_hd] at *; omega)))
      · have hi2 : (i : Int) < I 8 1 := by (/-22-/first | omega | (simp only [gz_hd] at *; omega))
        have ht2 : A 10 i = some t2 := (hAf 10 i (by (/-23-/first | omega | (simp only [gz_hd] at *; omega))) (fun h => c h.2)).symm.trans ht
        obtain ⟨iT, G2⟩ := gs_hT9 hs hi2 ht2
        have bT := gs_bT_of hs.2.1 iT
        obtain ⟨S_t, R_t, B_t, A_t_0, h_t_1, A_t_1, h_t_3, A_t_2, S_t_5, R_t_5, B_t_5, A_t_3, S_t_6, R_t_6, B_t_6, A_t_4, h_t_7, A_t_5, S_t_9, R_t_9, B_t_9, A_t_7, S_t_10, R_t_10, B_t_10, A_t_8, h_t_11, A_t_9, S_t_13, R_t_13, B_t_13, A_t_10, S_t_14, R_t_14, B_t_14, A_t_12, S_t_15, R_t_15, B_t_15, A_t_14, S_t_16, R_t_16, B_t_16, A_t_15, h_t_17⟩ := id iT
        have l16 := gc_x_lt S_t_16
        have dj : t2 + 17 ≤ t ∨ t + 17 ≤ t2 := by
          rcases hA9 with h | h
          · have hT := hs.2.2.2.1.1 (Int.toNat (I 8 1)) t (by (/-24-/first | omega | (simp only [gz_hd] at *; omega))) h
            rcases gc_dj_TT iT hT.1 with e | e | e
            · rw [e] at ht2
              exact absurd (hs.2.2.2.1.2 i (Int.toNat (I 8 1)) t (by (/-25-/first | omega | (simp only [gz_hd] at *; omega))) (by (/-26-/first | omega | (simp only [gz_hd] at *; omega))) ht2 h) c
            · (/-27-/first | omega | (simp only [gz_hd] at *; omega))
            · (/-28-/first | omega | (simp only [gz_hd] at *; omega))
          · (/-29-/first | omega | (simp only [gz_hd] at *; omega))
        have fz : ∀ q j : Nat, t2 ≤ q → q < t2 + 17 → Iₚ q j = I q j := fun q j h1 h2 => (c5 q j (by (/-30-/first | omega | (simp only [gz_hd] at *; omega)))).resolve_left (by (/-31-/first | omega | (simp only [gz_hd] at *; omega)))
        have gz : ∀ q j : Nat, t2 ≤ q → q < t2 + 17 → Jₚ q j = J q j := fun q j h1 h2 => g q j (by (/-32-/first | omega | (simp only [gz_hd] at *; omega))) (by (/-33-/first | omega | (simp only [gz_hd] at *; omega))) (by (/-34-/first | omega | (simp only [gz_hd] at *; omega)))
        refine gs_RT_fr (rT i t2 hi2 ht2) ⟨⟨fz _ _ (by (/-35-/first | omega | (simp only [gz_hd] at *; omega))) (by (/-36-/first | omega | (simp only [gz_hd] at *; omega))), fun k => gz _ _ (by (/-37-/first | omega | (simp only [gz_hd] at *; omega))) (by (/-38-/first | omega | (simp only [gz_hd] at *; omega)))⟩, ⟨fz _ _ (by (/-39-/first | omega | (simp only [gz_hd] at *; omega))) (by (/-40-/first | omega | (simp only [gz_hd] at *; omega))), fun k => gz _ _ (by (/-41-/first | omega | (simp only [gz_hd] at *; omega))) (by (/-42-/first | omega | (simp only [gz_hd] at *; omega))), fun k => fz _ _ (by (/-43-/first | omega | (simp only [gz_hd] at *; omega))) (by (/-44-/first | omega | (simp only [gz_hd] at *; omega))), fun k => fz _ _ (by (/-45-/first | omega | (simp only [gz_hd] at *; omega))) (by (/-46-/first | omega | (simp only [gz_hd] at *; omega)))⟩, ⟨fz _ _ (by (/-47-/first | omega | (simp only [gz_hd] at *; omega))) (by (/-48-/first | omega | (simp only [gz_hd] at *; omega))), fun k => gz _ _ (by (/-49-/first | omega | (simp only [gz_hd] at *; omega))) (by (/-50-/first | omega | (simp only [gz_hd] at *; omega)))⟩, fz _ _ (by (/-51-/first | omega | (simp only [gz_hd] at *; omega))) (by (/-52-/first | omega | (simp only [gz_hd] at *; omega))), ⟨fz _ _ (by (/-53-/first | omega | (simp only [gz_hd] at *; omega))) (by (/-54-/first | omega | (simp only [gz_hd] at *; omega))), fun k => gz _ _ (by (/-55-/first | omega | (simp only [gz_hd] at *; omega))) (by (/-56-/first | omega | (simp only [gz_hd] at *; omega))), fun k => fz _ _ (by (/-57-/first | omega | (simp only [gz_hd] at *; omega))) (by (/-58-/first | omega | (simp only [gz_hd] at *; omega))), fun k => fz _ _ (by (/-59-/first | omega | (simp only [gz_hd] at *; omega))) (by (/-60-/first | omega | (simp only [gz_hd] at *; omega)))⟩, fz _ _ (by (/-61-/first | omega | (simp only [gz_hd] at *; omega))) (by (/-62-/first | omega | (simp only [gz_hd] at *; omega))), fz _ _ (by (/-63-/first | omega | (simp only [gz_hd] at *; omega))) (by (/-64-/first | omega | (simp only [gz_hd] at *; omega))), fun k q hk hq => ?_⟩ ra
        have hq2 : A (t2 + 16) k = some q := (hAf (t2 + 16) k l16 (fun h => by have := h.1; (/-65-/first | omega | (simp only [gz_hd] at *; omega)))).symm.trans hq
        obtain ⟨b1, b2⟩ := gs_hL9 hs hi2 ht2 k q hk hq2
        have ql := gc_x_lt b2.1
        refine ⟨hq2, (c5 q 1 ql).resolve_left ?_⟩
        rcases hA9 with h | h
        · have hT := hs.2.2.2.1.1 (Int.toNat (I 8 1)) t (by (/-66-/first | omega | (simp only [gz_hd] at *; omega))) h
          have dl := gc_dj_LT b2 hT.1
          (/-67-/first | omega | (simp only [gz_hd] at *; omega))
        · (/-68-/first | omega | (simp only [gz_hd] at *; omega))
set_option maxHeartbeats 8000000 in
set_option maxRecDepth 100000 in
theorem gh_rs1_p {ws0 : List Cond} {tb : String → gz_T} (hw : gc_Wn ws0) (hws : gc_Ws ws0) (htb : gc_tbs tb) {sh : gz_Sh} {ro : Nat → Nat} {I : gr_I} {J : gr_J} {A : gc_A} (v1 : Int64) (hs : gh_HS sh ro I J A) (B : Int) (x0 : B ≤ 1280 ∧ I 1 17 + I 23 1 ≤ B + I 23 5) (KLT_I : gc_LT I) (KTK_I : gc_TK I) (hlen : sh.length + 25 ≤ 1000000) (β : Int → Int) (η p : Int) (Ir : gr_I) (Jr : gr_J) (yT : gs_T β η p = 1) (yv : v1 = gs_M β η p) (yf : I 39 5 = gs_A β η p) (y1 : gc_AT β η (gs_X β η p) 23 I J) (y2 : 0 ≤ gs_X β η p) (y4 : I 1 18 = 0) (yR : gs_R I J A Ir Jr) (yS : gs_RV I A Ir) (k139 : ¬ gs_rn β η p = gs_W 80 → ¬ gs_rn β η p = gs_W 81 → ¬ gs_rn β η p = gs_W 82 → ¬ gs_rn β η p = gs_W 89 → ¬ gs_rn β η p = gs_W 90 → ¬ gs_rn β η p = gs_W 91 → gv_Y (gc_E6 ws0 tb 91 (yX6_readStatement, cX6_readStatement, 4, (some .boolean)) kX6_readStatement) (gh_QSp B sh ro I A β η p Ir Jr) (139, [(0, .inr (.inr (some 39))), (1, .inr (.inl v1))], [], sh, gc_h sh I J A)) : gv_Y (gc_E6 ws0 tb 91 (yX6_readStatement, cX6_readStatement, 4, (some .boolean)) kX6_readStatement) (gh_QSp B sh ro I A β η p Ir Jr) (47, [(0, .inr (.inr (some 39))), (1, .inr (.inl v1))], [], sh, gc_h sh I J A) := by
  have hb := hs.1
  have hI := hs.2.1
  have hok := hs.2.2.1
  have hcu := hs.2.2.2.2.2.2
  have h144 := gc_Base_len hb
  have i8 : 0 ≤ I 8 1 ∧ I 8 1 ≤ 8 := gc_in hI (gc_bR hb (by decide) rfl) rfl rfl
  have S39 : sh[39]? = some (false, 6, 19) := gc_bS_39 hb
  have S1 : sh[1]? = some (false, 8, 21) := gc_bS_1 hb
  have A39 : A 39 0 = some 1 := gc_bA_39_0 hb
  have hD : gv_D (gc_E6 ws0 tb 91 (yX6_readStatement, cX6_readStatement, 4, (some .boolean)) kX6_readStatement) := gq_of oX6_readStatement
  obtain ⟨rn2, rn4, rn6, rn8, rgf, rgk, rc5, rT, r00⟩ := id yR
  have fA : 0 ≤ gs_A β η (gs_X β η p) := by have h9 := (gc_AT_l y1).2.1; have h8 : 0 ≤ I 23 5 ∧ I 23 5 ≤ 1000 := gc_in hI (gc_bR hb (by decide) rfl) rfl rfl; (/-0-/first | omega | (simp only [gz_hd] at *; omega))
  have f47 := gz_hi (gw_cmp v1 (128021942465893))
  refine gv_lift (fun hk => gv_run 3 true hD (pcₚ := 52) (lvₚ := [(0, .inr (.inr (some 39))), (1, .inr (.inl v1))]) (stₚ := [.inl ((lg_cmp v1 (128021942465893)).toInt)]) (hₚ := gc_h sh I J A) (C := (((True ∧ True) ∧ True) ∧ True)) rfl ⟨⟨⟨trivial, trivial⟩, trivial⟩, trivial⟩ hk) ?_
  refine gv_YofX (gv_if_ne (t := 60) hD rfl rfl ⟨by (/-1-/first | (have o1 := gz_sh f47; omega) | (simp only [gz_hd] at *; omega)), by (/-2-/first | (have o1 := gz_sh f47; omega) | (simp only [gz_hd] at *; omega))⟩ (fun c => gv_Xz ?_) (fun c => gv_Xz ?_))
  rotate_left
  · show gv_Y _ _ (55, [(0, .inr (.inr (some 39))), (1, .inr (.inl v1))], [], sh, gc_h sh I J A)
    refine gv_lift (fun hk => gv_run 1 true hD (pcₚ := 56) (lvₚ := [(0, .inr (.inr (some 39))), (1, .inr (.inl v1))]) (stₚ := [.inr (.inr (some 39))]) (hₚ := gc_h sh I J A) (C := (True ∧ True)) rfl ⟨trivial, trivial⟩ hk) ?_
    have eK : gs_rn β η p = gs_W 80 := (gs_al_eq (gs_al_p yT) (gs_W_al 80 (by decide) (by decide))).mp (yv.symm.trans (gs_cmp0 (a := v1) (b := 128021942465893) (by (/-3-/first | omega | (simp only [gz_hd] at *; omega)))))
    obtain ⟨z, a, s, shₚ, ro', Iₚ, Jₚ, Aₚ, EV, hR, hP⟩ := e_X6_readTongue_p hw hws htb sh ro I J A hs B x0 β η (gs_X β η p) Ir Jr y1 y2 rn8 y4 KLT_I KTK_I hlen
    refine gc_YcallV hD (ix := 83) (M := (yX6_readTongue, cX6_readTongue, 4, (some .boolean))) (As := []) (b := 39) (st := []) rfl rfl (by decide) S39 rfl (gc_lV6 hws rfl) (Nat.le_of_ble_eq_true rfl) (gz_Ev_mono (d := 10) (by decide) EV) (gc_okc (Or.inl (by (/-4-/first | omega | (simp only [gz_hd] at *; omega)))) (gc_okc trivial gc_ok0)) gc_ok0 ?_
    have eC : gs_stc β η Ir Jr p = gs_tong β η Ir Jr (I 39 5) (gs_X β η p) := by rw [yf]; exact (if_pos yT).trans (gs_stk_80 eK)
    have sp : (gs_SP β η p Ir Jr z Iₚ Jₚ Aₚ ∧ gs_SCV β η p Ir Jr I A z Iₚ Aₚ) := ⟨gs_SP_80 hs yR fA eK eC hR hP, gs_SCV_80 hs hR hP⟩
    exact gv_Yend ⟨z, shₚ, ro', Iₚ, Jₚ, Aₚ, Or.inr (Or.inl ⟨z, .boolean, hD 59 _ rfl, rfl, Or.inr ⟨rfl, by have := hR.1; (/-5-/first | omega | (simp only [gz_hd] at *; omega))⟩, rfl, rfl⟩), rfl, rfl, hR, sp⟩
  have n80 : ¬ gs_rn β η p = gs_W 80 := fun e9 => gs_cmpn (a := v1) (b := 128021942465893) (by (/-6-/first | omega | (simp only [gz_hd] at *; omega))) (yv.trans ((gs_al_eq (gs_al_p yT) (gs_W_al 80 (by decide) (by decide))).mpr e9))
  show gv_Y _ _ (60, [(0, .inr (.inr (some 39))), (1, .inr (.inl v1))], [], sh, gc_h sh I J A)
  have f60 := gz_hi (gw_cmp v1 (1802071652))
  refine gv_lift (fun hk => gv_run 3 true hD (pcₚ := 65) (lvₚ := [(0, .inr (.inr (some 39))), (1, .inr (.inl v1))]) (stₚ := [.inl ((lg_cmp v1 (1802071652)).toInt)]) (hₚ := gc_h sh I J A) (C := (((True ∧ True) ∧ True) ∧ True)) rfl ⟨⟨⟨trivial, trivial⟩, trivial⟩, trivial⟩ hk) ?_
  refine gv_YofX (gv_if_ne (t := 80) hD rfl rfl ⟨by (/-7-/first | (have o1 := gz_sh f60; omega) | (simp only [gz_hd] at *; omega)), by (/-8-/first | (have o1 := gz_sh f60; omega) | (simp only [gz_hd] at *; omega))⟩ (fun c => gv_Xz ?_) (fun c => gv_Xz ?_))
  rotate_left
  · show gv_Y _ _ (68, [(0, .inr (.inr (some 39))), (1, .inr (.inl v1))], [], sh, gc_h sh I J A)
    refine gv_lift (fun hk => gv_run 2 true hD (pcₚ := 70) (lvₚ := [(0, .inr (.inr (some 39))), (1, .inr (.inl v1))]) (stₚ := [.inr (.inr (some 39)), .inr (.inr (some 39))]) (hₚ := gc_h sh I J A) (C := ((True ∧ True) ∧ True)) rfl ⟨⟨trivial, trivial⟩, trivial⟩ hk) ?_
    refine gv_lift (fun hk => gv_get hD rfl rfl S39 ⟨by decide, by decide⟩ (gc_hA S39 rfl A39) hk) ?_
    refine gv_lift (fun hk => gv_get hD rfl rfl S1 ⟨by decide, by decide⟩ (gc_hA S1 rfl (show A 1 0 = some 2 from gc_bA hb rfl)) hk) ?_
    have eK : gs_rn β η p = gs_W 81 := (gs_al_eq (gs_al_p yT) (gs_W_al 81 (by decide) (by decide))).mp (yv.symm.trans (gs_cmp0 (a := v1) (b := 1802071652) (by (/-9-/first | omega | (simp only [gz_hd] at *; omega)))))
    obtain ⟨r9, h9, E9, P9⟩ := d_X6_readNewName_a_p hws htb sh ro I J A hI 32 9 β η (gs_X β η p) Ir Jr 2 2 2 hb (gc_b2 hb) y1 y2 y4 rn2.1 rn2.2 KLT_I KTK_I
    obtain ⟨Iₚ, Jₚ, rfl, hIₚ, g, k, KE_LT, KE_TK, z, rfl, z0, z1, p0, p1, p2, p3⟩ := P9
    refine gv_lift (fun hk => gv_callV hD rfl (As := [.inr (.inr (some 2))]) (st := []) rfl (by decide) S39 rfl (gc_lV6 hws rfl) (Nat.le_of_ble_eq_true rfl) (gz_Ev_mono (d := 5) (by decide) E9) hk) ?_
    have ok9 : gc_OK sh Iₚ Jₚ A := gc_OK_fr hok (fun q j => (g q j).imp (fun h => by
        rcases h with ⟨rfl, rfl⟩ | ⟨rfl, rfl⟩ | ⟨rfl, rfl⟩ | ⟨rfl, rfl⟩ | ⟨rfl, rfl⟩ | ⟨rfl, rfl⟩ | ⟨rfl, rfl⟩
        · exact ⟨gc_x_lt (gc_bS hb (p := 39) rfl), gc_tyx (gc_bS hb (p := 39) rfl)⟩
        · exact ⟨gc_x_lt (gc_bS hb (p := 39) rfl), gc_tyx (gc_bS hb (p := 39) rfl)⟩
        · exact ⟨gc_x_lt (gc_bS hb (p := 23) rfl), gc_tyx (gc_bS hb (p := 23) rfl)⟩
        · exact ⟨gc_x_lt (gc_bS hb (p := 23) rfl), gc_tyx (gc_bS hb (p := 23) rfl)⟩
        · exact ⟨gc_x_lt (gc_bS hb (p := 23) rfl), gc_tyx (gc_bS hb (p := 23) rfl)⟩
        · exact ⟨gc_x_lt (gc_bS hb (p := 23) rfl), gc_tyx (gc_bS hb (p := 23) rfl)⟩
        · exact ⟨gc_x_lt (gc_bS hb (p := 2) rfl), gc_tyx (gc_bS hb (p := 2) rfl)⟩
        ) id) (fun q j => (k q j).imp (fun h => by first | exact False.elim h | (/-10-/first | omega | (simp only [gz_hd] at *; omega))) id)
    have fz : ∀ q j : Nat, ¬ ((q = 39 ∧ j = 3) ∨ (q = 39 ∧ j = 4) ∨ (q = 23 ∧ j = 5) ∨ (q = 23 ∧ j = 6) ∨ (q = 23 ∧ j = 7) ∨ (q = 23 ∧ j = 8) ∨ (q = 2 ∧ j = 1)) → Iₚ q j = I q j := fun q j h => (g q j).resolve_left h
    have gz : ∀ q j : Nat, ¬ ((q = 23 ∧ j = 9) ∨ q = 3) → Jₚ q j = J q j := fun q j h => (k q j).resolve_left h
    have h17 := fz 1 17 (by (/-11-/first | omega | (simp only [gz_hd] at *; omega)))
    have fu : gh_FU I Iₚ := gh_FU_of (fz 4 1 (by (/-12-/first | omega | (simp only [gz_hd] at *; omega)))) (fun j => fz 11 j (by (/-13-/first | omega | (simp only [gz_hd] at *; omega)))) (fun j => fz 12 j (by (/-14-/first | omega | (simp only [gz_hd] at *; omega)))) (fun j => fz 13 j (by (/-15-/first | omega | (simp only [gz_hd] at *; omega))))
    have me : gh_ME I Iₚ := gh_ME_of (fun j => fz 15 j (by (/-16-/first | omega | (simp only [gz_hd] at *; omega)))) (fun j => fz 16 j (by (/-17-/first | omega | (simp only [gz_hd] at *; omega))))
    have hh := gh_HS_s hs hIₚ ok9 (fun q j _ => (g q j).imp (fun h => by unfold gh_mw; (/-18-/first | omega | (simp only [gz_hd] at *; omega))) id) (fun q j h1 => fz q j (by (/-19-/first | omega | (simp only [gz_hd] at *; omega)))) (fz 8 1 (by (/-20-/first | omega | (simp only [gz_hd] at *; omega)))) (by have := fz 1 5 (by (/-21-/first | omega | (simp only [gz_hd] at *; omega))); (/-22-/first | (and_intros <;> omega) | (simp only [gz_hd] at *; omega))) (p2) fu me (gh_MS_st hs.2.2.2.2.2.1 fu (fun j => fz 15 j (by (/-23-/first | omega | (simp only [gz_hd] at *; omega)))) (fun j => fz 16 j (by (/-24-/first | omega | (simp only [gz_hd] at *; omega)))))
    have ct := gs_ct_s (Iₚ := Iₚ) (Jₚ := Jₚ) hs (fun q j h1 => fz q j (by (/-25-/first | omega | (simp only [gz_hd] at *; omega)))) (fun q j h1 => gz q j (by (/-26-/first | omega | (simp only [gz_hd] at *; omega))))
    have eC : gs_stc β η Ir Jr p = gs_new β η Ir Jr 2 2 ((32 : Nat) : Int) (I 39 5) (gs_X β η p) := by rw [yf]; exact (if_pos yT).trans (gs_stk_81 eK)
    have sp : gs_SP β η p Ir Jr z Iₚ Jₚ A := by
      unfold gs_SP
      rw [eC]
      refine ⟨fun h9 => ?_, fun h9 => ?_⟩
      · obtain ⟨c1, c2, d1, d2⟩ := gs_or0 p3 h9
        exact ⟨c1, c2, gs_R_same yR ⟨⟨d1, (fz 4 1 (by (/-27-/first | omega | (simp only [gz_hd] at *; omega)))), (fz 6 1 (by (/-28-/first | omega | (simp only [gz_hd] at *; omega)))), (fz 8 1 (by (/-29-/first | omega | (simp only [gz_hd] at *; omega))))⟩, (fun k9 => ⟨(d2 k9), (gz 5 k9 (by (/-30-/first | omega | (simp only [gz_hd] at *; omega)))), (gz 7 k9 (by (/-31-/first | omega | (simp only [gz_hd] at *; omega)))), (gz 9 k9 (by (/-32-/first | omega | (simp only [gz_hd] at *; omega)))), (gz 18 k9 (by (/-33-/first | omega | (simp only [gz_hd] at *; omega))))⟩), ⟨(fz 1 13 (by (/-34-/first | omega | (simp only [gz_hd] at *; omega)))), (fz 1 5 (by (/-35-/first | omega | (simp only [gz_hd] at *; omega))))⟩, fun k9 => ⟨(fz 11 k9 (by (/-36-/first | omega | (simp only [gz_hd] at *; omega)))), (fz 12 k9 (by (/-37-/first | omega | (simp only [gz_hd] at *; omega)))), (fz 13 k9 (by (/-38-/first | omega | (simp only [gz_hd] at *; omega)))), (fz 15 k9 (by (/-39-/first | omega | (simp only [gz_hd] at *; omega)))), (fz 19 k9 (by (/-40-/first | omega | (simp only [gz_hd] at *; omega)))), (fz 14 k9 (by (/-41-/first | omega | (simp only [gz_hd] at *; omega))))⟩⟩ (fun i t hi ht => ⟨ht, ct i t hi ht⟩)⟩
      · obtain ⟨c1, c2, s1, s2⟩ := gs_or1 p3 (by (/-42-/first | omega | (simp only [gz_hd] at *; omega)))
        have t1 := gz_hi (gs_al_p (gs_t_new c1 fA))
        refine ⟨c1, c2, (fz 1 18 (by (/-43-/first | omega | (simp only [gz_hd] at *; omega)))).trans y4, fun Irₚ Jrₚ hU => ?_⟩
        obtain ⟨u1, ts⟩ := gs_STU_k hU 81 (by decide) eK
        exact gs_R_glob yR (gs_GN_put (n := 32) rn2 (gc_b_9_1 hI (gc_bR_2 hb)).1 s2 s1 u1 (gz_sh t1)) (gs_GN_fr rn4 (fz 4 1 (by (/-44-/first | omega | (simp only [gz_hd] at *; omega)))) (fun k9 => (gz 5 k9 (by (/-45-/first | omega | (simp only [gz_hd] at *; omega))))) (ts.1 3 rfl rfl) (ts.2.2 3 rfl rfl)) (gs_GN_fr rn6 (fz 6 1 (by (/-46-/first | omega | (simp only [gz_hd] at *; omega)))) (fun k9 => (gz 7 k9 (by (/-47-/first | omega | (simp only [gz_hd] at *; omega))))) (ts.1 4 rfl rfl) (ts.2.2 4 rfl rfl)) (fz 8 1 (by (/-48-/first | omega | (simp only [gz_hd] at *; omega)))) (fun k9 => (gz 9 k9 (by (/-49-/first | omega | (simp only [gz_hd] at *; omega))))) (gs_GF_fr rgf (fz 1 13 (by (/-50-/first | omega | (simp only [gz_hd] at *; omega)))) (fun k9 => (gz 18 k9 (by (/-51-/first | omega | (simp only [gz_hd] at *; omega))))) (fun k9 => (fz 19 k9 (by (/-52-/first | omega | (simp only [gz_hd] at *; omega))))) (ts.1 5 rfl rfl) (fun k9 => ⟨ts.2.2 5 rfl rfl k9, ts.2.1 11 rfl rfl k9, ts.2.1 12 rfl rfl k9⟩)) (gs_GK_fr rgk (fz 4 1 (by (/-53-/first | omega | (simp only [gz_hd] at *; omega)))) (fun k9 => (fz 11 k9 (by (/-54-/first | omega | (simp only [gz_hd] at *; omega))))) (fun k9 => (fz 12 k9 (by (/-55-/first | omega | (simp only [gz_hd] at *; omega))))) (fun k9 => (fz 13 k9 (by (/-56-/first | omega | (simp only [gz_hd] at *; omega))))) (fun k9 => (fz 15 k9 (by (/-57-/first | omega | (simp only [gz_hd] at *; omega))))) (fun k9 => ⟨ts.2.1 6 rfl rfl k9, ts.2.1 7 rfl rfl k9, ts.2.1 8 rfl rfl k9, ts.2.1 10 rfl rfl k9⟩) (fun k9 => (fz 14 k9 (by (/-58-/first | omega | (simp only [gz_hd] at *; omega))))) (fun k9 => ts.2.1 9 rfl rfl k9)) (fz 1 5 (by (/-59-/first | omega | (simp only [gz_hd] at *; omega)))) ct (gs_rA_ts ts rfl) (ts.1 1 rfl rfl) (ts.1 6 rfl rfl) (ts.2.2 1 rfl rfl)
    have sc : gs_SCV β η p Ir Jr I A z Iₚ A := gs_SCV_s hs (gc_PKs_fr gc_PKs_rf (fz 1 17 (by (/-60-/first | omega | (simp only [gz_hd] at *; omega)))) (fun k9 => fz 20 k9 (by (/-61-/first | omega | (simp only [gz_hd] at *; omega))))) (fz 8 1 (by (/-62-/first | omega | (simp only [gz_hd] at *; omega)))) (fun q j h1 => fz q j (by (/-63-/first | omega | (simp only [gz_hd] at *; omega))))
    exact gv_Yend ⟨z, sh, ro, Iₚ, Jₚ, A, Or.inr (Or.inl ⟨z, .boolean, hD 79 _ rfl, rfl, Or.inr ⟨rfl, by (/-64-/first | omega | (simp only [gz_hd] at *; omega))⟩, rfl, rfl⟩), rfl, rfl, ⟨⟨z0, z1⟩, hh.1, hh.2, KE_LT, KE_TK, ⟨p0, p1, by (/-65-/first | omega | (simp only [gz_hd] at *; omega)), fun k9 => fz 21 k9 (by (/-66-/first | omega | (simp only [gz_hd] at *; omega)))⟩, ⟨by (/-67-/first | omega | (simp only [gz_hd] at *; omega)), by (/-68-/first | omega | (simp only [gz_hd] at *; omega)), by (/-69-/first | omega | (simp only [gz_hd] at *; omega))⟩⟩, ⟨sp, sc⟩⟩
  have n81 : ¬ gs_rn β η p = gs_W 81 := fun e9 => gs_cmpn (a := v1) (b := 1802071652) (by (/-70-/first | omega | (simp only [gz_hd] at *; omega))) (yv.trans ((gs_al_eq (gs_al_p yT) (gs_W_al 81 (by decide) (by decide))).mpr e9))
  show gv_Y _ _ (80, [(0, .inr (.inr (some 39))), (1, .inr (.inl v1))], [], sh, gc_h sh I J A)
  have f80 := gz_hi (gw_cmp v1 (6714734))
  refine gv_lift (fun hk => gv_run 3 true hD (pcₚ := 85) (lvₚ := [(0, .inr (.inr (some 39))), (1, .inr (.inl v1))]) (stₚ := [.inl ((lg_cmp v1 (6714734)).toInt)]) (hₚ := gc_h sh I J A) (C := (((True ∧ True) ∧ True) ∧ True)) rfl ⟨⟨⟨trivial, trivial⟩, trivial⟩, trivial⟩ hk) ?_
  refine gv_YofX (gv_if_ne (t := 93) hD rfl rfl ⟨by (/-71-/first | (have o1 := gz_sh f80; omega) | (simp only [gz_hd] at *; omega)), by (/-72-/first | (have o1 := gz_sh f80; omega) | (simp only [gz_hd] at *; omega))⟩ (fun c => gv_Xz ?_) (fun c => gv_Xz ?_))
  rotate_left
  · show gv_Y _ _ (88, [(0, .inr (.inr (some 39))), (1, .inr (.inl v1))], [], sh, gc_h sh I J A)
    refine gv_lift (fun hk => gv_run 1 true hD (pcₚ := 89) (lvₚ := [(0, .inr (.inr (some 39))), (1, .inr (.inl v1))]) (stₚ := [.inr (.inr (some 39))]) (hₚ := gc_h sh I J A) (C := (True ∧ True)) rfl ⟨trivial, trivial⟩ hk) ?_
    have eK : gs_rn β η p = gs_W 82 := (gs_al_eq (gs_al_p yT) (gs_W_al 82 (by decide) (by decide))).mp (yv.symm.trans (gs_cmp0 (a := v1) (b := 6714734) (by (/-73-/first | omega | (simp only [gz_hd] at *; omega)))))
    obtain ⟨r9, h9, E9, P9⟩ := d_X6_readFun_a_p hws htb sh ro I J A hI β η (gs_X β η p) Ir Jr hb y1 y2 y4 rn4.1 rn4.2 rn2.1 rn2.2 KLT_I KTK_I
    obtain ⟨Iₚ, Jₚ, rfl, hIₚ, g, k, KE_LT, KE_TK, z, rfl, z0, z1, p0, p1, p2, p3, p4⟩ := P9
    refine gv_lift (fun hk => gv_callV hD rfl (As := []) (st := []) rfl (by decide) S39 rfl (gc_lV6 hws rfl) (Nat.le_of_ble_eq_true rfl) (gz_Ev_mono (d := 5) (by decide) E9) hk) ?_
    have ok9 : gc_OK sh Iₚ Jₚ A := gc_OK_fr hok (fun q j => (g q j).imp (fun h => by
        rcases h with ⟨rfl, rfl⟩ | ⟨rfl, rfl⟩ | ⟨rfl, rfl⟩ | ⟨rfl, rfl⟩ | ⟨rfl, rfl⟩ | ⟨rfl, rfl⟩ | ⟨rfl, rfl⟩ | rfl | ⟨rfl, rfl⟩ | ⟨rfl, h9⟩ | ⟨rfl, h9⟩ | ⟨rfl, h9⟩ | rfl
        · exact ⟨gc_x_lt (gc_bS hb (p := 39) rfl), gc_tyx (gc_bS hb (p := 39) rfl)⟩
        · exact ⟨gc_x_lt (gc_bS hb (p := 39) rfl), gc_tyx (gc_bS hb (p := 39) rfl)⟩
        · exact ⟨gc_x_lt (gc_bS hb (p := 23) rfl), gc_tyx (gc_bS hb (p := 23) rfl)⟩
        · exact ⟨gc_x_lt (gc_bS hb (p := 23) rfl), gc_tyx (gc_bS hb (p := 23) rfl)⟩
        · exact ⟨gc_x_lt (gc_bS hb (p := 23) rfl), gc_tyx (gc_bS hb (p := 23) rfl)⟩
        · exact ⟨gc_x_lt (gc_bS hb (p := 23) rfl), gc_tyx (gc_bS hb (p := 23) rfl)⟩
        · exact ⟨gc_x_lt (gc_bS hb (p := 39) rfl), gc_tyx (gc_bS hb (p := 39) rfl)⟩
        · exact ⟨gc_x_lt (gc_bS hb (p := 41) rfl), gc_tyx (gc_bS hb (p := 41) rfl)⟩
        · exact ⟨gc_x_lt (gc_bS hb (p := 4) rfl), gc_tyx (gc_bS hb (p := 4) rfl)⟩
        · exact ⟨gc_x_lt (gc_bS hb (p := 11) rfl), gc_tyx (gc_bS hb (p := 11) rfl)⟩
        · exact ⟨gc_x_lt (gc_bS hb (p := 12) rfl), gc_tyx (gc_bS hb (p := 12) rfl)⟩
        · exact ⟨gc_x_lt (gc_bS hb (p := 13) rfl), gc_tyx (gc_bS hb (p := 13) rfl)⟩
        · exact ⟨gc_x_lt (gc_bS hb (p := 14) rfl), gc_tyx (gc_bS hb (p := 14) rfl)⟩
        ) id) (fun q j => (k q j).imp (fun h => by first | exact False.elim h | (/-74-/first | omega | (simp only [gz_hd] at *; omega))) id)
    have fz : ∀ q j : Nat, ¬ ((q = 39 ∧ j = 3) ∨ (q = 39 ∧ j = 4) ∨ (q = 23 ∧ j = 5) ∨ (q = 23 ∧ j = 6) ∨ (q = 23 ∧ j = 7) ∨ (q = 23 ∧ j = 8) ∨ (q = 39 ∧ j = 7) ∨ q = 41 ∨ (q = 4 ∧ j = 1) ∨ (q = 11 ∧ (I 4 1 ≤ (j : Int))) ∨ (q = 12 ∧ (I 4 1 ≤ (j : Int))) ∨ (q = 13 ∧ (4 * I 4 1 ≤ (j : Int))) ∨ q = 14) → Iₚ q j = I q j := fun q j h => (g q j).resolve_left h
    have gz : ∀ q j : Nat, ¬ ((q = 23 ∧ j = 9) ∨ q = 5) → Jₚ q j = J q j := fun q j h => (k q j).resolve_left h
    have h17 := fz 1 17 (by (/-75-/first | omega | (simp only [gz_hd] at *; omega)))
    have fu : gh_FU I Iₚ := ⟨p2, fun j hj => ⟨fz 11 j (by (/-76-/first | omega | (simp only [gz_hd] at *; omega))), fz 12 j (by (/-77-/first | omega | (simp only [gz_hd] at *; omega)))⟩, fun j hj => fz 13 j (by (/-78-/first | omega | (simp only [gz_hd] at *; omega)))⟩
    have me : gh_ME I Iₚ := gh_ME_of (fun j => fz 15 j (by (/-79-/first | omega | (simp only [gz_hd] at *; omega)))) (fun j => fz 16 j (by (/-80-/first | omega | (simp only [gz_hd] at *; omega))))
    have hh := gh_HS_s hs hIₚ ok9 (fun q j _ => (g q j).imp (fun h => by unfold gh_mw; (/-81-/first | omega | (simp only [gz_hd] at *; omega))) id) (fun q j h1 => fz q j (by (/-82-/first | omega | (simp only [gz_hd] at *; omega)))) (fz 8 1 (by (/-83-/first | omega | (simp only [gz_hd] at *; omega)))) (by have := fz 1 5 (by (/-84-/first | omega | (simp only [gz_hd] at *; omega))); (/-85-/first | (and_intros <;> omega) | (simp only [gz_hd] at *; omega))) (by have := fz 2 1 (by (/-86-/first | omega | (simp only [gz_hd] at *; omega))); (/-87-/first | omega | (simp only [gz_hd] at *; omega))) fu me (gh_MS_st hs.2.2.2.2.2.1 fu (fun j => fz 15 j (by (/-88-/first | omega | (simp only [gz_hd] at *; omega)))) (fun j => fz 16 j (by (/-89-/first | omega | (simp only [gz_hd] at *; omega)))))
    have ct := gs_ct_s (Iₚ := Iₚ) (Jₚ := Jₚ) hs (fun q j h1 => fz q j (by (/-90-/first | omega | (simp only [gz_hd] at *; omega)))) (fun q j h1 => gz q j (by (/-91-/first | omega | (simp only [gz_hd] at *; omega))))
    have eC : gs_stc β η Ir Jr p = gs_fun β η Ir Jr (I 39 5) (gs_X β η p) := by rw [yf]; exact (if_pos yT).trans (gs_stk_82 eK)
    have n0 : 0 ≤ gs_cn β η 5 (gs_need β η 58 (gs_X β η (gs_X β η p))) := gs_cn_0 _ _
    have sp : gs_SP β η p Ir Jr z Iₚ Jₚ A := by
      unfold gs_SP
      rw [eC]
      refine ⟨fun h9 => ?_, fun h9 => ?_⟩
      · obtain ⟨c1, c2, d1, d2⟩ := gs_or0 p4 h9
        exact ⟨c1, c2, gs_R_same yR ⟨⟨(fz 2 1 (by (/-92-/first | omega | (simp only [gz_hd] at *; omega)))), d1, (fz 6 1 (by (/-93-/first | omega | (simp only [gz_hd] at *; omega)))), (fz 8 1 (by (/-94-/first | omega | (simp only [gz_hd] at *; omega))))⟩, (fun k9 => ⟨(gz 3 k9 (by (/-95-/first | omega | (simp only [gz_hd] at *; omega)))), (d2 k9).1, (gz 7 k9 (by (/-96-/first | omega | (simp only [gz_hd] at *; omega)))), (gz 9 k9 (by (/-97-/first | omega | (simp only [gz_hd] at *; omega)))), (gz 18 k9 (by (/-98-/first | omega | (simp only [gz_hd] at *; omega))))⟩), ⟨(fz 1 13 (by (/-99-/first | omega | (simp only [gz_hd] at *; omega)))), (fz 1 5 (by (/-100-/first | omega | (simp only [gz_hd] at *; omega))))⟩, fun k9 => ⟨(d2 k9).2.1, (d2 k9).2.2.1, (d2 k9).2.2.2.1, (fz 15 k9 (by (/-101-/first | omega | (simp only [gz_hd] at *; omega)))), (fz 19 k9 (by (/-102-/first | omega | (simp only [gz_hd] at *; omega)))), (d2 k9).2.2.2.2⟩⟩ (fun i t hi ht => ⟨ht, ct i t hi ht⟩)⟩
      · obtain ⟨c1, c2, s1⟩ := gs_or1 p4 (by (/-103-/first | omega | (simp only [gz_hd] at *; omega)))
        have t1 := gz_hi (gs_al_p (gs_t_fun c1 fA))
        refine ⟨c1, c2, (fz 1 18 (by (/-104-/first | omega | (simp only [gz_hd] at *; omega)))).trans y4, fun Irₚ Jrₚ hU => ?_⟩
        obtain ⟨u1, ts⟩ := gs_STU_k hU 82 (by decide) eK
        exact gs_R_glob yR (gs_GN_fr rn2 (fz 2 1 (by (/-105-/first | omega | (simp only [gz_hd] at *; omega)))) (fun k9 => (gz 3 k9 (by (/-106-/first | omega | (simp only [gz_hd] at *; omega))))) (ts.1 2 rfl rfl) (ts.2.2 2 rfl rfl)) (gs_GN_fun rn4 (gc_b_11_1 hI (gc_bR_4 hb)).1 s1.1 u1.1 (gz_sh t1)) (gs_GN_fr rn6 (fz 6 1 (by (/-107-/first | omega | (simp only [gz_hd] at *; omega)))) (fun k9 => (gz 7 k9 (by (/-108-/first | omega | (simp only [gz_hd] at *; omega))))) (ts.1 4 rfl rfl) (ts.2.2 4 rfl rfl)) (fz 8 1 (by (/-109-/first | omega | (simp only [gz_hd] at *; omega)))) (fun k9 => (gz 9 k9 (by (/-110-/first | omega | (simp only [gz_hd] at *; omega))))) (gs_GF_fr rgf (fz 1 13 (by (/-111-/first | omega | (simp only [gz_hd] at *; omega)))) (fun k9 => (gz 18 k9 (by (/-112-/first | omega | (simp only [gz_hd] at *; omega))))) (fun k9 => (fz 19 k9 (by (/-113-/first | omega | (simp only [gz_hd] at *; omega))))) (ts.1 5 rfl rfl) (fun k9 => ⟨ts.2.2 5 rfl rfl k9, ts.2.1 11 rfl rfl k9, ts.2.1 12 rfl rfl k9⟩)) (gs_GK_fun rgk rn4.1 (gc_b_11_1 hI (gc_bR_4 hb)).1 n0 (fun k9 => (gc_b_26 hI (gc_bR_12 hb) k9).2) (fun f hf => fun h0 => by have h8 := (gc_b_11_1 hI (gc_bR_4 hb)); by_cases c96 : f < 96; (have h7 := hs.2.2.2.2.2.1 f c96 h0; (/-114-/first | omega | (simp only [gz_hd] at *; omega))); (have h6 : I 4 1 < 96 := (by have h5 := s1.1.1.1; have h4 : 0 ≤ Iₚ 4 1 ∧ Iₚ 4 1 ≤ 96 := gc_in hIₚ (gc_bR hb (by decide) rfl) rfl rfl; (/-115-/first | omega | (simp only [gz_hd] at *; omega))); (/-116-/first | omega | (simp only [gz_hd] at *; omega)))) (fun k9 => fz 15 k9 (by (/-117-/first | omega | (simp only [gz_hd] at *; omega)))) s1.1 u1.1 s1.2 u1.2) (fz 1 5 (by (/-118-/first | omega | (simp only [gz_hd] at *; omega)))) ct (gs_rA_ts ts rfl) (ts.1 1 rfl rfl) (ts.1 6 rfl rfl) (ts.2.2 1 rfl rfl)
    have sc : gs_SCV β η p Ir Jr I A z Iₚ A := gs_SCV_s hs (gc_PKs_fr gc_PKs_rf (fz 1 17 (by (/-119-/first | omega | (simp only [gz_hd] at *; omega)))) (fun k9 => fz 20 k9 (by (/-120-/first | omega | (simp only [gz_hd] at *; omega))))) (fz 8 1 (by (/-121-/first | omega | (simp only [gz_hd] at *; omega)))) (fun q j h1 => fz q j (by (/-122-/first | omega | (simp only [gz_hd] at *; omega))))
    exact gv_Yend ⟨z, sh, ro, Iₚ, Jₚ, A, Or.inr (Or.inl ⟨z, .boolean, hD 92 _ rfl, rfl, Or.inr ⟨rfl, by (/-123-/first | omega | (simp only [gz_hd] at *; omega))⟩, rfl, rfl⟩), rfl, rfl, ⟨⟨z0, z1⟩, hh.1, hh.2, KE_LT, KE_TK, ⟨p0, p1, by (/-124-/first | omega | (simp only [gz_hd] at *; omega)), fun k9 => fz 21 k9 (by (/-125-/first | omega | (simp only [gz_hd] at *; omega)))⟩, ⟨by (/-126-/first | omega | (simp only [gz_hd] at *; omega)), by (/-127-/first | omega | (simp only [gz_hd] at *; omega)), by (/-128-/first | omega | (simp only [gz_hd] at *; omega))⟩⟩, ⟨sp, sc⟩⟩
  have n82 : ¬ gs_rn β η p = gs_W 82 := fun e9 => gs_cmpn (a := v1) (b := 6714734) (by (/-129-/first | omega | (simp only [gz_hd] at *; omega))) (yv.trans ((gs_al_eq (gs_al_p yT) (gs_W_al 82 (by decide) (by decide))).mpr e9))
  show gv_Y _ _ (93, [(0, .inr (.inr (some 39))), (1, .inr (.inl v1))], [], sh, gc_h sh I J A)
  have f93 := gz_hi (gw_cmp v1 (1835360622))
  refine gv_lift (fun hk => gv_run 3 true hD (pcₚ := 98) (lvₚ := [(0, .inr (.inr (some 39))), (1, .inr (.inl v1))]) (stₚ := [.inl ((lg_cmp v1 (1835360622)).toInt)]) (hₚ := gc_h sh I J A) (C := (((True ∧ True) ∧ True) ∧ True)) rfl ⟨⟨⟨trivial, trivial⟩, trivial⟩, trivial⟩ hk) ?_
  refine gv_YofX (gv_if_ne (t := 106) hD rfl rfl ⟨by (/-130-/first | (have o1 := gz_sh f93; omega) | (simp only [gz_hd] at *; omega)), by (/-131-/first | (have o1 := gz_sh f93; omega) | (simp only [gz_hd] at *; omega))⟩ (fun c => gv_Xz ?_) (fun c => gv_Xz ?_))
  rotate_left
  · show gv_Y _ _ (101, [(0, .inr (.inr (some 39))), (1, .inr (.inl v1))], [], sh, gc_h sh I J A)
    refine gv_lift (fun hk => gv_run 1 true hD (pcₚ := 102) (lvₚ := [(0, .inr (.inr (some 39))), (1, .inr (.inl v1))]) (stₚ := [.inr (.inr (some 39))]) (hₚ := gc_h sh I J A) (C := (True ∧ True)) rfl ⟨trivial, trivial⟩ hk) ?_
    have eK : gs_rn β η p = gs_W 89 := (gs_al_eq (gs_al_p yT) (gs_W_al 89 (by decide) (by decide))).mp (yv.symm.trans (gs_cmp0 (a := v1) (b := 1835360622) (by (/-132-/first | omega | (simp only [gz_hd] at *; omega)))))
    obtain ⟨r9, h9, E9, P9⟩ := d_X6_readMean_a_p hws htb sh ro I J A hI β η (gs_X β η p) Ir Jr hb y1 y2 y4 rgk.1 rgk.2.2.1 rn4.1 rn4.2 KLT_I KTK_I hs.2.2.2.2.2.1
    obtain ⟨Iₚ, Jₚ, rfl, hIₚ, g, k, KE_LT, KE_TK, KE_MS, z, rfl, z0, z1, p0, p1, p2⟩ := P9
    refine gv_lift (fun hk => gv_callV hD rfl (As := []) (st := []) rfl (by decide) S39 rfl (gc_lV6 hws rfl) (Nat.le_of_ble_eq_true rfl) (gz_Ev_mono (d := 91) (by decide) E9) hk) ?_
    have ok9 : gc_OK sh Iₚ Jₚ A := gc_OK_fr hok (fun q j => (g q j).imp (fun h => by
        rcases h with ⟨rfl, rfl⟩ | ⟨rfl, rfl⟩ | ⟨rfl, rfl⟩ | ⟨rfl, rfl⟩ | ⟨rfl, rfl⟩ | ⟨rfl, rfl⟩ | ⟨rfl, rfl⟩ | ⟨rfl, rfl⟩ | rfl | ⟨rfl, h9⟩ | ⟨rfl, h9⟩
        · exact ⟨gc_x_lt (gc_bS hb (p := 39) rfl), gc_tyx (gc_bS hb (p := 39) rfl)⟩
        · exact ⟨gc_x_lt (gc_bS hb (p := 39) rfl), gc_tyx (gc_bS hb (p := 39) rfl)⟩
        · exact ⟨gc_x_lt (gc_bS hb (p := 23) rfl), gc_tyx (gc_bS hb (p := 23) rfl)⟩
        · exact ⟨gc_x_lt (gc_bS hb (p := 23) rfl), gc_tyx (gc_bS hb (p := 23) rfl)⟩
        · exact ⟨gc_x_lt (gc_bS hb (p := 23) rfl), gc_tyx (gc_bS hb (p := 23) rfl)⟩
        · exact ⟨gc_x_lt (gc_bS hb (p := 23) rfl), gc_tyx (gc_bS hb (p := 23) rfl)⟩
        · exact ⟨gc_x_lt (gc_bS hb (p := 39) rfl), gc_tyx (gc_bS hb (p := 39) rfl)⟩
        · exact ⟨gc_x_lt (gc_bS hb (p := 39) rfl), gc_tyx (gc_bS hb (p := 39) rfl)⟩
        · exact ⟨gc_x_lt (gc_bS hb (p := 43) rfl), gc_tyx (gc_bS hb (p := 43) rfl)⟩
        · exact ⟨gc_x_lt (gc_bS hb (p := 15) rfl), gc_tyx (gc_bS hb (p := 15) rfl)⟩
        · exact ⟨gc_x_lt (gc_bS hb (p := 16) rfl), gc_tyx (gc_bS hb (p := 16) rfl)⟩
        ) id) (fun q j => (k q j).imp (fun h => by first | exact False.elim h | (/-133-/first | omega | (simp only [gz_hd] at *; omega))) id)
    have fz : ∀ q j : Nat, ¬ ((q = 39 ∧ j = 3) ∨ (q = 39 ∧ j = 4) ∨ (q = 23 ∧ j = 5) ∨ (q = 23 ∧ j = 6) ∨ (q = 23 ∧ j = 7) ∨ (q = 23 ∧ j = 8) ∨ (q = 39 ∧ j = 12) ∨ (q = 39 ∧ j = 15) ∨ q = 43 ∨ (q = 15 ∧ (I 15 j ≤ 0)) ∨ (q = 16 ∧ (I 15 (j / 40) ≤ 0))) → Iₚ q j = I q j := fun q j h => (g q j).resolve_left h
    have gz : ∀ q j : Nat, ¬ ((q = 23 ∧ j = 9) ∨ q = 44 ∨ q = 45 ∨ q = 17) → Jₚ q j = J q j := fun q j h => (k q j).resolve_left h
    have h17 := fz 1 17 (by (/-134-/first | omega | (simp only [gz_hd] at *; omega)))
    have fu : gh_FU I Iₚ := gh_FU_of (fz 4 1 (by (/-135-/first | omega | (simp only [gz_hd] at *; omega)))) (fun j => fz 11 j (by (/-136-/first | omega | (simp only [gz_hd] at *; omega)))) (fun j => fz 12 j (by (/-137-/first | omega | (simp only [gz_hd] at *; omega)))) (fun j => fz 13 j (by (/-138-/first | omega | (simp only [gz_hd] at *; omega))))
    have me : gh_ME I Iₚ := fun f _ hf => ⟨fz 15 f (by (/-139-/first | omega | (simp only [gz_hd] at *; omega))), fun k9 hk9 => fz 16 (f * 40 + k9) (by rw [show (f * 40 + k9) / 40 = f from by (/-140-/first | omega | (simp only [gz_hd] at *; omega))]; (/-141-/first | omega | (simp only [gz_hd] at *; omega)))⟩
    have hh := gh_HS_s hs hIₚ ok9 (fun q j _ => (g q j).imp (fun h => by unfold gh_mw; (/-142-/first | omega | (simp only [gz_hd] at *; omega))) id) (fun q j h1 => fz q j (by (/-143-/first | omega | (simp only [gz_hd] at *; omega)))) (fz 8 1 (by (/-144-/first | omega | (simp only [gz_hd] at *; omega)))) (by have := fz 1 5 (by (/-145-/first | omega | (simp only [gz_hd] at *; omega))); (/-146-/first | (and_intros <;> omega) | (simp only [gz_hd] at *; omega))) (by have := fz 2 1 (by (/-147-/first | omega | (simp only [gz_hd] at *; omega))); (/-148-/first | omega | (simp only [gz_hd] at *; omega))) fu me (KE_MS)
    have ct := gs_ct_s (Iₚ := Iₚ) (Jₚ := Jₚ) hs (fun q j h1 => fz q j (by (/-149-/first | omega | (simp only [gz_hd] at *; omega)))) (fun q j h1 => gz q j (by (/-150-/first | omega | (simp only [gz_hd] at *; omega))))
    have eC : gs_stc β η Ir Jr p = gs_mn β η Ir Jr (I 39 5) (gs_X β η p) := by rw [yf]; exact (if_pos yT).trans (gs_stk_89 eK)
    have sp : gs_SP β η p Ir Jr z Iₚ Jₚ A := by
      unfold gs_SP
      rw [eC]
      refine ⟨fun h9 => ?_, fun h9 => ?_⟩
      · obtain ⟨c1, c2, d1⟩ := gs_or0 p2 h9
        exact ⟨c1, c2, gs_R_same yR ⟨⟨(fz 2 1 (by (/-151-/first | omega | (simp only [gz_hd] at *; omega)))), (fz 4 1 (by (/-152-/first | omega | (simp only [gz_hd] at *; omega)))), (fz 6 1 (by (/-153-/first | omega | (simp only [gz_hd] at *; omega)))), (fz 8 1 (by (/-154-/first | omega | (simp only [gz_hd] at *; omega))))⟩, (fun k9 => ⟨(gz 3 k9 (by (/-155-/first | omega | (simp only [gz_hd] at *; omega)))), (gz 5 k9 (by (/-156-/first | omega | (simp only [gz_hd] at *; omega)))), (gz 7 k9 (by (/-157-/first | omega | (simp only [gz_hd] at *; omega)))), (gz 9 k9 (by (/-158-/first | omega | (simp only [gz_hd] at *; omega)))), (gz 18 k9 (by (/-159-/first | omega | (simp only [gz_hd] at *; omega))))⟩), ⟨(fz 1 13 (by (/-160-/first | omega | (simp only [gz_hd] at *; omega)))), (fz 1 5 (by (/-161-/first | omega | (simp only [gz_hd] at *; omega))))⟩, fun k9 => ⟨(fz 11 k9 (by (/-162-/first | omega | (simp only [gz_hd] at *; omega)))), (fz 12 k9 (by (/-163-/first | omega | (simp only [gz_hd] at *; omega)))), (fz 13 k9 (by (/-164-/first | omega | (simp only [gz_hd] at *; omega)))), (d1 k9), (fz 19 k9 (by (/-165-/first | omega | (simp only [gz_hd] at *; omega)))), (fz 14 k9 (by (/-166-/first | omega | (simp only [gz_hd] at *; omega))))⟩⟩ (fun i t hi ht => ⟨ht, ct i t hi ht⟩)⟩
      · obtain ⟨c1, c2, s1⟩ := gs_or1 p2 (by (/-167-/first | omega | (simp only [gz_hd] at *; omega)))
        refine ⟨c1, c2, (fz 1 18 (by (/-168-/first | omega | (simp only [gz_hd] at *; omega)))).trans y4, fun Irₚ Jrₚ hU => ?_⟩
        obtain ⟨u1, ts⟩ := gs_STU_k hU 89 (by decide) eK
        exact gs_R_glob yR (gs_GN_fr rn2 (fz 2 1 (by (/-169-/first | omega | (simp only [gz_hd] at *; omega)))) (fun k9 => (gz 3 k9 (by (/-170-/first | omega | (simp only [gz_hd] at *; omega))))) (ts.1 2 rfl rfl) (ts.2.2 2 rfl rfl)) (gs_GN_fr rn4 (fz 4 1 (by (/-171-/first | omega | (simp only [gz_hd] at *; omega)))) (fun k9 => (gz 5 k9 (by (/-172-/first | omega | (simp only [gz_hd] at *; omega))))) (ts.1 3 rfl rfl) (ts.2.2 3 rfl rfl)) (gs_GN_fr rn6 (fz 6 1 (by (/-173-/first | omega | (simp only [gz_hd] at *; omega)))) (fun k9 => (gz 7 k9 (by (/-174-/first | omega | (simp only [gz_hd] at *; omega))))) (ts.1 4 rfl rfl) (ts.2.2 4 rfl rfl)) (fz 8 1 (by (/-175-/first | omega | (simp only [gz_hd] at *; omega)))) (fun k9 => (gz 9 k9 (by (/-176-/first | omega | (simp only [gz_hd] at *; omega))))) (gs_GF_fr rgf (fz 1 13 (by (/-177-/first | omega | (simp only [gz_hd] at *; omega)))) (fun k9 => (gz 18 k9 (by (/-178-/first | omega | (simp only [gz_hd] at *; omega))))) (fun k9 => (fz 19 k9 (by (/-179-/first | omega | (simp only [gz_hd] at *; omega))))) (ts.1 5 rfl rfl) (fun k9 => ⟨ts.2.2 5 rfl rfl k9, ts.2.1 11 rfl rfl k9, ts.2.1 12 rfl rfl k9⟩)) (gs_GK_mean rgk (fz 4 1 (by (/-180-/first | omega | (simp only [gz_hd] at *; omega)))) (fun k9 => (fz 11 k9 (by (/-181-/first | omega | (simp only [gz_hd] at *; omega))))) (fun k9 => (fz 12 k9 (by (/-182-/first | omega | (simp only [gz_hd] at *; omega))))) (fun k9 => (fz 13 k9 (by (/-183-/first | omega | (simp only [gz_hd] at *; omega))))) (fun k9 => ⟨ts.2.1 6 rfl rfl k9, ts.2.1 7 rfl rfl k9, ts.2.1 8 rfl rfl k9⟩) s1 u1 (fun k9 => (fz 14 k9 (by (/-184-/first | omega | (simp only [gz_hd] at *; omega))))) (fun k9 => ts.2.1 9 rfl rfl k9)) (fz 1 5 (by (/-185-/first | omega | (simp only [gz_hd] at *; omega)))) ct (gs_rA_ts ts rfl) (ts.1 1 rfl rfl) (ts.1 6 rfl rfl) (ts.2.2 1 rfl rfl)
    have sc : gs_SCV β η p Ir Jr I A z Iₚ A := gs_SCV_s hs (gc_PKs_fr gc_PKs_rf (fz 1 17 (by (/-186-/first | omega | (simp only [gz_hd] at *; omega)))) (fun k9 => fz 20 k9 (by (/-187-/first | omega | (simp only [gz_hd] at *; omega))))) (fz 8 1 (by (/-188-/first | omega | (simp only [gz_hd] at *; omega)))) (fun q j h1 => fz q j (by (/-189-/first | omega | (simp only [gz_hd] at *; omega))))
    exact gv_Yend ⟨z, sh, ro, Iₚ, Jₚ, A, Or.inr (Or.inl ⟨z, .boolean, hD 105 _ rfl, rfl, Or.inr ⟨rfl, by (/-190-/first | omega | (simp only [gz_hd] at *; omega))⟩, rfl, rfl⟩), rfl, rfl, ⟨⟨z0, z1⟩, hh.1, hh.2, KE_LT, KE_TK, ⟨p0, p1, by (/-191-/first | omega | (simp only [gz_hd] at *; omega)), fun k9 => fz 21 k9 (by (/-192-/first | omega | (simp only [gz_hd] at *; omega)))⟩, ⟨by (/-193-/first | omega | (simp only [gz_hd] at *; omega)), by (/-194-/first | omega | (simp only [gz_hd] at *; omega)), by (/-195-/first | omega | (simp only [gz_hd] at *; omega))⟩⟩, ⟨sp, sc⟩⟩
  have n89 : ¬ gs_rn β η p = gs_W 89 := fun e9 => gs_cmpn (a := v1) (b := 1835360622) (by (/-196-/first | omega | (simp only [gz_hd] at *; omega))) (yv.trans ((gs_al_eq (gs_al_p yT) (gs_W_al 89 (by decide) (by decide))).mpr e9))
  show gv_Y _ _ (106, [(0, .inr (.inr (some 39))), (1, .inr (.inl v1))], [], sh, gc_h sh I J A)
  have f106 := gz_hi (gw_cmp v1 (499967946343))
  refine gv_lift (fun hk => gv_run 3 true hD (pcₚ := 111) (lvₚ := [(0, .inr (.inr (some 39))), (1, .inr (.inl v1))]) (stₚ := [.inl ((lg_cmp v1 (499967946343)).toInt)]) (hₚ := gc_h sh I J A) (C := (((True ∧ True) ∧ True) ∧ True)) rfl ⟨⟨⟨trivial, trivial⟩, trivial⟩, trivial⟩ hk) ?_
  refine gv_YofX (gv_if_ne (t := 126) hD rfl rfl ⟨by (/-197-/first | (have o1 := gz_sh f106; omega) | (simp only [gz_hd] at *; omega)), by (/-198-/first | (have o1 := gz_sh f106; omega) | (simp only [gz_hd] at *; omega))⟩ (fun c => gv_Xz ?_) (fun c => gv_Xz ?_))
  rotate_left
  · show gv_Y _ _ (114, [(0, .inr (.inr (some 39))), (1, .inr (.inl v1))], [], sh, gc_h sh I J A)
    refine gv_lift (fun hk => gv_run 2 true hD (pcₚ := 116) (lvₚ := [(0, .inr (.inr (some 39))), (1, .inr (.inl v1))]) (stₚ := [.inr (.inr (some 39)), .inr (.inr (some 39))]) (hₚ := gc_h sh I J A) (C := ((True ∧ True) ∧ True)) rfl ⟨⟨trivial, trivial⟩, trivial⟩ hk) ?_
    refine gv_lift (fun hk => gv_get hD rfl rfl S39 ⟨by decide, by decide⟩ (gc_hA S39 rfl A39) hk) ?_
    refine gv_lift (fun hk => gv_get hD rfl rfl S1 ⟨by decide, by decide⟩ (gc_hA S1 rfl (show A 1 2 = some 6 from gc_bA hb rfl)) hk) ?_
    have eK : gs_rn β η p = gs_W 90 := (gs_al_eq (gs_al_p yT) (gs_W_al 90 (by decide) (by decide))).mp (yv.symm.trans (gs_cmp0 (a := v1) (b := 499967946343) (by (/-199-/first | omega | (simp only [gz_hd] at *; omega)))))
    obtain ⟨r9, h9, E9, P9⟩ := d_X6_readNewName_a_p hws htb sh ro I J A hI 8 6 β η (gs_X β η p) Ir Jr 4 4 6 hb (gc_b6 hb) y1 y2 y4 rn6.1 rn6.2 KLT_I KTK_I
    obtain ⟨Iₚ, Jₚ, rfl, hIₚ, g, k, KE_LT, KE_TK, z, rfl, z0, z1, p0, p1, p2, p3⟩ := P9
    refine gv_lift (fun hk => gv_callV hD rfl (As := [.inr (.inr (some 6))]) (st := []) rfl (by decide) S39 rfl (gc_lV6 hws rfl) (Nat.le_of_ble_eq_true rfl) (gz_Ev_mono (d := 5) (by decide) E9) hk) ?_
    have ok9 : gc_OK sh Iₚ Jₚ A := gc_OK_fr hok (fun q j => (g q j).imp (fun h => by
        rcases h with ⟨rfl, rfl⟩ | ⟨rfl, rfl⟩ | ⟨rfl, rfl⟩ | ⟨rfl, rfl⟩ | ⟨rfl, rfl⟩ | ⟨rfl, rfl⟩ | ⟨rfl, rfl⟩
        · exact ⟨gc_x_lt (gc_bS hb (p := 39) rfl), gc_tyx (gc_bS hb (p := 39) rfl)⟩
        · exact ⟨gc_x_lt (gc_bS hb (p := 39) rfl), gc_tyx (gc_bS hb (p := 39) rfl)⟩
        · exact ⟨gc_x_lt (gc_bS hb (p := 23) rfl), gc_tyx (gc_bS hb (p := 23) rfl)⟩
        · exact ⟨gc_x_lt (gc_bS hb (p := 23) rfl), gc_tyx (gc_bS hb (p := 23) rfl)⟩
        · exact ⟨gc_x_lt (gc_bS hb (p := 23) rfl), gc_tyx (gc_bS hb (p := 23) rfl)⟩
        · exact ⟨gc_x_lt (gc_bS hb (p := 23) rfl), gc_tyx (gc_bS hb (p := 23) rfl)⟩
        · exact ⟨gc_x_lt (gc_bS hb (p := 6) rfl), gc_tyx (gc_bS hb (p := 6) rfl)⟩
        ) id) (fun q j => (k q j).imp (fun h => by first | exact False.elim h | (/-200-/first | omega | (simp only [gz_hd] at *; omega))) id)
    have fz : ∀ q j : Nat, ¬ ((q = 39 ∧ j = 3) ∨ (q = 39 ∧ j = 4) ∨ (q = 23 ∧ j = 5) ∨ (q = 23 ∧ j = 6) ∨ (q = 23 ∧ j = 7) ∨ (q = 23 ∧ j = 8) ∨ (q = 6 ∧ j = 1)) → Iₚ q j = I q j := fun q j h => (g q j).resolve_left h
    have gz : ∀ q j : Nat, ¬ ((q = 23 ∧ j = 9) ∨ q = 7) → Jₚ q j = J q j := fun q j h => (k q j).resolve_left h
    have h17 := fz 1 17 (by (/-201-/first | omega | (simp only [gz_hd] at *; omega)))
    have fu : gh_FU I Iₚ := gh_FU_of (fz 4 1 (by (/-202-/first | omega | (simp only [gz_hd] at *; omega)))) (fun j => fz 11 j (by (/-203-/first | omega | (simp only [gz_hd] at *; omega)))) (fun j => fz 12 j (by (/-204-/first | omega | (simp only [gz_hd] at *; omega)))) (fun j => fz 13 j (by (/-205-/first | omega | (simp only [gz_hd] at *; omega))))
    have me : gh_ME I Iₚ := gh_ME_of (fun j => fz 15 j (by (/-206-/first | omega | (simp only [gz_hd] at *; omega)))) (fun j => fz 16 j (by (/-207-/first | omega | (simp only [gz_hd] at *; omega))))
    have hh := gh_HS_s hs hIₚ ok9 (fun q j _ => (g q j).imp (fun h => by unfold gh_mw; (/-208-/first | omega | (simp only [gz_hd] at *; omega))) id) (fun q j h1 => fz q j (by (/-209-/first | omega | (simp only [gz_hd] at *; omega)))) (fz 8 1 (by (/-210-/first | omega | (simp only [gz_hd] at *; omega)))) (by have := fz 1 5 (by (/-211-/first | omega | (simp only [gz_hd] at *; omega))); (/-212-/first | (and_intros <;> omega) | (simp only [gz_hd] at *; omega))) (by have := fz 2 1 (by (/-213-/first | omega | (simp only [gz_hd] at *; omega))); (/-214-/first | omega | (simp only [gz_hd] at *; omega))) fu me (gh_MS_st hs.2.2.2.2.2.1 fu (fun j => fz 15 j (by (/-215-/first | omega | (simp only [gz_hd] at *; omega)))) (fun j => fz 16 j (by (/-216-/first | omega | (simp only [gz_hd] at *; omega)))))
    have ct := gs_ct_s (Iₚ := Iₚ) (Jₚ := Jₚ) hs (fun q j h1 => fz q j (by (/-217-/first | omega | (simp only [gz_hd] at *; omega)))) (fun q j h1 => gz q j (by (/-218-/first | omega | (simp only [gz_hd] at *; omega))))
    have eC : gs_stc β η Ir Jr p = gs_new β η Ir Jr 4 4 ((8 : Nat) : Int) (I 39 5) (gs_X β η p) := by rw [yf]; exact (if_pos yT).trans (gs_stk_90 eK)
    have sp : gs_SP β η p Ir Jr z Iₚ Jₚ A := by
      unfold gs_SP
      rw [eC]
      refine ⟨fun h9 => ?_, fun h9 => ?_⟩
      · obtain ⟨c1, c2, d1, d2⟩ := gs_or0 p3 h9
        exact ⟨c1, c2, gs_R_same yR ⟨⟨(fz 2 1 (by (/-219-/first | omega | (simp only [gz_hd] at *; omega)))), (fz 4 1 (by (/-220-/first | omega | (simp only [gz_hd] at *; omega)))), d1, (fz 8 1 (by (/-221-/first | omega | (simp only [gz_hd] at *; omega))))⟩, (fun k9 => ⟨(gz 3 k9 (by (/-222-/first | omega | (simp only [gz_hd] at *; omega)))), (gz 5 k9 (by (/-223-/first | omega | (simp only [gz_hd] at *; omega)))), (d2 k9), (gz 9 k9 (by (/-224-/first | omega | (simp only [gz_hd] at *; omega)))), (gz 18 k9 (by (/-225-/first | omega | (simp only [gz_hd] at *; omega))))⟩), ⟨(fz 1 13 (by (/-226-/first | omega | (simp only [gz_hd] at *; omega)))), (fz 1 5 (by (/-227-/first | omega | (simp only [gz_hd] at *; omega))))⟩, fun k9 => ⟨(fz 11 k9 (by (/-228-/first | omega | (simp only [gz_hd] at *; omega)))), (fz 12 k9 (by (/-229-/first | omega | (simp only [gz_hd] at *; omega)))), (fz 13 k9 (by (/-230-/first | omega | (simp only [gz_hd] at *; omega)))), (fz 15 k9 (by (/-231-/first | omega | (simp only [gz_hd] at *; omega)))), (fz 19 k9 (by (/-232-/first | omega | (simp only [gz_hd] at *; omega)))), (fz 14 k9 (by (/-233-/first | omega | (simp only [gz_hd] at *; omega))))⟩⟩ (fun i t hi ht => ⟨ht, ct i t hi ht⟩)⟩
      · obtain ⟨c1, c2, s1, s2⟩ := gs_or1 p3 (by (/-234-/first | omega | (simp only [gz_hd] at *; omega)))
        have t1 := gz_hi (gs_al_p (gs_t_new c1 fA))
        refine ⟨c1, c2, (fz 1 18 (by (/-235-/first | omega | (simp only [gz_hd] at *; omega)))).trans y4, fun Irₚ Jrₚ hU => ?_⟩
        obtain ⟨u1, ts⟩ := gs_STU_k hU 90 (by decide) eK
        exact gs_R_glob yR (gs_GN_fr rn2 (fz 2 1 (by (/-236-/first | omega | (simp only [gz_hd] at *; omega)))) (fun k9 => (gz 3 k9 (by (/-237-/first | omega | (simp only [gz_hd] at *; omega))))) (ts.1 2 rfl rfl) (ts.2.2 2 rfl rfl)) (gs_GN_fr rn4 (fz 4 1 (by (/-238-/first | omega | (simp only [gz_hd] at *; omega)))) (fun k9 => (gz 5 k9 (by (/-239-/first | omega | (simp only [gz_hd] at *; omega))))) (ts.1 3 rfl rfl) (ts.2.2 3 rfl rfl)) (gs_GN_put (n := 8) rn6 (gc_b_6_1 hI (gc_bR_6 hb)).1 s2 s1 u1 (gz_sh t1)) (fz 8 1 (by (/-240-/first | omega | (simp only [gz_hd] at *; omega)))) (fun k9 => (gz 9 k9 (by (/-241-/first | omega | (simp only [gz_hd] at *; omega))))) (gs_GF_fr rgf (fz 1 13 (by (/-242-/first | omega | (simp only [gz_hd] at *; omega)))) (fun k9 => (gz 18 k9 (by (/-243-/first | omega | (simp only [gz_hd] at *; omega))))) (fun k9 => (fz 19 k9 (by (/-244-/first | omega | (simp only [gz_hd] at *; omega))))) (ts.1 5 rfl rfl) (fun k9 => ⟨ts.2.2 5 rfl rfl k9, ts.2.1 11 rfl rfl k9, ts.2.1 12 rfl rfl k9⟩)) (gs_GK_fr rgk (fz 4 1 (by (/-245-/first | omega | (simp only [gz_hd] at *; omega)))) (fun k9 => (fz 11 k9 (by (/-246-/first | omega | (simp only [gz_hd] at *; omega))))) (fun k9 => (fz 12 k9 (by (/-247-/first | omega | (simp only [gz_hd] at *; omega))))) (fun k9 => (fz 13 k9 (by (/-248-/first | omega | (simp only [gz_hd] at *; omega))))) (fun k9 => (fz 15 k9 (by (/-249-/first | omega | (simp only [gz_hd] at *; omega))))) (fun k9 => ⟨ts.2.1 6 rfl rfl k9, ts.2.1 7 rfl rfl k9, ts.2.1 8 rfl rfl k9, ts.2.1 10 rfl rfl k9⟩) (fun k9 => (fz 14 k9 (by (/-250-/first | omega | (simp only [gz_hd] at *; omega))))) (fun k9 => ts.2.1 9 rfl rfl k9)) (fz 1 5 (by (/-251-/first | omega | (simp only [gz_hd] at *; omega)))) ct (gs_rA_ts ts rfl) (ts.1 1 rfl rfl) (ts.1 6 rfl rfl) (ts.2.2 1 rfl rfl)
    have sc : gs_SCV β η p Ir Jr I A z Iₚ A := gs_SCV_s hs (gc_PKs_fr gc_PKs_rf (fz 1 17 (by (/-252-/first | omega | (simp only [gz_hd] at *; omega)))) (fun k9 => fz 20 k9 (by (/-253-/first | omega | (simp only [gz_hd] at *; omega))))) (fz 8 1 (by (/-254-/first | omega | (simp only [gz_hd] at *; omega)))) (fun q j h1 => fz q j (by (/-255-/first | omega | (simp only [gz_hd] at *; omega))))
    exact gv_Yend ⟨z, sh, ro, Iₚ, Jₚ, A, Or.inr (Or.inl ⟨z, .boolean, hD 125 _ rfl, rfl, Or.inr ⟨rfl, by (/-256-/first | omega | (simp only [gz_hd] at *; omega))⟩, rfl, rfl⟩), rfl, rfl, ⟨⟨z0, z1⟩, hh.1, hh.2, KE_LT, KE_TK, ⟨p0, p1, by (/-257-/first | omega | (simp only [gz_hd] at *; omega)), fun k9 => fz 21 k9 (by (/-258-/first | omega | (simp only [gz_hd] at *; omega)))⟩, ⟨by (/-259-/first | omega | (simp only [gz_hd] at *; omega)), by (/-260-/first | omega | (simp only [gz_hd] at *; omega)), by (/-261-/first | omega | (simp only [gz_hd] at *; omega))⟩⟩, ⟨sp, sc⟩⟩
  have n90 : ¬ gs_rn β η p = gs_W 90 := fun e9 => gs_cmpn (a := v1) (b := 499967946343) (by (/-262-/first | omega | (simp only [gz_hd] at *; omega))) (yv.trans ((gs_al_eq (gs_al_p yT) (gs_W_al 90 (by decide) (by decide))).mpr e9))
  show gv_Y _ _ (126, [(0, .inr (.inr (some 39))), (1, .inr (.inl v1))], [], sh, gc_h sh I J A)
  have f126 := gz_hi (gw_cmp v1 (1717658484))
  refine gv_lift (fun hk => gv_run 3 true hD (pcₚ := 131) (lvₚ := [(0, .inr (.inr (some 39))), (1, .inr (.inl v1))]) (stₚ := [.inl ((lg_cmp v1 (1717658484)).toInt)]) (hₚ := gc_h sh I J A) (C := (((True ∧ True) ∧ True) ∧ True)) rfl ⟨⟨⟨trivial, trivial⟩, trivial⟩, trivial⟩ hk) ?_
  refine gv_YofX (gv_if_ne (t := 139) hD rfl rfl ⟨by (/-263-/first | (have o1 := gz_sh f126; omega) | (simp only [gz_hd] at *; omega)), by (/-264-/first | (have o1 := gz_sh f126; omega) | (simp only [gz_hd] at *; omega))⟩ (fun c => gv_Xz ?_) (fun c => gv_Xz ?_))
  rotate_left
  · show gv_Y _ _ (134, [(0, .inr (.inr (some 39))), (1, .inr (.inl v1))], [], sh, gc_h sh I J A)
    refine gv_lift (fun hk => gv_run 1 true hD (pcₚ := 135) (lvₚ := [(0, .inr (.inr (some 39))), (1, .inr (.inl v1))]) (stₚ := [.inr (.inr (some 39))]) (hₚ := gc_h sh I J A) (C := (True ∧ True)) rfl ⟨trivial, trivial⟩ hk) ?_
    have eK : gs_rn β η p = gs_W 91 := (gs_al_eq (gs_al_p yT) (gs_W_al 91 (by decide) (by decide))).mp (yv.symm.trans (gs_cmp0 (a := v1) (b := 1717658484) (by (/-265-/first | omega | (simp only [gz_hd] at *; omega)))))
    obtain ⟨r9, h9, E9, P9⟩ := d_X6_readFact_p hws htb sh ro I J A hI β η (gs_X β η p) Ir Jr hb y1 y2 y4 rgf.1 rgf.2 rn6.1 rn6.2 KLT_I KTK_I
    obtain ⟨Iₚ, Jₚ, rfl, hIₚ, g, k, KE_LT, KE_TK, z, rfl, z0, z1, p0, p1, p2⟩ := P9
    refine gv_lift (fun hk => gv_callV hD rfl (As := []) (st := []) rfl (by decide) S39 rfl (gc_lV6 hws rfl) (Nat.le_of_ble_eq_true rfl) (gz_Ev_mono (d := 5) (by decide) E9) hk) ?_
    have ok9 : gc_OK sh Iₚ Jₚ A := gc_OK_fr hok (fun q j => (g q j).imp (fun h => by
        rcases h with ⟨rfl, rfl⟩ | ⟨rfl, rfl⟩ | ⟨rfl, rfl⟩ | ⟨rfl, rfl⟩ | ⟨rfl, rfl⟩ | ⟨rfl, rfl⟩ | rfl | ⟨rfl, rfl⟩
        · exact ⟨gc_x_lt (gc_bS hb (p := 39) rfl), gc_tyx (gc_bS hb (p := 39) rfl)⟩
        · exact ⟨gc_x_lt (gc_bS hb (p := 39) rfl), gc_tyx (gc_bS hb (p := 39) rfl)⟩
        · exact ⟨gc_x_lt (gc_bS hb (p := 23) rfl), gc_tyx (gc_bS hb (p := 23) rfl)⟩
        · exact ⟨gc_x_lt (gc_bS hb (p := 23) rfl), gc_tyx (gc_bS hb (p := 23) rfl)⟩
        · exact ⟨gc_x_lt (gc_bS hb (p := 23) rfl), gc_tyx (gc_bS hb (p := 23) rfl)⟩
        · exact ⟨gc_x_lt (gc_bS hb (p := 23) rfl), gc_tyx (gc_bS hb (p := 23) rfl)⟩
        · exact ⟨gc_x_lt (gc_bS hb (p := 19) rfl), gc_tyx (gc_bS hb (p := 19) rfl)⟩
        · exact ⟨gc_x_lt (gc_bS hb (p := 1) rfl), gc_tyx (gc_bS hb (p := 1) rfl)⟩
        ) id) (fun q j => (k q j).imp (fun h => by first | exact False.elim h | (/-266-/first | omega | (simp only [gz_hd] at *; omega))) id)
    have fz : ∀ q j : Nat, ¬ ((q = 39 ∧ j = 3) ∨ (q = 39 ∧ j = 4) ∨ (q = 23 ∧ j = 5) ∨ (q = 23 ∧ j = 6) ∨ (q = 23 ∧ j = 7) ∨ (q = 23 ∧ j = 8) ∨ q = 19 ∨ (q = 1 ∧ j = 13)) → Iₚ q j = I q j := fun q j h => (g q j).resolve_left h
    have gz : ∀ q j : Nat, ¬ ((q = 23 ∧ j = 9) ∨ q = 18) → Jₚ q j = J q j := fun q j h => (k q j).resolve_left h
    have h17 := fz 1 17 (by (/-267-/first | omega | (simp only [gz_hd] at *; omega)))
    have fu : gh_FU I Iₚ := gh_FU_of (fz 4 1 (by (/-268-/first | omega | (simp only [gz_hd] at *; omega)))) (fun j => fz 11 j (by (/-269-/first | omega | (simp only [gz_hd] at *; omega)))) (fun j => fz 12 j (by (/-270-/first | omega | (simp only [gz_hd] at *; omega)))) (fun j => fz 13 j (by (/-271-/first | omega | (simp only [gz_hd] at *; omega))))
    have me : gh_ME I Iₚ := gh_ME_of (fun j => fz 15 j (by (/-272-/first | omega | (simp only [gz_hd] at *; omega)))) (fun j => fz 16 j (by (/-273-/first | omega | (simp only [gz_hd] at *; omega))))
    have hh := gh_HS_s hs hIₚ ok9 (fun q j _ => (g q j).imp (fun h => by unfold gh_mw; (/-274-/first | omega | (simp only [gz_hd] at *; omega))) id) (fun q j h1 => fz q j (by (/-275-/first | omega | (simp only [gz_hd] at *; omega)))) (fz 8 1 (by (/-276-/first | omega | (simp only [gz_hd] at *; omega)))) (by have := fz 1 5 (by (/-277-/first | omega | (simp only [gz_hd] at *; omega))); (/-278-/first | (and_intros <;> omega) | (simp only [gz_hd] at *; omega))) (by have := fz 2 1 (by (/-279-/first | omega | (simp only [gz_hd] at *; omega))); (/-280-/first | omega | (simp only [gz_hd] at *; omega))) fu me (gh_MS_st hs.2.2.2.2.2.1 fu (fun j => fz 15 j (by (/-281-/first | omega | (simp only [gz_hd] at *; omega)))) (fun j => fz 16 j (by (/-282-/first | omega | (simp only [gz_hd] at *; omega)))))
    have ct := gs_ct_s (Iₚ := Iₚ) (Jₚ := Jₚ) hs (fun q j h1 => fz q j (by (/-283-/first | omega | (simp only [gz_hd] at *; omega)))) (fun q j h1 => gz q j (by (/-284-/first | omega | (simp only [gz_hd] at *; omega))))
    have eC : gs_stc β η Ir Jr p = gs_fact β η Ir Jr (I 39 5) (gs_X β η p) := by rw [yf]; exact (if_pos yT).trans (gs_stk_91 eK)
    have sp : gs_SP β η p Ir Jr z Iₚ Jₚ A := by
      unfold gs_SP
      rw [eC]
      refine ⟨fun h9 => ?_, fun h9 => ?_⟩
      · obtain ⟨c1, c2, d1, d2, d3⟩ := gs_or0 p2 h9
        exact ⟨c1, c2, gs_R_same yR ⟨⟨(fz 2 1 (by (/-285-/first | omega | (simp only [gz_hd] at *; omega)))), (fz 4 1 (by (/-286-/first | omega | (simp only [gz_hd] at *; omega)))), (fz 6 1 (by (/-287-/first | omega | (simp only [gz_hd] at *; omega)))), (fz 8 1 (by (/-288-/first | omega | (simp only [gz_hd] at *; omega))))⟩, (fun k9 => ⟨(gz 3 k9 (by (/-289-/first | omega | (simp only [gz_hd] at *; omega)))), (gz 5 k9 (by (/-290-/first | omega | (simp only [gz_hd] at *; omega)))), (gz 7 k9 (by (/-291-/first | omega | (simp only [gz_hd] at *; omega)))), (gz 9 k9 (by (/-292-/first | omega | (simp only [gz_hd] at *; omega)))), (d2 k9)⟩), ⟨d1, (fz 1 5 (by (/-293-/first | omega | (simp only [gz_hd] at *; omega))))⟩, fun k9 => ⟨(fz 11 k9 (by (/-294-/first | omega | (simp only [gz_hd] at *; omega)))), (fz 12 k9 (by (/-295-/first | omega | (simp only [gz_hd] at *; omega)))), (fz 13 k9 (by (/-296-/first | omega | (simp only [gz_hd] at *; omega)))), (fz 15 k9 (by (/-297-/first | omega | (simp only [gz_hd] at *; omega)))), (d3 k9), (fz 14 k9 (by (/-298-/first | omega | (simp only [gz_hd] at *; omega))))⟩⟩ (fun i t hi ht => ⟨ht, ct i t hi ht⟩)⟩
      · obtain ⟨c1, c2, s1⟩ := gs_or1 p2 (by (/-299-/first | omega | (simp only [gz_hd] at *; omega)))
        have t1 := gz_hi (gs_al_p (gs_t_fact c1 fA))
        refine ⟨c1, c2, (fz 1 18 (by (/-300-/first | omega | (simp only [gz_hd] at *; omega)))).trans y4, fun Irₚ Jrₚ hU => ?_⟩
        obtain ⟨u1, ts⟩ := gs_STU_k hU 91 (by decide) eK
        exact gs_R_glob yR (gs_GN_fr rn2 (fz 2 1 (by (/-301-/first | omega | (simp only [gz_hd] at *; omega)))) (fun k9 => (gz 3 k9 (by (/-302-/first | omega | (simp only [gz_hd] at *; omega))))) (ts.1 2 rfl rfl) (ts.2.2 2 rfl rfl)) (gs_GN_fr rn4 (fz 4 1 (by (/-303-/first | omega | (simp only [gz_hd] at *; omega)))) (fun k9 => (gz 5 k9 (by (/-304-/first | omega | (simp only [gz_hd] at *; omega))))) (ts.1 3 rfl rfl) (ts.2.2 3 rfl rfl)) (gs_GN_fr rn6 (fz 6 1 (by (/-305-/first | omega | (simp only [gz_hd] at *; omega)))) (fun k9 => (gz 7 k9 (by (/-306-/first | omega | (simp only [gz_hd] at *; omega))))) (ts.1 4 rfl rfl) (ts.2.2 4 rfl rfl)) (fz 8 1 (by (/-307-/first | omega | (simp only [gz_hd] at *; omega)))) (fun k9 => (gz 9 k9 (by (/-308-/first | omega | (simp only [gz_hd] at *; omega))))) (gs_GF_put rgf (gc_b_22_13 hI (gc_bR_1 hb)).1 s1 u1 (gz_sh t1)) (gs_GK_fr rgk (fz 4 1 (by (/-309-/first | omega | (simp only [gz_hd] at *; omega)))) (fun k9 => (fz 11 k9 (by (/-310-/first | omega | (simp only [gz_hd] at *; omega))))) (fun k9 => (fz 12 k9 (by (/-311-/first | omega | (simp only [gz_hd] at *; omega))))) (fun k9 => (fz 13 k9 (by (/-312-/first | omega | (simp only [gz_hd] at *; omega))))) (fun k9 => (fz 15 k9 (by (/-313-/first | omega | (simp only [gz_hd] at *; omega))))) (fun k9 => ⟨ts.2.1 6 rfl rfl k9, ts.2.1 7 rfl rfl k9, ts.2.1 8 rfl rfl k9, ts.2.1 10 rfl rfl k9⟩) (fun k9 => (fz 14 k9 (by (/-314-/first | omega | (simp only [gz_hd] at *; omega))))) (fun k9 => ts.2.1 9 rfl rfl k9)) (fz 1 5 (by (/-315-/first | omega | (simp only [gz_hd] at *; omega)))) ct (gs_rA_ts ts rfl) (ts.1 1 rfl rfl) (ts.1 6 rfl rfl) (ts.2.2 1 rfl rfl)
    have sc : gs_SCV β η p Ir Jr I A z Iₚ A := gs_SCV_s hs (gc_PKs_fr gc_PKs_rf (fz 1 17 (by (/-316-/first | omega | (simp only [gz_hd] at *; omega)))) (fun k9 => fz 20 k9 (by (/-317-/first | omega | (simp only [gz_hd] at *; omega))))) (fz 8 1 (by (/-318-/first | omega | (simp only [gz_hd] at *; omega)))) (fun q j h1 => fz q j (by (/-319-/first | omega | (simp only [gz_hd] at *; omega))))
    exact gv_Yend ⟨z, sh, ro, Iₚ, Jₚ, A, Or.inr (Or.inl ⟨z, .boolean, hD 138 _ rfl, rfl, Or.inr ⟨rfl, by (/-320-/first | omega | (simp only [gz_hd] at *; omega))⟩, rfl, rfl⟩), rfl, rfl, ⟨⟨z0, z1⟩, hh.1, hh.2, KE_LT, KE_TK, ⟨p0, p1, by (/-321-/first | omega | (simp only [gz_hd] at *; omega)), fun k9 => fz 21 k9 (by (/-322-/first | omega | (simp only [gz_hd] at *; omega)))⟩, ⟨by (/-323-/first | omega | (simp only [gz_hd] at *; omega)), by (/-324-/first | omega | (simp only [gz_hd] at *; omega)), by (/-325-/first | omega | (simp only [gz_hd] at *; omega))⟩⟩, ⟨sp, sc⟩⟩
  have n91 : ¬ gs_rn β η p = gs_W 91 := fun e9 => gs_cmpn (a := v1) (b := 1717658484) (by (/-326-/first | omega | (simp only [gz_hd] at *; omega))) (yv.trans ((gs_al_eq (gs_al_p yT) (gs_W_al 91 (by decide) (by decide))).mpr e9))
  exact k139 n80 n81 n82 n89 n90 n91
