def gc_MS (I : gr_I) : Prop := ∀ f : Nat, f < 96 → 0 < I 15 f → (f : Int) < I 4 1 ∧ gc_MT I f
theorem gc_MT_fr {I I' : gr_I} {f : Nat} (h : gc_MT I f) (r12 : ∀ k, I' 12 k = I 12 k) (r15 : I' 15 f = I 15 f) (r16 : ∀ k : Nat, (k : Int) < I 15 f → I' 16 (f * 40 + k) = I 16 (f * 40 + k)) : gc_MT I' f := ⟨by rw [r15]; exact gc_TC_eq h.1 (fun k hk => r16 k (by omega)), fun k hk => by
  rw [r15] at hk
  rw [r12]
  show -3 - I 12 f ≤ I' 16 (f * 40 + k)
  rw [r16 k hk]
  exact h.2 k hk⟩
theorem gc_MS_fr {I I' : gr_I} (h : gc_MS I) (h4 : I 4 1 ≤ I' 4 1) (r12 : ∀ k, I' 12 k = I 12 k) (r15 : ∀ k, I' 15 k = I 15 k) (r16 : ∀ k, I' 16 k = I 16 k) : gc_MS I' := fun f h1 h2 => by
  rw [r15] at h2
  have h9 := h f h1 h2
  exact ⟨by omega, gc_MT_fr h9.2 r12 (r15 f) (fun k _ => r16 _)⟩
def gc_TZ (I : gr_I) : Prop := I 39 12 ≤ 40 → gc_TC (I 43) (I 39 12)
theorem gc_TZ_of {I I' : gr_I} (h : gc_TD I I') (h0 : I 39 12 = 0) : gc_TZ I' := fun h4 => by
  have h9 := (h h4).2
  rw [show I' 39 12 - I 39 12 = I' 39 12 from by omega] at h9
  refine gc_TC_eq h9 (fun k _ => ?_)
  show I' 43 k = I' 43 (Int.toNat (I 39 12) + k)
  rw [show Int.toNat (I 39 12) + k = k from by omega]
theorem gc_MS_put {I I' : gr_I} {f0 : Nat} {n : Int} {g : Nat → Int} (h : gc_MS I) (h4 : I 4 1 ≤ I' 4 1) (r12 : ∀ k, I' 12 k = I 12 k) (r15 : ∀ k, ¬ k = f0 → I' 15 k = I 15 k) (r16 : ∀ k, ¬ (f0 * 40 ≤ k ∧ k < f0 * 40 + 40) → I' 16 k = I 16 k) (hr : ∀ k, I 15 k ≤ 40) (h15 : I' 15 f0 = n) (hf : (f0 : Int) < I' 4 1) (hc : gc_TC g n) (he : ∀ k : Nat, (k : Int) < n → I' 16 (f0 * 40 + k) = g k) (hb : ∀ k : Nat, (k : Int) < n → -3 - I' 12 f0 ≤ g k) : gc_MS I' := fun f h1 h2 => by
  by_cases e : f = f0
  · subst e
    refine ⟨hf, ?_, fun k hk => ?_⟩
    · rw [h15]
      exact gc_TC_eq hc (fun k hk => he k (by omega))
    · rw [h15] at hk
      show -3 - I' 12 f ≤ I' 16 (f * 40 + k)
      rw [he k hk]
      exact hb k hk
  · rw [r15 f e] at h2
    have h9 := h f h1 h2
    refine ⟨by omega, gc_MT_fr h9.2 r12 (r15 f e) (fun k hk => r16 _ (fun h8 => ?_))⟩
    have := hr f
    omega
set_option maxHeartbeats 4000000 in
set_option maxRecDepth 100000 in
theorem d_X6_readMean {ws0 : List Cond} {tb : String → gz_T} (hws : gc_Ws ws0) (htb : gc_tbs tb) (sh : gz_Sh) (ro : Nat → Nat) (I : gr_I) (J : gr_J) (A : gc_A) (hI : gc_Inv ro I)  (hb : gc_Base sh ro A)  (KLT_I : gc_LT I) (KTK_I : gc_TK I) (KMS_I : gc_MS I) : ∃ r h', gz_Ev ws0 tb 91 (yX6_readMean, cX6_readMean, 2, (some .boolean)) [.inr (.inr (some 39))] sh (gc_h sh I J A) r sh h' 0 0 ∧ (∃ (I' : gr_I) (J' : gr_J), h' = gc_h sh I' J' A ∧ gc_Inv ro I' ∧ (∀ q j : Nat, ((q = 39 ∧ j = 3) ∨ (q = 39 ∧ j = 4) ∨ (q = 23 ∧ j = 5) ∨ (q = 23 ∧ j = 6) ∨ (q = 23 ∧ j = 7) ∨ (q = 23 ∧ j = 8) ∨ (q = 39 ∧ j = 12) ∨ (q = 39 ∧ j = 15) ∨ q = 43 ∨ q = 15 ∨ q = 16) ∨ I' q j = I q j) ∧ (∀ q j : Nat, ((q = 23 ∧ j = 9) ∨ q = 44 ∨ q = 45 ∨ q = 17) ∨ J' q j = J q j) ∧ gc_LT I' ∧ gc_TK I' ∧ gc_MS I' ∧ (∃ z : Int, r = some (.inl z) ∧ 0 ≤ z ∧ z ≤ 1 ∧ (I' 23 1 = I 23 1) ∧ (I 23 5 ≤ I' 23 5))) := by
  have FI : ∀ q j : Nat, ((q = 39 ∧ j = 3) ∨ (q = 39 ∧ j = 4) ∨ (q = 23 ∧ j = 5) ∨ (q = 23 ∧ j = 6) ∨ (q = 23 ∧ j = 7) ∨ (q = 23 ∧ j = 8) ∨ (q = 39 ∧ j = 12) ∨ (q = 39 ∧ j = 15) ∨ q = 43 ∨ q = 15 ∨ q = 16) ∨ I q j = I q j := fun _ _ => Or.inr rfl
  have FJ : ∀ q j : Nat, ((q = 23 ∧ j = 9) ∨ q = 44 ∨ q = 45 ∨ q = 17) ∨ J q j = J q j := fun _ _ => Or.inr rfl
  have A_1_1 : A 1 1 = some 4 := gc_bA hb rfl
  have A_1_10 : A 1 10 = some 15 := gc_bA hb rfl
  have A_1_11 : A 1 11 = some 16 := gc_bA hb rfl
  have A_1_12 : A 1 12 = some 17 := gc_bA hb rfl
  have A_39_0 : A 39 0 = some 1 := gc_bA hb rfl
  have A_39_1 : A 39 1 = some 23 := gc_bA hb rfl
  have A_39_13 : A 39 13 = some 43 := gc_bA hb rfl
  have A_39_14 : A 39 14 = some 44 := gc_bA hb rfl
  have B_1 : 1 < 1000000 := by decide
  have B_15 : 15 < 1000000 := by decide
  have B_16 : 16 < 1000000 := by decide
  have B_17 : 17 < 1000000 := by decide
  have B_23 : 23 < 1000000 := by decide
  have B_39 : 39 < 1000000 := by decide
  have B_4 : 4 < 1000000 := by decide
  have B_43 : 43 < 1000000 := by decide
  have B_44 : 44 < 1000000 := by decide
  have R_12 : ro 12 = 26 := gc_bR hb (by decide) rfl
  have R_15 : ro 15 = 28 := gc_bR hb (by decide) rfl
  have R_16 : ro 16 = 50 := gc_bR hb (by decide) rfl
  have R_17 : ro 17 = 0 := gc_bR hb (by decide) rfl
  have R_23 : ro 23 = 3 := gc_bR hb (by decide) rfl
  have R_39 : ro 39 = 42 := gc_bR hb (by decide) rfl
  have R_4 : ro 4 = 11 := gc_bR hb (by decide) rfl
  have R_43 : ro 43 = 50 := gc_bR hb (by decide) rfl
  have R_44 : ro 44 = 0 := gc_bR hb (by decide) rfl
  have S_1 : sh[1]? = some (false, 8, 21) := gc_bS hb rfl
  have S_15 : sh[15]? = some (true, 1, 96) := gc_bS hb rfl
  have S_16 : sh[16]? = some (true, 1, 3840) := gc_bS hb rfl
  have S_17 : sh[17]? = some (true, 2, 3840) := gc_bS hb rfl
  have S_23 : sh[23]? = some (false, 9, 10) := gc_bS hb rfl
  have S_39 : sh[39]? = some (false, 6, 19) := gc_bS hb rfl
  have S_4 : sh[4]? = some (false, 4, 2) := gc_bS hb rfl
  have S_43 : sh[43]? = some (true, 1, 40) := gc_bS hb rfl
  have S_44 : sh[44]? = some (true, 2, 40) := gc_bS hb rfl
  have hD : gv_D (gc_E6 ws0 tb 90 (yX6_readMean, cX6_readMean, 2, (some .boolean)) kX6_readMean) := gq_ok oX6_readMean
  refine gc_ev6 (d := 90) (l := kX6_readMean) (Po := fun r h' => (∃ (I' : gr_I) (J' : gr_J), h' = gc_h sh I' J' A ∧ gc_Inv ro I' ∧ (∀ q j : Nat, ((q = 39 ∧ j = 3) ∨ (q = 39 ∧ j = 4) ∨ (q = 23 ∧ j = 5) ∨ (q = 23 ∧ j = 6) ∨ (q = 23 ∧ j = 7) ∨ (q = 23 ∧ j = 8) ∨ (q = 39 ∧ j = 12) ∨ (q = 39 ∧ j = 15) ∨ q = 43 ∨ q = 15 ∨ q = 16) ∨ I' q j = I q j) ∧ (∀ q j : Nat, ((q = 23 ∧ j = 9) ∨ q = 44 ∨ q = 45 ∨ q = 17) ∨ J' q j = J q j) ∧ gc_LT I' ∧ gc_TK I' ∧ gc_MS I' ∧ (∃ z : Int, r = some (.inl z) ∧ 0 ≤ z ∧ z ≤ 1 ∧ (I' 23 1 = I 23 1) ∧ (I 23 5 ≤ I' 23 5)))) htb rfl (Nat.le_of_ble_eq_true rfl) ?_
  have t1 := gc_TK_mo KTK_I
  have f2 := (show 0 ≤ I 23 1 ∧ I 23 1 ≤ 1000 from gc_in hI R_23 rfl rfl)
  have f3 := (show 0 ≤ I 23 5 ∧ I 23 5 ≤ 1000 from gc_in hI R_23 rfl rfl)
  have f4 := (show 0 ≤ I 23 6 ∧ I 23 6 ≤ 1001 from gc_in hI R_23 rfl rfl)
  have f5 := (show 0 ≤ I 23 7 ∧ I 23 7 ≤ 125 from gc_in hI R_23 rfl rfl)
  have f6 := (show 0 ≤ I 39 12 ∧ I 39 12 ≤ 2000 from gc_in hI R_39 rfl rfl)
  have f7 := (show 0 ≤ I 39 15 ∧ I 39 15 ≤ 41 from gc_in hI R_39 rfl rfl)
  have f8 := (show 0 ≤ I 4 1 ∧ I 4 1 ≤ 96 from gc_in hI R_4 rfl rfl)
  have L115 : ∀ (I9 : gr_I) (J10 : gr_J) , gc_Inv ro I9 → (∀ q j : Nat, ((q = 39 ∧ j = 3) ∨ (q = 39 ∧ j = 4) ∨ (q = 23 ∧ j = 5) ∨ (q = 23 ∧ j = 6) ∨ (q = 23 ∧ j = 7) ∨ (q = 23 ∧ j = 8) ∨ (q = 39 ∧ j = 12) ∨ (q = 39 ∧ j = 15) ∨ q = 43 ∨ q = 15 ∨ q = 16) ∨ I9 q j = I q j) → (∀ q j : Nat, ((q = 23 ∧ j = 9) ∨ q = 44 ∨ q = 45 ∨ q = 17) ∨ J10 q j = J q j) → gc_MS I9 → gc_LT I9 → gc_TK I9 → ((I9 23 1 = I 23 1) ∧ (I 23 5 ≤ I9 23 5)) → gv_X (gc_E6 ws0 tb 90 (yX6_readMean, cX6_readMean, 2, (some .boolean)) kX6_readMean) (gv_Q cX6_readMean (some .boolean) sh (fun r h' => (∃ (I' : gr_I) (J' : gr_J), h' = gc_h sh I' J' A ∧ gc_Inv ro I' ∧ (∀ q j : Nat, ((q = 39 ∧ j = 3) ∨ (q = 39 ∧ j = 4) ∨ (q = 23 ∧ j = 5) ∨ (q = 23 ∧ j = 6) ∨ (q = 23 ∧ j = 7) ∨ (q = 23 ∧ j = 8) ∨ (q = 39 ∧ j = 12) ∨ (q = 39 ∧ j = 15) ∨ q = 43 ∨ q = 15 ∨ q = 16) ∨ I' q j = I q j) ∧ (∀ q j : Nat, ((q = 23 ∧ j = 9) ∨ q = 44 ∨ q = 45 ∨ q = 17) ∨ J' q j = J q j) ∧ gc_LT I' ∧ gc_TK I' ∧ gc_MS I' ∧ (∃ z : Int, r = some (.inl z) ∧ 0 ≤ z ∧ z ≤ 1 ∧ (I' 23 1 = I 23 1) ∧ (I 23 5 ≤ I' 23 5))))) (115, [], [], sh, gc_h sh I9 J10 A) := by
    intro I9 J10 hI9 FI9 FJ10 KMS_I9 KLT_I9 KTK_I9 m_11
    obtain ⟨e0_11, e1_11⟩ := m_11
    have t12 := gc_TK_mo KTK_I9
    have f13 := (show 0 ≤ I9 23 1 ∧ I9 23 1 ≤ 1000 from gc_in hI9 R_23 rfl rfl)
    have f14 := (show 0 ≤ I9 23 5 ∧ I9 23 5 ≤ 1000 from gc_in hI9 R_23 rfl rfl)
    have f15 := (show 0 ≤ I9 23 6 ∧ I9 23 6 ≤ 1001 from gc_in hI9 R_23 rfl rfl)
    have f16 := (show 0 ≤ I9 23 7 ∧ I9 23 7 ≤ 125 from gc_in hI9 R_23 rfl rfl)
    have f17 := (show 0 ≤ I9 39 12 ∧ I9 39 12 ≤ 2000 from gc_in hI9 R_39 rfl rfl)
    have f18 := (show 0 ≤ I9 39 15 ∧ I9 39 15 ≤ 41 from gc_in hI9 R_39 rfl rfl)
    have f19 := (show 0 ≤ I9 4 1 ∧ I9 4 1 ≤ 96 from gc_in hI9 R_4 rfl rfl)
    refine gv_run 1 true hD (pc' := 116) (lv' := []) (st' := [.inl 0]) (h' := gc_h sh I9 J10 A) (C := (True ∧ True)) rfl ⟨trivial, trivial⟩ ?_
    exact gv_zret hD rfl (by omega) ⟨I9, J10, rfl, hI9, FI9, FJ10, KLT_I9, KTK_I9, KMS_I9, ⟨_, rfl, by omega⟩⟩
  refine gv_run 2 true hD (pc' := 2) (lv' := [(0, .inr (.inr (some 39)))]) (st' := [.inr (.inr (some 39)), .inr (.inr (some 39))]) (h' := gc_h sh I J A) (C := ((True ∧ True) ∧ True)) rfl ⟨⟨trivial, trivial⟩, trivial⟩ ?_
  refine gv_get hD rfl rfl S_39 ⟨by decide, B_39⟩ (gc_hA S_39 rfl A_39_0) ?_
  show gv_X _ _ (5, [(0, .inr (.inr (some 39)))], [.inr (.inr (some 1)), .inr (.inr (some 39))], sh, gc_h sh I J A)
  refine gv_get hD rfl rfl S_1 ⟨by decide, B_1⟩ (gc_hA S_1 rfl A_1_1) ?_
  show gv_X _ _ (8, [(0, .inr (.inr (some 39)))], [.inr (.inr (some 4)), .inr (.inr (some 39))], sh, gc_h sh I J A)
  obtain ⟨r20, h20, E20, P20⟩ := d_X6_needKnown (ws0 := ws0) (tb := tb) hws htb sh ro I J A hI  96 11 4 hb (gc_b4 hb)    
  obtain ⟨I21, J22, rfl, hI21, g20, k20, ⟨z20, rfl, q20⟩⟩ := P20
  have FI21 := gc_frc (W := fun q j => (q = 39 ∧ j = 3) ∨ (q = 39 ∧ j = 4) ∨ (q = 23 ∧ j = 5) ∨ (q = 23 ∧ j = 6) ∨ (q = 23 ∧ j = 7) ∨ (q = 23 ∧ j = 8) ∨ (q = 39 ∧ j = 12) ∨ (q = 39 ∧ j = 15) ∨ q = 43 ∨ q = 15 ∨ q = 16) (V := fun q j => (q = 39 ∧ j = 3) ∨ (q = 39 ∧ j = 4)) FI (fun q j h => (h.elim (fun h => (Or.inl h)) (fun h => (Or.inr (Or.inl h))))) g20
  have t23 := (g20 23 1).resolve_left (fun h => h.elim (fun h => absurd h.2 (by decide)) (fun h => absurd h.2 (by decide)))
  have t24 := (g20 23 5).resolve_left (fun h => h.elim (fun h => absurd h.2 (by decide)) (fun h => absurd h.2 (by decide)))
  have t25 := (g20 23 6).resolve_left (fun h => h.elim (fun h => absurd h.2 (by decide)) (fun h => absurd h.2 (by decide)))
  have t26 := (g20 23 7).resolve_left (fun h => h.elim (fun h => absurd h.2 (by decide)) (fun h => absurd h.2 (by decide)))
  have t27 := (g20 39 12).resolve_left (fun h => h.elim (fun h => absurd h.2 (by decide)) (fun h => absurd h.2 (by decide)))
  have t28 := (g20 39 15).resolve_left (fun h => h.elim (fun h => absurd h.2 (by decide)) (fun h => absurd h.2 (by decide)))
  have t29 := (g20 4 1).resolve_left (fun h => h.elim (fun h => absurd h.2 (by decide)) (fun h => absurd h.2 (by decide)))
  obtain rfl : J = J22 := funext fun q => funext fun j => ((k20 q j).resolve_left id).symm
  have KLT_I21 := gc_LT_fr KLT_I ((g20 23 5).resolve_left (fun h => h.elim (fun h => absurd h.2 (by decide)) (fun h => absurd h.2 (by decide)))) ((g20 23 6).resolve_left (fun h => h.elim (fun h => absurd h.2 (by decide)) (fun h => absurd h.2 (by decide)))) ((g20 23 7).resolve_left (fun h => h.elim (fun h => absurd h.2 (by decide)) (fun h => absurd h.2 (by decide)))) (fun k => (g20 24 k).resolve_left (fun h => h.elim (fun h => absurd h.1 (by decide)) (fun h => absurd h.1 (by decide))))
  have KTK_I21 := gc_TK_fr KTK_I ((g20 23 1).resolve_left (fun h => h.elim (fun h => absurd h.2 (by decide)) (fun h => absurd h.2 (by decide)))) ((g20 23 5).resolve_left (fun h => h.elim (fun h => absurd h.2 (by decide)) (fun h => absurd h.2 (by decide)))) ((g20 23 6).resolve_left (fun h => h.elim (fun h => absurd h.2 (by decide)) (fun h => absurd h.2 (by decide)))) ((g20 23 7).resolve_left (fun h => h.elim (fun h => absurd h.2 (by decide)) (fun h => absurd h.2 (by decide))))
  have KMS_I21 := gc_MS_fr KMS_I (Int.le_of_eq ((g20 4 1).resolve_left (fun h => h.elim (fun h => absurd h.2 (by decide)) (fun h => absurd h.2 (by decide)))).symm) (fun k => (g20 12 k).resolve_left (fun h => h.elim (fun h => absurd h.1 (by decide)) (fun h => absurd h.1 (by decide)))) (fun k => (g20 15 k).resolve_left (fun h => h.elim (fun h => absurd h.1 (by decide)) (fun h => absurd h.1 (by decide)))) (fun k => (g20 16 k).resolve_left (fun h => h.elim (fun h => absurd h.1 (by decide)) (fun h => absurd h.1 (by decide))))
  refine gv_callV hD rfl (As := [.inr (.inr (some 4))]) (st := []) rfl B_39 S_39 rfl (gc_lV6 hws rfl) (Nat.le_of_ble_eq_true rfl) (gz_Ev_mono (d := 3) (by decide) E20) ?_
  show gv_X _ _ (11, [(0, .inr (.inr (some 39)))], [.inl z20], sh, gc_h sh I21 J A)
  refine gv_if_ne (t := 16) hD rfl rfl ⟨by omega, by omega⟩ (fun c30 => ?_) (fun c30 => ?_)
  · show gv_X _ _ (16, [(0, .inr (.inr (some 39)))], [], sh, gc_h sh I21 J A)
    refine gv_run 1 true hD (pc' := 17) (lv' := [(0, .inr (.inr (some 39)))]) (st' := [.inr (.inr (some 39))]) (h' := gc_h sh I21 J A) (C := (True ∧ True)) rfl ⟨trivial, trivial⟩ ?_
    refine gv_get hD rfl rfl S_39 ⟨by decide, B_39⟩ (gc_hA S_39 rfl A_39_0) ?_
    show gv_X _ _ (20, [(0, .inr (.inr (some 39)))], [.inr (.inr (some 1))], sh, gc_h sh I21 J A)
    refine gv_get hD rfl rfl S_1 ⟨by decide, B_1⟩ (gc_hA S_1 rfl A_1_1) ?_
    show gv_X _ _ (23, [(0, .inr (.inr (some 39)))], [.inr (.inr (some 4))], sh, gc_h sh I21 J A)
    refine gv_run 1 true hD (pc' := 24) (lv' := [(0, .inr (.inr (some 39)))]) (st' := [.inr (.inr (some 39)), .inr (.inr (some 4))]) (h' := gc_h sh I21 J A) (C := (True ∧ True)) rfl ⟨trivial, trivial⟩ ?_
    refine gv_get hD rfl rfl S_39 ⟨by decide, B_39⟩ (gc_hA S_39 rfl A_39_1) ?_
    show gv_X _ _ (27, [(0, .inr (.inr (some 39)))], [.inr (.inr (some 23)), .inr (.inr (some 4))], sh, gc_h sh I21 J A)
    refine gv_get hD rfl rfl S_23 ⟨by decide, B_23⟩ (gc_hJ S_23 rfl) ?_
    show gv_X _ _ (30, [(0, .inr (.inr (some 39)))], [.inr (.inl (J 23 9)), .inr (.inr (some 4))], sh, gc_h sh I21 J A)
    obtain ⟨r31, h31, E31, P31⟩ := d_X4_find (ws0 := ws0) (tb := tb) hws htb sh ro I21 J A hI21 4 96 11 (J 23 9) (gc_b4 hb)     
    obtain ⟨rfl, ⟨z31, rfl, q31⟩⟩ := P31
    refine gv_callV hD rfl (As := [.inr (.inl (J 23 9))]) (st := []) rfl B_4 S_4 rfl (gc_lV6 hws rfl) (Nat.le_of_ble_eq_true rfl) (gz_Ev_mono (d := 1) (by decide) E31) ?_
    show gv_X _ _ (33, [(0, .inr (.inr (some 39)))], [.inl z31], sh, gc_h sh I21 J A)
    refine gv_run 2 true hD (pc' := 35) (lv' := [(1, .inl z31), (0, .inr (.inr (some 39)))]) (st' := [.inr (.inr (some 39))]) (h' := gc_h sh I21 J A) (C := ((True ∧ True) ∧ True)) rfl ⟨⟨trivial, trivial⟩, trivial⟩ ?_
    refine gv_get hD rfl rfl S_39 ⟨by decide, B_39⟩ (gc_hA S_39 rfl A_39_0) ?_
    show gv_X _ _ (38, [(1, .inl z31), (0, .inr (.inr (some 39)))], [.inr (.inr (some 1))], sh, gc_h sh I21 J A)
    refine gv_get hD rfl rfl S_1 ⟨by decide, B_1⟩ (gc_hA S_1 rfl A_1_10) ?_
    show gv_X _ _ (41, [(1, .inl z31), (0, .inr (.inr (some 39)))], [.inr (.inr (some 15))], sh, gc_h sh I21 J A)
    refine gv_run 1 true hD (pc' := 42) (lv' := [(1, .inl z31), (0, .inr (.inr (some 39)))]) (st' := [.inl z31, .inr (.inr (some 15))]) (h' := gc_h sh I21 J A) (C := (True ∧ True)) rfl ⟨trivial, trivial⟩ ?_
    have f32 := (show 0 ≤ I21 15 (Int.toNat z31) ∧ I21 15 (Int.toNat z31) ≤ 40 from gc_in hI21 R_15 rfl rfl)
    refine gv_iald hD rfl S_15 rfl ⟨by decide, B_15⟩ ⟨by omega, by omega⟩ (gc_iI S_15 rfl) ?_
    show gv_X _ _ (43, [(1, .inl z31), (0, .inr (.inr (some 39)))], [.inl (I21 15 (Int.toNat z31))], sh, gc_h sh I21 J A)
    refine gv_if_le (t := 59) hD rfl rfl ⟨by omega, by omega⟩ (fun c33 => ?_) (fun c33 => ?_)
    · show gv_X _ _ (59, [(1, .inl z31), (0, .inr (.inr (some 39)))], [], sh, gc_h sh I21 J A)
      refine gv_run 1 true hD (pc' := 60) (lv' := [(1, .inl z31), (0, .inr (.inr (some 39)))]) (st' := [.inr (.inr (some 39))]) (h' := gc_h sh I21 J A) (C := (True ∧ True)) rfl ⟨trivial, trivial⟩ ?_
      refine gv_get hD rfl rfl S_39 ⟨by decide, B_39⟩ (gc_hA S_39 rfl A_39_1) ?_
      show gv_X _ _ (63, [(1, .inl z31), (0, .inr (.inr (some 39)))], [.inr (.inr (some 23))], sh, gc_h sh I21 J A)
      have t35 := gc_TK_nx KTK_I21 (by omega)
      have t36 := gc_TK_st KTK_I21 (by omega)
      obtain ⟨r34, h34, E34, P34⟩ := d_X9_advance (ws0 := ws0) (tb := tb) hws htb sh ro I21 J A hI21 23  (gc_b23 hb)    (by omega) 
      obtain ⟨I37, J38, rfl, hI37, g34, k34, ⟨rfl, V34_0, V34_1, V34_2, V34_3, V34_4, q34⟩⟩ := P34
      have FI37 := gc_frc (W := fun q j => (q = 39 ∧ j = 3) ∨ (q = 39 ∧ j = 4) ∨ (q = 23 ∧ j = 5) ∨ (q = 23 ∧ j = 6) ∨ (q = 23 ∧ j = 7) ∨ (q = 23 ∧ j = 8) ∨ (q = 39 ∧ j = 12) ∨ (q = 39 ∧ j = 15) ∨ q = 43 ∨ q = 15 ∨ q = 16) (V := fun q j => (q = 23 ∧ j = 5) ∨ (q = 23 ∧ j = 6) ∨ (q = 23 ∧ j = 7) ∨ (q = 23 ∧ j = 8)) FI21 (fun q j h => (h.elim (fun h => (Or.inr (Or.inr (Or.inl h)))) (fun h => (h.elim (fun h => (Or.inr (Or.inr (Or.inr (Or.inl h))))) (fun h => (h.elim (fun h => (Or.inr (Or.inr (Or.inr (Or.inr (Or.inl h)))))) (fun h => (Or.inr (Or.inr (Or.inr (Or.inr (Or.inr (Or.inl h))))))))))))) g34
      have FJ38 := gc_frc (W := fun q j => (q = 23 ∧ j = 9) ∨ q = 44 ∨ q = 45 ∨ q = 17) (V := fun q j => (q = 23 ∧ j = 9)) FJ (fun q j h => (Or.inl h)) k34
      have t39 := (g34 23 1).resolve_left (fun h => h.elim (fun h => absurd h.2 (by decide)) (fun h => h.elim (fun h => absurd h.2 (by decide)) (fun h => h.elim (fun h => absurd h.2 (by decide)) (fun h => absurd h.2 (by decide)))))
      have t40 := (g34 39 12).resolve_left (fun h => h.elim (fun h => absurd h.2 (by decide)) (fun h => h.elim (fun h => absurd h.2 (by decide)) (fun h => h.elim (fun h => absurd h.2 (by decide)) (fun h => absurd h.2 (by decide)))))
      have t41 := (g34 39 15).resolve_left (fun h => h.elim (fun h => absurd h.2 (by decide)) (fun h => h.elim (fun h => absurd h.2 (by decide)) (fun h => h.elim (fun h => absurd h.2 (by decide)) (fun h => absurd h.2 (by decide)))))
      have t42 := (g34 4 1).resolve_left (fun h => h.elim (fun h => absurd h.2 (by decide)) (fun h => h.elim (fun h => absurd h.2 (by decide)) (fun h => h.elim (fun h => absurd h.2 (by decide)) (fun h => absurd h.2 (by decide)))))
      have f43 := (show 0 ≤ I37 23 5 ∧ I37 23 5 ≤ 1000 from gc_in hI37 R_23 rfl rfl)
      have f44 := (show 0 ≤ I37 23 6 ∧ I37 23 6 ≤ 1001 from gc_in hI37 R_23 rfl rfl)
      have f45 := (show 0 ≤ I37 23 7 ∧ I37 23 7 ≤ 125 from gc_in hI37 R_23 rfl rfl)
      have KLT_I37 : gc_LT I37 := q34.2.2
      have KMS_I37 := gc_MS_fr KMS_I21 (Int.le_of_eq ((g34 4 1).resolve_left (fun h => h.elim (fun h => absurd h.2 (by decide)) (fun h => h.elim (fun h => absurd h.2 (by decide)) (fun h => h.elim (fun h => absurd h.2 (by decide)) (fun h => absurd h.2 (by decide)))))).symm) (fun k => (g34 12 k).resolve_left (fun h => h.elim (fun h => absurd h.1 (by decide)) (fun h => h.elim (fun h => absurd h.1 (by decide)) (fun h => h.elim (fun h => absurd h.1 (by decide)) (fun h => absurd h.1 (by decide)))))) (fun k => (g34 15 k).resolve_left (fun h => h.elim (fun h => absurd h.1 (by decide)) (fun h => h.elim (fun h => absurd h.1 (by decide)) (fun h => h.elim (fun h => absurd h.1 (by decide)) (fun h => absurd h.1 (by decide)))))) (fun k => (g34 16 k).resolve_left (fun h => h.elim (fun h => absurd h.1 (by decide)) (fun h => h.elim (fun h => absurd h.1 (by decide)) (fun h => h.elim (fun h => absurd h.1 (by decide)) (fun h => absurd h.1 (by decide))))))
      have KTK_I37 : gc_TK I37 := And.intro V34_0 (And.intro V34_1 (And.intro V34_2 (And.intro V34_3 V34_4)))
      have t46 := gc_TK_mo KTK_I37
      clear V34_0 V34_1 V34_2 V34_3 V34_4
      refine gv_callV hD rfl (As := []) (st := []) rfl B_23 S_23 rfl (gc_lV6 hws rfl) (Nat.le_of_ble_eq_true rfl) (gz_Ev_mono (d := 2) (by decide) E34) ?_
      show gv_X _ _ (66, [(1, .inl z31), (0, .inr (.inr (some 39)))], [], sh, gc_h sh I37 J38 A)
      refine gv_run 2 true hD (pc' := 68) (lv' := [(1, .inl z31), (0, .inr (.inr (some 39)))]) (st' := [.inl 0, .inr (.inr (some 39))]) (h' := gc_h sh I37 J38 A) (C := ((True ∧ True) ∧ True)) rfl ⟨⟨trivial, trivial⟩, trivial⟩ ?_
      refine gv_put hD rfl rfl S_39 ⟨by decide, B_39⟩ rfl trivial ?_
      refine gc_st (k := 12) hI37 S_39 rfl R_39 (lo := 0) (hi := 2000) rfl rfl (by omega) (by omega) (fun I47 hI47 q48 p48 => ?_)
      have FI47 := gc_frs (W := fun q j => (q = 39 ∧ j = 3) ∨ (q = 39 ∧ j = 4) ∨ (q = 23 ∧ j = 5) ∨ (q = 23 ∧ j = 6) ∨ (q = 23 ∧ j = 7) ∨ (q = 23 ∧ j = 8) ∨ (q = 39 ∧ j = 12) ∨ (q = 39 ∧ j = 15) ∨ q = 43 ∨ q = 15 ∨ q = 16) FI37 (Or.inr (Or.inr (Or.inr (Or.inr (Or.inr (Or.inr (Or.inl ⟨rfl, rfl⟩))))))) p48
      have t49 := p48 23 1 (fun h => absurd h.2 (by decide))
      have t50 := p48 23 5 (fun h => absurd h.2 (by decide))
      have t51 := p48 23 6 (fun h => absurd h.2 (by decide))
      have t52 := p48 23 7 (fun h => absurd h.2 (by decide))
      have t53 := p48 39 15 (fun h => absurd h.2 (by decide))
      have t54 := p48 4 1 (fun h => absurd h.2 (by decide))
      have f55 := (show 0 ≤ I47 39 12 ∧ I47 39 12 ≤ 2000 from gc_in hI47 R_39 rfl rfl)
      have KLT_I47 := gc_LT_fr KLT_I37 (p48 23 5 (fun h => absurd h.2 (by decide))) (p48 23 6 (fun h => absurd h.2 (by decide))) (p48 23 7 (fun h => absurd h.2 (by decide))) (fun k => p48 24 k (fun h => absurd h.1 (by decide)))
      have KTK_I47 := gc_TK_fr KTK_I37 (p48 23 1 (fun h => absurd h.2 (by decide))) (p48 23 5 (fun h => absurd h.2 (by decide))) (p48 23 6 (fun h => absurd h.2 (by decide))) (p48 23 7 (fun h => absurd h.2 (by decide)))
      have KMS_I47 := gc_MS_fr KMS_I37 (Int.le_of_eq (p48 4 1 (fun h => absurd h.2 (by decide))).symm) (fun k => p48 12 k (fun h => absurd h.1 (by decide))) (fun k => p48 15 k (fun h => absurd h.1 (by decide))) (fun k => p48 16 k (fun h => absurd h.1 (by decide)))
      have KTO_I47 : gc_TO (-3 - I 12 (Int.toNat z31)) I47 := (gc_TO_0 (by omega))
      show gv_X _ _ (71, [(1, .inl z31), (0, .inr (.inr (some 39)))], [], sh, gc_h sh I47 J38 A)
      refine gv_run 2 true hD (pc' := 73) (lv' := [(1, .inl z31), (0, .inr (.inr (some 39)))]) (st' := [.inl 0, .inr (.inr (some 39))]) (h' := gc_h sh I47 J38 A) (C := ((True ∧ True) ∧ True)) rfl ⟨⟨trivial, trivial⟩, trivial⟩ ?_
      refine gv_put hD rfl rfl S_39 ⟨by decide, B_39⟩ rfl trivial ?_
      refine gc_st (k := 15) hI47 S_39 rfl R_39 (lo := 0) (hi := 41) rfl rfl (by omega) (by omega) (fun I56 hI56 q57 p57 => ?_)
      have FI56 := gc_frs (W := fun q j => (q = 39 ∧ j = 3) ∨ (q = 39 ∧ j = 4) ∨ (q = 23 ∧ j = 5) ∨ (q = 23 ∧ j = 6) ∨ (q = 23 ∧ j = 7) ∨ (q = 23 ∧ j = 8) ∨ (q = 39 ∧ j = 12) ∨ (q = 39 ∧ j = 15) ∨ q = 43 ∨ q = 15 ∨ q = 16) FI47 (Or.inr (Or.inr (Or.inr (Or.inr (Or.inr (Or.inr (Or.inr (Or.inl ⟨rfl, rfl⟩)))))))) p57
      have t58 := p57 23 1 (fun h => absurd h.2 (by decide))
      have t59 := p57 23 5 (fun h => absurd h.2 (by decide))
      have t60 := p57 23 6 (fun h => absurd h.2 (by decide))
      have t61 := p57 23 7 (fun h => absurd h.2 (by decide))
      have t62 := p57 39 12 (fun h => absurd h.2 (by decide))
      have t63 := p57 4 1 (fun h => absurd h.2 (by decide))
      have f64 := (show 0 ≤ I56 39 15 ∧ I56 39 15 ≤ 41 from gc_in hI56 R_39 rfl rfl)
      have KLT_I56 := gc_LT_fr KLT_I47 (p57 23 5 (fun h => absurd h.2 (by decide))) (p57 23 6 (fun h => absurd h.2 (by decide))) (p57 23 7 (fun h => absurd h.2 (by decide))) (fun k => p57 24 k (fun h => absurd h.1 (by decide)))
      have KTK_I56 := gc_TK_fr KTK_I47 (p57 23 1 (fun h => absurd h.2 (by decide))) (p57 23 5 (fun h => absurd h.2 (by decide))) (p57 23 6 (fun h => absurd h.2 (by decide))) (p57 23 7 (fun h => absurd h.2 (by decide)))
      have KMS_I56 := gc_MS_fr KMS_I47 (Int.le_of_eq (p57 4 1 (fun h => absurd h.2 (by decide))).symm) (fun k => p57 12 k (fun h => absurd h.1 (by decide))) (fun k => p57 15 k (fun h => absurd h.1 (by decide))) (fun k => p57 16 k (fun h => absurd h.1 (by decide)))
      have KTO_I56 := gc_TO_fr KTO_I47 (p57 39 12 (fun h => absurd h.2 (by decide))) (fun k => p57 43 k (fun h => absurd h.1 (by decide)))
      show gv_X _ _ (76, [(1, .inl z31), (0, .inr (.inr (some 39)))], [], sh, gc_h sh I56 J38 A)
      refine gv_run 2 true hD (pc' := 79) (lv' := [(1, .inl z31), (0, .inr (.inr (some 39)))]) (st' := [.inl 61, .inr (.inr (some 39))]) (h' := gc_h sh I56 J38 A) (C := ((True ∧ True) ∧ True)) rfl ⟨⟨trivial, trivial⟩, trivial⟩ ?_
      obtain ⟨r65, h65, E65, P65⟩ := d_X6_take (ws0 := ws0) (tb := tb) hws htb sh ro I56 J38 A hI56  61 hb   ⟨by omega, by omega⟩ (by omega) KLT_I56 KTK_I56
      obtain ⟨I66, J67, rfl, hI66, g65, k65, KLT_I66, KTK_I66, ⟨z65, rfl, q65⟩⟩ := P65
      have FI66 := gc_frc (W := fun q j => (q = 39 ∧ j = 3) ∨ (q = 39 ∧ j = 4) ∨ (q = 23 ∧ j = 5) ∨ (q = 23 ∧ j = 6) ∨ (q = 23 ∧ j = 7) ∨ (q = 23 ∧ j = 8) ∨ (q = 39 ∧ j = 12) ∨ (q = 39 ∧ j = 15) ∨ q = 43 ∨ q = 15 ∨ q = 16) (V := fun q j => (q = 39 ∧ j = 3) ∨ (q = 39 ∧ j = 4) ∨ (q = 23 ∧ j = 5) ∨ (q = 23 ∧ j = 6) ∨ (q = 23 ∧ j = 7) ∨ (q = 23 ∧ j = 8)) FI56 (fun q j h => (h.elim (fun h => (Or.inl h)) (fun h => (h.elim (fun h => (Or.inr (Or.inl h))) (fun h => (h.elim (fun h => (Or.inr (Or.inr (Or.inl h)))) (fun h => (h.elim (fun h => (Or.inr (Or.inr (Or.inr (Or.inl h))))) (fun h => (h.elim (fun h => (Or.inr (Or.inr (Or.inr (Or.inr (Or.inl h)))))) (fun h => (Or.inr (Or.inr (Or.inr (Or.inr (Or.inr (Or.inl h))))))))))))))))) g65
      have FJ67 := gc_frc (W := fun q j => (q = 23 ∧ j = 9) ∨ q = 44 ∨ q = 45 ∨ q = 17) (V := fun q j => (q = 23 ∧ j = 9)) FJ38 (fun q j h => (Or.inl h)) k65
      have t68 := (g65 23 1).resolve_left (fun h => h.elim (fun h => absurd h.2 (by decide)) (fun h => h.elim (fun h => absurd h.2 (by decide)) (fun h => h.elim (fun h => absurd h.2 (by decide)) (fun h => h.elim (fun h => absurd h.2 (by decide)) (fun h => h.elim (fun h => absurd h.2 (by decide)) (fun h => absurd h.2 (by decide)))))))
      have t69 := (g65 39 12).resolve_left (fun h => h.elim (fun h => absurd h.2 (by decide)) (fun h => h.elim (fun h => absurd h.2 (by decide)) (fun h => h.elim (fun h => absurd h.2 (by decide)) (fun h => h.elim (fun h => absurd h.2 (by decide)) (fun h => h.elim (fun h => absurd h.2 (by decide)) (fun h => absurd h.2 (by decide)))))))
      have t70 := (g65 39 15).resolve_left (fun h => h.elim (fun h => absurd h.2 (by decide)) (fun h => h.elim (fun h => absurd h.2 (by decide)) (fun h => h.elim (fun h => absurd h.2 (by decide)) (fun h => h.elim (fun h => absurd h.2 (by decide)) (fun h => h.elim (fun h => absurd h.2 (by decide)) (fun h => absurd h.2 (by decide)))))))
      have t71 := (g65 4 1).resolve_left (fun h => h.elim (fun h => absurd h.2 (by decide)) (fun h => h.elim (fun h => absurd h.2 (by decide)) (fun h => h.elim (fun h => absurd h.2 (by decide)) (fun h => h.elim (fun h => absurd h.2 (by decide)) (fun h => h.elim (fun h => absurd h.2 (by decide)) (fun h => absurd h.2 (by decide)))))))
      have f72 := (show 0 ≤ I66 23 5 ∧ I66 23 5 ≤ 1000 from gc_in hI66 R_23 rfl rfl)
      have f73 := (show 0 ≤ I66 23 6 ∧ I66 23 6 ≤ 1001 from gc_in hI66 R_23 rfl rfl)
      have f74 := (show 0 ≤ I66 23 7 ∧ I66 23 7 ≤ 125 from gc_in hI66 R_23 rfl rfl)
      have t75 := gc_TK_mo KTK_I66
      have KMS_I66 := gc_MS_fr KMS_I56 (Int.le_of_eq ((g65 4 1).resolve_left (fun h => h.elim (fun h => absurd h.2 (by decide)) (fun h => h.elim (fun h => absurd h.2 (by decide)) (fun h => h.elim (fun h => absurd h.2 (by decide)) (fun h => h.elim (fun h => absurd h.2 (by decide)) (fun h => h.elim (fun h => absurd h.2 (by decide)) (fun h => absurd h.2 (by decide)))))))).symm) (fun k => (g65 12 k).resolve_left (fun h => h.elim (fun h => absurd h.1 (by decide)) (fun h => h.elim (fun h => absurd h.1 (by decide)) (fun h => h.elim (fun h => absurd h.1 (by decide)) (fun h => h.elim (fun h => absurd h.1 (by decide)) (fun h => h.elim (fun h => absurd h.1 (by decide)) (fun h => absurd h.1 (by decide)))))))) (fun k => (g65 15 k).resolve_left (fun h => h.elim (fun h => absurd h.1 (by decide)) (fun h => h.elim (fun h => absurd h.1 (by decide)) (fun h => h.elim (fun h => absurd h.1 (by decide)) (fun h => h.elim (fun h => absurd h.1 (by decide)) (fun h => h.elim (fun h => absurd h.1 (by decide)) (fun h => absurd h.1 (by decide)))))))) (fun k => (g65 16 k).resolve_left (fun h => h.elim (fun h => absurd h.1 (by decide)) (fun h => h.elim (fun h => absurd h.1 (by decide)) (fun h => h.elim (fun h => absurd h.1 (by decide)) (fun h => h.elim (fun h => absurd h.1 (by decide)) (fun h => h.elim (fun h => absurd h.1 (by decide)) (fun h => absurd h.1 (by decide))))))))
      have KTO_I66 := gc_TO_fr KTO_I56 ((g65 39 12).resolve_left (fun h => h.elim (fun h => absurd h.2 (by decide)) (fun h => h.elim (fun h => absurd h.2 (by decide)) (fun h => h.elim (fun h => absurd h.2 (by decide)) (fun h => h.elim (fun h => absurd h.2 (by decide)) (fun h => h.elim (fun h => absurd h.2 (by decide)) (fun h => absurd h.2 (by decide)))))))) (fun k => (g65 43 k).resolve_left (fun h => h.elim (fun h => absurd h.1 (by decide)) (fun h => h.elim (fun h => absurd h.1 (by decide)) (fun h => h.elim (fun h => absurd h.1 (by decide)) (fun h => h.elim (fun h => absurd h.1 (by decide)) (fun h => h.elim (fun h => absurd h.1 (by decide)) (fun h => absurd h.1 (by decide))))))))
      refine gv_callV hD rfl (As := [.inl 61]) (st := []) rfl B_39 S_39 rfl (gc_lV6 hws rfl) (Nat.le_of_ble_eq_true rfl) (gz_Ev_mono (d := 3) (by decide) E65) ?_
      show gv_X _ _ (82, [(1, .inl z31), (0, .inr (.inr (some 39)))], [.inl z65], sh, gc_h sh I66 J67 A)
      refine gv_if_eq (t := 115) hD rfl rfl ⟨by omega, by omega⟩ (fun c76 => ?_) (fun c76 => ?_)
      · show gv_X _ _ (115, [(1, .inl z31), (0, .inr (.inr (some 39)))], [], sh, gc_h sh I66 J67 A)
        refine gv_pick [] rfl ?_
        exact L115 I66 J67 hI66 FI66 FJ67 KMS_I66 KLT_I66 KTK_I66 (by omega)
      · show gv_X _ _ (85, [(1, .inl z31), (0, .inr (.inr (some 39)))], [], sh, gc_h sh I66 J67 A)
        refine gv_run 3 true hD (pc' := 88) (lv' := [(1, .inl z31), (0, .inr (.inr (some 39)))]) (st' := [.inl 1, .inl z31, .inr (.inr (some 39))]) (h' := gc_h sh I66 J67 A) (C := (((True ∧ True) ∧ True) ∧ True)) rfl ⟨⟨⟨trivial, trivial⟩, trivial⟩, trivial⟩ ?_
        have t77 := (FI66 12 (Int.toNat z31)).resolve_left (by omega)
        have t78 := (show 0 ≤ I 12 (Int.toNat z31) ∧ I 12 (Int.toNat z31) ≤ 4 from gc_in hI R_12 rfl rfl)
        obtain ⟨r79, h79, E79, P79⟩ := d_X6_readTerm (ws0 := ws0) (tb := tb) hws htb sh ro A  ((-3 - I 12 (Int.toNat z31)))  hb   42 I66 J67 hI66 z31 1 ⟨by omega, by omega⟩ ⟨by omega, by omega⟩ (by omega) (by omega) (by omega) (by omega) KLT_I66 KTK_I66 KTO_I66 (by omega)
        obtain ⟨I80, J81, rfl, hI80, g79, k79, KLT_I80, KTK_I80, KTO_I80, ⟨z79, rfl, q79⟩⟩ := P79
        have FI80 := gc_frc (W := fun q j => (q = 39 ∧ j = 3) ∨ (q = 39 ∧ j = 4) ∨ (q = 23 ∧ j = 5) ∨ (q = 23 ∧ j = 6) ∨ (q = 23 ∧ j = 7) ∨ (q = 23 ∧ j = 8) ∨ (q = 39 ∧ j = 12) ∨ (q = 39 ∧ j = 15) ∨ q = 43 ∨ q = 15 ∨ q = 16) (V := fun q j => (q = 39 ∧ j = 3) ∨ (q = 39 ∧ j = 4) ∨ (q = 23 ∧ j = 5) ∨ (q = 23 ∧ j = 6) ∨ (q = 23 ∧ j = 7) ∨ (q = 23 ∧ j = 8) ∨ (q = 39 ∧ j = 12) ∨ (q = 39 ∧ j = 15) ∨ q = 43) FI66 (fun q j h => (h.elim (fun h => (Or.inl h)) (fun h => (h.elim (fun h => (Or.inr (Or.inl h))) (fun h => (h.elim (fun h => (Or.inr (Or.inr (Or.inl h)))) (fun h => (h.elim (fun h => (Or.inr (Or.inr (Or.inr (Or.inl h))))) (fun h => (h.elim (fun h => (Or.inr (Or.inr (Or.inr (Or.inr (Or.inl h)))))) (fun h => (h.elim (fun h => (Or.inr (Or.inr (Or.inr (Or.inr (Or.inr (Or.inl h))))))) (fun h => (h.elim (fun h => (Or.inr (Or.inr (Or.inr (Or.inr (Or.inr (Or.inr (Or.inl h)))))))) (fun h => (h.elim (fun h => (Or.inr (Or.inr (Or.inr (Or.inr (Or.inr (Or.inr (Or.inr (Or.inl h))))))))) (fun h => (Or.inr (Or.inr (Or.inr (Or.inr (Or.inr (Or.inr (Or.inr (Or.inr (Or.inl h)))))))))))))))))))))))))) g79
        have FJ81 := gc_frc (W := fun q j => (q = 23 ∧ j = 9) ∨ q = 44 ∨ q = 45 ∨ q = 17) (V := fun q j => (q = 23 ∧ j = 9) ∨ q = 44 ∨ q = 45) FJ67 (fun q j h => (h.elim (fun h => (Or.inl h)) (fun h => (h.elim (fun h => (Or.inr (Or.inl h))) (fun h => (Or.inr (Or.inr (Or.inl h)))))))) k79
        have t82 := (g79 23 1).resolve_left (fun h => h.elim (fun h => absurd h.2 (by decide)) (fun h => h.elim (fun h => absurd h.2 (by decide)) (fun h => h.elim (fun h => absurd h.2 (by decide)) (fun h => h.elim (fun h => absurd h.2 (by decide)) (fun h => h.elim (fun h => absurd h.2 (by decide)) (fun h => h.elim (fun h => absurd h.2 (by decide)) (fun h => h.elim (fun h => absurd h.2 (by decide)) (fun h => h.elim (fun h => absurd h.2 (by decide)) (fun h => absurd h (by decide))))))))))
        have t83 := (g79 4 1).resolve_left (fun h => h.elim (fun h => absurd h.2 (by decide)) (fun h => h.elim (fun h => absurd h.2 (by decide)) (fun h => h.elim (fun h => absurd h.2 (by decide)) (fun h => h.elim (fun h => absurd h.2 (by decide)) (fun h => h.elim (fun h => absurd h.2 (by decide)) (fun h => h.elim (fun h => absurd h.2 (by decide)) (fun h => h.elim (fun h => absurd h.2 (by decide)) (fun h => h.elim (fun h => absurd h.2 (by decide)) (fun h => absurd h (by decide))))))))))
        have f84 := (show 0 ≤ I80 23 5 ∧ I80 23 5 ≤ 1000 from gc_in hI80 R_23 rfl rfl)
        have f85 := (show 0 ≤ I80 23 6 ∧ I80 23 6 ≤ 1001 from gc_in hI80 R_23 rfl rfl)
        have f86 := (show 0 ≤ I80 23 7 ∧ I80 23 7 ≤ 125 from gc_in hI80 R_23 rfl rfl)
        have f87 := (show 0 ≤ I80 39 12 ∧ I80 39 12 ≤ 2000 from gc_in hI80 R_39 rfl rfl)
        have f88 := (show 0 ≤ I80 39 15 ∧ I80 39 15 ≤ 41 from gc_in hI80 R_39 rfl rfl)
        have t89 := gc_TK_mo KTK_I80
        have KMS_I80 := gc_MS_fr KMS_I66 (Int.le_of_eq ((g79 4 1).resolve_left (fun h => h.elim (fun h => absurd h.2 (by decide)) (fun h => h.elim (fun h => absurd h.2 (by decide)) (fun h => h.elim (fun h => absurd h.2 (by decide)) (fun h => h.elim (fun h => absurd h.2 (by decide)) (fun h => h.elim (fun h => absurd h.2 (by decide)) (fun h => h.elim (fun h => absurd h.2 (by decide)) (fun h => h.elim (fun h => absurd h.2 (by decide)) (fun h => h.elim (fun h => absurd h.2 (by decide)) (fun h => absurd h (by decide))))))))))).symm) (fun k => (g79 12 k).resolve_left (fun h => h.elim (fun h => absurd h.1 (by decide)) (fun h => h.elim (fun h => absurd h.1 (by decide)) (fun h => h.elim (fun h => absurd h.1 (by decide)) (fun h => h.elim (fun h => absurd h.1 (by decide)) (fun h => h.elim (fun h => absurd h.1 (by decide)) (fun h => h.elim (fun h => absurd h.1 (by decide)) (fun h => h.elim (fun h => absurd h.1 (by decide)) (fun h => h.elim (fun h => absurd h.1 (by decide)) (fun h => absurd h (by decide))))))))))) (fun k => (g79 15 k).resolve_left (fun h => h.elim (fun h => absurd h.1 (by decide)) (fun h => h.elim (fun h => absurd h.1 (by decide)) (fun h => h.elim (fun h => absurd h.1 (by decide)) (fun h => h.elim (fun h => absurd h.1 (by decide)) (fun h => h.elim (fun h => absurd h.1 (by decide)) (fun h => h.elim (fun h => absurd h.1 (by decide)) (fun h => h.elim (fun h => absurd h.1 (by decide)) (fun h => h.elim (fun h => absurd h.1 (by decide)) (fun h => absurd h (by decide))))))))))) (fun k => (g79 16 k).resolve_left (fun h => h.elim (fun h => absurd h.1 (by decide)) (fun h => h.elim (fun h => absurd h.1 (by decide)) (fun h => h.elim (fun h => absurd h.1 (by decide)) (fun h => h.elim (fun h => absurd h.1 (by decide)) (fun h => h.elim (fun h => absurd h.1 (by decide)) (fun h => h.elim (fun h => absurd h.1 (by decide)) (fun h => h.elim (fun h => absurd h.1 (by decide)) (fun h => h.elim (fun h => absurd h.1 (by decide)) (fun h => absurd h (by decide)))))))))))
        refine gv_callV hD rfl (As := [.inl z31, .inl 1]) (st := []) rfl B_39 S_39 rfl (gc_lV6 hws rfl) (Nat.le_of_ble_eq_true rfl) (gz_Ev_mono (d := 90) (by decide) E79) ?_
        show gv_X _ _ (91, [(1, .inl z31), (0, .inr (.inr (some 39)))], [.inl z79], sh, gc_h sh I80 J81 A)
        refine gv_if_eq (t := 115) hD rfl rfl ⟨by omega, by omega⟩ (fun c90 => ?_) (fun c90 => ?_)
        · show gv_X _ _ (115, [(1, .inl z31), (0, .inr (.inr (some 39)))], [], sh, gc_h sh I80 J81 A)
          refine gv_pick [] rfl ?_
          exact L115 I80 J81 hI80 FI80 FJ81 KMS_I80 KLT_I80 KTK_I80 (by omega)
        · show gv_X _ _ (94, [(1, .inl z31), (0, .inr (.inr (some 39)))], [], sh, gc_h sh I80 J81 A)
          refine gv_run 2 true hD (pc' := 96) (lv' := [(1, .inl z31), (0, .inr (.inr (some 39)))]) (st' := [.inr (.inr (some 39)), .inr (.inr (some 39))]) (h' := gc_h sh I80 J81 A) (C := ((True ∧ True) ∧ True)) rfl ⟨⟨trivial, trivial⟩, trivial⟩ ?_
          have f91 := (show 0 ≤ I80 39 12 ∧ I80 39 12 ≤ 2000 from gc_in hI80 R_39 rfl rfl)
          refine gv_get hD rfl rfl S_39 ⟨by decide, B_39⟩ (gc_hI S_39 rfl) ?_
          show gv_X _ _ (99, [(1, .inl z31), (0, .inr (.inr (some 39)))], [.inl (I80 39 12), .inr (.inr (some 39))], sh, gc_h sh I80 J81 A)
          refine gv_run 1 true hD (pc' := 101) (lv' := [(1, .inl z31), (0, .inr (.inr (some 39)))]) (st' := [.inl 40, .inl (I80 39 12), .inr (.inr (some 39))]) (h' := gc_h sh I80 J81 A) (C := (True ∧ True)) rfl ⟨trivial, trivial⟩ ?_
          refine gv_icmp_le (t := 108) hD rfl rfl ⟨⟨by omega, by omega⟩, ⟨by omega, by omega⟩⟩ (fun c92 => ?_) (fun c92 => ?_)
          · show gv_X _ _ (108, [(1, .inl z31), (0, .inr (.inr (some 39)))], [.inr (.inr (some 39))], sh, gc_h sh I80 J81 A)
            refine gv_run 1 true hD (pc' := 109) (lv' := [(1, .inl z31), (0, .inr (.inr (some 39)))]) (st' := [.inl 0, .inr (.inr (some 39))]) (h' := gc_h sh I80 J81 A) (C := (True ∧ True)) rfl ⟨trivial, trivial⟩ ?_
            obtain ⟨r93, h93, E93, P93⟩ := d_X6_closes (ws0 := ws0) (tb := tb) hws htb sh ro I80 J81 A hI80  0 hb   ⟨by omega, by omega⟩  KLT_I80 KTK_I80
            obtain ⟨I94, J95, rfl, hI94, g93, k93, KLT_I94, KTK_I94, ⟨z93, rfl, q93⟩⟩ := P93
            have FI94 := gc_frc (W := fun q j => (q = 39 ∧ j = 3) ∨ (q = 39 ∧ j = 4) ∨ (q = 23 ∧ j = 5) ∨ (q = 23 ∧ j = 6) ∨ (q = 23 ∧ j = 7) ∨ (q = 23 ∧ j = 8) ∨ (q = 39 ∧ j = 12) ∨ (q = 39 ∧ j = 15) ∨ q = 43 ∨ q = 15 ∨ q = 16) (V := fun q j => (q = 39 ∧ j = 3) ∨ (q = 39 ∧ j = 4) ∨ (q = 23 ∧ j = 5) ∨ (q = 23 ∧ j = 6) ∨ (q = 23 ∧ j = 7) ∨ (q = 23 ∧ j = 8)) FI80 (fun q j h => (h.elim (fun h => (Or.inl h)) (fun h => (h.elim (fun h => (Or.inr (Or.inl h))) (fun h => (h.elim (fun h => (Or.inr (Or.inr (Or.inl h)))) (fun h => (h.elim (fun h => (Or.inr (Or.inr (Or.inr (Or.inl h))))) (fun h => (h.elim (fun h => (Or.inr (Or.inr (Or.inr (Or.inr (Or.inl h)))))) (fun h => (Or.inr (Or.inr (Or.inr (Or.inr (Or.inr (Or.inl h))))))))))))))))) g93
            have FJ95 := gc_frc (W := fun q j => (q = 23 ∧ j = 9) ∨ q = 44 ∨ q = 45 ∨ q = 17) (V := fun q j => (q = 23 ∧ j = 9)) FJ81 (fun q j h => (Or.inl h)) k93
            have t96 := (g93 23 1).resolve_left (fun h => h.elim (fun h => absurd h.2 (by decide)) (fun h => h.elim (fun h => absurd h.2 (by decide)) (fun h => h.elim (fun h => absurd h.2 (by decide)) (fun h => h.elim (fun h => absurd h.2 (by decide)) (fun h => h.elim (fun h => absurd h.2 (by decide)) (fun h => absurd h.2 (by decide)))))))
            have t97 := (g93 39 12).resolve_left (fun h => h.elim (fun h => absurd h.2 (by decide)) (fun h => h.elim (fun h => absurd h.2 (by decide)) (fun h => h.elim (fun h => absurd h.2 (by decide)) (fun h => h.elim (fun h => absurd h.2 (by decide)) (fun h => h.elim (fun h => absurd h.2 (by decide)) (fun h => absurd h.2 (by decide)))))))
            have t98 := (g93 39 15).resolve_left (fun h => h.elim (fun h => absurd h.2 (by decide)) (fun h => h.elim (fun h => absurd h.2 (by decide)) (fun h => h.elim (fun h => absurd h.2 (by decide)) (fun h => h.elim (fun h => absurd h.2 (by decide)) (fun h => h.elim (fun h => absurd h.2 (by decide)) (fun h => absurd h.2 (by decide)))))))
            have t99 := (g93 4 1).resolve_left (fun h => h.elim (fun h => absurd h.2 (by decide)) (fun h => h.elim (fun h => absurd h.2 (by decide)) (fun h => h.elim (fun h => absurd h.2 (by decide)) (fun h => h.elim (fun h => absurd h.2 (by decide)) (fun h => h.elim (fun h => absurd h.2 (by decide)) (fun h => absurd h.2 (by decide)))))))
            have f100 := (show 0 ≤ I94 23 5 ∧ I94 23 5 ≤ 1000 from gc_in hI94 R_23 rfl rfl)
            have f101 := (show 0 ≤ I94 23 6 ∧ I94 23 6 ≤ 1001 from gc_in hI94 R_23 rfl rfl)
            have f102 := (show 0 ≤ I94 23 7 ∧ I94 23 7 ≤ 125 from gc_in hI94 R_23 rfl rfl)
            have t103 := gc_TK_mo KTK_I94
            have KMS_I94 := gc_MS_fr KMS_I80 (Int.le_of_eq ((g93 4 1).resolve_left (fun h => h.elim (fun h => absurd h.2 (by decide)) (fun h => h.elim (fun h => absurd h.2 (by decide)) (fun h => h.elim (fun h => absurd h.2 (by decide)) (fun h => h.elim (fun h => absurd h.2 (by decide)) (fun h => h.elim (fun h => absurd h.2 (by decide)) (fun h => absurd h.2 (by decide)))))))).symm) (fun k => (g93 12 k).resolve_left (fun h => h.elim (fun h => absurd h.1 (by decide)) (fun h => h.elim (fun h => absurd h.1 (by decide)) (fun h => h.elim (fun h => absurd h.1 (by decide)) (fun h => h.elim (fun h => absurd h.1 (by decide)) (fun h => h.elim (fun h => absurd h.1 (by decide)) (fun h => absurd h.1 (by decide)))))))) (fun k => (g93 15 k).resolve_left (fun h => h.elim (fun h => absurd h.1 (by decide)) (fun h => h.elim (fun h => absurd h.1 (by decide)) (fun h => h.elim (fun h => absurd h.1 (by decide)) (fun h => h.elim (fun h => absurd h.1 (by decide)) (fun h => h.elim (fun h => absurd h.1 (by decide)) (fun h => absurd h.1 (by decide)))))))) (fun k => (g93 16 k).resolve_left (fun h => h.elim (fun h => absurd h.1 (by decide)) (fun h => h.elim (fun h => absurd h.1 (by decide)) (fun h => h.elim (fun h => absurd h.1 (by decide)) (fun h => h.elim (fun h => absurd h.1 (by decide)) (fun h => h.elim (fun h => absurd h.1 (by decide)) (fun h => absurd h.1 (by decide))))))))
            have KTO_I94 := gc_TO_fr KTO_I80 ((g93 39 12).resolve_left (fun h => h.elim (fun h => absurd h.2 (by decide)) (fun h => h.elim (fun h => absurd h.2 (by decide)) (fun h => h.elim (fun h => absurd h.2 (by decide)) (fun h => h.elim (fun h => absurd h.2 (by decide)) (fun h => h.elim (fun h => absurd h.2 (by decide)) (fun h => absurd h.2 (by decide)))))))) (fun k => (g93 43 k).resolve_left (fun h => h.elim (fun h => absurd h.1 (by decide)) (fun h => h.elim (fun h => absurd h.1 (by decide)) (fun h => h.elim (fun h => absurd h.1 (by decide)) (fun h => h.elim (fun h => absurd h.1 (by decide)) (fun h => h.elim (fun h => absurd h.1 (by decide)) (fun h => absurd h.1 (by decide))))))))
            refine gv_callV hD rfl (As := [.inl 0]) (st := []) rfl B_39 S_39 rfl (gc_lV6 hws rfl) (Nat.le_of_ble_eq_true rfl) (gz_Ev_mono (d := 4) (by decide) E93) ?_
            show gv_X _ _ (112, [(1, .inl z31), (0, .inr (.inr (some 39)))], [.inl z93], sh, gc_h sh I94 J95 A)
            refine gv_if_ne (t := 117) hD rfl rfl ⟨by omega, by omega⟩ (fun c104 => ?_) (fun c104 => ?_)
            · show gv_X _ _ (117, [(1, .inl z31), (0, .inr (.inr (some 39)))], [], sh, gc_h sh I94 J95 A)
              refine gv_run 1 true hD (pc' := 118) (lv' := [(1, .inl z31), (0, .inr (.inr (some 39)))]) (st' := [.inr (.inr (some 39))]) (h' := gc_h sh I94 J95 A) (C := (True ∧ True)) rfl ⟨trivial, trivial⟩ ?_
              refine gv_get hD rfl rfl S_39 ⟨by decide, B_39⟩ (gc_hA S_39 rfl A_39_0) ?_
              show gv_X _ _ (121, [(1, .inl z31), (0, .inr (.inr (some 39)))], [.inr (.inr (some 1))], sh, gc_h sh I94 J95 A)
              refine gv_get hD rfl rfl S_1 ⟨by decide, B_1⟩ (gc_hA S_1 rfl A_1_10) ?_
              show gv_X _ _ (124, [(1, .inl z31), (0, .inr (.inr (some 39)))], [.inr (.inr (some 15))], sh, gc_h sh I94 J95 A)
              refine gv_run 2 true hD (pc' := 126) (lv' := [(1, .inl z31), (0, .inr (.inr (some 39)))]) (st' := [.inr (.inr (some 39)), .inl z31, .inr (.inr (some 15))]) (h' := gc_h sh I94 J95 A) (C := ((True ∧ True) ∧ True)) rfl ⟨⟨trivial, trivial⟩, trivial⟩ ?_
              have f105 := (show 0 ≤ I94 39 12 ∧ I94 39 12 ≤ 2000 from gc_in hI94 R_39 rfl rfl)
              refine gv_get hD rfl rfl S_39 ⟨by decide, B_39⟩ (gc_hI S_39 rfl) ?_
              show gv_X _ _ (129, [(1, .inl z31), (0, .inr (.inr (some 39)))], [.inl (I94 39 12), .inl z31, .inr (.inr (some 15))], sh, gc_h sh I94 J95 A)
              refine gv_iast hD rfl S_15 ⟨by decide, B_15⟩ ⟨by omega, by omega⟩ ?_
              refine gc_st hI94 S_15 rfl R_15 (lo := 0) (hi := 40) rfl rfl (by omega) (by omega) (fun I106 hI106 q107 p107 => ?_)
              have FI106 := gc_frs (W := fun q j => (q = 39 ∧ j = 3) ∨ (q = 39 ∧ j = 4) ∨ (q = 23 ∧ j = 5) ∨ (q = 23 ∧ j = 6) ∨ (q = 23 ∧ j = 7) ∨ (q = 23 ∧ j = 8) ∨ (q = 39 ∧ j = 12) ∨ (q = 39 ∧ j = 15) ∨ q = 43 ∨ q = 15 ∨ q = 16) FI94 (Or.inr (Or.inr (Or.inr (Or.inr (Or.inr (Or.inr (Or.inr (Or.inr (Or.inr (Or.inl rfl)))))))))) p107
              have t108 := p107 23 1 (fun h => absurd h.1 (by decide))
              have t109 := p107 23 5 (fun h => absurd h.1 (by decide))
              have t110 := p107 23 6 (fun h => absurd h.1 (by decide))
              have t111 := p107 23 7 (fun h => absurd h.1 (by decide))
              have t112 := p107 39 12 (fun h => absurd h.1 (by decide))
              have t113 := p107 39 15 (fun h => absurd h.1 (by decide))
              have t114 := p107 4 1 (fun h => absurd h.1 (by decide))
              have KLT_I106 := gc_LT_fr KLT_I94 (p107 23 5 (fun h => absurd h.1 (by decide))) (p107 23 6 (fun h => absurd h.1 (by decide))) (p107 23 7 (fun h => absurd h.1 (by decide))) (fun k => p107 24 k (fun h => absurd h.1 (by decide)))
              have KTK_I106 := gc_TK_fr KTK_I94 (p107 23 1 (fun h => absurd h.1 (by decide))) (p107 23 5 (fun h => absurd h.1 (by decide))) (p107 23 6 (fun h => absurd h.1 (by decide))) (p107 23 7 (fun h => absurd h.1 (by decide)))
              have KTO_I106 := gc_TO_fr KTO_I94 (p107 39 12 (fun h => absurd h.1 (by decide))) (fun k => p107 43 k (fun h => absurd h.1 (by decide)))
              show gv_X _ _ (130, [(1, .inl z31), (0, .inr (.inr (some 39)))], [], sh, gc_h sh I106 J95 A)
              refine gv_run 1 true hD (pc' := 131) (lv' := [(1, .inl z31), (0, .inr (.inr (some 39)))]) (st' := [.inr (.inr (some 39))]) (h' := gc_h sh I106 J95 A) (C := (True ∧ True)) rfl ⟨trivial, trivial⟩ ?_
              refine gv_get hD rfl rfl S_39 ⟨by decide, B_39⟩ (gc_hA S_39 rfl A_39_13) ?_
              show gv_X _ _ (134, [(1, .inl z31), (0, .inr (.inr (some 39)))], [.inr (.inr (some 43))], sh, gc_h sh I106 J95 A)
              refine gv_run 2 true hD (pc' := 136) (lv' := [(1, .inl z31), (0, .inr (.inr (some 39)))]) (st' := [.inr (.inr (some 39)), .inl 0, .inr (.inr (some 43))]) (h' := gc_h sh I106 J95 A) (C := ((True ∧ True) ∧ True)) rfl ⟨⟨trivial, trivial⟩, trivial⟩ ?_
              refine gv_get hD rfl rfl S_39 ⟨by decide, B_39⟩ (gc_hA S_39 rfl A_39_0) ?_
              show gv_X _ _ (139, [(1, .inl z31), (0, .inr (.inr (some 39)))], [.inr (.inr (some 1)), .inl 0, .inr (.inr (some 43))], sh, gc_h sh I106 J95 A)
              refine gv_get hD rfl rfl S_1 ⟨by decide, B_1⟩ (gc_hA S_1 rfl A_1_11) ?_
              show gv_X _ _ (142, [(1, .inl z31), (0, .inr (.inr (some 39)))], [.inr (.inr (some 16)), .inl 0, .inr (.inr (some 43))], sh, gc_h sh I106 J95 A)
              refine gv_run 4 true hD (pc' := 147) (lv' := [(1, .inl z31), (0, .inr (.inr (some 39)))]) (st' := [.inr (.inr (some 39)), .inl (z31 * 40), .inr (.inr (some 16)), .inl 0, .inr (.inr (some 43))]) (h' := gc_h sh I106 J95 A) (C := ((((True ∧ True) ∧ True) ∧ True) ∧ True)) rfl ⟨⟨⟨⟨trivial, trivial⟩, trivial⟩, trivial⟩, trivial⟩ ?_
              have f115 := (show 0 ≤ I106 39 12 ∧ I106 39 12 ≤ 2000 from gc_in hI106 R_39 rfl rfl)
              refine gv_get hD rfl rfl S_39 ⟨by decide, B_39⟩ (gc_hI S_39 rfl) ?_
              show gv_X _ _ (150, [(1, .inl z31), (0, .inr (.inr (some 39)))], [.inl (I106 39 12), .inl (z31 * 40), .inr (.inr (some 16)), .inl 0, .inr (.inr (some 43))], sh, gc_h sh I106 J95 A)
              refine gv_copy hD rfl (gc_lC6_263 hws) (Nat.le_of_ble_eq_true rfl) ⟨B_43, B_16⟩ S_43 S_16 (by decide) ⟨by decide, by decide⟩ ⟨by omega, by omega, by omega⟩ (by omega) (by omega) (fun h => absurd h (by decide)) ?_
              refine gc_cp hI106 S_43 S_16 (by decide) (fun j hj => by have h9 := (show (-7) ≤ I106 43 (Int.toNat 0 + j) ∧ I106 43 (Int.toNat 0 + j) ≤ 41 from gc_in hI106 R_43 rfl rfl); rw [R_16]; exact ⟨by show (-7) ≤ _; omega, by show _ ≤ 41; omega⟩) (fun I117 hI117 p116 q116 => ?_)
              have FI117 := gc_frp (W := fun q j => (q = 39 ∧ j = 3) ∨ (q = 39 ∧ j = 4) ∨ (q = 23 ∧ j = 5) ∨ (q = 23 ∧ j = 6) ∨ (q = 23 ∧ j = 7) ∨ (q = 23 ∧ j = 8) ∨ (q = 39 ∧ j = 12) ∨ (q = 39 ∧ j = 15) ∨ q = 43 ∨ q = 15 ∨ q = 16) (V := fun q j => q = 16 ∧ Int.toNat (z31 * 40) ≤ j ∧ j < Int.toNat (z31 * 40) + Int.toNat (I106 39 12)) FI106 (fun q j h => (Or.inr (Or.inr (Or.inr (Or.inr (Or.inr (Or.inr (Or.inr (Or.inr (Or.inr (Or.inr h.1))))))))))) p116
              have KLT_I117 := gc_LT_fr KLT_I106 (p116 23 5 (fun h => absurd h.1 (by decide))) (p116 23 6 (fun h => absurd h.1 (by decide))) (p116 23 7 (fun h => absurd h.1 (by decide))) (fun k => p116 24 k (fun h => absurd h.1 (by decide)))
              have KTK_I117 := gc_TK_fr KTK_I106 (p116 23 1 (fun h => absurd h.1 (by decide))) (p116 23 5 (fun h => absurd h.1 (by decide))) (p116 23 6 (fun h => absurd h.1 (by decide))) (p116 23 7 (fun h => absurd h.1 (by decide)))
              have KTO_I117 := gc_TO_fr KTO_I106 (p116 39 12 (fun h => absurd h.1 (by decide))) (fun k => p116 43 k (fun h => absurd h.1 (by decide)))
              have t119 := p116 23 1 (fun h => absurd h.1 (by decide))
              have t120 := p116 23 5 (fun h => absurd h.1 (by decide))
              have t121 := p116 23 6 (fun h => absurd h.1 (by decide))
              have t122 := p116 23 7 (fun h => absurd h.1 (by decide))
              have t123 := p116 39 12 (fun h => absurd h.1 (by decide))
              have t124 := p116 39 15 (fun h => absurd h.1 (by decide))
              have t125 := p116 4 1 (fun h => absurd h.1 (by decide))
              have t126 := gc_TK_mo KTK_I117
              have f127 := (show 0 ≤ I117 23 1 ∧ I117 23 1 ≤ 1000 from gc_in hI117 R_23 rfl rfl)
              have f128 := (show 0 ≤ I117 23 5 ∧ I117 23 5 ≤ 1000 from gc_in hI117 R_23 rfl rfl)
              have f129 := (show 0 ≤ I117 23 6 ∧ I117 23 6 ≤ 1001 from gc_in hI117 R_23 rfl rfl)
              have f130 := (show 0 ≤ I117 23 7 ∧ I117 23 7 ≤ 125 from gc_in hI117 R_23 rfl rfl)
              have f131 := (show 0 ≤ I117 39 12 ∧ I117 39 12 ≤ 2000 from gc_in hI117 R_39 rfl rfl)
              have f132 := (show 0 ≤ I117 39 15 ∧ I117 39 15 ≤ 41 from gc_in hI117 R_39 rfl rfl)
              have f133 := (show 0 ≤ I117 4 1 ∧ I117 4 1 ≤ 96 from gc_in hI117 R_4 rfl rfl)
              show gv_X _ _ (153, [(1, .inl z31), (0, .inr (.inr (some 39)))], [], sh, gc_h sh I117 J95 A)
              refine gv_run 1 true hD (pc' := 154) (lv' := [(1, .inl z31), (0, .inr (.inr (some 39)))]) (st' := [.inr (.inr (some 39))]) (h' := gc_h sh I117 J95 A) (C := (True ∧ True)) rfl ⟨trivial, trivial⟩ ?_
              refine gv_get hD rfl rfl S_39 ⟨by decide, B_39⟩ (gc_hA S_39 rfl A_39_14) ?_
              show gv_X _ _ (157, [(1, .inl z31), (0, .inr (.inr (some 39)))], [.inr (.inr (some 44))], sh, gc_h sh I117 J95 A)
              refine gv_run 2 true hD (pc' := 159) (lv' := [(1, .inl z31), (0, .inr (.inr (some 39)))]) (st' := [.inr (.inr (some 39)), .inl 0, .inr (.inr (some 44))]) (h' := gc_h sh I117 J95 A) (C := ((True ∧ True) ∧ True)) rfl ⟨⟨trivial, trivial⟩, trivial⟩ ?_
              refine gv_get hD rfl rfl S_39 ⟨by decide, B_39⟩ (gc_hA S_39 rfl A_39_0) ?_
              show gv_X _ _ (162, [(1, .inl z31), (0, .inr (.inr (some 39)))], [.inr (.inr (some 1)), .inl 0, .inr (.inr (some 44))], sh, gc_h sh I117 J95 A)
              refine gv_get hD rfl rfl S_1 ⟨by decide, B_1⟩ (gc_hA S_1 rfl A_1_12) ?_
              show gv_X _ _ (165, [(1, .inl z31), (0, .inr (.inr (some 39)))], [.inr (.inr (some 17)), .inl 0, .inr (.inr (some 44))], sh, gc_h sh I117 J95 A)
              refine gv_run 4 true hD (pc' := 170) (lv' := [(1, .inl z31), (0, .inr (.inr (some 39)))]) (st' := [.inr (.inr (some 39)), .inl (z31 * 40), .inr (.inr (some 17)), .inl 0, .inr (.inr (some 44))]) (h' := gc_h sh I117 J95 A) (C := ((((True ∧ True) ∧ True) ∧ True) ∧ True)) rfl ⟨⟨⟨⟨trivial, trivial⟩, trivial⟩, trivial⟩, trivial⟩ ?_
              have f134 := (show 0 ≤ I117 39 12 ∧ I117 39 12 ≤ 2000 from gc_in hI117 R_39 rfl rfl)
              refine gv_get hD rfl rfl S_39 ⟨by decide, B_39⟩ (gc_hI S_39 rfl) ?_
              show gv_X _ _ (173, [(1, .inl z31), (0, .inr (.inr (some 39)))], [.inl (I117 39 12), .inl (z31 * 40), .inr (.inr (some 17)), .inl 0, .inr (.inr (some 44))], sh, gc_h sh I117 J95 A)
              refine gv_copy hD rfl (gc_lC6_263 hws) (Nat.le_of_ble_eq_true rfl) ⟨B_44, B_17⟩ S_44 S_17 (by decide) ⟨by decide, by decide⟩ ⟨by omega, by omega, by omega⟩ (by omega) (by omega) (fun h => absurd h (by decide)) ?_
              refine gc_cpJ S_44 S_17 (fun J137 p135 q135 => ?_)
              have FJ137 := gc_frp (W := fun q j => (q = 23 ∧ j = 9) ∨ q = 44 ∨ q = 45 ∨ q = 17) (V := fun q j => q = 17 ∧ Int.toNat (z31 * 40) ≤ j ∧ j < Int.toNat (z31 * 40) + Int.toNat (I117 39 12)) FJ95 (fun q j h => (Or.inr (Or.inr (Or.inr h.1)))) p135
              show gv_X _ _ (176, [(1, .inl z31), (0, .inr (.inr (some 39)))], [], sh, gc_h sh I117 J137 A)
              refine gv_run 1 true hD (pc' := 177) (lv' := [(1, .inl z31), (0, .inr (.inr (some 39)))]) (st' := [.inl 1]) (h' := gc_h sh I117 J137 A) (C := (True ∧ True)) rfl ⟨trivial, trivial⟩ ?_
              exact gv_zret hD rfl (by omega) ⟨I117, J137, rfl, hI117, FI117, FJ137, KLT_I117, KTK_I117, (gc_MS_put (f0 := (Int.toNat z31)) (n := I80 39 12) (g := I80 43) KMS_I94 (by omega) (fun k => (p116 12 k (fun h => absurd h.1 (by decide))).trans (p107 12 k (fun h => absurd h.1 (by decide)))) (fun k hk => (p116 15 k (fun h => absurd h.1 (by decide))).trans (p107 15 k (fun h => hk h.2))) (fun k hk => (p116 16 k (fun h => hk (by have := h.2; omega))).trans (p107 16 k (fun h => absurd h.1 (by decide)))) (fun k => (show 0 ≤ I94 15 k ∧ I94 15 k ≤ 40 from gc_in hI94 R_15 rfl rfl).2) (by have h9 := (p116 15 (Int.toNat z31) (fun h => absurd h.1 (by decide))).trans q107; omega) (by omega) ((gc_TZ_of (q79.2.2.2.2.2.2.2.resolve_left (by omega)) (by omega)) (by omega)) (fun k hk => by have h9 := q116 k (by omega); rw [show Int.toNat ((z31 * 40)) = (Int.toNat z31) * 40 from by omega, show Int.toNat 0 + k = k from by omega] at h9; rw [h9]; exact (p107 43 k (fun h => absurd h.1 (by decide))).trans (((g93 43 k).resolve_left (by omega)))) (fun k hk => by have h9 := KTO_I80 k (by omega) (by omega); have h8 : I117 12 (Int.toNat z31) = I 12 (Int.toNat z31) := (FI117 12 (Int.toNat z31)).resolve_left (by omega); omega)), ⟨_, rfl, by omega⟩⟩
            · show gv_X _ _ (115, [(1, .inl z31), (0, .inr (.inr (some 39)))], [], sh, gc_h sh I94 J95 A)
              refine gv_pick [] rfl ?_
              exact L115 I94 J95 hI94 FI94 FJ95 KMS_I94 KLT_I94 KTK_I94 (by omega)
          · show gv_X _ _ (104, [(1, .inl z31), (0, .inr (.inr (some 39)))], [.inr (.inr (some 39))], sh, gc_h sh I80 J81 A)
            refine gv_run 2 true hD (pc' := 109) (lv' := [(1, .inl z31), (0, .inr (.inr (some 39)))]) (st' := [.inl 1, .inr (.inr (some 39))]) (h' := gc_h sh I80 J81 A) (C := ((True ∧ True) ∧ True)) rfl ⟨⟨trivial, trivial⟩, trivial⟩ ?_
            obtain ⟨r138, h138, E138, P138⟩ := d_X6_closes (ws0 := ws0) (tb := tb) hws htb sh ro I80 J81 A hI80  1 hb   ⟨by omega, by omega⟩  KLT_I80 KTK_I80
            obtain ⟨I139, J140, rfl, hI139, g138, k138, KLT_I139, KTK_I139, ⟨z138, rfl, q138⟩⟩ := P138
            have FI139 := gc_frc (W := fun q j => (q = 39 ∧ j = 3) ∨ (q = 39 ∧ j = 4) ∨ (q = 23 ∧ j = 5) ∨ (q = 23 ∧ j = 6) ∨ (q = 23 ∧ j = 7) ∨ (q = 23 ∧ j = 8) ∨ (q = 39 ∧ j = 12) ∨ (q = 39 ∧ j = 15) ∨ q = 43 ∨ q = 15 ∨ q = 16) (V := fun q j => (q = 39 ∧ j = 3) ∨ (q = 39 ∧ j = 4) ∨ (q = 23 ∧ j = 5) ∨ (q = 23 ∧ j = 6) ∨ (q = 23 ∧ j = 7) ∨ (q = 23 ∧ j = 8)) FI80 (fun q j h => (h.elim (fun h => (Or.inl h)) (fun h => (h.elim (fun h => (Or.inr (Or.inl h))) (fun h => (h.elim (fun h => (Or.inr (Or.inr (Or.inl h)))) (fun h => (h.elim (fun h => (Or.inr (Or.inr (Or.inr (Or.inl h))))) (fun h => (h.elim (fun h => (Or.inr (Or.inr (Or.inr (Or.inr (Or.inl h)))))) (fun h => (Or.inr (Or.inr (Or.inr (Or.inr (Or.inr (Or.inl h))))))))))))))))) g138
            have FJ140 := gc_frc (W := fun q j => (q = 23 ∧ j = 9) ∨ q = 44 ∨ q = 45 ∨ q = 17) (V := fun q j => (q = 23 ∧ j = 9)) FJ81 (fun q j h => (Or.inl h)) k138
            have t141 := (g138 23 1).resolve_left (fun h => h.elim (fun h => absurd h.2 (by decide)) (fun h => h.elim (fun h => absurd h.2 (by decide)) (fun h => h.elim (fun h => absurd h.2 (by decide)) (fun h => h.elim (fun h => absurd h.2 (by decide)) (fun h => h.elim (fun h => absurd h.2 (by decide)) (fun h => absurd h.2 (by decide)))))))
            have t142 := (g138 39 12).resolve_left (fun h => h.elim (fun h => absurd h.2 (by decide)) (fun h => h.elim (fun h => absurd h.2 (by decide)) (fun h => h.elim (fun h => absurd h.2 (by decide)) (fun h => h.elim (fun h => absurd h.2 (by decide)) (fun h => h.elim (fun h => absurd h.2 (by decide)) (fun h => absurd h.2 (by decide)))))))
            have t143 := (g138 39 15).resolve_left (fun h => h.elim (fun h => absurd h.2 (by decide)) (fun h => h.elim (fun h => absurd h.2 (by decide)) (fun h => h.elim (fun h => absurd h.2 (by decide)) (fun h => h.elim (fun h => absurd h.2 (by decide)) (fun h => h.elim (fun h => absurd h.2 (by decide)) (fun h => absurd h.2 (by decide)))))))
            have t144 := (g138 4 1).resolve_left (fun h => h.elim (fun h => absurd h.2 (by decide)) (fun h => h.elim (fun h => absurd h.2 (by decide)) (fun h => h.elim (fun h => absurd h.2 (by decide)) (fun h => h.elim (fun h => absurd h.2 (by decide)) (fun h => h.elim (fun h => absurd h.2 (by decide)) (fun h => absurd h.2 (by decide)))))))
            have f145 := (show 0 ≤ I139 23 5 ∧ I139 23 5 ≤ 1000 from gc_in hI139 R_23 rfl rfl)
            have f146 := (show 0 ≤ I139 23 6 ∧ I139 23 6 ≤ 1001 from gc_in hI139 R_23 rfl rfl)
            have f147 := (show 0 ≤ I139 23 7 ∧ I139 23 7 ≤ 125 from gc_in hI139 R_23 rfl rfl)
            have t148 := gc_TK_mo KTK_I139
            have KMS_I139 := gc_MS_fr KMS_I80 (Int.le_of_eq ((g138 4 1).resolve_left (fun h => h.elim (fun h => absurd h.2 (by decide)) (fun h => h.elim (fun h => absurd h.2 (by decide)) (fun h => h.elim (fun h => absurd h.2 (by decide)) (fun h => h.elim (fun h => absurd h.2 (by decide)) (fun h => h.elim (fun h => absurd h.2 (by decide)) (fun h => absurd h.2 (by decide)))))))).symm) (fun k => (g138 12 k).resolve_left (fun h => h.elim (fun h => absurd h.1 (by decide)) (fun h => h.elim (fun h => absurd h.1 (by decide)) (fun h => h.elim (fun h => absurd h.1 (by decide)) (fun h => h.elim (fun h => absurd h.1 (by decide)) (fun h => h.elim (fun h => absurd h.1 (by decide)) (fun h => absurd h.1 (by decide)))))))) (fun k => (g138 15 k).resolve_left (fun h => h.elim (fun h => absurd h.1 (by decide)) (fun h => h.elim (fun h => absurd h.1 (by decide)) (fun h => h.elim (fun h => absurd h.1 (by decide)) (fun h => h.elim (fun h => absurd h.1 (by decide)) (fun h => h.elim (fun h => absurd h.1 (by decide)) (fun h => absurd h.1 (by decide)))))))) (fun k => (g138 16 k).resolve_left (fun h => h.elim (fun h => absurd h.1 (by decide)) (fun h => h.elim (fun h => absurd h.1 (by decide)) (fun h => h.elim (fun h => absurd h.1 (by decide)) (fun h => h.elim (fun h => absurd h.1 (by decide)) (fun h => h.elim (fun h => absurd h.1 (by decide)) (fun h => absurd h.1 (by decide))))))))
            have KTO_I139 := gc_TO_fr KTO_I80 ((g138 39 12).resolve_left (fun h => h.elim (fun h => absurd h.2 (by decide)) (fun h => h.elim (fun h => absurd h.2 (by decide)) (fun h => h.elim (fun h => absurd h.2 (by decide)) (fun h => h.elim (fun h => absurd h.2 (by decide)) (fun h => h.elim (fun h => absurd h.2 (by decide)) (fun h => absurd h.2 (by decide)))))))) (fun k => (g138 43 k).resolve_left (fun h => h.elim (fun h => absurd h.1 (by decide)) (fun h => h.elim (fun h => absurd h.1 (by decide)) (fun h => h.elim (fun h => absurd h.1 (by decide)) (fun h => h.elim (fun h => absurd h.1 (by decide)) (fun h => h.elim (fun h => absurd h.1 (by decide)) (fun h => absurd h.1 (by decide))))))))
            refine gv_callV hD rfl (As := [.inl 1]) (st := []) rfl B_39 S_39 rfl (gc_lV6 hws rfl) (Nat.le_of_ble_eq_true rfl) (gz_Ev_mono (d := 4) (by decide) E138) ?_
            show gv_X _ _ (112, [(1, .inl z31), (0, .inr (.inr (some 39)))], [.inl z138], sh, gc_h sh I139 J140 A)
            refine gv_if_ne (t := 117) hD rfl rfl ⟨by omega, by omega⟩ (fun c149 => ?_) (fun c149 => ?_)
            · show gv_X _ _ (117, [(1, .inl z31), (0, .inr (.inr (some 39)))], [], sh, gc_h sh I139 J140 A)
              refine gv_run 1 true hD (pc' := 118) (lv' := [(1, .inl z31), (0, .inr (.inr (some 39)))]) (st' := [.inr (.inr (some 39))]) (h' := gc_h sh I139 J140 A) (C := (True ∧ True)) rfl ⟨trivial, trivial⟩ ?_
              refine gv_get hD rfl rfl S_39 ⟨by decide, B_39⟩ (gc_hA S_39 rfl A_39_0) ?_
              show gv_X _ _ (121, [(1, .inl z31), (0, .inr (.inr (some 39)))], [.inr (.inr (some 1))], sh, gc_h sh I139 J140 A)
              refine gv_get hD rfl rfl S_1 ⟨by decide, B_1⟩ (gc_hA S_1 rfl A_1_10) ?_
              show gv_X _ _ (124, [(1, .inl z31), (0, .inr (.inr (some 39)))], [.inr (.inr (some 15))], sh, gc_h sh I139 J140 A)
              refine gv_run 2 true hD (pc' := 126) (lv' := [(1, .inl z31), (0, .inr (.inr (some 39)))]) (st' := [.inr (.inr (some 39)), .inl z31, .inr (.inr (some 15))]) (h' := gc_h sh I139 J140 A) (C := ((True ∧ True) ∧ True)) rfl ⟨⟨trivial, trivial⟩, trivial⟩ ?_
              have f150 := (show 0 ≤ I139 39 12 ∧ I139 39 12 ≤ 2000 from gc_in hI139 R_39 rfl rfl)
              refine gv_get hD rfl rfl S_39 ⟨by decide, B_39⟩ (gc_hI S_39 rfl) ?_
              show gv_X _ _ (129, [(1, .inl z31), (0, .inr (.inr (some 39)))], [.inl (I139 39 12), .inl z31, .inr (.inr (some 15))], sh, gc_h sh I139 J140 A)
              refine gv_iast hD rfl S_15 ⟨by decide, B_15⟩ ⟨by omega, by omega⟩ ?_
              refine gc_st hI139 S_15 rfl R_15 (lo := 0) (hi := 40) rfl rfl (by omega) (by omega) (fun I151 hI151 q152 p152 => ?_)
              have FI151 := gc_frs (W := fun q j => (q = 39 ∧ j = 3) ∨ (q = 39 ∧ j = 4) ∨ (q = 23 ∧ j = 5) ∨ (q = 23 ∧ j = 6) ∨ (q = 23 ∧ j = 7) ∨ (q = 23 ∧ j = 8) ∨ (q = 39 ∧ j = 12) ∨ (q = 39 ∧ j = 15) ∨ q = 43 ∨ q = 15 ∨ q = 16) FI139 (Or.inr (Or.inr (Or.inr (Or.inr (Or.inr (Or.inr (Or.inr (Or.inr (Or.inr (Or.inl rfl)))))))))) p152
              have t153 := p152 23 1 (fun h => absurd h.1 (by decide))
              have t154 := p152 23 5 (fun h => absurd h.1 (by decide))
              have t155 := p152 23 6 (fun h => absurd h.1 (by decide))
              have t156 := p152 23 7 (fun h => absurd h.1 (by decide))
              have t157 := p152 39 12 (fun h => absurd h.1 (by decide))
              have t158 := p152 39 15 (fun h => absurd h.1 (by decide))
              have t159 := p152 4 1 (fun h => absurd h.1 (by decide))
              have KLT_I151 := gc_LT_fr KLT_I139 (p152 23 5 (fun h => absurd h.1 (by decide))) (p152 23 6 (fun h => absurd h.1 (by decide))) (p152 23 7 (fun h => absurd h.1 (by decide))) (fun k => p152 24 k (fun h => absurd h.1 (by decide)))
              have KTK_I151 := gc_TK_fr KTK_I139 (p152 23 1 (fun h => absurd h.1 (by decide))) (p152 23 5 (fun h => absurd h.1 (by decide))) (p152 23 6 (fun h => absurd h.1 (by decide))) (p152 23 7 (fun h => absurd h.1 (by decide)))
              have KTO_I151 := gc_TO_fr KTO_I139 (p152 39 12 (fun h => absurd h.1 (by decide))) (fun k => p152 43 k (fun h => absurd h.1 (by decide)))
              show gv_X _ _ (130, [(1, .inl z31), (0, .inr (.inr (some 39)))], [], sh, gc_h sh I151 J140 A)
              refine gv_run 1 true hD (pc' := 131) (lv' := [(1, .inl z31), (0, .inr (.inr (some 39)))]) (st' := [.inr (.inr (some 39))]) (h' := gc_h sh I151 J140 A) (C := (True ∧ True)) rfl ⟨trivial, trivial⟩ ?_
              refine gv_get hD rfl rfl S_39 ⟨by decide, B_39⟩ (gc_hA S_39 rfl A_39_13) ?_
              show gv_X _ _ (134, [(1, .inl z31), (0, .inr (.inr (some 39)))], [.inr (.inr (some 43))], sh, gc_h sh I151 J140 A)
              refine gv_run 2 true hD (pc' := 136) (lv' := [(1, .inl z31), (0, .inr (.inr (some 39)))]) (st' := [.inr (.inr (some 39)), .inl 0, .inr (.inr (some 43))]) (h' := gc_h sh I151 J140 A) (C := ((True ∧ True) ∧ True)) rfl ⟨⟨trivial, trivial⟩, trivial⟩ ?_
              refine gv_get hD rfl rfl S_39 ⟨by decide, B_39⟩ (gc_hA S_39 rfl A_39_0) ?_
              show gv_X _ _ (139, [(1, .inl z31), (0, .inr (.inr (some 39)))], [.inr (.inr (some 1)), .inl 0, .inr (.inr (some 43))], sh, gc_h sh I151 J140 A)
              refine gv_get hD rfl rfl S_1 ⟨by decide, B_1⟩ (gc_hA S_1 rfl A_1_11) ?_
              show gv_X _ _ (142, [(1, .inl z31), (0, .inr (.inr (some 39)))], [.inr (.inr (some 16)), .inl 0, .inr (.inr (some 43))], sh, gc_h sh I151 J140 A)
              refine gv_run 4 true hD (pc' := 147) (lv' := [(1, .inl z31), (0, .inr (.inr (some 39)))]) (st' := [.inr (.inr (some 39)), .inl (z31 * 40), .inr (.inr (some 16)), .inl 0, .inr (.inr (some 43))]) (h' := gc_h sh I151 J140 A) (C := ((((True ∧ True) ∧ True) ∧ True) ∧ True)) rfl ⟨⟨⟨⟨trivial, trivial⟩, trivial⟩, trivial⟩, trivial⟩ ?_
              have f160 := (show 0 ≤ I151 39 12 ∧ I151 39 12 ≤ 2000 from gc_in hI151 R_39 rfl rfl)
              refine gv_get hD rfl rfl S_39 ⟨by decide, B_39⟩ (gc_hI S_39 rfl) ?_
              show gv_X _ _ (150, [(1, .inl z31), (0, .inr (.inr (some 39)))], [.inl (I151 39 12), .inl (z31 * 40), .inr (.inr (some 16)), .inl 0, .inr (.inr (some 43))], sh, gc_h sh I151 J140 A)
              refine gv_copy hD rfl (gc_lC6_263 hws) (Nat.le_of_ble_eq_true rfl) ⟨B_43, B_16⟩ S_43 S_16 (by decide) ⟨by decide, by decide⟩ ⟨by omega, by omega, by omega⟩ (by omega) (by omega) (fun h => absurd h (by decide)) ?_
              refine gc_cp hI151 S_43 S_16 (by decide) (fun j hj => by have h9 := (show (-7) ≤ I151 43 (Int.toNat 0 + j) ∧ I151 43 (Int.toNat 0 + j) ≤ 41 from gc_in hI151 R_43 rfl rfl); rw [R_16]; exact ⟨by show (-7) ≤ _; omega, by show _ ≤ 41; omega⟩) (fun I162 hI162 p161 q161 => ?_)
              have FI162 := gc_frp (W := fun q j => (q = 39 ∧ j = 3) ∨ (q = 39 ∧ j = 4) ∨ (q = 23 ∧ j = 5) ∨ (q = 23 ∧ j = 6) ∨ (q = 23 ∧ j = 7) ∨ (q = 23 ∧ j = 8) ∨ (q = 39 ∧ j = 12) ∨ (q = 39 ∧ j = 15) ∨ q = 43 ∨ q = 15 ∨ q = 16) (V := fun q j => q = 16 ∧ Int.toNat (z31 * 40) ≤ j ∧ j < Int.toNat (z31 * 40) + Int.toNat (I151 39 12)) FI151 (fun q j h => (Or.inr (Or.inr (Or.inr (Or.inr (Or.inr (Or.inr (Or.inr (Or.inr (Or.inr (Or.inr h.1))))))))))) p161
              have KLT_I162 := gc_LT_fr KLT_I151 (p161 23 5 (fun h => absurd h.1 (by decide))) (p161 23 6 (fun h => absurd h.1 (by decide))) (p161 23 7 (fun h => absurd h.1 (by decide))) (fun k => p161 24 k (fun h => absurd h.1 (by decide)))
              have KTK_I162 := gc_TK_fr KTK_I151 (p161 23 1 (fun h => absurd h.1 (by decide))) (p161 23 5 (fun h => absurd h.1 (by decide))) (p161 23 6 (fun h => absurd h.1 (by decide))) (p161 23 7 (fun h => absurd h.1 (by decide)))
              have KTO_I162 := gc_TO_fr KTO_I151 (p161 39 12 (fun h => absurd h.1 (by decide))) (fun k => p161 43 k (fun h => absurd h.1 (by decide)))
              have t164 := p161 23 1 (fun h => absurd h.1 (by decide))
              have t165 := p161 23 5 (fun h => absurd h.1 (by decide))
              have t166 := p161 23 6 (fun h => absurd h.1 (by decide))
              have t167 := p161 23 7 (fun h => absurd h.1 (by decide))
              have t168 := p161 39 12 (fun h => absurd h.1 (by decide))
              have t169 := p161 39 15 (fun h => absurd h.1 (by decide))
              have t170 := p161 4 1 (fun h => absurd h.1 (by decide))
              have t171 := gc_TK_mo KTK_I162
              have f172 := (show 0 ≤ I162 23 1 ∧ I162 23 1 ≤ 1000 from gc_in hI162 R_23 rfl rfl)
              have f173 := (show 0 ≤ I162 23 5 ∧ I162 23 5 ≤ 1000 from gc_in hI162 R_23 rfl rfl)
              have f174 := (show 0 ≤ I162 23 6 ∧ I162 23 6 ≤ 1001 from gc_in hI162 R_23 rfl rfl)
              have f175 := (show 0 ≤ I162 23 7 ∧ I162 23 7 ≤ 125 from gc_in hI162 R_23 rfl rfl)
              have f176 := (show 0 ≤ I162 39 12 ∧ I162 39 12 ≤ 2000 from gc_in hI162 R_39 rfl rfl)
              have f177 := (show 0 ≤ I162 39 15 ∧ I162 39 15 ≤ 41 from gc_in hI162 R_39 rfl rfl)
              have f178 := (show 0 ≤ I162 4 1 ∧ I162 4 1 ≤ 96 from gc_in hI162 R_4 rfl rfl)
              show gv_X _ _ (153, [(1, .inl z31), (0, .inr (.inr (some 39)))], [], sh, gc_h sh I162 J140 A)
              refine gv_run 1 true hD (pc' := 154) (lv' := [(1, .inl z31), (0, .inr (.inr (some 39)))]) (st' := [.inr (.inr (some 39))]) (h' := gc_h sh I162 J140 A) (C := (True ∧ True)) rfl ⟨trivial, trivial⟩ ?_
              refine gv_get hD rfl rfl S_39 ⟨by decide, B_39⟩ (gc_hA S_39 rfl A_39_14) ?_
              show gv_X _ _ (157, [(1, .inl z31), (0, .inr (.inr (some 39)))], [.inr (.inr (some 44))], sh, gc_h sh I162 J140 A)
              refine gv_run 2 true hD (pc' := 159) (lv' := [(1, .inl z31), (0, .inr (.inr (some 39)))]) (st' := [.inr (.inr (some 39)), .inl 0, .inr (.inr (some 44))]) (h' := gc_h sh I162 J140 A) (C := ((True ∧ True) ∧ True)) rfl ⟨⟨trivial, trivial⟩, trivial⟩ ?_
              refine gv_get hD rfl rfl S_39 ⟨by decide, B_39⟩ (gc_hA S_39 rfl A_39_0) ?_
              show gv_X _ _ (162, [(1, .inl z31), (0, .inr (.inr (some 39)))], [.inr (.inr (some 1)), .inl 0, .inr (.inr (some 44))], sh, gc_h sh I162 J140 A)
              refine gv_get hD rfl rfl S_1 ⟨by decide, B_1⟩ (gc_hA S_1 rfl A_1_12) ?_
              show gv_X _ _ (165, [(1, .inl z31), (0, .inr (.inr (some 39)))], [.inr (.inr (some 17)), .inl 0, .inr (.inr (some 44))], sh, gc_h sh I162 J140 A)
              refine gv_run 4 true hD (pc' := 170) (lv' := [(1, .inl z31), (0, .inr (.inr (some 39)))]) (st' := [.inr (.inr (some 39)), .inl (z31 * 40), .inr (.inr (some 17)), .inl 0, .inr (.inr (some 44))]) (h' := gc_h sh I162 J140 A) (C := ((((True ∧ True) ∧ True) ∧ True) ∧ True)) rfl ⟨⟨⟨⟨trivial, trivial⟩, trivial⟩, trivial⟩, trivial⟩ ?_
              have f179 := (show 0 ≤ I162 39 12 ∧ I162 39 12 ≤ 2000 from gc_in hI162 R_39 rfl rfl)
              refine gv_get hD rfl rfl S_39 ⟨by decide, B_39⟩ (gc_hI S_39 rfl) ?_
              show gv_X _ _ (173, [(1, .inl z31), (0, .inr (.inr (some 39)))], [.inl (I162 39 12), .inl (z31 * 40), .inr (.inr (some 17)), .inl 0, .inr (.inr (some 44))], sh, gc_h sh I162 J140 A)
              refine gv_copy hD rfl (gc_lC6_263 hws) (Nat.le_of_ble_eq_true rfl) ⟨B_44, B_17⟩ S_44 S_17 (by decide) ⟨by decide, by decide⟩ ⟨by omega, by omega, by omega⟩ (by omega) (by omega) (fun h => absurd h (by decide)) ?_
              refine gc_cpJ S_44 S_17 (fun J182 p180 q180 => ?_)
              have FJ182 := gc_frp (W := fun q j => (q = 23 ∧ j = 9) ∨ q = 44 ∨ q = 45 ∨ q = 17) (V := fun q j => q = 17 ∧ Int.toNat (z31 * 40) ≤ j ∧ j < Int.toNat (z31 * 40) + Int.toNat (I162 39 12)) FJ140 (fun q j h => (Or.inr (Or.inr (Or.inr h.1)))) p180
              show gv_X _ _ (176, [(1, .inl z31), (0, .inr (.inr (some 39)))], [], sh, gc_h sh I162 J182 A)
              refine gv_run 1 true hD (pc' := 177) (lv' := [(1, .inl z31), (0, .inr (.inr (some 39)))]) (st' := [.inl 1]) (h' := gc_h sh I162 J182 A) (C := (True ∧ True)) rfl ⟨trivial, trivial⟩ ?_
              exact gv_zret hD rfl (by omega) ⟨I162, J182, rfl, hI162, FI162, FJ182, KLT_I162, KTK_I162, (gc_MS_put (f0 := (Int.toNat z31)) (n := I80 39 12) (g := I80 43) KMS_I139 (by omega) (fun k => (p161 12 k (fun h => absurd h.1 (by decide))).trans (p152 12 k (fun h => absurd h.1 (by decide)))) (fun k hk => (p161 15 k (fun h => absurd h.1 (by decide))).trans (p152 15 k (fun h => hk h.2))) (fun k hk => (p161 16 k (fun h => hk (by have := h.2; omega))).trans (p152 16 k (fun h => absurd h.1 (by decide)))) (fun k => (show 0 ≤ I139 15 k ∧ I139 15 k ≤ 40 from gc_in hI139 R_15 rfl rfl).2) (by have h9 := (p161 15 (Int.toNat z31) (fun h => absurd h.1 (by decide))).trans q152; omega) (by omega) ((gc_TZ_of (q79.2.2.2.2.2.2.2.resolve_left (by omega)) (by omega)) (by omega)) (fun k hk => by have h9 := q161 k (by omega); rw [show Int.toNat ((z31 * 40)) = (Int.toNat z31) * 40 from by omega, show Int.toNat 0 + k = k from by omega] at h9; rw [h9]; exact (p152 43 k (fun h => absurd h.1 (by decide))).trans (((g138 43 k).resolve_left (by omega)))) (fun k hk => by have h9 := KTO_I80 k (by omega) (by omega); have h8 : I162 12 (Int.toNat z31) = I 12 (Int.toNat z31) := (FI162 12 (Int.toNat z31)).resolve_left (by omega); omega)), ⟨_, rfl, by omega⟩⟩
            · show gv_X _ _ (115, [(1, .inl z31), (0, .inr (.inr (some 39)))], [], sh, gc_h sh I139 J140 A)
              refine gv_pick [] rfl ?_
              exact L115 I139 J140 hI139 FI139 FJ140 KMS_I139 KLT_I139 KTK_I139 (by omega)
    · show gv_X _ _ (46, [(1, .inl z31), (0, .inr (.inr (some 39)))], [], sh, gc_h sh I21 J A)
      refine gv_run 3 true hD (pc' := 49) (lv' := [(1, .inl z31), (0, .inr (.inr (some 39)))]) (st' := [.inr (.inr (some 39)), .inl 4, .inr (.inr (some 39))]) (h' := gc_h sh I21 J A) (C := (((True ∧ True) ∧ True) ∧ True)) rfl ⟨⟨⟨trivial, trivial⟩, trivial⟩, trivial⟩ ?_
      refine gv_get hD rfl rfl S_39 ⟨by decide, B_39⟩ (gc_hA S_39 rfl A_39_1) ?_
      show gv_X _ _ (52, [(1, .inl z31), (0, .inr (.inr (some 39)))], [.inr (.inr (some 23)), .inl 4, .inr (.inr (some 39))], sh, gc_h sh I21 J A)
      have f183 := (show 0 ≤ I21 23 5 ∧ I21 23 5 ≤ 1000 from gc_in hI21 R_23 rfl rfl)
      refine gv_get hD rfl rfl S_23 ⟨by decide, B_23⟩ (gc_hI S_23 rfl) ?_
      show gv_X _ _ (55, [(1, .inl z31), (0, .inr (.inr (some 39)))], [.inl (I21 23 5), .inl 4, .inr (.inr (some 39))], sh, gc_h sh I21 J A)
      obtain ⟨r184, h184, E184, P184⟩ := d_X6_wrong (ws0 := ws0) (tb := tb) hws htb sh ro I21 J A hI21  4 (I21 23 5) hb   ⟨by omega, by omega⟩ ⟨by omega, by omega⟩  
      obtain ⟨I185, J186, rfl, hI185, g184, k184, ⟨z184, rfl, q184⟩⟩ := P184
      have FI185 := gc_frc (W := fun q j => (q = 39 ∧ j = 3) ∨ (q = 39 ∧ j = 4) ∨ (q = 23 ∧ j = 5) ∨ (q = 23 ∧ j = 6) ∨ (q = 23 ∧ j = 7) ∨ (q = 23 ∧ j = 8) ∨ (q = 39 ∧ j = 12) ∨ (q = 39 ∧ j = 15) ∨ q = 43 ∨ q = 15 ∨ q = 16) (V := fun q j => (q = 39 ∧ j = 3) ∨ (q = 39 ∧ j = 4)) FI21 (fun q j h => (h.elim (fun h => (Or.inl h)) (fun h => (Or.inr (Or.inl h))))) g184
      have t187 := (g184 23 1).resolve_left (fun h => h.elim (fun h => absurd h.2 (by decide)) (fun h => absurd h.2 (by decide)))
      have t188 := (g184 23 5).resolve_left (fun h => h.elim (fun h => absurd h.2 (by decide)) (fun h => absurd h.2 (by decide)))
      have t189 := (g184 23 6).resolve_left (fun h => h.elim (fun h => absurd h.2 (by decide)) (fun h => absurd h.2 (by decide)))
      have t190 := (g184 23 7).resolve_left (fun h => h.elim (fun h => absurd h.2 (by decide)) (fun h => absurd h.2 (by decide)))
      have t191 := (g184 39 12).resolve_left (fun h => h.elim (fun h => absurd h.2 (by decide)) (fun h => absurd h.2 (by decide)))
      have t192 := (g184 39 15).resolve_left (fun h => h.elim (fun h => absurd h.2 (by decide)) (fun h => absurd h.2 (by decide)))
      have t193 := (g184 4 1).resolve_left (fun h => h.elim (fun h => absurd h.2 (by decide)) (fun h => absurd h.2 (by decide)))
      obtain rfl : J = J186 := funext fun q => funext fun j => ((k184 q j).resolve_left id).symm
      have KLT_I185 := gc_LT_fr KLT_I21 ((g184 23 5).resolve_left (fun h => h.elim (fun h => absurd h.2 (by decide)) (fun h => absurd h.2 (by decide)))) ((g184 23 6).resolve_left (fun h => h.elim (fun h => absurd h.2 (by decide)) (fun h => absurd h.2 (by decide)))) ((g184 23 7).resolve_left (fun h => h.elim (fun h => absurd h.2 (by decide)) (fun h => absurd h.2 (by decide)))) (fun k => (g184 24 k).resolve_left (fun h => h.elim (fun h => absurd h.1 (by decide)) (fun h => absurd h.1 (by decide))))
      have KTK_I185 := gc_TK_fr KTK_I21 ((g184 23 1).resolve_left (fun h => h.elim (fun h => absurd h.2 (by decide)) (fun h => absurd h.2 (by decide)))) ((g184 23 5).resolve_left (fun h => h.elim (fun h => absurd h.2 (by decide)) (fun h => absurd h.2 (by decide)))) ((g184 23 6).resolve_left (fun h => h.elim (fun h => absurd h.2 (by decide)) (fun h => absurd h.2 (by decide)))) ((g184 23 7).resolve_left (fun h => h.elim (fun h => absurd h.2 (by decide)) (fun h => absurd h.2 (by decide))))
      have KMS_I185 := gc_MS_fr KMS_I21 (Int.le_of_eq ((g184 4 1).resolve_left (fun h => h.elim (fun h => absurd h.2 (by decide)) (fun h => absurd h.2 (by decide)))).symm) (fun k => (g184 12 k).resolve_left (fun h => h.elim (fun h => absurd h.1 (by decide)) (fun h => absurd h.1 (by decide)))) (fun k => (g184 15 k).resolve_left (fun h => h.elim (fun h => absurd h.1 (by decide)) (fun h => absurd h.1 (by decide)))) (fun k => (g184 16 k).resolve_left (fun h => h.elim (fun h => absurd h.1 (by decide)) (fun h => absurd h.1 (by decide))))
      refine gv_callV hD rfl (As := [.inl 4, .inl (I21 23 5)]) (st := []) rfl B_39 S_39 rfl (gc_lV6 hws rfl) (Nat.le_of_ble_eq_true rfl) (gz_Ev_mono (d := 1) (by decide) E184) ?_
      show gv_X _ _ (58, [(1, .inl z31), (0, .inr (.inr (some 39)))], [.inl z184], sh, gc_h sh I185 J A)
      exact gv_zret hD rfl (by omega) ⟨I185, J, rfl, hI185, FI185, FJ, KLT_I185, KTK_I185, KMS_I185, ⟨_, rfl, by omega⟩⟩
  · show gv_X _ _ (14, [(0, .inr (.inr (some 39)))], [], sh, gc_h sh I21 J A)
    refine gv_run 1 true hD (pc' := 15) (lv' := [(0, .inr (.inr (some 39)))]) (st' := [.inl 0]) (h' := gc_h sh I21 J A) (C := (True ∧ True)) rfl ⟨trivial, trivial⟩ ?_
    exact gv_zret hD rfl (by omega) ⟨I21, J, rfl, hI21, FI21, FJ, KLT_I21, KTK_I21, KMS_I21, ⟨_, rfl, by omega⟩⟩
