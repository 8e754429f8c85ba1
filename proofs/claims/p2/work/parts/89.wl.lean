theorem gh_R0_of {sh : gz_Sh} {ro : Nat → Nat} {I : gr_I} {J : gr_J} {A A' : gc_A} (hs : gh_HS sh ro I J A) (h : ∀ j t : Nat, (j : Int) < I 8 1 → A' 10 j = some t → A 10 j = some t) : gh_R0 A' I := by
  obtain ⟨hb, hI, hok, hT, hU, hM, hc⟩ := hs
  have h81 : 0 ≤ I 8 1 ∧ I 8 1 ≤ 8 := gc_in hI (gc_bR hb (by decide) rfl) rfl rfl
  refine ⟨⟨gc_in hI (gc_bR hb (by decide) rfl) rfl rfl, gc_in hI (gc_bR hb (by decide) rfl) rfl rfl, gc_in hI (gc_bR hb (by decide) rfl) rfl rfl, h81, gc_in hI (gc_bR hb (by decide) rfl) rfl rfl, (show (0 : Int) ≤ I 1 17 ∧ I 1 17 ≤ 12000 from gc_in hI (gc_bR hb (by decide) rfl) rfl rfl).1, gc_in hI (gc_bR hb (by decide) rfl) rfl rfl⟩, fun j t hj ht => ?_, fun f _ => gc_in hI (gc_bR hb (by decide) rfl) rfl rfl⟩
  obtain ⟨b0, b1, b2, b3, b4, b5, b6, b7, b8, b9, b10, b11, b12, b13, b14, b15, b16, b17, b18, b19, b20, b21, b22, b23, b24, b25, b26, b27, b28, b29, b30, b31, b32, b33, b34, b35, b36, b37, b38, b39, b40, b41, b42, b43, b44⟩ := (hT.1 j t (by omega) (h j t hj ht)).1
  exact ⟨(show (0 : Int) ≤ I (t + 1) 1 ∧ I (t + 1) 1 ≤ 8 from gc_in hI b4.2.1 rfl rfl), (show (0 : Int) ≤ I (t + 3) 1 ∧ I (t + 3) 1 ≤ 48 from gc_in hI b6.2.1 rfl rfl), (show (0 : Int) ≤ I (t + 7) 1 ∧ I (t + 7) 1 ≤ 16 from gc_in hI b16.2.1 rfl rfl), (show (0 : Int) ≤ I t 6 ∧ I t 6 ≤ 24 from gc_in hI b1 rfl rfl), (show (0 : Int) ≤ I (t + 11) 1 ∧ I (t + 11) 1 ≤ 24 from gc_in hI b26.2.1 rfl rfl), (show (0 : Int) ≤ I t 11 ∧ I t 11 ≤ 64 from gc_in hI b1 rfl rfl), (show (0 : Int) ≤ I t 13 ∧ I t 13 ≤ 384 from gc_in hI b1 rfl rfl)⟩
theorem gh_Ts_of {sh : gz_Sh} {ro : Nat → Nat} {I : gr_I} {J : gr_J} {A : gc_A} (hs : gh_HS sh ro I J A) : gc_Ts sh ro A I := fun i hi => by
  obtain ⟨hb, hI, hok, hT, hU, hM, hc⟩ := hs
  have h81 : 0 ≤ I 8 1 ∧ I 8 1 ≤ 8 := gc_in hI (gc_bR hb (by decide) rfl) rfl rfl
  obtain ⟨t, ht, _⟩ := hU i hi
  have h := hT.1 i t (by omega) ht
  exact ⟨t, ht, h.1, h.2.1⟩
def gh_MO (B : Int) (sh : gz_Sh) (ro : Nat → Nat) (I : gr_I) (A : gc_A) (z : Int) (sh' : gz_Sh) (ro' : Nat → Nat) (I' : gr_I) (J' : gr_J) (A' : gc_A) : Prop := gh_HS sh' ro' I' J' A' ∧ gh_AO sh ro I A sh' ro' I' A' ∧ (-1001 ≤ z ∧ z ≤ 1000) ∧ I' 23 1 = 0 ∧ I' 1 17 ≤ B
set_option maxHeartbeats 4000000 in
set_option maxRecDepth 100000 in
theorem gh_mloop {ws0 : List Cond} {tb : String → gz_T} (hw : gc_Wn ws0) (hws : gc_Ws ws0) (htb : gc_tbs tb) (sh : gz_Sh) (ro : Nat → Nat) (I : gr_I) (J : gr_J) (A : gc_A) (hs : gh_HS sh ro I J A) (I1 : gr_I) (b0 : I1 21 0 = I 2 1) (b1 : I1 21 1 = I 4 1) (b2 : I1 21 2 = I 6 1) (b3 : I1 21 3 = I 8 1) (b4 : I1 21 4 = I 1 13) (b5 : I1 21 5 = I 1 17) (b6 : I1 21 6 = I 1 5) (bT : gc_mkT A I I1 (I 8 1)) (bM : ∀ f : Nat, f < 96 → I1 21 (63 + f) = I 15 f) (B : Int) (x0 : B ≤ 1280 ∧ I 1 17 + I 23 1 ≤ B) : ∀ (n : Nat) (dn : Int) (sh9 : gz_Sh) (ro9 : Nat → Nat) (I9 : gr_I) (J9 : gr_J) (A9 : gc_A), (1000 - dn).toNat < n → (0 ≤ dn ∧ dn ≤ 1000) → gh_HS sh9 ro9 I9 J9 A9 → gh_AO sh ro I A sh9 ro9 I9 A9 → gc_LT I9 → gc_TK I9 → I9 23 1 = I 23 1 → (B ≤ 1280 ∧ I9 1 17 + I9 23 1 ≤ B + I9 23 5) → (∀ k, I9 21 k = I1 21 k) → sh9.length + 25 * gh_nl A9 + 9 * (Int.toNat (I 23 1 - I9 23 5) + 1) ≤ 999000 → gv_Y (gc_E12 ws0 tb 92 (yX12_module, cX12_module, 2, (some .int)) kX12_module) (fun v a s => ∃ (z : Int) (sh' : gz_Sh) (ro' : Nat → Nat) (I' : gr_I) (J' : gr_J) (A' : gc_A), gz_fin cX12_module (some .int) v (some (.inl z)) ∧ v.2.2.2.1 = sh' ∧ v.2.2.2.2 = gc_h sh' I' J' A' ∧ gh_MO B sh ro I A z sh' ro' I' J' A' ∧ (a + 25 * gh_nl A' ≤ 25 * gh_nl A9 + 9 * (Int.toNat (I 23 1 - I9 23 5) + 1) ∧ s + 45714 * gh_nl A' ≤ 45714 * gh_nl A9 + 82 * (Int.toNat (I 23 1 - I9 23 5) + 1) ∧ sh'.length + 25 * gh_nl A' ≤ sh9.length + 25 * gh_nl A9 + 9 * (Int.toNat (I 23 1 - I9 23 5) + 1))) (9, [(0, .inr (.inr (some 0))), (1, .inl dn)], [], sh9, gc_h sh9 I9 J9 A9) := by
  have hb := hs.1
  have hI := hs.2.1
  have hok := hs.2.2.1
  have h144 := gc_Base_len hb
  have i8 : 0 ≤ I 8 1 ∧ I 8 1 ≤ 8 := gc_in hI (gc_bR hb (by decide) rfl) rfl rfl
  have i23 : 0 ≤ I 23 1 ∧ I 23 1 ≤ 1000 := gc_in hI (gc_bR hb (by decide) rfl) rfl rfl
  have hD : gv_D (gc_E12 ws0 tb 92 (yX12_module, cX12_module, 2, (some .int)) kX12_module) := gq_ok oX12_module
  have fin0 : ∀ (sh9 : gz_Sh) (ro9 : Nat → Nat) (I9 : gr_I) (J9 : gr_J) (A9 : gc_A), gh_HS sh9 ro9 I9 J9 A9 → gh_AO sh ro I A sh9 ro9 I9 A9 → I9 1 17 ≤ B → gh_HS sh9 ro9 (gr_u I9 23 1 0) J9 A9 ∧ gh_AO sh ro I A sh9 ro9 (gr_u I9 23 1 0) A9 ∧ (gr_u I9 23 1 0) 23 1 = 0 ∧ (gr_u I9 23 1 0) 1 17 ≤ B ∧ (gr_u I9 23 1 0) 39 4 = I9 39 4 := fun sh9 ro9 I9 J9 A9 hs9 ao9 h17 => by
    have g3 : ∀ q j : Nat, (q = 23 ∧ j = 1) ∨ (gr_u I9 23 1 0) q j = I9 q j := fun q j => by
      by_cases h : q = 23 ∧ j = 1
      · exact Or.inl h
      · exact Or.inr (gr_u_ne I9 0 h)
    have S23 := gc_bS hs9.1 (p := 23) rfl
    have hI3 : gc_Inv ro9 (gr_u I9 23 1 0) := gc_Invu (lo := 0) (hi := 1000) hs9.2.1 (gc_bR hs9.1 (by decide) rfl) rfl rfl ⟨by decide, by decide⟩
    have ok3 : gc_OK sh9 (gr_u I9 23 1 0) J9 A9 := gc_OK_fr hs9.2.2.1 (fun q j => (g3 q j).imp (fun h => by
      obtain ⟨rfl, rfl⟩ := h
      exact ⟨gc_x_lt S23, gc_tyx S23⟩) id) (fun q j => Or.inr rfl)
    have fz : ∀ q j : Nat, ¬ (q = 23 ∧ j = 1) → (gr_u I9 23 1 0) q j = I9 q j := fun q j h => (g3 q j).resolve_left h
    have h3 := gh_HS_r hs9 hI3 ok3 (fun q j => (g3 q j).imp (fun h => by omega) id) (by have := fz 1 5 (by decide); have := hs9.2.2.2.2.2.2; omega)
    exact ⟨h3.1, gh_AO_trans i8.2 hs9 h3.1 ao9 h3.2, gr_u_eq I9 23 1 0, by have := fz 1 17 (by decide); omega, fz 39 4 (by decide)⟩
  intro n
  induction n with
  | zero => intro dn sh9 ro9 I9 J9 A9 hn; omega
  | succ n ih =>
    intro dn sh9 ro9 I9 J9 A9 hn hdn hs9 ao9 kLT kTK e1 hp e21 hl9
    have hb9 := hs9.1
    have h144' := gc_Base_len hb9
    have S0 : sh9[0]? = some (false, 12, 17) := gc_bS hb9 rfl
    have S23 := gc_bS hb9 (p := 23) rfl
    have S39 : sh9[39]? = some (false, 6, 19) := gc_bS hb9 rfl
    have S1 : sh9[1]? = some (false, 8, 21) := gc_bS hb9 rfl
    have A00 : A9 0 0 = some 1 := gc_bA hb9 rfl
    have A01 : A9 0 1 = some 23 := gc_bA hb9 rfl
    have A05 : A9 0 5 = some 39 := gc_bA hb9 rfl
    have r7 : 0 ≤ I9 23 7 ∧ I9 23 7 ≤ 125 := gc_in hs9.2.1 (gc_bR hb9 (by decide) rfl) rfl rfl
    have r5 : 0 ≤ I9 23 5 ∧ I9 23 5 ≤ 1000 := gc_in hs9.2.1 (gc_bR hb9 (by decide) rfl) rfl rfl
    have tk := gc_TK_mo kTK
    have ex : gv_Y (gc_E12 ws0 tb 92 (yX12_module, cX12_module, 2, (some .int)) kX12_module) (fun v a s => ∃ (z : Int) (sh' : gz_Sh) (ro' : Nat → Nat) (I' : gr_I) (J' : gr_J) (A' : gc_A), gz_fin cX12_module (some .int) v (some (.inl z)) ∧ v.2.2.2.1 = sh' ∧ v.2.2.2.2 = gc_h sh' I' J' A' ∧ gh_MO B sh ro I A z sh' ro' I' J' A' ∧ (a + 25 * gh_nl A' ≤ 25 * gh_nl A9 + 9 * (Int.toNat (I 23 1 - I9 23 5) + 1) ∧ s + 45714 * gh_nl A' ≤ 45714 * gh_nl A9 + 82 * (Int.toNat (I 23 1 - I9 23 5) + 1) ∧ sh'.length + 25 * gh_nl A' ≤ sh9.length + 25 * gh_nl A9 + 9 * (Int.toNat (I 23 1 - I9 23 5) + 1))) (68, [(0, .inr (.inr (some 0))), (1, .inl dn)], [], sh9, gc_h sh9 I9 J9 A9) := by
      refine gv_lift (fun hk => gv_run 1 true hD (pc' := 69) (lv' := [(0, .inr (.inr (some 0))), (1, .inl dn)]) (st' := [.inr (.inr (some 0))]) (h' := gc_h sh9 I9 J9 A9) (C := (True ∧ True)) rfl ⟨trivial, trivial⟩ hk) ?_
      refine gv_lift (fun hk => gv_get hD rfl rfl S0 ⟨by decide, by decide⟩ (gc_hA S0 rfl A01) hk) ?_
      refine gv_lift (fun hk => gv_run 1 true hD (pc' := 73) (lv' := [(0, .inr (.inr (some 0))), (1, .inl dn)]) (st' := [.inl 0, .inr (.inr (some 23))]) (h' := gc_h sh9 I9 J9 A9) (C := (True ∧ True)) rfl ⟨trivial, trivial⟩ hk) ?_
      refine gv_lift (fun hk => gv_put hD rfl rfl S23 ⟨by decide, by decide⟩ rfl trivial hk) ?_
      rw [gc_up S23 rfl]
      refine gv_lift (fun hk => gv_run 1 true hD (pc' := 77) (lv' := [(0, .inr (.inr (some 0))), (1, .inl dn)]) (st' := [.inl dn]) (h' := gc_h sh9 (gr_u I9 23 1 0) J9 A9) (C := (True ∧ True)) rfl ⟨trivial, trivial⟩ hk) ?_
      have f0 := fin0 sh9 ro9 I9 J9 A9 hs9 ao9 (by omega)
      exact gv_Yend ⟨dn, sh9, ro9, gr_u I9 23 1 0, J9, A9, Or.inr (Or.inl ⟨dn, .int, hD 77 _ rfl, rfl, Or.inl rfl, rfl, rfl⟩), rfl, rfl, ⟨f0.1, f0.2.1, ⟨by omega, by omega⟩, f0.2.2.1, f0.2.2.2.1⟩, ⟨by omega, by omega, by omega⟩⟩
    refine gv_lift (fun hk => gv_run 2 true hD (pc' := 13) (lv' := [(0, .inr (.inr (some 0))), (1, .inl dn)]) (st' := [.inl 1000, .inl dn]) (h' := gc_h sh9 I9 J9 A9) (C := ((True ∧ True) ∧ True)) rfl ⟨⟨trivial, trivial⟩, trivial⟩ hk) ?_
    refine gv_YofX (gv_icmp_ge (t := 68) hD rfl rfl ⟨⟨by omega, by omega⟩, ⟨by omega, by omega⟩⟩ (fun c => gv_Xz ex) (fun c => gv_Xz ?_))
    show gv_Y _ _ (16, [(0, .inr (.inr (some 0))), (1, .inl dn)], [], sh9, gc_h sh9 I9 J9 A9)
    refine gv_lift (fun hk => gv_run 1 true hD (pc' := 17) (lv' := [(0, .inr (.inr (some 0))), (1, .inl dn)]) (st' := [.inr (.inr (some 0))]) (h' := gc_h sh9 I9 J9 A9) (C := (True ∧ True)) rfl ⟨trivial, trivial⟩ hk) ?_
    refine gv_lift (fun hk => gv_get hD rfl rfl S0 ⟨by decide, by decide⟩ (gc_hA S0 rfl A01) hk) ?_
    refine gv_lift (fun hk => gv_get hD rfl rfl S23 ⟨by decide, by decide⟩ (gc_hI S23 rfl) hk) ?_
    refine gv_lift (fun hk => gv_run 1 true hD (pc' := 24) (lv' := [(0, .inr (.inr (some 0))), (1, .inl dn)]) (st' := [.inl 4, .inl (I9 23 7)]) (h' := gc_h sh9 I9 J9 A9) (C := (True ∧ True)) rfl ⟨trivial, trivial⟩ hk) ?_
    refine gv_YofX (gv_icmp_eq (t := 68) hD rfl rfl ⟨⟨by omega, by omega⟩, ⟨by omega, by omega⟩⟩ (fun c2 => gv_Xz ex) (fun c2 => gv_Xz ?_))
    show gv_Y _ _ (27, [(0, .inr (.inr (some 0))), (1, .inl dn)], [], sh9, gc_h sh9 I9 J9 A9)
    refine gv_lift (fun hk => gv_run 1 true hD (pc' := 28) (lv' := [(0, .inr (.inr (some 0))), (1, .inl dn)]) (st' := [.inr (.inr (some 0))]) (h' := gc_h sh9 I9 J9 A9) (C := (True ∧ True)) rfl ⟨trivial, trivial⟩ hk) ?_
    refine gv_lift (fun hk => gv_get hD rfl rfl S0 ⟨by decide, by decide⟩ (gc_hA S0 rfl A05) hk) ?_
    obtain ⟨z, a, s, sh', ro', I', J', A', EV, hR, hz⟩ := e_X6_readStatement hw hws htb sh9 ro9 I9 J9 A9 hs9 B hp kLT kTK (by omega)
    refine gc_YcallV hD (ix := 126) (M := (yX6_readStatement, cX6_readStatement, 4, (some .boolean))) (As := []) (b := 39) (st := []) rfl rfl (by decide) S39 rfl (gc_lV12 hws rfl) (Nat.le_of_ble_eq_true rfl) EV (gc_okc (Or.inl (by omega)) (gc_okc trivial gc_ok0)) gc_ok0 ?_
    obtain ⟨q1, q2, q3, q4, q5, ⟨q6, q7, q8, q9⟩, q10, q11, q12⟩ := hR
    have tk2 := gc_TK_mo q5
    have ao2 := gh_AO_trans i8.2 hs9 q2 ao9 q3
    have hb2 := q2.1
    show gv_Y _ _ (34, [(0, .inr (.inr (some 0))), (1, .inl dn)], [.inl z], sh', gc_h sh' I' J' A')
    refine gv_YofX (gv_if_ne (t := 62) hD rfl rfl ⟨by omega, by omega⟩ (fun c3 => gv_Xz ?_) (fun c3 => gv_Xz ?_))
    · show gv_Y _ _ (62, [(0, .inr (.inr (some 0))), (1, .inl dn)], [], sh', gc_h sh' I' J' A')
      refine gv_lift (fun hk => gv_run 2 true hD (pc' := 9) (lv' := [(1, .inl (dn + 1)), (0, .inr (.inr (some 0)))]) (st' := []) (h' := gc_h sh' I' J' A') (C := ((True ∧ True) ∧ True)) rfl ⟨⟨trivial, trivial⟩, trivial⟩ hk) ?_
      refine gv_lift (fun hk => gv_pick [1, 0] rfl hk) ?_
      refine gh_Ym (fun v a9 s9 h => ?_) (ih (dn + 1) sh' ro' I' J' A' (by omega) (by omega) q2 ao2 q4 q5 (by omega) ⟨x0.1, q8⟩ (fun k => (q9 k).trans (e21 k)) (by omega))
      obtain ⟨z9, sh2, ro2, I2, J2, A2, w1, w2, w3, w4, w5, w6, w7⟩ := h
      exact ⟨z9, sh2, ro2, I2, J2, A2, w1, w2, w3, w4, by omega, by omega, by omega⟩
    show gv_Y _ _ (37, [(0, .inr (.inr (some 0))), (1, .inl dn)], [], sh', gc_h sh' I' J' A')
    have S0b : sh'[0]? = some (false, 12, 17) := gc_bS hb2 rfl
    have S23b := gc_bS hb2 (p := 23) rfl
    have S39b : sh'[39]? = some (false, 6, 19) := gc_bS hb2 rfl
    have S1b : sh'[1]? = some (false, 8, 21) := gc_bS hb2 rfl
    have A00b : A' 0 0 = some 1 := gc_bA hb2 rfl
    have A01b : A' 0 1 = some 23 := gc_bA hb2 rfl
    have A05b : A' 0 5 = some 39 := gc_bA hb2 rfl
    refine gv_lift (fun hk => gv_run 1 true hD (pc' := 38) (lv' := [(0, .inr (.inr (some 0))), (1, .inl dn)]) (st' := [.inr (.inr (some 0))]) (h' := gc_h sh' I' J' A') (C := (True ∧ True)) rfl ⟨trivial, trivial⟩ hk) ?_
    refine gv_lift (fun hk => gv_get hD rfl rfl S0b ⟨by decide, by decide⟩ (gc_hA S0b rfl A00b) hk) ?_
    have tg : ∀ j t : Nat, (j : Int) < I 8 1 → A' 10 j = some t → A 10 j = some t := fun j t hj ht => by
        obtain ⟨u, hu, _⟩ := hs.2.2.2.2.1 j hj
        cases (ao2.2.2.2.2.2.2.1 j u (by omega) hu).symm.trans ht
        exact hu
    have f21 : ∀ k, I' 21 k = I1 21 k := fun k => (q9 k).trans (e21 k)
    have hm : gh_MR A' I' I := ⟨⟨by rw [f21]; exact b0, by rw [f21]; exact b1, by rw [f21]; exact b2, by rw [f21]; exact b3, by rw [f21]; exact b4, by rw [f21]; exact b5, by rw [f21]; exact b6⟩, fun j t hj ht => by
        have h9 := bT j (by omega) t (tg j t hj ht)
        unfold gc_ts7 at h9 ⊢
        rw [f21, f21, f21, f21, f21, f21, f21]
        exact h9, fun f hf => by rw [f21]; exact bM f hf⟩
    obtain ⟨I2, EV2, hI2, hok2, hRE⟩ := e_X8_restore hws htb sh' ro' I' J' A' q2 I (by have := ao2.2.2.2.2.2.1; omega) hm (gh_R0_of hs tg)
    refine gv_lift (fun hk => gv_callV hD rfl (As := []) (st := []) rfl (by decide) S1b rfl (gc_lV12 hws rfl) (Nat.le_of_ble_eq_true rfl) (gz_Ev_mono (d := 3) (by decide) EV2) hk) ?_
    have hE := gh_HS_e hs q2 ao2 hI2 hok2 hRE
    show gv_Y _ _ (44, [(0, .inr (.inr (some 0))), (1, .inl dn)], [], sh', gc_h sh' I2 J' A')
    refine gv_lift (fun hk => gv_run 1 true hD (pc' := 45) (lv' := [(0, .inr (.inr (some 0))), (1, .inl dn)]) (st' := [.inr (.inr (some 0))]) (h' := gc_h sh' I2 J' A') (C := (True ∧ True)) rfl ⟨trivial, trivial⟩ hk) ?_
    refine gv_lift (fun hk => gv_get hD rfl rfl S0b ⟨by decide, by decide⟩ (gc_hA S0b rfl A01b) hk) ?_
    refine gv_lift (fun hk => gv_run 1 true hD (pc' := 49) (lv' := [(0, .inr (.inr (some 0))), (1, .inl dn)]) (st' := [.inl 0, .inr (.inr (some 23))]) (h' := gc_h sh' I2 J' A') (C := (True ∧ True)) rfl ⟨trivial, trivial⟩ hk) ?_
    refine gv_lift (fun hk => gv_put hD rfl rfl S23b ⟨by decide, by decide⟩ rfl trivial hk) ?_
    rw [gc_up S23b rfl]
    refine gv_lift (fun hk => gv_run 2 true hD (pc' := 54) (lv' := [(0, .inr (.inr (some 0))), (1, .inl dn)]) (st' := [.inr (.inr (some 0)), .inl (-1)]) (h' := gc_h sh' (gr_u I2 23 1 0) J' A') (C := ((True ∧ True) ∧ True)) rfl ⟨⟨trivial, trivial⟩, trivial⟩ hk) ?_
    refine gv_lift (fun hk => gv_get hD rfl rfl S0b ⟨by decide, by decide⟩ (gc_hA S0b rfl A05b) hk) ?_
    have f0 := fin0 sh' ro' I2 J' A' hE.1 hE.2 (by have := hRE.1; omega)
    have r4 : 0 ≤ (gr_u I2 23 1 0) 39 4 ∧ (gr_u I2 23 1 0) 39 4 ≤ 1000 := gc_in f0.1.2.1 (gc_bR hb2 (by decide) rfl) rfl rfl
    refine gv_lift (fun hk => gv_get hD rfl rfl S39b ⟨by decide, by decide⟩ (gc_hI S39b rfl) hk) ?_
    refine gv_lift (fun hk => gv_run 1 true hD (pc' := 61) (lv' := [(0, .inr (.inr (some 0))), (1, .inl dn)]) (st' := [.inl (-1 - (gr_u I2 23 1 0) 39 4)]) (h' := gc_h sh' (gr_u I2 23 1 0) J' A') (C := (True ∧ True)) rfl ⟨trivial, trivial⟩ hk) ?_
    exact gv_Yend ⟨-1 - (gr_u I2 23 1 0) 39 4, sh', ro', gr_u I2 23 1 0, J', A', Or.inr (Or.inl ⟨_, .int, hD 61 _ rfl, rfl, Or.inl rfl, rfl, rfl⟩), rfl, rfl, ⟨f0.1, f0.2.1, ⟨by omega, by omega⟩, f0.2.2.1, f0.2.2.2.1⟩, ⟨by omega, by omega, by omega⟩⟩
set_option maxHeartbeats 4000000 in
theorem e_X12_module {ws0 : List Cond} {tb : String → gz_T} (hw : gc_Wn ws0) (hws : gc_Ws ws0) (htb : gc_tbs tb) (sh : gz_Sh) (ro : Nat → Nat) (I : gr_I) (J : gr_J) (A : gc_A) (hs : gh_HS sh ro I J A) (B : Int) (x0 : B ≤ 1280 ∧ I 1 17 + I 23 1 ≤ B) (hlen : sh.length + 25 * gh_nl A + 9 * (Int.toNat (I 23 1) + 1) ≤ 999000) : ∃ (z : Int) (a s : Nat) (sh' : gz_Sh) (ro' : Nat → Nat) (I' : gr_I) (J' : gr_J) (A' : gc_A), gz_Ev ws0 tb 93 (yX12_module, cX12_module, 2, (some .int)) [.inr (.inr (some 0))] sh (gc_h sh I J A) (some (.inl z)) sh' (gc_h sh' I' J' A') a s ∧ gh_MO B sh ro I A z sh' ro' I' J' A' ∧ (a + 25 * gh_nl A' ≤ 25 * gh_nl A + 9 * (Int.toNat (I 23 1) + 1) ∧ s + 45714 * gh_nl A' ≤ 45714 * gh_nl A + 82 * (Int.toNat (I 23 1) + 1) ∧ sh'.length + 25 * gh_nl A' ≤ sh.length + 25 * gh_nl A + 9 * (Int.toNat (I 23 1) + 1)) := by
  have hb := hs.1
  have hI := hs.2.1
  have h144 := gc_Base_len hb
  have i8 : 0 ≤ I 8 1 ∧ I 8 1 ≤ 8 := gc_in hI (gc_bR hb (by decide) rfl) rfl rfl
  have i23 : 0 ≤ I 23 1 ∧ I 23 1 ≤ 1000 := gc_in hI (gc_bR hb (by decide) rfl) rfl rfl
  obtain ⟨r9, h9, E9, P9⟩ := d_X6_begin hws htb sh ro I J A hI hb (gh_Ts_of hs)
  obtain ⟨I1, J1, rfl, hI1, g, k, rfl, p0, p1, b0, b1, b2, b3, b4, b5, b6, bT, bM⟩ := P9
  have fz : ∀ q j : Nat, ¬ ((q = 39 ∧ j = 3) ∨ (q = 1 ∧ j = 18) ∨ q = 21 ∨ (q = 23 ∧ j = 5) ∨ (q = 23 ∧ j = 6) ∨ (q = 23 ∧ j = 7) ∨ (q = 23 ∧ j = 8)) → I1 q j = I q j := fun q j h => (g q j).resolve_left h
  have ok1 : gc_OK sh I1 J1 A := gc_OK_fr hs.2.2.1 (fun q j => (g q j).imp (fun h => by
      rcases h with ⟨rfl, rfl⟩ | ⟨rfl, rfl⟩ | rfl | ⟨rfl, rfl⟩ | ⟨rfl, rfl⟩ | ⟨rfl, rfl⟩ | ⟨rfl, rfl⟩
      · exact ⟨by omega, gc_tyx (gc_bS hb (p := 39) rfl)⟩
      · exact ⟨by omega, gc_tyx (gc_bS hb (p := 1) rfl)⟩
      · exact ⟨by omega, gc_tyx (gc_bS hb (p := 21) rfl)⟩
      · exact ⟨by omega, gc_tyx (gc_bS hb (p := 23) rfl)⟩
      · exact ⟨by omega, gc_tyx (gc_bS hb (p := 23) rfl)⟩
      · exact ⟨by omega, gc_tyx (gc_bS hb (p := 23) rfl)⟩
      · exact ⟨by omega, gc_tyx (gc_bS hb (p := 23) rfl)⟩
      ) id) (fun q j => (k q j).imp (fun h => by first | exact False.elim h | omega) id)
  have fu : gh_FU I I1 := gh_FU_of (fz 4 1 (by omega)) (fun j => fz 11 j (by omega)) (fun j => fz 12 j (by omega)) (fun j => fz 13 j (by omega))
  have hh := gh_HS_s hs hI1 ok1 (fun q j _ => (g q j).imp (fun h => by unfold gh_mw; omega) id) (fun q j h1 => fz q j (by omega)) (fz 8 1 (by omega)) (by have := fz 1 5 (by omega); have := hs.2.2.2.2.2.2; omega) (by have := fz 2 1 (by omega); omega) fu (gh_ME_of (fun j => fz 15 j (by omega)) (fun j => fz 16 j (by omega))) (gh_MS_st hs.2.2.2.2.2.1 fu (fun j => fz 15 j (by omega)) (fun j => fz 16 j (by omega)))
  have q1 := fz 23 1 (by omega)
  have q17 := fz 1 17 (by omega)
  have r5 : 0 ≤ I1 23 5 ∧ I1 23 5 ≤ 1000 := gc_in hI1 (gc_bR hb (by decide) rfl) rfl rfl
  have hD : gv_D (gc_E12 ws0 tb 92 (yX12_module, cX12_module, 2, (some .int)) kX12_module) := gq_ok oX12_module
  have S0 : sh[0]? = some (false, 12, 17) := gc_bS hb rfl
  have S39 : sh[39]? = some (false, 6, 19) := gc_bS hb rfl
  have A05 : A 0 5 = some 39 := gc_bA hb rfl
  have hY := gh_mloop hw hws htb sh ro I J A hs I1 b0 b1 b2 b3 b4 b5 b6 bT bM B x0 1001 0 sh ro I1 J1 A (by decide) ⟨by decide, by decide⟩ hh.1 hh.2 p1 p0 q1 (by omega) (fun _ => rfl) (by omega)
  suffices hZ : gv_Y (gc_E12 ws0 tb 92 (yX12_module, cX12_module, 2, (some .int)) kX12_module) (fun v a s => ∃ (z : Int) (sh' : gz_Sh) (ro' : Nat → Nat) (I' : gr_I) (J' : gr_J) (A' : gc_A), gz_fin cX12_module (some .int) v (some (.inl z)) ∧ v.2.2.2.1 = sh' ∧ v.2.2.2.2 = gc_h sh' I' J' A' ∧ gh_MO B sh ro I A z sh' ro' I' J' A' ∧ (a + 25 * gh_nl A' ≤ 25 * gh_nl A + 9 * (Int.toNat (I 23 1 - I1 23 5) + 1) ∧ s + 45714 * gh_nl A' ≤ 45714 * gh_nl A + 82 * (Int.toNat (I 23 1 - I1 23 5) + 1) ∧ sh'.length + 25 * gh_nl A' ≤ sh.length + 25 * gh_nl A + 9 * (Int.toNat (I 23 1 - I1 23 5) + 1))) (0, [(0, .inr (.inr (some 0)))], [], sh, gc_h sh I J A) by
    obtain ⟨n, v, a, s, h1, z, sh', ro', I', J', A', h2, h3, h4, h5, h6, h7, h8⟩ := hZ
    refine ⟨z, a, s, sh', ro', I', J', A', Or.inr (Or.inr ⟨by decide, Nat.le_of_ble_eq_true rfl, n, v, ?_, h2, h3, h4⟩), h5, by omega, by omega, by omega⟩
    show gz_to (gz_do ws0 RX12 (tb RX12) cX12_module 2 (gz_Ev ws0 tb 92)) n _ v a s
    rw [gc_tb12 htb]
    exact h1
  refine gv_lift (fun hk => gv_run 1 true hD (pc' := 1) (lv' := [(0, .inr (.inr (some 0)))]) (st' := [.inr (.inr (some 0))]) (h' := gc_h sh I J A) (C := (True ∧ True)) rfl ⟨trivial, trivial⟩ hk) ?_
  refine gv_lift (fun hk => gv_get hD rfl rfl S0 ⟨by decide, by decide⟩ (gc_hA S0 rfl A05) hk) ?_
  refine gv_lift (fun hk => gv_callV hD rfl (As := []) (st := []) rfl (by decide) S39 rfl (gc_lV12 hws rfl) (Nat.le_of_ble_eq_true rfl) (gz_Ev_mono (d := 4) (by decide) E9) hk) ?_
  show gv_Y _ _ (7, [(0, .inr (.inr (some 0)))], [], sh, gc_h sh I1 J1 A)
  refine gv_lift (fun hk => gv_run 2 true hD (pc' := 9) (lv' := [(1, .inl 0), (0, .inr (.inr (some 0)))]) (st' := []) (h' := gc_h sh I1 J1 A) (C := ((True ∧ True) ∧ True)) rfl ⟨⟨trivial, trivial⟩, trivial⟩ hk) ?_
  refine gv_lift (fun hk => gv_pick [1, 0] rfl hk) ?_
  exact hY
