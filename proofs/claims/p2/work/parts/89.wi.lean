def gh_QS (B : Int) (sh : gz_Sh) (ro : Nat → Nat) (I : gr_I) (A : gc_A) (v : gz_S) (a s : Nat) : Prop := ∃ (z : Int) (sh' : gz_Sh) (ro' : Nat → Nat) (I' : gr_I) (J' : gr_J) (A' : gc_A), gz_fin cX6_readStatement (some .boolean) v (some (.inl z)) ∧ v.2.2.2.1 = sh' ∧ v.2.2.2.2 = gc_h sh' I' J' A' ∧ gh_RS B sh ro I A z a s sh' ro' I' J' A'
theorem gh_OK5 {sh : gz_Sh} {x : Bool × Nat × Nat} {I : gr_I} {J : gr_J} {A : gc_A} {p k : Nat} {z : Int} (h : gc_OK sh I J A) (hs : sh[p]? = some x) (ht : gc_tx x k = 5) (hz : z < (sh.length : Int)) : gc_OK sh (gr_u I p k z) J A := by
  have hp := gc_x_lt hs
  refine ⟨fun i hi j => ?_, fun i hi j => ?_⟩
  · by_cases e : i = p ∧ j = k
    · obtain ⟨rfl, rfl⟩ := e
      unfold gc_h
      rw [gc_tyx hs, ht]
      show gz_okv sh.length (.inr (.inr (if gr_u I i j z i j < 0 then none else some (Int.toNat (gr_u I i j z i j)))))
      rw [gr_u_eq]
      by_cases h0 : z < 0
      · rw [if_pos h0]; exact trivial
      · rw [if_neg h0]; exact Or.inl (by omega)
    · rw [gc_h_congr (gr_u_ne I z e)]
      exact h.1 i hi j
  · obtain ⟨a, b, c⟩ := h.2 i hi j
    exact ⟨(gr_u_ne I z (fun h9 => by have := h9.1; omega)).trans a, b, c⟩
set_option maxHeartbeats 4000000 in
set_option maxRecDepth 100000 in
theorem gh_rs1 {ws0 : List Cond} {tb : String → gz_T} (hw : gc_Wn ws0) (hws : gc_Ws ws0) (htb : gc_tbs tb) {sh : gz_Sh} {ro : Nat → Nat} {I : gr_I} {J : gr_J} {A : gc_A} (v1 : Int64) (hs : gh_HS sh ro I J A) (B : Int) (x0 : B ≤ 1280 ∧ I 1 17 + I 23 1 ≤ B + I 23 5) (KLT_I : gc_LT I) (KTK_I : gc_TK I) (hlen : sh.length + 25 ≤ 1000000) (k139 : gv_Y (gc_E6 ws0 tb 91 (yX6_readStatement, cX6_readStatement, 4, (some .boolean)) kX6_readStatement) (gh_QS B sh ro I A) (139, [(0, .inr (.inr (some 39))), (1, .inr (.inl v1))], [], sh, gc_h sh I J A)) : gv_Y (gc_E6 ws0 tb 91 (yX6_readStatement, cX6_readStatement, 4, (some .boolean)) kX6_readStatement) (gh_QS B sh ro I A) (47, [(0, .inr (.inr (some 39))), (1, .inr (.inl v1))], [], sh, gc_h sh I J A) := by
  have hb := hs.1
  have hI := hs.2.1
  have hok := hs.2.2.1
  have hcu := hs.2.2.2.2.2.2
  have h144 := gc_Base_len hb
  have i8 : 0 ≤ I 8 1 ∧ I 8 1 ≤ 8 := gc_in hI (gc_bR hb (by decide) rfl) rfl rfl
  have S39 : sh[39]? = some (false, 6, 19) := gc_bS hb rfl
  have S1 : sh[1]? = some (false, 8, 21) := gc_bS hb rfl
  have A39 : A 39 0 = some 1 := gc_bA hb rfl
  have hD : gv_D (gc_E6 ws0 tb 91 (yX6_readStatement, cX6_readStatement, 4, (some .boolean)) kX6_readStatement) := gq_ok oX6_readStatement
  have f47 := gw_cmp v1 (128021942465893)
  refine gv_lift (fun hk => gv_run 3 true hD (pc' := 52) (lv' := [(0, .inr (.inr (some 39))), (1, .inr (.inl v1))]) (st' := [.inl ((lg_cmp v1 (128021942465893)).toInt)]) (h' := gc_h sh I J A) (C := (((True ∧ True) ∧ True) ∧ True)) rfl ⟨⟨⟨trivial, trivial⟩, trivial⟩, trivial⟩ hk) ?_
  refine gv_YofX (gv_if_ne (t := 60) hD rfl rfl ⟨by omega, by omega⟩ (fun c => gv_Xz ?_) (fun c => gv_Xz ?_))
  rotate_left
  · show gv_Y _ _ (55, [(0, .inr (.inr (some 39))), (1, .inr (.inl v1))], [], sh, gc_h sh I J A)
    refine gv_lift (fun hk => gv_run 1 true hD (pc' := 56) (lv' := [(0, .inr (.inr (some 39))), (1, .inr (.inl v1))]) (st' := [.inr (.inr (some 39))]) (h' := gc_h sh I J A) (C := (True ∧ True)) rfl ⟨trivial, trivial⟩ hk) ?_
    obtain ⟨z, a, s, sh', ro', I', J', A', EV, hR⟩ := e_X6_readTongue hw hws htb sh ro I J A hs B x0 KLT_I KTK_I hlen
    refine gc_YcallV hD (ix := 83) (M := (yX6_readTongue, cX6_readTongue, 4, (some .boolean))) (As := []) (b := 39) (st := []) rfl rfl (by decide) S39 rfl (gc_lV6 hws rfl) (Nat.le_of_ble_eq_true rfl) (gz_Ev_mono (d := 10) (by decide) EV) (gc_okc (Or.inl (by omega)) (gc_okc trivial gc_ok0)) gc_ok0 ?_
    exact gv_Yend ⟨z, sh', ro', I', J', A', Or.inr (Or.inl ⟨z, .boolean, hD 59 _ rfl, rfl, Or.inr ⟨rfl, by have := hR.1; omega⟩, rfl, rfl⟩), rfl, rfl, hR⟩
  show gv_Y _ _ (60, [(0, .inr (.inr (some 39))), (1, .inr (.inl v1))], [], sh, gc_h sh I J A)
  have f60 := gw_cmp v1 (1802071652)
  refine gv_lift (fun hk => gv_run 3 true hD (pc' := 65) (lv' := [(0, .inr (.inr (some 39))), (1, .inr (.inl v1))]) (st' := [.inl ((lg_cmp v1 (1802071652)).toInt)]) (h' := gc_h sh I J A) (C := (((True ∧ True) ∧ True) ∧ True)) rfl ⟨⟨⟨trivial, trivial⟩, trivial⟩, trivial⟩ hk) ?_
  refine gv_YofX (gv_if_ne (t := 80) hD rfl rfl ⟨by omega, by omega⟩ (fun c => gv_Xz ?_) (fun c => gv_Xz ?_))
  rotate_left
  · show gv_Y _ _ (68, [(0, .inr (.inr (some 39))), (1, .inr (.inl v1))], [], sh, gc_h sh I J A)
    refine gv_lift (fun hk => gv_run 2 true hD (pc' := 70) (lv' := [(0, .inr (.inr (some 39))), (1, .inr (.inl v1))]) (st' := [.inr (.inr (some 39)), .inr (.inr (some 39))]) (h' := gc_h sh I J A) (C := ((True ∧ True) ∧ True)) rfl ⟨⟨trivial, trivial⟩, trivial⟩ hk) ?_
    refine gv_lift (fun hk => gv_get hD rfl rfl S39 ⟨by decide, by decide⟩ (gc_hA S39 rfl A39) hk) ?_
    refine gv_lift (fun hk => gv_get hD rfl rfl S1 ⟨by decide, by decide⟩ (gc_hA S1 rfl (show A 1 0 = some 2 from gc_bA hb rfl)) hk) ?_
    obtain ⟨r9, h9, E9, P9⟩ := d_X6_readNewName_a hws htb sh ro I J A hI 32 9 2 hb (gc_b2 hb) KLT_I KTK_I
    obtain ⟨I', J', rfl, hI', g, k, KE_LT, KE_TK, z, rfl, z0, z1, p0, p1, p2⟩ := P9
    refine gv_lift (fun hk => gv_callV hD rfl (As := [.inr (.inr (some 2))]) (st := []) rfl (by decide) S39 rfl (gc_lV6 hws rfl) (Nat.le_of_ble_eq_true rfl) (gz_Ev_mono (d := 5) (by decide) E9) hk) ?_
    have ok9 : gc_OK sh I' J' A := gc_OK_fr hok (fun q j => (g q j).imp (fun h => by
        rcases h with ⟨rfl, rfl⟩ | ⟨rfl, rfl⟩ | ⟨rfl, rfl⟩ | ⟨rfl, rfl⟩ | ⟨rfl, rfl⟩ | ⟨rfl, rfl⟩ | ⟨rfl, rfl⟩
        · exact ⟨gc_x_lt (gc_bS hb (p := 39) rfl), gc_tyx (gc_bS hb (p := 39) rfl)⟩
        · exact ⟨gc_x_lt (gc_bS hb (p := 39) rfl), gc_tyx (gc_bS hb (p := 39) rfl)⟩
        · exact ⟨gc_x_lt (gc_bS hb (p := 23) rfl), gc_tyx (gc_bS hb (p := 23) rfl)⟩
        · exact ⟨gc_x_lt (gc_bS hb (p := 23) rfl), gc_tyx (gc_bS hb (p := 23) rfl)⟩
        · exact ⟨gc_x_lt (gc_bS hb (p := 23) rfl), gc_tyx (gc_bS hb (p := 23) rfl)⟩
        · exact ⟨gc_x_lt (gc_bS hb (p := 23) rfl), gc_tyx (gc_bS hb (p := 23) rfl)⟩
        · exact ⟨gc_x_lt (gc_bS hb (p := 2) rfl), gc_tyx (gc_bS hb (p := 2) rfl)⟩
        ) id) (fun q j => (k q j).imp (fun h => by first | exact False.elim h | omega) id)
    have fz : ∀ q j : Nat, ¬ ((q = 39 ∧ j = 3) ∨ (q = 39 ∧ j = 4) ∨ (q = 23 ∧ j = 5) ∨ (q = 23 ∧ j = 6) ∨ (q = 23 ∧ j = 7) ∨ (q = 23 ∧ j = 8) ∨ (q = 2 ∧ j = 1)) → I' q j = I q j := fun q j h => (g q j).resolve_left h
    have h17 := fz 1 17 (by omega)
    have fu : gh_FU I I' := gh_FU_of (fz 4 1 (by omega)) (fun j => fz 11 j (by omega)) (fun j => fz 12 j (by omega)) (fun j => fz 13 j (by omega))
    have me : gh_ME I I' := gh_ME_of (fun j => fz 15 j (by omega)) (fun j => fz 16 j (by omega))
    have hh := gh_HS_s hs hI' ok9 (fun q j _ => (g q j).imp (fun h => by unfold gh_mw; omega) id) (fun q j h1 => fz q j (by omega)) (fz 8 1 (by omega)) (by have := fz 1 5 (by omega); omega) (p2) fu me (gh_MS_st hs.2.2.2.2.2.1 fu (fun j => fz 15 j (by omega)) (fun j => fz 16 j (by omega)))
    exact gv_Yend ⟨z, sh, ro, I', J', A, Or.inr (Or.inl ⟨z, .boolean, hD 79 _ rfl, rfl, Or.inr ⟨rfl, by omega⟩, rfl, rfl⟩), rfl, rfl, ⟨z0, z1⟩, hh.1, hh.2, KE_LT, KE_TK, ⟨p0, p1, by omega, fun k9 => fz 21 k9 (by omega)⟩, ⟨by omega, by omega, by omega⟩⟩
  show gv_Y _ _ (80, [(0, .inr (.inr (some 39))), (1, .inr (.inl v1))], [], sh, gc_h sh I J A)
  have f80 := gw_cmp v1 (6714734)
  refine gv_lift (fun hk => gv_run 3 true hD (pc' := 85) (lv' := [(0, .inr (.inr (some 39))), (1, .inr (.inl v1))]) (st' := [.inl ((lg_cmp v1 (6714734)).toInt)]) (h' := gc_h sh I J A) (C := (((True ∧ True) ∧ True) ∧ True)) rfl ⟨⟨⟨trivial, trivial⟩, trivial⟩, trivial⟩ hk) ?_
  refine gv_YofX (gv_if_ne (t := 93) hD rfl rfl ⟨by omega, by omega⟩ (fun c => gv_Xz ?_) (fun c => gv_Xz ?_))
  rotate_left
  · show gv_Y _ _ (88, [(0, .inr (.inr (some 39))), (1, .inr (.inl v1))], [], sh, gc_h sh I J A)
    refine gv_lift (fun hk => gv_run 1 true hD (pc' := 89) (lv' := [(0, .inr (.inr (some 39))), (1, .inr (.inl v1))]) (st' := [.inr (.inr (some 39))]) (h' := gc_h sh I J A) (C := (True ∧ True)) rfl ⟨trivial, trivial⟩ hk) ?_
    obtain ⟨r9, h9, E9, P9⟩ := d_X6_readFun_a hws htb sh ro I J A hI hb KLT_I KTK_I
    obtain ⟨I', J', rfl, hI', g, k, KE_LT, KE_TK, z, rfl, z0, z1, p0, p1, p2, p3⟩ := P9
    refine gv_lift (fun hk => gv_callV hD rfl (As := []) (st := []) rfl (by decide) S39 rfl (gc_lV6 hws rfl) (Nat.le_of_ble_eq_true rfl) (gz_Ev_mono (d := 5) (by decide) E9) hk) ?_
    have ok9 : gc_OK sh I' J' A := gc_OK_fr hok (fun q j => (g q j).imp (fun h => by
        rcases h with ⟨rfl, rfl⟩ | ⟨rfl, rfl⟩ | ⟨rfl, rfl⟩ | ⟨rfl, rfl⟩ | ⟨rfl, rfl⟩ | ⟨rfl, rfl⟩ | ⟨rfl, rfl⟩ | rfl | ⟨rfl, rfl⟩ | ⟨rfl, h9⟩ | ⟨rfl, h9⟩ | ⟨rfl, h9⟩ | rfl
        · exact ⟨gc_x_lt (gc_bS hb (p := 39) rfl), gc_tyx (gc_bS hb (p := 39) rfl)⟩
        · exact ⟨gc_x_lt (gc_bS hb (p := 39) rfl), gc_tyx (gc_bS hb (p := 39) rfl)⟩
        · exact ⟨gc_x_lt (gc_bS hb (p := 23) rfl), gc_tyx (gc_bS hb (p := 23) rfl)⟩
        · exact ⟨gc_x_lt (gc_bS hb (p := 23) rfl), gc_tyx (gc_bS hb (p := 23) rfl)⟩
        · exact ⟨gc_x_lt (gc_bS hb (p := 23) rfl), gc_tyx (gc_bS hb (p := 23) rfl)⟩
        · exact ⟨gc_x_lt (gc_bS hb (p := 23) rfl), gc_tyx (gc_bS hb (p := 23) rfl)⟩
        · exact ⟨gc_x_lt (gc_bS hb (p := 39) rfl), gc_tyx (gc_bS hb (p := 39) rfl)⟩
        · exact ⟨gc_x_lt (gc_bS hb (p := 41) rfl), gc_tyx (gc_bS hb (p := 41) rfl)⟩
        · exact ⟨gc_x_lt (gc_bS hb (p := 4) rfl), gc_tyx (gc_bS hb (p := 4) rfl)⟩
        · exact ⟨gc_x_lt (gc_bS hb (p := 11) rfl), gc_tyx (gc_bS hb (p := 11) rfl)⟩
        · exact ⟨gc_x_lt (gc_bS hb (p := 12) rfl), gc_tyx (gc_bS hb (p := 12) rfl)⟩
        · exact ⟨gc_x_lt (gc_bS hb (p := 13) rfl), gc_tyx (gc_bS hb (p := 13) rfl)⟩
        · exact ⟨gc_x_lt (gc_bS hb (p := 14) rfl), gc_tyx (gc_bS hb (p := 14) rfl)⟩
        ) id) (fun q j => (k q j).imp (fun h => by first | exact False.elim h | omega) id)
    have fz : ∀ q j : Nat, ¬ ((q = 39 ∧ j = 3) ∨ (q = 39 ∧ j = 4) ∨ (q = 23 ∧ j = 5) ∨ (q = 23 ∧ j = 6) ∨ (q = 23 ∧ j = 7) ∨ (q = 23 ∧ j = 8) ∨ (q = 39 ∧ j = 7) ∨ q = 41 ∨ (q = 4 ∧ j = 1) ∨ (q = 11 ∧ (I 4 1 ≤ (j : Int))) ∨ (q = 12 ∧ (I 4 1 ≤ (j : Int))) ∨ (q = 13 ∧ (4 * I 4 1 ≤ (j : Int))) ∨ q = 14) → I' q j = I q j := fun q j h => (g q j).resolve_left h
    have h17 := fz 1 17 (by omega)
    have fu : gh_FU I I' := ⟨p2, fun j hj => ⟨fz 11 j (by omega), fz 12 j (by omega)⟩, fun j hj => fz 13 j (by omega)⟩
    have me : gh_ME I I' := gh_ME_of (fun j => fz 15 j (by omega)) (fun j => fz 16 j (by omega))
    have hh := gh_HS_s hs hI' ok9 (fun q j _ => (g q j).imp (fun h => by unfold gh_mw; omega) id) (fun q j h1 => fz q j (by omega)) (fz 8 1 (by omega)) (by have := fz 1 5 (by omega); omega) (by have := fz 2 1 (by omega); omega) fu me (gh_MS_st hs.2.2.2.2.2.1 fu (fun j => fz 15 j (by omega)) (fun j => fz 16 j (by omega)))
    exact gv_Yend ⟨z, sh, ro, I', J', A, Or.inr (Or.inl ⟨z, .boolean, hD 92 _ rfl, rfl, Or.inr ⟨rfl, by omega⟩, rfl, rfl⟩), rfl, rfl, ⟨z0, z1⟩, hh.1, hh.2, KE_LT, KE_TK, ⟨p0, p1, by omega, fun k9 => fz 21 k9 (by omega)⟩, ⟨by omega, by omega, by omega⟩⟩
  show gv_Y _ _ (93, [(0, .inr (.inr (some 39))), (1, .inr (.inl v1))], [], sh, gc_h sh I J A)
  have f93 := gw_cmp v1 (1835360622)
  refine gv_lift (fun hk => gv_run 3 true hD (pc' := 98) (lv' := [(0, .inr (.inr (some 39))), (1, .inr (.inl v1))]) (st' := [.inl ((lg_cmp v1 (1835360622)).toInt)]) (h' := gc_h sh I J A) (C := (((True ∧ True) ∧ True) ∧ True)) rfl ⟨⟨⟨trivial, trivial⟩, trivial⟩, trivial⟩ hk) ?_
  refine gv_YofX (gv_if_ne (t := 106) hD rfl rfl ⟨by omega, by omega⟩ (fun c => gv_Xz ?_) (fun c => gv_Xz ?_))
  rotate_left
  · show gv_Y _ _ (101, [(0, .inr (.inr (some 39))), (1, .inr (.inl v1))], [], sh, gc_h sh I J A)
    refine gv_lift (fun hk => gv_run 1 true hD (pc' := 102) (lv' := [(0, .inr (.inr (some 39))), (1, .inr (.inl v1))]) (st' := [.inr (.inr (some 39))]) (h' := gc_h sh I J A) (C := (True ∧ True)) rfl ⟨trivial, trivial⟩ hk) ?_
    obtain ⟨r9, h9, E9, P9⟩ := d_X6_readMean_a hws htb sh ro I J A hI hb KLT_I KTK_I hs.2.2.2.2.2.1
    obtain ⟨I', J', rfl, hI', g, k, KE_LT, KE_TK, KE_MS, z, rfl, z0, z1, p0, p1⟩ := P9
    refine gv_lift (fun hk => gv_callV hD rfl (As := []) (st := []) rfl (by decide) S39 rfl (gc_lV6 hws rfl) (Nat.le_of_ble_eq_true rfl) (gz_Ev_mono (d := 91) (by decide) E9) hk) ?_
    have ok9 : gc_OK sh I' J' A := gc_OK_fr hok (fun q j => (g q j).imp (fun h => by
        rcases h with ⟨rfl, rfl⟩ | ⟨rfl, rfl⟩ | ⟨rfl, rfl⟩ | ⟨rfl, rfl⟩ | ⟨rfl, rfl⟩ | ⟨rfl, rfl⟩ | ⟨rfl, rfl⟩ | ⟨rfl, rfl⟩ | rfl | ⟨rfl, h9⟩ | ⟨rfl, h9⟩
        · exact ⟨gc_x_lt (gc_bS hb (p := 39) rfl), gc_tyx (gc_bS hb (p := 39) rfl)⟩
        · exact ⟨gc_x_lt (gc_bS hb (p := 39) rfl), gc_tyx (gc_bS hb (p := 39) rfl)⟩
        · exact ⟨gc_x_lt (gc_bS hb (p := 23) rfl), gc_tyx (gc_bS hb (p := 23) rfl)⟩
        · exact ⟨gc_x_lt (gc_bS hb (p := 23) rfl), gc_tyx (gc_bS hb (p := 23) rfl)⟩
        · exact ⟨gc_x_lt (gc_bS hb (p := 23) rfl), gc_tyx (gc_bS hb (p := 23) rfl)⟩
        · exact ⟨gc_x_lt (gc_bS hb (p := 23) rfl), gc_tyx (gc_bS hb (p := 23) rfl)⟩
        · exact ⟨gc_x_lt (gc_bS hb (p := 39) rfl), gc_tyx (gc_bS hb (p := 39) rfl)⟩
        · exact ⟨gc_x_lt (gc_bS hb (p := 39) rfl), gc_tyx (gc_bS hb (p := 39) rfl)⟩
        · exact ⟨gc_x_lt (gc_bS hb (p := 43) rfl), gc_tyx (gc_bS hb (p := 43) rfl)⟩
        · exact ⟨gc_x_lt (gc_bS hb (p := 15) rfl), gc_tyx (gc_bS hb (p := 15) rfl)⟩
        · exact ⟨gc_x_lt (gc_bS hb (p := 16) rfl), gc_tyx (gc_bS hb (p := 16) rfl)⟩
        ) id) (fun q j => (k q j).imp (fun h => by first | exact False.elim h | omega) id)
    have fz : ∀ q j : Nat, ¬ ((q = 39 ∧ j = 3) ∨ (q = 39 ∧ j = 4) ∨ (q = 23 ∧ j = 5) ∨ (q = 23 ∧ j = 6) ∨ (q = 23 ∧ j = 7) ∨ (q = 23 ∧ j = 8) ∨ (q = 39 ∧ j = 12) ∨ (q = 39 ∧ j = 15) ∨ q = 43 ∨ (q = 15 ∧ (I 15 j ≤ 0)) ∨ (q = 16 ∧ (I 15 (j / 40) ≤ 0))) → I' q j = I q j := fun q j h => (g q j).resolve_left h
    have h17 := fz 1 17 (by omega)
    have fu : gh_FU I I' := gh_FU_of (fz 4 1 (by omega)) (fun j => fz 11 j (by omega)) (fun j => fz 12 j (by omega)) (fun j => fz 13 j (by omega))
    have me : gh_ME I I' := fun f _ hf => ⟨fz 15 f (by omega), fun k9 hk9 => fz 16 (f * 40 + k9) (by rw [show (f * 40 + k9) / 40 = f from by omega]; omega)⟩
    have hh := gh_HS_s hs hI' ok9 (fun q j _ => (g q j).imp (fun h => by unfold gh_mw; omega) id) (fun q j h1 => fz q j (by omega)) (fz 8 1 (by omega)) (by have := fz 1 5 (by omega); omega) (by have := fz 2 1 (by omega); omega) fu me (KE_MS)
    exact gv_Yend ⟨z, sh, ro, I', J', A, Or.inr (Or.inl ⟨z, .boolean, hD 105 _ rfl, rfl, Or.inr ⟨rfl, by omega⟩, rfl, rfl⟩), rfl, rfl, ⟨z0, z1⟩, hh.1, hh.2, KE_LT, KE_TK, ⟨p0, p1, by omega, fun k9 => fz 21 k9 (by omega)⟩, ⟨by omega, by omega, by omega⟩⟩
  show gv_Y _ _ (106, [(0, .inr (.inr (some 39))), (1, .inr (.inl v1))], [], sh, gc_h sh I J A)
  have f106 := gw_cmp v1 (499967946343)
  refine gv_lift (fun hk => gv_run 3 true hD (pc' := 111) (lv' := [(0, .inr (.inr (some 39))), (1, .inr (.inl v1))]) (st' := [.inl ((lg_cmp v1 (499967946343)).toInt)]) (h' := gc_h sh I J A) (C := (((True ∧ True) ∧ True) ∧ True)) rfl ⟨⟨⟨trivial, trivial⟩, trivial⟩, trivial⟩ hk) ?_
  refine gv_YofX (gv_if_ne (t := 126) hD rfl rfl ⟨by omega, by omega⟩ (fun c => gv_Xz ?_) (fun c => gv_Xz ?_))
  rotate_left
  · show gv_Y _ _ (114, [(0, .inr (.inr (some 39))), (1, .inr (.inl v1))], [], sh, gc_h sh I J A)
    refine gv_lift (fun hk => gv_run 2 true hD (pc' := 116) (lv' := [(0, .inr (.inr (some 39))), (1, .inr (.inl v1))]) (st' := [.inr (.inr (some 39)), .inr (.inr (some 39))]) (h' := gc_h sh I J A) (C := ((True ∧ True) ∧ True)) rfl ⟨⟨trivial, trivial⟩, trivial⟩ hk) ?_
    refine gv_lift (fun hk => gv_get hD rfl rfl S39 ⟨by decide, by decide⟩ (gc_hA S39 rfl A39) hk) ?_
    refine gv_lift (fun hk => gv_get hD rfl rfl S1 ⟨by decide, by decide⟩ (gc_hA S1 rfl (show A 1 2 = some 6 from gc_bA hb rfl)) hk) ?_
    obtain ⟨r9, h9, E9, P9⟩ := d_X6_readNewName_a hws htb sh ro I J A hI 8 6 6 hb (gc_b6 hb) KLT_I KTK_I
    obtain ⟨I', J', rfl, hI', g, k, KE_LT, KE_TK, z, rfl, z0, z1, p0, p1, p2⟩ := P9
    refine gv_lift (fun hk => gv_callV hD rfl (As := [.inr (.inr (some 6))]) (st := []) rfl (by decide) S39 rfl (gc_lV6 hws rfl) (Nat.le_of_ble_eq_true rfl) (gz_Ev_mono (d := 5) (by decide) E9) hk) ?_
    have ok9 : gc_OK sh I' J' A := gc_OK_fr hok (fun q j => (g q j).imp (fun h => by
        rcases h with ⟨rfl, rfl⟩ | ⟨rfl, rfl⟩ | ⟨rfl, rfl⟩ | ⟨rfl, rfl⟩ | ⟨rfl, rfl⟩ | ⟨rfl, rfl⟩ | ⟨rfl, rfl⟩
        · exact ⟨gc_x_lt (gc_bS hb (p := 39) rfl), gc_tyx (gc_bS hb (p := 39) rfl)⟩
        · exact ⟨gc_x_lt (gc_bS hb (p := 39) rfl), gc_tyx (gc_bS hb (p := 39) rfl)⟩
        · exact ⟨gc_x_lt (gc_bS hb (p := 23) rfl), gc_tyx (gc_bS hb (p := 23) rfl)⟩
        · exact ⟨gc_x_lt (gc_bS hb (p := 23) rfl), gc_tyx (gc_bS hb (p := 23) rfl)⟩
        · exact ⟨gc_x_lt (gc_bS hb (p := 23) rfl), gc_tyx (gc_bS hb (p := 23) rfl)⟩
        · exact ⟨gc_x_lt (gc_bS hb (p := 23) rfl), gc_tyx (gc_bS hb (p := 23) rfl)⟩
        · exact ⟨gc_x_lt (gc_bS hb (p := 6) rfl), gc_tyx (gc_bS hb (p := 6) rfl)⟩
        ) id) (fun q j => (k q j).imp (fun h => by first | exact False.elim h | omega) id)
    have fz : ∀ q j : Nat, ¬ ((q = 39 ∧ j = 3) ∨ (q = 39 ∧ j = 4) ∨ (q = 23 ∧ j = 5) ∨ (q = 23 ∧ j = 6) ∨ (q = 23 ∧ j = 7) ∨ (q = 23 ∧ j = 8) ∨ (q = 6 ∧ j = 1)) → I' q j = I q j := fun q j h => (g q j).resolve_left h
    have h17 := fz 1 17 (by omega)
    have fu : gh_FU I I' := gh_FU_of (fz 4 1 (by omega)) (fun j => fz 11 j (by omega)) (fun j => fz 12 j (by omega)) (fun j => fz 13 j (by omega))
    have me : gh_ME I I' := gh_ME_of (fun j => fz 15 j (by omega)) (fun j => fz 16 j (by omega))
    have hh := gh_HS_s hs hI' ok9 (fun q j _ => (g q j).imp (fun h => by unfold gh_mw; omega) id) (fun q j h1 => fz q j (by omega)) (fz 8 1 (by omega)) (by have := fz 1 5 (by omega); omega) (by have := fz 2 1 (by omega); omega) fu me (gh_MS_st hs.2.2.2.2.2.1 fu (fun j => fz 15 j (by omega)) (fun j => fz 16 j (by omega)))
    exact gv_Yend ⟨z, sh, ro, I', J', A, Or.inr (Or.inl ⟨z, .boolean, hD 125 _ rfl, rfl, Or.inr ⟨rfl, by omega⟩, rfl, rfl⟩), rfl, rfl, ⟨z0, z1⟩, hh.1, hh.2, KE_LT, KE_TK, ⟨p0, p1, by omega, fun k9 => fz 21 k9 (by omega)⟩, ⟨by omega, by omega, by omega⟩⟩
  show gv_Y _ _ (126, [(0, .inr (.inr (some 39))), (1, .inr (.inl v1))], [], sh, gc_h sh I J A)
  have f126 := gw_cmp v1 (1717658484)
  refine gv_lift (fun hk => gv_run 3 true hD (pc' := 131) (lv' := [(0, .inr (.inr (some 39))), (1, .inr (.inl v1))]) (st' := [.inl ((lg_cmp v1 (1717658484)).toInt)]) (h' := gc_h sh I J A) (C := (((True ∧ True) ∧ True) ∧ True)) rfl ⟨⟨⟨trivial, trivial⟩, trivial⟩, trivial⟩ hk) ?_
  refine gv_YofX (gv_if_ne (t := 139) hD rfl rfl ⟨by omega, by omega⟩ (fun c => gv_Xz ?_) (fun c => gv_Xz ?_))
  rotate_left
  · show gv_Y _ _ (134, [(0, .inr (.inr (some 39))), (1, .inr (.inl v1))], [], sh, gc_h sh I J A)
    refine gv_lift (fun hk => gv_run 1 true hD (pc' := 135) (lv' := [(0, .inr (.inr (some 39))), (1, .inr (.inl v1))]) (st' := [.inr (.inr (some 39))]) (h' := gc_h sh I J A) (C := (True ∧ True)) rfl ⟨trivial, trivial⟩ hk) ?_
    obtain ⟨r9, h9, E9, P9⟩ := d_X6_readFact hws htb sh ro I J A hI hb KLT_I KTK_I
    obtain ⟨I', J', rfl, hI', g, k, KE_LT, KE_TK, z, rfl, z0, z1, p0, p1⟩ := P9
    refine gv_lift (fun hk => gv_callV hD rfl (As := []) (st := []) rfl (by decide) S39 rfl (gc_lV6 hws rfl) (Nat.le_of_ble_eq_true rfl) (gz_Ev_mono (d := 5) (by decide) E9) hk) ?_
    have ok9 : gc_OK sh I' J' A := gc_OK_fr hok (fun q j => (g q j).imp (fun h => by
        rcases h with ⟨rfl, rfl⟩ | ⟨rfl, rfl⟩ | ⟨rfl, rfl⟩ | ⟨rfl, rfl⟩ | ⟨rfl, rfl⟩ | ⟨rfl, rfl⟩ | rfl | ⟨rfl, rfl⟩
        · exact ⟨gc_x_lt (gc_bS hb (p := 39) rfl), gc_tyx (gc_bS hb (p := 39) rfl)⟩
        · exact ⟨gc_x_lt (gc_bS hb (p := 39) rfl), gc_tyx (gc_bS hb (p := 39) rfl)⟩
        · exact ⟨gc_x_lt (gc_bS hb (p := 23) rfl), gc_tyx (gc_bS hb (p := 23) rfl)⟩
        · exact ⟨gc_x_lt (gc_bS hb (p := 23) rfl), gc_tyx (gc_bS hb (p := 23) rfl)⟩
        · exact ⟨gc_x_lt (gc_bS hb (p := 23) rfl), gc_tyx (gc_bS hb (p := 23) rfl)⟩
        · exact ⟨gc_x_lt (gc_bS hb (p := 23) rfl), gc_tyx (gc_bS hb (p := 23) rfl)⟩
        · exact ⟨gc_x_lt (gc_bS hb (p := 19) rfl), gc_tyx (gc_bS hb (p := 19) rfl)⟩
        · exact ⟨gc_x_lt (gc_bS hb (p := 1) rfl), gc_tyx (gc_bS hb (p := 1) rfl)⟩
        ) id) (fun q j => (k q j).imp (fun h => by first | exact False.elim h | omega) id)
    have fz : ∀ q j : Nat, ¬ ((q = 39 ∧ j = 3) ∨ (q = 39 ∧ j = 4) ∨ (q = 23 ∧ j = 5) ∨ (q = 23 ∧ j = 6) ∨ (q = 23 ∧ j = 7) ∨ (q = 23 ∧ j = 8) ∨ q = 19 ∨ (q = 1 ∧ j = 13)) → I' q j = I q j := fun q j h => (g q j).resolve_left h
    have h17 := fz 1 17 (by omega)
    have fu : gh_FU I I' := gh_FU_of (fz 4 1 (by omega)) (fun j => fz 11 j (by omega)) (fun j => fz 12 j (by omega)) (fun j => fz 13 j (by omega))
    have me : gh_ME I I' := gh_ME_of (fun j => fz 15 j (by omega)) (fun j => fz 16 j (by omega))
    have hh := gh_HS_s hs hI' ok9 (fun q j _ => (g q j).imp (fun h => by unfold gh_mw; omega) id) (fun q j h1 => fz q j (by omega)) (fz 8 1 (by omega)) (by have := fz 1 5 (by omega); omega) (by have := fz 2 1 (by omega); omega) fu me (gh_MS_st hs.2.2.2.2.2.1 fu (fun j => fz 15 j (by omega)) (fun j => fz 16 j (by omega)))
    exact gv_Yend ⟨z, sh, ro, I', J', A, Or.inr (Or.inl ⟨z, .boolean, hD 138 _ rfl, rfl, Or.inr ⟨rfl, by omega⟩, rfl, rfl⟩), rfl, rfl, ⟨z0, z1⟩, hh.1, hh.2, KE_LT, KE_TK, ⟨p0, p1, by omega, fun k9 => fz 21 k9 (by omega)⟩, ⟨by omega, by omega, by omega⟩⟩
  exact k139
set_option maxHeartbeats 4000000 in
set_option maxRecDepth 100000 in
theorem gh_rs4 {ws0 : List Cond} {tb : String → gz_T} (hw : gc_Wn ws0) (hws : gc_Ws ws0) (htb : gc_tbs tb) {sh : gz_Sh} {ro : Nat → Nat} {I : gr_I} {J : gr_J} {A : gc_A} (v1 : Int64) (hs : gh_HS sh ro I J A) (B : Int) (x0 : B ≤ 1280 ∧ I 1 17 + I 23 1 ≤ B + I 23 5) (KLT_I : gc_LT I) (KTK_I : gc_TK I) (hlen : sh.length + 25 ≤ 1000000) {i t : Nat} (hi : (i : Int) < I 8 1) (ht : A 10 i = some t) (x39 : I 39 2 = (t : Int)) : gv_Y (gc_E6 ws0 tb 91 (yX6_readStatement, cX6_readStatement, 4, (some .boolean)) kX6_readStatement) (gh_QS B sh ro I A) (257, [(0, .inr (.inr (some 39))), (1, .inr (.inl v1))], [], sh, gc_h sh I J A) := by
  have hb := hs.1
  have hI := hs.2.1
  have hok := hs.2.2.1
  have hcu := hs.2.2.2.2.2.2
  have h144 := gc_Base_len hb
  have i8 : 0 ≤ I 8 1 ∧ I 8 1 ≤ 8 := gc_in hI (gc_bR hb (by decide) rfl) rfl rfl
  have S39 : sh[39]? = some (false, 6, 19) := gc_bS hb rfl
  have S1 : sh[1]? = some (false, 8, 21) := gc_bS hb rfl
  have A39 : A 39 0 = some 1 := gc_bA hb rfl
  have hD : gv_D (gc_E6 ws0 tb 91 (yX6_readStatement, cX6_readStatement, 4, (some .boolean)) kX6_readStatement) := gq_ok oX6_readStatement
  have hTt := hs.2.2.2.1.1 i t (by omega) ht
  obtain ⟨u9, w1, w2, w3, w4, w5⟩ := hs.2.2.2.2.1 i hi
  cases w1.symm.trans ht
  obtain ⟨b0, b1, b2, b3, b4, b5, b6, b7, b8, b9, b10, b11, b12, b13, b14, b15, b16, b17, b18, b19, b20, b21, b22, b23, b24, b25, b26, b27, b28, b29, b30, b31, b32, b33, b34, b35, b36, b37, b38, b39, b40, b41, b42, b43, b44⟩ := id hTt.1
  have ST_0 := b0
  have ST_1 := b4.1
  have ST_2 : sh[t + 2]? = _ := b4.2.2.2.2.1
  have ST_3 := b6.1
  have ST_4 : sh[t + 4]? = _ := b6.2.2.2.2.1
  have ST_5 := b8
  have ST_6 := b12
  have ST_7 := b16.1
  have ST_8 : sh[t + 8]? = _ := b16.2.2.2.2.1
  have ST_9 := b18
  have ST_10 := b22
  have ST_11 := b26.1
  have ST_12 : sh[t + 12]? = _ := b26.2.2.2.2.1
  have ST_13 := b28
  have ST_14 := b32
  have ST_15 := b36
  have ST_16 := b40
  have lt16 := gc_x_lt ST_16
  have G_t := hTt.2.1
  show gv_Y _ _ (257, [(0, .inr (.inr (some 39))), (1, .inr (.inl v1))], [], sh, gc_h sh I J A)
  have f257 := gw_cmp v1 (28821916864574053)
  refine gv_lift (fun hk => gv_run 3 true hD (pc' := 262) (lv' := [(0, .inr (.inr (some 39))), (1, .inr (.inl v1))]) (st' := [.inl ((lg_cmp v1 (28821916864574053)).toInt)]) (h' := gc_h sh I J A) (C := (((True ∧ True) ∧ True) ∧ True)) rfl ⟨⟨⟨trivial, trivial⟩, trivial⟩, trivial⟩ hk) ?_
  refine gv_YofX (gv_if_ne (t := 270) hD rfl rfl ⟨by omega, by omega⟩ (fun c => gv_Xz ?_) (fun c => gv_Xz ?_))
  rotate_left
  · show gv_Y _ _ (265, [(0, .inr (.inr (some 39))), (1, .inr (.inl v1))], [], sh, gc_h sh I J A)
    refine gv_lift (fun hk => gv_run 1 true hD (pc' := 266) (lv' := [(0, .inr (.inr (some 39))), (1, .inr (.inl v1))]) (st' := [.inr (.inr (some 39))]) (h' := gc_h sh I J A) (C := (True ∧ True)) rfl ⟨trivial, trivial⟩ hk) ?_
    obtain ⟨r9, h9, E9, P9⟩ := d_X6_readFeature hws htb sh ro I J A hI t hb hTt.1 G_t w3 x39 KLT_I KTK_I
    obtain ⟨I', J', rfl, hI', g, k, KE_LT, KE_TK, z, rfl, z0, z1, p0, p1, p2⟩ := P9
    refine gv_lift (fun hk => gv_callV hD rfl (As := []) (st := []) rfl (by decide) S39 rfl (gc_lV6 hws rfl) (Nat.le_of_ble_eq_true rfl) (gz_Ev_mono (d := 5) (by decide) E9) hk) ?_
    have ok9 : gc_OK sh I' J' A := gc_OK_fr hok (fun q j => (g q j).imp (fun h => by
        rcases h with ⟨rfl, rfl⟩ | ⟨rfl, rfl⟩ | ⟨rfl, rfl⟩ | ⟨rfl, rfl⟩ | ⟨rfl, rfl⟩ | ⟨rfl, rfl⟩ | rfl | rfl | ⟨rfl, rfl⟩ | ⟨rfl, rfl⟩
        · exact ⟨gc_x_lt (gc_bS hb (p := 39) rfl), gc_tyx (gc_bS hb (p := 39) rfl)⟩
        · exact ⟨gc_x_lt (gc_bS hb (p := 39) rfl), gc_tyx (gc_bS hb (p := 39) rfl)⟩
        · exact ⟨gc_x_lt (gc_bS hb (p := 23) rfl), gc_tyx (gc_bS hb (p := 23) rfl)⟩
        · exact ⟨gc_x_lt (gc_bS hb (p := 23) rfl), gc_tyx (gc_bS hb (p := 23) rfl)⟩
        · exact ⟨gc_x_lt (gc_bS hb (p := 23) rfl), gc_tyx (gc_bS hb (p := 23) rfl)⟩
        · exact ⟨gc_x_lt (gc_bS hb (p := 23) rfl), gc_tyx (gc_bS hb (p := 23) rfl)⟩
        · exact ⟨gc_x_lt ST_5, gc_tyx ST_5⟩
        · exact ⟨gc_x_lt ST_6, gc_tyx ST_6⟩
        · exact ⟨gc_x_lt ST_3, gc_tyx ST_3⟩
        · exact ⟨gc_x_lt ST_1, gc_tyx ST_1⟩
        ) id) (fun q j => (k q j).imp (fun h => by first | exact False.elim h | omega) id)
    have fz : ∀ q j : Nat, ¬ ((q = 39 ∧ j = 3) ∨ (q = 39 ∧ j = 4) ∨ (q = 23 ∧ j = 5) ∨ (q = 23 ∧ j = 6) ∨ (q = 23 ∧ j = 7) ∨ (q = 23 ∧ j = 8) ∨ q = (t + 5) ∨ q = (t + 6) ∨ (q = (t + 3) ∧ j = 1) ∨ (q = (t + 1) ∧ j = 1)) → I' q j = I q j := fun q j h => (g q j).resolve_left h
    have h17 := fz 1 17 (by omega)
    have hh := gh_HS_t hs hi ht hI' ok9 (fun q j _ => (g q j).imp (fun h => by unfold gh_mt; omega) id) (fz 1 5 (by omega)) (fun q j _ => (g q j).imp (fun h => by omega) id) (fz t 13 (by omega)) (by have := fz t 11 (by omega); omega) (fun j _ => fz (t + 15) j (by omega)) (fun w a b => by have := fz t 11 (by omega); omega) (p2) (gc_sc_fr hTt.2.2 (fun k9 => fz (t + 10) k9 (by omega)))
    exact gv_Yend ⟨z, sh, ro, I', J', A, Or.inr (Or.inl ⟨z, .boolean, hD 269 _ rfl, rfl, Or.inr ⟨rfl, by omega⟩, rfl, rfl⟩), rfl, rfl, ⟨z0, z1⟩, hh.1, hh.2, KE_LT, KE_TK, ⟨p0, p1, by omega, fun k9 => fz 21 k9 (by omega)⟩, ⟨by omega, by omega, by omega⟩⟩
  show gv_Y _ _ (270, [(0, .inr (.inr (some 39))), (1, .inr (.inl v1))], [], sh, gc_h sh I J A)
  have f270 := gw_cmp v1 (30510848328168051)
  refine gv_lift (fun hk => gv_run 3 true hD (pc' := 275) (lv' := [(0, .inr (.inr (some 39))), (1, .inr (.inl v1))]) (st' := [.inl ((lg_cmp v1 (30510848328168051)).toInt)]) (h' := gc_h sh I J A) (C := (((True ∧ True) ∧ True) ∧ True)) rfl ⟨⟨⟨trivial, trivial⟩, trivial⟩, trivial⟩ hk) ?_
  refine gv_YofX (gv_if_ne (t := 283) hD rfl rfl ⟨by omega, by omega⟩ (fun c => gv_Xz ?_) (fun c => gv_Xz ?_))
  rotate_left
  · show gv_Y _ _ (278, [(0, .inr (.inr (some 39))), (1, .inr (.inl v1))], [], sh, gc_h sh I J A)
    refine gv_lift (fun hk => gv_run 1 true hD (pc' := 279) (lv' := [(0, .inr (.inr (some 39))), (1, .inr (.inl v1))]) (st' := [.inr (.inr (some 39))]) (h' := gc_h sh I J A) (C := (True ∧ True)) rfl ⟨trivial, trivial⟩ hk) ?_
    obtain ⟨r9, h9, E9, P9⟩ := d_X6_readClass hws htb sh ro I J A hI t hb hTt.1 G_t x39 KLT_I KTK_I
    obtain ⟨I', J', rfl, hI', g, k, KE_LT, KE_TK, z, rfl, z0, z1, p0, p1⟩ := P9
    refine gv_lift (fun hk => gv_callV hD rfl (As := []) (st := []) rfl (by decide) S39 rfl (gc_lV6 hws rfl) (Nat.le_of_ble_eq_true rfl) (gz_Ev_mono (d := 5) (by decide) E9) hk) ?_
    have ok9 : gc_OK sh I' J' A := gc_OK_fr hok (fun q j => (g q j).imp (fun h => by
        rcases h with ⟨rfl, rfl⟩ | ⟨rfl, rfl⟩ | ⟨rfl, rfl⟩ | ⟨rfl, rfl⟩ | ⟨rfl, rfl⟩ | ⟨rfl, rfl⟩ | rfl | ⟨rfl, rfl⟩
        · exact ⟨gc_x_lt (gc_bS hb (p := 39) rfl), gc_tyx (gc_bS hb (p := 39) rfl)⟩
        · exact ⟨gc_x_lt (gc_bS hb (p := 39) rfl), gc_tyx (gc_bS hb (p := 39) rfl)⟩
        · exact ⟨gc_x_lt (gc_bS hb (p := 23) rfl), gc_tyx (gc_bS hb (p := 23) rfl)⟩
        · exact ⟨gc_x_lt (gc_bS hb (p := 23) rfl), gc_tyx (gc_bS hb (p := 23) rfl)⟩
        · exact ⟨gc_x_lt (gc_bS hb (p := 23) rfl), gc_tyx (gc_bS hb (p := 23) rfl)⟩
        · exact ⟨gc_x_lt (gc_bS hb (p := 23) rfl), gc_tyx (gc_bS hb (p := 23) rfl)⟩
        · exact ⟨gc_x_lt ST_9, gc_tyx ST_9⟩
        · exact ⟨gc_x_lt ST_7, gc_tyx ST_7⟩
        ) id) (fun q j => (k q j).imp (fun h => by first | exact False.elim h | omega) id)
    have fz : ∀ q j : Nat, ¬ ((q = 39 ∧ j = 3) ∨ (q = 39 ∧ j = 4) ∨ (q = 23 ∧ j = 5) ∨ (q = 23 ∧ j = 6) ∨ (q = 23 ∧ j = 7) ∨ (q = 23 ∧ j = 8) ∨ q = (t + 9) ∨ (q = (t + 7) ∧ j = 1)) → I' q j = I q j := fun q j h => (g q j).resolve_left h
    have h17 := fz 1 17 (by omega)
    have hh := gh_HS_t hs hi ht hI' ok9 (fun q j _ => (g q j).imp (fun h => by unfold gh_mt; omega) id) (fz 1 5 (by omega)) (fun q j _ => (g q j).imp (fun h => by omega) id) (fz t 13 (by omega)) (by have := fz t 11 (by omega); omega) (fun j _ => fz (t + 15) j (by omega)) (fun w a b => by have := fz t 11 (by omega); omega) (by rw [fz (t + 3) 1 (by omega), fz (t + 1) 1 (by omega)]; exact w3) (gc_sc_fr hTt.2.2 (fun k9 => fz (t + 10) k9 (by omega)))
    exact gv_Yend ⟨z, sh, ro, I', J', A, Or.inr (Or.inl ⟨z, .boolean, hD 282 _ rfl, rfl, Or.inr ⟨rfl, by omega⟩, rfl, rfl⟩), rfl, rfl, ⟨z0, z1⟩, hh.1, hh.2, KE_LT, KE_TK, ⟨p0, p1, by omega, fun k9 => fz 21 k9 (by omega)⟩, ⟨by omega, by omega, by omega⟩⟩
  show gv_Y _ _ (283, [(0, .inr (.inr (some 39))), (1, .inr (.inl v1))], [], sh, gc_h sh I J A)
  have f283 := gw_cmp v1 (495791205988)
  refine gv_lift (fun hk => gv_run 3 true hD (pc' := 288) (lv' := [(0, .inr (.inr (some 39))), (1, .inr (.inl v1))]) (st' := [.inl ((lg_cmp v1 (495791205988)).toInt)]) (h' := gc_h sh I J A) (C := (((True ∧ True) ∧ True) ∧ True)) rfl ⟨⟨⟨trivial, trivial⟩, trivial⟩, trivial⟩ hk) ?_
  refine gv_YofX (gv_if_ne (t := 296) hD rfl rfl ⟨by omega, by omega⟩ (fun c => gv_Xz ?_) (fun c => gv_Xz ?_))
  rotate_left
  · show gv_Y _ _ (291, [(0, .inr (.inr (some 39))), (1, .inr (.inl v1))], [], sh, gc_h sh I J A)
    refine gv_lift (fun hk => gv_run 1 true hD (pc' := 292) (lv' := [(0, .inr (.inr (some 39))), (1, .inr (.inl v1))]) (st' := [.inr (.inr (some 39))]) (h' := gc_h sh I J A) (C := (True ∧ True)) rfl ⟨trivial, trivial⟩ hk) ?_
    obtain ⟨r9, h9, E9, P9⟩ := d_X6_readSound hws htb sh ro I J A hI t B hb hTt.1 G_t x0 x39 KLT_I KTK_I hTt.2.2
    obtain ⟨I', J', rfl, hI', g, k, KE_LT, KE_TK, KE_SC, z, rfl, z0, z1, p0, p1, p2⟩ := P9
    refine gv_lift (fun hk => gv_callV hD rfl (As := []) (st := []) rfl (by decide) S39 rfl (gc_lV6 hws rfl) (Nat.le_of_ble_eq_true rfl) (gz_Ev_mono (d := 6) (by decide) E9) hk) ?_
    have ok9 : gc_OK sh I' J' A := gc_OK_fr hok (fun q j => (g q j).imp (fun h => by
        rcases h with ⟨rfl, rfl⟩ | ⟨rfl, rfl⟩ | ⟨rfl, rfl⟩ | ⟨rfl, rfl⟩ | ⟨rfl, rfl⟩ | ⟨rfl, rfl⟩ | ⟨rfl, rfl⟩ | ⟨rfl, rfl⟩ | rfl | rfl | rfl | ⟨rfl, rfl⟩
        · exact ⟨gc_x_lt (gc_bS hb (p := 39) rfl), gc_tyx (gc_bS hb (p := 39) rfl)⟩
        · exact ⟨gc_x_lt (gc_bS hb (p := 39) rfl), gc_tyx (gc_bS hb (p := 39) rfl)⟩
        · exact ⟨gc_x_lt (gc_bS hb (p := 23) rfl), gc_tyx (gc_bS hb (p := 23) rfl)⟩
        · exact ⟨gc_x_lt (gc_bS hb (p := 23) rfl), gc_tyx (gc_bS hb (p := 23) rfl)⟩
        · exact ⟨gc_x_lt (gc_bS hb (p := 23) rfl), gc_tyx (gc_bS hb (p := 23) rfl)⟩
        · exact ⟨gc_x_lt (gc_bS hb (p := 23) rfl), gc_tyx (gc_bS hb (p := 23) rfl)⟩
        · exact ⟨gc_x_lt (gc_bS hb (p := 1) rfl), gc_tyx (gc_bS hb (p := 1) rfl)⟩
        · exact ⟨gc_x_lt (gc_bS hb (p := 1) rfl), gc_tyx (gc_bS hb (p := 1) rfl)⟩
        · exact ⟨gc_x_lt (gc_bS hb (p := 20) rfl), gc_tyx (gc_bS hb (p := 20) rfl)⟩
        · exact ⟨gc_x_lt (gc_bS hb (p := 41) rfl), gc_tyx (gc_bS hb (p := 41) rfl)⟩
        · exact ⟨gc_x_lt ST_10, gc_tyx ST_10⟩
        · exact ⟨gc_x_lt ST_0, gc_tyx ST_0⟩
        ) id) (fun q j => (k q j).imp (fun h => by first | exact False.elim h | omega) id)
    have fz : ∀ q j : Nat, ¬ ((q = 39 ∧ j = 3) ∨ (q = 39 ∧ j = 4) ∨ (q = 23 ∧ j = 5) ∨ (q = 23 ∧ j = 6) ∨ (q = 23 ∧ j = 7) ∨ (q = 23 ∧ j = 8) ∨ (q = 1 ∧ j = 17) ∨ (q = 1 ∧ j = 18) ∨ q = 20 ∨ q = 41 ∨ q = (t + 10) ∨ (q = t ∧ j = 6)) → I' q j = I q j := fun q j h => (g q j).resolve_left h
    have hh := gh_HS_t hs hi ht hI' ok9 (fun q j _ => (g q j).imp (fun h => by unfold gh_mt; omega) id) (fz 1 5 (by omega)) (fun q j _ => (g q j).imp (fun h => by omega) id) (fz t 13 (by omega)) (by have := fz t 11 (by omega); omega) (fun j _ => fz (t + 15) j (by omega)) (fun w a b => by have := fz t 11 (by omega); omega) (by rw [fz (t + 3) 1 (by omega), fz (t + 1) 1 (by omega)]; exact w3) (KE_SC)
    exact gv_Yend ⟨z, sh, ro, I', J', A, Or.inr (Or.inl ⟨z, .boolean, hD 295 _ rfl, rfl, Or.inr ⟨rfl, by omega⟩, rfl, rfl⟩), rfl, rfl, ⟨z0, z1⟩, hh.1, hh.2, KE_LT, KE_TK, ⟨p0, p1, by omega, fun k9 => fz 21 k9 (by omega)⟩, ⟨by omega, by omega, by omega⟩⟩
  show gv_Y _ _ (296, [(0, .inr (.inr (some 39))), (1, .inr (.inl v1))], [], sh, gc_h sh I J A)
  have f296 := gw_cmp v1 (31632350188499566)
  refine gv_lift (fun hk => gv_run 3 true hD (pc' := 301) (lv' := [(0, .inr (.inr (some 39))), (1, .inr (.inl v1))]) (st' := [.inl ((lg_cmp v1 (31632350188499566)).toInt)]) (h' := gc_h sh I J A) (C := (((True ∧ True) ∧ True) ∧ True)) rfl ⟨⟨⟨trivial, trivial⟩, trivial⟩, trivial⟩ hk) ?_
  refine gv_YofX (gv_if_ne (t := 309) hD rfl rfl ⟨by omega, by omega⟩ (fun c => gv_Xz ?_) (fun c => gv_Xz ?_))
  rotate_left
  · show gv_Y _ _ (304, [(0, .inr (.inr (some 39))), (1, .inr (.inl v1))], [], sh, gc_h sh I J A)
    refine gv_lift (fun hk => gv_run 1 true hD (pc' := 305) (lv' := [(0, .inr (.inr (some 39))), (1, .inr (.inl v1))]) (st' := [.inr (.inr (some 39))]) (h' := gc_h sh I J A) (C := (True ∧ True)) rfl ⟨trivial, trivial⟩ hk) ?_
    obtain ⟨r9, h9, E9, P9⟩ := d_X6_readPattern hws htb sh ro I J A hI t B hb hTt.1 G_t x0 x39 KLT_I KTK_I
    obtain ⟨I', J', rfl, hI', g, k, KE_LT, KE_TK, z, rfl, z0, z1, p0, p1, p2⟩ := P9
    refine gv_lift (fun hk => gv_callV hD rfl (As := []) (st := []) rfl (by decide) S39 rfl (gc_lV6 hws rfl) (Nat.le_of_ble_eq_true rfl) (gz_Ev_mono (d := 5) (by decide) E9) hk) ?_
    have ok9 : gc_OK sh I' J' A := gc_OK_fr hok (fun q j => (g q j).imp (fun h => by
        rcases h with ⟨rfl, rfl⟩ | ⟨rfl, rfl⟩ | ⟨rfl, rfl⟩ | ⟨rfl, rfl⟩ | ⟨rfl, rfl⟩ | ⟨rfl, rfl⟩ | ⟨rfl, rfl⟩ | ⟨rfl, rfl⟩ | rfl | ⟨rfl, rfl⟩ | ⟨rfl, rfl⟩ | rfl | ⟨rfl, rfl⟩ | ⟨rfl, rfl⟩ | ⟨rfl, rfl⟩ | rfl | rfl | ⟨rfl, rfl⟩
        · exact ⟨gc_x_lt (gc_bS hb (p := 39) rfl), gc_tyx (gc_bS hb (p := 39) rfl)⟩
        · exact ⟨gc_x_lt (gc_bS hb (p := 39) rfl), gc_tyx (gc_bS hb (p := 39) rfl)⟩
        · exact ⟨gc_x_lt (gc_bS hb (p := 23) rfl), gc_tyx (gc_bS hb (p := 23) rfl)⟩
        · exact ⟨gc_x_lt (gc_bS hb (p := 23) rfl), gc_tyx (gc_bS hb (p := 23) rfl)⟩
        · exact ⟨gc_x_lt (gc_bS hb (p := 23) rfl), gc_tyx (gc_bS hb (p := 23) rfl)⟩
        · exact ⟨gc_x_lt (gc_bS hb (p := 23) rfl), gc_tyx (gc_bS hb (p := 23) rfl)⟩
        · exact ⟨gc_x_lt (gc_bS hb (p := 1) rfl), gc_tyx (gc_bS hb (p := 1) rfl)⟩
        · exact ⟨gc_x_lt (gc_bS hb (p := 1) rfl), gc_tyx (gc_bS hb (p := 1) rfl)⟩
        · exact ⟨gc_x_lt (gc_bS hb (p := 20) rfl), gc_tyx (gc_bS hb (p := 20) rfl)⟩
        · exact ⟨gc_x_lt (gc_bS hb (p := 39) rfl), gc_tyx (gc_bS hb (p := 39) rfl)⟩
        · exact ⟨gc_x_lt (gc_bS hb (p := 39) rfl), gc_tyx (gc_bS hb (p := 39) rfl)⟩
        · exact ⟨gc_x_lt (gc_bS hb (p := 40) rfl), gc_tyx (gc_bS hb (p := 40) rfl)⟩
        · exact ⟨gc_x_lt (gc_bS hb (p := 41) rfl), gc_tyx (gc_bS hb (p := 41) rfl)⟩
        · exact ⟨gc_x_lt (gc_bS hb (p := 41) rfl), gc_tyx (gc_bS hb (p := 41) rfl)⟩
        · exact ⟨gc_x_lt (gc_bS hb (p := 41) rfl), gc_tyx (gc_bS hb (p := 41) rfl)⟩
        · exact ⟨gc_x_lt ST_13, gc_tyx ST_13⟩
        · exact ⟨gc_x_lt ST_14, gc_tyx ST_14⟩
        · exact ⟨gc_x_lt ST_11, gc_tyx ST_11⟩
        ) id) (fun q j => (k q j).imp (fun h => by first | exact False.elim h | omega) id)
    have fz : ∀ q j : Nat, ¬ ((q = 39 ∧ j = 3) ∨ (q = 39 ∧ j = 4) ∨ (q = 23 ∧ j = 5) ∨ (q = 23 ∧ j = 6) ∨ (q = 23 ∧ j = 7) ∨ (q = 23 ∧ j = 8) ∨ (q = 1 ∧ j = 17) ∨ (q = 1 ∧ j = 18) ∨ q = 20 ∨ (q = 39 ∧ j = 6) ∨ (q = 39 ∧ j = 8) ∨ q = 40 ∨ (q = 41 ∧ j = 0) ∨ (q = 41 ∧ j = 1) ∨ (q = 41 ∧ j = 2) ∨ q = (t + 13) ∨ q = (t + 14) ∨ (q = (t + 11) ∧ j = 1)) → I' q j = I q j := fun q j h => (g q j).resolve_left h
    have hh := gh_HS_t hs hi ht hI' ok9 (fun q j _ => (g q j).imp (fun h => by unfold gh_mt; omega) id) (fz 1 5 (by omega)) (fun q j _ => (g q j).imp (fun h => by omega) id) (fz t 13 (by omega)) (by have := fz t 11 (by omega); omega) (fun j _ => fz (t + 15) j (by omega)) (fun w a b => by have := fz t 11 (by omega); omega) (by rw [fz (t + 3) 1 (by omega), fz (t + 1) 1 (by omega)]; exact w3) (gc_sc_fr hTt.2.2 (fun k9 => fz (t + 10) k9 (by omega)))
    exact gv_Yend ⟨z, sh, ro, I', J', A, Or.inr (Or.inl ⟨z, .boolean, hD 308 _ rfl, rfl, Or.inr ⟨rfl, by omega⟩, rfl, rfl⟩), rfl, rfl, ⟨z0, z1⟩, hh.1, hh.2, KE_LT, KE_TK, ⟨p0, p1, by omega, fun k9 => fz 21 k9 (by omega)⟩, ⟨by omega, by omega, by omega⟩⟩
  show gv_Y _ _ (309, [(0, .inr (.inr (some 39))), (1, .inr (.inl v1))], [], sh, gc_h sh I J A)
  have f309 := gw_cmp v1 (2003792484)
  refine gv_lift (fun hk => gv_run 3 true hD (pc' := 314) (lv' := [(0, .inr (.inr (some 39))), (1, .inr (.inl v1))]) (st' := [.inl ((lg_cmp v1 (2003792484)).toInt)]) (h' := gc_h sh I J A) (C := (((True ∧ True) ∧ True) ∧ True)) rfl ⟨⟨⟨trivial, trivial⟩, trivial⟩, trivial⟩ hk) ?_
  refine gv_YofX (gv_if_ne (t := 324) hD rfl rfl ⟨by omega, by omega⟩ (fun c => gv_Xz ?_) (fun c => gv_Xz ?_))
  rotate_left
  · show gv_Y _ _ (317, [(0, .inr (.inr (some 39))), (1, .inr (.inl v1))], [], sh, gc_h sh I J A)
    refine gv_lift (fun hk => gv_run 1 true hD (pc' := 318) (lv' := [(0, .inr (.inr (some 39))), (1, .inr (.inl v1))]) (st' := [.inr (.inr (some 39))]) (h' := gc_h sh I J A) (C := (True ∧ True)) rfl ⟨trivial, trivial⟩ hk) ?_
    obtain ⟨r9, h9, E9, P9⟩ := d_X6_readWord_a hws htb sh ro I J A hI t B hb hTt.1 G_t x0 x39 KLT_I KTK_I
    obtain ⟨I', J', rfl, hI', g, k, KE_LT, KE_TK, z, rfl, z0, z1, p0, p1, p2, p3, p4, p5⟩ := P9
    refine gv_lift (fun hk => gv_callV hD rfl (As := []) (st := []) rfl (by decide) S39 rfl (gc_lV6 hws rfl) (Nat.le_of_ble_eq_true rfl) (gz_Ev_mono (d := 5) (by decide) E9) hk) ?_
    have ok9 : gc_OK sh I' J' A := gc_OK_fr hok (fun q j => (g q j).imp (fun h => by
        rcases h with ⟨rfl, rfl⟩ | ⟨rfl, rfl⟩ | ⟨rfl, rfl⟩ | ⟨rfl, rfl⟩ | ⟨rfl, rfl⟩ | ⟨rfl, rfl⟩ | ⟨rfl, rfl⟩ | ⟨rfl, rfl⟩ | rfl | ⟨rfl, rfl⟩ | ⟨rfl, rfl⟩ | rfl | ⟨rfl, h9⟩ | ⟨rfl, rfl⟩
        · exact ⟨gc_x_lt (gc_bS hb (p := 39) rfl), gc_tyx (gc_bS hb (p := 39) rfl)⟩
        · exact ⟨gc_x_lt (gc_bS hb (p := 39) rfl), gc_tyx (gc_bS hb (p := 39) rfl)⟩
        · exact ⟨gc_x_lt (gc_bS hb (p := 23) rfl), gc_tyx (gc_bS hb (p := 23) rfl)⟩
        · exact ⟨gc_x_lt (gc_bS hb (p := 23) rfl), gc_tyx (gc_bS hb (p := 23) rfl)⟩
        · exact ⟨gc_x_lt (gc_bS hb (p := 23) rfl), gc_tyx (gc_bS hb (p := 23) rfl)⟩
        · exact ⟨gc_x_lt (gc_bS hb (p := 23) rfl), gc_tyx (gc_bS hb (p := 23) rfl)⟩
        · exact ⟨gc_x_lt (gc_bS hb (p := 1) rfl), gc_tyx (gc_bS hb (p := 1) rfl)⟩
        · exact ⟨gc_x_lt (gc_bS hb (p := 1) rfl), gc_tyx (gc_bS hb (p := 1) rfl)⟩
        · exact ⟨gc_x_lt (gc_bS hb (p := 20) rfl), gc_tyx (gc_bS hb (p := 20) rfl)⟩
        · exact ⟨gc_x_lt (gc_bS hb (p := 39) rfl), gc_tyx (gc_bS hb (p := 39) rfl)⟩
        · exact ⟨gc_x_lt (gc_bS hb (p := 39) rfl), gc_tyx (gc_bS hb (p := 39) rfl)⟩
        · exact ⟨gc_x_lt (gc_bS hb (p := 41) rfl), gc_tyx (gc_bS hb (p := 41) rfl)⟩
        · exact ⟨gc_x_lt ST_15, gc_tyx ST_15⟩
        · exact ⟨gc_x_lt ST_0, gc_tyx ST_0⟩
        ) id) (fun q j => (k q j).imp (fun h => by first | exact False.elim h | omega) id)
    have fz : ∀ q j : Nat, ¬ ((q = 39 ∧ j = 3) ∨ (q = 39 ∧ j = 4) ∨ (q = 23 ∧ j = 5) ∨ (q = 23 ∧ j = 6) ∨ (q = 23 ∧ j = 7) ∨ (q = 23 ∧ j = 8) ∨ (q = 1 ∧ j = 17) ∨ (q = 1 ∧ j = 18) ∨ q = 20 ∨ (q = 39 ∧ j = 6) ∨ (q = 39 ∧ j = 7) ∨ q = 41 ∨ (q = (t + 15) ∧ (11 * I t 11 ≤ (j : Int))) ∨ (q = t ∧ j = 11)) → I' q j = I q j := fun q j h => (g q j).resolve_left h
    have hh := gh_HS_t hs hi ht hI' ok9 (fun q j _ => (g q j).imp (fun h => by unfold gh_mt; omega) id) (fz 1 5 (by omega)) (fun q j _ => (g q j).imp (fun h => by omega) id) (fz t 13 (by omega)) (by omega) (fun j hj => fz (t + 15) j (by omega)) (fun w a b => by
      have e9 : 11 * w = Int.toNat (11 * I t 11) := by omega
      have e8 := p5.resolve_left (by omega)
      rw [e9, fz 12 _ (by omega), fz 4 1 (by omega)]
      exact e8) (by rw [fz (t + 3) 1 (by omega), fz (t + 1) 1 (by omega)]; exact w3) (gc_sc_fr hTt.2.2 (fun k9 => fz (t + 10) k9 (by omega)))
    refine gv_lift (fun hk => gv_run 1 true hD (pc' := 328) (lv' := [(0, .inr (.inr (some 39))), (1, .inr (.inl v1))]) (st' := [.inl z]) (h' := gc_h sh I' J' A) (C := (True ∧ True)) rfl ⟨trivial, trivial⟩ hk) ?_
    exact gv_Yend ⟨z, sh, ro, I', J', A, Or.inr (Or.inl ⟨z, .boolean, hD 328 _ rfl, rfl, Or.inr ⟨rfl, by omega⟩, rfl, rfl⟩), rfl, rfl, ⟨z0, z1⟩, hh.1, hh.2, KE_LT, KE_TK, ⟨p0, p1, by omega, fun k9 => fz 21 k9 (by omega)⟩, ⟨by omega, by omega, by omega⟩⟩
  show gv_Y _ _ (324, [(0, .inr (.inr (some 39))), (1, .inr (.inl v1))], [], sh, gc_h sh I J A)
  refine gv_lift (fun hk => gv_run 1 true hD (pc' := 325) (lv' := [(0, .inr (.inr (some 39))), (1, .inr (.inl v1))]) (st' := [.inr (.inr (some 39))]) (h' := gc_h sh I J A) (C := (True ∧ True)) rfl ⟨trivial, trivial⟩ hk) ?_
  obtain ⟨z, a, s, sh', ro', I', J', A', EV, hR⟩ := e_X6_readLin hw hws htb sh ro I J A hI t B hb hTt.1 G_t x0 w2 x39 KLT_I KTK_I hok (by omega)
  refine gc_YcallV hD (ix := 155) (M := (yX6_readLin, cX6_readLin, 4, (some .boolean))) (As := []) (b := 39) (st := []) rfl rfl (by decide) S39 rfl (gc_lV6 hws rfl) (Nat.le_of_ble_eq_true rfl) (gz_Ev_mono (d := 9) (by decide) EV) (gc_okc (Or.inl (by omega)) (gc_okc trivial gc_ok0)) gc_ok0 ?_
  have hh := gh_HS_l hs hi ht hR
  obtain ⟨hz, hcn, hln, hx, hI', hok', hLT, hTK, fr, frJ, hrd, hres⟩ := hR
  have hA10 : ∀ i9, i9 < 8 → A' 10 i9 = A 10 i9 := fun i9 _ => by
    rcases hres with ⟨_, _, g⟩ | ⟨_, _, _, g, _⟩
    · exact g 10 i9 (by omega)
    · exact g 10 i9 (by omega) (fun h9 => by have := h9.1; omega)
  have nl := gh_nl_eq hA10
  exact gv_Yend ⟨z, sh', ro', I', J', A', Or.inr (Or.inl ⟨z, .boolean, hD 328 _ rfl, rfl, Or.inr ⟨rfl, by omega⟩, rfl, rfl⟩), rfl, rfl, hz, hh.1, hh.2, hLT, hTK, ⟨hrd.1, hrd.2.1, hrd.2.2, fun k9 => (fr 21 k9 (by omega)).resolve_left (by omega)⟩, ⟨by omega, by omega, by omega⟩⟩
theorem gh_h5n {sh : gz_Sh} {x : Bool × Nat × Nat} {I : gr_I} {J : gr_J} {A : gc_A} {p k : Nat} (hs : sh[p]? = some x) (ht : gc_tx x k = 5) (hv : I p k < 0) : gc_h sh I J A p k = .inr (.inr none) := by
  unfold gc_h
  rw [gc_tyx hs, ht]
  show Sum.inr (Sum.inr (if I p k < 0 then none else some (Int.toNat (I p k)))) = _
  rw [if_pos hv]
set_option maxHeartbeats 4000000 in
set_option maxRecDepth 100000 in
theorem gh_rs3 {ws0 : List Cond} {tb : String → gz_T} (hw : gc_Wn ws0) (hws : gc_Ws ws0) (htb : gc_tbs tb) {sh : gz_Sh} {ro : Nat → Nat} {I : gr_I} {J : gr_J} {A : gc_A} (v1 : Int64) (hs : gh_HS sh ro I J A) (B : Int) (x0 : B ≤ 1280 ∧ I 1 17 + I 23 1 ≤ B + I 23 5) (KLT_I : gc_LT I) (KTK_I : gc_TK I) (hlen : sh.length + 25 ≤ 1000000) : gv_Y (gc_E6 ws0 tb 91 (yX6_readStatement, cX6_readStatement, 4, (some .boolean)) kX6_readStatement) (gh_QS B sh ro I A) (207, [(0, .inr (.inr (some 39))), (1, .inr (.inl v1))], [], sh, gc_h sh I J A) := by
  have hb := hs.1
  have hI := hs.2.1
  have hok := hs.2.2.1
  have hcu := hs.2.2.2.2.2.2
  have h144 := gc_Base_len hb
  have i8 : 0 ≤ I 8 1 ∧ I 8 1 ≤ 8 := gc_in hI (gc_bR hb (by decide) rfl) rfl rfl
  have S39 : sh[39]? = some (false, 6, 19) := gc_bS hb rfl
  have S1 : sh[1]? = some (false, 8, 21) := gc_bS hb rfl
  have A39 : A 39 0 = some 1 := gc_bA hb rfl
  have hD : gv_D (gc_E6 ws0 tb 91 (yX6_readStatement, cX6_readStatement, 4, (some .boolean)) kX6_readStatement) := gq_ok oX6_readStatement
  have f15 : -1 ≤ I 1 5 ∧ I 1 5 ≤ 7 := gc_in hI (gc_bR hb (by decide) rfl) rfl rfl
  have f5 : 0 ≤ I 39 5 ∧ I 39 5 ≤ 1000 := gc_in hI (gc_bR hb (by decide) rfl) rfl rfl
  refine gv_lift (fun hk => gv_run 2 true hD (pc' := 209) (lv' := [(0, .inr (.inr (some 39))), (1, .inr (.inl v1))]) (st' := [.inr (.inr (some 39)), .inr (.inr (some 39))]) (h' := gc_h sh I J A) (C := ((True ∧ True) ∧ True)) rfl ⟨⟨trivial, trivial⟩, trivial⟩ hk) ?_
  refine gv_lift (fun hk => gv_get hD rfl rfl S39 ⟨by decide, by decide⟩ (gc_hA S39 rfl A39) hk) ?_
  refine gv_lift (fun hk => gv_get hD rfl rfl S1 ⟨by decide, by decide⟩ (gc_hI S1 rfl) hk) ?_
  refine gv_YofX (gv_if_lt (t := 236) hD rfl rfl ⟨by omega, by omega⟩ (fun c => gv_Xz ?_) (fun c => gv_Xz ?_))
  · show gv_Y _ _ (236, [(0, .inr (.inr (some 39))), (1, .inr (.inl v1))], [.inr (.inr (some 39))], sh, gc_h sh I J A)
    refine gv_lift (fun hk => gv_run 1 true hD (pc' := 237) (lv' := [(0, .inr (.inr (some 39))), (1, .inr (.inl v1))]) (st' := [.inr (.inr none), .inr (.inr (some 39))]) (h' := gc_h sh I J A) (C := (True ∧ True)) rfl ⟨trivial, trivial⟩ hk) ?_
    refine gv_lift (fun hk => gv_put hD rfl rfl S39 ⟨by decide, by decide⟩ rfl trivial hk) ?_
    rw [gc_p5n S39 rfl]
    have e2 := gr_u_eq I 39 2 (-1)
    have g1 : ∀ q j : Nat, (q = 39 ∧ j = 2) ∨ (gr_u I 39 2 (-1)) q j = I q j := fun q j => by
        by_cases h : q = 39 ∧ j = 2
        · exact Or.inl h
        · exact Or.inr (gr_u_ne I _ h)
    have hI1 : gc_Inv ro (gr_u I 39 2 (-1)) := gc_Invu (lo := -1) (hi := 999999) hI (gc_bR hb (by decide) rfl) rfl rfl ⟨by omega, by omega⟩
    have ok1 : gc_OK sh (gr_u I 39 2 (-1)) J A := gh_OK5 hok S39 rfl (by omega)
    have fz : ∀ q j : Nat, ¬ (q = 39 ∧ j = 2) → (gr_u I 39 2 (-1)) q j = I q j := fun q j h => (g1 q j).resolve_left h
    have hh := gh_HS_r hs hI1 ok1 (fun q j => (g1 q j).imp (fun h => by omega) id) (by have := fz 1 5 (by decide); omega)
    have kLT : gc_LT (gr_u I 39 2 (-1)) := gc_LT_fr KLT_I (fz 23 5 (by decide)) (fz 23 6 (by decide)) (fz 23 7 (by decide)) (fun k9 => fz 24 k9 (by omega))
    have kTK : gc_TK (gr_u I 39 2 (-1)) := gc_TK_fr KTK_I (fz 23 1 (by decide)) (fz 23 5 (by decide)) (fz 23 6 (by decide)) (fz 23 7 (by decide))
    have q23_1 := fz 23 1 (by decide)
    have q23_5 := fz 23 5 (by decide)
    have q1_17 := fz 1 17 (by decide)
    have q8_1 := fz 8 1 (by decide)
    have q39_5 := fz 39 5 (by decide)
    refine gv_lift (fun hk => gv_run 1 true hD (pc' := 241) (lv' := [(0, .inr (.inr (some 39))), (1, .inr (.inl v1))]) (st' := [.inr (.inr (some 39))]) (h' := gc_h sh (gr_u I 39 2 (-1)) J A) (C := (True ∧ True)) rfl ⟨trivial, trivial⟩ hk) ?_
    refine gv_lift (fun hk => gv_get hD rfl rfl S39 ⟨by decide, by decide⟩ (v := .inr (.inr none)) (gh_h5n S39 rfl (by omega)) hk) ?_
    refine gv_lift (fun hk => gv_run 4 true hD (pc' := 250) (lv' := [(0, .inr (.inr (some 39))), (1, .inr (.inl v1))]) (st' := [.inr (.inr (some 39)), .inl 3, .inr (.inr (some 39))]) (h' := gc_h sh (gr_u I 39 2 (-1)) J A) (C := ((((True ∧ True) ∧ True) ∧ True) ∧ True)) rfl ⟨⟨⟨⟨trivial, trivial⟩, trivial⟩, trivial⟩, trivial⟩ hk) ?_
    refine gv_lift (fun hk => gv_get hD rfl rfl S39 ⟨by decide, by decide⟩ (gc_hI S39 rfl) hk) ?_
    obtain ⟨r9, h9, E9, P9⟩ := d_X6_wrong hws htb sh ro (gr_u I 39 2 (-1)) J A hI1 3 ((gr_u I 39 2 (-1)) 39 5) hb ⟨by omega, by omega⟩ ⟨by omega, by omega⟩
    obtain ⟨I', J', rfl, hI', g, k, z, rfl, z0, z1, p0⟩ := P9
    refine gv_lift (fun hk => gv_callV hD rfl (As := [.inl 3, .inl ((gr_u I 39 2 (-1)) 39 5)]) (st := []) rfl (by decide) S39 rfl (gc_lV6 hws rfl) (Nat.le_of_ble_eq_true rfl) (gz_Ev_mono (d := 1) (by decide) E9) hk) ?_
    have ok9 : gc_OK sh I' J' A := gc_OK_fr ok1 (fun q j => (g q j).imp (fun h => by
        rcases h with ⟨rfl, rfl⟩ | ⟨rfl, rfl⟩
        · exact ⟨gc_x_lt (gc_bS hb (p := 39) rfl), gc_tyx (gc_bS hb (p := 39) rfl)⟩
        · exact ⟨gc_x_lt (gc_bS hb (p := 39) rfl), gc_tyx (gc_bS hb (p := 39) rfl)⟩
        ) id) (fun q j => (k q j).imp (fun h => by first | exact False.elim h | omega) id)
    have fy : ∀ q j : Nat, ¬ ((q = 39 ∧ j = 3) ∨ (q = 39 ∧ j = 4)) → I' q j = (gr_u I 39 2 (-1)) q j := fun q j h => (g q j).resolve_left h
    have h2 := gh_HS_r hh.1 hI' ok9 (fun q j => (g q j).imp (fun h => by omega) id) (by have := fy 1 5 (by omega); have := fz 1 5 (by decide); omega)
    have y23_1 := fy 23 1 (by omega)
    have y23_5 := fy 23 5 (by omega)
    have y1_17 := fy 1 17 (by omega)
    exact gv_Yend ⟨z, sh, ro, I', J', A, Or.inr (Or.inl ⟨z, .boolean, hD 256 _ rfl, rfl, Or.inr ⟨rfl, by omega⟩, rfl, rfl⟩), rfl, rfl, ⟨z0, z1⟩, h2.1, gh_AO_trans i8.2 hh.1 h2.1 hh.2 h2.2, gc_LT_fr kLT y23_5 (fy 23 6 (by omega)) (fy 23 7 (by omega)) (fun k9 => fy 24 k9 (by omega)), gc_TK_fr kTK y23_1 y23_5 (fy 23 6 (by omega)) (fy 23 7 (by omega)), ⟨by omega, by omega, by omega, fun k9 => (fy 21 k9 (by omega)).trans (fz 21 k9 (by omega))⟩, ⟨by omega, by omega, by omega⟩⟩
  show gv_Y _ _ (218, [(0, .inr (.inr (some 39))), (1, .inr (.inl v1))], [.inr (.inr (some 39))], sh, gc_h sh I J A)
  refine gv_lift (fun hk => gv_run 1 true hD (pc' := 219) (lv' := [(0, .inr (.inr (some 39))), (1, .inr (.inl v1))]) (st' := [.inr (.inr (some 39)), .inr (.inr (some 39))]) (h' := gc_h sh I J A) (C := (True ∧ True)) rfl ⟨trivial, trivial⟩ hk) ?_
  refine gv_lift (fun hk => gv_get hD rfl rfl S39 ⟨by decide, by decide⟩ (gc_hA S39 rfl A39) hk) ?_
  have A14 : A 1 4 = some 10 := gc_bA hb rfl
  refine gv_lift (fun hk => gv_get hD rfl rfl S1 ⟨by decide, by decide⟩ (gc_hA S1 rfl A14) hk) ?_
  refine gv_lift (fun hk => gv_run 1 true hD (pc' := 226) (lv' := [(0, .inr (.inr (some 39))), (1, .inr (.inl v1))]) (st' := [.inr (.inr (some 39)), .inr (.inr (some 10)), .inr (.inr (some 39))]) (h' := gc_h sh I J A) (C := (True ∧ True)) rfl ⟨trivial, trivial⟩ hk) ?_
  refine gv_lift (fun hk => gv_get hD rfl rfl S39 ⟨by decide, by decide⟩ (gc_hA S39 rfl A39) hk) ?_
  refine gv_lift (fun hk => gv_get hD rfl rfl S1 ⟨by decide, by decide⟩ (gc_hI S1 rfl) hk) ?_
  obtain ⟨t, ht, w2⟩ := hs.2.2.2.2.1 (Int.toNat (I 1 5)) (by omega)
  have hTt := hs.2.2.2.1.1 (Int.toNat (I 1 5)) t (by omega) ht
  have tlt := gc_x_lt hTt.1.1
  have S10 : sh[10]? = some (true, 5, 8) := gc_bS hb rfl
  refine gv_lift (fun hk => gv_aald hD rfl S10 ⟨by decide, by decide⟩ ⟨by decide, by decide⟩ ⟨by omega, by omega⟩ ((gc_aA S10 rfl).trans ht) hk) ?_
  refine gv_lift (fun hk => gv_run 1 true hD (pc' := 237) (lv' := [(0, .inr (.inr (some 39))), (1, .inr (.inl v1))]) (st' := [.inr (.inr (some t)), .inr (.inr (some 39))]) (h' := gc_h sh I J A) (C := (True ∧ True)) rfl ⟨trivial, trivial⟩ hk) ?_
  refine gv_lift (fun hk => gv_put hD rfl rfl S39 ⟨by decide, by decide⟩ rfl trivial hk) ?_
  rw [gc_p5 S39 rfl]
  have e2 := gr_u_eq I 39 2 (t : Int)
  have g1 : ∀ q j : Nat, (q = 39 ∧ j = 2) ∨ (gr_u I 39 2 (t : Int)) q j = I q j := fun q j => by
      by_cases h : q = 39 ∧ j = 2
      · exact Or.inl h
      · exact Or.inr (gr_u_ne I _ h)
  have hI1 : gc_Inv ro (gr_u I 39 2 (t : Int)) := gc_Invu (lo := -1) (hi := 999999) hI (gc_bR hb (by decide) rfl) rfl rfl ⟨by omega, by omega⟩
  have ok1 : gc_OK sh (gr_u I 39 2 (t : Int)) J A := gh_OK5 hok S39 rfl (by omega)
  have fz : ∀ q j : Nat, ¬ (q = 39 ∧ j = 2) → (gr_u I 39 2 (t : Int)) q j = I q j := fun q j h => (g1 q j).resolve_left h
  have hh := gh_HS_r hs hI1 ok1 (fun q j => (g1 q j).imp (fun h => by omega) id) (by have := fz 1 5 (by decide); omega)
  have kLT : gc_LT (gr_u I 39 2 (t : Int)) := gc_LT_fr KLT_I (fz 23 5 (by decide)) (fz 23 6 (by decide)) (fz 23 7 (by decide)) (fun k9 => fz 24 k9 (by omega))
  have kTK : gc_TK (gr_u I 39 2 (t : Int)) := gc_TK_fr KTK_I (fz 23 1 (by decide)) (fz 23 5 (by decide)) (fz 23 6 (by decide)) (fz 23 7 (by decide))
  have q23_1 := fz 23 1 (by decide)
  have q23_5 := fz 23 5 (by decide)
  have q1_17 := fz 1 17 (by decide)
  have q8_1 := fz 8 1 (by decide)
  have q39_5 := fz 39 5 (by decide)
  refine gv_lift (fun hk => gv_run 1 true hD (pc' := 241) (lv' := [(0, .inr (.inr (some 39))), (1, .inr (.inl v1))]) (st' := [.inr (.inr (some 39))]) (h' := gc_h sh (gr_u I 39 2 (t : Int)) J A) (C := (True ∧ True)) rfl ⟨trivial, trivial⟩ hk) ?_
  refine gv_lift (fun hk => gv_get hD rfl rfl S39 ⟨by decide, by decide⟩ (gc_h5 (t := t) S39 rfl e2) hk) ?_
  refine gv_lift (fun hk => gv_run 1 true hD (pc' := 257) (lv' := [(0, .inr (.inr (some 39))), (1, .inr (.inl v1))]) (st' := []) (h' := gc_h sh (gr_u I 39 2 (t : Int)) J A) (C := (True ∧ True)) rfl ⟨trivial, trivial⟩ hk) ?_
  refine gh_Ym (fun v a s h => ?_) (gh_rs4 hw hws htb v1 hh.1 B (by omega) kLT kTK hlen (i := Int.toNat (I 1 5)) (t := t) (by omega) ht e2)
  obtain ⟨z, sh', ro', I', J', A', q1, q2, q3, q4⟩ := h
  exact ⟨z, sh', ro', I', J', A', q1, q2, q3, gh_RS_pre i8.2 hh.1 hh.2 q23_1 (by omega) (fun k9 => fz 21 k9 (by omega)) q4⟩
def gh_QT (B : Int) (sh : gz_Sh) (ro : Nat → Nat) (I : gr_I) (A : gc_A) (v : gz_S) (a s : Nat) : Prop := ∃ (z : Int) (sh' : gz_Sh) (ro' : Nat → Nat) (I' : gr_I) (J' : gr_J) (A' : gc_A), gz_fin cX6_readStatement (some .boolean) v (some (.inl z)) ∧ v.2.2.2.1 = sh' ∧ v.2.2.2.2 = gc_h sh' I' J' A' ∧ gh_RS B sh ro I A z a s sh' ro' I' J' A' ∧ (z = 0 ∨ I 23 5 < I' 23 5)
set_option maxHeartbeats 4000000 in
set_option maxRecDepth 100000 in
theorem e_X6_readStatement {ws0 : List Cond} {tb : String → gz_T} (hw : gc_Wn ws0) (hws : gc_Ws ws0) (htb : gc_tbs tb) (sh : gz_Sh) (ro : Nat → Nat) (I : gr_I) (J : gr_J) (A : gc_A) (hs : gh_HS sh ro I J A) (B : Int) (x0 : B ≤ 1280 ∧ I 1 17 + I 23 1 ≤ B + I 23 5) (KLT_I : gc_LT I) (KTK_I : gc_TK I) (hlen : sh.length + 25 ≤ 1000000) : ∃ (z : Int) (a s : Nat) (sh' : gz_Sh) (ro' : Nat → Nat) (I' : gr_I) (J' : gr_J) (A' : gc_A), gz_Ev ws0 tb 92 (yX6_readStatement, cX6_readStatement, 4, (some .boolean)) [.inr (.inr (some 39))] sh (gc_h sh I J A) (some (.inl z)) sh' (gc_h sh' I' J' A') a s ∧ gh_RS B sh ro I A z a s sh' ro' I' J' A' ∧ (z = 0 ∨ I 23 5 < I' 23 5) := by
  have hb := hs.1
  have hI := hs.2.1
  have hok := hs.2.2.1
  have hcu := hs.2.2.2.2.2.2
  have i8 : 0 ≤ I 8 1 ∧ I 8 1 ≤ 8 := gc_in hI (gc_bR hb (by decide) rfl) rfl rfl
  have h144 := gc_Base_len hb
  suffices hY : gv_Y (gc_E6 ws0 tb 91 (yX6_readStatement, cX6_readStatement, 4, (some .boolean)) kX6_readStatement) (gh_QT B sh ro I A) (0, [(0, .inr (.inr (some 39)))], [], sh, gc_h sh I J A) by
    obtain ⟨n, v, a, s, h1, z, sh', ro', I', J', A', h2, h3, h4, h5, h6⟩ := hY
    refine ⟨z, a, s, sh', ro', I', J', A', Or.inr (Or.inr ⟨by decide, Nat.le_of_ble_eq_true rfl, n, v, ?_, h2, h3, h4⟩), h5, h6⟩
    show gz_to (gz_do ws0 RX6 (tb RX6) cX6_readStatement 4 (gz_Ev ws0 tb 91)) n _ v a s
    rw [gc_tb6 htb]
    exact h1
  have okh : ∀ (I0 I9 : gr_I) (J0 J9 : gr_J), gc_OK sh I0 J0 A → (∀ q j : Nat, ((q = 39 ∧ j = 3) ∨ (q = 39 ∧ j = 4) ∨ (q = 23 ∧ j = 5) ∨ (q = 23 ∧ j = 6) ∨ (q = 23 ∧ j = 7) ∨ (q = 23 ∧ j = 8) ∨ (q = 39 ∧ j = 5)) ∨ I9 q j = I0 q j) → (∀ q j : Nat, ((q = 23 ∧ j = 9)) ∨ J9 q j = J0 q j) → gc_OK sh I9 J9 A := fun I0 I9 J0 J9 hk0 f g => by
    have ok9 : gc_OK sh I9 J9 A := gc_OK_fr hk0 (fun q j => (f q j).imp (fun h => by
        rcases h with ⟨rfl, rfl⟩ | ⟨rfl, rfl⟩ | ⟨rfl, rfl⟩ | ⟨rfl, rfl⟩ | ⟨rfl, rfl⟩ | ⟨rfl, rfl⟩ | ⟨rfl, rfl⟩
        · exact ⟨gc_x_lt (gc_bS hb (p := 39) rfl), gc_tyx (gc_bS hb (p := 39) rfl)⟩
        · exact ⟨gc_x_lt (gc_bS hb (p := 39) rfl), gc_tyx (gc_bS hb (p := 39) rfl)⟩
        · exact ⟨gc_x_lt (gc_bS hb (p := 23) rfl), gc_tyx (gc_bS hb (p := 23) rfl)⟩
        · exact ⟨gc_x_lt (gc_bS hb (p := 23) rfl), gc_tyx (gc_bS hb (p := 23) rfl)⟩
        · exact ⟨gc_x_lt (gc_bS hb (p := 23) rfl), gc_tyx (gc_bS hb (p := 23) rfl)⟩
        · exact ⟨gc_x_lt (gc_bS hb (p := 23) rfl), gc_tyx (gc_bS hb (p := 23) rfl)⟩
        · exact ⟨gc_x_lt (gc_bS hb (p := 39) rfl), gc_tyx (gc_bS hb (p := 39) rfl)⟩
        ) id) (fun q j => (g q j).imp (fun h => by first | exact False.elim h | omega) id)
    exact ok9
  refine gv_YofX (d_X6_readStatement_h hws htb sh ro I J A hI hb KLT_I KTK_I (fun v h => ?_) (fun I8 J9 v1 hI8 F8 F9 k1 k2 m => ?_))
  · obtain ⟨r, hf, hs9, I', J', e1, e2, e3, e4, e5, e6, z, rfl, z0, z1, p0, p1, p2⟩ := h
    have hh := gh_HS_r hs e2 (okh I I' J J' hok e3 e4) (fun q j => (e3 q j).imp (fun h => by omega) id) (by have := (e3 1 5).resolve_left (by omega); omega)
    have h17 := (e3 1 17).resolve_left (by omega)
    exact gv_Yend ⟨z, sh, ro, I', J', A, hf, hs9, e1, ⟨⟨z0, z1⟩, hh.1, hh.2, e5, e6, ⟨p0, p1, by omega, fun k => (e3 21 k).resolve_left (by omega)⟩, ⟨by omega, by omega, by omega⟩⟩, Or.inl p2⟩
  have m9 := m.1
  have hh := gh_HS_r hs hI8 (okh I I8 J J9 hok F8 F9) (fun q j => (F8 q j).imp (fun h => by omega) id) (by have := (F8 1 5).resolve_left (by omega); omega)
  have h17 := (F8 1 17).resolve_left (by omega)
  refine gv_Xz (gh_Ym (Q := gh_QS B sh ro I8 A) (fun v a s h => ?_) ?_)
  · obtain ⟨z, sh', ro', I', J', A', q1, q2, q3, q4⟩ := h
    exact ⟨z, sh', ro', I', J', A', q1, q2, q3, gh_RS_pre i8.2 hh.1 hh.2 (by omega) (by omega) (fun k => (F8 21 k).resolve_left (by omega)) q4, Or.inr (by have := q4.2.2.2.2.2.1.2.1; omega)⟩
  have i88 : I8 8 1 = I 8 1 := (F8 8 1).resolve_left (by omega)
  refine gh_rs1 hw hws htb v1 hh.1 B (by omega) k1 k2 hlen ?_
  refine gv_YofX (d_X6_readStatement_m hws htb sh ro I8 J9 A hI8 v1 hb k1 k2 (fun v h => ?_) (fun _ => gv_Xz (gh_rs3 hw hws htb v1 hh.1 B (by omega) k1 k2 hlen)))
  obtain ⟨r, hf, hs9, I', J', e1, e2, e3, e4, e5, e6, z, rfl, z0, z1, p0, p1, p2⟩ := h
  have h2 := gh_HS_r hh.1 e2 (okh I8 I' J9 J' hh.1.2.2.1 (fun q j => (e3 q j).imp (fun h => by omega) id) e4) (fun q j => (e3 q j).imp (fun h => by omega) id) (by have := (e3 1 5).resolve_left (by omega); have := hh.1.2.2.2.2.2.2; omega)
  have h18 := (e3 1 17).resolve_left (by omega)
  exact gv_Yend ⟨z, sh, ro, I', J', A, hf, hs9, e1, ⟨z0, z1⟩, h2.1, h2.2, e5, e6, ⟨p0, p1, by omega, fun k => (e3 21 k).resolve_left (by omega)⟩, ⟨by omega, by omega, by omega⟩⟩
