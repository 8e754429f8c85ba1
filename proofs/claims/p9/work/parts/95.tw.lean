set_option maxHeartbeats 8000000 in
set_option maxRecDepth 100000 in
theorem e_X8_makeTongue_p {ws0 : List Cond} {tb : String → gz_T} (hw : gc_Wn ws0) (hws : gc_Ws ws0) (htb : gc_tbs tb) (sh : gz_Sh) (ro : Nat → Nat) (I : gr_I) (J : gr_J) (A : gc_A) (hI : gc_Inv ro I) (a1 : Int64) (hb : gc_Base sh ro A) (x0 : I 8 1 ≤ 7) (hT : ∀ t, A 10 (Int.toNat (I 8 1)) = some t → gc_isTongue sh ro A t ∧ 144 ≤ t) (hok : gc_OK sh I J A) (hlen : sh.length + 25 ≤ 1000000) : ∃ (a s : Nat) (shₚ : gz_Sh) (ro' : Nat → Nat) (Iₚ : gr_I) (Jₚ : gr_J) (Aₚ : gc_A) (t : Nat), gz_Ev ws0 tb 9 (yX8_makeTongue, cX8_makeTongue, 4, none) [.inr (.inr (some 1)), .inr (.inl a1)] sh (gc_h sh I J A) none shₚ (gc_h shₚ Iₚ Jₚ Aₚ) a s ∧ (gc_MK sh ro I J A a s shₚ ro' Iₚ Jₚ Aₚ t ∧ gc_PU 8 8 a1 I J Iₚ Jₚ) := by
  have h144 := gc_Base_len hb
  have hD : gv_D (gc_E8 ws0 tb 8 (yX8_makeTongue, cX8_makeTongue, 4, none) kX8_makeTongue) := gq_of oX8_makeTongue
  have S10 : sh[10]? = some (true, 5, 8) := gc_bS_10 hb
  have S1 : sh[1]? = some (false, 8, 21) := gc_bS_1 hb
  have A14 : A 1 4 = some 10 := gc_bA_1_4 hb
  have A1p : A 1 16 = some 20 := gc_bA_1_16 hb
  have i8 : 0 ≤ I 8 1 ∧ I 8 1 ≤ 8 := gc_in hI (gc_bR hb (by decide) rfl) rfl rfl
  suffices hY : gv_Y (gc_E8 ws0 tb 8 (yX8_makeTongue, cX8_makeTongue, 4, none) kX8_makeTongue) (fun v a s => ∃ (shₚ : gz_Sh) (ro' : Nat → Nat) (Iₚ : gr_I) (Jₚ : gr_J) (Aₚ : gc_A) (t : Nat), gz_fin cX8_makeTongue none v none ∧ v.2.2.2.1 = shₚ ∧ v.2.2.2.2 = gc_h shₚ Iₚ Jₚ Aₚ ∧ (gc_MK sh ro I J A a s shₚ ro' Iₚ Jₚ Aₚ t ∧ gc_PU 8 8 a1 I J Iₚ Jₚ)) (0, [(0, .inr (.inr (some 1))), (1, .inr (.inl a1))], [], sh, gc_h sh I J A) by
    obtain ⟨n, v, a, s, h1, shₚ, ro', Iₚ, Jₚ, Aₚ, t, h2, h3, h4, h5⟩ := hY
    refine ⟨a, s, shₚ, ro', Iₚ, Jₚ, Aₚ, t, Or.inr (Or.inr ⟨by decide, Nat.le_of_ble_eq_true rfl, n, v, ?_, h2, h3, h4⟩), h5⟩
    show gz_to (gz_do ws0 RX8 (tb RX8) cX8_makeTongue 4 (gz_Ev ws0 tb 8)) n _ v a s
    rw [gc_tb8 htb]
    exact h1
  obtain ⟨L, hL⟩ : ∃ L, sh.length = L := ⟨_, rfl⟩
  refine gv_YofX (d_X8_makeTongue_h hws htb sh ro I J A hI a1 hb x0 (fun v3 s1 m => ?_))
  obtain ⟨m0, m1, m2, m3, m4⟩ := m
  subst m4
  subst m2
  refine gv_Xz ?_
  cases hA : A 10 (Int.toNat (I 8 1)) with
  | some t =>
    obtain ⟨hTt, G⟩ := hT t hA
    refine gv_lift (fun hk => gv_aald hD rfl S10 ⟨by decide, by decide⟩ ⟨by decide, by decide⟩ ⟨by omega, by omega⟩ ((gc_aA S10 rfl).trans hA) hk) ?_
    refine gv_lift (fun hk => gv_run 1 true hD (pcₚ := 41) (lvₚ := [(0, .inr (.inr (some 1))), (1, .inr (.inl a1)), (3, .inl (I 8 1))]) (stₚ := []) (hₚ := gc_h sh I J A) (C := (True ∧ True)) rfl ⟨trivial, trivial⟩ hk) ?_
    refine gv_YofX (gv_Xm (fun v h => ?_) (d_X8_makeTongue_t_p hws htb sh ro I J A hI t a1 (I 8 1) hb hTt G ⟨by omega, by omega⟩ hA rfl))
    obtain ⟨r, hf, hs9, Iₚ, Jₚ, e1, e2, e3, e4, rfl, z0, z1, z2, z3, z4, z5, z6, z7, z8⟩ := h
    have hTu := hTt
    obtain ⟨b0, b1, b2, b3, b4, b5, b6, b7, b8, b9, b10, b11, b12, b13, b14, b15, b16, b17, b18, b19, b20, b21, b22, b23, b24, b25, b26, b27, b28, b29, b30, b31, b32, b33, b34, b35, b36, b37, b38, b39, b40, b41, b42, b43, b44⟩ := hTu
    have ok9 : gc_OK sh Iₚ Jₚ A := gc_OK_fr hok (fun q j => (e3 q j).imp (fun h => by
        rcases h with ⟨rfl, rfl⟩ | ⟨rfl, rfl⟩ | ⟨rfl, rfl⟩ | ⟨rfl, rfl⟩ | ⟨rfl, rfl⟩ | ⟨rfl, rfl⟩ | ⟨rfl, rfl⟩ | ⟨rfl, rfl⟩
        · exact ⟨gc_x_lt b4.1, gc_tyx b4.1⟩
        · exact ⟨gc_x_lt b6.1, gc_tyx b6.1⟩
        · exact ⟨gc_x_lt b16.1, gc_tyx b16.1⟩
        · exact ⟨gc_x_lt b26.1, gc_tyx b26.1⟩
        · exact ⟨gc_x_lt b0, gc_tyx b0⟩
        · exact ⟨gc_x_lt b0, gc_tyx b0⟩
        · exact ⟨gc_x_lt b0, gc_tyx b0⟩
        · exact ⟨gc_x_lt (gc_bS hb (p := 8) rfl), gc_tyx (gc_bS hb (p := 8) rfl)⟩
        ) id) (fun q j => (e4 q j).imp (fun h => by omega) id)
    exact gv_Yend ⟨sh, ro, Iₚ, Jₚ, A, t, hf, hs9, e1, ⟨gc_x_refl, e2, ok9, ⟨hTt, G, hA⟩, fun q k _ _ => rfl, ⟨z7, z0, z1, z2, z3, z4, z5, z6⟩, fun q j _ => e3 q j, fun q j _ => e4 q j, Or.inl ⟨hA, rfl, rfl, rfl, rfl, rfl⟩⟩, z8⟩
  | none =>
    refine gv_lift (fun hk => gv_aald hD rfl S10 ⟨by decide, by decide⟩ ⟨by decide, by decide⟩ ⟨by omega, by omega⟩ ((gc_aA S10 rfl).trans hA) hk) ?_
    refine gv_lift (fun hk => gv_run 2 true hD (pcₚ := 25) (lvₚ := [(0, .inr (.inr (some 1))), (1, .inr (.inl a1)), (3, .inl (I 8 1))]) (stₚ := [.inr (.inr (some 1))]) (hₚ := gc_h sh I J A) (C := ((True ∧ True) ∧ True)) rfl ⟨⟨trivial, trivial⟩, trivial⟩ hk) ?_
    refine gv_lift (fun hk => gv_get hD rfl rfl S1 ⟨by decide, by decide⟩ (gc_hA S1 rfl A14) hk) ?_
    refine gv_lift (fun hk => gv_run 1 true hD (pcₚ := 29) (lvₚ := [(0, .inr (.inr (some 1))), (1, .inr (.inl a1)), (3, .inl (I 8 1))]) (stₚ := [.inl (I 8 1), .inr (.inr (some 10))]) (hₚ := gc_h sh I J A) (C := (True ∧ True)) rfl ⟨trivial, trivial⟩ hk) ?_
    refine gc_Ynew hD (ix := 3) (ci := 11) (n := 16) (r := L) (C := RX11) (T := TX11) (ty := tyX11) rfl rfl (gc_lN11 hw (hw.1 _ (List.mem_of_getElem? (i := 24) rfl))) (by omega) hok (gc_okc (Or.inl (by omega)) (gc_okc trivial (gc_okc trivial gc_ok0))) (gc_oks trivial (gc_oks (Or.inl (by omega)) gc_ok0)) gc_dy11 hL.symm ?_
    have ok1 := gc_OKx (x := (false, 11, 16)) hok (gc_nth2 (l := gc_nl gc_ts 11) rfl)
    have ln0 : (sh ++ [(false, 11, 16)]).length = L + 1 := gc_len1 hL
    have S0_0 := gc_gl (x := (false, 11, 16)) (sh := sh) (p := L) hL.symm
    refine gv_lift (fun hk => gv_run 2 true hD (pcₚ := 34) (lvₚ := [(0, .inr (.inr (some 1))), (1, .inr (.inl a1)), (3, .inl (I 8 1))]) (stₚ := [.inr (.inr (some 1)), .inr (.inr (some L)), .inr (.inr (some L)), .inl (I 8 1), .inr (.inr (some 10))]) (hₚ := gc_h (sh ++ [(false, 11, 16)]) I J A) (C := ((True ∧ True) ∧ True)) rfl ⟨⟨trivial, trivial⟩, trivial⟩ hk) ?_
    refine gv_lift (fun hk => gv_get hD rfl rfl (gc_apl S1) ⟨by decide, by decide⟩ (gc_hA (gc_apl S1) rfl A1p) hk) ?_
    have hI2 : gc_Inv (fun q => gc_lr sh.length q ro gc_roT) I := gc_Inv_lr hI hok.2 gc_roT0
    have R0 : (fun q => gc_lr sh.length q ro gc_roT) (L + 0) = 23 := by
      show gc_lr sh.length (L + 0) ro gc_roT = 23
      rw [← hL, gc_lr_ge]
      rfl
    have R1 : (fun q => gc_lr sh.length q ro gc_roT) (L + 1) = 6 := by
      show gc_lr sh.length (L + 1) ro gc_roT = 6
      rw [← hL, gc_lr_ge]
      rfl
    have R2 : (fun q => gc_lr sh.length q ro gc_roT) (L + 2) = 0 := by
      show gc_lr sh.length (L + 2) ro gc_roT = 0
      rw [← hL, gc_lr_ge]
      rfl
    have R3 : (fun q => gc_lr sh.length q ro gc_roT) (L + 3) = 10 := by
      show gc_lr sh.length (L + 3) ro gc_roT = 10
      rw [← hL, gc_lr_ge]
      rfl
    have R4 : (fun q => gc_lr sh.length q ro gc_roT) (L + 4) = 0 := by
      show gc_lr sh.length (L + 4) ro gc_roT = 0
      rw [← hL, gc_lr_ge]
      rfl
    have R5 : (fun q => gc_lr sh.length q ro gc_roT) (L + 5) = 30 := by
      show gc_lr sh.length (L + 5) ro gc_roT = 30
      rw [← hL, gc_lr_ge]
      rfl
    have R6 : (fun q => gc_lr sh.length q ro gc_roT) (L + 6) = 31 := by
      show gc_lr sh.length (L + 6) ro gc_roT = 31
      rw [← hL, gc_lr_ge]
      rfl
    have R7 : (fun q => gc_lr sh.length q ro gc_roT) (L + 7) = 7 := by
      show gc_lr sh.length (L + 7) ro gc_roT = 7
      rw [← hL, gc_lr_ge]
      rfl
    have R8 : (fun q => gc_lr sh.length q ro gc_roT) (L + 8) = 0 := by
      show gc_lr sh.length (L + 8) ro gc_roT = 0
      rw [← hL, gc_lr_ge]
      rfl
    have R9 : (fun q => gc_lr sh.length q ro gc_roT) (L + 9) = 0 := by
      show gc_lr sh.length (L + 9) ro gc_roT = 0
      rw [← hL, gc_lr_ge]
      rfl
    have R10 : (fun q => gc_lr sh.length q ro gc_roT) (L + 10) = 41 := by
      show gc_lr sh.length (L + 10) ro gc_roT = 41
      rw [← hL, gc_lr_ge]
      rfl
    have R11 : (fun q => gc_lr sh.length q ro gc_roT) (L + 11) = 8 := by
      show gc_lr sh.length (L + 11) ro gc_roT = 8
      rw [← hL, gc_lr_ge]
      rfl
    have R12 : (fun q => gc_lr sh.length q ro gc_roT) (L + 12) = 0 := by
      show gc_lr sh.length (L + 12) ro gc_roT = 0
      rw [← hL, gc_lr_ge]
      rfl
    have R13 : (fun q => gc_lr sh.length q ro gc_roT) (L + 13) = 32 := by
      show gc_lr sh.length (L + 13) ro gc_roT = 32
      rw [← hL, gc_lr_ge]
      rfl
    have R14 : (fun q => gc_lr sh.length q ro gc_roT) (L + 14) = 39 := by
      show gc_lr sh.length (L + 14) ro gc_roT = 39
      rw [← hL, gc_lr_ge]
      rfl
    have R15 : (fun q => gc_lr sh.length q ro gc_roT) (L + 15) = 40 := by
      show gc_lr sh.length (L + 15) ro gc_roT = 40
      rw [← hL, gc_lr_ge]
      rfl
    have R16 : (fun q => gc_lr sh.length q ro gc_roT) (L + 16) = 0 := by
      show gc_lr sh.length (L + 16) ro gc_roT = 0
      rw [← hL, gc_lr_ge]
      rfl
    have R17 : (fun q => gc_lr sh.length q ro gc_roT) (L + 17) = 24 := by
      show gc_lr sh.length (L + 17) ro gc_roT = 24
      rw [← hL, gc_lr_ge]
      rfl
    have R18 : (fun q => gc_lr sh.length q ro gc_roT) (L + 18) = 1 := by
      show gc_lr sh.length (L + 18) ro gc_roT = 1
      rw [← hL, gc_lr_ge]
      rfl
    have R19 : (fun q => gc_lr sh.length q ro gc_roT) (L + 19) = 33 := by
      show gc_lr sh.length (L + 19) ro gc_roT = 33
      rw [← hL, gc_lr_ge]
      rfl
    have R20 : (fun q => gc_lr sh.length q ro gc_roT) (L + 20) = 34 := by
      show gc_lr sh.length (L + 20) ro gc_roT = 34
      rw [← hL, gc_lr_ge]
      rfl
    have R21 : (fun q => gc_lr sh.length q ro gc_roT) (L + 21) = 34 := by
      show gc_lr sh.length (L + 21) ro gc_roT = 34
      rw [← hL, gc_lr_ge]
      rfl
    have R22 : (fun q => gc_lr sh.length q ro gc_roT) (L + 22) = 35 := by
      show gc_lr sh.length (L + 22) ro gc_roT = 35
      rw [← hL, gc_lr_ge]
      rfl
    have R23 : (fun q => gc_lr sh.length q ro gc_roT) (L + 23) = 1 := by
      show gc_lr sh.length (L + 23) ro gc_roT = 1
      rw [← hL, gc_lr_ge]
      rfl
    have R24 : (fun q => gc_lr sh.length q ro gc_roT) (L + 24) = 1 := by
      show gc_lr sh.length (L + 24) ro gc_roT = 1
      rw [← hL, gc_lr_ge]
      rfl
    have hrH : (fun q => gc_lr sh.length q ro gc_roT) (L + 17 + 4) = 34 := R21
    obtain ⟨I9, EV, hI9, gF, qF, okT⟩ := m_X11_init hw hws htb 5 (J := J) (A := A) (p := L) hI2 R17 hrH ln0 (by omega) S0_0 (by omega) ok1
    refine gc_Yspec hD (ix := 104) (M := (yX11_init, cX11_init, 2, none)) (As := [.inr (.inr (some 20))]) (b := L) (st := [.inr (.inr (some L)), .inl (I 8 1), .inr (.inr (some 10))]) rfl ⟨(hw.1 _ (List.mem_of_getElem? (i := 25) rfl)), (hw.1 _ (List.mem_of_getElem? (i := 27) rfl)), (hw.1 _ (List.mem_of_getElem? (i := 26) rfl)), rfl, rfl, ⟨by decide +kernel, by decide +kernel, by decide +kernel⟩, Nat.le_of_ble_eq_true rfl, Or.inl (hw.1 _ (List.mem_of_getElem? (i := 28) rfl))⟩ rfl (Nat.le_of_ble_eq_true rfl) EV (gc_okc (Or.inl (by omega)) (gc_okc trivial (gc_okc trivial gc_ok0))) (gc_oks (Or.inl (by omega)) (gc_oks trivial (gc_oks (Or.inl (by omega)) gc_ok0))) ?_
    have ln2 : ((sh ++ [(false, 11, 16)]) ++ gc_tS).length = L + 25 := by
      rw [List.length_append, ln0]
      rfl
    have S0 : ((sh ++ [(false, 11, 16)]) ++ gc_tS)[L]? = some (false, 11, 16) := gc_apl S0_0
    have S10o := S10
    have S1 : ((sh ++ [(false, 11, 16)]) ++ gc_tS)[L + 1]? = some (false, 4, 2) := gc_aq9 ln0 (i := 0) (by omega) rfl
    have S2 : ((sh ++ [(false, 11, 16)]) ++ gc_tS)[L + 2]? = some (true, 2, 8) := gc_aq9 ln0 (i := 1) (by omega) rfl
    have S3 : ((sh ++ [(false, 11, 16)]) ++ gc_tS)[L + 3]? = some (false, 4, 2) := gc_aq9 ln0 (i := 2) (by omega) rfl
    have S4 : ((sh ++ [(false, 11, 16)]) ++ gc_tS)[L + 4]? = some (true, 2, 48) := gc_aq9 ln0 (i := 3) (by omega) rfl
    have S5 : ((sh ++ [(false, 11, 16)]) ++ gc_tS)[L + 5]? = some (true, 1, 48) := gc_aq9 ln0 (i := 4) (by omega) rfl
    have S6 : ((sh ++ [(false, 11, 16)]) ++ gc_tS)[L + 6]? = some (true, 1, 48) := gc_aq9 ln0 (i := 5) (by omega) rfl
    have S7 : ((sh ++ [(false, 11, 16)]) ++ gc_tS)[L + 7]? = some (false, 4, 2) := gc_aq9 ln0 (i := 6) (by omega) rfl
    have S8 : ((sh ++ [(false, 11, 16)]) ++ gc_tS)[L + 8]? = some (true, 2, 16) := gc_aq9 ln0 (i := 7) (by omega) rfl
    have S9 : ((sh ++ [(false, 11, 16)]) ++ gc_tS)[L + 9]? = some (true, 1, 16) := gc_aq9 ln0 (i := 8) (by omega) rfl
    have S10 : ((sh ++ [(false, 11, 16)]) ++ gc_tS)[L + 10]? = some (true, 1, 600) := gc_aq9 ln0 (i := 9) (by omega) rfl
    have S11 : ((sh ++ [(false, 11, 16)]) ++ gc_tS)[L + 11]? = some (false, 4, 2) := gc_aq9 ln0 (i := 10) (by omega) rfl
    have S12 : ((sh ++ [(false, 11, 16)]) ++ gc_tS)[L + 12]? = some (true, 2, 24) := gc_aq9 ln0 (i := 11) (by omega) rfl
    have S13 : ((sh ++ [(false, 11, 16)]) ++ gc_tS)[L + 13]? = some (true, 1, 24) := gc_aq9 ln0 (i := 12) (by omega) rfl
    have S14 : ((sh ++ [(false, 11, 16)]) ++ gc_tS)[L + 14]? = some (true, 1, 1728) := gc_aq9 ln0 (i := 13) (by omega) rfl
    have S15 : ((sh ++ [(false, 11, 16)]) ++ gc_tS)[L + 15]? = some (true, 1, 704) := gc_aq9 ln0 (i := 14) (by omega) rfl
    have S16 : ((sh ++ [(false, 11, 16)]) ++ gc_tS)[L + 16]? = some (true, 4, 384) := gc_aq9 ln0 (i := 15) (by omega) rfl
    have S17 : ((sh ++ [(false, 11, 16)]) ++ gc_tS)[L + 17]? = some (false, 2, 10) := gc_aq9 ln0 (i := 16) (by omega) rfl
    have S18 : ((sh ++ [(false, 11, 16)]) ++ gc_tS)[L + 18]? = some (true, 0, 36864) := gc_aq9 ln0 (i := 17) (by omega) rfl
    have S19 : ((sh ++ [(false, 11, 16)]) ++ gc_tS)[L + 19]? = some (true, 1, 1536) := gc_aq9 ln0 (i := 18) (by omega) rfl
    have S20 : ((sh ++ [(false, 11, 16)]) ++ gc_tS)[L + 20]? = some (true, 1, 1536) := gc_aq9 ln0 (i := 19) (by omega) rfl
    have S21 : ((sh ++ [(false, 11, 16)]) ++ gc_tS)[L + 21]? = some (true, 1, 512) := gc_aq9 ln0 (i := 20) (by omega) rfl
    have S22 : ((sh ++ [(false, 11, 16)]) ++ gc_tS)[L + 22]? = some (true, 1, 1536) := gc_aq9 ln0 (i := 21) (by omega) rfl
    have S23 : ((sh ++ [(false, 11, 16)]) ++ gc_tS)[L + 23]? = some (true, 0, 24) := gc_aq9 ln0 (i := 22) (by omega) rfl
    have S24 : ((sh ++ [(false, 11, 16)]) ++ gc_tS)[L + 24]? = some (true, 0, 24) := gc_aq9 ln0 (i := 23) (by omega) rfl
    have hx1 : gc_ext sh ro A ((sh ++ [(false, 11, 16)]) ++ gc_tS) (fun q => gc_lr sh.length q ro gc_roT) (gc_tA A L) := ⟨⟨(false, 11, 16) :: gc_tS, by rw [List.append_assoc]; rfl⟩, fun q hq => gc_lr_lt hq, fun q k x hs _ => gc_tA_lt (by have := gc_x_lt hs; omega)⟩
    have hT1 : gc_isTongue ((sh ++ [(false, 11, 16)]) ++ gc_tS) (fun q => gc_lr sh.length q ro gc_roT) (gc_tA A L) L := ⟨S0, R0, by omega, gc_tA_0_0, ⟨S1, R1, by omega, gc_tA_1_0, S2, R2, by omega, rfl, rfl, by decide⟩, gc_tA_0_1, ⟨S3, R3, by omega, gc_tA_3_0, S4, R4, by omega, rfl, rfl, by decide⟩, gc_tA_0_2, S5, R5, by omega, gc_tA_0_3, S6, R6, by omega, gc_tA_0_4, ⟨S7, R7, by omega, gc_tA_7_0, S8, R8, by omega, rfl, rfl, by decide⟩, gc_tA_0_5, S9, R9, by omega, gc_tA_0_7, S10, R10, by omega, gc_tA_0_8, ⟨S11, R11, by omega, gc_tA_11_0, S12, R12, by omega, rfl, rfl, by decide⟩, gc_tA_0_9, S13, R13, by omega, gc_tA_0_10, S14, R14, by omega, gc_tA_0_12, S15, R15, by omega, gc_tA_0_14, S16, R16, by omega, gc_tA_0_15, ⟨S17, R17, by omega, gc_tA_17_0, gc_apl (gc_apl (gc_bS hb rfl)), (gc_lr_lt (by omega)).trans (gc_bR hb (by decide) rfl), by decide, gc_tA_17_1, S18, R18, by omega, gc_tA_17_2, S19, R19, by omega, gc_tA_17_3, S20, R20, by omega, gc_tA_17_4, S21, R21, by omega, gc_tA_17_5, S22, R22, by omega, S23, R23, by omega, S24, R24, by omega⟩⟩
    have S10b := gc_x_sh hx1 S10o
    refine gc_Yaas5 hD rfl S10b S0 ⟨by decide, by omega, by decide⟩ ⟨by omega, by omega⟩ ?_
    have hx3 : gc_ext ((sh ++ [(false, 11, 16)]) ++ gc_tS) (fun q => gc_lr sh.length q ro gc_roT) (gc_tA A L) ((sh ++ [(false, 11, 16)]) ++ gc_tS) (fun q => gc_lr sh.length q ro gc_roT) (gc_u (gc_tA A L) 10 (Int.toNat (I 8 1)) (some L)) := ⟨⟨[], (List.append_nil _).symm⟩, fun _ _ => rfl, fun q k x hs h4 => by
        have e : ¬ q = 10 := fun h9 => by
            subst h9
            rw [S10b] at hs
            cases hs
            cases h4
        unfold gc_u
        rw [if_neg e]⟩
    have ok3 := gc_OKu (k := (Int.toNat (I 8 1))) (q := L) okT S10b rfl (by omega)
    have hA3 : (gc_u (gc_tA A L) 10 (Int.toNat (I 8 1)) (some L)) 10 (Int.toNat (I 8 1)) = some L := by simp [gc_u]
    have hx := gc_x_trans hx1 hx3
    have hT3 := gc_isTongue_x hx3 hT1
    refine gv_YofX (gv_Xm (fun v h => ?_) (d_X8_makeTongue_t_p hws htb ((sh ++ [(false, 11, 16)]) ++ gc_tS) (fun q => gc_lr sh.length q ro gc_roT) I9 J (gc_u (gc_tA A L) 10 (Int.toNat (I 8 1)) (some L)) hI9 L a1 (I 8 1) (gc_Base_x hx hb) hT3 (by omega) ⟨by omega, by omega⟩ hA3 (show I 8 1 = I9 8 1 from ((gF 8 1).resolve_left (by omega)).symm)))
    obtain ⟨r, hf, hs9, Iₚ, Jₚ, e1, e2, e3, e4, rfl, z0, z1, z2, z3, z4, z5, z6, z7, z8⟩ := h
    have ok9 : gc_OK ((sh ++ [(false, 11, 16)]) ++ gc_tS) Iₚ Jₚ (gc_u (gc_tA A L) 10 (Int.toNat (I 8 1)) (some L)) := gc_OK_fr ok3 (fun q j => (e3 q j).imp (fun h => by
        rcases h with ⟨rfl, rfl⟩ | ⟨rfl, rfl⟩ | ⟨rfl, rfl⟩ | ⟨rfl, rfl⟩ | ⟨rfl, rfl⟩ | ⟨rfl, rfl⟩ | ⟨rfl, rfl⟩ | ⟨rfl, rfl⟩
        · exact ⟨gc_x_lt S1, gc_tyx S1⟩
        · exact ⟨gc_x_lt S3, gc_tyx S3⟩
        · exact ⟨gc_x_lt S7, gc_tyx S7⟩
        · exact ⟨gc_x_lt S11, gc_tyx S11⟩
        · exact ⟨gc_x_lt S0, gc_tyx S0⟩
        · exact ⟨gc_x_lt S0, gc_tyx S0⟩
        · exact ⟨gc_x_lt S0, gc_tyx S0⟩
        · exact ⟨gc_x_lt (gc_x_sh hx (gc_bS hb (p := 8) rfl)), gc_tyx (gc_x_sh hx (gc_bS hb (p := 8) rfl))⟩
        ) id) (fun q j => (e4 q j).imp (fun h => by omega) id)
    have fI : ∀ q j : Nat, q < sh.length → I9 q j = I q j := fun q j hq => (gF q j).resolve_left (by omega)
    refine gv_Yend ⟨((sh ++ [(false, 11, 16)]) ++ gc_tS), (fun q => gc_lr sh.length q ro gc_roT), Iₚ, Jₚ, (gc_u (gc_tA A L) 10 (Int.toNat (I 8 1)) (some L)), L, hf, hs9, e1, ⟨hx, e2, ok9, ⟨hT3, by omega, hA3⟩, fun q k hq hne => ?_, ⟨by have := fI 8 1 (by omega); omega, z0, z1, z2, z3, z4, z5, z6⟩, fun q j hq => (e3 q j).imp id (fun h => h.trans (fI q j hq)), fun q j hq => e4 q j, Or.inr ⟨hA, hL.symm, by omega, rfl, rfl, fun j => ?_, ⟨fun h hh => ?_, fun d => Or.inl ?_⟩, ?_⟩⟩, gc_PU_tr z8 ((gF 8 1).resolve_left (by omega)) (fun j => rfl) rfl⟩
    · have e5 : (gc_u (gc_tA A L) 10 (Int.toNat (I 8 1)) (some L)) q k = (gc_tA A L) q k := by
        unfold gc_u
        by_cases h1 : q = 10
        · rw [if_pos h1, if_neg (fun h2 => hne ⟨h1, h2⟩)]
        · rw [if_neg h1]
      rw [e5]
      exact gc_tA_lt (by omega)
    · rw [(e3 (L + 10) j).resolve_left (by omega), (gF (L + 10) j).resolve_left (by omega)]
      exact (hok.2 (L + 10) (by omega) j).1
    · rw [(e3 (L + 17 + 4) h).resolve_left (by omega), qF.2 h hh]
      decide
    · rw [(e3 (L + 17 + 3) d).resolve_left (by omega), (gF (L + 17 + 3) d).resolve_left (by omega)]
      exact Int.le_of_eq (hok.2 (L + 17 + 3) (by omega) d).1
    · refine ⟨?_, ?_, ?_⟩
      · rw [(e3 (L + 17) 8).resolve_left (by omega), (gF (L + 17) 8).resolve_left (by omega)]
        exact (hok.2 (L + 17) (by omega) 8).1
      · rw [(e3 (L + 17) 6).resolve_left (by omega), (e3 (L + 17) 7).resolve_left (by omega), (gF (L + 17) 6).resolve_left (by omega), qF.1, (hok.2 (L + 17) (by omega) 6).1]
        decide
      · rw [(e3 (L + 17) 9).resolve_left (by omega), (gF (L + 17) 9).resolve_left (by omega)]
        exact (hok.2 (L + 17) (by omega) 9).1
/-- what TONGUE tells -/
def gs_RTp (β : Int → Int) (η p9 : Int) (Ir : gr_I) (Jr : gr_J) (sh : gz_Sh) (I : gr_I) (J : gr_J) (A : gc_A) (z : Int) (Iₚ : gr_I) (Jₚ : gr_J) (Aₚ : gc_A) : Prop := (z = 0 → gs_tong β η Ir Jr (I 39 5) p9 < 0 ∧ Iₚ 39 4 = -1 - gs_tong β η Ir Jr (I 39 5) p9 ∧ Aₚ = A ∧ Iₚ 1 5 = I 1 5 ∧ (∀ q j : Nat, ((q = 39 ∧ j = 3) ∨ (q = 39 ∧ j = 4) ∨ (q = 23 ∧ j = 5) ∨ (q = 23 ∧ j = 6) ∨ (q = 23 ∧ j = 7) ∨ (q = 23 ∧ j = 8) ∨ (q = 1 ∧ j = 5)) ∨ Iₚ q j = I q j) ∧ (∀ q j : Nat, (q = 23 ∧ j = 9) ∨ Jₚ q j = J q j)) ∧ (z = 1 → (0 ≤ gs_tong β η Ir Jr (I 39 5) p9 ∧ gc_AT β η (gs_tong β η Ir Jr (I 39 5) p9) 23 Iₚ Jₚ) ∧ Iₚ 1 18 = 0 ∧ ((0 ≤ gs_lk Ir Jr 1 1 (gs_rn β η p9) ∧ Iₚ 1 5 = gs_lk Ir Jr 1 1 (gs_rn β η p9) ∧ Aₚ = A ∧ (∀ q j : Nat, ((q = 39 ∧ j = 3) ∨ (q = 39 ∧ j = 4) ∨ (q = 23 ∧ j = 5) ∨ (q = 23 ∧ j = 6) ∨ (q = 23 ∧ j = 7) ∨ (q = 23 ∧ j = 8) ∨ (q = 1 ∧ j = 5)) ∨ Iₚ q j = I q j) ∧ (∀ q j : Nat, (q = 23 ∧ j = 9) ∨ Jₚ q j = J q j)) ∨ (gs_lk Ir Jr 1 1 (gs_rn β η p9) < 0 ∧ I 8 1 ≤ 7 ∧ Iₚ 1 5 = I 8 1 ∧ gc_PU 8 8 (gs_M β η p9) I J Iₚ Jₚ ∧ ∃ t : Nat, 144 ≤ t ∧ Aₚ 10 (Int.toNat (I 8 1)) = some t ∧ (A 10 (Int.toNat (I 8 1)) = some t ∨ t = sh.length) ∧ (∀ q k, q < sh.length → ¬ (q = 10 ∧ k = Int.toNat (I 8 1)) → Aₚ q k = A q k) ∧ (Iₚ (t + 1) 1 = 0 ∧ Iₚ (t + 3) 1 = 0 ∧ Iₚ (t + 7) 1 = 0 ∧ Iₚ (t + 11) 1 = 0 ∧ Iₚ t 6 = 0 ∧ Iₚ t 11 = 0 ∧ Iₚ t 13 = 0) ∧ (∀ q j : Nat, q < sh.length → ((q = 39 ∧ j = 3) ∨ (q = 39 ∧ j = 4) ∨ (q = 23 ∧ j = 5) ∨ (q = 23 ∧ j = 6) ∨ (q = 23 ∧ j = 7) ∨ (q = 23 ∧ j = 8) ∨ (q = 1 ∧ j = 5) ∨ (q = (t + 1) ∧ j = 1) ∨ (q = (t + 3) ∧ j = 1) ∨ (q = (t + 7) ∧ j = 1) ∨ (q = (t + 11) ∧ j = 1) ∨ (q = t ∧ j = 6) ∨ (q = t ∧ j = 11) ∨ (q = t ∧ j = 13) ∨ (q = 8 ∧ j = 1)) ∨ Iₚ q j = I q j) ∧ (∀ q j : Nat, q < sh.length → (q = 9 ∨ (q = 23 ∧ j = 9)) ∨ Jₚ q j = J q j))))
set_option maxHeartbeats 8000000 in
set_option maxRecDepth 100000 in
theorem e_X6_readTongue_p {ws0 : List Cond} {tb : String → gz_T} (hw : gc_Wn ws0) (hws : gc_Ws ws0) (htb : gc_tbs tb) (sh : gz_Sh) (ro : Nat → Nat) (I : gr_I) (J : gr_J) (A : gc_A) (hs : gh_HS sh ro I J A) (B : Int) (x0 : B ≤ 1280 ∧ I 1 17 + I 23 1 ≤ B + I 23 5) (β : Int → Int) (η p9 : Int) (Ir : gr_I) (Jr : gr_J) (y1 : gc_AT β η p9 23 I J) (y2 : 0 ≤ p9) (y3 : I 8 1 = Ir 0 1 ∧ gs_NA (I 8 1) (J 9) (Jr 1)) (y4 : I 1 18 = 0) (KLT_I : gc_LT I) (KTK_I : gc_TK I) (hlen : sh.length + 25 ≤ 1000000) : ∃ (z : Int) (a s : Nat) (shₚ : gz_Sh) (ro' : Nat → Nat) (Iₚ : gr_I) (Jₚ : gr_J) (Aₚ : gc_A), gz_Ev ws0 tb 10 (yX6_readTongue, cX6_readTongue, 4, (some .boolean)) [.inr (.inr (some 39))] sh (gc_h sh I J A) (some (.inl z)) shₚ (gc_h shₚ Iₚ Jₚ Aₚ) a s ∧ (gh_RS B sh ro I A z a s shₚ ro' Iₚ Jₚ Aₚ ∧ gs_RTp β η p9 Ir Jr sh I J A z Iₚ Jₚ Aₚ) := by
  have hb := hs.1
  have hI := hs.2.1
  have hok := hs.2.2.1
  have hcu := hs.2.2.2.2.2.2
  have h144 := gc_Base_len hb
  have i8 : 0 ≤ I 8 1 ∧ I 8 1 ≤ 8 := gc_in hI (gc_bR hb (by decide) rfl) rfl rfl
  have hD : gv_D (gc_E6 ws0 tb 9 (yX6_readTongue, cX6_readTongue, 4, (some .boolean)) kX6_readTongue) := gq_of oX6_readTongue
  suffices hY : gv_Y (gc_E6 ws0 tb 9 (yX6_readTongue, cX6_readTongue, 4, (some .boolean)) kX6_readTongue) (fun v a s => ∃ (z : Int) (shₚ : gz_Sh) (ro' : Nat → Nat) (Iₚ : gr_I) (Jₚ : gr_J) (Aₚ : gc_A), gz_fin cX6_readTongue (some .boolean) v (some (.inl z)) ∧ v.2.2.2.1 = shₚ ∧ v.2.2.2.2 = gc_h shₚ Iₚ Jₚ Aₚ ∧ (gh_RS B sh ro I A z a s shₚ ro' Iₚ Jₚ Aₚ ∧ gs_RTp β η p9 Ir Jr sh I J A z Iₚ Jₚ Aₚ)) (0, [(0, .inr (.inr (some 39)))], [], sh, gc_h sh I J A) by
    obtain ⟨n, v, a, s, h1, z, shₚ, ro', Iₚ, Jₚ, Aₚ, h2, h3, h4, h5⟩ := hY
    refine ⟨z, a, s, shₚ, ro', Iₚ, Jₚ, Aₚ, Or.inr (Or.inr ⟨by decide, Nat.le_of_ble_eq_true rfl, n, v, ?_, h2, h3, h4⟩), h5⟩
    show gz_to (gz_do ws0 RX6 (tb RX6) cX6_readTongue 4 (gz_Ev ws0 tb 9)) n _ v a s
    rw [gc_tb6 htb]
    exact h1
  have okh : ∀ (I9 : gr_I) (J9 : gr_J), (∀ q j : Nat, ((q = 39 ∧ j = 3) ∨ (q = 39 ∧ j = 4) ∨ (q = 23 ∧ j = 5) ∨ (q = 23 ∧ j = 6) ∨ (q = 23 ∧ j = 7) ∨ (q = 23 ∧ j = 8) ∨ (q = 1 ∧ j = 5)) ∨ I9 q j = I q j) → (∀ q j : Nat, ((q = 23 ∧ j = 9)) ∨ J9 q j = J q j) → gc_OK sh I9 J9 A := fun I9 J9 f g => by
    have ok9 : gc_OK sh I9 J9 A := gc_OK_fr hok (fun q j => (f q j).imp (fun h => by
        rcases h with ⟨rfl, rfl⟩ | ⟨rfl, rfl⟩ | ⟨rfl, rfl⟩ | ⟨rfl, rfl⟩ | ⟨rfl, rfl⟩ | ⟨rfl, rfl⟩ | ⟨rfl, rfl⟩
        · exact ⟨gc_x_lt (gc_bS hb (p := 39) rfl), gc_tyx (gc_bS hb (p := 39) rfl)⟩
        · exact ⟨gc_x_lt (gc_bS hb (p := 39) rfl), gc_tyx (gc_bS hb (p := 39) rfl)⟩
        · exact ⟨gc_x_lt (gc_bS hb (p := 23) rfl), gc_tyx (gc_bS hb (p := 23) rfl)⟩
        · exact ⟨gc_x_lt (gc_bS hb (p := 23) rfl), gc_tyx (gc_bS hb (p := 23) rfl)⟩
        · exact ⟨gc_x_lt (gc_bS hb (p := 23) rfl), gc_tyx (gc_bS hb (p := 23) rfl)⟩
        · exact ⟨gc_x_lt (gc_bS hb (p := 23) rfl), gc_tyx (gc_bS hb (p := 23) rfl)⟩
        · exact ⟨gc_x_lt (gc_bS hb (p := 1) rfl), gc_tyx (gc_bS hb (p := 1) rfl)⟩
        ) id) (fun q j => (g q j).imp (fun h => by first | exact False.elim h | omega) id)
    exact ok9
  have hsW : ∀ (I9 : gr_I) (J9 : gr_J), gc_Inv ro I9 → (∀ q j : Nat, ((q = 39 ∧ j = 3) ∨ (q = 39 ∧ j = 4) ∨ (q = 23 ∧ j = 5) ∨ (q = 23 ∧ j = 6) ∨ (q = 23 ∧ j = 7) ∨ (q = 23 ∧ j = 8) ∨ (q = 1 ∧ j = 5)) ∨ I9 q j = I q j) → (∀ q j : Nat, ((q = 23 ∧ j = 9)) ∨ J9 q j = J q j) → (-1 ≤ I9 1 5 ∧ I9 1 5 < I 8 1) → gh_HS sh ro I9 J9 A ∧ gh_AO sh ro I A sh ro I9 A := fun I9 J9 hI9 f g cu => gh_HS_r hs hI9 (okh I9 J9 f g) (fun q j => (f q j).imp (fun h => by omega) id) cu
  refine gv_YofX (d_X6_readTongue_h_p hws htb sh ro I J A hI β η p9 Ir Jr hb y1 y2 y4 y3.1 y3.2 KLT_I KTK_I (fun v h => ?_) (fun I8 J9 v1 v3 s1 hI8 F8 F9 k1 k2 m lc lm => ?_))
  · obtain ⟨r, hf, hs9, Iₚ, Jₚ, e1, e2, e3, e4, e5, e6, z, rfl, z0, z1, p0, p1, p2, p3, p5⟩ := h
    have hh := hsW Iₚ Jₚ e2 e3 e4 (by omega)
    have h17 := (e3 1 17).resolve_left (by omega)
    exact gv_Yend ⟨z, sh, ro, Iₚ, Jₚ, A, hf, hs9, e1, ⟨⟨z0, z1⟩, hh.1, hh.2, e5, e6, ⟨p0, p1, by omega, fun k => (e3 21 k).resolve_left (by omega)⟩, ⟨by omega, by omega, by omega⟩⟩, ⟨fun h9 => ⟨(gs_or0 p5 h9).1, (gs_or0 p5 h9).2, rfl, by omega, e3, e4⟩, fun h9 => (by obtain ⟨c1, c2, c3, c4, c5⟩ := gs_or1 p5 (by omega); exact ⟨⟨c1, c2⟩, c5, Or.inl ⟨c3, c4, rfl, e3, e4⟩⟩)⟩⟩
  obtain ⟨m0, m1, m2, m3, mk9, m18, m4, m5, m6⟩ := m
  have hh := hsW I8 J9 hI8 F8 F9 (by omega)
  have n8 : Int.toNat (I8 8 1) = Int.toNat (I 8 1) := by omega
  refine gv_Xz ?_
  obtain ⟨a, s, shₚ, ro', Iₚ, Jₚ, Aₚ, t, EV, hM⟩ := e_X8_makeTongue_p hw hws htb sh ro I8 J9 A hI8 s1 hb (by omega) (fun t ht => have h := hh.1.2.2.2.1.1 _ t (by omega) ht; ⟨h.1, h.2.1⟩) hh.1.2.2.1 hlen
  refine gc_YcallV hD (ix := 232) (M := (yX8_makeTongue, cX8_makeTongue, 4, none)) (As := [.inr (.inl s1)]) (b := 1) (st := []) rfl rfl (by decide) (gc_bS hb (p := 1) rfl) rfl (gc_lV6 hws rfl) (Nat.le_of_ble_eq_true rfl) EV (gc_okc (Or.inl (by omega)) (gc_okc trivial (gc_okc trivial gc_ok0))) gc_ok0 ?_
  obtain ⟨hM, hPU⟩ := hM
  have h2 := gh_HS_m hh.1 (by omega) hM
  obtain ⟨hx, hI2, hok2, hTT, hA2, hz, fr2, frJ2, hcs⟩ := hM
  have hb2 := h2.1.1
  have S39 : shₚ[39]? = some (false, 6, 19) := gc_bS hb2 rfl
  have S1 : shₚ[1]? = some (false, 8, 21) := gc_bS hb2 rfl
  have A39 : Aₚ 39 0 = some 1 := gc_bA hb2 rfl
  show gv_Y _ _ (91, [(0, .inr (.inr (some 39))), (1, .inr (.inl v1)), (3, .inl v3)], [], shₚ, gc_h shₚ Iₚ Jₚ Aₚ)
  refine gv_lift (fun hk => gv_run 1 true hD (pcₚ := 92) (lvₚ := [(0, .inr (.inr (some 39))), (1, .inr (.inl v1)), (3, .inl v3)]) (stₚ := [.inr (.inr (some 39))]) (hₚ := gc_h shₚ Iₚ Jₚ Aₚ) (C := (True ∧ True)) rfl ⟨trivial, trivial⟩ hk) ?_
  refine gv_lift (fun hk => gv_get hD rfl rfl S39 ⟨by decide, by decide⟩ (gc_hA S39 rfl A39) hk) ?_
  refine gv_lift (fun hk => gv_run 1 true hD (pcₚ := 96) (lvₚ := [(0, .inr (.inr (some 39))), (1, .inr (.inl v1)), (3, .inl v3)]) (stₚ := [.inl v3, .inr (.inr (some 1))]) (hₚ := gc_h shₚ Iₚ Jₚ Aₚ) (C := (True ∧ True)) rfl ⟨trivial, trivial⟩ hk) ?_
  refine gv_lift (fun hk => gv_put hD rfl rfl S1 ⟨by decide, by decide⟩ rfl trivial hk) ?_
  rw [gc_up S1 rfl]
  refine gv_lift (fun hk => gv_run 1 true hD (pcₚ := 100) (lvₚ := [(0, .inr (.inr (some 39))), (1, .inr (.inl v1)), (3, .inl v3)]) (stₚ := [.inl 1]) (hₚ := gc_h shₚ (gr_u Iₚ 1 5 v3) Jₚ Aₚ) (C := (True ∧ True)) rfl ⟨trivial, trivial⟩ hk) ?_
  have e5 := gr_u_eq Iₚ 1 5 v3
  have g3 : ∀ q j : Nat, (q = 1 ∧ j = 5) ∨ (gr_u Iₚ 1 5 v3) q j = Iₚ q j := fun q j => by
    by_cases h : q = 1 ∧ j = 5
    · exact Or.inl h
    · exact Or.inr (gr_u_ne Iₚ v3 h)
  have hI3 : gc_Inv ro' (gr_u Iₚ 1 5 v3) := gc_Invu (lo := -1) (hi := 7) hI2 (gc_bR hb2 (by decide) rfl) rfl rfl ⟨by omega, by omega⟩
  have ok3 : gc_OK shₚ (gr_u Iₚ 1 5 v3) Jₚ Aₚ := gc_OK_fr hok2 (fun q j => (g3 q j).imp (fun h => by
    obtain ⟨rfl, rfl⟩ := h
    exact ⟨gc_x_lt S1, gc_tyx S1⟩) id) (fun q j => Or.inr rfl)
  have h3 := gh_HS_r h2.1 hI3 ok3 (fun q j => (g3 q j).imp (fun h => by omega) id) (by have := hz.1; omega)
  have fz : ∀ q j : Nat, q < sh.length → ¬ (q = 1 ∧ j = 5) → ¬ (q = 8 ∧ j = 1) → q < 144 → (gr_u Iₚ 1 5 v3) q j = I8 q j := fun q j h1 h2 h4 h5 => ((g3 q j).resolve_left h2).trans ((fr2 q j h1).resolve_left (by have := hTT.2.1; omega))
  have q23_1 := fz 23 1 (by omega) (by decide) (by decide) (by decide)
  have q23_5 := fz 23 5 (by omega) (by decide) (by decide) (by decide)
  have q1_17 := fz 1 17 (by omega) (by decide) (by decide) (by decide)
  have h17 := (F8 1 17).resolve_left (by omega)
  have kLT : gc_LT (gr_u Iₚ 1 5 v3) := gc_LT_fr k1 q23_5 (fz 23 6 (by omega) (by decide) (by decide) (by decide)) (fz 23 7 (by omega) (by decide) (by decide) (by decide)) (fun k => fz 24 k (by omega) (by omega) (by omega) (by decide))
  have kTK : gc_TK (gr_u Iₚ 1 5 v3) := gc_TK_fr k2 q23_1 q23_5 (fz 23 6 (by omega) (by decide) (by decide) (by decide)) (fz 23 7 (by omega) (by decide) (by decide) (by decide))
  have cnt : a + 25 * gh_nl Aₚ ≤ 25 * gh_nl A + 9 ∧ s + 45714 * gh_nl Aₚ ≤ 45714 * gh_nl A + 82 ∧ shₚ.length + 25 * gh_nl Aₚ ≤ sh.length + 25 * gh_nl A + 9 := by
    rcases hcs with ⟨c1, c2, c3, c4, c5, c6⟩ | ⟨c1, c2, c3, c4, c5, c6⟩
    · subst c2
      subst c4
      omega
    · have c7 := gh_nl_set (n := Int.toNat (I8 8 1)) (by omega) (fun i hi => hA2 10 i (by omega) (fun h9 => hi h9.2)) c1 hTT.2.2
      omega
  have at9 : gc_AT β η (gs_tong β η Ir Jr (I 39 5) p9) 23 (gr_u Iₚ 1 5 v3) Jₚ := gc_AT_J (gc_AT_I lc.2 q23_1 q23_5 (fz 23 6 (by omega) (by decide) (by decide) (by decide)) (fz 23 7 (by omega) (by decide) (by decide) (by decide)) (fz 23 8 (by omega) (by decide) (by decide) (by decide)) (fun k => fz 24 k (by omega) (by omega) (by omega) (by decide))) ((frJ2 23 9 (by omega)).resolve_left (by decide))
  have pu9 : gc_PU 8 8 (gs_M β η p9) I J (gr_u Iₚ 1 5 v3) Jₚ := fun h0 => by
    obtain ⟨a9, b9, c9⟩ := gc_PU_tr (I := I) (J := J) hPU ((F8 8 1).resolve_left (by omega)) (fun j => (F9 9 j).resolve_left (by omega)) lm h0
    exact ⟨((g3 8 1).resolve_left (by decide)).trans a9, b9, c9⟩
  have zt : ∀ q j : Nat, 144 ≤ q → (gr_u Iₚ 1 5 v3) q j = Iₚ q j := fun q j h => (g3 q j).resolve_left (by omega)
  have G9 := hTT.2.1
  obtain ⟨_, w1, w2, w3, w4, w5, w6, w7⟩ := id hz
  have zz9 := And.intro ((zt (t + 1) 1 (by omega)).trans w1) (And.intro ((zt (t + 3) 1 (by omega)).trans w2) (And.intro ((zt (t + 7) 1 (by omega)).trans w3) (And.intro ((zt (t + 11) 1 (by omega)).trans w4) (And.intro ((zt t 6 G9).trans w5) (And.intro ((zt t 11 G9).trans w6) ((zt t 13 G9).trans w7))))))
  have fi9 : ∀ q j : Nat, q < sh.length → ((q = 39 ∧ j = 3) ∨ (q = 39 ∧ j = 4) ∨ (q = 23 ∧ j = 5) ∨ (q = 23 ∧ j = 6) ∨ (q = 23 ∧ j = 7) ∨ (q = 23 ∧ j = 8) ∨ (q = 1 ∧ j = 5) ∨ (q = (t + 1) ∧ j = 1) ∨ (q = (t + 3) ∧ j = 1) ∨ (q = (t + 7) ∧ j = 1) ∨ (q = (t + 11) ∧ j = 1) ∨ (q = t ∧ j = 6) ∨ (q = t ∧ j = 11) ∨ (q = t ∧ j = 13) ∨ (q = 8 ∧ j = 1)) ∨ (gr_u Iₚ 1 5 v3) q j = I q j := fun q j hq => by
    rcases g3 q j with h | h
    · exact Or.inl (Or.inr (Or.inr (Or.inr (Or.inr (Or.inr (Or.inr (Or.inl h)))))))
    · rcases fr2 q j hq with h2 | h2
      · rcases h2 with h3 | h3 | h3 | h3 | h3 | h3 | h3 | h3
        · exact Or.inl (Or.inr (Or.inr (Or.inr (Or.inr (Or.inr (Or.inr (Or.inr (Or.inl h3))))))))
        · exact Or.inl (Or.inr (Or.inr (Or.inr (Or.inr (Or.inr (Or.inr (Or.inr (Or.inr (Or.inl h3)))))))))
        · exact Or.inl (Or.inr (Or.inr (Or.inr (Or.inr (Or.inr (Or.inr (Or.inr (Or.inr (Or.inr (Or.inl h3))))))))))
        · exact Or.inl (Or.inr (Or.inr (Or.inr (Or.inr (Or.inr (Or.inr (Or.inr (Or.inr (Or.inr (Or.inr (Or.inl h3)))))))))))
        · exact Or.inl (Or.inr (Or.inr (Or.inr (Or.inr (Or.inr (Or.inr (Or.inr (Or.inr (Or.inr (Or.inr (Or.inr (Or.inl h3))))))))))))
        · exact Or.inl (Or.inr (Or.inr (Or.inr (Or.inr (Or.inr (Or.inr (Or.inr (Or.inr (Or.inr (Or.inr (Or.inr (Or.inr (Or.inl h3)))))))))))))
        · exact Or.inl (Or.inr (Or.inr (Or.inr (Or.inr (Or.inr (Or.inr (Or.inr (Or.inr (Or.inr (Or.inr (Or.inr (Or.inr (Or.inr (Or.inl h3))))))))))))))
        · exact Or.inl (Or.inr (Or.inr (Or.inr (Or.inr (Or.inr (Or.inr (Or.inr (Or.inr (Or.inr (Or.inr (Or.inr (Or.inr (Or.inr (Or.inr h3))))))))))))))
      · rcases F8 q j with h4 | h4
        · rcases h4 with h5 | h5 | h5 | h5 | h5 | h5 | h5
          · exact Or.inl (Or.inl h5)
          · exact Or.inl (Or.inr (Or.inl h5))
          · exact Or.inl (Or.inr (Or.inr (Or.inl h5)))
          · exact Or.inl (Or.inr (Or.inr (Or.inr (Or.inl h5))))
          · exact Or.inl (Or.inr (Or.inr (Or.inr (Or.inr (Or.inl h5)))))
          · exact Or.inl (Or.inr (Or.inr (Or.inr (Or.inr (Or.inr (Or.inl h5))))))
          · exact Or.inl (Or.inr (Or.inr (Or.inr (Or.inr (Or.inr (Or.inr (Or.inl h5)))))))
        · exact Or.inr (h.trans (h2.trans h4))
  have fj9 : ∀ q j : Nat, q < sh.length → (q = 9 ∨ (q = 23 ∧ j = 9)) ∨ Jₚ q j = J q j := fun q j hq => by
    rcases frJ2 q j hq with h | h
    · exact Or.inl (Or.inl h)
    · rcases F9 q j with h2 | h2
      · exact Or.inl (Or.inr h2)
      · exact Or.inr (h.trans h2)
  exact gv_Yend ⟨1, shₚ, ro', (gr_u Iₚ 1 5 v3), Jₚ, Aₚ, Or.inr (Or.inl ⟨1, .boolean, hD 100 _ rfl, rfl, Or.inr ⟨rfl, Or.inr rfl⟩, rfl, rfl⟩), rfl, rfl, ⟨⟨by decide, by decide⟩, h3.1, gh_AO_trans i8.2 h2.1 h3.1 (gh_AO_trans i8.2 hh.1 h2.1 hh.2 h2.2) h3.2, kLT, kTK, ⟨by omega, by omega, by omega, fun k => (fz 21 k (by omega) (by omega) (by omega) (by decide)).trans ((F8 21 k).resolve_left (by omega))⟩, ⟨by omega, by omega, by omega⟩⟩, ⟨fun h9 => absurd h9 (by decide), fun _ => ⟨⟨lc.1, at9⟩, (fz 1 18 (by omega) (by decide) (by decide) (by decide)).trans m18, Or.inr ⟨mk9, by omega, by omega, pu9, t, hTT.2.1, (by rw [← n8]; exact hTT.2.2), (by rw [← n8]; exact hcs.imp (fun h => h.1) (fun h => h.2.1)), (fun q k hq hne => hA2 q k hq (by rw [n8]; exact hne)), zz9, fi9, fj9⟩⟩⟩⟩
