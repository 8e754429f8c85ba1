/-! PARITY, the class's side: LIN, with the object that it makes -/
theorem gs_AR_fr {Ir I Iₚ : gr_I} (h : gs_AR Ir I) (e4 : Iₚ 4 1 = I 4 1) (r12 : ∀ k, Iₚ 12 k = I 12 k) : gs_AR Ir Iₚ := fun k h0 h1 => (r12 _).trans (h k h0 (by omega))
theorem gs_KA_fr {Ir I Iₚ : gr_I} (h : gs_KA Ir I) (e4 : Iₚ 4 1 = I 4 1) (r11 : ∀ k, Iₚ 11 k = I 11 k) (r12 : ∀ k, Iₚ 12 k = I 12 k) (r13 : ∀ k, Iₚ 13 k = I 13 k) : gs_KA Ir Iₚ := fun f h0 h1 => by
  obtain ⟨a, b⟩ := h f h0 (by omega)
  exact ⟨(r11 _).trans a, fun j j0 j1 => (r13 _).trans (b j j0 (by rw [r12] at j1; exact j1))⟩
/-- what a LIN looks at is alike -/
def gs_LP (Ir : gr_I) (Jr : gr_J) (I : gr_I) (J : gr_J) (A : gc_A) (t : Nat) : Prop := (gs_AR Ir I ∧ gs_KA Ir I ∧ gs_LS Ir I A t) ∧ (I t 13 = Ir 19 (Int.toNat (Ir 0 6)) ∧ ((∀ x : Int, 0 ≤ x → gs_cf (gs_lf Ir) x (Int.toNat (I t 13)) ≤ 4) ∧ ∀ i : Nat, (i : Int) < I t 13 → 0 ≤ gs_lf Ir i ∧ gs_lf Ir i < 96)) ∧ (I 4 1 = Ir 0 3 ∧ gs_NA (I 4 1) (J 5) (Jr 3)) ∧ (I (t + 1) 1 = Ir 13 (Int.toNat (Ir 0 6)) ∧ gs_NA (I (t + 1) 1) (J (t + 2)) (fun k => Jr 20 (Int.toNat (8 * Ir 0 6 + (k : Int))))) ∧ (I (t + 3) 1 = Ir 14 (Int.toNat (Ir 0 6)) ∧ gs_NA (I (t + 3) 1) (J (t + 4)) (fun k => Jr 21 (Int.toNat (48 * Ir 0 6 + (k : Int))))) ∧ gs_VR Ir I t
theorem gs_NA_fr {n n' : Int} {f f' g : Nat → Int64} (h : gs_NA n f g) (e : n' = n) (r : ∀ k, f' k = f k) : gs_NA n' f' g := fun k hk => by
  rw [r]
  exact h k (by omega)
theorem gs_LP_fr {Ir : gr_I} {Jr : gr_J} {I : gr_I} {J : gr_J} {A : gc_A} {t : Nat} {Iₚ : gr_I} {Jₚ : gr_J} {Aₚ : gc_A} (h : gs_LP Ir Jr I J A t) (r11 : ∀ k, Iₚ 11 k = I 11 k) (r12 : ∀ k, Iₚ 12 k = I 12 k) (r13 : ∀ k, Iₚ 13 k = I 13 k) (e4 : Iₚ 4 1 = I 4 1) (e13 : Iₚ t 13 = I t 13) (e1 : Iₚ (t + 1) 1 = I (t + 1) 1) (e3 : Iₚ (t + 3) 1 = I (t + 3) 1) (r5 : ∀ k, Iₚ (t + 5) k = I (t + 5) k) (r6 : ∀ k, Iₚ (t + 6) k = I (t + 6) k) (j5 : ∀ k, Jₚ 5 k = J 5 k) (j2 : ∀ k, Jₚ (t + 2) k = J (t + 2) k) (j4 : ∀ k, Jₚ (t + 4) k = J (t + 4) k) (ls : gs_LS Ir Iₚ Aₚ t) : gs_LP Ir Jr Iₚ Jₚ Aₚ t := by
  obtain ⟨⟨a1, a2, a3⟩, ⟨b1, b2⟩, ⟨c1, c2⟩, ⟨d1, d2⟩, ⟨f1, f2⟩, g⟩ := h
  refine ⟨⟨gs_AR_fr a1 e4 r12, gs_KA_fr a2 e4 r11 r12 r13, ls⟩, ⟨e13.trans b1, ?_⟩, ⟨e4.trans c1, gs_NA_fr c2 e4 j5⟩, ⟨e1.trans d1, gs_NA_fr d2 e1 j2⟩, ⟨e3.trans f1, gs_NA_fr f2 e3 j4⟩, gs_VR_fr g e3 r5 r6⟩
  rw [e13]
  exact b2
/-- what LIN tells: z: was it well -/
def gs_RLp (β : Int → Int) (η p9 : Int) (Ir : gr_I) (Jr : gr_J) (I : gr_I) (t : Nat) (z : Int) (Iₚ : gr_I) (Jₚ : gr_J) (Aₚ : gc_A) : Prop := (z = 0 → gs_lin β η Ir Jr (I 39 5) p9 < 0 ∧ Iₚ 39 4 = -1 - gs_lin β η Ir Jr (I 39 5) p9) ∧ (z = 1 → (0 ≤ gs_lin β η Ir Jr (I 39 5) p9 ∧ gc_AT β η (gs_lin β η Ir Jr (I 39 5) p9) 23 Iₚ Jₚ) ∧ Iₚ 1 18 = 0 ∧ (∀ L, Aₚ (t + 16) (Int.toNat (I t 13)) = some L → Iₚ L 1 = gs_lk Ir Jr 3 3 (gs_rn β η p9)) ∧ gs_cf (gs_lf Ir) (gs_lk Ir Jr 3 3 (gs_rn β η p9)) (Int.toNat (Ir 19 (Int.toNat (Ir 0 6)))) < 4) ∧ gc_PKs I Iₚ
set_option maxHeartbeats 8000000 in
set_option maxRecDepth 100000 in
theorem e_X6_readLin_p {ws0 : List Cond} {tb : String → gz_T} (hw : gc_Wn ws0) (hws : gc_Ws ws0) (htb : gc_tbs tb) (sh : gz_Sh) (ro : Nat → Nat) (I : gr_I) (J : gr_J) (A : gc_A) (hI : gc_Inv ro I) (t : Nat) (B : Int) (hb : gc_Base sh ro A) (h_t : gc_isTongue sh ro A t) (G_t : 144 ≤ t) (x0 : B ≤ 1280 ∧ I 1 17 + I 23 1 ≤ B + I 23 5) (x1 : gc_Ls sh ro A t I) (x2 : I 39 2 = (t : Int)) (KLT_I : gc_LT I) (KTK_I : gc_TK I) (β : Int → Int) (η p9 : Int) (Ir : gr_I) (Jr : gr_J) (y1 : gc_AT β η p9 23 I J) (y2 : 0 ≤ p9) (y3 : gs_LP Ir Jr I J A t) (y4 : I 1 18 = 0) (hok : gc_OK sh I J A) (hlen : sh.length + 9 ≤ 1000000) : ∃ (z : Int) (a s : Nat) (shₚ : gz_Sh) (ro' : Nat → Nat) (Iₚ : gr_I) (Jₚ : gr_J) (Aₚ : gc_A), gz_Ev ws0 tb 9 (yX6_readLin, cX6_readLin, 4, (some .boolean)) [.inr (.inr (some 39))] sh (gc_h sh I J A) (some (.inl z)) shₚ (gc_h shₚ Iₚ Jₚ Aₚ) a s ∧ (gc_RL B sh ro I J A t z a s shₚ ro' Iₚ Jₚ Aₚ ∧ gs_RLp β η p9 Ir Jr I t z Iₚ Jₚ Aₚ) := by
  have h144 := gc_Base_len hb
  have hD : gv_D (gc_E6 ws0 tb 8 (yX6_readLin, cX6_readLin, 4, (some .boolean)) kX6_readLin) := gq_of oX6_readLin
  suffices hY : gv_Y (gc_E6 ws0 tb 8 (yX6_readLin, cX6_readLin, 4, (some .boolean)) kX6_readLin) (fun v a s => ∃ (z : Int) (shₚ : gz_Sh) (ro' : Nat → Nat) (Iₚ : gr_I) (Jₚ : gr_J) (Aₚ : gc_A), gz_fin cX6_readLin (some .boolean) v (some (.inl z)) ∧ v.2.2.2.1 = shₚ ∧ v.2.2.2.2 = gc_h shₚ Iₚ Jₚ Aₚ ∧ (gc_RL B sh ro I J A t z a s shₚ ro' Iₚ Jₚ Aₚ ∧ gs_RLp β η p9 Ir Jr I t z Iₚ Jₚ Aₚ)) (0, [(0, .inr (.inr (some 39)))], [], sh, gc_h sh I J A) by
    obtain ⟨n, v, a, s, h1, z, shₚ, ro', Iₚ, Jₚ, Aₚ, h2, h3, h4, h5⟩ := hY
    refine ⟨z, a, s, shₚ, ro', Iₚ, Jₚ, Aₚ, Or.inr (Or.inr ⟨by decide, Nat.le_of_ble_eq_true rfl, n, v, ?_, h2, h3, h4⟩), h5⟩
    show gz_to (gz_do ws0 RX6 (tb RX6) cX6_readLin 4 (gz_Ev ws0 tb 8)) n _ v a s
    rw [gc_tb6 htb]
    exact h1
  obtain ⟨L, hL⟩ : ∃ L, sh.length = L := ⟨_, rfl⟩
  have okh : ∀ (I9 : gr_I) (J9 : gr_J), (∀ q j : Nat, ((q = 39 ∧ j = 3) ∨ (q = 39 ∧ j = 4) ∨ (q = 23 ∧ j = 5) ∨ (q = 23 ∧ j = 6) ∨ (q = 23 ∧ j = 7) ∨ (q = 23 ∧ j = 8) ∨ (q = 1 ∧ j = 17) ∨ (q = 1 ∧ j = 18) ∨ q = 20) ∨ I9 q j = I q j) → (∀ q j : Nat, ((q = 23 ∧ j = 9)) ∨ J9 q j = J q j) → gc_OK sh I9 J9 A := fun I9 J9 f g => gc_OK_fr hok (fun q j => (f q j).imp (fun h => by
      rcases h with ⟨rfl, rfl⟩ | ⟨rfl, rfl⟩ | ⟨rfl, rfl⟩ | ⟨rfl, rfl⟩ | ⟨rfl, rfl⟩ | ⟨rfl, rfl⟩ | ⟨rfl, rfl⟩ | ⟨rfl, rfl⟩ | rfl
      · exact ⟨by omega, gc_tyx (gc_bS hb (p := 39) rfl)⟩
      · exact ⟨by omega, gc_tyx (gc_bS hb (p := 39) rfl)⟩
      · exact ⟨by omega, gc_tyx (gc_bS hb (p := 23) rfl)⟩
      · exact ⟨by omega, gc_tyx (gc_bS hb (p := 23) rfl)⟩
      · exact ⟨by omega, gc_tyx (gc_bS hb (p := 23) rfl)⟩
      · exact ⟨by omega, gc_tyx (gc_bS hb (p := 23) rfl)⟩
      · exact ⟨by omega, gc_tyx (gc_bS hb (p := 1) rfl)⟩
      · exact ⟨by omega, gc_tyx (gc_bS hb (p := 1) rfl)⟩
      · exact ⟨by omega, gc_tyx (gc_bS hb (p := 20) rfl)⟩
      ) id) (fun q j => (g q j).imp (fun h => by omega) id)
  have injH : ∀ q j : Nat, ((q = 39 ∧ j = 3) ∨ (q = 39 ∧ j = 4) ∨ (q = 23 ∧ j = 5) ∨ (q = 23 ∧ j = 6) ∨ (q = 23 ∧ j = 7) ∨ (q = 23 ∧ j = 8) ∨ (q = 1 ∧ j = 17) ∨ (q = 1 ∧ j = 18) ∨ q = 20) → ((q = 39 ∧ j = 3) ∨ (q = 39 ∧ j = 4) ∨ (q = 23 ∧ j = 5) ∨ (q = 23 ∧ j = 6) ∨ (q = 23 ∧ j = 7) ∨ (q = 23 ∧ j = 8) ∨ (q = 1 ∧ j = 17) ∨ (q = 1 ∧ j = 18) ∨ q = 20 ∨ (q = 39 ∧ j = 6) ∨ (q = 39 ∧ j = 7) ∨ (q = t ∧ j = 13)) := fun q j h => by
    rcases h with ⟨rfl, rfl⟩ | ⟨rfl, rfl⟩ | ⟨rfl, rfl⟩ | ⟨rfl, rfl⟩ | ⟨rfl, rfl⟩ | ⟨rfl, rfl⟩ | ⟨rfl, rfl⟩ | ⟨rfl, rfl⟩ | rfl
    · exact (Or.inl ⟨rfl, rfl⟩)
    · exact (Or.inr (Or.inl ⟨rfl, rfl⟩))
    · exact (Or.inr (Or.inr (Or.inl ⟨rfl, rfl⟩)))
    · exact (Or.inr (Or.inr (Or.inr (Or.inl ⟨rfl, rfl⟩))))
    · exact (Or.inr (Or.inr (Or.inr (Or.inr (Or.inl ⟨rfl, rfl⟩)))))
    · exact (Or.inr (Or.inr (Or.inr (Or.inr (Or.inr (Or.inl ⟨rfl, rfl⟩))))))
    · exact (Or.inr (Or.inr (Or.inr (Or.inr (Or.inr (Or.inr (Or.inl ⟨rfl, rfl⟩)))))))
    · exact (Or.inr (Or.inr (Or.inr (Or.inr (Or.inr (Or.inr (Or.inr (Or.inl ⟨rfl, rfl⟩))))))))
    · exact (Or.inr (Or.inr (Or.inr (Or.inr (Or.inr (Or.inr (Or.inr (Or.inr (Or.inl rfl)))))))))
  refine gv_YofX (d_X6_readLin_h_p hws htb sh ro I J A hI B β η p9 Ir Jr hb x0 y1 y2 y3.2.2.1.1 y3.2.2.1.2 KLT_I KTK_I (fun v h => ?_) (fun I8 J9 v1 hI8 F8 F9 k1 k2 kP m mf mA => ?_))
  · obtain ⟨r, hf, hs9, Iₚ, Jₚ, e1, e2, e3, e4, e5, e6, z, rfl, z0, z1, p0, p1, p2, p3, pk, p5⟩ := h
    exact gv_Yend ⟨z, sh, ro, Iₚ, Jₚ, A, hf, hs9, e1, ⟨⟨z0, z1⟩, ⟨by decide, by decide⟩, by omega, gc_x_refl, e2, okh Iₚ Jₚ e3 e4, e5, e6, fun q j _ => (e3 q j).imp (injH q j) id, fun q j _ => e4 q j, ⟨p0, p1, p2.2⟩, Or.inl ⟨p3, (e3 t 13).resolve_left (by omega), fun q k _ => rfl⟩⟩, ⟨fun _ => p5, fun h9 => absurd h9 (by omega), pk⟩⟩
  obtain ⟨m0, m1, mv, m18, m3, m4, m5⟩ := m
  have m2 := mf
  have ok8 := okh I8 J9 F8 F9
  refine gv_Xz ?_
  refine gc_Ynew hD (ix := 359) (ci := 3) (n := 16) (r := L) (C := RX3) (T := TX3) (ty := tyX3) rfl rfl (gc_lN3 hw (hw.1 _ (List.mem_of_getElem? (i := 20) rfl))) (by omega) ok8 (gc_okc (Or.inl (by omega)) (gc_okc trivial gc_ok0)) gc_ok0 gc_dy3 hL.symm ?_
  have ok9 := gc_OKx (x := (false, 3, 16)) ok8 (gc_nth2 (l := gc_nl gc_ts 3) rfl)
  have ln0 : (sh ++ [(false, 3, 16)]).length = L + 1 := gc_len1 hL
  have S0_0 := gc_gl (x := (false, 3, 16)) (sh := sh) (p := L) hL.symm
  refine gv_lift (fun hk => gv_run 1 true hD (pcₚ := 28) (lvₚ := [(0, .inr (.inr (some 39))), (1, .inl v1)]) (stₚ := [.inr (.inr (some L)), .inr (.inr (some L))]) (hₚ := gc_h (sh ++ [(false, 3, 16)]) I8 J9 A) (C := (True ∧ True)) rfl ⟨trivial, trivial⟩ hk) ?_
  refine gc_Yspec hD (ix := 361) (M := (yX3_init, cX3_init, 1, none)) (As := []) (b := L) (st := [.inr (.inr (some L))]) rfl ⟨(hw.1 _ (List.mem_of_getElem? (i := 21) rfl)), (hw.1 _ (List.mem_of_getElem? (i := 23) rfl)), (hw.1 _ (List.mem_of_getElem? (i := 22) rfl)), rfl, rfl, ⟨by decide +kernel, by decide +kernel, by decide +kernel⟩, Nat.le_of_ble_eq_true rfl, Or.inr ⟨rfl, rfl, rfl⟩⟩ rfl (Nat.le_of_ble_eq_true rfl) (m_X3_init hw hws htb 7 (I := I8) (J := J9) (A := A) (p := L) ln0 (by omega) S0_0 ok9) (gc_okc (Or.inl (by omega)) (gc_okc trivial gc_ok0)) (gc_oks (Or.inl (by omega)) gc_ok0) ?_
  have okA := mo_X3_init hw hws htb 7 (I := I8) (J := J9) (A := A) (p := L) ln0 (by omega) S0_0 ok9
  refine gv_lift (fun hk => gv_run 1 true hD (pcₚ := 32) (lvₚ := [(2, .inr (.inr (some L))), (0, .inr (.inr (some 39))), (1, .inl v1)]) (stₚ := []) (hₚ := gc_h (((((((((sh ++ [(false, 3, 16)]) ++ [(true, 1, 6)]) ++ [(true, 1, 6)]) ++ [(true, 1, 6)]) ++ [(true, 1, 4)]) ++ [(true, 1, 4)]) ++ [(true, 1, 4)]) ++ [(true, 1, 18)]) ++ [(true, 1, 18)]) I8 J9 (gc_u (gc_u (gc_u (gc_u (gc_u (gc_u (gc_u (gc_u A L 5 (some (L + 1))) L 6 (some (L + 2))) L 7 (some (L + 3))) L 9 (some (L + 4))) L 10 (some (L + 5))) L 11 (some (L + 6))) L 13 (some (L + 7))) L 15 (some (L + 8)))) (C := (True ∧ True)) rfl ⟨trivial, trivial⟩ hk) ?_
  refine gv_lift (fun hk => gv_pick [1, 2, 0] rfl hk) ?_
  have S1_0 := gc_gx (x := (true, 1, 6)) S0_0
  have S1_1 := gc_gl (x := (true, 1, 6)) (sh := (sh ++ [(false, 3, 16)])) (p := L + 1) ln0.symm
  have ln1 : ((sh ++ [(false, 3, 16)]) ++ [(true, 1, 6)]).length = L + 2 := gc_len1 ln0
  have S2_0 := gc_gx (x := (true, 1, 6)) S1_0
  have S2_1 := gc_gx (x := (true, 1, 6)) S1_1
  have S2_2 := gc_gl (x := (true, 1, 6)) (sh := ((sh ++ [(false, 3, 16)]) ++ [(true, 1, 6)])) (p := L + 2) ln1.symm
  have ln2 : (((sh ++ [(false, 3, 16)]) ++ [(true, 1, 6)]) ++ [(true, 1, 6)]).length = L + 3 := gc_len1 ln1
  have S3_0 := gc_gx (x := (true, 1, 6)) S2_0
  have S3_1 := gc_gx (x := (true, 1, 6)) S2_1
  have S3_2 := gc_gx (x := (true, 1, 6)) S2_2
  have S3_3 := gc_gl (x := (true, 1, 6)) (sh := (((sh ++ [(false, 3, 16)]) ++ [(true, 1, 6)]) ++ [(true, 1, 6)])) (p := L + 3) ln2.symm
  have ln3 : ((((sh ++ [(false, 3, 16)]) ++ [(true, 1, 6)]) ++ [(true, 1, 6)]) ++ [(true, 1, 6)]).length = L + 4 := gc_len1 ln2
  have S4_0 := gc_gx (x := (true, 1, 4)) S3_0
  have S4_1 := gc_gx (x := (true, 1, 4)) S3_1
  have S4_2 := gc_gx (x := (true, 1, 4)) S3_2
  have S4_3 := gc_gx (x := (true, 1, 4)) S3_3
  have S4_4 := gc_gl (x := (true, 1, 4)) (sh := ((((sh ++ [(false, 3, 16)]) ++ [(true, 1, 6)]) ++ [(true, 1, 6)]) ++ [(true, 1, 6)])) (p := L + 4) ln3.symm
  have ln4 : (((((sh ++ [(false, 3, 16)]) ++ [(true, 1, 6)]) ++ [(true, 1, 6)]) ++ [(true, 1, 6)]) ++ [(true, 1, 4)]).length = L + 5 := gc_len1 ln3
  have S5_0 := gc_gx (x := (true, 1, 4)) S4_0
  have S5_1 := gc_gx (x := (true, 1, 4)) S4_1
  have S5_2 := gc_gx (x := (true, 1, 4)) S4_2
  have S5_3 := gc_gx (x := (true, 1, 4)) S4_3
  have S5_4 := gc_gx (x := (true, 1, 4)) S4_4
  have S5_5 := gc_gl (x := (true, 1, 4)) (sh := (((((sh ++ [(false, 3, 16)]) ++ [(true, 1, 6)]) ++ [(true, 1, 6)]) ++ [(true, 1, 6)]) ++ [(true, 1, 4)])) (p := L + 5) ln4.symm
  have ln5 : ((((((sh ++ [(false, 3, 16)]) ++ [(true, 1, 6)]) ++ [(true, 1, 6)]) ++ [(true, 1, 6)]) ++ [(true, 1, 4)]) ++ [(true, 1, 4)]).length = L + 6 := gc_len1 ln4
  have S6_0 := gc_gx (x := (true, 1, 4)) S5_0
  have S6_1 := gc_gx (x := (true, 1, 4)) S5_1
  have S6_2 := gc_gx (x := (true, 1, 4)) S5_2
  have S6_3 := gc_gx (x := (true, 1, 4)) S5_3
  have S6_4 := gc_gx (x := (true, 1, 4)) S5_4
  have S6_5 := gc_gx (x := (true, 1, 4)) S5_5
  have S6_6 := gc_gl (x := (true, 1, 4)) (sh := ((((((sh ++ [(false, 3, 16)]) ++ [(true, 1, 6)]) ++ [(true, 1, 6)]) ++ [(true, 1, 6)]) ++ [(true, 1, 4)]) ++ [(true, 1, 4)])) (p := L + 6) ln5.symm
  have ln6 : (((((((sh ++ [(false, 3, 16)]) ++ [(true, 1, 6)]) ++ [(true, 1, 6)]) ++ [(true, 1, 6)]) ++ [(true, 1, 4)]) ++ [(true, 1, 4)]) ++ [(true, 1, 4)]).length = L + 7 := gc_len1 ln5
  have S7_0 := gc_gx (x := (true, 1, 18)) S6_0
  have S7_1 := gc_gx (x := (true, 1, 18)) S6_1
  have S7_2 := gc_gx (x := (true, 1, 18)) S6_2
  have S7_3 := gc_gx (x := (true, 1, 18)) S6_3
  have S7_4 := gc_gx (x := (true, 1, 18)) S6_4
  have S7_5 := gc_gx (x := (true, 1, 18)) S6_5
  have S7_6 := gc_gx (x := (true, 1, 18)) S6_6
  have S7_7 := gc_gl (x := (true, 1, 18)) (sh := (((((((sh ++ [(false, 3, 16)]) ++ [(true, 1, 6)]) ++ [(true, 1, 6)]) ++ [(true, 1, 6)]) ++ [(true, 1, 4)]) ++ [(true, 1, 4)]) ++ [(true, 1, 4)])) (p := L + 7) ln6.symm
  have ln7 : ((((((((sh ++ [(false, 3, 16)]) ++ [(true, 1, 6)]) ++ [(true, 1, 6)]) ++ [(true, 1, 6)]) ++ [(true, 1, 4)]) ++ [(true, 1, 4)]) ++ [(true, 1, 4)]) ++ [(true, 1, 18)]).length = L + 8 := gc_len1 ln6
  have S8_0 := gc_gx (x := (true, 1, 18)) S7_0
  have S8_1 := gc_gx (x := (true, 1, 18)) S7_1
  have S8_2 := gc_gx (x := (true, 1, 18)) S7_2
  have S8_3 := gc_gx (x := (true, 1, 18)) S7_3
  have S8_4 := gc_gx (x := (true, 1, 18)) S7_4
  have S8_5 := gc_gx (x := (true, 1, 18)) S7_5
  have S8_6 := gc_gx (x := (true, 1, 18)) S7_6
  have S8_7 := gc_gx (x := (true, 1, 18)) S7_7
  have S8_8 := gc_gl (x := (true, 1, 18)) (sh := ((((((((sh ++ [(false, 3, 16)]) ++ [(true, 1, 6)]) ++ [(true, 1, 6)]) ++ [(true, 1, 6)]) ++ [(true, 1, 4)]) ++ [(true, 1, 4)]) ++ [(true, 1, 4)]) ++ [(true, 1, 18)])) (p := L + 8) ln7.symm
  have ln8 : (((((((((sh ++ [(false, 3, 16)]) ++ [(true, 1, 6)]) ++ [(true, 1, 6)]) ++ [(true, 1, 6)]) ++ [(true, 1, 4)]) ++ [(true, 1, 4)]) ++ [(true, 1, 4)]) ++ [(true, 1, 18)]) ++ [(true, 1, 18)]).length = L + 9 := gc_len1 ln7
  have hA2 : ∀ q k, q < sh.length → (gc_u (gc_u (gc_u (gc_u (gc_u (gc_u (gc_u (gc_u A L 5 (some (L + 1))) L 6 (some (L + 2))) L 7 (some (L + 3))) L 9 (some (L + 4))) L 10 (some (L + 5))) L 11 (some (L + 6))) L 13 (some (L + 7))) L 15 (some (L + 8))) q k = A q k := fun q k hq => by
    have e : ¬ q = L := by omega
    simp [gc_u, e]
  have hx : gc_ext sh ro A (((((((((sh ++ [(false, 3, 16)]) ++ [(true, 1, 6)]) ++ [(true, 1, 6)]) ++ [(true, 1, 6)]) ++ [(true, 1, 4)]) ++ [(true, 1, 4)]) ++ [(true, 1, 4)]) ++ [(true, 1, 18)]) ++ [(true, 1, 18)]) (fun q => gc_lr sh.length q ro gc_roL) (gc_u (gc_u (gc_u (gc_u (gc_u (gc_u (gc_u (gc_u A L 5 (some (L + 1))) L 6 (some (L + 2))) L 7 (some (L + 3))) L 9 (some (L + 4))) L 10 (some (L + 5))) L 11 (some (L + 6))) L 13 (some (L + 7))) L 15 (some (L + 8))) := ⟨⟨[(false, 3, 16), (true, 1, 6), (true, 1, 6), (true, 1, 6), (true, 1, 4), (true, 1, 4), (true, 1, 4), (true, 1, 18), (true, 1, 18)], by simp only [List.append_assoc, List.cons_append, List.nil_append]⟩, fun q hq => gc_lr_lt hq, fun q k x hs _ => hA2 q k (gc_x_lt hs)⟩
  have hI2 : gc_Inv (fun q => gc_lr sh.length q ro gc_roL) I8 := gc_Inv_lr hI8 ok8.2 gc_roL0
  have R0 : (fun q => gc_lr sh.length q ro gc_roL) (L + 0) = 14 := by
    show gc_lr sh.length (L + 0) ro gc_roL = 14
    rw [← hL, gc_lr_ge]
    rfl
  have R1 : (fun q => gc_lr sh.length q ro gc_roL) (L + 1) = 15 := by
    show gc_lr sh.length (L + 1) ro gc_roL = 15
    rw [← hL, gc_lr_ge]
    rfl
  have R2 : (fun q => gc_lr sh.length q ro gc_roL) (L + 2) = 16 := by
    show gc_lr sh.length (L + 2) ro gc_roL = 16
    rw [← hL, gc_lr_ge]
    rfl
  have R3 : (fun q => gc_lr sh.length q ro gc_roL) (L + 3) = 17 := by
    show gc_lr sh.length (L + 3) ro gc_roL = 17
    rw [← hL, gc_lr_ge]
    rfl
  have R4 : (fun q => gc_lr sh.length q ro gc_roL) (L + 4) = 18 := by
    show gc_lr sh.length (L + 4) ro gc_roL = 18
    rw [← hL, gc_lr_ge]
    rfl
  have R5 : (fun q => gc_lr sh.length q ro gc_roL) (L + 5) = 13 := by
    show gc_lr sh.length (L + 5) ro gc_roL = 13
    rw [← hL, gc_lr_ge]
    rfl
  have R6 : (fun q => gc_lr sh.length q ro gc_roL) (L + 6) = 19 := by
    show gc_lr sh.length (L + 6) ro gc_roL = 19
    rw [← hL, gc_lr_ge]
    rfl
  have R7 : (fun q => gc_lr sh.length q ro gc_roL) (L + 7) = 20 := by
    show gc_lr sh.length (L + 7) ro gc_roL = 20
    rw [← hL, gc_lr_ge]
    rfl
  have R8 : (fun q => gc_lr sh.length q ro gc_roL) (L + 8) = 21 := by
    show gc_lr sh.length (L + 8) ro gc_roL = 21
    rw [← hL, gc_lr_ge]
    rfl
  have hLin : gc_isLin (((((((((sh ++ [(false, 3, 16)]) ++ [(true, 1, 6)]) ++ [(true, 1, 6)]) ++ [(true, 1, 6)]) ++ [(true, 1, 4)]) ++ [(true, 1, 4)]) ++ [(true, 1, 4)]) ++ [(true, 1, 18)]) ++ [(true, 1, 18)]) (fun q => gc_lr sh.length q ro gc_roL) (gc_u (gc_u (gc_u (gc_u (gc_u (gc_u (gc_u (gc_u A L 5 (some (L + 1))) L 6 (some (L + 2))) L 7 (some (L + 3))) L 9 (some (L + 4))) L 10 (some (L + 5))) L 11 (some (L + 6))) L 13 (some (L + 7))) L 15 (some (L + 8))) L := ⟨S8_0, R0, by omega, by simp [gc_u], S8_1, R1, by omega, by simp [gc_u], S8_2, R2, by omega, by simp [gc_u], S8_3, R3, by omega, by simp [gc_u], S8_4, R4, by omega, by simp [gc_u], S8_5, R5, by omega, by simp [gc_u], S8_6, R6, by omega, by simp [gc_u], S8_7, R7, by omega, by simp [gc_u], S8_8, R8, by omega⟩
  have hT := gc_isTongue_x hx h_t
  have St : sh[t + 16]? = some (true, 4, 384) := by obtain ⟨b0, b1, b2, b3, b4, b5, b6, b7, b8, b9, b10, b11, b12, b13, b14, b15, b16, b17, b18, b19, b20, b21, b22, b23, b24, b25, b26, b27, b28, b29, b30, b31, b32, b33, b34, b35, b36, b37, b38, b39, b40, b41, b42, b43, b44⟩ := h_t; exact b40
  have Stl := gc_x_lt St
  have Stt : sh[t]? = some (false, 11, 16) := h_t.1
  have okt : ∀ (I9 : gr_I) (J5 : gr_J), (∀ q j : Nat, ((q = 39 ∧ j = 3) ∨ (q = 39 ∧ j = 4) ∨ (q = 23 ∧ j = 5) ∨ (q = 23 ∧ j = 6) ∨ (q = 23 ∧ j = 7) ∨ (q = 23 ∧ j = 8) ∨ (q = 1 ∧ j = 17) ∨ (q = 1 ∧ j = 18) ∨ q = 20 ∨ (q = L ∧ j = 0) ∨ (q = L ∧ j = 1) ∨ (q = L ∧ j = 2) ∨ (q = L ∧ j = 3) ∨ (q = L ∧ j = 4) ∨ (q = L ∧ j = 8) ∨ (q = L ∧ j = 12) ∨ (q = L ∧ j = 14) ∨ q = (L + 1) ∨ q = (L + 2) ∨ q = (L + 3) ∨ q = (L + 4) ∨ q = (L + 5) ∨ q = (L + 6) ∨ q = (L + 7) ∨ q = (L + 8) ∨ (q = 39 ∧ j = 6) ∨ (q = 39 ∧ j = 7) ∨ (q = t ∧ j = 13)) ∨ I9 q j = I8 q j) → (∀ q j : Nat, ((q = 23 ∧ j = 9)) ∨ J5 q j = J9 q j) → gc_OK (((((((((sh ++ [(false, 3, 16)]) ++ [(true, 1, 6)]) ++ [(true, 1, 6)]) ++ [(true, 1, 6)]) ++ [(true, 1, 4)]) ++ [(true, 1, 4)]) ++ [(true, 1, 4)]) ++ [(true, 1, 18)]) ++ [(true, 1, 18)]) I9 J5 (gc_u (gc_u (gc_u (gc_u (gc_u (gc_u (gc_u (gc_u A L 5 (some (L + 1))) L 6 (some (L + 2))) L 7 (some (L + 3))) L 9 (some (L + 4))) L 10 (some (L + 5))) L 11 (some (L + 6))) L 13 (some (L + 7))) L 15 (some (L + 8))) := fun I9 J5 f g => gc_OK_fr okA (fun q j => (f q j).imp (fun h => by
      rcases h with ⟨rfl, rfl⟩ | ⟨rfl, rfl⟩ | ⟨rfl, rfl⟩ | ⟨rfl, rfl⟩ | ⟨rfl, rfl⟩ | ⟨rfl, rfl⟩ | ⟨rfl, rfl⟩ | ⟨rfl, rfl⟩ | rfl | ⟨rfl, rfl⟩ | ⟨rfl, rfl⟩ | ⟨rfl, rfl⟩ | ⟨rfl, rfl⟩ | ⟨rfl, rfl⟩ | ⟨rfl, rfl⟩ | ⟨rfl, rfl⟩ | ⟨rfl, rfl⟩ | rfl | rfl | rfl | rfl | rfl | rfl | rfl | rfl | ⟨rfl, rfl⟩ | ⟨rfl, rfl⟩ | ⟨rfl, rfl⟩
      · exact ⟨by omega, gc_tyx (gc_x_sh hx (gc_bS hb (p := 39) rfl))⟩
      · exact ⟨by omega, gc_tyx (gc_x_sh hx (gc_bS hb (p := 39) rfl))⟩
      · exact ⟨by omega, gc_tyx (gc_x_sh hx (gc_bS hb (p := 23) rfl))⟩
      · exact ⟨by omega, gc_tyx (gc_x_sh hx (gc_bS hb (p := 23) rfl))⟩
      · exact ⟨by omega, gc_tyx (gc_x_sh hx (gc_bS hb (p := 23) rfl))⟩
      · exact ⟨by omega, gc_tyx (gc_x_sh hx (gc_bS hb (p := 23) rfl))⟩
      · exact ⟨by omega, gc_tyx (gc_x_sh hx (gc_bS hb (p := 1) rfl))⟩
      · exact ⟨by omega, gc_tyx (gc_x_sh hx (gc_bS hb (p := 1) rfl))⟩
      · exact ⟨by omega, gc_tyx (gc_x_sh hx (gc_bS hb (p := 20) rfl))⟩
      · exact ⟨by omega, gc_tyx S8_0⟩
      · exact ⟨by omega, gc_tyx S8_0⟩
      · exact ⟨by omega, gc_tyx S8_0⟩
      · exact ⟨by omega, gc_tyx S8_0⟩
      · exact ⟨by omega, gc_tyx S8_0⟩
      · exact ⟨by omega, gc_tyx S8_0⟩
      · exact ⟨by omega, gc_tyx S8_0⟩
      · exact ⟨by omega, gc_tyx S8_0⟩
      · exact ⟨by omega, gc_tyx S8_1⟩
      · exact ⟨by omega, gc_tyx S8_2⟩
      · exact ⟨by omega, gc_tyx S8_3⟩
      · exact ⟨by omega, gc_tyx S8_4⟩
      · exact ⟨by omega, gc_tyx S8_5⟩
      · exact ⟨by omega, gc_tyx S8_6⟩
      · exact ⟨by omega, gc_tyx S8_7⟩
      · exact ⟨by omega, gc_tyx S8_8⟩
      · exact ⟨by omega, gc_tyx (gc_x_sh hx (gc_bS hb (p := 39) rfl))⟩
      · exact ⟨by omega, gc_tyx (gc_x_sh hx (gc_bS hb (p := 39) rfl))⟩
      · exact ⟨by omega, gc_tyx (gc_x_sh hx Stt)⟩
      ) id) (fun q j => (g q j).imp (fun h => by omega) id)
  have frt : ∀ (I9 : gr_I), (∀ q j : Nat, ((q = 39 ∧ j = 3) ∨ (q = 39 ∧ j = 4) ∨ (q = 23 ∧ j = 5) ∨ (q = 23 ∧ j = 6) ∨ (q = 23 ∧ j = 7) ∨ (q = 23 ∧ j = 8) ∨ (q = 1 ∧ j = 17) ∨ (q = 1 ∧ j = 18) ∨ q = 20 ∨ (q = L ∧ j = 0) ∨ (q = L ∧ j = 1) ∨ (q = L ∧ j = 2) ∨ (q = L ∧ j = 3) ∨ (q = L ∧ j = 4) ∨ (q = L ∧ j = 8) ∨ (q = L ∧ j = 12) ∨ (q = L ∧ j = 14) ∨ q = (L + 1) ∨ q = (L + 2) ∨ q = (L + 3) ∨ q = (L + 4) ∨ q = (L + 5) ∨ q = (L + 6) ∨ q = (L + 7) ∨ q = (L + 8) ∨ (q = 39 ∧ j = 6) ∨ (q = 39 ∧ j = 7) ∨ (q = t ∧ j = 13)) ∨ I9 q j = I8 q j) → ∀ q j : Nat, q < sh.length → ((q = 39 ∧ j = 3) ∨ (q = 39 ∧ j = 4) ∨ (q = 23 ∧ j = 5) ∨ (q = 23 ∧ j = 6) ∨ (q = 23 ∧ j = 7) ∨ (q = 23 ∧ j = 8) ∨ (q = 1 ∧ j = 17) ∨ (q = 1 ∧ j = 18) ∨ q = 20 ∨ (q = 39 ∧ j = 6) ∨ (q = 39 ∧ j = 7) ∨ (q = t ∧ j = 13)) ∨ I9 q j = I q j := fun I9 f q j hq => by
    rcases f q j with h | h
    · left
      rcases h with ⟨rfl, rfl⟩ | ⟨rfl, rfl⟩ | ⟨rfl, rfl⟩ | ⟨rfl, rfl⟩ | ⟨rfl, rfl⟩ | ⟨rfl, rfl⟩ | ⟨rfl, rfl⟩ | ⟨rfl, rfl⟩ | rfl | ⟨rfl, rfl⟩ | ⟨rfl, rfl⟩ | ⟨rfl, rfl⟩ | ⟨rfl, rfl⟩ | ⟨rfl, rfl⟩ | ⟨rfl, rfl⟩ | ⟨rfl, rfl⟩ | ⟨rfl, rfl⟩ | rfl | rfl | rfl | rfl | rfl | rfl | rfl | rfl | ⟨rfl, rfl⟩ | ⟨rfl, rfl⟩ | ⟨rfl, rfl⟩
      · exact (Or.inl ⟨rfl, rfl⟩)
      · exact (Or.inr (Or.inl ⟨rfl, rfl⟩))
      · exact (Or.inr (Or.inr (Or.inl ⟨rfl, rfl⟩)))
      · exact (Or.inr (Or.inr (Or.inr (Or.inl ⟨rfl, rfl⟩))))
      · exact (Or.inr (Or.inr (Or.inr (Or.inr (Or.inl ⟨rfl, rfl⟩)))))
      · exact (Or.inr (Or.inr (Or.inr (Or.inr (Or.inr (Or.inl ⟨rfl, rfl⟩))))))
      · exact (Or.inr (Or.inr (Or.inr (Or.inr (Or.inr (Or.inr (Or.inl ⟨rfl, rfl⟩)))))))
      · exact (Or.inr (Or.inr (Or.inr (Or.inr (Or.inr (Or.inr (Or.inr (Or.inl ⟨rfl, rfl⟩))))))))
      · exact (Or.inr (Or.inr (Or.inr (Or.inr (Or.inr (Or.inr (Or.inr (Or.inr (Or.inl rfl)))))))))
      · exact absurd hq (by omega)
      · exact absurd hq (by omega)
      · exact absurd hq (by omega)
      · exact absurd hq (by omega)
      · exact absurd hq (by omega)
      · exact absurd hq (by omega)
      · exact absurd hq (by omega)
      · exact absurd hq (by omega)
      · exact absurd hq (by omega)
      · exact absurd hq (by omega)
      · exact absurd hq (by omega)
      · exact absurd hq (by omega)
      · exact absurd hq (by omega)
      · exact absurd hq (by omega)
      · exact absurd hq (by omega)
      · exact absurd hq (by omega)
      · exact (Or.inr (Or.inr (Or.inr (Or.inr (Or.inr (Or.inr (Or.inr (Or.inr (Or.inr (Or.inl ⟨rfl, rfl⟩))))))))))
      · exact (Or.inr (Or.inr (Or.inr (Or.inr (Or.inr (Or.inr (Or.inr (Or.inr (Or.inr (Or.inr (Or.inl ⟨rfl, rfl⟩)))))))))))
      · exact (Or.inr (Or.inr (Or.inr (Or.inr (Or.inr (Or.inr (Or.inr (Or.inr (Or.inr (Or.inr (Or.inr ⟨rfl, rfl⟩)))))))))))
    · rcases F8 q j with h2 | h2
      · exact Or.inl (injH q j h2)
      · exact Or.inr (h.trans h2)
  have frj : ∀ (J5 : gr_J), (∀ q j : Nat, ((q = 23 ∧ j = 9)) ∨ J5 q j = J9 q j) → ∀ q j : Nat, q < sh.length → ((q = 23 ∧ j = 9)) ∨ J5 q j = J q j := fun J5 f q j hq => by
    rcases f q j with h | h
    · exact Or.inl h
    · rcases F9 q j with h2 | h2
      · exact Or.inl h2
      · exact Or.inr (h.trans h2)
  have t13 : I8 t 13 = I t 13 := (F8 t 13).resolve_left (by omega)
  have Ls8 : gc_Ls (((((((((sh ++ [(false, 3, 16)]) ++ [(true, 1, 6)]) ++ [(true, 1, 6)]) ++ [(true, 1, 6)]) ++ [(true, 1, 4)]) ++ [(true, 1, 4)]) ++ [(true, 1, 4)]) ++ [(true, 1, 18)]) ++ [(true, 1, 18)]) (fun q => gc_lr sh.length q ro gc_roL) (gc_u (gc_u (gc_u (gc_u (gc_u (gc_u (gc_u (gc_u A L 5 (some (L + 1))) L 6 (some (L + 2))) L 7 (some (L + 3))) L 9 (some (L + 4))) L 10 (some (L + 5))) L 11 (some (L + 6))) L 13 (some (L + 7))) L 15 (some (L + 8))) t I8 := gc_Ls_x hx (gc_Ls_fr x1 t13 (fun q _ hq d k _ => (F8 (q + d) k).resolve_left (by omega))) (fun i _ => hA2 (t + 16) i Stl)
  have LsL : ∀ i q : Nat, (i : Int) < I8 t 13 → (gc_u (gc_u (gc_u (gc_u (gc_u (gc_u (gc_u (gc_u A L 5 (some (L + 1))) L 6 (some (L + 2))) L 7 (some (L + 3))) L 9 (some (L + 4))) L 10 (some (L + 5))) L 11 (some (L + 6))) L 13 (some (L + 7))) L 15 (some (L + 8))) (t + 16) i = some q → q + 9 ≤ L := fun i q hi hA => by
    rw [hA2 (t + 16) i Stl] at hA
    obtain ⟨q9, b1, b2, b3, _, _⟩ := x1 i (by omega)
    cases b1.symm.trans hA
    have b8 := gc_x_lt (gc_linS8 b2)
    omega
  have LS8 : gs_LS Ir I8 (gc_u (gc_u (gc_u (gc_u (gc_u (gc_u (gc_u (gc_u A L 5 (some (L + 1))) L 6 (some (L + 2))) L 7 (some (L + 3))) L 9 (some (L + 4))) L 10 (some (L + 5))) L 11 (some (L + 6))) L 13 (some (L + 7))) L 15 (some (L + 8))) t := fun i q hi hA => by
    rw [hA2 (t + 16) i Stl] at hA
    obtain ⟨q9, b1, b2, b3, _, _⟩ := x1 i (by omega)
    have e9 : q9 = q := Option.some.inj (b1.symm.trans hA)
    rw [← e9]
    exact ((F8 q9 1).resolve_left (by omega)).trans (y3.1.2.2 i q9 (by omega) b1)
  have y8 : gs_LP Ir Jr I8 J9 (gc_u (gc_u (gc_u (gc_u (gc_u (gc_u (gc_u (gc_u A L 5 (some (L + 1))) L 6 (some (L + 2))) L 7 (some (L + 3))) L 9 (some (L + 4))) L 10 (some (L + 5))) L 11 (some (L + 6))) L 13 (some (L + 7))) L 15 (some (L + 8))) t := gs_LP_fr y3 (fun k => (F8 11 k).resolve_left (by omega)) (fun k => (F8 12 k).resolve_left (by omega)) (fun k => (F8 13 k).resolve_left (by omega)) ((F8 4 1).resolve_left (by omega)) t13 ((F8 (t + 1) 1).resolve_left (by omega)) ((F8 (t + 3) 1).resolve_left (by omega)) (fun k => (F8 (t + 5) k).resolve_left (by omega)) (fun k => (F8 (t + 6) k).resolve_left (by omega)) (fun k => (F9 5 k).resolve_left (by omega)) (fun k => (F9 (t + 2) k).resolve_left (by omega)) (fun k => (F9 (t + 4) k).resolve_left (by omega)) LS8
  have e395 : I8 39 5 = I 39 5 := (F8 39 5).resolve_left (by omega)
  refine gv_YofX (d_X6_readLin_t_p hws htb (((((((((sh ++ [(false, 3, 16)]) ++ [(true, 1, 6)]) ++ [(true, 1, 6)]) ++ [(true, 1, 6)]) ++ [(true, 1, 4)]) ++ [(true, 1, 4)]) ++ [(true, 1, 4)]) ++ [(true, 1, 18)]) ++ [(true, 1, 18)]) (fun q => gc_lr sh.length q ro gc_roL) I8 J9 (gc_u (gc_u (gc_u (gc_u (gc_u (gc_u (gc_u (gc_u A L 5 (some (L + 1))) L 6 (some (L + 2))) L 7 (some (L + 3))) L 9 (some (L + 4))) L 10 (some (L + 5))) L 11 (some (L + 6))) L 13 (some (L + 7))) L 15 (some (L + 8))) hI2 t B β η p9 Ir Jr v1 L (gc_Base_x hx hb) hLin (by omega) hT G_t m0 m5 m1 m2 (ok8.2 L (by omega) 4).1 (ok8.2 L (by omega) 8).1 (ok8.2 L (by omega) 12).1 (ok8.2 L (by omega) 14).1 Ls8 LsL mA y2 (m18.trans y4) mv y8.1.1 y8.1.2.1 y8.1.2.2 y8.2.1.1 y8.2.1.2 y8.2.2.1.1 y8.2.2.1.2 y8.2.2.2.1.1 y8.2.2.2.1.2 y8.2.2.2.2.1.1 y8.2.2.2.2.1.2 y8.2.2.2.2.2 (((F8 39 2).resolve_left (by omega)).trans x2) k1 k2 (fun v h => ?_) (fun I6 J7 s1 hI6 F6 F7 k3 k4 k5 kQ mm li un lc => ?_))
  · obtain ⟨r, hf, hs9, Iₚ, Jₚ, e1, e2, e3, e4, e5, e6, z, rfl, z0, z1, p0, p1, p2, p3, p4, pk, p5⟩ := h
    rw [e395] at p5
    exact gv_Yend ⟨z, (((((((((sh ++ [(false, 3, 16)]) ++ [(true, 1, 6)]) ++ [(true, 1, 6)]) ++ [(true, 1, 6)]) ++ [(true, 1, 4)]) ++ [(true, 1, 4)]) ++ [(true, 1, 4)]) ++ [(true, 1, 18)]) ++ [(true, 1, 18)]), (fun q => gc_lr sh.length q ro gc_roL), Iₚ, Jₚ, (gc_u (gc_u (gc_u (gc_u (gc_u (gc_u (gc_u (gc_u A L 5 (some (L + 1))) L 6 (some (L + 2))) L 7 (some (L + 3))) L 9 (some (L + 4))) L 10 (some (L + 5))) L 11 (some (L + 6))) L 13 (some (L + 7))) L 15 (some (L + 8))), hf, hs9, e1, ⟨⟨z0, z1⟩, ⟨by decide, by decide⟩, by omega, hx, e2, okt Iₚ Jₚ e3 e4, e5, e6, frt Iₚ e3, frj Jₚ e4, ⟨by omega, by omega, by omega⟩, Or.inl ⟨p3, by omega, hA2⟩⟩, ⟨fun _ => p5, fun h9 => absurd h9 (by omega), gc_PKs_tr kP pk⟩⟩
  obtain ⟨n0, n1, n2, n3, n4, n5, n6, n7, nF, n18, nC, n8, n9, n10, n11⟩ := mm
  rw [e395] at lc
  refine gv_Xz ?_
  have Stx := gc_x_sh hx St
  refine gc_Yaas hD rfl Stx S8_0 ⟨by omega, by omega, by decide⟩ ⟨by omega, by omega⟩ ?_
  refine gv_lift (fun hk => gv_run 1 true hD (pcₚ := 340) (lvₚ := []) (stₚ := [.inl 1]) (hₚ := gc_h (((((((((sh ++ [(false, 3, 16)]) ++ [(true, 1, 6)]) ++ [(true, 1, 6)]) ++ [(true, 1, 6)]) ++ [(true, 1, 4)]) ++ [(true, 1, 4)]) ++ [(true, 1, 4)]) ++ [(true, 1, 18)]) ++ [(true, 1, 18)]) I6 J7 (gc_u (gc_u (gc_u (gc_u (gc_u (gc_u (gc_u (gc_u (gc_u A L 5 (some (L + 1))) L 6 (some (L + 2))) L 7 (some (L + 3))) L 9 (some (L + 4))) L 10 (some (L + 5))) L 11 (some (L + 6))) L 13 (some (L + 7))) L 15 (some (L + 8))) (t + 16) (Int.toNat s1) (some L))) (C := (True ∧ True)) rfl ⟨trivial, trivial⟩ hk) ?_
  have hx3 : gc_ext (((((((((sh ++ [(false, 3, 16)]) ++ [(true, 1, 6)]) ++ [(true, 1, 6)]) ++ [(true, 1, 6)]) ++ [(true, 1, 4)]) ++ [(true, 1, 4)]) ++ [(true, 1, 4)]) ++ [(true, 1, 18)]) ++ [(true, 1, 18)]) (fun q => gc_lr sh.length q ro gc_roL) (gc_u (gc_u (gc_u (gc_u (gc_u (gc_u (gc_u (gc_u A L 5 (some (L + 1))) L 6 (some (L + 2))) L 7 (some (L + 3))) L 9 (some (L + 4))) L 10 (some (L + 5))) L 11 (some (L + 6))) L 13 (some (L + 7))) L 15 (some (L + 8))) (((((((((sh ++ [(false, 3, 16)]) ++ [(true, 1, 6)]) ++ [(true, 1, 6)]) ++ [(true, 1, 6)]) ++ [(true, 1, 4)]) ++ [(true, 1, 4)]) ++ [(true, 1, 4)]) ++ [(true, 1, 18)]) ++ [(true, 1, 18)]) (fun q => gc_lr sh.length q ro gc_roL) (gc_u (gc_u (gc_u (gc_u (gc_u (gc_u (gc_u (gc_u (gc_u A L 5 (some (L + 1))) L 6 (some (L + 2))) L 7 (some (L + 3))) L 9 (some (L + 4))) L 10 (some (L + 5))) L 11 (some (L + 6))) L 13 (some (L + 7))) L 15 (some (L + 8))) (t + 16) (Int.toNat s1) (some L)) := ⟨⟨[], (List.append_nil _).symm⟩, fun _ _ => rfl, fun q k x hs h4 => by
      have e : ¬ q = t + 16 := fun h9 => by
          subst h9
          rw [Stx] at hs
          cases hs
          cases h4
      unfold gc_u
      rw [if_neg e]⟩
  have s1e : Int.toNat s1 = Int.toNat (I t 13) := by omega
  refine gv_Yend ⟨1, (((((((((sh ++ [(false, 3, 16)]) ++ [(true, 1, 6)]) ++ [(true, 1, 6)]) ++ [(true, 1, 6)]) ++ [(true, 1, 4)]) ++ [(true, 1, 4)]) ++ [(true, 1, 4)]) ++ [(true, 1, 18)]) ++ [(true, 1, 18)]), (fun q => gc_lr sh.length q ro gc_roL), I6, J7, (gc_u (gc_u (gc_u (gc_u (gc_u (gc_u (gc_u (gc_u (gc_u A L 5 (some (L + 1))) L 6 (some (L + 2))) L 7 (some (L + 3))) L 9 (some (L + 4))) L 10 (some (L + 5))) L 11 (some (L + 6))) L 13 (some (L + 7))) L 15 (some (L + 8))) (t + 16) (Int.toNat s1) (some L)), Or.inr (Or.inl ⟨1, .boolean, hD 340 _ rfl, rfl, Or.inr ⟨rfl, Or.inr rfl⟩, rfl, rfl⟩), rfl, rfl, ⟨⟨by decide, by decide⟩, ⟨by decide, by decide⟩, by omega, gc_x_trans hx hx3, hI6, gc_OKu (okt I6 J7 F6 F7) Stx rfl (by omega), k3, k4, frt I6 F6, frj J7 F7, ⟨by omega, by omega, by omega⟩, Or.inr ⟨rfl, by omega, by omega, fun q k hq hne => ?_, L, by omega, by omega, ?_, gc_isLin_x hx3 hLin, li, k5, un, by omega, by omega, by omega, by omega, by omega⟩⟩, ⟨fun h9 => absurd h9 (by decide), fun _ => ⟨lc, n18, fun L9 h9 => ?_, nC⟩, gc_PKs_tr kP kQ⟩⟩
  · rw [← s1e] at hne
    have e : (gc_u (gc_u (gc_u (gc_u (gc_u (gc_u (gc_u (gc_u (gc_u A L 5 (some (L + 1))) L 6 (some (L + 2))) L 7 (some (L + 3))) L 9 (some (L + 4))) L 10 (some (L + 5))) L 11 (some (L + 6))) L 13 (some (L + 7))) L 15 (some (L + 8))) (t + 16) (Int.toNat s1) (some L)) q k = (gc_u (gc_u (gc_u (gc_u (gc_u (gc_u (gc_u (gc_u A L 5 (some (L + 1))) L 6 (some (L + 2))) L 7 (some (L + 3))) L 9 (some (L + 4))) L 10 (some (L + 5))) L 11 (some (L + 6))) L 13 (some (L + 7))) L 15 (some (L + 8))) q k := by
      unfold gc_u
      by_cases h1 : q = t + 16
      · rw [if_pos h1, if_neg (fun h2 => hne ⟨h1, h2⟩)]
      · rw [if_neg h1]
    rw [e]
    exact hA2 q k hq
  · rw [← s1e]
    simp [gc_u]
  · rw [← s1e] at h9
    have e9 : L = L9 := by
      simp [gc_u] at h9
      exact h9
    rw [← e9]
    exact nF
