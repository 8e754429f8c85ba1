/-! Finder.collect: a sentence is kept in a row of its own. -/
theorem gh_Mc2 : (parseMethodDescriptor gj_Mc.1.desc).map (fun d => d.parameters.length) = some 2 := by decide +kernel
theorem gc_YcallS {E : gv_E} {Q : gz_S → Nat → Nat → Prop} {pc ix a s : Nat} {M : gx_M} {As st stk : List gz_V} {lv : List (Nat × gz_V)} {sh shₚ : gz_Sh} {h hₚ : gz_H} {res : Option gz_V} (hD : gv_D E) (hi : E.2.2.2.2.2.2 pc = some (.invokestatic ix)) (hk : stk = As.reverse ++ st) (hl : gx_lS E.1 E.2.1 ix M As.length) (h8 : (st.map gz_c).sum ≤ 8) (hK : E.2.2.2.2.2.1 M As sh h res shₚ hₚ a s) (hlv : ∀ q ∈ lv, gz_okv sh.length q.2) (hst : ∀ q ∈ st, gz_okv sh.length q) (kk : gv_Y E (fun v a' s' => Q v (a + a') (s + s')) (pc + 3, lv, res.toList ++ st, shₚ, hₚ)) : gv_Y E Q (pc, lv, stk, sh, h) :=
  gv_Yone (u' := (pc + 3, lv, res.toList ++ st, shₚ, hₚ)) (a := a) (s := s) (Or.inr (Or.inr (Or.inr (Or.inl ⟨ix, M, As, st, res, hD pc _ hi, hk, hl, h8, hK, Or.inr ⟨hlv, hst⟩, rfl, rfl, rfl⟩)))) kk
theorem gc_Yaas6 {E : gv_E} {Q : gz_S → Nat → Nat → Prop} {pc i w n m : Nat} {j : Int} {lv : List (Nat × gz_V)} {st : List gz_V} {sh : gz_Sh} {I : gr_I} {J : gr_J} {A : gc_A} (hD : gv_D E) (hi : E.2.2.2.2.2.2 pc = some .aastore) (hs : sh[i]? = some (true, 6, n)) (hw : sh[w]? = some (true, 0, m)) (hb : i < 1000000 ∧ w < 1000000 ∧ n < 2147483648) (hj : 0 ≤ j ∧ j < (n : Int)) (kk : gv_Y E Q (pc + 1, lv, st, sh, gc_h sh I J (gc_u A i (Int.toNat j) (some w)))) : gv_Y E Q (pc, lv, .inr (.inr (some w)) :: .inl j :: .inr (.inr (some i)) :: st, sh, gc_h sh I J A) := by
  refine gv_Yone (u' := (pc + 1, lv, st, sh, gz_up (gc_h sh I J A) i (Int.toNat j) (.inr (.inr (some w))))) (a := 0) (s := 0) (Or.inr (Or.inr (Or.inr (Or.inr (Or.inr (Or.inr (Or.inr (Or.inr (Or.inl (Or.inr (Or.inr (Or.inr (Or.inl ⟨i, w, 6, n, m, j, st, hD pc _ hi, rfl, hb.1, hb.2.1, hs, hb.2.2, hj.1, hj.2, Or.inr (Or.inr ⟨rfl, hw⟩), rfl, rfl, rfl⟩))))))))))))) ?_
  rw [gc_hUA hs rfl]
  obtain ⟨n9, v, a, s, g, q⟩ := kk
  exact ⟨n9, v, a, s, g, (show Q v (0 + a) (0 + s) from by rw [Nat.zero_add, Nat.zero_add]; exact q)⟩
def gh_CO (sh : gz_Sh) (ro : Nat → Nat) (I : gr_I) (A : gc_A) (n : Nat) (shₚ : gz_Sh) (ro' : Nat → Nat) (Iₚ : gr_I) (Aₚ : gc_A) : Prop := shₚ = sh ++ [(true, 0, n)] ∧ n ≤ 1000 ∧ gc_ext sh ro A shₚ ro' Aₚ ∧ gc_Inv ro' Iₚ ∧ (∀ q j : Nat, ¬ q = sh.length → (q = 105 ∨ (q = 100 ∧ j = 9)) ∨ Iₚ q j = I q j) ∧ Iₚ 100 9 = I 100 9 + 1 ∧ gc_SN shₚ ro' Aₚ Iₚ ∧ (∀ q k : Nat, ¬ q = 104 → Aₚ q k = A q k)
set_option maxHeartbeats 4000000 in
theorem e_X1_collect {ws0 : List Cond} {tb : String → gz_T} (hc : gc_Wc ws0) (hws : gc_Ws ws0) (htb : gc_tbs tb) (sh : gz_Sh) (ro : Nat → Nat) (I : gr_I) (J : gr_J) (A : gc_A) (hI : gc_Inv ro I) (a1 : Int) (hb : gc_Base sh ro A) (ha1 : 0 ≤ a1 ∧ a1 ≤ 7) (x0 : I 100 9 ≤ 99) (hSN : gc_SN sh ro A I) (hok : gc_OK sh I J A) (hlen : sh.length + 1 ≤ 1000000) : ∃ (z : Int) (n : Nat) (shₚ : gz_Sh) (ro' : Nat → Nat) (Iₚ : gr_I) (Jₚ : gr_J) (Aₚ : gc_A), gz_Ev ws0 tb 3 (yX1_collect, cX1_collect, 3, (some .int)) [.inr (.inr (some 100)), .inl a1, .inr (.inr (some 23))] sh (gc_h sh I J A) (some (.inl z)) shₚ (gc_h shₚ Iₚ Jₚ Aₚ) 1 n ∧ gh_CO sh ro I A n shₚ ro' Iₚ Aₚ ∧ gc_OK shₚ Iₚ Jₚ Aₚ ∧ (0 ≤ z ∧ z ≤ 100) ∧ ∀ q j : Nat, Jₚ q j = J q j := by
  have h144 := gc_Base_len hb
  have hD : gv_D (gc_E1 ws0 tb 2 (yX1_collect, cX1_collect, 3, (some .int)) kX1_collect) := gq_of oX1_collect
  have S104 : sh[104]? = some (true, 6, 100) := gc_bS_104 hb
  have S24 : sh[24]? = some (true, 0, 1000) := gc_bS_24 hb
  have i9 : 0 ≤ I 100 9 ∧ I 100 9 ≤ 100 := gc_in hI (gc_bR hb (by decide) rfl) rfl rfl
  have i1 : 0 ≤ I 23 1 ∧ I 23 1 ≤ 1000 := gc_in hI (gc_bR hb (by decide) rfl) rfl rfl
  obtain ⟨n, hn⟩ : ∃ n : Nat, I 23 1 = (n : Int) := ⟨Int.toNat (I 23 1), by omega⟩
  obtain ⟨I1, EV, f1, f2, ok1⟩ := e_copyOf (tb := tb) hc (J := J) (A := A) (i := 24) (m := 1000) (n := n) hI S24 (gc_bR hb (by decide) rfl) (by decide) (by decide) (by omega) (by omega) hok
  obtain ⟨L, hL⟩ : ∃ L, sh.length = L := ⟨_, rfl⟩
  have SL : (sh ++ [(true, 0, n)])[L]? = some (true, 0, n) := gc_gl hL.symm
  have S104b : (sh ++ [(true, 0, n)])[104]? = some (true, 6, 100) := gc_gx S104
  have hI1 : gc_Inv (fun q => gc_lr sh.length q ro [1]) I1 := fun q k => by
    by_cases e : q < sh.length
    · show gc_lo (gc_lr sh.length q ro [1]) k ≤ I1 q k ∧ I1 q k ≤ gc_hi (gc_lr sh.length q ro [1]) k
      rw [gc_lr_lt e, f1 q k (by omega)]
      exact hI q k
    · show gc_lo (gc_lr sh.length q ro [1]) k ≤ I1 q k ∧ I1 q k ≤ gc_hi (gc_lr sh.length q ro [1]) k
      obtain ⟨d, rfl⟩ : ∃ d, q = sh.length + d := ⟨q - sh.length, by omega⟩
      rw [gc_lr_ge]
      match d with
      | 0 => exact f2 k
      | d + 1 =>
        rw [f1 _ k (by omega), (hok.2 (sh.length + (d + 1)) (by omega) k).1]
        exact gc_z0 k
  have RL : (fun q => gc_lr sh.length q ro [1]) L = 1 := by
    show gc_lr sh.length L ro [1] = 1
    rw [← hL]
    exact gc_lr_ge (d := 0)
  have hx1 : gc_ext sh ro A (sh ++ [(true, 0, n)]) (fun q => gc_lr sh.length q ro [1]) A := ⟨⟨_, rfl⟩, fun q hq => gc_lr_lt hq, fun q k x _ _ => rfl⟩
  have hx2 : gc_ext (sh ++ [(true, 0, n)]) (fun q => gc_lr sh.length q ro [1]) A (sh ++ [(true, 0, n)]) (fun q => gc_lr sh.length q ro [1]) (gc_u A 104 (Int.toNat (I 100 9)) (some L)) := ⟨⟨[], (List.append_nil _).symm⟩, fun _ _ => rfl, fun q k x hs h4 => by
    have e : ¬ q = 104 := fun h9 => by
      subst h9
      rw [S104b] at hs
      cases hs
      cases h4
    unfold gc_u
    rw [if_neg e]⟩
  have hx := gc_x_trans hx1 hx2
  have hb2 := gc_Base_x hx hb
  have ok2 : gc_OK (sh ++ [(true, 0, n)]) I1 J (gc_u A 104 (Int.toNat (I 100 9)) (some L)) := gc_OKu ok1 S104b rfl (gc_x_lt SL)
  have e9 : I1 100 9 = I 100 9 := f1 100 9 (by omega)
  suffices hY : gv_Y (gc_E1 ws0 tb 2 (yX1_collect, cX1_collect, 3, (some .int)) kX1_collect) (fun v a s => ∃ (z : Int) (Iₚ : gr_I) (Jₚ : gr_J), gz_fin cX1_collect (some .int) v (some (.inl z)) ∧ v.2.2.2.1 = sh ++ [(true, 0, n)] ∧ v.2.2.2.2 = gc_h (sh ++ [(true, 0, n)]) Iₚ Jₚ (gc_u A 104 (Int.toNat (I 100 9)) (some L)) ∧ (a = 1 ∧ s = n) ∧ gc_Inv (fun q => gc_lr sh.length q ro [1]) Iₚ ∧ (∀ q j : Nat, (q = 105 ∨ (q = 100 ∧ j = 9)) ∨ Iₚ q j = I1 q j) ∧ (∀ q j : Nat, False ∨ Jₚ q j = J q j) ∧ (0 ≤ z ∧ z ≤ 100) ∧ Iₚ 100 9 = I1 100 9 + 1) (0, [(0, .inr (.inr (some 100))), (1, .inl a1), (2, .inr (.inr (some 23)))], [], sh, gc_h sh I J A) by
    obtain ⟨k, v, a, s, h1, z, Iₚ, Jₚ, h2, h3, h4, ⟨ea, es⟩, h5, h6, h7, h8, h9⟩ := hY
    have ea := ea.symm
    have es := es.symm
    subst ea
    subst es
    refine ⟨z, n, _, _, Iₚ, Jₚ, _, Or.inr (Or.inr ⟨by decide, Nat.le_of_ble_eq_true rfl, k, v, ?_, h2, h3, h4⟩), ⟨rfl, by omega, hx, h5, fun q j hq => (h6 q j).imp id (fun h => h.trans (f1 q j hq)), by omega, fun i hi => ?_, fun q k hq => ?_⟩, gc_OK_fr ok2 (fun q j => (h6 q j).imp (fun h => ?_) id) (fun q j => (h7 q j).imp (fun h => h.elim) id), h8, fun q j => (h7 q j).resolve_left id⟩
    · show gz_to (gz_do ws0 RX1 (tb RX1) cX1_collect 3 (gz_Ev ws0 tb 2)) k _ v 1 n
      rw [gc_tb1 htb]
      exact h1
    · by_cases e : (i : Int) < I 100 9
      · obtain ⟨q, m, s1, s2, s3, s4, s5, s6⟩ := hSN i e
        refine ⟨q, m, ?_, gc_x_sh hx s2, gc_x_ro hx s2 s3, s4, s5, s6⟩
        unfold gc_u
        rw [if_pos rfl, if_neg (by omega)]
        exact s1
      · have ei : i = Int.toNat (I 100 9) := by omega
        subst ei
        exact ⟨L, n, by simp [gc_u], SL, RL, by omega, by omega, by omega⟩
    · unfold gc_u
      rw [if_neg hq]
    · rcases h with rfl | ⟨rfl, rfl⟩
      · exact ⟨by rw [List.length_append]; omega, gc_tyx (gc_bS hb2 (p := 105) rfl)⟩
      · exact ⟨by rw [List.length_append]; omega, gc_tyx (gc_bS hb2 (p := 100) rfl)⟩
  refine gv_YofX (d_X1_collect_h hws htb sh ro I J A hI a1 23 hb (gc_b23 hb) ha1 x0 (fun s1 s3 m => ?_))
  obtain ⟨m0, m1, m2, m3, m4⟩ := m
  have m5 : s3 = (n : Int) := by omega
  subst m5
  subst m3
  refine gv_Xz ?_
  refine gc_YcallS hD (ix := 161) (M := gj_Mc) (As := [.inr (.inr (some 24)), .inl (n : Int)]) (st := [.inl (I 100 9), .inr (.inr (some 104))]) rfl rfl ⟨gc_Wc_at hc 0 rfl, gc_Wc_at hc 1 rfl, gc_Wc_at hc 2 rfl, gc_Wc_at hc 3 rfl, ⟨by decide +kernel, by decide +kernel, gh_Mc2⟩, Nat.le_of_ble_eq_true rfl⟩ (Nat.le_of_ble_eq_true rfl) EV (gc_okc (Or.inl (by omega)) (gc_okc trivial (gc_okc (Or.inl (by omega)) gc_ok0))) (gc_oks trivial (gc_oks (Or.inl (by omega)) gc_ok0)) ?_
  show gv_Y _ _ (28, [(0, .inr (.inr (some 100))), (1, .inl a1), (2, .inr (.inr (some 23)))], [.inr (.inr (some sh.length)), .inl (I 100 9), .inr (.inr (some 104))], sh ++ [(true, 0, n)], gc_h (sh ++ [(true, 0, n)]) I1 J A)
  rw [hL]
  refine gc_Yaas6 hD rfl S104b SL ⟨by decide, by omega, by decide⟩ ⟨by omega, by omega⟩ ?_
  refine gv_YofX (gv_Xm (fun v h => ?_) (d_X1_collect_t hws htb (sh ++ [(true, 0, n)]) (fun q => gc_lr sh.length q ro [1]) I1 J (gc_u A 104 (Int.toNat (I 100 9)) (some L)) hI1 a1 23 hb2 (gc_b23 hb2) ha1 (by omega)))
  obtain ⟨r, hf, hs9, Iₚ, Jₚ, e1, e2, e3, e4, z, rfl, z0, z1, p0⟩ := h
  exact gv_Yend ⟨z, Iₚ, Jₚ, hf, hs9, e1, ⟨rfl, rfl⟩, by rw [← hL]; exact e2, e3, e4, ⟨z0, z1⟩, p0⟩
