/-! Arrays.copyOf, and what it makes. -/
theorem gh_Mi2 : (parseMethodDescriptor gj_Mi.1.desc).map (fun d => d.parameters.length) = some 2 := by decide +kernel
def gj_Mc : gx_M := (yJ7_copyOf_9075b, cJ7_copyOf_9075b, 3, some (.array .byte))
def gc_wcl : List Cond := [gx_code gj_Mc, Cond.methodLink RX1 161 yJ7_copyOf_9075b, Cond.static yJ7_copyOf_9075b, Cond.initialized yJ7_copyOf_9075b.cls, Cond.methodLink yJ7_copyOf_9075b.cls 310 ⟨"[B", "clone", "()Ljava/lang/Object;"⟩, Cond.sameMethod "[B" "java/lang/Object" "clone" "()Ljava/lang/Object;", Cond.native ⟨"java/lang/Object", "clone", "()Ljava/lang/Object;"⟩, Cond.instanceMethod ⟨"java/lang/Object", "clone", "()Ljava/lang/Object;"⟩, Cond.selects "[B" ⟨"[B", "clone", "()Ljava/lang/Object;"⟩ ⟨"java/lang/Object", "clone", "()Ljava/lang/Object;"⟩, Cond.static yJ7_copyOf_9075b, Cond.classLink yJ7_copyOf_9075b.cls 311 "[B", Cond.arrayClass (newarray.typeOf .byte), gx_code gj_Mi, Cond.methodLink yJ7_copyOf_9075b.cls 304 gj_Mi.1, Cond.static gj_Mi.1, Cond.initialized gj_Mi.1.cls, Cond.methodLink yJ7_copyOf_9075b.cls 150 arraycopyName, Cond.native arraycopyName, Cond.static arraycopyName, Cond.initialized "java/lang/System"]
def gc_Wc (ws0 : List Cond) : Prop := ∀ w ∈ gc_wcl, w ∈ ws0
theorem gc_Wc_at {ws0 : List Cond} (h : gc_Wc ws0) (i : Nat) {w : Cond} (hw : gc_wcl[i]? = some w) : w ∈ ws0 := h w (List.mem_of_getElem? hw)
theorem gc_Yclone {E : gv_E} {Q : gz_S → Nat → Nat → Prop} {pc : Nat} {lv : List (Nat × gz_V)} {st : List gz_V} {sh : gz_Sh} {I Iₚ : gr_I} {J : gr_J} {A : gc_A} {ix i n r : Nat} (hD : gv_D E) (hi : E.2.2.2.2.2.2 pc = some (.invokevirtual ix)) (hk : gz_lK E.1 E.2.1 ix) (h8 : (st.map gz_c).sum ≤ 8) (hb : i < 1000000) (hs : sh[i]? = some (true, 0, n)) (hr0 : ∀ k, k < n → -128 ≤ I i k ∧ I i k ≤ 127) (hl : sh.length < 1000000) (hok : gc_OK sh I J A) (hlv : ∀ q ∈ lv, gz_okv sh.length q.2) (hst : ∀ q ∈ st, gz_okv sh.length q) (hr : r = sh.length) (h1 : ∀ q j, q < sh.length → Iₚ q j = I q j) (h2 : ∀ k, Iₚ sh.length k = I i k) (kk : gv_Y E (fun v a s => Q v (1 + a) (n + s)) (pc + 3, lv, .inr (.inr (some r)) :: st, sh ++ [(true, 0, n)], gc_h (sh ++ [(true, 0, n)]) Iₚ J A)) : gv_Y E Q (pc, lv, .inr (.inr (some i)) :: st, sh, gc_h sh I J A) := by
  subst hr
  have hlt := gc_x_lt hs
  refine gv_Yone (u' := (pc + 3, lv, .inr (.inr (some sh.length)) :: st, sh ++ [(true, 0, n)], gc_h (sh ++ [(true, 0, n)]) Iₚ J A)) (a := 1) (s := n) (Or.inr (Or.inr (Or.inr (Or.inr (Or.inr (Or.inr (Or.inr (Or.inr (Or.inl (Or.inr (Or.inr (Or.inr (Or.inr (Or.inr (Or.inr (Or.inl ⟨ix, i, n, st, hD pc _ hi, hk, rfl, h8, hb, hs, fun k hk9 => ?_, ⟨hl, hok.1, rfl, fun q hq => ?_, hlv, fun q hq => ?_, rfl⟩, fun k => ?_, rfl, rfl, rfl, rfl⟩)))))))))))))))) kk
  · show -128 ≤ gz_I (gc_h sh I J A i k) ∧ gz_I (gc_h sh I J A i k) ≤ 127
    rw [gc_iI hs rfl]
    exact hr0 k hk9
  · funext k
    show gc_h (sh ++ [(true, 0, n)]) Iₚ J A q k = gc_h sh I J A q k
    have hq' : q < sh.length := hq
    rw [gc_hpre hq']
    exact gc_h_congr (h1 q k hq')
  · rcases List.mem_cons.mp hq with rfl | h9
    · exact Or.inl hlt
    · exact hst q h9
  · show gc_h (sh ++ [(true, 0, n)]) Iₚ J A sh.length k = .inl (gz_I (gc_h sh I J A i k))
    rw [gc_hI (gc_gl rfl) rfl, gc_iI hs rfl, h2]
theorem gc_Ychk {E : gv_E} {Q : gz_S → Nat → Nat → Prop} {pc : Nat} {lv : List (Nat × gz_V)} {st : List gz_V} {sh : gz_Sh} {h : gz_H} {ix i n : Nat} (hD : gv_D E) (hi : E.2.2.2.2.2.2 pc = some (.checkcast ix)) (hk : Cond.classLink E.2.1 ix "[B" ∈ E.1) (hb : i < 1000000) (hs : sh[i]? = some (true, 0, n)) (kk : gv_Y E Q (pc + 3, lv, .inr (.inr (some i)) :: st, sh, h)) : gv_Y E Q (pc, lv, .inr (.inr (some i)) :: st, sh, h) := by
  refine gv_Yone (u' := (pc + 3, lv, .inr (.inr (some i)) :: st, sh, h)) (a := 0) (s := 0) (Or.inr (Or.inr (Or.inr (Or.inr (Or.inr (Or.inr (Or.inr (Or.inr (Or.inl (Or.inr (Or.inr (Or.inr (Or.inr (Or.inr (Or.inr (Or.inr (Or.inl ⟨ix, i, n, st, hD pc _ hi, hk, rfl, hb, hs, rfl, rfl, rfl⟩))))))))))))))))) ?_
  obtain ⟨n9, v, a, s, g, q⟩ := kk
  exact ⟨n9, v, a, s, g, (show Q v (0 + a) (0 + s) from by rw [Nat.zero_add, Nat.zero_add]; exact q)⟩
theorem gh_OKb {sh : gz_Sh} {I Iₚ : gr_I} {J : gr_J} {A : gc_A} {n : Nat} (hok : gc_OK sh I J A) (h1 : ∀ q j, ¬ q = sh.length → Iₚ q j = I q j) : gc_OK (sh ++ [(true, 0, n)]) Iₚ J A := by
  have ok1 := gc_OKx (x := (true, 0, n)) hok (fun k => Nat.le_of_ble_eq_true rfl)
  refine gc_OK_fr ok1 (fun q j => ?_) (fun q j => Or.inr rfl)
  by_cases e : q = sh.length
  · left
    subst e
    exact ⟨by rw [List.length_append]; exact Nat.lt_succ_self _, gc_tyx (gc_gl rfl)⟩
  · exact Or.inr (h1 q j e)
set_option maxHeartbeats 2000000 in
theorem e_copyOf {ws0 : List Cond} {tb : String → gz_T} (hc : gc_Wc ws0) {sh : gz_Sh} {ro : Nat → Nat} {I : gr_I} {J : gr_J} {A : gc_A} {i m n : Nat} (hI : gc_Inv ro I) (hs : sh[i]? = some (true, 0, m)) (hro : ro i = 1) (hi : i < 1000000) (hm : m ≤ 60000000) (hn : n ≤ m) (hlen : sh.length < 1000000) (hok : gc_OK sh I J A) : ∃ Iₚ : gr_I, gz_Ev ws0 tb 2 gj_Mc [.inr (.inr (some i)), .inl (n : Int)] sh (gc_h sh I J A) (some (.inr (.inr (some sh.length)))) (sh ++ [(true, 0, n)]) (gc_h (sh ++ [(true, 0, n)]) Iₚ J A) 1 n ∧ (∀ q j, ¬ q = sh.length → Iₚ q j = I q j) ∧ (∀ k, -128 ≤ Iₚ sh.length k ∧ Iₚ sh.length k ≤ 127) ∧ gc_OK (sh ++ [(true, 0, n)]) Iₚ J A := by
  have hlt := gc_x_lt hs
  have hr0 : ∀ k, -128 ≤ I i k ∧ I i k ≤ 127 := fun k => gc_in hI hro rfl rfl
  obtain ⟨L, hL⟩ : ∃ L, sh.length = L := ⟨_, rfl⟩
  have hD : gv_D (ws0, gj_Mc.1.cls, tb gj_Mc.1.cls, gj_Mc.2.1, gj_Mc.2.2.1, gz_Ev ws0 tb 1, kJ7_copyOf_9075b) := gq_of oJ7_copyOf_9075b
  have lv0 : ∀ q ∈ [((0, .inr (.inr (some i))) : Nat × gz_V), (1, .inl (n : Int))], gz_okv sh.length q.2 := gc_okc (Or.inl hlt) (gc_okc trivial gc_ok0)
  by_cases hnm : n = m
  · subst hnm
    let Iₚ : gr_I := fun q j => if q = sh.length then I i j else I q j
    have e1 : ∀ q j, ¬ q = sh.length → Iₚ q j = I q j := fun q j h => if_neg h
    have e2 : ∀ k, Iₚ sh.length k = I i k := fun k => if_pos rfl
    refine ⟨Iₚ, ?_, e1, fun k => by rw [e2]; exact hr0 k, gh_OKb hok e1⟩
    refine gv_evY (code := kJ7_copyOf_9075b) (Nat.le_of_ble_eq_true rfl) ?_
    show gv_Y _ _ (0, [(0, .inr (.inr (some i))), (1, .inl (n : Int))], [], sh, gc_h sh I J A)
    refine gv_lift (fun hk => gv_run 2 true hD (pcₚ := 2) (lvₚ := [(0, .inr (.inr (some i))), (1, .inl (n : Int))]) (stₚ := [.inr (.inr (some i)), .inl (n : Int)]) (hₚ := gc_h sh I J A) (C := ((True ∧ True) ∧ True)) rfl ⟨⟨trivial, trivial⟩, trivial⟩ hk) ?_
    refine gv_lift (fun hk => gv_len hD rfl hs ⟨by decide, hi⟩ hk) ?_
    refine gv_YofX (gv_icmp_ne (t := 14) hD rfl rfl ⟨⟨by omega, by omega⟩, ⟨by omega, by omega⟩⟩ (fun c => absurd rfl c) (fun c => gv_Xz ?_))
    show gv_Y _ _ (6, [(0, .inr (.inr (some i))), (1, .inl (n : Int))], [], sh, gc_h sh I J A)
    refine gv_lift (fun hk => gv_run 1 true hD (pcₚ := 7) (lvₚ := [(0, .inr (.inr (some i))), (1, .inl (n : Int))]) (stₚ := [.inr (.inr (some i))]) (hₚ := gc_h sh I J A) (C := (True ∧ True)) rfl ⟨trivial, trivial⟩ hk) ?_
    refine gc_Yclone hD (ix := 310) rfl ⟨gc_Wc_at hc 4 rfl, gc_Wc_at hc 5 rfl, gc_Wc_at hc 6 rfl, gc_Wc_at hc 7 rfl, gc_Wc_at hc 8 rfl⟩ (Nat.le_of_ble_eq_true rfl) hi hs (fun k _ => hr0 k) hlen hok lv0 gc_ok0 rfl (fun q j hq => e1 q j (by omega)) e2 ?_
    refine gc_Ychk hD (ix := 311) rfl (gc_Wc_at hc 10 rfl) hlen (gc_gl rfl) ?_
    exact gv_Yend ⟨Or.inr (Or.inr (Or.inr ⟨_, _, hD 13 _ rfl, rfl, Or.inr ⟨_, rfl⟩, rfl, rfl⟩)), rfl, rfl, rfl, rfl⟩
  · let Iₚ : gr_I := fun q j => if q = sh.length ∧ j < n then I i j else I q j
    have e1 : ∀ q j, ¬ q = sh.length → Iₚ q j = I q j := fun q j h => if_neg (fun h9 => h h9.1)
    have e2 : ∀ k, k < n → Iₚ sh.length k = I i k := fun k hk => if_pos ⟨rfl, hk⟩
    have e3 : ∀ k, ¬ k < n → Iₚ sh.length k = 0 := fun k hk => (if_neg (fun h9 => hk h9.2)).trans (hok.2 sh.length (Nat.le_refl _) k).1
    refine ⟨Iₚ, ?_, e1, fun k => ?_, gh_OKb hok e1⟩
    · refine gv_evY (code := kJ7_copyOf_9075b) (Nat.le_of_ble_eq_true rfl) ?_
      show gv_Y _ _ (0, [(0, .inr (.inr (some i))), (1, .inl (n : Int))], [], sh, gc_h sh I J A)
      refine gv_lift (fun hk => gv_run 2 true hD (pcₚ := 2) (lvₚ := [(0, .inr (.inr (some i))), (1, .inl (n : Int))]) (stₚ := [.inr (.inr (some i)), .inl (n : Int)]) (hₚ := gc_h sh I J A) (C := ((True ∧ True) ∧ True)) rfl ⟨⟨trivial, trivial⟩, trivial⟩ hk) ?_
      refine gv_lift (fun hk => gv_len hD rfl hs ⟨by decide, hi⟩ hk) ?_
      refine gv_YofX (gv_icmp_ne (t := 14) hD rfl rfl ⟨⟨by omega, by omega⟩, ⟨by omega, by omega⟩⟩ (fun c => gv_Xz ?_) (fun c => absurd (by omega) hnm))
      show gv_Y _ _ (14, [(0, .inr (.inr (some i))), (1, .inl (n : Int))], [], sh, gc_h sh I J A)
      refine gv_lift (fun hk => gv_run 1 true hD (pcₚ := 15) (lvₚ := [(0, .inr (.inr (some i))), (1, .inl (n : Int))]) (stₚ := [.inl (n : Int)]) (hₚ := gc_h sh I J A) (C := (True ∧ True)) rfl ⟨trivial, trivial⟩ hk) ?_
      refine gc_Yarr hD (at_ := .byte) (t := 0) (n := n) (r := sh.length) rfl rfl (gc_Wc_at hc 11 rfl) (by omega) (by decide) hlen hok lv0 gc_ok0 rfl ?_
      have S1 : (sh ++ [(true, 0, n)])[i]? = some (true, 0, m) := gc_gx hs
      have S2 : (sh ++ [(true, 0, n)])[sh.length]? = some (true, 0, n) := gc_gl rfl
      refine gv_lift (fun hk => gv_run 6 true hD (pcₚ := 23) (lvₚ := [(2, .inr (.inr (some sh.length))), (0, .inr (.inr (some i))), (1, .inl (n : Int))]) (stₚ := [.inr (.inr (some i)), .inl 0, .inr (.inr (some sh.length)), .inl 0, .inr (.inr (some i))]) (hₚ := gc_h (sh ++ [(true, 0, n)]) I J A) (C := ((((((True ∧ True) ∧ True) ∧ True) ∧ True) ∧ True) ∧ True)) rfl ⟨⟨⟨⟨⟨⟨trivial, trivial⟩, trivial⟩, trivial⟩, trivial⟩, trivial⟩, trivial⟩ hk) ?_
      refine gv_lift (fun hk => gv_len hD rfl S1 ⟨by decide, hi⟩ hk) ?_
      refine gv_lift (fun hk => gv_run 1 true hD (pcₚ := 25) (lvₚ := [(2, .inr (.inr (some sh.length))), (0, .inr (.inr (some i))), (1, .inl (n : Int))]) (stₚ := [.inl (n : Int), .inl (m : Int), .inl 0, .inr (.inr (some sh.length)), .inl 0, .inr (.inr (some i))]) (hₚ := gc_h (sh ++ [(true, 0, n)]) I J A) (C := (True ∧ True)) rfl ⟨trivial, trivial⟩ hk) ?_
      obtain ⟨z, EZ, z1, z2, z3⟩ := gj_min (ws0 := ws0) (tb := tb) (sh := sh ++ [(true, 0, n)]) (h := gc_h (sh ++ [(true, 0, n)]) I J A) (m : Int) (n : Int) ⟨by omega, by omega⟩ ⟨by omega, by omega⟩
      have ez : z = (n : Int) := by omega
      subst ez
      refine gv_lift (fun hk => gv_callS hD rfl (As := [.inl (m : Int), .inl (n : Int)]) (st := [.inl 0, .inr (.inr (some sh.length)), .inl 0, .inr (.inr (some i))]) rfl ⟨gc_Wc_at hc 12 rfl, gc_Wc_at hc 13 rfl, gc_Wc_at hc 14 rfl, gc_Wc_at hc 15 rfl, ⟨by decide +kernel, by decide +kernel, gh_Mi2⟩, Nat.le_of_ble_eq_true rfl⟩ (Nat.le_of_ble_eq_true rfl) EZ hk) ?_
      refine gv_lift (fun hk => gv_copy hD (ix := 150) (x := 0) (y := 0) (z := (n : Int)) (st := []) rfl ⟨gc_Wc_at hc 16 rfl, gc_Wc_at hc 17 rfl, gc_Wc_at hc 18 rfl, gc_Wc_at hc 19 rfl⟩ (Nat.le_of_ble_eq_true rfl) ⟨hi, hlen⟩ S1 S2 (by decide) ⟨by omega, by omega⟩ ⟨by decide, by decide, by omega⟩ (by omega) (by omega) (fun _ k _ => by rw [gc_iI S1 rfl]; exact hr0 _) hk) ?_
      have hh : gz_cp (gc_h (sh ++ [(true, 0, n)]) I J A) i sh.length (Int.toNat 0) (Int.toNat 0) (Int.toNat (n : Int)) = gc_h (sh ++ [(true, 0, n)]) Iₚ J A := by
        funext a k
        unfold gz_cp
        by_cases ha : a = sh.length
        · rw [if_pos ha]
          subst ha
          by_cases hk : k < n
          · rw [if_pos ⟨Nat.zero_le _, by omega⟩, gc_hI S1 rfl, gc_hI S2 rfl, e2 k hk]
            show Sum.inl (I i (0 + (k - 0))) = _
            rw [Nat.zero_add, Nat.sub_zero]
          · rw [if_neg (fun h9 => hk (by have := h9.2; omega)), gc_hI S2 rfl, gc_hI S2 rfl, e3 k hk, (hok.2 sh.length (Nat.le_refl _) k).1]
        · rw [if_neg ha]
          exact (gc_h_congr (e1 a k ha)).symm
      rw [hh]
      refine gv_lift (fun hk => gv_run 1 true hD (pcₚ := 32) (lvₚ := [(2, .inr (.inr (some sh.length))), (0, .inr (.inr (some i))), (1, .inl (n : Int))]) (stₚ := [.inr (.inr (some sh.length))]) (hₚ := gc_h (sh ++ [(true, 0, n)]) Iₚ J A) (C := (True ∧ True)) rfl ⟨trivial, trivial⟩ hk) ?_
      exact gv_Yend ⟨Or.inr (Or.inr (Or.inr ⟨_, _, hD 32 _ rfl, rfl, Or.inr ⟨_, rfl⟩, rfl, rfl⟩)), rfl, rfl, rfl, rfl⟩
    · by_cases hk : k < n
      · rw [e2 k hk]; exact hr0 k
      · rw [e3 k hk]; exact ⟨by decide, by decide⟩
