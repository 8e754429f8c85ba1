/-! end() on both sides, with its answer. -/
theorem d_X12_end_z {ws0 : List Cond} {tb : String → gz_T} (hws : gc_Ws ws0) (htb : gc_tbs tb) (sh : gz_Sh) (ro : Nat → Nat) (I : gr_I) (J : gr_J) (A : gc_A) (hI : gc_Inv ro I) (a1 : Int) (hb : gc_Base sh ro A) (ha1 : 0 ≤ a1 ∧ a1 ≤ 1000) (x0 : a1 ≤ I 23 1) : ∃ r h', gz_Ev ws0 tb 1 (yX12_end, cX12_end, 2, (some .int)) [.inr (.inr (some 0)), .inl a1] sh (gc_h sh I J A) r sh h' 0 0 ∧ (∃ (I' : gr_I) (J' : gr_J), h' = gc_h sh I' J' A ∧ gc_Inv ro I' ∧ (∀ q j : Nat, ((q = 23 ∧ j = 1)) ∨ I' q j = I q j) ∧ (∀ q j : Nat, (False) ∨ J' q j = J q j) ∧ (∃ z : Int, r = some (.inl z) ∧ 0 ≤ z ∧ z ≤ 1000 ∧ (I' 23 1 = a1 ∧ z = a1))) := by
  have FI : ∀ q j : Nat, ((q = 23 ∧ j = 1)) ∨ I q j = I q j := fun _ _ => Or.inr rfl
  have FJ : ∀ q j : Nat, (False) ∨ J q j = J q j := fun _ _ => Or.inr rfl
  have A_0_1 : A 0 1 = some 23 := gc_bA hb rfl
  have B_0 : 0 < 1000000 := by decide
  have B_23 : 23 < 1000000 := by decide
  have R_23 : ro 23 = 3 := gc_bR hb (by decide) rfl
  have S_0 : sh[0]? = some (false, 12, 17) := gc_bS hb rfl
  have S_23 : sh[23]? = some (false, 9, 10) := gc_bS hb rfl
  have hD : gv_D (gc_E12 ws0 tb 0 (yX12_end, cX12_end, 2, (some .int)) kX12_end) := gq_ok oX12_end
  refine gc_ev12 (d := 0) (l := kX12_end) (Po := fun r h' => (∃ (I' : gr_I) (J' : gr_J), h' = gc_h sh I' J' A ∧ gc_Inv ro I' ∧ (∀ q j : Nat, ((q = 23 ∧ j = 1)) ∨ I' q j = I q j) ∧ (∀ q j : Nat, (False) ∨ J' q j = J q j) ∧ (∃ z : Int, r = some (.inl z) ∧ 0 ≤ z ∧ z ≤ 1000 ∧ (I' 23 1 = a1 ∧ z = a1)))) htb rfl (Nat.le_of_ble_eq_true rfl) ?_
  have f1 := (show 0 ≤ I 23 1 ∧ I 23 1 ≤ 1000 from gc_in hI R_23 rfl rfl)
  refine gv_run 1 true hD (pc' := 1) (lv' := [(0, .inr (.inr (some 0))), (1, .inl a1)]) (st' := [.inl a1]) (h' := gc_h sh I J A) (C := (True ∧ True)) rfl ⟨trivial, trivial⟩ ?_
  refine gv_if_lt (t := 15) hD rfl rfl ⟨by omega, by omega⟩ (fun c2 => ?_) (fun c2 => ?_)
  · exfalso; omega
  · show gv_X _ _ (4, [(0, .inr (.inr (some 0))), (1, .inl a1)], [], sh, gc_h sh I J A)
    refine gv_run 2 true hD (pc' := 6) (lv' := [(0, .inr (.inr (some 0))), (1, .inl a1)]) (st' := [.inr (.inr (some 0)), .inl a1]) (h' := gc_h sh I J A) (C := ((True ∧ True) ∧ True)) rfl ⟨⟨trivial, trivial⟩, trivial⟩ ?_
    refine gv_get hD rfl rfl S_0 ⟨by decide, B_0⟩ (gc_hA S_0 rfl A_0_1) ?_
    show gv_X _ _ (9, [(0, .inr (.inr (some 0))), (1, .inl a1)], [.inr (.inr (some 23)), .inl a1], sh, gc_h sh I J A)
    have f3 := (show 0 ≤ I 23 1 ∧ I 23 1 ≤ 1000 from gc_in hI R_23 rfl rfl)
    refine gv_get hD rfl rfl S_23 ⟨by decide, B_23⟩ (gc_hI S_23 rfl) ?_
    show gv_X _ _ (12, [(0, .inr (.inr (some 0))), (1, .inl a1)], [.inl (I 23 1), .inl a1], sh, gc_h sh I J A)
    refine gv_icmp_le (t := 25) hD rfl rfl ⟨⟨by omega, by omega⟩, ⟨by omega, by omega⟩⟩ (fun c4 => ?_) (fun c4 => ?_)
    · show gv_X _ _ (25, [(0, .inr (.inr (some 0))), (1, .inl a1)], [], sh, gc_h sh I J A)
      refine gv_run 1 true hD (pc' := 26) (lv' := [(0, .inr (.inr (some 0))), (1, .inl a1)]) (st' := [.inr (.inr (some 0))]) (h' := gc_h sh I J A) (C := (True ∧ True)) rfl ⟨trivial, trivial⟩ ?_
      refine gv_get hD rfl rfl S_0 ⟨by decide, B_0⟩ (gc_hA S_0 rfl A_0_1) ?_
      show gv_X _ _ (29, [(0, .inr (.inr (some 0))), (1, .inl a1)], [.inr (.inr (some 23))], sh, gc_h sh I J A)
      refine gv_run 1 true hD (pc' := 30) (lv' := [(0, .inr (.inr (some 0))), (1, .inl a1)]) (st' := [.inl a1, .inr (.inr (some 23))]) (h' := gc_h sh I J A) (C := (True ∧ True)) rfl ⟨trivial, trivial⟩ ?_
      refine gv_put hD rfl rfl S_23 ⟨by decide, B_23⟩ rfl trivial ?_
      refine gc_st (k := 1) hI S_23 rfl R_23 (lo := 0) (hi := 1000) rfl rfl (by omega) (by omega) (fun I5 hI5 q6 p6 => ?_)
      have FI5 := gc_frs (W := fun q j => (q = 23 ∧ j = 1)) FI ⟨rfl, rfl⟩ p6
      have f7 := (show 0 ≤ I5 23 1 ∧ I5 23 1 ≤ 1000 from gc_in hI5 R_23 rfl rfl)
      show gv_X _ _ (33, [(0, .inr (.inr (some 0))), (1, .inl a1)], [], sh, gc_h sh I5 J A)
      refine gv_run 1 true hD (pc' := 34) (lv' := [(0, .inr (.inr (some 0))), (1, .inl a1)]) (st' := [.inl a1]) (h' := gc_h sh I5 J A) (C := (True ∧ True)) rfl ⟨trivial, trivial⟩ ?_
      exact gv_iret hD rfl ⟨I5, J, rfl, hI5, FI5, FJ, ⟨_, rfl, by omega⟩⟩
    · show gv_X _ _ (15, [(0, .inr (.inr (some 0))), (1, .inl a1)], [], sh, gc_h sh I J A)
      exfalso; omega
set_option maxHeartbeats 4000000 in
theorem hh_end_z {ws0 : List Cond} {tb : String → gz_T} (hws : gc_Ws ws0) (htb : gc_tbs tb) {sh : gz_Sh} {ro : Nat → Nat} {I : gr_I} {J : gr_J} {A : gc_A} (hs : gh_HS sh ro I J A) (hc : gh_HC sh ro A I) (a1 : Int) (h1 : 0 ≤ a1 ∧ a1 ≤ I 23 1) : ∃ (I' : gr_I) (J' : gr_J), gz_Ev ws0 tb 100 (yX12_end, cX12_end, 2, (some .int)) [.inr (.inr (some 0)), .inl a1] sh (gc_h sh I J A) (some (.inl a1)) sh (gc_h sh I' J' A) 0 0 ∧ gh_K sh ro A I J I' J' (a1) := by
  have hb := hs.1
  have hI := hs.2.1
  have hok := hs.2.2.1
  have hT := hs.2.2.2.1
  have hU := hs.2.2.2.2.1
  have i8 : 0 ≤ I 8 1 ∧ I 8 1 ≤ 8 := gc_in hI (gc_bR hb (by decide) rfl) rfl rfl
  have h144 := gc_Base_len hb
  obtain ⟨c1, c2, c3, c4, c5, c6, c7, c8⟩ := id hc
  have f23 : 0 ≤ I 23 1 ∧ I 23 1 ≤ 1000 := gc_in hI (gc_bR hb (by decide) rfl) rfl rfl
  obtain ⟨r, h', E, I', J', rfl, hI', g, k, z, rfl, p0, p1, p2, p3⟩ := d_X12_end_z hws htb sh ro I J A hI a1 hb ⟨by omega, by omega⟩ (by omega)
  subst p3
  have ok' : gc_OK sh I' J' A := gh_OK_g hok (fun q j => (g q j).elim (fun h => by
      rcases h with ⟨rfl, rfl⟩
      · exact Or.inl (gh_ok0 (gc_bS hb (p := 23) rfl) rfl)
      ) Or.inr) (fun q j => (k q j).imp (fun h => h.elim) id)
  have hk := gh_HS_n hs hI' ok' (fun q j => (g q j).imp (fun h => by omega) id) (fun q j => (k q j).imp (fun h => h.elim) id)
  refine ⟨I', J', gz_Ev_mono (by decide) E, ⟨hk.1, ⟨(gc_FN_fr c1 (fun k => ((g 49 k).resolve_left (by omega))) (fun k => ((g 50 k).resolve_left (by omega)))), (gc_FZ_fr c2 ((g 2 1).resolve_left (by omega)) (fun k => ((g 49 k).resolve_left (by omega))) (fun k => ((g 50 k).resolve_left (by omega)))), (by have h1 := ((g 86 2).resolve_left (by omega)); have h2 := ((g 86 4).resolve_left (by omega)); omega), (by have h1 := ((g 100 2).resolve_left (by omega)); have h2 := ((g 100 1).resolve_left (by omega)); have h3 := hk.2.1 8 1 (by decide) (by decide); omega), (gh_SN_fr c5 ((g 100 9).resolve_left (by omega))), (gh_FBT_fr c6 hk.2 (fun i t d j hi ht h1 h2 => (g (t + d) j).resolve_left (by have := (hT.1 i t hi ht).2.1; omega))), (gh_TRE_k c7 hk.2 (fun q j h1 h2 h3 => ((g q j).resolve_left (by omega)))), (gh_RKO_fr hs c8 hk.2 (fun q j h1 h2 => ((g q j).resolve_left (by omega))))⟩, hk.2, by omega, (fun k9 h9 => ((g 24 k9).resolve_left (by omega))), ((g 100 9).resolve_left (by omega))⟩⟩
theorem gp_endx {ws0 : List Cond} {tb : String → gz_T} (hws : gc_Ws ws0) (htb : gc_tbs tb) (hwr : ∀ w ∈ gr_ws, w ∈ ws0) (htr : tb RX13 = gr_T) (ext : gz_Sh) {n a s : Nat} {sh : gz_Sh} {ro : Nat → Nat} {I : gr_I} {J : gr_J} {A : gc_A} {Ir : gr_I} {Jr : gr_J} (h : gp_P n a s sh ro I J A Ir Jr) (hn : n < 64) (a1 : Int) (ra1 : (-2147483648) ≤ a1 ∧ a1 ≤ 2147483647) : ∃ (z : Int) (Ir' : gr_I) (Jr' : gr_J), gz_Ev ws0 tb 1000 (yX13_end, cX13_end, 2, (some .int)) [.inr (.inr (some 0)), .inl a1] (gr_sh ++ ext) (gr_h Ir Jr) (some (.inl z)) (gr_sh ++ ext) (gr_h Ir' Jr') 0 0 ∧ gr_Inv Ir' ∧ ((-2147483648) ≤ z ∧ z ≤ 2147483647) ∧ ((∃ (I' : gr_I) (J' : gr_J), gz_Ev ws0 tb 100 (yX12_end, cX12_end, 2, (some .int)) [.inr (.inr (some 0)), .inl a1] sh (gc_h sh I J A) (some (.inl z)) sh (gc_h sh I' J' A) 0 0 ∧ Ir' 0 0 = 0 ∧ gp_P (n + 1) a s sh ro I' J' A Ir' Jr') ∨ (gk_T ws0 tb (yX12_end, cX12_end, 2, (some .int)) [.inr (.inr (some 0)), .inl a1] sh I J A px_IAE ∧ Ir' 0 0 = 1 ∧ gp_P (n + 1) (a + 1) (s + 6) sh ro I J A Ir' Jr')) := by
  have hs := h.1.1
  have hc := h.1.2.1
  have e3 := h.2.2.2.1
  obtain ⟨rr, h', E, Ir', Jr', rfl, q, t, z, rfl, l1, l2, P⟩ := q_end hwr htr ext h.2.1.1 hn a1 ra1
  by_cases c : 0 ≤ a1 ∧ a1 ≤ I 23 1
  · obtain ⟨I', J', E9, K9⟩ := hh_end_z hws htb hs hc a1 c
    have hz : z = a1 := by omega
    subst hz
    exact ⟨_, Ir', Jr', E, q.1.1, ⟨l1, l2⟩, Or.inl ⟨I', J', E9, by omega, gp_kp h K9 (by omega) q t (by omega)⟩⟩
  · have T9 := ht_end hws htb hs a1 ra1 (by omega)
    exact ⟨_, Ir', Jr', E, q.1.1, ⟨l1, l2⟩, Or.inr ⟨T9, by omega, gp_th h q t (by omega)⟩⟩
