set_option maxHeartbeats 8000000 in
set_option maxRecDepth 100000 in
theorem whole_start {p : Program} {e : Env} {s : State} {m : MethodId} {below : List Frame} {meth : Method} {c : Code} (l : Launch) (hst : l.stackTraces = false) {b L : Nat} {xs : Nat → Int32} (hL : L ≤ 6) (C0 : lw_At p s m meth c b L xs) : W p l e room_1 s m #[Value.ref b] below meth c s.heap [] 0 0 (lw_Z below #[Value.ref b] s) (entryFrame m ([Value.ref b] : List Value).toArray 8) := by
  obtain ⟨hx, hb, hr, hml, hown0, hts, hScr, hbl, hlocks, hgv⟩ := id C0
  have hown : s.vm.findClass RL = some m.cls := hown0
  have hnw : narrow_1.before #[Value.ref b] s = true := lc_r hgv
  have hpp := fun (w : Cond) (h : w ∈ pp_ws) => hts w (pl_in w h)
  obtain ⟨D, cy, hG⟩ := lc_G hts
  obtain ⟨sa, hX⟩ := lc_Xs hts hnw
  obtain ⟨qa, va, hZ⟩ := lc_Zs hts hnw
  have hbA : ¬ (fun q : Nat => s.heap.size ≤ q) b := Nat.not_le.mpr hbl
  have hw : pw_W D (fun q : Nat => s.heap.size ≤ q) s.heap [] (fun _ => .inr (0, [])) s.heap [] := ⟨fun k q h => by simp [va_pl] at h, ⟨fun i j p q h => by simp [va_pl] at h, fun k q h => by simp [va_pl] at h⟩, va_S.rf, fun _ h => h⟩
  have hl := lv_entry ([.ref b]) (n := 8) (Nat.le_of_ble_eq_true rfl)
  rw [lg_entry_eq]
  generalize (lg_sl ([.ref b]) ++ List.replicate (8 - (lg_sl ([.ref b])).length) Slot.unset).toArray = ls at hl ⊢
  have hl : lv_has ls 8 [(0, .ref b)] := hl
  refine pw_new (ci := 12) (C := RX12) (T := TX12) (N := 17) (fs := [.null, .null, .null, .null, .null, .null, .null, .null, .null, .null, .null, .null, .null, .null, .null, .int 0, .null]) hx hb hpp pi12 tyX12 tyX12_ok hown (hpp _ pp514) (hpp _ pp515) (hpp _ pp123) hG hw rfl bl_X12 (Nat.le_of_ble_eq_true rfl) (Nat.le_of_ble_eq_true rfl) dL_law_0 (fun h0 H hq hw => ?_)
  have ha : h0 ∈ [] ++ [h0] := List.mem_append_right _ (List.mem_singleton.mpr rfl)
  refine W.widen (k := 1) (n := 17) (Nat.le_of_ble_eq_true rfl) (Nat.le_of_ble_eq_true rfl) ?_
  refine lv_dup hx hb dL_law_3 rfl ?_
  refine pw_callv hw (va_runI (As := []) (rest := [.ref h0]) ⟨hx, hb, hml, hown, hts⟩ (c_X12_init l D cy h0 H.size _ _ ha (va_up_self _ _ _)) (cwI 0 hts pl_X12 rfl rfl rfl (hpp _ pp123) (hts _ pt_i12) (hts _ pt_m12) rfl (by decide +kernel) ⟨Nat.le_of_ble_eq_true rfl, Nat.le_of_ble_eq_true rfl⟩) (pw_pre hG hw) rfl rfl hl.1 rfl (lv_room (Nat.le_of_ble_eq_true rfl)) dL_law_4 ⟨Nat.le_of_ble_eq_true rfl, Nat.le_of_ble_eq_true rfl⟩) (fun L1 f1 H locs hw hS => ?_)
  refine Exists.elim hS (fun q1 hS => ?_)
  refine Exists.elim hS (fun q2 hS => ?_)
  refine Exists.elim hS (fun q3 hS => ?_)
  refine Exists.elim hS (fun q4 hS => ?_)
  refine Exists.elim hS (fun q5 hS => ?_)
  refine Exists.elim hS (fun q6 hS => ?_)
  refine Exists.elim hS (fun q7 hS => ?_)
  refine Exists.elim hS (fun q8 hS => ?_)
  refine Exists.elim hS (fun q9 hS => ?_)
  refine Exists.elim hS (fun q10 hS => ?_)
  refine Exists.elim hS (fun q11 hS => ?_)
  refine Exists.elim hS (fun q12 hS => ?_)
  refine Exists.elim hS (fun q13 hS => ?_)
  refine Exists.elim hS (fun q14 hS => ?_)
  refine Exists.elim hS (fun q15 hS => ?_)
  refine Exists.elim hS (fun q16 hS => ?_)
  refine Exists.elim hS (fun q17 hS => ?_)
  refine Exists.elim hS (fun q18 hS => ?_)
  refine Exists.elim hS (fun q19 hS => ?_)
  refine Exists.elim hS (fun q20 hS => ?_)
  refine Exists.elim hS (fun q21 hS => ?_)
  refine Exists.elim hS (fun q22 hS => ?_)
  refine Exists.elim hS (fun q23 hS => ?_)
  refine Exists.elim hS (fun q24 hS => ?_)
  refine Exists.elim hS (fun q25 hS => ?_)
  refine Exists.elim hS (fun q26 hS => ?_)
  refine Exists.elim hS (fun q27 hS => ?_)
  refine Exists.elim hS (fun q28 hS => ?_)
  refine Exists.elim hS (fun q29 hS => ?_)
  refine Exists.elim hS (fun q30 hS => ?_)
  refine Exists.elim hS (fun q31 hS => ?_)
  refine Exists.elim hS (fun q32 hS => ?_)
  refine Exists.elim hS (fun q33 hS => ?_)
  refine Exists.elim hS (fun q34 hS => ?_)
  refine Exists.elim hS (fun q35 hS => ?_)
  refine Exists.elim hS (fun q36 hS => ?_)
  refine Exists.elim hS (fun q37 hS => ?_)
  refine Exists.elim hS (fun q38 hS => ?_)
  refine Exists.elim hS (fun q39 hS => ?_)
  refine Exists.elim hS (fun q40 hS => ?_)
  refine Exists.elim hS (fun q41 hS => ?_)
  refine Exists.elim hS (fun q42 hS => ?_)
  refine Exists.elim hS (fun q43 hS => ?_)
  refine Exists.elim hS (fun q44 hS => ?_)
  refine Exists.elim hS (fun q45 hS => ?_)
  refine Exists.elim hS (fun q46 hS => ?_)
  refine Exists.elim hS (fun q47 hS => ?_)
  refine Exists.elim hS (fun q48 hS => ?_)
  refine Exists.elim hS (fun q49 hS => ?_)
  refine Exists.elim hS (fun q50 hS => ?_)
  refine Exists.elim hS (fun q51 hS => ?_)
  refine Exists.elim hS (fun q52 hS => ?_)
  refine Exists.elim hS (fun q53 hS => ?_)
  refine Exists.elim hS (fun q54 hS => ?_)
  refine Exists.elim hS (fun q55 hS => ?_)
  refine Exists.elim hS (fun q56 hS => ?_)
  refine Exists.elim hS (fun q57 hS => ?_)
  refine Exists.elim hS (fun q58 hS => ?_)
  refine Exists.elim hS (fun q59 hS => ?_)
  refine Exists.elim hS (fun q60 hS => ?_)
  refine Exists.elim hS (fun q61 hS => ?_)
  refine Exists.elim hS (fun q62 hS => ?_)
  refine Exists.elim hS (fun q63 hS => ?_)
  refine Exists.elim hS (fun q64 hS => ?_)
  refine Exists.elim hS (fun q65 hS => ?_)
  refine Exists.elim hS (fun q66 hS => ?_)
  refine Exists.elim hS (fun q67 hS => ?_)
  refine Exists.elim hS (fun q68 hS => ?_)
  refine Exists.elim hS (fun q69 hS => ?_)
  refine Exists.elim hS (fun q70 hS => ?_)
  refine Exists.elim hS (fun q71 hS => ?_)
  refine Exists.elim hS (fun q72 hS => ?_)
  refine Exists.elim hS (fun q73 hS => ?_)
  refine Exists.elim hS (fun q74 hS => ?_)
  refine Exists.elim hS (fun q75 hS => ?_)
  refine Exists.elim hS (fun q76 hS => ?_)
  refine Exists.elim hS (fun q77 hS => ?_)
  refine Exists.elim hS (fun q78 hS => ?_)
  refine Exists.elim hS (fun q79 hS => ?_)
  refine Exists.elim hS (fun q80 hS => ?_)
  refine Exists.elim hS (fun q81 hS => ?_)
  refine Exists.elim hS (fun q82 hS => ?_)
  refine Exists.elim hS (fun q83 hS => ?_)
  refine Exists.elim hS (fun q84 hS => ?_)
  refine Exists.elim hS (fun q85 hS => ?_)
  refine Exists.elim hS (fun q86 hS => ?_)
  refine Exists.elim hS (fun q87 hS => ?_)
  refine Exists.elim hS (fun q88 hS => ?_)
  refine Exists.elim hS (fun q89 hS => ?_)
  refine Exists.elim hS (fun q90 hS => ?_)
  refine Exists.elim hS (fun q91 hS => ?_)
  refine Exists.elim hS (fun q92 hS => ?_)
  refine Exists.elim hS (fun q93 hS => ?_)
  refine Exists.elim hS (fun q94 hS => ?_)
  refine Exists.elim hS (fun q95 hS => ?_)
  refine Exists.elim hS (fun q96 hS => ?_)
  refine Exists.elim hS (fun q97 hS => ?_)
  refine Exists.elim hS (fun q98 hS => ?_)
  refine Exists.elim hS (fun q99 hS => ?_)
  refine Exists.elim hS (fun q100 hS => ?_)
  refine Exists.elim hS (fun q101 hS => ?_)
  refine Exists.elim hS (fun q102 hS => ?_)
  refine Exists.elim hS (fun q103 hS => ?_)
  refine Exists.elim hS (fun q104 hS => ?_)
  refine Exists.elim hS (fun q105 hS => ?_)
  refine Exists.elim hS (fun q106 hS => ?_)
  refine Exists.elim hS (fun q107 hS => ?_)
  refine Exists.elim hS (fun q108 hS => ?_)
  refine Exists.elim hS (fun q109 hS => ?_)
  refine Exists.elim hS (fun q110 hS => ?_)
  refine Exists.elim hS (fun q111 hS => ?_)
  refine Exists.elim hS (fun q112 hS => ?_)
  refine Exists.elim hS (fun q113 hS => ?_)
  refine Exists.elim hS (fun q114 hS => ?_)
  refine Exists.elim hS (fun q115 hS => ?_)
  refine Exists.elim hS (fun q116 hS => ?_)
  refine Exists.elim hS (fun q117 hS => ?_)
  refine Exists.elim hS (fun q118 hS => ?_)
  have hN := hS
  clear hS
  have hC := lc_12 hw hN
  clear hN
  refine W.widen (k := 144) (n := 318359) (Nat.le_of_ble_eq_true rfl) (Nat.le_of_ble_eq_true rfl) ?_
  refine lv_astore_n (lv' := [(1, .ref h0), (0, .ref b)]) hx hb dL_law_7 rfl hl (by decide) rfl (fun ls hl => ?_)
  refine pw_new (ci := 13) (C := RX13) (T := TX13) (N := 229) (fs := px_blank13) hx hb hpp pi13 tyX13 tyX13_ok hown (hpp _ pp516) (hpp _ pp517) (hpp _ pp20) hG hw rfl px_blank13_ok (Nat.le_of_ble_eq_true rfl) (Nat.le_of_ble_eq_true rfl) dL_law_8 (fun m0 H hq2 hw => ?_)
  have ha2 : m0 ∈ L1 ++ [m0] := List.mem_append_right _ (List.mem_singleton.mpr rfl)
  have hC := hC.grow (e := .inr (13, px_blank13)) hq2
  refine W.widen (k := 145) (n := 318588) (Nat.le_of_ble_eq_true rfl) (Nat.le_of_ble_eq_true rfl) ?_
  refine lv_dup hx hb dL_law_11 rfl ?_
  refine pw_callv hw (va_runI (As := []) (rest := [.ref m0]) ⟨hx, hb, hml, hown, hts⟩ (c_X13_init l D cy qa va m0 H.size _ _ ha2 (va_up_self _ _ _)) (cwI 0 hts (pl_gI pp520) rfl rfl rfl (hpp _ pp20) (hpp _ pp518) (hpp _ pp519) rfl (by decide +kernel) ⟨Nat.le_of_ble_eq_true rfl, Nat.le_of_ble_eq_true rfl⟩) (ps_pre hG hZ hw) rfl rfl hl.1 rfl (lv_room (Nat.le_of_ble_eq_true rfl)) dL_law_12 ⟨Nat.le_of_ble_eq_true rfl, Nat.le_of_ble_eq_true rfl⟩) (fun L3 f3 H locs hw hS => ?_)
  obtain ⟨w13, w14, w15, w16, w17, w18, w19, w56, w59, w115, w10, F_m0, E_m0, hN⟩ := hS
  have hC := pq_C.ctor hC hN (pw_nd hw)
  clear hN
  refine W.widen (k := 283) (n := 1296536) (Nat.le_of_ble_eq_true rfl) (Nat.le_of_ble_eq_true rfl) ?_
  refine lv_astore_n (lv' := [(2, .ref m0), (1, .ref h0), (0, .ref b)]) hx hb dL_law_15 rfl hl (by decide) rfl (fun ls hl => ?_)
  refine lv_iconst (v := 1) hx hb dL_law_16 (by decide) ?_
  refine pw_newa (atype := .long) (t0 := 2) (cA := cy 2) (ty := .long) (N' := 1) (a0 := (1, .inr (.inl (fun _ => 0)))) hx hb (hpp _ pp348) rfl hG rfl (fun _ h => h) hw (fun _ => rfl) (by decide) (by decide) (Nat.le_of_ble_eq_true rfl) (Nat.le_of_ble_eq_true rfl) (Nat.le_of_ble_eq_true rfl) dL_law_17 (fun ou H hq3 hw => ?_)
  have hC := hC.grow (e := .inl (cy 2, 1, .inr (.inl (fun _ => 0)))) hq3
  refine W.widen (k := 284) (n := 1296537) (Nat.le_of_ble_eq_true rfl) (Nat.le_of_ble_eq_true rfl) ?_
  refine lv_astore_n (lv' := [(3, .ref ou), (2, .ref m0), (1, .ref h0), (0, .ref b)]) hx hb dL_law_19 rfl hl (by decide) rfl (fun ls hl => ?_)
  refine lv_iconst (v := 0) hx hb dL_law_20 (by decide) ?_
  refine lv_istore (lv' := [(4, .int 0), (3, .ref ou), (2, .ref m0), (1, .ref h0), (0, .ref b)]) hx hb dL_law_21 hl (by decide) rfl (fun ls hl => ?_)
  have hW := (pq_start hw hC rfl).pick (cs2 := [(h0, .inr (12, [.ref q1, .ref q23, .ref q27, .ref q31, .ref q35, .ref q39, .ref q48, .ref q61, .ref q74, .ref q86, .ref q100, .ref q114, .ref q115, .ref q116, .ref q117, .int 0, .ref q118])), (q1, .inr (8, [.ref q2, .ref q4, .ref q6, .ref q8, .ref q10, .int (-1), .ref q11, .ref q12, .ref q13, .ref q14, .ref q15, .ref q16, .ref q17, .int 0, .ref q18, .ref q19, .ref q20, .int 0, .int 0, .ref q21, .ref q22])), (q2, .inr (4, [.ref q3, .int 0])), (q4, .inr (4, [.ref q5, .int 0])), (q6, .inr (4, [.ref q7, .int 0])), (q8, .inr (4, [.ref q9, .int 0])), (q15, .inl (cy 1, 96, .inl (fun _ => 0))), (q21, .inl (cy 1, 159, .inl (fun _ => 0))), (q23, .inr (9, [.ref q24, .int 0, .ref q25, .ref q26, .int 0, .int 0, .int 0, .int 0, .int 0, .long 0])), (q24, .inl (cy 0, 1000, .inl (fun _ => 0))), (q27, .inr (9, [.ref q28, .int 0, .ref q29, .ref q30, .int 0, .int 0, .int 0, .int 0, .int 0, .long 0])), (q39, .inr (6, [.ref q1, .ref q23, .null, .int 0, .int 0, .int 0, .int 0, .int 0, .int 0, .ref q40, .ref q41, .ref q42, .int 0, .ref q43, .ref q44, .int 0, .ref q45, .ref q46, .ref q47])), (q48, .inr (0, [.ref q1, .ref q49, .ref q50, .int 0, .ref q51, .ref q52, .int 0, .ref q53, .ref q54, .ref q55, .int 0, .int 0, .int 0, .null, .null, .ref q56, .ref q57, .int 0, .int 0, .ref q58, .ref q59, .ref q60])), (q61, .inr (5, [.ref q1, .ref q48, .null, .int 0, .int 0, .ref q62, .ref q63, .ref q64, .int 0, .ref q65, .ref q66, .ref q67, .ref q68, .ref q69, .ref q70, .int 0, .ref q71, .ref q72, .ref q73])), (q100, .inr (1, [.ref q1, .int 0, .int 0, .ref q101, .int 0, .ref q102, .ref q103, .int 0, .int 0, .int 0, .ref q104, .ref q105, .ref q106, .ref q110, .int 0, .ref q111, .ref q112, .int 0, .ref q113])), (q114, .inl (cy 7, 9, .inr (.inr (.inr (.inr (fun j => if j < 9 then some (q114 + 1 + j) else none)))))), (q115, .inl (cy 1, 9, .inl (fun _ => 0))), (m0, .inr (13, F_m0)), (w13, .inl (cy 1, 8, .inl (fun _ => 0))), (w14, .inl (cy 1, 8, .inl (fun _ => 0))), (w15, .inl (cy 1, 8, .inl (fun _ => 0))), (w16, .inl (cy 1, 8, .inl (fun _ => 0))), (w17, .inl (cy 1, 8, .inl (fun _ => 0))), (w18, .inl (cy 1, 8, .inl (fun _ => 0))), (w19, .inl (cy 1, 8, .inl (fun _ => 0))), (w56, .inl (cy 0, 1000, .inl (fun _ => 0))), (w59, .inl (cy 1, 80, .inl (fun _ => 0))), (w115, .inl (cy 1, 8, .inl (fun _ => 0))), (ou, .inl (cy 2, 1, .inr (.inl (fun _ => 0))))]) [0, 1, 2, 3, 4, 5, 6, 7, 8, 9, 10, 11, 12, 13, 14, 15, 16, 17, 18, 19, 20, 21, 22, 23, 24, 25, 26, 27, 28] (by decide) rfl
  refine lv_iload hx hb dL_law_23 (lv_at hl 0 rfl) ?_
  refine lv_aload_n hx hb dL_law_25 rfl (lv_at hl 4 rfl) ?_
  refine va_slen hx hb hScr hbl hbA hW.S dL_law_26 ?_
  refine lv_bipush (v := 6) hx hb dL_law_27 (by decide) ?_
  refine lv_isub hx hb dL_law_29 ?_
  rcases Nat.lt_or_ge L 6 with hlt | hge
  · have hneg : (Int32.ofNat L - 6 : Int32) < 0 := (by decide : ∀ n, n < 6 → (Int32.ofNat n - 6 : Int32) < 0) L hlt
    refine lv_icmp_gt (tgt := 1903) hx hb dL_law_30 (by decide) (fun _ => ?_) (fun c9 => absurd hneg c9)
    refine lv_iconst (v := 1) hx hb dL_law_1903 (by decide) ?_
    refine va_forget (fun q hq => hW.S.2.2 q hq) ?_
    refine W.widen (k := 600002) (n := 7302232) (Nat.le_of_ble_eq_true rfl) (Nat.le_of_ble_eq_true rfl) ?_
    exact lw_ret hx hb hr hlocks dL_law_1904
  · have hL6 : L = 6 := by omega
    subst hL6
    have K : lc_K p l s m meth c b xs D cy sa := ⟨hx, hb, hr, hml, hown, hts, hScr, hbl, hlocks, hst, hG, hX⟩
    refine lv_icmp_gt (tgt := 1903) hx hb dL_law_30 (by decide) (fun c9 => absurd c9 (by decide)) (fun _ => ?_)
    refine lv_aload_n hx hb dL_law_33 rfl (lv_at hl 4 rfl) ?_
    refine lv_iload hx hb dL_law_34 (lv_at hl 0 rfl) ?_
    refine va_sld hx hb hScr hbl hbA hW.S (vp_in_iff.mpr ⟨by decide, by decide⟩) dL_law_36 ?_
    refine lv_bipush (v := 31) hx hb dL_law_37 (by decide) ?_
    refine lv_iand hx hb dL_law_39 ?_
    obtain ⟨j, hj, hxj⟩ := pk_andE (xs (0 : Int32).toNatClampNeg) (m := 31) 5 (by decide)
    refine pq_topi hxj ?_
    exact law_switch K hW (⟨rfl, List.forall_mem_cons.mpr ⟨rfl, List.forall_mem_cons.mpr ⟨rfl, List.forall_mem_cons.mpr ⟨rfl, List.forall_mem_cons.mpr ⟨rfl, List.forall_mem_cons.mpr ⟨rfl, List.forall_mem_cons.mpr ⟨rfl, List.forall_mem_cons.mpr ⟨rfl, List.forall_mem_cons.mpr ⟨rfl, List.forall_mem_cons.mpr ⟨rfl, List.forall_mem_cons.mpr ⟨rfl, fun _ h => absurd h List.not_mem_nil⟩⟩⟩⟩⟩⟩⟩⟩⟩⟩⟩) (⟨rfl, List.forall_mem_cons.mpr ⟨rfl, List.forall_mem_cons.mpr ⟨rfl, List.forall_mem_cons.mpr ⟨rfl, List.forall_mem_cons.mpr ⟨rfl, List.forall_mem_cons.mpr ⟨rfl, List.forall_mem_cons.mpr ⟨rfl, List.forall_mem_cons.mpr ⟨rfl, List.forall_mem_cons.mpr ⟨rfl, List.forall_mem_cons.mpr ⟨rfl, List.forall_mem_cons.mpr ⟨rfl, fun _ h => absurd h List.not_mem_nil⟩⟩⟩⟩⟩⟩⟩⟩⟩⟩⟩) (⟨rfl, List.forall_mem_cons.mpr ⟨rfl, fun _ h => absurd h List.not_mem_nil⟩⟩) (⟨rfl, List.forall_mem_cons.mpr ⟨rfl, fun _ h => absurd h List.not_mem_nil⟩⟩) (⟨rfl, List.forall_mem_cons.mpr ⟨rfl, fun _ h => absurd h List.not_mem_nil⟩⟩) (⟨rfl, List.forall_mem_cons.mpr ⟨rfl, fun _ h => absurd h List.not_mem_nil⟩⟩) (⟨rfl, List.forall_mem_cons.mpr ⟨rfl, List.forall_mem_cons.mpr ⟨rfl, List.forall_mem_cons.mpr ⟨rfl, List.forall_mem_cons.mpr ⟨rfl, List.forall_mem_cons.mpr ⟨rfl, fun _ h => absurd h List.not_mem_nil⟩⟩⟩⟩⟩⟩) (⟨rfl, List.forall_mem_cons.mpr ⟨rfl, List.forall_mem_cons.mpr ⟨rfl, List.forall_mem_cons.mpr ⟨rfl, List.forall_mem_cons.mpr ⟨rfl, List.forall_mem_cons.mpr ⟨rfl, fun _ h => absurd h List.not_mem_nil⟩⟩⟩⟩⟩⟩) (⟨rfl, List.forall_mem_cons.mpr ⟨rfl, List.forall_mem_cons.mpr ⟨rfl, List.forall_mem_cons.mpr ⟨rfl, fun _ h => absurd h List.not_mem_nil⟩⟩⟩⟩) (⟨rfl, List.forall_mem_cons.mpr ⟨rfl, List.forall_mem_cons.mpr ⟨rfl, fun _ h => absurd h List.not_mem_nil⟩⟩⟩) (⟨rfl, List.forall_mem_cons.mpr ⟨rfl, List.forall_mem_cons.mpr ⟨rfl, fun _ h => absurd h List.not_mem_nil⟩⟩⟩) (⟨rfl, List.forall_mem_cons.mpr ⟨rfl, List.forall_mem_cons.mpr ⟨rfl, List.forall_mem_cons.mpr ⟨rfl, List.forall_mem_cons.mpr ⟨rfl, fun _ h => absurd h List.not_mem_nil⟩⟩⟩⟩⟩) (E_m0) hl j hj
