set_option maxHeartbeats 4000000 in
set_option maxRecDepth 100000 in
theorem law_case_18 {p : Program} {l : Launch} {e : Env} {s : State} {m : MethodId} {below : List Frame} {meth : Method} {c : Code} {b : Nat} {xs : Nat → Int32} {D : va_G} {cy : Nat → ClassId} {sa : Nat → Nat} {L as : List Nat} {f : Nat → va_E} {H : Heap} {locs : List Loc} {ls : Array Slot} {h0 m0 ou q1 q2 q4 q6 q8 q15 q21 q23 q24 q27 q28 q39 q48 q61 q100 q114 q115 w10 w13 w14 w15 w16 w17 w18 w19 w56 w59 w115 : Nat} {F_h0 F_q1 F_q2 F_q4 F_q6 F_q8 F_q23 F_q27 F_q39 F_q48 F_q61 F_q100 F_m0 : List Value} (K : lc_K p l s m meth c b xs D cy sa) (hW : pq_W D (fun q : Nat => s.heap.size ≤ q) s.heap L f as [(h0, .inr (12, F_h0)), (q1, .inr (8, F_q1)), (q2, .inr (4, F_q2)), (q4, .inr (4, F_q4)), (q6, .inr (4, F_q6)), (q8, .inr (4, F_q8)), (q15, .inl (cy 1, 96, .inl (fun _ => 0))), (q21, .inl (cy 1, 159, .inl (fun _ => 0))), (q23, .inr (9, F_q23)), (q24, .inl (cy 0, 1000, .inl (fun _ => 0))), (q27, .inr (9, F_q27)), (q39, .inr (6, F_q39)), (q48, .inr (0, F_q48)), (q61, .inr (5, F_q61)), (q100, .inr (1, F_q100)), (q114, .inl (cy 7, 9, .inr (.inr (.inr (.inr (fun j => if j < 9 then some (q114 + 1 + j) else none)))))), (q115, .inl (cy 1, 9, .inl (fun _ => 0))), (m0, .inr (13, F_m0)), (w13, .inl (cy 1, 8, .inl (fun _ => 0))), (w14, .inl (cy 1, 8, .inl (fun _ => 0))), (w15, .inl (cy 1, 8, .inl (fun _ => 0))), (w16, .inl (cy 1, 8, .inl (fun _ => 0))), (w17, .inl (cy 1, 8, .inl (fun _ => 0))), (w18, .inl (cy 1, 8, .inl (fun _ => 0))), (w19, .inl (cy 1, 8, .inl (fun _ => 0))), (w56, .inl (cy 0, 1000, .inl (fun _ => 0))), (w59, .inl (cy 1, 80, .inl (fun _ => 0))), (w115, .inl (cy 1, 8, .inl (fun _ => 0))), (ou, .inl (cy 2, 1, .inr (.inl (fun _ => 0))))] H locs) (E_h0 : pq_E 17 F_h0 [(0, .ref q1), (1, .ref q23), (2, .ref q27), (5, .ref q39), (6, .ref q48), (7, .ref q61), (10, .ref q100), (11, .ref q114), (12, .ref q115), (15, .int 0)]) (E_q1 : pq_E 21 F_q1 [(0, .ref q2), (1, .ref q4), (2, .ref q6), (3, .ref q8), (5, .int (-1)), (10, .ref q15), (13, .int 0), (17, .int 0), (18, .int 0), (19, .ref q21)]) (E_q2 : pq_E 2 F_q2 [(1, .int 0)]) (E_q4 : pq_E 2 F_q4 [(1, .int 0)]) (E_q6 : pq_E 2 F_q6 [(1, .int 0)]) (E_q8 : pq_E 2 F_q8 [(1, .int 0)]) (E_q23 : pq_E 10 F_q23 [(0, .ref q24), (1, .int 0), (5, .int 0), (6, .int 0), (7, .int 0)]) (E_q27 : pq_E 10 F_q27 [(0, .ref q28), (1, .int 0), (5, .int 0), (6, .int 0), (7, .int 0)]) (E_q39 : pq_E 19 F_q39 [(0, .ref q1), (1, .ref q23), (3, .int 0)]) (E_q48 : pq_E 22 F_q48 [(3, .int 0), (6, .int 0)]) (E_q61 : pq_E 19 F_q61 [(3, .int 0), (15, .int 0)]) (E_q100 : pq_E 19 F_q100 [(2, .int 0), (4, .int 0), (9, .int 0), (14, .int 0)]) (E_m0 : pq_E 229 F_m0 [(0, .int 0), (1, .int 0), (2, .int 0), (3, .int 0), (4, .int 0), (5, .int 0), (6, .int (-1)), (16, .ref w10), (19, .ref w13), (20, .ref w14), (21, .ref w15), (22, .ref w16), (23, .ref w17), (24, .ref w18), (25, .ref w19), (42, .int 0), (59, .int 0), (64, .int 0), (65, .ref w56), (68, .int 0), (69, .int 0), (70, .int 0), (71, .int 0), (72, .int 0), (73, .int 0), (74, .int 0), (75, .long 0), (76, .int 0), (79, .int 0), (97, .ref w59), (99, .int 0), (100, .int 0), (132, .int 0), (136, .int 0), (179, .int 0), (180, .int 0), (181, .long 0), (186, .int 0), (188, .int 0), (190, .ref w115), (201, .int 0), (206, .int 0), (211, .int 0)]) (hl : lv_has ls 8 [(4, .int 0), (3, .ref ou), (2, .ref m0), (1, .ref h0), (0, .ref b)]) : W p l e room_1 s m #[Value.ref b] below meth c H locs 284 1296537 (lw_Z below #[Value.ref b] s) (F0 m 1153 ls []) := by
  obtain ⟨hx, hb, hr, hml, hown, hts, hScr, hbl, hlocks, hst, hG, hX⟩ := id K
  have hbA : ¬ (fun q : Nat => s.heap.size ≤ q) b := Nat.not_le.mpr hbl
  refine lv_aload_n hx hb dL_law_1153 rfl (lv_at hl 3 rfl) ?_
  refine lv_aload_n hx hb dL_law_1154 rfl (lv_at hl 4 rfl) ?_
  refine lv_iload hx hb dL_law_1155 (lv_at hl 0 rfl) ?_
  refine lv_iconst (v := 1) hx hb dL_law_1157 (by decide) ?_
  refine lv_iadd hx hb dL_law_1158 ?_
  refine pq_topi (y := 1) (by decide) ?_
  refine va_sld hx hb hScr hbl hbA hW.S (vp_in_iff.mpr ⟨by decide, by decide⟩) dL_law_1159 ?_
  refine pq_topi (y := xs 1) rfl ?_
  refine lv_aload_n hx hb dL_law_1160 rfl (lv_at hl 1 rfl) ?_
  refine pq_xcalli hW [0, 28, 10, 16] [1, 2, 3, 4, 5, 6, 7, 8, 9, 11, 12, 13, 14, 15, 17, 18, 19, 20, 21, 22, 23, 24, 25, 26, 27] (by decide) rfl rfl (fun f9 hw9 hC9 => vx_runSX (As := [.ref h0, .int (xs 1), .ref ou]) (rest := []) ⟨hx, hb, hml, hown, hts⟩ (c_L_show l hst D cy sa _ L f9 h0 ou q27 q115 F_h0 _ F_q27 (xs 1) hC9 E_h0 E_q27) (vx_cwSW 3 hts (pl_gS pp657 pp658 pp659 pp524) rfl rfl rfl pd_L_show ⟨Nat.le_of_ble_eq_true rfl, Nat.le_of_ble_eq_true rfl⟩) (pq_xpreS hG hX hw9) rfl rfl hl.1 rfl (lv_room (Nat.le_of_ble_eq_true rfl)) dL_law_1161 ⟨Nat.le_of_ble_eq_true rfl, Nat.le_of_ble_eq_true rfl⟩) (fun E9 ce q9 cs1 H locs hP hW hce hcv hcl => hP.elim) (fun rk cs1 H locs hP hW => ?_)
  obtain ⟨g1, rfl, hk⟩ := hP
  have hW : pq_W D _ s.heap L f as [(ou, .inl (cy 2, 1, .inr (.inl g1))), (q1, .inr (8, F_q1)), (q2, .inr (4, F_q2)), (q4, .inr (4, F_q4)), (q6, .inr (4, F_q6)), (q8, .inr (4, F_q8)), (q15, .inl (cy 1, 96, .inl (fun _ => 0))), (q21, .inl (cy 1, 159, .inl (fun _ => 0))), (q23, .inr (9, F_q23)), (q24, .inl (cy 0, 1000, .inl (fun _ => 0))), (q39, .inr (6, F_q39)), (q48, .inr (0, F_q48)), (q61, .inr (5, F_q61)), (q100, .inr (1, F_q100)), (q114, .inl (cy 7, 9, .inr (.inr (.inr (.inr (fun j => if j < 9 then some (q114 + 1 + j) else none)))))), (m0, .inr (13, F_m0)), (w13, .inl (cy 1, 8, .inl (fun _ => 0))), (w14, .inl (cy 1, 8, .inl (fun _ => 0))), (w15, .inl (cy 1, 8, .inl (fun _ => 0))), (w16, .inl (cy 1, 8, .inl (fun _ => 0))), (w17, .inl (cy 1, 8, .inl (fun _ => 0))), (w18, .inl (cy 1, 8, .inl (fun _ => 0))), (w19, .inl (cy 1, 8, .inl (fun _ => 0))), (w56, .inl (cy 0, 1000, .inl (fun _ => 0))), (w59, .inl (cy 1, 80, .inl (fun _ => 0))), (w115, .inl (cy 1, 8, .inl (fun _ => 0)))] H locs := hW
  refine lv_istore (lv' := [(5, .int rk), (4, .int 0), (3, .ref ou), (2, .ref m0), (1, .ref h0), (0, .ref b)]) hx hb dL_law_1164 hl (by decide) rfl (fun ls hl => ?_)
  refine lv_aload_n hx hb dL_law_1166 rfl (lv_at hl 3 rfl) ?_
  refine lv_aload_n hx hb dL_law_1167 rfl (lv_at hl 5 rfl) ?_
  refine lv_iload hx hb dL_law_1168 (lv_at hl 1 rfl) ?_
  refine lv_iconst (v := 1) hx hb dL_law_1170 (by decide) ?_
  refine lv_iadd hx hb dL_law_1171 ?_
  refine pq_topi (y := 1) (by decide) ?_
  refine va_sld hx hb hScr hbl hbA hW.S (vp_in_iff.mpr ⟨by decide, by decide⟩) dL_law_1172 ?_
  refine pq_topi (y := xs 1) rfl ?_
  refine pq_calli hW [15, 25] [0, 1, 2, 3, 4, 5, 6, 7, 8, 9, 10, 11, 12, 13, 14, 16, 17, 18, 19, 20, 21, 22, 23, 24] (by decide) rfl rfl (fun f9 hw9 hC9 => va_runV (C := RX13) (As := [.int (xs 1)]) (rest := []) ⟨hx, hb, hml, hown, hts⟩ (c_X13_show l D cy _ L f9 m0 w115 F_m0 (xs 1) hC9 E_m0) (cwV 1 hts (pl_gV pp660 pp661 pp662 pp663 pp20) rfl rfl rfl pd_X13_show ⟨Nat.le_of_ble_eq_true rfl, Nat.le_of_ble_eq_true rfl⟩) (pq_preV hG hw9 hC9 (j := 0) rfl rfl) rfl rfl hl.1 rfl (lv_room (Nat.le_of_ble_eq_true rfl)) dL_law_1173 ⟨Nat.le_of_ble_eq_true rfl, Nat.le_of_ble_eq_true rfl⟩) (fun rb cs1 H locs hP hW => ?_)
  obtain ⟨G9, t9, rfl, hEm, hm⟩ := hP
  have hW : pq_W D _ s.heap L f as [(m0, .inr (13, G9)), (ou, .inl (cy 2, 1, .inr (.inl g1))), (q1, .inr (8, F_q1)), (q2, .inr (4, F_q2)), (q4, .inr (4, F_q4)), (q6, .inr (4, F_q6)), (q8, .inr (4, F_q8)), (q15, .inl (cy 1, 96, .inl (fun _ => 0))), (q21, .inl (cy 1, 159, .inl (fun _ => 0))), (q23, .inr (9, F_q23)), (q24, .inl (cy 0, 1000, .inl (fun _ => 0))), (q39, .inr (6, F_q39)), (q48, .inr (0, F_q48)), (q61, .inr (5, F_q61)), (q100, .inr (1, F_q100)), (q114, .inl (cy 7, 9, .inr (.inr (.inr (.inr (fun j => if j < 9 then some (q114 + 1 + j) else none)))))), (w13, .inl (cy 1, 8, .inl (fun _ => 0))), (w14, .inl (cy 1, 8, .inl (fun _ => 0))), (w15, .inl (cy 1, 8, .inl (fun _ => 0))), (w16, .inl (cy 1, 8, .inl (fun _ => 0))), (w17, .inl (cy 1, 8, .inl (fun _ => 0))), (w18, .inl (cy 1, 8, .inl (fun _ => 0))), (w19, .inl (cy 1, 8, .inl (fun _ => 0))), (w56, .inl (cy 0, 1000, .inl (fun _ => 0))), (w59, .inl (cy 1, 80, .inl (fun _ => 0)))] H locs := hW
  rcases hk with ⟨rfl, h1⟩ | ⟨rfl, h1, hg⟩
  · rcases hm with ⟨rfl, h2⟩ | ⟨rfl, h2, hv⟩
    · refine lv_istore (lv' := [(6, .int rb), (5, .int 1), (4, .int 0), (3, .ref ou), (2, .ref m0), (1, .ref h0), (0, .ref b)]) hx hb dL_law_1176 hl (by decide) rfl (fun ls hl => ?_)
      refine lv_aload_n hx hb dL_law_1178 rfl (lv_at hl 4 rfl) ?_
      refine pq_calli hW [0] [1, 2, 3, 4, 5, 6, 7, 8, 9, 10, 11, 12, 13, 14, 15, 16, 17, 18, 19, 20, 21, 22, 23, 24] (by decide) rfl rfl (fun f9 hw9 hC9 => va_runV (C := RX13) (As := []) (rest := []) ⟨hx, hb, hml, hown, hts⟩ (c_X13_thrown l D cy _ L f9 m0 G9 1 hC9 hEm) (cwV 0 hts (pl_gV pp529 pp530 pp531 pp532 pp20) rfl rfl rfl pd_X13_thrown ⟨Nat.le_of_ble_eq_true rfl, Nat.le_of_ble_eq_true rfl⟩) (pq_preV hG hw9 hC9 (j := 0) rfl rfl) rfl rfl hl.1 rfl (lv_room (Nat.le_of_ble_eq_true rfl)) dL_law_1179 ⟨Nat.le_of_ble_eq_true rfl, Nat.le_of_ble_eq_true rfl⟩) (fun r9 cs1 H locs hP hW => ?_)
      obtain ⟨rfl, rfl⟩ := hP
      have hW : pq_W D _ s.heap L f as [(m0, .inr (13, G9)), (ou, .inl (cy 2, 1, .inr (.inl g1))), (q1, .inr (8, F_q1)), (q2, .inr (4, F_q2)), (q4, .inr (4, F_q4)), (q6, .inr (4, F_q6)), (q8, .inr (4, F_q8)), (q15, .inl (cy 1, 96, .inl (fun _ => 0))), (q21, .inl (cy 1, 159, .inl (fun _ => 0))), (q23, .inr (9, F_q23)), (q24, .inl (cy 0, 1000, .inl (fun _ => 0))), (q39, .inr (6, F_q39)), (q48, .inr (0, F_q48)), (q61, .inr (5, F_q61)), (q100, .inr (1, F_q100)), (q114, .inl (cy 7, 9, .inr (.inr (.inr (.inr (fun j => if j < 9 then some (q114 + 1 + j) else none)))))), (w13, .inl (cy 1, 8, .inl (fun _ => 0))), (w14, .inl (cy 1, 8, .inl (fun _ => 0))), (w15, .inl (cy 1, 8, .inl (fun _ => 0))), (w16, .inl (cy 1, 8, .inl (fun _ => 0))), (w17, .inl (cy 1, 8, .inl (fun _ => 0))), (w18, .inl (cy 1, 8, .inl (fun _ => 0))), (w19, .inl (cy 1, 8, .inl (fun _ => 0))), (w56, .inl (cy 0, 1000, .inl (fun _ => 0))), (w59, .inl (cy 1, 80, .inl (fun _ => 0)))] H locs := hW
      refine lv_iload hx hb dL_law_1182 (lv_at hl 1 rfl) ?_
      refine lv_icmp_eq (tgt := 1189) hx hb dL_law_1184 (by decide) (fun _ => ?_) (fun c9 => absurd c9 (by decide))
      refine lv_iload hx hb dL_law_1189 (lv_at hl 1 rfl) ?_
      refine lv_if_ne (tgt := 1206) hx hb dL_law_1191 (by decide) (fun _ => ?_) (fun c9 => absurd c9 (by decide))
      refine lv_goto (tgt := 1897) hx hb dL_law_1206 (by decide) ?_
      exact law_tail K (lv_sub hl [2, 6] rfl) hW.S (Nat.le_of_ble_eq_true rfl) (Nat.le_of_ble_eq_true rfl)
    · exact absurd h1 h2
  · rcases hm with ⟨rfl, h2⟩ | ⟨rfl, h2, hv⟩
    · exact absurd h2 h1
    · subst hv
      refine lv_istore (lv' := [(6, .int (-1)), (5, .int 0), (4, .int 0), (3, .ref ou), (2, .ref m0), (1, .ref h0), (0, .ref b)]) hx hb dL_law_1176 hl (by decide) rfl (fun ls hl => ?_)
      refine lv_aload_n hx hb dL_law_1178 rfl (lv_at hl 4 rfl) ?_
      refine pq_calli hW [0] [1, 2, 3, 4, 5, 6, 7, 8, 9, 10, 11, 12, 13, 14, 15, 16, 17, 18, 19, 20, 21, 22, 23, 24] (by decide) rfl rfl (fun f9 hw9 hC9 => va_runV (C := RX13) (As := []) (rest := []) ⟨hx, hb, hml, hown, hts⟩ (c_X13_thrown l D cy _ L f9 m0 G9 0 hC9 hEm) (cwV 0 hts (pl_gV pp529 pp530 pp531 pp532 pp20) rfl rfl rfl pd_X13_thrown ⟨Nat.le_of_ble_eq_true rfl, Nat.le_of_ble_eq_true rfl⟩) (pq_preV hG hw9 hC9 (j := 0) rfl rfl) rfl rfl hl.1 rfl (lv_room (Nat.le_of_ble_eq_true rfl)) dL_law_1179 ⟨Nat.le_of_ble_eq_true rfl, Nat.le_of_ble_eq_true rfl⟩) (fun r9 cs1 H locs hP hW => ?_)
      obtain ⟨rfl, rfl⟩ := hP
      have hW : pq_W D _ s.heap L f as [(m0, .inr (13, G9)), (ou, .inl (cy 2, 1, .inr (.inl g1))), (q1, .inr (8, F_q1)), (q2, .inr (4, F_q2)), (q4, .inr (4, F_q4)), (q6, .inr (4, F_q6)), (q8, .inr (4, F_q8)), (q15, .inl (cy 1, 96, .inl (fun _ => 0))), (q21, .inl (cy 1, 159, .inl (fun _ => 0))), (q23, .inr (9, F_q23)), (q24, .inl (cy 0, 1000, .inl (fun _ => 0))), (q39, .inr (6, F_q39)), (q48, .inr (0, F_q48)), (q61, .inr (5, F_q61)), (q100, .inr (1, F_q100)), (q114, .inl (cy 7, 9, .inr (.inr (.inr (.inr (fun j => if j < 9 then some (q114 + 1 + j) else none)))))), (w13, .inl (cy 1, 8, .inl (fun _ => 0))), (w14, .inl (cy 1, 8, .inl (fun _ => 0))), (w15, .inl (cy 1, 8, .inl (fun _ => 0))), (w16, .inl (cy 1, 8, .inl (fun _ => 0))), (w17, .inl (cy 1, 8, .inl (fun _ => 0))), (w18, .inl (cy 1, 8, .inl (fun _ => 0))), (w19, .inl (cy 1, 8, .inl (fun _ => 0))), (w56, .inl (cy 0, 1000, .inl (fun _ => 0))), (w59, .inl (cy 1, 80, .inl (fun _ => 0)))] H locs := hW
      refine lv_iload hx hb dL_law_1182 (lv_at hl 1 rfl) ?_
      refine lv_icmp_eq (tgt := 1189) hx hb dL_law_1184 (by decide) (fun _ => ?_) (fun c9 => absurd c9 (by decide))
      refine lv_iload hx hb dL_law_1189 (lv_at hl 1 rfl) ?_
      refine lv_if_ne (tgt := 1206) hx hb dL_law_1191 (by decide) (fun c9 => absurd c9 (by decide)) (fun _ => ?_)
      refine lv_aload_n hx hb dL_law_1194 rfl (lv_at hl 3 rfl) ?_
      refine lv_iconst (v := 0) hx hb dL_law_1195 (by decide) ?_
      refine pq_lald hx hb hG hW 1 rfl (vp_in_iff.mpr ⟨by decide, by decide⟩) hg dL_law_1196 ?_
      refine lv_iload hx hb dL_law_1197 (lv_at hl 0 rfl) ?_
      refine lv_i2l (v := (-1)) hx hb dL_law_1199 (by decide) ?_
      refine W.lcmp hx hb dL_law_1200 ?_
      refine pq_topi (y := 0) (by decide) ?_
      refine lv_if_eq (tgt := 1206) hx hb dL_law_1201 (by decide) (fun _ => ?_) (fun c9 => absurd c9 (by decide))
      refine lv_goto (tgt := 1897) hx hb dL_law_1206 (by decide) ?_
      exact law_tail K (lv_sub hl [2, 6] rfl) hW.S (Nat.le_of_ble_eq_true rfl) (Nat.le_of_ble_eq_true rfl)
set_option maxHeartbeats 4000000 in
set_option maxRecDepth 100000 in
theorem law_case_19 {p : Program} {l : Launch} {e : Env} {s : State} {m : MethodId} {below : List Frame} {meth : Method} {c : Code} {b : Nat} {xs : Nat → Int32} {D : va_G} {cy : Nat → ClassId} {sa : Nat → Nat} {L as : List Nat} {f : Nat → va_E} {H : Heap} {locs : List Loc} {ls : Array Slot} {h0 m0 ou q1 q2 q4 q6 q8 q15 q21 q23 q24 q27 q28 q39 q48 q61 q100 q114 q115 w10 w13 w14 w15 w16 w17 w18 w19 w56 w59 w115 : Nat} {F_h0 F_q1 F_q2 F_q4 F_q6 F_q8 F_q23 F_q27 F_q39 F_q48 F_q61 F_q100 F_m0 : List Value} (K : lc_K p l s m meth c b xs D cy sa) (hW : pq_W D (fun q : Nat => s.heap.size ≤ q) s.heap L f as [(h0, .inr (12, F_h0)), (q1, .inr (8, F_q1)), (q2, .inr (4, F_q2)), (q4, .inr (4, F_q4)), (q6, .inr (4, F_q6)), (q8, .inr (4, F_q8)), (q15, .inl (cy 1, 96, .inl (fun _ => 0))), (q21, .inl (cy 1, 159, .inl (fun _ => 0))), (q23, .inr (9, F_q23)), (q24, .inl (cy 0, 1000, .inl (fun _ => 0))), (q27, .inr (9, F_q27)), (q39, .inr (6, F_q39)), (q48, .inr (0, F_q48)), (q61, .inr (5, F_q61)), (q100, .inr (1, F_q100)), (q114, .inl (cy 7, 9, .inr (.inr (.inr (.inr (fun j => if j < 9 then some (q114 + 1 + j) else none)))))), (q115, .inl (cy 1, 9, .inl (fun _ => 0))), (m0, .inr (13, F_m0)), (w13, .inl (cy 1, 8, .inl (fun _ => 0))), (w14, .inl (cy 1, 8, .inl (fun _ => 0))), (w15, .inl (cy 1, 8, .inl (fun _ => 0))), (w16, .inl (cy 1, 8, .inl (fun _ => 0))), (w17, .inl (cy 1, 8, .inl (fun _ => 0))), (w18, .inl (cy 1, 8, .inl (fun _ => 0))), (w19, .inl (cy 1, 8, .inl (fun _ => 0))), (w56, .inl (cy 0, 1000, .inl (fun _ => 0))), (w59, .inl (cy 1, 80, .inl (fun _ => 0))), (w115, .inl (cy 1, 8, .inl (fun _ => 0))), (ou, .inl (cy 2, 1, .inr (.inl (fun _ => 0))))] H locs) (E_h0 : pq_E 17 F_h0 [(0, .ref q1), (1, .ref q23), (2, .ref q27), (5, .ref q39), (6, .ref q48), (7, .ref q61), (10, .ref q100), (11, .ref q114), (12, .ref q115), (15, .int 0)]) (E_q1 : pq_E 21 F_q1 [(0, .ref q2), (1, .ref q4), (2, .ref q6), (3, .ref q8), (5, .int (-1)), (10, .ref q15), (13, .int 0), (17, .int 0), (18, .int 0), (19, .ref q21)]) (E_q2 : pq_E 2 F_q2 [(1, .int 0)]) (E_q4 : pq_E 2 F_q4 [(1, .int 0)]) (E_q6 : pq_E 2 F_q6 [(1, .int 0)]) (E_q8 : pq_E 2 F_q8 [(1, .int 0)]) (E_q23 : pq_E 10 F_q23 [(0, .ref q24), (1, .int 0), (5, .int 0), (6, .int 0), (7, .int 0)]) (E_q27 : pq_E 10 F_q27 [(0, .ref q28), (1, .int 0), (5, .int 0), (6, .int 0), (7, .int 0)]) (E_q39 : pq_E 19 F_q39 [(0, .ref q1), (1, .ref q23), (3, .int 0)]) (E_q48 : pq_E 22 F_q48 [(3, .int 0), (6, .int 0)]) (E_q61 : pq_E 19 F_q61 [(3, .int 0), (15, .int 0)]) (E_q100 : pq_E 19 F_q100 [(2, .int 0), (4, .int 0), (9, .int 0), (14, .int 0)]) (E_m0 : pq_E 229 F_m0 [(0, .int 0), (1, .int 0), (2, .int 0), (3, .int 0), (4, .int 0), (5, .int 0), (6, .int (-1)), (16, .ref w10), (19, .ref w13), (20, .ref w14), (21, .ref w15), (22, .ref w16), (23, .ref w17), (24, .ref w18), (25, .ref w19), (42, .int 0), (59, .int 0), (64, .int 0), (65, .ref w56), (68, .int 0), (69, .int 0), (70, .int 0), (71, .int 0), (72, .int 0), (73, .int 0), (74, .int 0), (75, .long 0), (76, .int 0), (79, .int 0), (97, .ref w59), (99, .int 0), (100, .int 0), (132, .int 0), (136, .int 0), (179, .int 0), (180, .int 0), (181, .long 0), (186, .int 0), (188, .int 0), (190, .ref w115), (201, .int 0), (206, .int 0), (211, .int 0)]) (hl : lv_has ls 8 [(4, .int 0), (3, .ref ou), (2, .ref m0), (1, .ref h0), (0, .ref b)]) : W p l e room_1 s m #[Value.ref b] below meth c H locs 284 1296537 (lw_Z below #[Value.ref b] s) (F0 m 1209 ls []) := by
  obtain ⟨hx, hb, hr, hml, hown, hts, hScr, hbl, hlocks, hst, hG, hX⟩ := id K
  have hbA : ¬ (fun q : Nat => s.heap.size ≤ q) b := Nat.not_le.mpr hbl
  refine lv_aload_n hx hb dL_law_1209 rfl (lv_at hl 3 rfl) ?_
  refine lv_aload_n hx hb dL_law_1210 rfl (lv_at hl 4 rfl) ?_
  refine lv_iload hx hb dL_law_1211 (lv_at hl 0 rfl) ?_
  refine lv_iconst (v := 1) hx hb dL_law_1213 (by decide) ?_
  refine lv_iadd hx hb dL_law_1214 ?_
  refine pq_topi (y := 1) (by decide) ?_
  refine va_sld hx hb hScr hbl hbA hW.S (vp_in_iff.mpr ⟨by decide, by decide⟩) dL_law_1215 ?_
  refine pq_topi (y := xs 1) rfl ?_
  refine lv_aload_n hx hb dL_law_1216 rfl (lv_at hl 4 rfl) ?_
  refine lv_iload hx hb dL_law_1217 (lv_at hl 0 rfl) ?_
  refine lv_iconst (v := 2) hx hb dL_law_1219 (by decide) ?_
  refine lv_iadd hx hb dL_law_1220 ?_
  refine pq_topi (y := 2) (by decide) ?_
  refine va_sld hx hb hScr hbl hbA hW.S (vp_in_iff.mpr ⟨by decide, by decide⟩) dL_law_1221 ?_
  refine pq_topi (y := xs 2) rfl ?_
  refine lv_aload_n hx hb dL_law_1222 rfl (lv_at hl 1 rfl) ?_
  refine pq_xcalli hW [0, 28, 16] [1, 2, 3, 4, 5, 6, 7, 8, 9, 10, 11, 12, 13, 14, 15, 17, 18, 19, 20, 21, 22, 23, 24, 25, 26, 27] (by decide) rfl rfl (fun f9 hw9 hC9 => vx_runSX (As := [.ref h0, .int (xs 1), .int (xs 2), .ref ou]) (rest := []) ⟨hx, hb, hml, hown, hts⟩ (c_L_same l hst D cy sa _ L f9 h0 ou q115 F_h0 _ (xs 1) (xs 2) hC9 E_h0) (vx_cwSW 4 hts (pl_gS pp664 pp665 pp666 pp524) rfl rfl rfl pd_L_same ⟨Nat.le_of_ble_eq_true rfl, Nat.le_of_ble_eq_true rfl⟩) (pq_xpreS hG hX hw9) rfl rfl hl.1 rfl (lv_room (Nat.le_of_ble_eq_true rfl)) dL_law_1223 ⟨Nat.le_of_ble_eq_true rfl, Nat.le_of_ble_eq_true rfl⟩) (fun E9 ce q9 cs1 H locs hP hW hce hcv hcl => hP.elim) (fun rk cs1 H locs hP hW => ?_)
  obtain ⟨g1, rfl, hk⟩ := hP
  have hW : pq_W D _ s.heap L f as [(ou, .inl (cy 2, 1, .inr (.inl g1))), (q1, .inr (8, F_q1)), (q2, .inr (4, F_q2)), (q4, .inr (4, F_q4)), (q6, .inr (4, F_q6)), (q8, .inr (4, F_q8)), (q15, .inl (cy 1, 96, .inl (fun _ => 0))), (q21, .inl (cy 1, 159, .inl (fun _ => 0))), (q23, .inr (9, F_q23)), (q24, .inl (cy 0, 1000, .inl (fun _ => 0))), (q27, .inr (9, F_q27)), (q39, .inr (6, F_q39)), (q48, .inr (0, F_q48)), (q61, .inr (5, F_q61)), (q100, .inr (1, F_q100)), (q114, .inl (cy 7, 9, .inr (.inr (.inr (.inr (fun j => if j < 9 then some (q114 + 1 + j) else none)))))), (m0, .inr (13, F_m0)), (w13, .inl (cy 1, 8, .inl (fun _ => 0))), (w14, .inl (cy 1, 8, .inl (fun _ => 0))), (w15, .inl (cy 1, 8, .inl (fun _ => 0))), (w16, .inl (cy 1, 8, .inl (fun _ => 0))), (w17, .inl (cy 1, 8, .inl (fun _ => 0))), (w18, .inl (cy 1, 8, .inl (fun _ => 0))), (w19, .inl (cy 1, 8, .inl (fun _ => 0))), (w56, .inl (cy 0, 1000, .inl (fun _ => 0))), (w59, .inl (cy 1, 80, .inl (fun _ => 0))), (w115, .inl (cy 1, 8, .inl (fun _ => 0)))] H locs := hW
  refine lv_istore (lv' := [(5, .int rk), (4, .int 0), (3, .ref ou), (2, .ref m0), (1, .ref h0), (0, .ref b)]) hx hb dL_law_1226 hl (by decide) rfl (fun ls hl => ?_)
  refine lv_aload_n hx hb dL_law_1228 rfl (lv_at hl 3 rfl) ?_
  refine lv_aload_n hx hb dL_law_1229 rfl (lv_at hl 5 rfl) ?_
  refine lv_iload hx hb dL_law_1230 (lv_at hl 1 rfl) ?_
  refine lv_iconst (v := 1) hx hb dL_law_1232 (by decide) ?_
  refine lv_iadd hx hb dL_law_1233 ?_
  refine pq_topi (y := 1) (by decide) ?_
  refine va_sld hx hb hScr hbl hbA hW.S (vp_in_iff.mpr ⟨by decide, by decide⟩) dL_law_1234 ?_
  refine pq_topi (y := xs 1) rfl ?_
  refine lv_aload_n hx hb dL_law_1235 rfl (lv_at hl 5 rfl) ?_
  refine lv_iload hx hb dL_law_1236 (lv_at hl 1 rfl) ?_
  refine lv_iconst (v := 2) hx hb dL_law_1238 (by decide) ?_
  refine lv_iadd hx hb dL_law_1239 ?_
  refine pq_topi (y := 2) (by decide) ?_
  refine va_sld hx hb hScr hbl hbA hW.S (vp_in_iff.mpr ⟨by decide, by decide⟩) dL_law_1240 ?_
  refine pq_topi (y := xs 2) rfl ?_
  refine pq_calli hW [16, 26] [0, 1, 2, 3, 4, 5, 6, 7, 8, 9, 10, 11, 12, 13, 14, 15, 17, 18, 19, 20, 21, 22, 23, 24, 25] (by decide) rfl rfl (fun f9 hw9 hC9 => va_runV (C := RX13) (As := [.int (xs 1), .int (xs 2)]) (rest := []) ⟨hx, hb, hml, hown, hts⟩ (c_X13_same l D cy _ L f9 m0 w115 F_m0 (xs 1) (xs 2) hC9 E_m0) (cwV 2 hts (pl_gV pp667 pp668 pp669 pp670 pp20) rfl rfl rfl pd_X13_same ⟨Nat.le_of_ble_eq_true rfl, Nat.le_of_ble_eq_true rfl⟩) (pq_preV hG hw9 hC9 (j := 0) rfl rfl) rfl rfl hl.1 rfl (lv_room (Nat.le_of_ble_eq_true rfl)) dL_law_1241 ⟨Nat.le_of_ble_eq_true rfl, Nat.le_of_ble_eq_true rfl⟩) (fun rb cs1 H locs hP hW => ?_)
  obtain ⟨G9, t9, rfl, hEm, hm⟩ := hP
  have hW : pq_W D _ s.heap L f as [(m0, .inr (13, G9)), (ou, .inl (cy 2, 1, .inr (.inl g1))), (q1, .inr (8, F_q1)), (q2, .inr (4, F_q2)), (q4, .inr (4, F_q4)), (q6, .inr (4, F_q6)), (q8, .inr (4, F_q8)), (q15, .inl (cy 1, 96, .inl (fun _ => 0))), (q21, .inl (cy 1, 159, .inl (fun _ => 0))), (q23, .inr (9, F_q23)), (q24, .inl (cy 0, 1000, .inl (fun _ => 0))), (q27, .inr (9, F_q27)), (q39, .inr (6, F_q39)), (q48, .inr (0, F_q48)), (q61, .inr (5, F_q61)), (q100, .inr (1, F_q100)), (q114, .inl (cy 7, 9, .inr (.inr (.inr (.inr (fun j => if j < 9 then some (q114 + 1 + j) else none)))))), (w13, .inl (cy 1, 8, .inl (fun _ => 0))), (w14, .inl (cy 1, 8, .inl (fun _ => 0))), (w15, .inl (cy 1, 8, .inl (fun _ => 0))), (w16, .inl (cy 1, 8, .inl (fun _ => 0))), (w17, .inl (cy 1, 8, .inl (fun _ => 0))), (w18, .inl (cy 1, 8, .inl (fun _ => 0))), (w19, .inl (cy 1, 8, .inl (fun _ => 0))), (w56, .inl (cy 0, 1000, .inl (fun _ => 0))), (w59, .inl (cy 1, 80, .inl (fun _ => 0)))] H locs := hW
  rcases hk with ⟨rfl, h1⟩ | ⟨rfl, h1, hg⟩
  · rcases hm with ⟨rfl, h2⟩ | ⟨rfl, h2, hv⟩
    · refine lv_istore (lv' := [(6, .int rb), (5, .int 1), (4, .int 0), (3, .ref ou), (2, .ref m0), (1, .ref h0), (0, .ref b)]) hx hb dL_law_1244 hl (by decide) rfl (fun ls hl => ?_)
      refine lv_aload_n hx hb dL_law_1246 rfl (lv_at hl 4 rfl) ?_
      refine pq_calli hW [0] [1, 2, 3, 4, 5, 6, 7, 8, 9, 10, 11, 12, 13, 14, 15, 16, 17, 18, 19, 20, 21, 22, 23, 24, 25] (by decide) rfl rfl (fun f9 hw9 hC9 => va_runV (C := RX13) (As := []) (rest := []) ⟨hx, hb, hml, hown, hts⟩ (c_X13_thrown l D cy _ L f9 m0 G9 1 hC9 hEm) (cwV 0 hts (pl_gV pp529 pp530 pp531 pp532 pp20) rfl rfl rfl pd_X13_thrown ⟨Nat.le_of_ble_eq_true rfl, Nat.le_of_ble_eq_true rfl⟩) (pq_preV hG hw9 hC9 (j := 0) rfl rfl) rfl rfl hl.1 rfl (lv_room (Nat.le_of_ble_eq_true rfl)) dL_law_1247 ⟨Nat.le_of_ble_eq_true rfl, Nat.le_of_ble_eq_true rfl⟩) (fun r9 cs1 H locs hP hW => ?_)
      obtain ⟨rfl, rfl⟩ := hP
      have hW : pq_W D _ s.heap L f as [(m0, .inr (13, G9)), (ou, .inl (cy 2, 1, .inr (.inl g1))), (q1, .inr (8, F_q1)), (q2, .inr (4, F_q2)), (q4, .inr (4, F_q4)), (q6, .inr (4, F_q6)), (q8, .inr (4, F_q8)), (q15, .inl (cy 1, 96, .inl (fun _ => 0))), (q21, .inl (cy 1, 159, .inl (fun _ => 0))), (q23, .inr (9, F_q23)), (q24, .inl (cy 0, 1000, .inl (fun _ => 0))), (q27, .inr (9, F_q27)), (q39, .inr (6, F_q39)), (q48, .inr (0, F_q48)), (q61, .inr (5, F_q61)), (q100, .inr (1, F_q100)), (q114, .inl (cy 7, 9, .inr (.inr (.inr (.inr (fun j => if j < 9 then some (q114 + 1 + j) else none)))))), (w13, .inl (cy 1, 8, .inl (fun _ => 0))), (w14, .inl (cy 1, 8, .inl (fun _ => 0))), (w15, .inl (cy 1, 8, .inl (fun _ => 0))), (w16, .inl (cy 1, 8, .inl (fun _ => 0))), (w17, .inl (cy 1, 8, .inl (fun _ => 0))), (w18, .inl (cy 1, 8, .inl (fun _ => 0))), (w19, .inl (cy 1, 8, .inl (fun _ => 0))), (w56, .inl (cy 0, 1000, .inl (fun _ => 0))), (w59, .inl (cy 1, 80, .inl (fun _ => 0)))] H locs := hW
      refine lv_iload hx hb dL_law_1250 (lv_at hl 1 rfl) ?_
      refine lv_icmp_eq (tgt := 1257) hx hb dL_law_1252 (by decide) (fun _ => ?_) (fun c9 => absurd c9 (by decide))
      refine lv_iload hx hb dL_law_1257 (lv_at hl 1 rfl) ?_
      refine lv_if_ne (tgt := 1281) hx hb dL_law_1259 (by decide) (fun _ => ?_) (fun c9 => absurd c9 (by decide))
      refine lv_goto (tgt := 1897) hx hb dL_law_1281 (by decide) ?_
      exact law_tail K (lv_sub hl [2, 6] rfl) hW.S (Nat.le_of_ble_eq_true rfl) (Nat.le_of_ble_eq_true rfl)
    · exact absurd h1 h2
  · rcases hm with ⟨rfl, h2⟩ | ⟨rfl, h2, hv⟩
    · exact absurd h2 h1
    · subst hv
      refine lv_istore (lv' := [(6, .int 1), (5, .int 0), (4, .int 0), (3, .ref ou), (2, .ref m0), (1, .ref h0), (0, .ref b)]) hx hb dL_law_1244 hl (by decide) rfl (fun ls hl => ?_)
      refine lv_aload_n hx hb dL_law_1246 rfl (lv_at hl 4 rfl) ?_
      refine pq_calli hW [0] [1, 2, 3, 4, 5, 6, 7, 8, 9, 10, 11, 12, 13, 14, 15, 16, 17, 18, 19, 20, 21, 22, 23, 24, 25] (by decide) rfl rfl (fun f9 hw9 hC9 => va_runV (C := RX13) (As := []) (rest := []) ⟨hx, hb, hml, hown, hts⟩ (c_X13_thrown l D cy _ L f9 m0 G9 0 hC9 hEm) (cwV 0 hts (pl_gV pp529 pp530 pp531 pp532 pp20) rfl rfl rfl pd_X13_thrown ⟨Nat.le_of_ble_eq_true rfl, Nat.le_of_ble_eq_true rfl⟩) (pq_preV hG hw9 hC9 (j := 0) rfl rfl) rfl rfl hl.1 rfl (lv_room (Nat.le_of_ble_eq_true rfl)) dL_law_1247 ⟨Nat.le_of_ble_eq_true rfl, Nat.le_of_ble_eq_true rfl⟩) (fun r9 cs1 H locs hP hW => ?_)
      obtain ⟨rfl, rfl⟩ := hP
      have hW : pq_W D _ s.heap L f as [(m0, .inr (13, G9)), (ou, .inl (cy 2, 1, .inr (.inl g1))), (q1, .inr (8, F_q1)), (q2, .inr (4, F_q2)), (q4, .inr (4, F_q4)), (q6, .inr (4, F_q6)), (q8, .inr (4, F_q8)), (q15, .inl (cy 1, 96, .inl (fun _ => 0))), (q21, .inl (cy 1, 159, .inl (fun _ => 0))), (q23, .inr (9, F_q23)), (q24, .inl (cy 0, 1000, .inl (fun _ => 0))), (q27, .inr (9, F_q27)), (q39, .inr (6, F_q39)), (q48, .inr (0, F_q48)), (q61, .inr (5, F_q61)), (q100, .inr (1, F_q100)), (q114, .inl (cy 7, 9, .inr (.inr (.inr (.inr (fun j => if j < 9 then some (q114 + 1 + j) else none)))))), (w13, .inl (cy 1, 8, .inl (fun _ => 0))), (w14, .inl (cy 1, 8, .inl (fun _ => 0))), (w15, .inl (cy 1, 8, .inl (fun _ => 0))), (w16, .inl (cy 1, 8, .inl (fun _ => 0))), (w17, .inl (cy 1, 8, .inl (fun _ => 0))), (w18, .inl (cy 1, 8, .inl (fun _ => 0))), (w19, .inl (cy 1, 8, .inl (fun _ => 0))), (w56, .inl (cy 0, 1000, .inl (fun _ => 0))), (w59, .inl (cy 1, 80, .inl (fun _ => 0)))] H locs := hW
      refine lv_iload hx hb dL_law_1250 (lv_at hl 1 rfl) ?_
      refine lv_icmp_eq (tgt := 1257) hx hb dL_law_1252 (by decide) (fun _ => ?_) (fun c9 => absurd c9 (by decide))
      refine lv_iload hx hb dL_law_1257 (lv_at hl 1 rfl) ?_
      refine lv_if_ne (tgt := 1281) hx hb dL_law_1259 (by decide) (fun c9 => absurd c9 (by decide)) (fun _ => ?_)
      refine lv_aload_n hx hb dL_law_1262 rfl (lv_at hl 3 rfl) ?_
      refine lv_iconst (v := 0) hx hb dL_law_1263 (by decide) ?_
      refine pq_lald hx hb hG hW 1 rfl (vp_in_iff.mpr ⟨by decide, by decide⟩) hg dL_law_1264 ?_
      refine lv_iload hx hb dL_law_1265 (lv_at hl 0 rfl) ?_
      refine lv_if_eq (tgt := 1274) hx hb dL_law_1267 (by decide) (fun c9 => absurd c9 (by decide)) (fun _ => ?_)
      refine lv_lconst (v := 1) hx hb dL_law_1270 (by decide) ?_
      refine lv_goto (tgt := 1275) hx hb dL_law_1271 (by decide) ?_
      refine W.lcmp hx hb dL_law_1275 ?_
      refine pq_topi (y := 0) (by decide) ?_
      refine lv_if_eq (tgt := 1281) hx hb dL_law_1276 (by decide) (fun _ => ?_) (fun c9 => absurd c9 (by decide))
      refine lv_goto (tgt := 1897) hx hb dL_law_1281 (by decide) ?_
      exact law_tail K (lv_sub hl [2, 6] rfl) hW.S (Nat.le_of_ble_eq_true rfl) (Nat.le_of_ble_eq_true rfl)
set_option maxHeartbeats 4000000 in
set_option maxRecDepth 100000 in
theorem law_case_20 {p : Program} {l : Launch} {e : Env} {s : State} {m : MethodId} {below : List Frame} {meth : Method} {c : Code} {b : Nat} {xs : Nat → Int32} {D : va_G} {cy : Nat → ClassId} {sa : Nat → Nat} {L as : List Nat} {f : Nat → va_E} {H : Heap} {locs : List Loc} {ls : Array Slot} {h0 m0 ou q1 q2 q4 q6 q8 q15 q21 q23 q24 q27 q28 q39 q48 q61 q100 q114 q115 w10 w13 w14 w15 w16 w17 w18 w19 w56 w59 w115 : Nat} {F_h0 F_q1 F_q2 F_q4 F_q6 F_q8 F_q23 F_q27 F_q39 F_q48 F_q61 F_q100 F_m0 : List Value} (K : lc_K p l s m meth c b xs D cy sa) (hW : pq_W D (fun q : Nat => s.heap.size ≤ q) s.heap L f as [(h0, .inr (12, F_h0)), (q1, .inr (8, F_q1)), (q2, .inr (4, F_q2)), (q4, .inr (4, F_q4)), (q6, .inr (4, F_q6)), (q8, .inr (4, F_q8)), (q15, .inl (cy 1, 96, .inl (fun _ => 0))), (q21, .inl (cy 1, 159, .inl (fun _ => 0))), (q23, .inr (9, F_q23)), (q24, .inl (cy 0, 1000, .inl (fun _ => 0))), (q27, .inr (9, F_q27)), (q39, .inr (6, F_q39)), (q48, .inr (0, F_q48)), (q61, .inr (5, F_q61)), (q100, .inr (1, F_q100)), (q114, .inl (cy 7, 9, .inr (.inr (.inr (.inr (fun j => if j < 9 then some (q114 + 1 + j) else none)))))), (q115, .inl (cy 1, 9, .inl (fun _ => 0))), (m0, .inr (13, F_m0)), (w13, .inl (cy 1, 8, .inl (fun _ => 0))), (w14, .inl (cy 1, 8, .inl (fun _ => 0))), (w15, .inl (cy 1, 8, .inl (fun _ => 0))), (w16, .inl (cy 1, 8, .inl (fun _ => 0))), (w17, .inl (cy 1, 8, .inl (fun _ => 0))), (w18, .inl (cy 1, 8, .inl (fun _ => 0))), (w19, .inl (cy 1, 8, .inl (fun _ => 0))), (w56, .inl (cy 0, 1000, .inl (fun _ => 0))), (w59, .inl (cy 1, 80, .inl (fun _ => 0))), (w115, .inl (cy 1, 8, .inl (fun _ => 0))), (ou, .inl (cy 2, 1, .inr (.inl (fun _ => 0))))] H locs) (E_h0 : pq_E 17 F_h0 [(0, .ref q1), (1, .ref q23), (2, .ref q27), (5, .ref q39), (6, .ref q48), (7, .ref q61), (10, .ref q100), (11, .ref q114), (12, .ref q115), (15, .int 0)]) (E_q1 : pq_E 21 F_q1 [(0, .ref q2), (1, .ref q4), (2, .ref q6), (3, .ref q8), (5, .int (-1)), (10, .ref q15), (13, .int 0), (17, .int 0), (18, .int 0), (19, .ref q21)]) (E_q2 : pq_E 2 F_q2 [(1, .int 0)]) (E_q4 : pq_E 2 F_q4 [(1, .int 0)]) (E_q6 : pq_E 2 F_q6 [(1, .int 0)]) (E_q8 : pq_E 2 F_q8 [(1, .int 0)]) (E_q23 : pq_E 10 F_q23 [(0, .ref q24), (1, .int 0), (5, .int 0), (6, .int 0), (7, .int 0)]) (E_q27 : pq_E 10 F_q27 [(0, .ref q28), (1, .int 0), (5, .int 0), (6, .int 0), (7, .int 0)]) (E_q39 : pq_E 19 F_q39 [(0, .ref q1), (1, .ref q23), (3, .int 0)]) (E_q48 : pq_E 22 F_q48 [(3, .int 0), (6, .int 0)]) (E_q61 : pq_E 19 F_q61 [(3, .int 0), (15, .int 0)]) (E_q100 : pq_E 19 F_q100 [(2, .int 0), (4, .int 0), (9, .int 0), (14, .int 0)]) (E_m0 : pq_E 229 F_m0 [(0, .int 0), (1, .int 0), (2, .int 0), (3, .int 0), (4, .int 0), (5, .int 0), (6, .int (-1)), (16, .ref w10), (19, .ref w13), (20, .ref w14), (21, .ref w15), (22, .ref w16), (23, .ref w17), (24, .ref w18), (25, .ref w19), (42, .int 0), (59, .int 0), (64, .int 0), (65, .ref w56), (68, .int 0), (69, .int 0), (70, .int 0), (71, .int 0), (72, .int 0), (73, .int 0), (74, .int 0), (75, .long 0), (76, .int 0), (79, .int 0), (97, .ref w59), (99, .int 0), (100, .int 0), (132, .int 0), (136, .int 0), (179, .int 0), (180, .int 0), (181, .long 0), (186, .int 0), (188, .int 0), (190, .ref w115), (201, .int 0), (206, .int 0), (211, .int 0)]) (hl : lv_has ls 8 [(4, .int 0), (3, .ref ou), (2, .ref m0), (1, .ref h0), (0, .ref b)]) : W p l e room_1 s m #[Value.ref b] below meth c H locs 284 1296537 (lw_Z below #[Value.ref b] s) (F0 m 1284 ls []) := by
  obtain ⟨hx, hb, hr, hml, hown, hts, hScr, hbl, hlocks, hst, hG, hX⟩ := id K
  have hbA : ¬ (fun q : Nat => s.heap.size ≤ q) b := Nat.not_le.mpr hbl
  refine lv_aload_n hx hb dL_law_1284 rfl (lv_at hl 3 rfl) ?_
  refine lv_aload_n hx hb dL_law_1285 rfl (lv_at hl 4 rfl) ?_
  refine lv_iload hx hb dL_law_1286 (lv_at hl 0 rfl) ?_
  refine lv_iconst (v := 1) hx hb dL_law_1288 (by decide) ?_
  refine lv_iadd hx hb dL_law_1289 ?_
  refine pq_topi (y := 1) (by decide) ?_
  refine va_sld hx hb hScr hbl hbA hW.S (vp_in_iff.mpr ⟨by decide, by decide⟩) dL_law_1290 ?_
  refine pq_topi (y := xs 1) rfl ?_
  refine lv_aload_n hx hb dL_law_1291 rfl (lv_at hl 4 rfl) ?_
  refine lv_iload hx hb dL_law_1292 (lv_at hl 0 rfl) ?_
  refine lv_iconst (v := 2) hx hb dL_law_1294 (by decide) ?_
  refine lv_iadd hx hb dL_law_1295 ?_
  refine pq_topi (y := 2) (by decide) ?_
  refine va_sld hx hb hScr hbl hbA hW.S (vp_in_iff.mpr ⟨by decide, by decide⟩) dL_law_1296 ?_
  refine pq_topi (y := xs 2) rfl ?_
  refine lv_aload_n hx hb dL_law_1297 rfl (lv_at hl 4 rfl) ?_
  refine lv_iload hx hb dL_law_1298 (lv_at hl 0 rfl) ?_
  refine lv_iconst (v := 3) hx hb dL_law_1300 (by decide) ?_
  refine lv_iadd hx hb dL_law_1301 ?_
  refine pq_topi (y := 3) (by decide) ?_
  refine va_sld hx hb hScr hbl hbA hW.S (vp_in_iff.mpr ⟨by decide, by decide⟩) dL_law_1302 ?_
  refine pq_topi (y := xs 3) rfl ?_
  refine lv_aload_n hx hb dL_law_1303 rfl (lv_at hl 1 rfl) ?_
  refine pq_xcalli hW [0, 28, 1, 5] [2, 3, 4, 6, 7, 8, 9, 10, 11, 12, 13, 14, 15, 16, 17, 18, 19, 20, 21, 22, 23, 24, 25, 26, 27] (by decide) rfl rfl (fun f9 hw9 hC9 => vx_runSX (As := [.ref h0, .int (xs 1), .int (xs 2), .int (xs 3), .ref ou]) (rest := []) ⟨hx, hb, hml, hown, hts⟩ (c_L_say l hst D cy sa _ L f9 h0 ou q1 q8 F_h0 _ F_q1 F_q8 (xs 1) (xs 2) (xs 3) hC9 E_h0 E_q1 E_q8) (vx_cwSW 5 hts (pl_gS pp671 pp672 pp673 pp524) rfl rfl rfl pd_L_say ⟨Nat.le_of_ble_eq_true rfl, Nat.le_of_ble_eq_true rfl⟩) (pq_xpreS hG hX hw9) rfl rfl hl.1 rfl (lv_room (Nat.le_of_ble_eq_true rfl)) dL_law_1304 ⟨Nat.le_of_ble_eq_true rfl, Nat.le_of_ble_eq_true rfl⟩) (fun E9 ce q9 cs1 H locs hP hW hce hcv hcl => hP.elim) (fun rk cs1 H locs hP hW => ?_)
  obtain ⟨g1, rfl, hk⟩ := hP
  have hW : pq_W D _ s.heap L f as [(ou, .inl (cy 2, 1, .inr (.inl g1))), (q2, .inr (4, F_q2)), (q4, .inr (4, F_q4)), (q6, .inr (4, F_q6)), (q15, .inl (cy 1, 96, .inl (fun _ => 0))), (q21, .inl (cy 1, 159, .inl (fun _ => 0))), (q23, .inr (9, F_q23)), (q24, .inl (cy 0, 1000, .inl (fun _ => 0))), (q27, .inr (9, F_q27)), (q39, .inr (6, F_q39)), (q48, .inr (0, F_q48)), (q61, .inr (5, F_q61)), (q100, .inr (1, F_q100)), (q114, .inl (cy 7, 9, .inr (.inr (.inr (.inr (fun j => if j < 9 then some (q114 + 1 + j) else none)))))), (q115, .inl (cy 1, 9, .inl (fun _ => 0))), (m0, .inr (13, F_m0)), (w13, .inl (cy 1, 8, .inl (fun _ => 0))), (w14, .inl (cy 1, 8, .inl (fun _ => 0))), (w15, .inl (cy 1, 8, .inl (fun _ => 0))), (w16, .inl (cy 1, 8, .inl (fun _ => 0))), (w17, .inl (cy 1, 8, .inl (fun _ => 0))), (w18, .inl (cy 1, 8, .inl (fun _ => 0))), (w19, .inl (cy 1, 8, .inl (fun _ => 0))), (w56, .inl (cy 0, 1000, .inl (fun _ => 0))), (w59, .inl (cy 1, 80, .inl (fun _ => 0))), (w115, .inl (cy 1, 8, .inl (fun _ => 0)))] H locs := hW
  refine lv_istore (lv' := [(5, .int rk), (4, .int 0), (3, .ref ou), (2, .ref m0), (1, .ref h0), (0, .ref b)]) hx hb dL_law_1307 hl (by decide) rfl (fun ls hl => ?_)
  refine lv_aload_n hx hb dL_law_1309 rfl (lv_at hl 3 rfl) ?_
  refine lv_aload_n hx hb dL_law_1310 rfl (lv_at hl 5 rfl) ?_
  refine lv_iload hx hb dL_law_1311 (lv_at hl 1 rfl) ?_
  refine lv_iconst (v := 1) hx hb dL_law_1313 (by decide) ?_
  refine lv_iadd hx hb dL_law_1314 ?_
  refine pq_topi (y := 1) (by decide) ?_
  refine va_sld hx hb hScr hbl hbA hW.S (vp_in_iff.mpr ⟨by decide, by decide⟩) dL_law_1315 ?_
  refine pq_topi (y := xs 1) rfl ?_
  refine lv_aload_n hx hb dL_law_1316 rfl (lv_at hl 5 rfl) ?_
  refine lv_iload hx hb dL_law_1317 (lv_at hl 1 rfl) ?_
  refine lv_iconst (v := 2) hx hb dL_law_1319 (by decide) ?_
  refine lv_iadd hx hb dL_law_1320 ?_
  refine pq_topi (y := 2) (by decide) ?_
  refine va_sld hx hb hScr hbl hbA hW.S (vp_in_iff.mpr ⟨by decide, by decide⟩) dL_law_1321 ?_
  refine pq_topi (y := xs 2) rfl ?_
  refine lv_aload_n hx hb dL_law_1322 rfl (lv_at hl 5 rfl) ?_
  refine lv_iload hx hb dL_law_1323 (lv_at hl 1 rfl) ?_
  refine lv_iconst (v := 3) hx hb dL_law_1325 (by decide) ?_
  refine lv_iadd hx hb dL_law_1326 ?_
  refine pq_topi (y := 3) (by decide) ?_
  refine va_sld hx hb hScr hbl hbA hW.S (vp_in_iff.mpr ⟨by decide, by decide⟩) dL_law_1327 ?_
  refine pq_topi (y := xs 3) rfl ?_
  refine pq_calli hW [15] [0, 1, 2, 3, 4, 5, 6, 7, 8, 9, 10, 11, 12, 13, 14, 16, 17, 18, 19, 20, 21, 22, 23, 24, 25] (by decide) rfl rfl (fun f9 hw9 hC9 => va_runV (C := RX13) (As := [.int (xs 1), .int (xs 2), .int (xs 3)]) (rest := []) ⟨hx, hb, hml, hown, hts⟩ (c_X13_say l D cy _ L f9 m0 F_m0 (xs 1) (xs 2) (xs 3) hC9 E_m0) (cwV 3 hts (pl_gV pp674 pp675 pp676 pp677 pp20) rfl rfl rfl pd_X13_say ⟨Nat.le_of_ble_eq_true rfl, Nat.le_of_ble_eq_true rfl⟩) (pq_preV hG hw9 hC9 (j := 0) rfl rfl) rfl rfl hl.1 rfl (lv_room (Nat.le_of_ble_eq_true rfl)) dL_law_1328 ⟨Nat.le_of_ble_eq_true rfl, Nat.le_of_ble_eq_true rfl⟩) (fun rb cs1 H locs hP hW => ?_)
  obtain ⟨G9, t9, rfl, hEm, hm⟩ := hP
  have hW : pq_W D _ s.heap L f as [(m0, .inr (13, G9)), (ou, .inl (cy 2, 1, .inr (.inl g1))), (q2, .inr (4, F_q2)), (q4, .inr (4, F_q4)), (q6, .inr (4, F_q6)), (q15, .inl (cy 1, 96, .inl (fun _ => 0))), (q21, .inl (cy 1, 159, .inl (fun _ => 0))), (q23, .inr (9, F_q23)), (q24, .inl (cy 0, 1000, .inl (fun _ => 0))), (q27, .inr (9, F_q27)), (q39, .inr (6, F_q39)), (q48, .inr (0, F_q48)), (q61, .inr (5, F_q61)), (q100, .inr (1, F_q100)), (q114, .inl (cy 7, 9, .inr (.inr (.inr (.inr (fun j => if j < 9 then some (q114 + 1 + j) else none)))))), (q115, .inl (cy 1, 9, .inl (fun _ => 0))), (w13, .inl (cy 1, 8, .inl (fun _ => 0))), (w14, .inl (cy 1, 8, .inl (fun _ => 0))), (w15, .inl (cy 1, 8, .inl (fun _ => 0))), (w16, .inl (cy 1, 8, .inl (fun _ => 0))), (w17, .inl (cy 1, 8, .inl (fun _ => 0))), (w18, .inl (cy 1, 8, .inl (fun _ => 0))), (w19, .inl (cy 1, 8, .inl (fun _ => 0))), (w56, .inl (cy 0, 1000, .inl (fun _ => 0))), (w59, .inl (cy 1, 80, .inl (fun _ => 0))), (w115, .inl (cy 1, 8, .inl (fun _ => 0)))] H locs := hW
  rcases hk with ⟨rfl, h1⟩ | ⟨rfl, h1, hg⟩
  · rcases hm with ⟨rfl, h2⟩ | ⟨rfl, h2, hv⟩
    · refine lv_istore (lv' := [(6, .int rb), (5, .int 1), (4, .int 0), (3, .ref ou), (2, .ref m0), (1, .ref h0), (0, .ref b)]) hx hb dL_law_1331 hl (by decide) rfl (fun ls hl => ?_)
      refine lv_aload_n hx hb dL_law_1333 rfl (lv_at hl 4 rfl) ?_
      refine pq_calli hW [0] [1, 2, 3, 4, 5, 6, 7, 8, 9, 10, 11, 12, 13, 14, 15, 16, 17, 18, 19, 20, 21, 22, 23, 24, 25] (by decide) rfl rfl (fun f9 hw9 hC9 => va_runV (C := RX13) (As := []) (rest := []) ⟨hx, hb, hml, hown, hts⟩ (c_X13_thrown l D cy _ L f9 m0 G9 1 hC9 hEm) (cwV 0 hts (pl_gV pp529 pp530 pp531 pp532 pp20) rfl rfl rfl pd_X13_thrown ⟨Nat.le_of_ble_eq_true rfl, Nat.le_of_ble_eq_true rfl⟩) (pq_preV hG hw9 hC9 (j := 0) rfl rfl) rfl rfl hl.1 rfl (lv_room (Nat.le_of_ble_eq_true rfl)) dL_law_1334 ⟨Nat.le_of_ble_eq_true rfl, Nat.le_of_ble_eq_true rfl⟩) (fun r9 cs1 H locs hP hW => ?_)
      obtain ⟨rfl, rfl⟩ := hP
      have hW : pq_W D _ s.heap L f as [(m0, .inr (13, G9)), (ou, .inl (cy 2, 1, .inr (.inl g1))), (q2, .inr (4, F_q2)), (q4, .inr (4, F_q4)), (q6, .inr (4, F_q6)), (q15, .inl (cy 1, 96, .inl (fun _ => 0))), (q21, .inl (cy 1, 159, .inl (fun _ => 0))), (q23, .inr (9, F_q23)), (q24, .inl (cy 0, 1000, .inl (fun _ => 0))), (q27, .inr (9, F_q27)), (q39, .inr (6, F_q39)), (q48, .inr (0, F_q48)), (q61, .inr (5, F_q61)), (q100, .inr (1, F_q100)), (q114, .inl (cy 7, 9, .inr (.inr (.inr (.inr (fun j => if j < 9 then some (q114 + 1 + j) else none)))))), (q115, .inl (cy 1, 9, .inl (fun _ => 0))), (w13, .inl (cy 1, 8, .inl (fun _ => 0))), (w14, .inl (cy 1, 8, .inl (fun _ => 0))), (w15, .inl (cy 1, 8, .inl (fun _ => 0))), (w16, .inl (cy 1, 8, .inl (fun _ => 0))), (w17, .inl (cy 1, 8, .inl (fun _ => 0))), (w18, .inl (cy 1, 8, .inl (fun _ => 0))), (w19, .inl (cy 1, 8, .inl (fun _ => 0))), (w56, .inl (cy 0, 1000, .inl (fun _ => 0))), (w59, .inl (cy 1, 80, .inl (fun _ => 0))), (w115, .inl (cy 1, 8, .inl (fun _ => 0)))] H locs := hW
      refine lv_iload hx hb dL_law_1337 (lv_at hl 1 rfl) ?_
      refine lv_icmp_eq (tgt := 1344) hx hb dL_law_1339 (by decide) (fun _ => ?_) (fun c9 => absurd c9 (by decide))
      refine lv_iload hx hb dL_law_1344 (lv_at hl 1 rfl) ?_
      refine lv_if_ne (tgt := 1361) hx hb dL_law_1346 (by decide) (fun _ => ?_) (fun c9 => absurd c9 (by decide))
      refine lv_goto (tgt := 1897) hx hb dL_law_1361 (by decide) ?_
      exact law_tail K (lv_sub hl [2, 6] rfl) hW.S (Nat.le_of_ble_eq_true rfl) (Nat.le_of_ble_eq_true rfl)
    · exact absurd h1 h2
  · exact absurd trivial h1
set_option maxHeartbeats 4000000 in
set_option maxRecDepth 100000 in
theorem law_case_21 {p : Program} {l : Launch} {e : Env} {s : State} {m : MethodId} {below : List Frame} {meth : Method} {c : Code} {b : Nat} {xs : Nat → Int32} {D : va_G} {cy : Nat → ClassId} {sa : Nat → Nat} {L as : List Nat} {f : Nat → va_E} {H : Heap} {locs : List Loc} {ls : Array Slot} {h0 m0 ou q1 q2 q4 q6 q8 q15 q21 q23 q24 q27 q28 q39 q48 q61 q100 q114 q115 w10 w13 w14 w15 w16 w17 w18 w19 w56 w59 w115 : Nat} {F_h0 F_q1 F_q2 F_q4 F_q6 F_q8 F_q23 F_q27 F_q39 F_q48 F_q61 F_q100 F_m0 : List Value} (K : lc_K p l s m meth c b xs D cy sa) (hW : pq_W D (fun q : Nat => s.heap.size ≤ q) s.heap L f as [(h0, .inr (12, F_h0)), (q1, .inr (8, F_q1)), (q2, .inr (4, F_q2)), (q4, .inr (4, F_q4)), (q6, .inr (4, F_q6)), (q8, .inr (4, F_q8)), (q15, .inl (cy 1, 96, .inl (fun _ => 0))), (q21, .inl (cy 1, 159, .inl (fun _ => 0))), (q23, .inr (9, F_q23)), (q24, .inl (cy 0, 1000, .inl (fun _ => 0))), (q27, .inr (9, F_q27)), (q39, .inr (6, F_q39)), (q48, .inr (0, F_q48)), (q61, .inr (5, F_q61)), (q100, .inr (1, F_q100)), (q114, .inl (cy 7, 9, .inr (.inr (.inr (.inr (fun j => if j < 9 then some (q114 + 1 + j) else none)))))), (q115, .inl (cy 1, 9, .inl (fun _ => 0))), (m0, .inr (13, F_m0)), (w13, .inl (cy 1, 8, .inl (fun _ => 0))), (w14, .inl (cy 1, 8, .inl (fun _ => 0))), (w15, .inl (cy 1, 8, .inl (fun _ => 0))), (w16, .inl (cy 1, 8, .inl (fun _ => 0))), (w17, .inl (cy 1, 8, .inl (fun _ => 0))), (w18, .inl (cy 1, 8, .inl (fun _ => 0))), (w19, .inl (cy 1, 8, .inl (fun _ => 0))), (w56, .inl (cy 0, 1000, .inl (fun _ => 0))), (w59, .inl (cy 1, 80, .inl (fun _ => 0))), (w115, .inl (cy 1, 8, .inl (fun _ => 0))), (ou, .inl (cy 2, 1, .inr (.inl (fun _ => 0))))] H locs) (E_h0 : pq_E 17 F_h0 [(0, .ref q1), (1, .ref q23), (2, .ref q27), (5, .ref q39), (6, .ref q48), (7, .ref q61), (10, .ref q100), (11, .ref q114), (12, .ref q115), (15, .int 0)]) (E_q1 : pq_E 21 F_q1 [(0, .ref q2), (1, .ref q4), (2, .ref q6), (3, .ref q8), (5, .int (-1)), (10, .ref q15), (13, .int 0), (17, .int 0), (18, .int 0), (19, .ref q21)]) (E_q2 : pq_E 2 F_q2 [(1, .int 0)]) (E_q4 : pq_E 2 F_q4 [(1, .int 0)]) (E_q6 : pq_E 2 F_q6 [(1, .int 0)]) (E_q8 : pq_E 2 F_q8 [(1, .int 0)]) (E_q23 : pq_E 10 F_q23 [(0, .ref q24), (1, .int 0), (5, .int 0), (6, .int 0), (7, .int 0)]) (E_q27 : pq_E 10 F_q27 [(0, .ref q28), (1, .int 0), (5, .int 0), (6, .int 0), (7, .int 0)]) (E_q39 : pq_E 19 F_q39 [(0, .ref q1), (1, .ref q23), (3, .int 0)]) (E_q48 : pq_E 22 F_q48 [(3, .int 0), (6, .int 0)]) (E_q61 : pq_E 19 F_q61 [(3, .int 0), (15, .int 0)]) (E_q100 : pq_E 19 F_q100 [(2, .int 0), (4, .int 0), (9, .int 0), (14, .int 0)]) (E_m0 : pq_E 229 F_m0 [(0, .int 0), (1, .int 0), (2, .int 0), (3, .int 0), (4, .int 0), (5, .int 0), (6, .int (-1)), (16, .ref w10), (19, .ref w13), (20, .ref w14), (21, .ref w15), (22, .ref w16), (23, .ref w17), (24, .ref w18), (25, .ref w19), (42, .int 0), (59, .int 0), (64, .int 0), (65, .ref w56), (68, .int 0), (69, .int 0), (70, .int 0), (71, .int 0), (72, .int 0), (73, .int 0), (74, .int 0), (75, .long 0), (76, .int 0), (79, .int 0), (97, .ref w59), (99, .int 0), (100, .int 0), (132, .int 0), (136, .int 0), (179, .int 0), (180, .int 0), (181, .long 0), (186, .int 0), (188, .int 0), (190, .ref w115), (201, .int 0), (206, .int 0), (211, .int 0)]) (hl : lv_has ls 8 [(4, .int 0), (3, .ref ou), (2, .ref m0), (1, .ref h0), (0, .ref b)]) : W p l e room_1 s m #[Value.ref b] below meth c H locs 284 1296537 (lw_Z below #[Value.ref b] s) (F0 m 1364 ls []) := by
  obtain ⟨hx, hb, hr, hml, hown, hts, hScr, hbl, hlocks, hst, hG, hX⟩ := id K
  have hbA : ¬ (fun q : Nat => s.heap.size ≤ q) b := Nat.not_le.mpr hbl
  refine lv_aload_n hx hb dL_law_1364 rfl (lv_at hl 3 rfl) ?_
  refine lv_aload_n hx hb dL_law_1365 rfl (lv_at hl 4 rfl) ?_
  refine lv_iload hx hb dL_law_1366 (lv_at hl 0 rfl) ?_
  refine lv_iconst (v := 1) hx hb dL_law_1368 (by decide) ?_
  refine lv_iadd hx hb dL_law_1369 ?_
  refine pq_topi (y := 1) (by decide) ?_
  refine va_sld hx hb hScr hbl hbA hW.S (vp_in_iff.mpr ⟨by decide, by decide⟩) dL_law_1370 ?_
  refine pq_topi (y := xs 1) rfl ?_
  refine lv_aload_n hx hb dL_law_1371 rfl (lv_at hl 1 rfl) ?_
  refine pq_xcalli hW [0, 28, 10, 16] [1, 2, 3, 4, 5, 6, 7, 8, 9, 11, 12, 13, 14, 15, 17, 18, 19, 20, 21, 22, 23, 24, 25, 26, 27] (by decide) rfl rfl (fun f9 hw9 hC9 => vx_runSX (As := [.ref h0, .int (xs 1), .ref ou]) (rest := []) ⟨hx, hb, hml, hown, hts⟩ (c_L_mean l hst D cy sa _ L f9 h0 ou q27 q115 F_h0 _ F_q27 (xs 1) hC9 E_h0 E_q27) (vx_cwSW 3 hts (pl_gS pp678 pp679 pp680 pp524) rfl rfl rfl pd_L_mean ⟨Nat.le_of_ble_eq_true rfl, Nat.le_of_ble_eq_true rfl⟩) (pq_xpreS hG hX hw9) rfl rfl hl.1 rfl (lv_room (Nat.le_of_ble_eq_true rfl)) dL_law_1372 ⟨Nat.le_of_ble_eq_true rfl, Nat.le_of_ble_eq_true rfl⟩) (fun E9 ce q9 cs1 H locs hP hW hce hcv hcl => hP.elim) (fun rk cs1 H locs hP hW => ?_)
  obtain ⟨g1, rfl, hk⟩ := hP
  have hW : pq_W D _ s.heap L f as [(ou, .inl (cy 2, 1, .inr (.inl g1))), (q1, .inr (8, F_q1)), (q2, .inr (4, F_q2)), (q4, .inr (4, F_q4)), (q6, .inr (4, F_q6)), (q8, .inr (4, F_q8)), (q15, .inl (cy 1, 96, .inl (fun _ => 0))), (q21, .inl (cy 1, 159, .inl (fun _ => 0))), (q23, .inr (9, F_q23)), (q24, .inl (cy 0, 1000, .inl (fun _ => 0))), (q39, .inr (6, F_q39)), (q48, .inr (0, F_q48)), (q61, .inr (5, F_q61)), (q100, .inr (1, F_q100)), (q114, .inl (cy 7, 9, .inr (.inr (.inr (.inr (fun j => if j < 9 then some (q114 + 1 + j) else none)))))), (m0, .inr (13, F_m0)), (w13, .inl (cy 1, 8, .inl (fun _ => 0))), (w14, .inl (cy 1, 8, .inl (fun _ => 0))), (w15, .inl (cy 1, 8, .inl (fun _ => 0))), (w16, .inl (cy 1, 8, .inl (fun _ => 0))), (w17, .inl (cy 1, 8, .inl (fun _ => 0))), (w18, .inl (cy 1, 8, .inl (fun _ => 0))), (w19, .inl (cy 1, 8, .inl (fun _ => 0))), (w56, .inl (cy 0, 1000, .inl (fun _ => 0))), (w59, .inl (cy 1, 80, .inl (fun _ => 0))), (w115, .inl (cy 1, 8, .inl (fun _ => 0)))] H locs := hW
  refine lv_istore (lv' := [(5, .int rk), (4, .int 0), (3, .ref ou), (2, .ref m0), (1, .ref h0), (0, .ref b)]) hx hb dL_law_1375 hl (by decide) rfl (fun ls hl => ?_)
  refine lv_aload_n hx hb dL_law_1377 rfl (lv_at hl 3 rfl) ?_
  refine lv_aload_n hx hb dL_law_1378 rfl (lv_at hl 5 rfl) ?_
  refine lv_iload hx hb dL_law_1379 (lv_at hl 1 rfl) ?_
  refine lv_iconst (v := 1) hx hb dL_law_1381 (by decide) ?_
  refine lv_iadd hx hb dL_law_1382 ?_
  refine pq_topi (y := 1) (by decide) ?_
  refine va_sld hx hb hScr hbl hbA hW.S (vp_in_iff.mpr ⟨by decide, by decide⟩) dL_law_1383 ?_
  refine pq_topi (y := xs 1) rfl ?_
  refine pq_calli hW [15, 25] [0, 1, 2, 3, 4, 5, 6, 7, 8, 9, 10, 11, 12, 13, 14, 16, 17, 18, 19, 20, 21, 22, 23, 24] (by decide) rfl rfl (fun f9 hw9 hC9 => va_runV (C := RX13) (As := [.int (xs 1)]) (rest := []) ⟨hx, hb, hml, hown, hts⟩ (c_X13_mean_ l D cy _ L f9 m0 w115 F_m0 (xs 1) hC9 E_m0) (cwV 1 hts (pl_gV pp681 pp682 pp683 pp684 pp20) rfl rfl rfl pd_X13_mean_ ⟨Nat.le_of_ble_eq_true rfl, Nat.le_of_ble_eq_true rfl⟩) (pq_preV hG hw9 hC9 (j := 0) rfl rfl) rfl rfl hl.1 rfl (lv_room (Nat.le_of_ble_eq_true rfl)) dL_law_1384 ⟨Nat.le_of_ble_eq_true rfl, Nat.le_of_ble_eq_true rfl⟩) (fun rb cs1 H locs hP hW => ?_)
  obtain ⟨G9, t9, rfl, hEm, hm⟩ := hP
  have hW : pq_W D _ s.heap L f as [(m0, .inr (13, G9)), (ou, .inl (cy 2, 1, .inr (.inl g1))), (q1, .inr (8, F_q1)), (q2, .inr (4, F_q2)), (q4, .inr (4, F_q4)), (q6, .inr (4, F_q6)), (q8, .inr (4, F_q8)), (q15, .inl (cy 1, 96, .inl (fun _ => 0))), (q21, .inl (cy 1, 159, .inl (fun _ => 0))), (q23, .inr (9, F_q23)), (q24, .inl (cy 0, 1000, .inl (fun _ => 0))), (q39, .inr (6, F_q39)), (q48, .inr (0, F_q48)), (q61, .inr (5, F_q61)), (q100, .inr (1, F_q100)), (q114, .inl (cy 7, 9, .inr (.inr (.inr (.inr (fun j => if j < 9 then some (q114 + 1 + j) else none)))))), (w13, .inl (cy 1, 8, .inl (fun _ => 0))), (w14, .inl (cy 1, 8, .inl (fun _ => 0))), (w15, .inl (cy 1, 8, .inl (fun _ => 0))), (w16, .inl (cy 1, 8, .inl (fun _ => 0))), (w17, .inl (cy 1, 8, .inl (fun _ => 0))), (w18, .inl (cy 1, 8, .inl (fun _ => 0))), (w19, .inl (cy 1, 8, .inl (fun _ => 0))), (w56, .inl (cy 0, 1000, .inl (fun _ => 0))), (w59, .inl (cy 1, 80, .inl (fun _ => 0)))] H locs := hW
  rcases hk with ⟨rfl, h1⟩ | ⟨rfl, h1, hg⟩
  · rcases hm with ⟨rfl, h2⟩ | ⟨rfl, h2, hv⟩
    · refine lv_istore (lv' := [(6, .int rb), (5, .int 1), (4, .int 0), (3, .ref ou), (2, .ref m0), (1, .ref h0), (0, .ref b)]) hx hb dL_law_1387 hl (by decide) rfl (fun ls hl => ?_)
      refine lv_aload_n hx hb dL_law_1389 rfl (lv_at hl 4 rfl) ?_
      refine pq_calli hW [0] [1, 2, 3, 4, 5, 6, 7, 8, 9, 10, 11, 12, 13, 14, 15, 16, 17, 18, 19, 20, 21, 22, 23, 24] (by decide) rfl rfl (fun f9 hw9 hC9 => va_runV (C := RX13) (As := []) (rest := []) ⟨hx, hb, hml, hown, hts⟩ (c_X13_thrown l D cy _ L f9 m0 G9 1 hC9 hEm) (cwV 0 hts (pl_gV pp529 pp530 pp531 pp532 pp20) rfl rfl rfl pd_X13_thrown ⟨Nat.le_of_ble_eq_true rfl, Nat.le_of_ble_eq_true rfl⟩) (pq_preV hG hw9 hC9 (j := 0) rfl rfl) rfl rfl hl.1 rfl (lv_room (Nat.le_of_ble_eq_true rfl)) dL_law_1390 ⟨Nat.le_of_ble_eq_true rfl, Nat.le_of_ble_eq_true rfl⟩) (fun r9 cs1 H locs hP hW => ?_)
      obtain ⟨rfl, rfl⟩ := hP
      have hW : pq_W D _ s.heap L f as [(m0, .inr (13, G9)), (ou, .inl (cy 2, 1, .inr (.inl g1))), (q1, .inr (8, F_q1)), (q2, .inr (4, F_q2)), (q4, .inr (4, F_q4)), (q6, .inr (4, F_q6)), (q8, .inr (4, F_q8)), (q15, .inl (cy 1, 96, .inl (fun _ => 0))), (q21, .inl (cy 1, 159, .inl (fun _ => 0))), (q23, .inr (9, F_q23)), (q24, .inl (cy 0, 1000, .inl (fun _ => 0))), (q39, .inr (6, F_q39)), (q48, .inr (0, F_q48)), (q61, .inr (5, F_q61)), (q100, .inr (1, F_q100)), (q114, .inl (cy 7, 9, .inr (.inr (.inr (.inr (fun j => if j < 9 then some (q114 + 1 + j) else none)))))), (w13, .inl (cy 1, 8, .inl (fun _ => 0))), (w14, .inl (cy 1, 8, .inl (fun _ => 0))), (w15, .inl (cy 1, 8, .inl (fun _ => 0))), (w16, .inl (cy 1, 8, .inl (fun _ => 0))), (w17, .inl (cy 1, 8, .inl (fun _ => 0))), (w18, .inl (cy 1, 8, .inl (fun _ => 0))), (w19, .inl (cy 1, 8, .inl (fun _ => 0))), (w56, .inl (cy 0, 1000, .inl (fun _ => 0))), (w59, .inl (cy 1, 80, .inl (fun _ => 0)))] H locs := hW
      refine lv_iload hx hb dL_law_1393 (lv_at hl 1 rfl) ?_
      refine lv_icmp_eq (tgt := 1400) hx hb dL_law_1395 (by decide) (fun _ => ?_) (fun c9 => absurd c9 (by decide))
      refine lv_iload hx hb dL_law_1400 (lv_at hl 1 rfl) ?_
      refine lv_if_ne (tgt := 1417) hx hb dL_law_1402 (by decide) (fun _ => ?_) (fun c9 => absurd c9 (by decide))
      refine lv_goto (tgt := 1897) hx hb dL_law_1417 (by decide) ?_
      exact law_tail K (lv_sub hl [2, 6] rfl) hW.S (Nat.le_of_ble_eq_true rfl) (Nat.le_of_ble_eq_true rfl)
    · exact absurd h1 h2
  · rcases hm with ⟨rfl, h2⟩ | ⟨rfl, h2, hv⟩
    · exact absurd h2 h1
    · subst hv
      refine lv_istore (lv' := [(6, .int (-4)), (5, .int 0), (4, .int 0), (3, .ref ou), (2, .ref m0), (1, .ref h0), (0, .ref b)]) hx hb dL_law_1387 hl (by decide) rfl (fun ls hl => ?_)
      refine lv_aload_n hx hb dL_law_1389 rfl (lv_at hl 4 rfl) ?_
      refine pq_calli hW [0] [1, 2, 3, 4, 5, 6, 7, 8, 9, 10, 11, 12, 13, 14, 15, 16, 17, 18, 19, 20, 21, 22, 23, 24] (by decide) rfl rfl (fun f9 hw9 hC9 => va_runV (C := RX13) (As := []) (rest := []) ⟨hx, hb, hml, hown, hts⟩ (c_X13_thrown l D cy _ L f9 m0 G9 0 hC9 hEm) (cwV 0 hts (pl_gV pp529 pp530 pp531 pp532 pp20) rfl rfl rfl pd_X13_thrown ⟨Nat.le_of_ble_eq_true rfl, Nat.le_of_ble_eq_true rfl⟩) (pq_preV hG hw9 hC9 (j := 0) rfl rfl) rfl rfl hl.1 rfl (lv_room (Nat.le_of_ble_eq_true rfl)) dL_law_1390 ⟨Nat.le_of_ble_eq_true rfl, Nat.le_of_ble_eq_true rfl⟩) (fun r9 cs1 H locs hP hW => ?_)
      obtain ⟨rfl, rfl⟩ := hP
      have hW : pq_W D _ s.heap L f as [(m0, .inr (13, G9)), (ou, .inl (cy 2, 1, .inr (.inl g1))), (q1, .inr (8, F_q1)), (q2, .inr (4, F_q2)), (q4, .inr (4, F_q4)), (q6, .inr (4, F_q6)), (q8, .inr (4, F_q8)), (q15, .inl (cy 1, 96, .inl (fun _ => 0))), (q21, .inl (cy 1, 159, .inl (fun _ => 0))), (q23, .inr (9, F_q23)), (q24, .inl (cy 0, 1000, .inl (fun _ => 0))), (q39, .inr (6, F_q39)), (q48, .inr (0, F_q48)), (q61, .inr (5, F_q61)), (q100, .inr (1, F_q100)), (q114, .inl (cy 7, 9, .inr (.inr (.inr (.inr (fun j => if j < 9 then some (q114 + 1 + j) else none)))))), (w13, .inl (cy 1, 8, .inl (fun _ => 0))), (w14, .inl (cy 1, 8, .inl (fun _ => 0))), (w15, .inl (cy 1, 8, .inl (fun _ => 0))), (w16, .inl (cy 1, 8, .inl (fun _ => 0))), (w17, .inl (cy 1, 8, .inl (fun _ => 0))), (w18, .inl (cy 1, 8, .inl (fun _ => 0))), (w19, .inl (cy 1, 8, .inl (fun _ => 0))), (w56, .inl (cy 0, 1000, .inl (fun _ => 0))), (w59, .inl (cy 1, 80, .inl (fun _ => 0)))] H locs := hW
      refine lv_iload hx hb dL_law_1393 (lv_at hl 1 rfl) ?_
      refine lv_icmp_eq (tgt := 1400) hx hb dL_law_1395 (by decide) (fun _ => ?_) (fun c9 => absurd c9 (by decide))
      refine lv_iload hx hb dL_law_1400 (lv_at hl 1 rfl) ?_
      refine lv_if_ne (tgt := 1417) hx hb dL_law_1402 (by decide) (fun c9 => absurd c9 (by decide)) (fun _ => ?_)
      refine lv_aload_n hx hb dL_law_1405 rfl (lv_at hl 3 rfl) ?_
      refine lv_iconst (v := 0) hx hb dL_law_1406 (by decide) ?_
      refine pq_lald hx hb hG hW 1 rfl (vp_in_iff.mpr ⟨by decide, by decide⟩) hg dL_law_1407 ?_
      refine lv_iload hx hb dL_law_1408 (lv_at hl 0 rfl) ?_
      refine lv_i2l (v := (-4)) hx hb dL_law_1410 (by decide) ?_
      refine W.lcmp hx hb dL_law_1411 ?_
      refine pq_topi (y := 0) (by decide) ?_
      refine lv_if_eq (tgt := 1417) hx hb dL_law_1412 (by decide) (fun _ => ?_) (fun c9 => absurd c9 (by decide))
      refine lv_goto (tgt := 1897) hx hb dL_law_1417 (by decide) ?_
      exact law_tail K (lv_sub hl [2, 6] rfl) hW.S (Nat.le_of_ble_eq_true rfl) (Nat.le_of_ble_eq_true rfl)
set_option maxHeartbeats 4000000 in
set_option maxRecDepth 100000 in
theorem law_case_22 {p : Program} {l : Launch} {e : Env} {s : State} {m : MethodId} {below : List Frame} {meth : Method} {c : Code} {b : Nat} {xs : Nat → Int32} {D : va_G} {cy : Nat → ClassId} {sa : Nat → Nat} {L as : List Nat} {f : Nat → va_E} {H : Heap} {locs : List Loc} {ls : Array Slot} {h0 m0 ou q1 q2 q4 q6 q8 q15 q21 q23 q24 q27 q28 q39 q48 q61 q100 q114 q115 w10 w13 w14 w15 w16 w17 w18 w19 w56 w59 w115 : Nat} {F_h0 F_q1 F_q2 F_q4 F_q6 F_q8 F_q23 F_q27 F_q39 F_q48 F_q61 F_q100 F_m0 : List Value} (K : lc_K p l s m meth c b xs D cy sa) (hW : pq_W D (fun q : Nat => s.heap.size ≤ q) s.heap L f as [(h0, .inr (12, F_h0)), (q1, .inr (8, F_q1)), (q2, .inr (4, F_q2)), (q4, .inr (4, F_q4)), (q6, .inr (4, F_q6)), (q8, .inr (4, F_q8)), (q15, .inl (cy 1, 96, .inl (fun _ => 0))), (q21, .inl (cy 1, 159, .inl (fun _ => 0))), (q23, .inr (9, F_q23)), (q24, .inl (cy 0, 1000, .inl (fun _ => 0))), (q27, .inr (9, F_q27)), (q39, .inr (6, F_q39)), (q48, .inr (0, F_q48)), (q61, .inr (5, F_q61)), (q100, .inr (1, F_q100)), (q114, .inl (cy 7, 9, .inr (.inr (.inr (.inr (fun j => if j < 9 then some (q114 + 1 + j) else none)))))), (q115, .inl (cy 1, 9, .inl (fun _ => 0))), (m0, .inr (13, F_m0)), (w13, .inl (cy 1, 8, .inl (fun _ => 0))), (w14, .inl (cy 1, 8, .inl (fun _ => 0))), (w15, .inl (cy 1, 8, .inl (fun _ => 0))), (w16, .inl (cy 1, 8, .inl (fun _ => 0))), (w17, .inl (cy 1, 8, .inl (fun _ => 0))), (w18, .inl (cy 1, 8, .inl (fun _ => 0))), (w19, .inl (cy 1, 8, .inl (fun _ => 0))), (w56, .inl (cy 0, 1000, .inl (fun _ => 0))), (w59, .inl (cy 1, 80, .inl (fun _ => 0))), (w115, .inl (cy 1, 8, .inl (fun _ => 0))), (ou, .inl (cy 2, 1, .inr (.inl (fun _ => 0))))] H locs) (E_h0 : pq_E 17 F_h0 [(0, .ref q1), (1, .ref q23), (2, .ref q27), (5, .ref q39), (6, .ref q48), (7, .ref q61), (10, .ref q100), (11, .ref q114), (12, .ref q115), (15, .int 0)]) (E_q1 : pq_E 21 F_q1 [(0, .ref q2), (1, .ref q4), (2, .ref q6), (3, .ref q8), (5, .int (-1)), (10, .ref q15), (13, .int 0), (17, .int 0), (18, .int 0), (19, .ref q21)]) (E_q2 : pq_E 2 F_q2 [(1, .int 0)]) (E_q4 : pq_E 2 F_q4 [(1, .int 0)]) (E_q6 : pq_E 2 F_q6 [(1, .int 0)]) (E_q8 : pq_E 2 F_q8 [(1, .int 0)]) (E_q23 : pq_E 10 F_q23 [(0, .ref q24), (1, .int 0), (5, .int 0), (6, .int 0), (7, .int 0)]) (E_q27 : pq_E 10 F_q27 [(0, .ref q28), (1, .int 0), (5, .int 0), (6, .int 0), (7, .int 0)]) (E_q39 : pq_E 19 F_q39 [(0, .ref q1), (1, .ref q23), (3, .int 0)]) (E_q48 : pq_E 22 F_q48 [(3, .int 0), (6, .int 0)]) (E_q61 : pq_E 19 F_q61 [(3, .int 0), (15, .int 0)]) (E_q100 : pq_E 19 F_q100 [(2, .int 0), (4, .int 0), (9, .int 0), (14, .int 0)]) (E_m0 : pq_E 229 F_m0 [(0, .int 0), (1, .int 0), (2, .int 0), (3, .int 0), (4, .int 0), (5, .int 0), (6, .int (-1)), (16, .ref w10), (19, .ref w13), (20, .ref w14), (21, .ref w15), (22, .ref w16), (23, .ref w17), (24, .ref w18), (25, .ref w19), (42, .int 0), (59, .int 0), (64, .int 0), (65, .ref w56), (68, .int 0), (69, .int 0), (70, .int 0), (71, .int 0), (72, .int 0), (73, .int 0), (74, .int 0), (75, .long 0), (76, .int 0), (79, .int 0), (97, .ref w59), (99, .int 0), (100, .int 0), (132, .int 0), (136, .int 0), (179, .int 0), (180, .int 0), (181, .long 0), (186, .int 0), (188, .int 0), (190, .ref w115), (201, .int 0), (206, .int 0), (211, .int 0)]) (hl : lv_has ls 8 [(4, .int 0), (3, .ref ou), (2, .ref m0), (1, .ref h0), (0, .ref b)]) : W p l e room_1 s m #[Value.ref b] below meth c H locs 284 1296537 (lw_Z below #[Value.ref b] s) (F0 m 1420 ls []) := by
  obtain ⟨hx, hb, hr, hml, hown, hts, hScr, hbl, hlocks, hst, hG, hX⟩ := id K
  have hbA : ¬ (fun q : Nat => s.heap.size ≤ q) b := Nat.not_le.mpr hbl
  refine lv_aload_n hx hb dL_law_1420 rfl (lv_at hl 3 rfl) ?_
  refine lv_aload_n hx hb dL_law_1421 rfl (lv_at hl 4 rfl) ?_
  refine lv_iload hx hb dL_law_1422 (lv_at hl 0 rfl) ?_
  refine lv_iconst (v := 1) hx hb dL_law_1424 (by decide) ?_
  refine lv_iadd hx hb dL_law_1425 ?_
  refine pq_topi (y := 1) (by decide) ?_
  refine va_sld hx hb hScr hbl hbA hW.S (vp_in_iff.mpr ⟨by decide, by decide⟩) dL_law_1426 ?_
  refine pq_topi (y := xs 1) rfl ?_
  refine lv_aload_n hx hb dL_law_1427 rfl (lv_at hl 1 rfl) ?_
  refine pq_xcalli hW [0, 28, 16] [1, 2, 3, 4, 5, 6, 7, 8, 9, 10, 11, 12, 13, 14, 15, 17, 18, 19, 20, 21, 22, 23, 24, 25, 26, 27] (by decide) rfl rfl (fun f9 hw9 hC9 => vx_runSX (As := [.ref h0, .int (xs 1), .ref ou]) (rest := []) ⟨hx, hb, hml, hown, hts⟩ (c_L_truth l hst D cy sa _ L f9 h0 ou q115 F_h0 _ (xs 1) hC9 E_h0) (vx_cwSW 3 hts (pl_gS pp685 pp686 pp687 pp524) rfl rfl rfl pd_L_truth ⟨Nat.le_of_ble_eq_true rfl, Nat.le_of_ble_eq_true rfl⟩) (pq_xpreS hG hX hw9) rfl rfl hl.1 rfl (lv_room (Nat.le_of_ble_eq_true rfl)) dL_law_1428 ⟨Nat.le_of_ble_eq_true rfl, Nat.le_of_ble_eq_true rfl⟩) (fun E9 ce q9 cs1 H locs hP hW hce hcv hcl => hP.elim) (fun rk cs1 H locs hP hW => ?_)
  obtain ⟨g1, rfl, hk⟩ := hP
  have hW : pq_W D _ s.heap L f as [(ou, .inl (cy 2, 1, .inr (.inl g1))), (q1, .inr (8, F_q1)), (q2, .inr (4, F_q2)), (q4, .inr (4, F_q4)), (q6, .inr (4, F_q6)), (q8, .inr (4, F_q8)), (q15, .inl (cy 1, 96, .inl (fun _ => 0))), (q21, .inl (cy 1, 159, .inl (fun _ => 0))), (q23, .inr (9, F_q23)), (q24, .inl (cy 0, 1000, .inl (fun _ => 0))), (q27, .inr (9, F_q27)), (q39, .inr (6, F_q39)), (q48, .inr (0, F_q48)), (q61, .inr (5, F_q61)), (q100, .inr (1, F_q100)), (q114, .inl (cy 7, 9, .inr (.inr (.inr (.inr (fun j => if j < 9 then some (q114 + 1 + j) else none)))))), (m0, .inr (13, F_m0)), (w13, .inl (cy 1, 8, .inl (fun _ => 0))), (w14, .inl (cy 1, 8, .inl (fun _ => 0))), (w15, .inl (cy 1, 8, .inl (fun _ => 0))), (w16, .inl (cy 1, 8, .inl (fun _ => 0))), (w17, .inl (cy 1, 8, .inl (fun _ => 0))), (w18, .inl (cy 1, 8, .inl (fun _ => 0))), (w19, .inl (cy 1, 8, .inl (fun _ => 0))), (w56, .inl (cy 0, 1000, .inl (fun _ => 0))), (w59, .inl (cy 1, 80, .inl (fun _ => 0))), (w115, .inl (cy 1, 8, .inl (fun _ => 0)))] H locs := hW
  refine lv_istore (lv' := [(5, .int rk), (4, .int 0), (3, .ref ou), (2, .ref m0), (1, .ref h0), (0, .ref b)]) hx hb dL_law_1431 hl (by decide) rfl (fun ls hl => ?_)
  refine lv_aload_n hx hb dL_law_1433 rfl (lv_at hl 3 rfl) ?_
  refine lv_aload_n hx hb dL_law_1434 rfl (lv_at hl 5 rfl) ?_
  refine lv_iload hx hb dL_law_1435 (lv_at hl 1 rfl) ?_
  refine lv_iconst (v := 1) hx hb dL_law_1437 (by decide) ?_
  refine lv_iadd hx hb dL_law_1438 ?_
  refine pq_topi (y := 1) (by decide) ?_
  refine va_sld hx hb hScr hbl hbA hW.S (vp_in_iff.mpr ⟨by decide, by decide⟩) dL_law_1439 ?_
  refine pq_topi (y := xs 1) rfl ?_
  refine pq_calli hW [16, 26] [0, 1, 2, 3, 4, 5, 6, 7, 8, 9, 10, 11, 12, 13, 14, 15, 17, 18, 19, 20, 21, 22, 23, 24, 25] (by decide) rfl rfl (fun f9 hw9 hC9 => va_runV (C := RX13) (As := [.int (xs 1)]) (rest := []) ⟨hx, hb, hml, hown, hts⟩ (c_X13_truth l D cy _ L f9 m0 w115 F_m0 (xs 1) hC9 E_m0) (cwV 1 hts (pl_gV pp688 pp689 pp690 pp691 pp20) rfl rfl rfl pd_X13_truth ⟨Nat.le_of_ble_eq_true rfl, Nat.le_of_ble_eq_true rfl⟩) (pq_preV hG hw9 hC9 (j := 0) rfl rfl) rfl rfl hl.1 rfl (lv_room (Nat.le_of_ble_eq_true rfl)) dL_law_1440 ⟨Nat.le_of_ble_eq_true rfl, Nat.le_of_ble_eq_true rfl⟩) (fun rb cs1 H locs hP hW => ?_)
  obtain ⟨G9, t9, rfl, hEm, hm⟩ := hP
  have hW : pq_W D _ s.heap L f as [(m0, .inr (13, G9)), (ou, .inl (cy 2, 1, .inr (.inl g1))), (q1, .inr (8, F_q1)), (q2, .inr (4, F_q2)), (q4, .inr (4, F_q4)), (q6, .inr (4, F_q6)), (q8, .inr (4, F_q8)), (q15, .inl (cy 1, 96, .inl (fun _ => 0))), (q21, .inl (cy 1, 159, .inl (fun _ => 0))), (q23, .inr (9, F_q23)), (q24, .inl (cy 0, 1000, .inl (fun _ => 0))), (q27, .inr (9, F_q27)), (q39, .inr (6, F_q39)), (q48, .inr (0, F_q48)), (q61, .inr (5, F_q61)), (q100, .inr (1, F_q100)), (q114, .inl (cy 7, 9, .inr (.inr (.inr (.inr (fun j => if j < 9 then some (q114 + 1 + j) else none)))))), (w13, .inl (cy 1, 8, .inl (fun _ => 0))), (w14, .inl (cy 1, 8, .inl (fun _ => 0))), (w15, .inl (cy 1, 8, .inl (fun _ => 0))), (w16, .inl (cy 1, 8, .inl (fun _ => 0))), (w17, .inl (cy 1, 8, .inl (fun _ => 0))), (w18, .inl (cy 1, 8, .inl (fun _ => 0))), (w19, .inl (cy 1, 8, .inl (fun _ => 0))), (w56, .inl (cy 0, 1000, .inl (fun _ => 0))), (w59, .inl (cy 1, 80, .inl (fun _ => 0)))] H locs := hW
  rcases hk with ⟨rfl, h1⟩ | ⟨rfl, h1, hg⟩
  · rcases hm with ⟨rfl, h2⟩ | ⟨rfl, h2, hv⟩
    · refine lv_istore (lv' := [(6, .int rb), (5, .int 1), (4, .int 0), (3, .ref ou), (2, .ref m0), (1, .ref h0), (0, .ref b)]) hx hb dL_law_1443 hl (by decide) rfl (fun ls hl => ?_)
      refine lv_aload_n hx hb dL_law_1445 rfl (lv_at hl 4 rfl) ?_
      refine pq_calli hW [0] [1, 2, 3, 4, 5, 6, 7, 8, 9, 10, 11, 12, 13, 14, 15, 16, 17, 18, 19, 20, 21, 22, 23, 24, 25] (by decide) rfl rfl (fun f9 hw9 hC9 => va_runV (C := RX13) (As := []) (rest := []) ⟨hx, hb, hml, hown, hts⟩ (c_X13_thrown l D cy _ L f9 m0 G9 1 hC9 hEm) (cwV 0 hts (pl_gV pp529 pp530 pp531 pp532 pp20) rfl rfl rfl pd_X13_thrown ⟨Nat.le_of_ble_eq_true rfl, Nat.le_of_ble_eq_true rfl⟩) (pq_preV hG hw9 hC9 (j := 0) rfl rfl) rfl rfl hl.1 rfl (lv_room (Nat.le_of_ble_eq_true rfl)) dL_law_1446 ⟨Nat.le_of_ble_eq_true rfl, Nat.le_of_ble_eq_true rfl⟩) (fun r9 cs1 H locs hP hW => ?_)
      obtain ⟨rfl, rfl⟩ := hP
      have hW : pq_W D _ s.heap L f as [(m0, .inr (13, G9)), (ou, .inl (cy 2, 1, .inr (.inl g1))), (q1, .inr (8, F_q1)), (q2, .inr (4, F_q2)), (q4, .inr (4, F_q4)), (q6, .inr (4, F_q6)), (q8, .inr (4, F_q8)), (q15, .inl (cy 1, 96, .inl (fun _ => 0))), (q21, .inl (cy 1, 159, .inl (fun _ => 0))), (q23, .inr (9, F_q23)), (q24, .inl (cy 0, 1000, .inl (fun _ => 0))), (q27, .inr (9, F_q27)), (q39, .inr (6, F_q39)), (q48, .inr (0, F_q48)), (q61, .inr (5, F_q61)), (q100, .inr (1, F_q100)), (q114, .inl (cy 7, 9, .inr (.inr (.inr (.inr (fun j => if j < 9 then some (q114 + 1 + j) else none)))))), (w13, .inl (cy 1, 8, .inl (fun _ => 0))), (w14, .inl (cy 1, 8, .inl (fun _ => 0))), (w15, .inl (cy 1, 8, .inl (fun _ => 0))), (w16, .inl (cy 1, 8, .inl (fun _ => 0))), (w17, .inl (cy 1, 8, .inl (fun _ => 0))), (w18, .inl (cy 1, 8, .inl (fun _ => 0))), (w19, .inl (cy 1, 8, .inl (fun _ => 0))), (w56, .inl (cy 0, 1000, .inl (fun _ => 0))), (w59, .inl (cy 1, 80, .inl (fun _ => 0)))] H locs := hW
      refine lv_iload hx hb dL_law_1449 (lv_at hl 1 rfl) ?_
      refine lv_icmp_eq (tgt := 1456) hx hb dL_law_1451 (by decide) (fun _ => ?_) (fun c9 => absurd c9 (by decide))
      refine lv_iload hx hb dL_law_1456 (lv_at hl 1 rfl) ?_
      refine lv_if_ne (tgt := 1473) hx hb dL_law_1458 (by decide) (fun _ => ?_) (fun c9 => absurd c9 (by decide))
      refine lv_goto (tgt := 1897) hx hb dL_law_1473 (by decide) ?_
      exact law_tail K (lv_sub hl [2, 6] rfl) hW.S (Nat.le_of_ble_eq_true rfl) (Nat.le_of_ble_eq_true rfl)
    · exact absurd h1 h2
  · rcases hm with ⟨rfl, h2⟩ | ⟨rfl, h2, hv⟩
    · exact absurd h2 h1
    · subst hv
      refine lv_istore (lv' := [(6, .int (-4)), (5, .int 0), (4, .int 0), (3, .ref ou), (2, .ref m0), (1, .ref h0), (0, .ref b)]) hx hb dL_law_1443 hl (by decide) rfl (fun ls hl => ?_)
      refine lv_aload_n hx hb dL_law_1445 rfl (lv_at hl 4 rfl) ?_
      refine pq_calli hW [0] [1, 2, 3, 4, 5, 6, 7, 8, 9, 10, 11, 12, 13, 14, 15, 16, 17, 18, 19, 20, 21, 22, 23, 24, 25] (by decide) rfl rfl (fun f9 hw9 hC9 => va_runV (C := RX13) (As := []) (rest := []) ⟨hx, hb, hml, hown, hts⟩ (c_X13_thrown l D cy _ L f9 m0 G9 0 hC9 hEm) (cwV 0 hts (pl_gV pp529 pp530 pp531 pp532 pp20) rfl rfl rfl pd_X13_thrown ⟨Nat.le_of_ble_eq_true rfl, Nat.le_of_ble_eq_true rfl⟩) (pq_preV hG hw9 hC9 (j := 0) rfl rfl) rfl rfl hl.1 rfl (lv_room (Nat.le_of_ble_eq_true rfl)) dL_law_1446 ⟨Nat.le_of_ble_eq_true rfl, Nat.le_of_ble_eq_true rfl⟩) (fun r9 cs1 H locs hP hW => ?_)
      obtain ⟨rfl, rfl⟩ := hP
      have hW : pq_W D _ s.heap L f as [(m0, .inr (13, G9)), (ou, .inl (cy 2, 1, .inr (.inl g1))), (q1, .inr (8, F_q1)), (q2, .inr (4, F_q2)), (q4, .inr (4, F_q4)), (q6, .inr (4, F_q6)), (q8, .inr (4, F_q8)), (q15, .inl (cy 1, 96, .inl (fun _ => 0))), (q21, .inl (cy 1, 159, .inl (fun _ => 0))), (q23, .inr (9, F_q23)), (q24, .inl (cy 0, 1000, .inl (fun _ => 0))), (q27, .inr (9, F_q27)), (q39, .inr (6, F_q39)), (q48, .inr (0, F_q48)), (q61, .inr (5, F_q61)), (q100, .inr (1, F_q100)), (q114, .inl (cy 7, 9, .inr (.inr (.inr (.inr (fun j => if j < 9 then some (q114 + 1 + j) else none)))))), (w13, .inl (cy 1, 8, .inl (fun _ => 0))), (w14, .inl (cy 1, 8, .inl (fun _ => 0))), (w15, .inl (cy 1, 8, .inl (fun _ => 0))), (w16, .inl (cy 1, 8, .inl (fun _ => 0))), (w17, .inl (cy 1, 8, .inl (fun _ => 0))), (w18, .inl (cy 1, 8, .inl (fun _ => 0))), (w19, .inl (cy 1, 8, .inl (fun _ => 0))), (w56, .inl (cy 0, 1000, .inl (fun _ => 0))), (w59, .inl (cy 1, 80, .inl (fun _ => 0)))] H locs := hW
      refine lv_iload hx hb dL_law_1449 (lv_at hl 1 rfl) ?_
      refine lv_icmp_eq (tgt := 1456) hx hb dL_law_1451 (by decide) (fun _ => ?_) (fun c9 => absurd c9 (by decide))
      refine lv_iload hx hb dL_law_1456 (lv_at hl 1 rfl) ?_
      refine lv_if_ne (tgt := 1473) hx hb dL_law_1458 (by decide) (fun c9 => absurd c9 (by decide)) (fun _ => ?_)
      refine lv_aload_n hx hb dL_law_1461 rfl (lv_at hl 3 rfl) ?_
      refine lv_iconst (v := 0) hx hb dL_law_1462 (by decide) ?_
      refine pq_lald hx hb hG hW 1 rfl (vp_in_iff.mpr ⟨by decide, by decide⟩) hg dL_law_1463 ?_
      refine lv_iload hx hb dL_law_1464 (lv_at hl 0 rfl) ?_
      refine lv_i2l (v := (-4)) hx hb dL_law_1466 (by decide) ?_
      refine W.lcmp hx hb dL_law_1467 ?_
      refine pq_topi (y := 0) (by decide) ?_
      refine lv_if_eq (tgt := 1473) hx hb dL_law_1468 (by decide) (fun _ => ?_) (fun c9 => absurd c9 (by decide))
      refine lv_goto (tgt := 1897) hx hb dL_law_1473 (by decide) ?_
      exact law_tail K (lv_sub hl [2, 6] rfl) hW.S (Nat.le_of_ble_eq_true rfl) (Nat.le_of_ble_eq_true rfl)
set_option maxHeartbeats 4000000 in
set_option maxRecDepth 100000 in
theorem law_case_23 {p : Program} {l : Launch} {e : Env} {s : State} {m : MethodId} {below : List Frame} {meth : Method} {c : Code} {b : Nat} {xs : Nat → Int32} {D : va_G} {cy : Nat → ClassId} {sa : Nat → Nat} {L as : List Nat} {f : Nat → va_E} {H : Heap} {locs : List Loc} {ls : Array Slot} {h0 m0 ou q1 q2 q4 q6 q8 q15 q21 q23 q24 q27 q28 q39 q48 q61 q100 q114 q115 w10 w13 w14 w15 w16 w17 w18 w19 w56 w59 w115 : Nat} {F_h0 F_q1 F_q2 F_q4 F_q6 F_q8 F_q23 F_q27 F_q39 F_q48 F_q61 F_q100 F_m0 : List Value} (K : lc_K p l s m meth c b xs D cy sa) (hW : pq_W D (fun q : Nat => s.heap.size ≤ q) s.heap L f as [(h0, .inr (12, F_h0)), (q1, .inr (8, F_q1)), (q2, .inr (4, F_q2)), (q4, .inr (4, F_q4)), (q6, .inr (4, F_q6)), (q8, .inr (4, F_q8)), (q15, .inl (cy 1, 96, .inl (fun _ => 0))), (q21, .inl (cy 1, 159, .inl (fun _ => 0))), (q23, .inr (9, F_q23)), (q24, .inl (cy 0, 1000, .inl (fun _ => 0))), (q27, .inr (9, F_q27)), (q39, .inr (6, F_q39)), (q48, .inr (0, F_q48)), (q61, .inr (5, F_q61)), (q100, .inr (1, F_q100)), (q114, .inl (cy 7, 9, .inr (.inr (.inr (.inr (fun j => if j < 9 then some (q114 + 1 + j) else none)))))), (q115, .inl (cy 1, 9, .inl (fun _ => 0))), (m0, .inr (13, F_m0)), (w13, .inl (cy 1, 8, .inl (fun _ => 0))), (w14, .inl (cy 1, 8, .inl (fun _ => 0))), (w15, .inl (cy 1, 8, .inl (fun _ => 0))), (w16, .inl (cy 1, 8, .inl (fun _ => 0))), (w17, .inl (cy 1, 8, .inl (fun _ => 0))), (w18, .inl (cy 1, 8, .inl (fun _ => 0))), (w19, .inl (cy 1, 8, .inl (fun _ => 0))), (w56, .inl (cy 0, 1000, .inl (fun _ => 0))), (w59, .inl (cy 1, 80, .inl (fun _ => 0))), (w115, .inl (cy 1, 8, .inl (fun _ => 0))), (ou, .inl (cy 2, 1, .inr (.inl (fun _ => 0))))] H locs) (E_h0 : pq_E 17 F_h0 [(0, .ref q1), (1, .ref q23), (2, .ref q27), (5, .ref q39), (6, .ref q48), (7, .ref q61), (10, .ref q100), (11, .ref q114), (12, .ref q115), (15, .int 0)]) (E_q1 : pq_E 21 F_q1 [(0, .ref q2), (1, .ref q4), (2, .ref q6), (3, .ref q8), (5, .int (-1)), (10, .ref q15), (13, .int 0), (17, .int 0), (18, .int 0), (19, .ref q21)]) (E_q2 : pq_E 2 F_q2 [(1, .int 0)]) (E_q4 : pq_E 2 F_q4 [(1, .int 0)]) (E_q6 : pq_E 2 F_q6 [(1, .int 0)]) (E_q8 : pq_E 2 F_q8 [(1, .int 0)]) (E_q23 : pq_E 10 F_q23 [(0, .ref q24), (1, .int 0), (5, .int 0), (6, .int 0), (7, .int 0)]) (E_q27 : pq_E 10 F_q27 [(0, .ref q28), (1, .int 0), (5, .int 0), (6, .int 0), (7, .int 0)]) (E_q39 : pq_E 19 F_q39 [(0, .ref q1), (1, .ref q23), (3, .int 0)]) (E_q48 : pq_E 22 F_q48 [(3, .int 0), (6, .int 0)]) (E_q61 : pq_E 19 F_q61 [(3, .int 0), (15, .int 0)]) (E_q100 : pq_E 19 F_q100 [(2, .int 0), (4, .int 0), (9, .int 0), (14, .int 0)]) (E_m0 : pq_E 229 F_m0 [(0, .int 0), (1, .int 0), (2, .int 0), (3, .int 0), (4, .int 0), (5, .int 0), (6, .int (-1)), (16, .ref w10), (19, .ref w13), (20, .ref w14), (21, .ref w15), (22, .ref w16), (23, .ref w17), (24, .ref w18), (25, .ref w19), (42, .int 0), (59, .int 0), (64, .int 0), (65, .ref w56), (68, .int 0), (69, .int 0), (70, .int 0), (71, .int 0), (72, .int 0), (73, .int 0), (74, .int 0), (75, .long 0), (76, .int 0), (79, .int 0), (97, .ref w59), (99, .int 0), (100, .int 0), (132, .int 0), (136, .int 0), (179, .int 0), (180, .int 0), (181, .long 0), (186, .int 0), (188, .int 0), (190, .ref w115), (201, .int 0), (206, .int 0), (211, .int 0)]) (hl : lv_has ls 8 [(4, .int 0), (3, .ref ou), (2, .ref m0), (1, .ref h0), (0, .ref b)]) : W p l e room_1 s m #[Value.ref b] below meth c H locs 284 1296537 (lw_Z below #[Value.ref b] s) (F0 m 1476 ls []) := by
  obtain ⟨hx, hb, hr, hml, hown, hts, hScr, hbl, hlocks, hst, hG, hX⟩ := id K
  have hbA : ¬ (fun q : Nat => s.heap.size ≤ q) b := Nat.not_le.mpr hbl
  refine lv_aload_n hx hb dL_law_1476 rfl (lv_at hl 3 rfl) ?_
  refine lv_aload_n hx hb dL_law_1477 rfl (lv_at hl 4 rfl) ?_
  refine lv_iload hx hb dL_law_1478 (lv_at hl 0 rfl) ?_
  refine lv_iconst (v := 1) hx hb dL_law_1480 (by decide) ?_
  refine lv_iadd hx hb dL_law_1481 ?_
  refine pq_topi (y := 1) (by decide) ?_
  refine va_sld hx hb hScr hbl hbA hW.S (vp_in_iff.mpr ⟨by decide, by decide⟩) dL_law_1482 ?_
  refine pq_topi (y := xs 1) rfl ?_
  refine lv_aload_n hx hb dL_law_1483 rfl (lv_at hl 4 rfl) ?_
  refine lv_iload hx hb dL_law_1484 (lv_at hl 0 rfl) ?_
  refine lv_iconst (v := 2) hx hb dL_law_1486 (by decide) ?_
  refine lv_iadd hx hb dL_law_1487 ?_
  refine pq_topi (y := 2) (by decide) ?_
  refine va_sld hx hb hScr hbl hbA hW.S (vp_in_iff.mpr ⟨by decide, by decide⟩) dL_law_1488 ?_
  refine pq_topi (y := xs 2) rfl ?_
  refine lv_aload_n hx hb dL_law_1489 rfl (lv_at hl 4 rfl) ?_
  refine lv_iload hx hb dL_law_1490 (lv_at hl 0 rfl) ?_
  refine lv_iconst (v := 3) hx hb dL_law_1492 (by decide) ?_
  refine lv_iadd hx hb dL_law_1493 ?_
  refine pq_topi (y := 3) (by decide) ?_
  refine va_sld hx hb hScr hbl hbA hW.S (vp_in_iff.mpr ⟨by decide, by decide⟩) dL_law_1494 ?_
  refine pq_topi (y := xs 3) rfl ?_
  refine lv_aload_n hx hb dL_law_1495 rfl (lv_at hl 1 rfl) ?_
  refine pq_xcalli hW [0, 28, 1, 5] [2, 3, 4, 6, 7, 8, 9, 10, 11, 12, 13, 14, 15, 16, 17, 18, 19, 20, 21, 22, 23, 24, 25, 26, 27] (by decide) rfl rfl (fun f9 hw9 hC9 => vx_runSX (As := [.ref h0, .int (xs 1), .int (xs 2), .int (xs 3), .ref ou]) (rest := []) ⟨hx, hb, hml, hown, hts⟩ (c_L_swap l hst D cy sa _ L f9 h0 ou q1 q8 F_h0 _ F_q1 F_q8 (xs 1) (xs 2) (xs 3) hC9 E_h0 E_q1 E_q8) (vx_cwSW 5 hts (pl_gS pp692 pp693 pp694 pp524) rfl rfl rfl pd_L_swap ⟨Nat.le_of_ble_eq_true rfl, Nat.le_of_ble_eq_true rfl⟩) (pq_xpreS hG hX hw9) rfl rfl hl.1 rfl (lv_room (Nat.le_of_ble_eq_true rfl)) dL_law_1496 ⟨Nat.le_of_ble_eq_true rfl, Nat.le_of_ble_eq_true rfl⟩) (fun E9 ce q9 cs1 H locs hP hW hce hcv hcl => hP.elim) (fun rk cs1 H locs hP hW => ?_)
  obtain ⟨g1, rfl, hk⟩ := hP
  have hW : pq_W D _ s.heap L f as [(ou, .inl (cy 2, 1, .inr (.inl g1))), (q2, .inr (4, F_q2)), (q4, .inr (4, F_q4)), (q6, .inr (4, F_q6)), (q15, .inl (cy 1, 96, .inl (fun _ => 0))), (q21, .inl (cy 1, 159, .inl (fun _ => 0))), (q23, .inr (9, F_q23)), (q24, .inl (cy 0, 1000, .inl (fun _ => 0))), (q27, .inr (9, F_q27)), (q39, .inr (6, F_q39)), (q48, .inr (0, F_q48)), (q61, .inr (5, F_q61)), (q100, .inr (1, F_q100)), (q114, .inl (cy 7, 9, .inr (.inr (.inr (.inr (fun j => if j < 9 then some (q114 + 1 + j) else none)))))), (q115, .inl (cy 1, 9, .inl (fun _ => 0))), (m0, .inr (13, F_m0)), (w13, .inl (cy 1, 8, .inl (fun _ => 0))), (w14, .inl (cy 1, 8, .inl (fun _ => 0))), (w15, .inl (cy 1, 8, .inl (fun _ => 0))), (w16, .inl (cy 1, 8, .inl (fun _ => 0))), (w17, .inl (cy 1, 8, .inl (fun _ => 0))), (w18, .inl (cy 1, 8, .inl (fun _ => 0))), (w19, .inl (cy 1, 8, .inl (fun _ => 0))), (w56, .inl (cy 0, 1000, .inl (fun _ => 0))), (w59, .inl (cy 1, 80, .inl (fun _ => 0))), (w115, .inl (cy 1, 8, .inl (fun _ => 0)))] H locs := hW
  refine lv_istore (lv' := [(5, .int rk), (4, .int 0), (3, .ref ou), (2, .ref m0), (1, .ref h0), (0, .ref b)]) hx hb dL_law_1499 hl (by decide) rfl (fun ls hl => ?_)
  refine lv_aload_n hx hb dL_law_1501 rfl (lv_at hl 3 rfl) ?_
  refine lv_aload_n hx hb dL_law_1502 rfl (lv_at hl 5 rfl) ?_
  refine lv_iload hx hb dL_law_1503 (lv_at hl 1 rfl) ?_
  refine lv_iconst (v := 1) hx hb dL_law_1505 (by decide) ?_
  refine lv_iadd hx hb dL_law_1506 ?_
  refine pq_topi (y := 1) (by decide) ?_
  refine va_sld hx hb hScr hbl hbA hW.S (vp_in_iff.mpr ⟨by decide, by decide⟩) dL_law_1507 ?_
  refine pq_topi (y := xs 1) rfl ?_
  refine lv_aload_n hx hb dL_law_1508 rfl (lv_at hl 5 rfl) ?_
  refine lv_iload hx hb dL_law_1509 (lv_at hl 1 rfl) ?_
  refine lv_iconst (v := 2) hx hb dL_law_1511 (by decide) ?_
  refine lv_iadd hx hb dL_law_1512 ?_
  refine pq_topi (y := 2) (by decide) ?_
  refine va_sld hx hb hScr hbl hbA hW.S (vp_in_iff.mpr ⟨by decide, by decide⟩) dL_law_1513 ?_
  refine pq_topi (y := xs 2) rfl ?_
  refine lv_aload_n hx hb dL_law_1514 rfl (lv_at hl 5 rfl) ?_
  refine lv_iload hx hb dL_law_1515 (lv_at hl 1 rfl) ?_
  refine lv_iconst (v := 3) hx hb dL_law_1517 (by decide) ?_
  refine lv_iadd hx hb dL_law_1518 ?_
  refine pq_topi (y := 3) (by decide) ?_
  refine va_sld hx hb hScr hbl hbA hW.S (vp_in_iff.mpr ⟨by decide, by decide⟩) dL_law_1519 ?_
  refine pq_topi (y := xs 3) rfl ?_
  refine pq_calli hW [15] [0, 1, 2, 3, 4, 5, 6, 7, 8, 9, 10, 11, 12, 13, 14, 16, 17, 18, 19, 20, 21, 22, 23, 24, 25] (by decide) rfl rfl (fun f9 hw9 hC9 => va_runV (C := RX13) (As := [.int (xs 1), .int (xs 2), .int (xs 3)]) (rest := []) ⟨hx, hb, hml, hown, hts⟩ (c_X13_swap l D cy _ L f9 m0 F_m0 (xs 1) (xs 2) (xs 3) hC9 E_m0) (cwV 3 hts (pl_gV pp695 pp696 pp697 pp698 pp20) rfl rfl rfl pd_X13_swap ⟨Nat.le_of_ble_eq_true rfl, Nat.le_of_ble_eq_true rfl⟩) (pq_preV hG hw9 hC9 (j := 0) rfl rfl) rfl rfl hl.1 rfl (lv_room (Nat.le_of_ble_eq_true rfl)) dL_law_1520 ⟨Nat.le_of_ble_eq_true rfl, Nat.le_of_ble_eq_true rfl⟩) (fun rb cs1 H locs hP hW => ?_)
  obtain ⟨G9, t9, rfl, hEm, hm⟩ := hP
  have hW : pq_W D _ s.heap L f as [(m0, .inr (13, G9)), (ou, .inl (cy 2, 1, .inr (.inl g1))), (q2, .inr (4, F_q2)), (q4, .inr (4, F_q4)), (q6, .inr (4, F_q6)), (q15, .inl (cy 1, 96, .inl (fun _ => 0))), (q21, .inl (cy 1, 159, .inl (fun _ => 0))), (q23, .inr (9, F_q23)), (q24, .inl (cy 0, 1000, .inl (fun _ => 0))), (q27, .inr (9, F_q27)), (q39, .inr (6, F_q39)), (q48, .inr (0, F_q48)), (q61, .inr (5, F_q61)), (q100, .inr (1, F_q100)), (q114, .inl (cy 7, 9, .inr (.inr (.inr (.inr (fun j => if j < 9 then some (q114 + 1 + j) else none)))))), (q115, .inl (cy 1, 9, .inl (fun _ => 0))), (w13, .inl (cy 1, 8, .inl (fun _ => 0))), (w14, .inl (cy 1, 8, .inl (fun _ => 0))), (w15, .inl (cy 1, 8, .inl (fun _ => 0))), (w16, .inl (cy 1, 8, .inl (fun _ => 0))), (w17, .inl (cy 1, 8, .inl (fun _ => 0))), (w18, .inl (cy 1, 8, .inl (fun _ => 0))), (w19, .inl (cy 1, 8, .inl (fun _ => 0))), (w56, .inl (cy 0, 1000, .inl (fun _ => 0))), (w59, .inl (cy 1, 80, .inl (fun _ => 0))), (w115, .inl (cy 1, 8, .inl (fun _ => 0)))] H locs := hW
  rcases hk with ⟨rfl, h1⟩ | ⟨rfl, h1, hg⟩
  · rcases hm with ⟨rfl, h2⟩ | ⟨rfl, h2, hv⟩
    · refine lv_istore (lv' := [(6, .int rb), (5, .int 1), (4, .int 0), (3, .ref ou), (2, .ref m0), (1, .ref h0), (0, .ref b)]) hx hb dL_law_1523 hl (by decide) rfl (fun ls hl => ?_)
      refine lv_aload_n hx hb dL_law_1525 rfl (lv_at hl 4 rfl) ?_
      refine pq_calli hW [0] [1, 2, 3, 4, 5, 6, 7, 8, 9, 10, 11, 12, 13, 14, 15, 16, 17, 18, 19, 20, 21, 22, 23, 24, 25] (by decide) rfl rfl (fun f9 hw9 hC9 => va_runV (C := RX13) (As := []) (rest := []) ⟨hx, hb, hml, hown, hts⟩ (c_X13_thrown l D cy _ L f9 m0 G9 1 hC9 hEm) (cwV 0 hts (pl_gV pp529 pp530 pp531 pp532 pp20) rfl rfl rfl pd_X13_thrown ⟨Nat.le_of_ble_eq_true rfl, Nat.le_of_ble_eq_true rfl⟩) (pq_preV hG hw9 hC9 (j := 0) rfl rfl) rfl rfl hl.1 rfl (lv_room (Nat.le_of_ble_eq_true rfl)) dL_law_1526 ⟨Nat.le_of_ble_eq_true rfl, Nat.le_of_ble_eq_true rfl⟩) (fun r9 cs1 H locs hP hW => ?_)
      obtain ⟨rfl, rfl⟩ := hP
      have hW : pq_W D _ s.heap L f as [(m0, .inr (13, G9)), (ou, .inl (cy 2, 1, .inr (.inl g1))), (q2, .inr (4, F_q2)), (q4, .inr (4, F_q4)), (q6, .inr (4, F_q6)), (q15, .inl (cy 1, 96, .inl (fun _ => 0))), (q21, .inl (cy 1, 159, .inl (fun _ => 0))), (q23, .inr (9, F_q23)), (q24, .inl (cy 0, 1000, .inl (fun _ => 0))), (q27, .inr (9, F_q27)), (q39, .inr (6, F_q39)), (q48, .inr (0, F_q48)), (q61, .inr (5, F_q61)), (q100, .inr (1, F_q100)), (q114, .inl (cy 7, 9, .inr (.inr (.inr (.inr (fun j => if j < 9 then some (q114 + 1 + j) else none)))))), (q115, .inl (cy 1, 9, .inl (fun _ => 0))), (w13, .inl (cy 1, 8, .inl (fun _ => 0))), (w14, .inl (cy 1, 8, .inl (fun _ => 0))), (w15, .inl (cy 1, 8, .inl (fun _ => 0))), (w16, .inl (cy 1, 8, .inl (fun _ => 0))), (w17, .inl (cy 1, 8, .inl (fun _ => 0))), (w18, .inl (cy 1, 8, .inl (fun _ => 0))), (w19, .inl (cy 1, 8, .inl (fun _ => 0))), (w56, .inl (cy 0, 1000, .inl (fun _ => 0))), (w59, .inl (cy 1, 80, .inl (fun _ => 0))), (w115, .inl (cy 1, 8, .inl (fun _ => 0)))] H locs := hW
      refine lv_iload hx hb dL_law_1529 (lv_at hl 1 rfl) ?_
      refine lv_icmp_eq (tgt := 1536) hx hb dL_law_1531 (by decide) (fun _ => ?_) (fun c9 => absurd c9 (by decide))
      refine lv_iload hx hb dL_law_1536 (lv_at hl 1 rfl) ?_
      refine lv_if_ne (tgt := 1553) hx hb dL_law_1538 (by decide) (fun _ => ?_) (fun c9 => absurd c9 (by decide))
      refine lv_goto (tgt := 1897) hx hb dL_law_1553 (by decide) ?_
      exact law_tail K (lv_sub hl [2, 6] rfl) hW.S (Nat.le_of_ble_eq_true rfl) (Nat.le_of_ble_eq_true rfl)
    · exact absurd h1 h2
  · exact absurd trivial h1
