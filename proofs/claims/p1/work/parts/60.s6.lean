set_option maxHeartbeats 8000000 in
set_option maxRecDepth 100000 in
theorem law_switch {p : Program} {l : Launch} {e : Env} {s : State} {m : MethodId} {below : List Frame} {meth : Method} {c : Code} {b : Nat} {xs : Nat → Int32} {D : va_G} {cy : Nat → ClassId} {sa : Nat → Nat} {L as : List Nat} {f : Nat → va_E} {H : Heap} {locs : List Loc} {ls : Array Slot} {h0 m0 ou q1 q2 q4 q6 q8 q15 q21 q23 q24 q27 q28 q39 q48 q61 q100 q114 q115 w10 w13 w14 w15 w16 w17 w18 w19 w56 w59 w115 : Nat} {F_h0 F_q1 F_q2 F_q4 F_q6 F_q8 F_q23 F_q27 F_q39 F_q48 F_q61 F_q100 F_m0 : List Value} (K : lc_K p l s m meth c b xs D cy sa) (hW : pq_W D (fun q : Nat => s.heap.size ≤ q) s.heap L f as [(h0, .inr (12, F_h0)), (q1, .inr (8, F_q1)), (q2, .inr (4, F_q2)), (q4, .inr (4, F_q4)), (q6, .inr (4, F_q6)), (q8, .inr (4, F_q8)), (q15, .inl (cy 1, 96, .inl (fun _ => 0))), (q21, .inl (cy 1, 159, .inl (fun _ => 0))), (q23, .inr (9, F_q23)), (q24, .inl (cy 0, 1000, .inl (fun _ => 0))), (q27, .inr (9, F_q27)), (q39, .inr (6, F_q39)), (q48, .inr (0, F_q48)), (q61, .inr (5, F_q61)), (q100, .inr (1, F_q100)), (q114, .inl (cy 7, 9, .inr (.inr (.inr (.inr (fun j => if j < 9 then some (q114 + 1 + j) else none)))))), (q115, .inl (cy 1, 9, .inl (fun _ => 0))), (m0, .inr (13, F_m0)), (w13, .inl (cy 1, 8, .inl (fun _ => 0))), (w14, .inl (cy 1, 8, .inl (fun _ => 0))), (w15, .inl (cy 1, 8, .inl (fun _ => 0))), (w16, .inl (cy 1, 8, .inl (fun _ => 0))), (w17, .inl (cy 1, 8, .inl (fun _ => 0))), (w18, .inl (cy 1, 8, .inl (fun _ => 0))), (w19, .inl (cy 1, 8, .inl (fun _ => 0))), (w56, .inl (cy 0, 1000, .inl (fun _ => 0))), (w59, .inl (cy 1, 80, .inl (fun _ => 0))), (w115, .inl (cy 1, 8, .inl (fun _ => 0))), (ou, .inl (cy 2, 1, .inr (.inl (fun _ => 0))))] H locs) (E_h0 : pq_E 17 F_h0 [(0, .ref q1), (1, .ref q23), (2, .ref q27), (5, .ref q39), (6, .ref q48), (7, .ref q61), (10, .ref q100), (11, .ref q114), (12, .ref q115), (15, .int 0)]) (E_q1 : pq_E 21 F_q1 [(0, .ref q2), (1, .ref q4), (2, .ref q6), (3, .ref q8), (5, .int (-1)), (10, .ref q15), (13, .int 0), (17, .int 0), (18, .int 0), (19, .ref q21)]) (E_q2 : pq_E 2 F_q2 [(1, .int 0)]) (E_q4 : pq_E 2 F_q4 [(1, .int 0)]) (E_q6 : pq_E 2 F_q6 [(1, .int 0)]) (E_q8 : pq_E 2 F_q8 [(1, .int 0)]) (E_q23 : pq_E 10 F_q23 [(0, .ref q24), (1, .int 0), (5, .int 0), (6, .int 0), (7, .int 0)]) (E_q27 : pq_E 10 F_q27 [(0, .ref q28), (1, .int 0), (5, .int 0), (6, .int 0), (7, .int 0)]) (E_q39 : pq_E 19 F_q39 [(0, .ref q1), (1, .ref q23), (3, .int 0)]) (E_q48 : pq_E 22 F_q48 [(3, .int 0), (6, .int 0)]) (E_q61 : pq_E 19 F_q61 [(3, .int 0), (15, .int 0)]) (E_q100 : pq_E 19 F_q100 [(2, .int 0), (4, .int 0), (9, .int 0), (14, .int 0)]) (E_m0 : pq_E 229 F_m0 [(0, .int 0), (1, .int 0), (2, .int 0), (3, .int 0), (4, .int 0), (5, .int 0), (6, .int (-1)), (16, .ref w10), (19, .ref w13), (20, .ref w14), (21, .ref w15), (22, .ref w16), (23, .ref w17), (24, .ref w18), (25, .ref w19), (42, .int 0), (59, .int 0), (64, .int 0), (65, .ref w56), (68, .int 0), (69, .int 0), (70, .int 0), (71, .int 0), (72, .int 0), (73, .int 0), (74, .int 0), (75, .long 0), (76, .int 0), (79, .int 0), (97, .ref w59), (99, .int 0), (100, .int 0), (132, .int 0), (136, .int 0), (179, .int 0), (180, .int 0), (181, .long 0), (186, .int 0), (188, .int 0), (190, .ref w115), (201, .int 0), (206, .int 0), (211, .int 0)]) (hl : lv_has ls 8 [(4, .int 0), (3, .ref ou), (2, .ref m0), (1, .ref h0), (0, .ref b)]) (j : Nat) (hj : j < 32) : W p l e room_1 s m #[Value.ref b] below meth c H locs 284 1296537 (lw_Z below #[Value.ref b] s) (F0 m 40 ls [.int (nI j)]) := by
  obtain ⟨hx, hb, -⟩ := id K
  match j, hj with
  | 0, _ =>
    refine lv_tableIn (tgt := 176) hx hb dL_law_40 (by decide) (by decide) rfl (by decide) ?_
    exact law_case_0 K hW E_h0 E_q1 E_q2 E_q4 E_q6 E_q8 E_q23 E_q27 E_q39 E_q48 E_q61 E_q100 E_m0 hl
  | 1, _ =>
    refine lv_tableIn (tgt := 280) hx hb dL_law_40 (by decide) (by decide) rfl (by decide) ?_
    exact law_case_1 K hW E_h0 E_q1 E_q2 E_q4 E_q6 E_q8 E_q23 E_q27 E_q39 E_q48 E_q61 E_q100 E_m0 hl
  | 2, _ =>
    refine lv_tableIn (tgt := 336) hx hb dL_law_40 (by decide) (by decide) rfl (by decide) ?_
    exact law_case_2 K hW E_h0 E_q1 E_q2 E_q4 E_q6 E_q8 E_q23 E_q27 E_q39 E_q48 E_q61 E_q100 E_m0 hl
  | 3, _ =>
    refine lv_tableIn (tgt := 349) hx hb dL_law_40 (by decide) (by decide) rfl (by decide) ?_
    exact law_case_3 K hW E_h0 E_q1 E_q2 E_q4 E_q6 E_q8 E_q23 E_q27 E_q39 E_q48 E_q61 E_q100 E_m0 hl
  | 4, _ =>
    refine lv_tableIn (tgt := 362) hx hb dL_law_40 (by decide) (by decide) rfl (by decide) ?_
    exact law_case_4 K hW E_h0 E_q1 E_q2 E_q4 E_q6 E_q8 E_q23 E_q27 E_q39 E_q48 E_q61 E_q100 E_m0 hl
  | 5, _ =>
    refine lv_tableIn (tgt := 387) hx hb dL_law_40 (by decide) (by decide) rfl (by decide) ?_
    exact law_case_5 K hW E_h0 E_q1 E_q2 E_q4 E_q6 E_q8 E_q23 E_q27 E_q39 E_q48 E_q61 E_q100 E_m0 hl
  | 6, _ =>
    refine lv_tableIn (tgt := 455) hx hb dL_law_40 (by decide) (by decide) rfl (by decide) ?_
    exact law_case_6 K hW E_h0 E_q1 E_q2 E_q4 E_q6 E_q8 E_q23 E_q27 E_q39 E_q48 E_q61 E_q100 E_m0 hl
  | 7, _ =>
    refine lv_tableIn (tgt := 511) hx hb dL_law_40 (by decide) (by decide) rfl (by decide) ?_
    exact law_case_7 K hW E_h0 E_q1 E_q2 E_q4 E_q6 E_q8 E_q23 E_q27 E_q39 E_q48 E_q61 E_q100 E_m0 hl
  | 8, _ =>
    refine lv_tableIn (tgt := 567) hx hb dL_law_40 (by decide) (by decide) rfl (by decide) ?_
    exact law_case_8 K hW E_h0 E_q1 E_q2 E_q4 E_q6 E_q8 E_q23 E_q27 E_q39 E_q48 E_q61 E_q100 E_m0 hl
  | 9, _ =>
    refine lv_tableIn (tgt := 635) hx hb dL_law_40 (by decide) (by decide) rfl (by decide) ?_
    exact law_case_9 K hW E_h0 E_q1 E_q2 E_q4 E_q6 E_q8 E_q23 E_q27 E_q39 E_q48 E_q61 E_q100 E_m0 hl
  | 10, _ =>
    refine lv_tableIn (tgt := 715) hx hb dL_law_40 (by decide) (by decide) rfl (by decide) ?_
    exact law_case_10 K hW E_h0 E_q1 E_q2 E_q4 E_q6 E_q8 E_q23 E_q27 E_q39 E_q48 E_q61 E_q100 E_m0 hl
  | 11, _ =>
    refine lv_tableIn (tgt := 771) hx hb dL_law_40 (by decide) (by decide) rfl (by decide) ?_
    exact law_case_11 K hW E_h0 E_q1 E_q2 E_q4 E_q6 E_q8 E_q23 E_q27 E_q39 E_q48 E_q61 E_q100 E_m0 hl
  | 12, _ =>
    refine lv_tableIn (tgt := 839) hx hb dL_law_40 (by decide) (by decide) rfl (by decide) ?_
    exact law_case_12 K hW E_h0 E_q1 E_q2 E_q4 E_q6 E_q8 E_q23 E_q27 E_q39 E_q48 E_q61 E_q100 E_m0 hl
  | 13, _ =>
    refine lv_tableIn (tgt := 907) hx hb dL_law_40 (by decide) (by decide) rfl (by decide) ?_
    exact law_case_13 K hW E_h0 E_q1 E_q2 E_q4 E_q6 E_q8 E_q23 E_q27 E_q39 E_q48 E_q61 E_q100 E_m0 hl
  | 14, _ =>
    refine lv_tableIn (tgt := 921) hx hb dL_law_40 (by decide) (by decide) rfl (by decide) ?_
    exact law_case_14 K hW E_h0 E_q1 E_q2 E_q4 E_q6 E_q8 E_q23 E_q27 E_q39 E_q48 E_q61 E_q100 E_m0 hl
  | 15, _ =>
    refine lv_tableIn (tgt := 1004) hx hb dL_law_40 (by decide) (by decide) rfl (by decide) ?_
    exact law_case_15 K hW E_h0 E_q1 E_q2 E_q4 E_q6 E_q8 E_q23 E_q27 E_q39 E_q48 E_q61 E_q100 E_m0 hl
  | 16, _ =>
    refine lv_tableIn (tgt := 1029) hx hb dL_law_40 (by decide) (by decide) rfl (by decide) ?_
    exact law_case_16 K hW E_h0 E_q1 E_q2 E_q4 E_q6 E_q8 E_q23 E_q27 E_q39 E_q48 E_q61 E_q100 E_m0 hl
  | 17, _ =>
    refine lv_tableIn (tgt := 1097) hx hb dL_law_40 (by decide) (by decide) rfl (by decide) ?_
    exact law_case_17 K hW E_h0 E_q1 E_q2 E_q4 E_q6 E_q8 E_q23 E_q27 E_q39 E_q48 E_q61 E_q100 E_m0 hl
  | 18, _ =>
    refine lv_tableIn (tgt := 1153) hx hb dL_law_40 (by decide) (by decide) rfl (by decide) ?_
    exact law_case_18 K hW E_h0 E_q1 E_q2 E_q4 E_q6 E_q8 E_q23 E_q27 E_q39 E_q48 E_q61 E_q100 E_m0 hl
  | 19, _ =>
    refine lv_tableIn (tgt := 1209) hx hb dL_law_40 (by decide) (by decide) rfl (by decide) ?_
    exact law_case_19 K hW E_h0 E_q1 E_q2 E_q4 E_q6 E_q8 E_q23 E_q27 E_q39 E_q48 E_q61 E_q100 E_m0 hl
  | 20, _ =>
    refine lv_tableIn (tgt := 1284) hx hb dL_law_40 (by decide) (by decide) rfl (by decide) ?_
    exact law_case_20 K hW E_h0 E_q1 E_q2 E_q4 E_q6 E_q8 E_q23 E_q27 E_q39 E_q48 E_q61 E_q100 E_m0 hl
  | 21, _ =>
    refine lv_tableIn (tgt := 1364) hx hb dL_law_40 (by decide) (by decide) rfl (by decide) ?_
    exact law_case_21 K hW E_h0 E_q1 E_q2 E_q4 E_q6 E_q8 E_q23 E_q27 E_q39 E_q48 E_q61 E_q100 E_m0 hl
  | 22, _ =>
    refine lv_tableIn (tgt := 1420) hx hb dL_law_40 (by decide) (by decide) rfl (by decide) ?_
    exact law_case_22 K hW E_h0 E_q1 E_q2 E_q4 E_q6 E_q8 E_q23 E_q27 E_q39 E_q48 E_q61 E_q100 E_m0 hl
  | 23, _ =>
    refine lv_tableIn (tgt := 1476) hx hb dL_law_40 (by decide) (by decide) rfl (by decide) ?_
    exact law_case_23 K hW E_h0 E_q1 E_q2 E_q4 E_q6 E_q8 E_q23 E_q27 E_q39 E_q48 E_q61 E_q100 E_m0 hl
  | 24, _ =>
    refine lv_tableIn (tgt := 1556) hx hb dL_law_40 (by decide) (by decide) rfl (by decide) ?_
    exact law_case_24 K hW E_h0 E_q1 E_q2 E_q4 E_q6 E_q8 E_q23 E_q27 E_q39 E_q48 E_q61 E_q100 E_m0 hl
  | 25, _ =>
    refine lv_tableIn (tgt := 1581) hx hb dL_law_40 (by decide) (by decide) rfl (by decide) ?_
    exact law_case_25 K hW E_h0 E_q1 E_q2 E_q4 E_q6 E_q8 E_q23 E_q27 E_q39 E_q48 E_q61 E_q100 E_m0 hl
  | 26, _ =>
    refine lv_tableIn (tgt := 1637) hx hb dL_law_40 (by decide) (by decide) rfl (by decide) ?_
    exact law_case_26 K hW E_h0 E_q1 E_q2 E_q4 E_q6 E_q8 E_q23 E_q27 E_q39 E_q48 E_q61 E_q100 E_m0 hl
  | 27, _ =>
    refine lv_tableIn (tgt := 1693) hx hb dL_law_40 (by decide) (by decide) rfl (by decide) ?_
    exact law_case_27 K hW E_h0 E_q1 E_q2 E_q4 E_q6 E_q8 E_q23 E_q27 E_q39 E_q48 E_q61 E_q100 E_m0 hl
  | 28, _ =>
    refine lv_tableIn (tgt := 1761) hx hb dL_law_40 (by decide) (by decide) rfl (by decide) ?_
    exact law_case_28 K hW E_h0 E_q1 E_q2 E_q4 E_q6 E_q8 E_q23 E_q27 E_q39 E_q48 E_q61 E_q100 E_m0 hl
  | 29, _ =>
    refine lv_tableIn (tgt := 1829) hx hb dL_law_40 (by decide) (by decide) rfl (by decide) ?_
    exact law_case_29 K hW E_h0 E_q1 E_q2 E_q4 E_q6 E_q8 E_q23 E_q27 E_q39 E_q48 E_q61 E_q100 E_m0 hl
  | 30, _ =>
    refine lv_tableOut (tgt := 1897) hx hb dL_law_40 (by decide) (by decide) ?_
    exact law_tail K (lv_sub hl [0, 4] rfl) hW.S (Nat.le_of_ble_eq_true rfl) (Nat.le_of_ble_eq_true rfl)
  | 31, _ =>
    refine lv_tableOut (tgt := 1897) hx hb dL_law_40 (by decide) (by decide) ?_
    exact law_tail K (lv_sub hl [0, 4] rfl) hW.S (Nat.le_of_ble_eq_true rfl) (Nat.le_of_ble_eq_true rfl)
  | k + 32, h => exact absurd h (by omega)
